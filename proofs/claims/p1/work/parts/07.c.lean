theorem zgV_X6_369 : ((vx_atS RX6 369 "java/lang/IndexOutOfBoundsException" ["java/lang/RuntimeException", "java/lang/Exception"]).filter goodWord).all goodWord = true := by decide +kernel
theorem dX6_heat_0 : decode cX6_heat 0 = .ok (.aload_n 0, 1) := by decide +kernel
theorem dX6_heat_1 : decode cX6_heat 1 = .ok (.iload_n 1, 1) := by decide +kernel
theorem dX6_heat_2 : decode cX6_heat 2 = .ok (.invokevirtual 169, 3) := by decide +kernel
def wzEX6_heat : List Cond := [.code yX6_heat cX6_heat 4 (some .int), .methodLink RX6 169 yX6_findPiece, .instanceMethod yX6_findPiece, .selects RX6 yX6_findPiece yX6_findPiece, .initialized RX6, .code yX6_findPiece cX6_findPiece 3 (some (.object "Gatherhouse$Piece")), .classLink RX6 365 "java/lang/IndexOutOfBoundsException", .initialized "java/lang/IndexOutOfBoundsException", .fieldLink RX6 30 "Gatherhouse" "pieces" "[LGatherhouse$Piece;"]
def wzX6_heat : List Cond := wzEX6_heat ++ (u_ws RX6 TX6 16 ++ ((vx_atS RX6 369 "java/lang/IndexOutOfBoundsException" ["java/lang/RuntimeException", "java/lang/Exception"]).filter goodWord))
theorem zgEX6_heat : wzEX6_heat.all goodWord = true := by decide +kernel
theorem zuX6_heat_X6 : ∀ w ∈ u_ws RX6 TX6 16, w ∈ wzX6_heat := (fun _ h => (List.mem_append_right _ (List.mem_append_left _ h)))
theorem ztX6_heat_X6_369 : ∀ w ∈ (vx_atS RX6 369 "java/lang/IndexOutOfBoundsException" ["java/lang/RuntimeException", "java/lang/Exception"]).filter goodWord, w ∈ wzX6_heat := (fun _ h => (List.mem_append_right _ (List.mem_append_right _ h)))
theorem gzX6_heat_X6_findPiece_169 : GoodIn wzX6_heat (wsV RX6 169 RX6 yX6_findPiece wzX6_findPiece) := (goodIn_app (z_lift (goodIn_r _ [1, 2, 3, 4] rfl (by decide +kernel))) (goodIn_app (z_lift (goodIn_r wzEX6_findPiece [5, 6, 7, 8] rfl zgEX6_findPiece)) (goodIn_app (goodIn_sub (fun _ h => (List.mem_append_right _ (List.mem_append_left _ h))) zgU_X6) (goodIn_sub (fun _ h => (List.mem_append_right _ (List.mem_append_right _ h))) zgV_X6_369))))
set_option maxHeartbeats 4000000 in
set_option maxRecDepth 100000 in
theorem zc_X6_heat (l : Launch) (hnt : l.stackTraces = false) (D : va_G) (G : Nat × Nat × Nat) (xo : Nat) (xg : Nat) (xp : Nat) (xq : Nat) (r1 : Nat) (r2 : Nat) (r3 : Nat) (r4 : Nat) (se : Nat) (ts : Int32) (hq : Int32) (cq : ClassId) (ii : Int32) (jj : Int32) (sz : Nat) : vx_Met l yX6_heat wzX6_heat ({ frames := 7, cells := 1, slots := 6, locals := 104 }) (va_Pc [.ref xo, .int ii, .int jj] (p_RW D G [(cq, .object "Gatherhouse$Piece")] [(xo, .inr (11, [.ref xg, .int 0, .ref xp, .int 0, .ref xq, .int 0, .ref r1, .ref r2, .ref r3, .ref r4, .ref se, .int ts, .int hq, .int 40, .int 0, .int 0])), (xq, .inl (cq, 16, .inr (.inr (.inr (.inr (fun _ => none))))))] sz)) (va_Qi (fun (r : Int32) (u : Unit) => False) (fun (u : Unit) (t : State) => True) (va_A [(xo, .inr (11, [.ref xg, .int 0, .ref xp, .int 0, .ref xq, .int 0, .ref r1, .ref r2, .ref r3, .ref r4, .ref se, .int ts, .int hq, .int 40, .int 0, .int 0])), (xq, .inl (cq, 16, .inr (.inr (.inr (.inr (fun _ => none))))))] sz)) (vx_X (fun (_ : Unit) => True) (fun E (_ : Unit) (_ : State) => (E = "java/lang/IndexOutOfBoundsException")) (va_A [(xo, .inr (11, [.ref xg, .int 0, .ref xp, .int 0, .ref xq, .int 0, .ref r1, .ref r2, .ref r3, .ref r4, .ref se, .int ts, .int hq, .int 40, .int 0, .int 0])), (xq, .inl (cq, 16, .inr (.inr (.inr (.inr (fun _ => none))))))] sz)) 1 6 (va_A [(xo, .inr (11, [.ref xg, .int 0, .ref xp, .int 0, .ref xq, .int 0, .ref r1, .ref r2, .ref r3, .ref r4, .ref se, .int ts, .int hq, .int 40, .int 0, .int 0])), (xq, .inl (cq, 16, .inr (.inr (.inr (.inr (fun _ => none))))))] sz) := by
  refine vx_ofW (cc := cX6_heat) (maxL := 4) (ret := (some .int)) (by decide) rfl ?_
  intro p e s m args below meth c s₁ B hml hxt hv
  obtain ⟨rfl, hsz, hP, hK, hD0, hT, hZ⟩ := hv
  have hx := B.exec
  have hb := B.bytes
  have hr := B.returns
  have hts := atoms_spec (ws := wzX6_heat) B.pre
  have hown : s.vm.findClass RX6 = some m.cls := findClass_of_methodNamed B.named
  have hlocks := B.notSynchronized
  subst hsz
  have hD := hD0.self (sz := s.heap.size)
  generalize hAe : va_A [(xo, .inr (11, [.ref xg, .int 0, .ref xp, .int 0, .ref xq, .int 0, .ref r1, .ref r2, .ref r3, .ref r4, .ref se, .int ts, .int hq, .int 40, .int 0, .int 0])), (xq, .inl (cq, 16, .inr (.inr (.inr (.inr (fun _ => none))))))] s.heap.size = A at hD hZ ⊢
  have hA : ∀ q : Nat, s.heap.size ≤ q → A q := fun q h => by rw [← hAe]; exact Or.inr h
  have hS : va_S A s.heap s.heap [] := va_S.rf
  have hl := lv_entry ([.ref xo, .int ii, .int jj]) (n := 4) (Nat.le_of_ble_eq_true rfl)
  rw [lg_entry_eq]
  generalize (lg_sl ([.ref xo, .int ii, .int jj]) ++ List.replicate (4 - (lg_sl ([.ref xo, .int ii, .int jj])).length) Slot.unset).toArray = ls at hl ⊢
  have hl : lv_has ls 4 [(0, .ref xo), (1, .int ii), (2, .int jj)] := hl
  refine lv_aload_n hx hb dX6_heat_0 rfl (lv_at hl 0 rfl) ?_
  refine lv_iload_n hx hb dX6_heat_1 rfl (lv_at hl 1 rfl) ?_
  have hFc := va_free (wc := [(xo, .inr (11, [.ref xg, .int 0, .ref xp, .int 0, .ref xq, .int 0, .ref r1, .ref r2, .ref r3, .ref r4, .ref se, .int ts, .int hq, .int 40, .int 0, .int 0])), (xq, .inl (cq, 16, .inr (.inr (.inr (.inr (fun _ => none))))))]) hD hS hA [0, 1] rfl
  refine vx_callq (vx_runV (As := [.int ii]) (rest := []) ⟨hx, hb, hml, hown, hts⟩ (zc_X6_findPiece l hnt D G xo xg xp xq r1 r2 r3 r4 se ts hq cq ii s.heap.size) (cwV 1 hts gzX6_heat_X6_findPiece_169 rfl rfl rfl (by decide +kernel) ⟨(Nat.le_of_ble_eq_true rfl), (Nat.le_of_ble_eq_true rfl)⟩) ⟨p_RW_blind, va_recv hK hP (ci := 11) (q0 := 0) rfl rfl, (p_RW_at (tc := [(cq, .object "Gatherhouse$Piece")]) (wc := [(xo, .inr (11, [.ref xg, .int 0, .ref xp, .int 0, .ref xq, .int 0, .ref r1, .ref r2, .ref r3, .ref r4, .ref se, .int ts, .int hq, .int 40, .int 0, .int 0])), (xq, .inl (cq, 16, .inr (.inr (.inr (.inr (fun _ => none))))))]) hP hK hD hS hA hT hZ [0, 1] [0] rfl rfl (by decide) rfl [.ref xo, .int ii])⟩ rfl rfl hl.1 rfl (lv_room (Nat.le_of_ble_eq_true rfl)) dX6_heat_2 ⟨(Nat.le_of_ble_eq_true rfl), (Nat.le_of_ble_eq_true rfl)⟩) hS (fun q _ h => hFc q h) hFc (fun q _ h => hFc q h) (fun E ce q9 u t H locs ht hvm hpx hBX hz1 hk1 hS hce hcv hcl => ?_) (fun r_122 u t H locs ht hvm w_123 hB hz1 hk1 hS => ?_)
  · have hBX : (E = "java/lang/IndexOutOfBoundsException") := hBX
    rcases hBX with rfl
    exact vx_out (fun x h => (hxt x h).elim) hlocks hce hcv hcl (fun t ht _ => ⟨(), trivial, rfl, hS.F ht⟩) hS.2.2 (Nat.le_of_ble_eq_true rfl) (Nat.le_of_ble_eq_true rfl)
  · exact w_123.elim
theorem dX6_blow_0 : decode cX6_blow 0 = .ok (.aload_n 0, 1) := by decide +kernel
theorem dX6_blow_1 : decode cX6_blow 1 = .ok (.iload_n 1, 1) := by decide +kernel
theorem dX6_blow_2 : decode cX6_blow 2 = .ok (.invokevirtual 169, 3) := by decide +kernel
def wzEX6_blow : List Cond := [.code yX6_blow cX6_blow 7 (some .int), .methodLink RX6 169 yX6_findPiece, .instanceMethod yX6_findPiece, .selects RX6 yX6_findPiece yX6_findPiece, .initialized RX6, .code yX6_findPiece cX6_findPiece 3 (some (.object "Gatherhouse$Piece")), .classLink RX6 365 "java/lang/IndexOutOfBoundsException", .initialized "java/lang/IndexOutOfBoundsException", .fieldLink RX6 30 "Gatherhouse" "pieces" "[LGatherhouse$Piece;"]
def wzX6_blow : List Cond := wzEX6_blow ++ (u_ws RX6 TX6 16 ++ ((vx_atS RX6 369 "java/lang/IndexOutOfBoundsException" ["java/lang/RuntimeException", "java/lang/Exception"]).filter goodWord))
theorem zgEX6_blow : wzEX6_blow.all goodWord = true := by decide +kernel
theorem zuX6_blow_X6 : ∀ w ∈ u_ws RX6 TX6 16, w ∈ wzX6_blow := (fun _ h => (List.mem_append_right _ (List.mem_append_left _ h)))
theorem ztX6_blow_X6_369 : ∀ w ∈ (vx_atS RX6 369 "java/lang/IndexOutOfBoundsException" ["java/lang/RuntimeException", "java/lang/Exception"]).filter goodWord, w ∈ wzX6_blow := (fun _ h => (List.mem_append_right _ (List.mem_append_right _ h)))
theorem gzX6_blow_X6_findPiece_169 : GoodIn wzX6_blow (wsV RX6 169 RX6 yX6_findPiece wzX6_findPiece) := (goodIn_app (z_lift (goodIn_r _ [1, 2, 3, 4] rfl (by decide +kernel))) (goodIn_app (z_lift (goodIn_r wzEX6_findPiece [5, 6, 7, 8] rfl zgEX6_findPiece)) (goodIn_app (goodIn_sub (fun _ h => (List.mem_append_right _ (List.mem_append_left _ h))) zgU_X6) (goodIn_sub (fun _ h => (List.mem_append_right _ (List.mem_append_right _ h))) zgV_X6_369))))
set_option maxHeartbeats 4000000 in
set_option maxRecDepth 100000 in
theorem zc_X6_blow (l : Launch) (hnt : l.stackTraces = false) (D : va_G) (G : Nat × Nat × Nat) (xo : Nat) (xg : Nat) (xp : Nat) (xq : Nat) (r1 : Nat) (r2 : Nat) (r3 : Nat) (r4 : Nat) (se : Nat) (ts : Int32) (hq : Int32) (cq : ClassId) (ii : Int32) (jj : Int32) (kk : Int32) (sz : Nat) : vx_Met l yX6_blow wzX6_blow ({ frames := 7, cells := 1, slots := 6, locals := 104 }) (va_Pc [.ref xo, .int ii, .int jj, .int kk] (p_RW D G [(cq, .object "Gatherhouse$Piece")] [(xo, .inr (11, [.ref xg, .int 0, .ref xp, .int 0, .ref xq, .int 0, .ref r1, .ref r2, .ref r3, .ref r4, .ref se, .int ts, .int hq, .int 40, .int 0, .int 0])), (xq, .inl (cq, 16, .inr (.inr (.inr (.inr (fun _ => none))))))] sz)) (va_Qi (fun (r : Int32) (u : Unit) => False) (fun (u : Unit) (t : State) => True) (va_A [(xo, .inr (11, [.ref xg, .int 0, .ref xp, .int 0, .ref xq, .int 0, .ref r1, .ref r2, .ref r3, .ref r4, .ref se, .int ts, .int hq, .int 40, .int 0, .int 0])), (xq, .inl (cq, 16, .inr (.inr (.inr (.inr (fun _ => none))))))] sz)) (vx_X (fun (_ : Unit) => True) (fun E (_ : Unit) (_ : State) => (E = "java/lang/IndexOutOfBoundsException")) (va_A [(xo, .inr (11, [.ref xg, .int 0, .ref xp, .int 0, .ref xq, .int 0, .ref r1, .ref r2, .ref r3, .ref r4, .ref se, .int ts, .int hq, .int 40, .int 0, .int 0])), (xq, .inl (cq, 16, .inr (.inr (.inr (.inr (fun _ => none))))))] sz)) 1 6 (va_A [(xo, .inr (11, [.ref xg, .int 0, .ref xp, .int 0, .ref xq, .int 0, .ref r1, .ref r2, .ref r3, .ref r4, .ref se, .int ts, .int hq, .int 40, .int 0, .int 0])), (xq, .inl (cq, 16, .inr (.inr (.inr (.inr (fun _ => none))))))] sz) := by
  refine vx_ofW (cc := cX6_blow) (maxL := 7) (ret := (some .int)) (by decide) rfl ?_
  intro p e s m args below meth c s₁ B hml hxt hv
  obtain ⟨rfl, hsz, hP, hK, hD0, hT, hZ⟩ := hv
  have hx := B.exec
  have hb := B.bytes
  have hr := B.returns
  have hts := atoms_spec (ws := wzX6_blow) B.pre
  have hown : s.vm.findClass RX6 = some m.cls := findClass_of_methodNamed B.named
  have hlocks := B.notSynchronized
  subst hsz
  have hD := hD0.self (sz := s.heap.size)
  generalize hAe : va_A [(xo, .inr (11, [.ref xg, .int 0, .ref xp, .int 0, .ref xq, .int 0, .ref r1, .ref r2, .ref r3, .ref r4, .ref se, .int ts, .int hq, .int 40, .int 0, .int 0])), (xq, .inl (cq, 16, .inr (.inr (.inr (.inr (fun _ => none))))))] s.heap.size = A at hD hZ ⊢
  have hA : ∀ q : Nat, s.heap.size ≤ q → A q := fun q h => by rw [← hAe]; exact Or.inr h
  have hS : va_S A s.heap s.heap [] := va_S.rf
  have hl := lv_entry ([.ref xo, .int ii, .int jj, .int kk]) (n := 7) (Nat.le_of_ble_eq_true rfl)
  rw [lg_entry_eq]
  generalize (lg_sl ([.ref xo, .int ii, .int jj, .int kk]) ++ List.replicate (7 - (lg_sl ([.ref xo, .int ii, .int jj, .int kk])).length) Slot.unset).toArray = ls at hl ⊢
  have hl : lv_has ls 7 [(0, .ref xo), (1, .int ii), (2, .int jj), (3, .int kk)] := hl
  refine lv_aload_n hx hb dX6_blow_0 rfl (lv_at hl 0 rfl) ?_
  refine lv_iload_n hx hb dX6_blow_1 rfl (lv_at hl 1 rfl) ?_
  have hFc := va_free (wc := [(xo, .inr (11, [.ref xg, .int 0, .ref xp, .int 0, .ref xq, .int 0, .ref r1, .ref r2, .ref r3, .ref r4, .ref se, .int ts, .int hq, .int 40, .int 0, .int 0])), (xq, .inl (cq, 16, .inr (.inr (.inr (.inr (fun _ => none))))))]) hD hS hA [0, 1] rfl
  refine vx_callq (vx_runV (As := [.int ii]) (rest := []) ⟨hx, hb, hml, hown, hts⟩ (zc_X6_findPiece l hnt D G xo xg xp xq r1 r2 r3 r4 se ts hq cq ii s.heap.size) (cwV 1 hts gzX6_blow_X6_findPiece_169 rfl rfl rfl (by decide +kernel) ⟨(Nat.le_of_ble_eq_true rfl), (Nat.le_of_ble_eq_true rfl)⟩) ⟨p_RW_blind, va_recv hK hP (ci := 11) (q0 := 0) rfl rfl, (p_RW_at (tc := [(cq, .object "Gatherhouse$Piece")]) (wc := [(xo, .inr (11, [.ref xg, .int 0, .ref xp, .int 0, .ref xq, .int 0, .ref r1, .ref r2, .ref r3, .ref r4, .ref se, .int ts, .int hq, .int 40, .int 0, .int 0])), (xq, .inl (cq, 16, .inr (.inr (.inr (.inr (fun _ => none))))))]) hP hK hD hS hA hT hZ [0, 1] [0] rfl rfl (by decide) rfl [.ref xo, .int ii])⟩ rfl rfl hl.1 rfl (lv_room (Nat.le_of_ble_eq_true rfl)) dX6_blow_2 ⟨(Nat.le_of_ble_eq_true rfl), (Nat.le_of_ble_eq_true rfl)⟩) hS (fun q _ h => hFc q h) hFc (fun q _ h => hFc q h) (fun E ce q9 u t H locs ht hvm hpx hBX hz1 hk1 hS hce hcv hcl => ?_) (fun r_124 u t H locs ht hvm w_125 hB hz1 hk1 hS => ?_)
  · have hBX : (E = "java/lang/IndexOutOfBoundsException") := hBX
    rcases hBX with rfl
    exact vx_out (fun x h => (hxt x h).elim) hlocks hce hcv hcl (fun t ht _ => ⟨(), trivial, rfl, hS.F ht⟩) hS.2.2 (Nat.le_of_ble_eq_true rfl) (Nat.le_of_ble_eq_true rfl)
  · exact w_125.elim
theorem dX6_swing_0 : decode cX6_swing 0 = .ok (.aload_n 0, 1) := by decide +kernel
theorem dX6_swing_1 : decode cX6_swing 1 = .ok (.iload_n 1, 1) := by decide +kernel
theorem dX6_swing_2 : decode cX6_swing 2 = .ok (.invokevirtual 169, 3) := by decide +kernel
def wzEX6_swing : List Cond := [.code yX6_swing cX6_swing 7 (some .int), .methodLink RX6 169 yX6_findPiece, .instanceMethod yX6_findPiece, .selects RX6 yX6_findPiece yX6_findPiece, .initialized RX6, .code yX6_findPiece cX6_findPiece 3 (some (.object "Gatherhouse$Piece")), .classLink RX6 365 "java/lang/IndexOutOfBoundsException", .initialized "java/lang/IndexOutOfBoundsException", .fieldLink RX6 30 "Gatherhouse" "pieces" "[LGatherhouse$Piece;"]
def wzX6_swing : List Cond := wzEX6_swing ++ (u_ws RX6 TX6 16 ++ ((vx_atS RX6 369 "java/lang/IndexOutOfBoundsException" ["java/lang/RuntimeException", "java/lang/Exception"]).filter goodWord))
theorem zgEX6_swing : wzEX6_swing.all goodWord = true := by decide +kernel
theorem zuX6_swing_X6 : ∀ w ∈ u_ws RX6 TX6 16, w ∈ wzX6_swing := (fun _ h => (List.mem_append_right _ (List.mem_append_left _ h)))
theorem ztX6_swing_X6_369 : ∀ w ∈ (vx_atS RX6 369 "java/lang/IndexOutOfBoundsException" ["java/lang/RuntimeException", "java/lang/Exception"]).filter goodWord, w ∈ wzX6_swing := (fun _ h => (List.mem_append_right _ (List.mem_append_right _ h)))
theorem gzX6_swing_X6_findPiece_169 : GoodIn wzX6_swing (wsV RX6 169 RX6 yX6_findPiece wzX6_findPiece) := (goodIn_app (z_lift (goodIn_r _ [1, 2, 3, 4] rfl (by decide +kernel))) (goodIn_app (z_lift (goodIn_r wzEX6_findPiece [5, 6, 7, 8] rfl zgEX6_findPiece)) (goodIn_app (goodIn_sub (fun _ h => (List.mem_append_right _ (List.mem_append_left _ h))) zgU_X6) (goodIn_sub (fun _ h => (List.mem_append_right _ (List.mem_append_right _ h))) zgV_X6_369))))
set_option maxHeartbeats 4000000 in
set_option maxRecDepth 100000 in
theorem zc_X6_swing (l : Launch) (hnt : l.stackTraces = false) (D : va_G) (G : Nat × Nat × Nat) (xo : Nat) (xg : Nat) (xp : Nat) (xq : Nat) (r1 : Nat) (r2 : Nat) (r3 : Nat) (r4 : Nat) (se : Nat) (ts : Int32) (hq : Int32) (cq : ClassId) (ii : Int32) (jj : Int32) (kk : Int32) (sz : Nat) : vx_Met l yX6_swing wzX6_swing ({ frames := 7, cells := 1, slots := 6, locals := 104 }) (va_Pc [.ref xo, .int ii, .int jj, .int kk] (p_RW D G [(cq, .object "Gatherhouse$Piece")] [(xo, .inr (11, [.ref xg, .int 0, .ref xp, .int 0, .ref xq, .int 0, .ref r1, .ref r2, .ref r3, .ref r4, .ref se, .int ts, .int hq, .int 40, .int 0, .int 0])), (xq, .inl (cq, 16, .inr (.inr (.inr (.inr (fun _ => none))))))] sz)) (va_Qi (fun (r : Int32) (u : Unit) => False) (fun (u : Unit) (t : State) => True) (va_A [(xo, .inr (11, [.ref xg, .int 0, .ref xp, .int 0, .ref xq, .int 0, .ref r1, .ref r2, .ref r3, .ref r4, .ref se, .int ts, .int hq, .int 40, .int 0, .int 0])), (xq, .inl (cq, 16, .inr (.inr (.inr (.inr (fun _ => none))))))] sz)) (vx_X (fun (_ : Unit) => True) (fun E (_ : Unit) (_ : State) => (E = "java/lang/IndexOutOfBoundsException")) (va_A [(xo, .inr (11, [.ref xg, .int 0, .ref xp, .int 0, .ref xq, .int 0, .ref r1, .ref r2, .ref r3, .ref r4, .ref se, .int ts, .int hq, .int 40, .int 0, .int 0])), (xq, .inl (cq, 16, .inr (.inr (.inr (.inr (fun _ => none))))))] sz)) 1 6 (va_A [(xo, .inr (11, [.ref xg, .int 0, .ref xp, .int 0, .ref xq, .int 0, .ref r1, .ref r2, .ref r3, .ref r4, .ref se, .int ts, .int hq, .int 40, .int 0, .int 0])), (xq, .inl (cq, 16, .inr (.inr (.inr (.inr (fun _ => none))))))] sz) := by
  refine vx_ofW (cc := cX6_swing) (maxL := 7) (ret := (some .int)) (by decide) rfl ?_
  intro p e s m args below meth c s₁ B hml hxt hv
  obtain ⟨rfl, hsz, hP, hK, hD0, hT, hZ⟩ := hv
  have hx := B.exec
  have hb := B.bytes
  have hr := B.returns
  have hts := atoms_spec (ws := wzX6_swing) B.pre
  have hown : s.vm.findClass RX6 = some m.cls := findClass_of_methodNamed B.named
  have hlocks := B.notSynchronized
  subst hsz
  have hD := hD0.self (sz := s.heap.size)
  generalize hAe : va_A [(xo, .inr (11, [.ref xg, .int 0, .ref xp, .int 0, .ref xq, .int 0, .ref r1, .ref r2, .ref r3, .ref r4, .ref se, .int ts, .int hq, .int 40, .int 0, .int 0])), (xq, .inl (cq, 16, .inr (.inr (.inr (.inr (fun _ => none))))))] s.heap.size = A at hD hZ ⊢
  have hA : ∀ q : Nat, s.heap.size ≤ q → A q := fun q h => by rw [← hAe]; exact Or.inr h
  have hS : va_S A s.heap s.heap [] := va_S.rf
  have hl := lv_entry ([.ref xo, .int ii, .int jj, .int kk]) (n := 7) (Nat.le_of_ble_eq_true rfl)
  rw [lg_entry_eq]
  generalize (lg_sl ([.ref xo, .int ii, .int jj, .int kk]) ++ List.replicate (7 - (lg_sl ([.ref xo, .int ii, .int jj, .int kk])).length) Slot.unset).toArray = ls at hl ⊢
  have hl : lv_has ls 7 [(0, .ref xo), (1, .int ii), (2, .int jj), (3, .int kk)] := hl
  refine lv_aload_n hx hb dX6_swing_0 rfl (lv_at hl 0 rfl) ?_
  refine lv_iload_n hx hb dX6_swing_1 rfl (lv_at hl 1 rfl) ?_
  have hFc := va_free (wc := [(xo, .inr (11, [.ref xg, .int 0, .ref xp, .int 0, .ref xq, .int 0, .ref r1, .ref r2, .ref r3, .ref r4, .ref se, .int ts, .int hq, .int 40, .int 0, .int 0])), (xq, .inl (cq, 16, .inr (.inr (.inr (.inr (fun _ => none))))))]) hD hS hA [0, 1] rfl
  refine vx_callq (vx_runV (As := [.int ii]) (rest := []) ⟨hx, hb, hml, hown, hts⟩ (zc_X6_findPiece l hnt D G xo xg xp xq r1 r2 r3 r4 se ts hq cq ii s.heap.size) (cwV 1 hts gzX6_swing_X6_findPiece_169 rfl rfl rfl (by decide +kernel) ⟨(Nat.le_of_ble_eq_true rfl), (Nat.le_of_ble_eq_true rfl)⟩) ⟨p_RW_blind, va_recv hK hP (ci := 11) (q0 := 0) rfl rfl, (p_RW_at (tc := [(cq, .object "Gatherhouse$Piece")]) (wc := [(xo, .inr (11, [.ref xg, .int 0, .ref xp, .int 0, .ref xq, .int 0, .ref r1, .ref r2, .ref r3, .ref r4, .ref se, .int ts, .int hq, .int 40, .int 0, .int 0])), (xq, .inl (cq, 16, .inr (.inr (.inr (.inr (fun _ => none))))))]) hP hK hD hS hA hT hZ [0, 1] [0] rfl rfl (by decide) rfl [.ref xo, .int ii])⟩ rfl rfl hl.1 rfl (lv_room (Nat.le_of_ble_eq_true rfl)) dX6_swing_2 ⟨(Nat.le_of_ble_eq_true rfl), (Nat.le_of_ble_eq_true rfl)⟩) hS (fun q _ h => hFc q h) hFc (fun q _ h => hFc q h) (fun E ce q9 u t H locs ht hvm hpx hBX hz1 hk1 hS hce hcv hcl => ?_) (fun r_126 u t H locs ht hvm w_127 hB hz1 hk1 hS => ?_)
  · have hBX : (E = "java/lang/IndexOutOfBoundsException") := hBX
    rcases hBX with rfl
    exact vx_out (fun x h => (hxt x h).elim) hlocks hce hcv hcl (fun t ht _ => ⟨(), trivial, rfl, hS.F ht⟩) hS.2.2 (Nat.le_of_ble_eq_true rfl) (Nat.le_of_ble_eq_true rfl)
  · exact w_127.elim
theorem dX6_neck_0 : decode cX6_neck 0 = .ok (.aload_n 0, 1) := by decide +kernel
theorem dX6_neck_1 : decode cX6_neck 1 = .ok (.iload_n 1, 1) := by decide +kernel
theorem dX6_neck_2 : decode cX6_neck 2 = .ok (.invokevirtual 169, 3) := by decide +kernel
def wzEX6_neck : List Cond := [.code yX6_neck cX6_neck 7 (some .int), .methodLink RX6 169 yX6_findPiece, .instanceMethod yX6_findPiece, .selects RX6 yX6_findPiece yX6_findPiece, .initialized RX6, .code yX6_findPiece cX6_findPiece 3 (some (.object "Gatherhouse$Piece")), .classLink RX6 365 "java/lang/IndexOutOfBoundsException", .initialized "java/lang/IndexOutOfBoundsException", .fieldLink RX6 30 "Gatherhouse" "pieces" "[LGatherhouse$Piece;"]
def wzX6_neck : List Cond := wzEX6_neck ++ (u_ws RX6 TX6 16 ++ ((vx_atS RX6 369 "java/lang/IndexOutOfBoundsException" ["java/lang/RuntimeException", "java/lang/Exception"]).filter goodWord))
theorem zgEX6_neck : wzEX6_neck.all goodWord = true := by decide +kernel
theorem zuX6_neck_X6 : ∀ w ∈ u_ws RX6 TX6 16, w ∈ wzX6_neck := (fun _ h => (List.mem_append_right _ (List.mem_append_left _ h)))
theorem ztX6_neck_X6_369 : ∀ w ∈ (vx_atS RX6 369 "java/lang/IndexOutOfBoundsException" ["java/lang/RuntimeException", "java/lang/Exception"]).filter goodWord, w ∈ wzX6_neck := (fun _ h => (List.mem_append_right _ (List.mem_append_right _ h)))
theorem gzX6_neck_X6_findPiece_169 : GoodIn wzX6_neck (wsV RX6 169 RX6 yX6_findPiece wzX6_findPiece) := (goodIn_app (z_lift (goodIn_r _ [1, 2, 3, 4] rfl (by decide +kernel))) (goodIn_app (z_lift (goodIn_r wzEX6_findPiece [5, 6, 7, 8] rfl zgEX6_findPiece)) (goodIn_app (goodIn_sub (fun _ h => (List.mem_append_right _ (List.mem_append_left _ h))) zgU_X6) (goodIn_sub (fun _ h => (List.mem_append_right _ (List.mem_append_right _ h))) zgV_X6_369))))
set_option maxHeartbeats 4000000 in
set_option maxRecDepth 100000 in
theorem zc_X6_neck (l : Launch) (hnt : l.stackTraces = false) (D : va_G) (G : Nat × Nat × Nat) (xo : Nat) (xg : Nat) (xp : Nat) (xq : Nat) (r1 : Nat) (r2 : Nat) (r3 : Nat) (r4 : Nat) (se : Nat) (ts : Int32) (hq : Int32) (cq : ClassId) (ii : Int32) (jj : Int32) (kk : Int32) (sz : Nat) : vx_Met l yX6_neck wzX6_neck ({ frames := 7, cells := 1, slots := 6, locals := 104 }) (va_Pc [.ref xo, .int ii, .int jj, .int kk] (p_RW D G [(cq, .object "Gatherhouse$Piece")] [(xo, .inr (11, [.ref xg, .int 0, .ref xp, .int 0, .ref xq, .int 0, .ref r1, .ref r2, .ref r3, .ref r4, .ref se, .int ts, .int hq, .int 40, .int 0, .int 0])), (xq, .inl (cq, 16, .inr (.inr (.inr (.inr (fun _ => none))))))] sz)) (va_Qi (fun (r : Int32) (u : Unit) => False) (fun (u : Unit) (t : State) => True) (va_A [(xo, .inr (11, [.ref xg, .int 0, .ref xp, .int 0, .ref xq, .int 0, .ref r1, .ref r2, .ref r3, .ref r4, .ref se, .int ts, .int hq, .int 40, .int 0, .int 0])), (xq, .inl (cq, 16, .inr (.inr (.inr (.inr (fun _ => none))))))] sz)) (vx_X (fun (_ : Unit) => True) (fun E (_ : Unit) (_ : State) => (E = "java/lang/IndexOutOfBoundsException")) (va_A [(xo, .inr (11, [.ref xg, .int 0, .ref xp, .int 0, .ref xq, .int 0, .ref r1, .ref r2, .ref r3, .ref r4, .ref se, .int ts, .int hq, .int 40, .int 0, .int 0])), (xq, .inl (cq, 16, .inr (.inr (.inr (.inr (fun _ => none))))))] sz)) 1 6 (va_A [(xo, .inr (11, [.ref xg, .int 0, .ref xp, .int 0, .ref xq, .int 0, .ref r1, .ref r2, .ref r3, .ref r4, .ref se, .int ts, .int hq, .int 40, .int 0, .int 0])), (xq, .inl (cq, 16, .inr (.inr (.inr (.inr (fun _ => none))))))] sz) := by
  refine vx_ofW (cc := cX6_neck) (maxL := 7) (ret := (some .int)) (by decide) rfl ?_
  intro p e s m args below meth c s₁ B hml hxt hv
  obtain ⟨rfl, hsz, hP, hK, hD0, hT, hZ⟩ := hv
  have hx := B.exec
  have hb := B.bytes
  have hr := B.returns
  have hts := atoms_spec (ws := wzX6_neck) B.pre
  have hown : s.vm.findClass RX6 = some m.cls := findClass_of_methodNamed B.named
  have hlocks := B.notSynchronized
  subst hsz
  have hD := hD0.self (sz := s.heap.size)
  generalize hAe : va_A [(xo, .inr (11, [.ref xg, .int 0, .ref xp, .int 0, .ref xq, .int 0, .ref r1, .ref r2, .ref r3, .ref r4, .ref se, .int ts, .int hq, .int 40, .int 0, .int 0])), (xq, .inl (cq, 16, .inr (.inr (.inr (.inr (fun _ => none))))))] s.heap.size = A at hD hZ ⊢
  have hA : ∀ q : Nat, s.heap.size ≤ q → A q := fun q h => by rw [← hAe]; exact Or.inr h
  have hS : va_S A s.heap s.heap [] := va_S.rf
  have hl := lv_entry ([.ref xo, .int ii, .int jj, .int kk]) (n := 7) (Nat.le_of_ble_eq_true rfl)
  rw [lg_entry_eq]
  generalize (lg_sl ([.ref xo, .int ii, .int jj, .int kk]) ++ List.replicate (7 - (lg_sl ([.ref xo, .int ii, .int jj, .int kk])).length) Slot.unset).toArray = ls at hl ⊢
  have hl : lv_has ls 7 [(0, .ref xo), (1, .int ii), (2, .int jj), (3, .int kk)] := hl
  refine lv_aload_n hx hb dX6_neck_0 rfl (lv_at hl 0 rfl) ?_
  refine lv_iload_n hx hb dX6_neck_1 rfl (lv_at hl 1 rfl) ?_
  have hFc := va_free (wc := [(xo, .inr (11, [.ref xg, .int 0, .ref xp, .int 0, .ref xq, .int 0, .ref r1, .ref r2, .ref r3, .ref r4, .ref se, .int ts, .int hq, .int 40, .int 0, .int 0])), (xq, .inl (cq, 16, .inr (.inr (.inr (.inr (fun _ => none))))))]) hD hS hA [0, 1] rfl
  refine vx_callq (vx_runV (As := [.int ii]) (rest := []) ⟨hx, hb, hml, hown, hts⟩ (zc_X6_findPiece l hnt D G xo xg xp xq r1 r2 r3 r4 se ts hq cq ii s.heap.size) (cwV 1 hts gzX6_neck_X6_findPiece_169 rfl rfl rfl (by decide +kernel) ⟨(Nat.le_of_ble_eq_true rfl), (Nat.le_of_ble_eq_true rfl)⟩) ⟨p_RW_blind, va_recv hK hP (ci := 11) (q0 := 0) rfl rfl, (p_RW_at (tc := [(cq, .object "Gatherhouse$Piece")]) (wc := [(xo, .inr (11, [.ref xg, .int 0, .ref xp, .int 0, .ref xq, .int 0, .ref r1, .ref r2, .ref r3, .ref r4, .ref se, .int ts, .int hq, .int 40, .int 0, .int 0])), (xq, .inl (cq, 16, .inr (.inr (.inr (.inr (fun _ => none))))))]) hP hK hD hS hA hT hZ [0, 1] [0] rfl rfl (by decide) rfl [.ref xo, .int ii])⟩ rfl rfl hl.1 rfl (lv_room (Nat.le_of_ble_eq_true rfl)) dX6_neck_2 ⟨(Nat.le_of_ble_eq_true rfl), (Nat.le_of_ble_eq_true rfl)⟩) hS (fun q _ h => hFc q h) hFc (fun q _ h => hFc q h) (fun E ce q9 u t H locs ht hvm hpx hBX hz1 hk1 hS hce hcv hcl => ?_) (fun r_128 u t H locs ht hvm w_129 hB hz1 hk1 hS => ?_)
  · have hBX : (E = "java/lang/IndexOutOfBoundsException") := hBX
    rcases hBX with rfl
    exact vx_out (fun x h => (hxt x h).elim) hlocks hce hcv hcl (fun t ht _ => ⟨(), trivial, rfl, hS.F ht⟩) hS.2.2 (Nat.le_of_ble_eq_true rfl) (Nat.le_of_ble_eq_true rfl)
  · exact w_129.elim
theorem dX6_split_0 : decode cX6_split 0 = .ok (.aload_n 0, 1) := by decide +kernel
theorem dX6_split_1 : decode cX6_split 1 = .ok (.iload_n 1, 1) := by decide +kernel
theorem dX6_split_2 : decode cX6_split 2 = .ok (.invokevirtual 169, 3) := by decide +kernel
def wzEX6_split : List Cond := [.code yX6_split cX6_split 6 (some .int), .methodLink RX6 169 yX6_findPiece, .instanceMethod yX6_findPiece, .selects RX6 yX6_findPiece yX6_findPiece, .initialized RX6, .code yX6_findPiece cX6_findPiece 3 (some (.object "Gatherhouse$Piece")), .classLink RX6 365 "java/lang/IndexOutOfBoundsException", .initialized "java/lang/IndexOutOfBoundsException", .fieldLink RX6 30 "Gatherhouse" "pieces" "[LGatherhouse$Piece;"]
def wzX6_split : List Cond := wzEX6_split ++ (u_ws RX6 TX6 16 ++ ((vx_atS RX6 369 "java/lang/IndexOutOfBoundsException" ["java/lang/RuntimeException", "java/lang/Exception"]).filter goodWord))
theorem zgEX6_split : wzEX6_split.all goodWord = true := by decide +kernel
theorem zuX6_split_X6 : ∀ w ∈ u_ws RX6 TX6 16, w ∈ wzX6_split := (fun _ h => (List.mem_append_right _ (List.mem_append_left _ h)))
theorem ztX6_split_X6_369 : ∀ w ∈ (vx_atS RX6 369 "java/lang/IndexOutOfBoundsException" ["java/lang/RuntimeException", "java/lang/Exception"]).filter goodWord, w ∈ wzX6_split := (fun _ h => (List.mem_append_right _ (List.mem_append_right _ h)))
theorem gzX6_split_X6_findPiece_169 : GoodIn wzX6_split (wsV RX6 169 RX6 yX6_findPiece wzX6_findPiece) := (goodIn_app (z_lift (goodIn_r _ [1, 2, 3, 4] rfl (by decide +kernel))) (goodIn_app (z_lift (goodIn_r wzEX6_findPiece [5, 6, 7, 8] rfl zgEX6_findPiece)) (goodIn_app (goodIn_sub (fun _ h => (List.mem_append_right _ (List.mem_append_left _ h))) zgU_X6) (goodIn_sub (fun _ h => (List.mem_append_right _ (List.mem_append_right _ h))) zgV_X6_369))))
set_option maxHeartbeats 4000000 in
set_option maxRecDepth 100000 in
theorem zc_X6_split (l : Launch) (hnt : l.stackTraces = false) (D : va_G) (G : Nat × Nat × Nat) (xo : Nat) (xg : Nat) (xp : Nat) (xq : Nat) (r1 : Nat) (r2 : Nat) (r3 : Nat) (r4 : Nat) (se : Nat) (ts : Int32) (hq : Int32) (cq : ClassId) (ii : Int32) (jj : Int32) (sz : Nat) : vx_Met l yX6_split wzX6_split ({ frames := 7, cells := 1, slots := 6, locals := 104 }) (va_Pc [.ref xo, .int ii, .int jj] (p_RW D G [(cq, .object "Gatherhouse$Piece")] [(xo, .inr (11, [.ref xg, .int 0, .ref xp, .int 0, .ref xq, .int 0, .ref r1, .ref r2, .ref r3, .ref r4, .ref se, .int ts, .int hq, .int 40, .int 0, .int 0])), (xq, .inl (cq, 16, .inr (.inr (.inr (.inr (fun _ => none))))))] sz)) (va_Qi (fun (r : Int32) (u : Unit) => False) (fun (u : Unit) (t : State) => True) (va_A [(xo, .inr (11, [.ref xg, .int 0, .ref xp, .int 0, .ref xq, .int 0, .ref r1, .ref r2, .ref r3, .ref r4, .ref se, .int ts, .int hq, .int 40, .int 0, .int 0])), (xq, .inl (cq, 16, .inr (.inr (.inr (.inr (fun _ => none))))))] sz)) (vx_X (fun (_ : Unit) => True) (fun E (_ : Unit) (_ : State) => (E = "java/lang/IndexOutOfBoundsException")) (va_A [(xo, .inr (11, [.ref xg, .int 0, .ref xp, .int 0, .ref xq, .int 0, .ref r1, .ref r2, .ref r3, .ref r4, .ref se, .int ts, .int hq, .int 40, .int 0, .int 0])), (xq, .inl (cq, 16, .inr (.inr (.inr (.inr (fun _ => none))))))] sz)) 1 6 (va_A [(xo, .inr (11, [.ref xg, .int 0, .ref xp, .int 0, .ref xq, .int 0, .ref r1, .ref r2, .ref r3, .ref r4, .ref se, .int ts, .int hq, .int 40, .int 0, .int 0])), (xq, .inl (cq, 16, .inr (.inr (.inr (.inr (fun _ => none))))))] sz) := by
  refine vx_ofW (cc := cX6_split) (maxL := 6) (ret := (some .int)) (by decide) rfl ?_
  intro p e s m args below meth c s₁ B hml hxt hv
  obtain ⟨rfl, hsz, hP, hK, hD0, hT, hZ⟩ := hv
  have hx := B.exec
  have hb := B.bytes
  have hr := B.returns
  have hts := atoms_spec (ws := wzX6_split) B.pre
  have hown : s.vm.findClass RX6 = some m.cls := findClass_of_methodNamed B.named
  have hlocks := B.notSynchronized
  subst hsz
  have hD := hD0.self (sz := s.heap.size)
  generalize hAe : va_A [(xo, .inr (11, [.ref xg, .int 0, .ref xp, .int 0, .ref xq, .int 0, .ref r1, .ref r2, .ref r3, .ref r4, .ref se, .int ts, .int hq, .int 40, .int 0, .int 0])), (xq, .inl (cq, 16, .inr (.inr (.inr (.inr (fun _ => none))))))] s.heap.size = A at hD hZ ⊢
  have hA : ∀ q : Nat, s.heap.size ≤ q → A q := fun q h => by rw [← hAe]; exact Or.inr h
  have hS : va_S A s.heap s.heap [] := va_S.rf
  have hl := lv_entry ([.ref xo, .int ii, .int jj]) (n := 6) (Nat.le_of_ble_eq_true rfl)
  rw [lg_entry_eq]
  generalize (lg_sl ([.ref xo, .int ii, .int jj]) ++ List.replicate (6 - (lg_sl ([.ref xo, .int ii, .int jj])).length) Slot.unset).toArray = ls at hl ⊢
  have hl : lv_has ls 6 [(0, .ref xo), (1, .int ii), (2, .int jj)] := hl
  refine lv_aload_n hx hb dX6_split_0 rfl (lv_at hl 0 rfl) ?_
  refine lv_iload_n hx hb dX6_split_1 rfl (lv_at hl 1 rfl) ?_
  have hFc := va_free (wc := [(xo, .inr (11, [.ref xg, .int 0, .ref xp, .int 0, .ref xq, .int 0, .ref r1, .ref r2, .ref r3, .ref r4, .ref se, .int ts, .int hq, .int 40, .int 0, .int 0])), (xq, .inl (cq, 16, .inr (.inr (.inr (.inr (fun _ => none))))))]) hD hS hA [0, 1] rfl
  refine vx_callq (vx_runV (As := [.int ii]) (rest := []) ⟨hx, hb, hml, hown, hts⟩ (zc_X6_findPiece l hnt D G xo xg xp xq r1 r2 r3 r4 se ts hq cq ii s.heap.size) (cwV 1 hts gzX6_split_X6_findPiece_169 rfl rfl rfl (by decide +kernel) ⟨(Nat.le_of_ble_eq_true rfl), (Nat.le_of_ble_eq_true rfl)⟩) ⟨p_RW_blind, va_recv hK hP (ci := 11) (q0 := 0) rfl rfl, (p_RW_at (tc := [(cq, .object "Gatherhouse$Piece")]) (wc := [(xo, .inr (11, [.ref xg, .int 0, .ref xp, .int 0, .ref xq, .int 0, .ref r1, .ref r2, .ref r3, .ref r4, .ref se, .int ts, .int hq, .int 40, .int 0, .int 0])), (xq, .inl (cq, 16, .inr (.inr (.inr (.inr (fun _ => none))))))]) hP hK hD hS hA hT hZ [0, 1] [0] rfl rfl (by decide) rfl [.ref xo, .int ii])⟩ rfl rfl hl.1 rfl (lv_room (Nat.le_of_ble_eq_true rfl)) dX6_split_2 ⟨(Nat.le_of_ble_eq_true rfl), (Nat.le_of_ble_eq_true rfl)⟩) hS (fun q _ h => hFc q h) hFc (fun q _ h => hFc q h) (fun E ce q9 u t H locs ht hvm hpx hBX hz1 hk1 hS hce hcv hcl => ?_) (fun r_130 u t H locs ht hvm w_131 hB hz1 hk1 hS => ?_)
  · have hBX : (E = "java/lang/IndexOutOfBoundsException") := hBX
    rcases hBX with rfl
    exact vx_out (fun x h => (hxt x h).elim) hlocks hce hcv hcl (fun t ht _ => ⟨(), trivial, rfl, hS.F ht⟩) hS.2.2 (Nat.le_of_ble_eq_true rfl) (Nat.le_of_ble_eq_true rfl)
  · exact w_131.elim
theorem dX6_shear_0 : decode cX6_shear 0 = .ok (.aload_n 0, 1) := by decide +kernel
theorem dX6_shear_1 : decode cX6_shear 1 = .ok (.iload_n 1, 1) := by decide +kernel
theorem dX6_shear_2 : decode cX6_shear 2 = .ok (.invokevirtual 169, 3) := by decide +kernel
def wzEX6_shear : List Cond := [.code yX6_shear cX6_shear 4 (some .int), .methodLink RX6 169 yX6_findPiece, .instanceMethod yX6_findPiece, .selects RX6 yX6_findPiece yX6_findPiece, .initialized RX6, .code yX6_findPiece cX6_findPiece 3 (some (.object "Gatherhouse$Piece")), .classLink RX6 365 "java/lang/IndexOutOfBoundsException", .initialized "java/lang/IndexOutOfBoundsException", .fieldLink RX6 30 "Gatherhouse" "pieces" "[LGatherhouse$Piece;"]
def wzX6_shear : List Cond := wzEX6_shear ++ (u_ws RX6 TX6 16 ++ ((vx_atS RX6 369 "java/lang/IndexOutOfBoundsException" ["java/lang/RuntimeException", "java/lang/Exception"]).filter goodWord))
theorem zgEX6_shear : wzEX6_shear.all goodWord = true := by decide +kernel
theorem zuX6_shear_X6 : ∀ w ∈ u_ws RX6 TX6 16, w ∈ wzX6_shear := (fun _ h => (List.mem_append_right _ (List.mem_append_left _ h)))
theorem ztX6_shear_X6_369 : ∀ w ∈ (vx_atS RX6 369 "java/lang/IndexOutOfBoundsException" ["java/lang/RuntimeException", "java/lang/Exception"]).filter goodWord, w ∈ wzX6_shear := (fun _ h => (List.mem_append_right _ (List.mem_append_right _ h)))
theorem gzX6_shear_X6_findPiece_169 : GoodIn wzX6_shear (wsV RX6 169 RX6 yX6_findPiece wzX6_findPiece) := (goodIn_app (z_lift (goodIn_r _ [1, 2, 3, 4] rfl (by decide +kernel))) (goodIn_app (z_lift (goodIn_r wzEX6_findPiece [5, 6, 7, 8] rfl zgEX6_findPiece)) (goodIn_app (goodIn_sub (fun _ h => (List.mem_append_right _ (List.mem_append_left _ h))) zgU_X6) (goodIn_sub (fun _ h => (List.mem_append_right _ (List.mem_append_right _ h))) zgV_X6_369))))
set_option maxHeartbeats 4000000 in
set_option maxRecDepth 100000 in
theorem zc_X6_shear (l : Launch) (hnt : l.stackTraces = false) (D : va_G) (G : Nat × Nat × Nat) (xo : Nat) (xg : Nat) (xp : Nat) (xq : Nat) (r1 : Nat) (r2 : Nat) (r3 : Nat) (r4 : Nat) (se : Nat) (ts : Int32) (hq : Int32) (cq : ClassId) (ii : Int32) (sz : Nat) : vx_Met l yX6_shear wzX6_shear ({ frames := 7, cells := 1, slots := 6, locals := 104 }) (va_Pc [.ref xo, .int ii] (p_RW D G [(cq, .object "Gatherhouse$Piece")] [(xo, .inr (11, [.ref xg, .int 0, .ref xp, .int 0, .ref xq, .int 0, .ref r1, .ref r2, .ref r3, .ref r4, .ref se, .int ts, .int hq, .int 40, .int 0, .int 0])), (xq, .inl (cq, 16, .inr (.inr (.inr (.inr (fun _ => none))))))] sz)) (va_Qi (fun (r : Int32) (u : Unit) => False) (fun (u : Unit) (t : State) => True) (va_A [(xo, .inr (11, [.ref xg, .int 0, .ref xp, .int 0, .ref xq, .int 0, .ref r1, .ref r2, .ref r3, .ref r4, .ref se, .int ts, .int hq, .int 40, .int 0, .int 0])), (xq, .inl (cq, 16, .inr (.inr (.inr (.inr (fun _ => none))))))] sz)) (vx_X (fun (_ : Unit) => True) (fun E (_ : Unit) (_ : State) => (E = "java/lang/IndexOutOfBoundsException")) (va_A [(xo, .inr (11, [.ref xg, .int 0, .ref xp, .int 0, .ref xq, .int 0, .ref r1, .ref r2, .ref r3, .ref r4, .ref se, .int ts, .int hq, .int 40, .int 0, .int 0])), (xq, .inl (cq, 16, .inr (.inr (.inr (.inr (fun _ => none))))))] sz)) 1 6 (va_A [(xo, .inr (11, [.ref xg, .int 0, .ref xp, .int 0, .ref xq, .int 0, .ref r1, .ref r2, .ref r3, .ref r4, .ref se, .int ts, .int hq, .int 40, .int 0, .int 0])), (xq, .inl (cq, 16, .inr (.inr (.inr (.inr (fun _ => none))))))] sz) := by
  refine vx_ofW (cc := cX6_shear) (maxL := 4) (ret := (some .int)) (by decide) rfl ?_
  intro p e s m args below meth c s₁ B hml hxt hv
  obtain ⟨rfl, hsz, hP, hK, hD0, hT, hZ⟩ := hv
  have hx := B.exec
  have hb := B.bytes
  have hr := B.returns
  have hts := atoms_spec (ws := wzX6_shear) B.pre
  have hown : s.vm.findClass RX6 = some m.cls := findClass_of_methodNamed B.named
  have hlocks := B.notSynchronized
  subst hsz
  have hD := hD0.self (sz := s.heap.size)
  generalize hAe : va_A [(xo, .inr (11, [.ref xg, .int 0, .ref xp, .int 0, .ref xq, .int 0, .ref r1, .ref r2, .ref r3, .ref r4, .ref se, .int ts, .int hq, .int 40, .int 0, .int 0])), (xq, .inl (cq, 16, .inr (.inr (.inr (.inr (fun _ => none))))))] s.heap.size = A at hD hZ ⊢
  have hA : ∀ q : Nat, s.heap.size ≤ q → A q := fun q h => by rw [← hAe]; exact Or.inr h
  have hS : va_S A s.heap s.heap [] := va_S.rf
  have hl := lv_entry ([.ref xo, .int ii]) (n := 4) (Nat.le_of_ble_eq_true rfl)
  rw [lg_entry_eq]
  generalize (lg_sl ([.ref xo, .int ii]) ++ List.replicate (4 - (lg_sl ([.ref xo, .int ii])).length) Slot.unset).toArray = ls at hl ⊢
  have hl : lv_has ls 4 [(0, .ref xo), (1, .int ii)] := hl
  refine lv_aload_n hx hb dX6_shear_0 rfl (lv_at hl 0 rfl) ?_
  refine lv_iload_n hx hb dX6_shear_1 rfl (lv_at hl 1 rfl) ?_
  have hFc := va_free (wc := [(xo, .inr (11, [.ref xg, .int 0, .ref xp, .int 0, .ref xq, .int 0, .ref r1, .ref r2, .ref r3, .ref r4, .ref se, .int ts, .int hq, .int 40, .int 0, .int 0])), (xq, .inl (cq, 16, .inr (.inr (.inr (.inr (fun _ => none))))))]) hD hS hA [0, 1] rfl
  refine vx_callq (vx_runV (As := [.int ii]) (rest := []) ⟨hx, hb, hml, hown, hts⟩ (zc_X6_findPiece l hnt D G xo xg xp xq r1 r2 r3 r4 se ts hq cq ii s.heap.size) (cwV 1 hts gzX6_shear_X6_findPiece_169 rfl rfl rfl (by decide +kernel) ⟨(Nat.le_of_ble_eq_true rfl), (Nat.le_of_ble_eq_true rfl)⟩) ⟨p_RW_blind, va_recv hK hP (ci := 11) (q0 := 0) rfl rfl, (p_RW_at (tc := [(cq, .object "Gatherhouse$Piece")]) (wc := [(xo, .inr (11, [.ref xg, .int 0, .ref xp, .int 0, .ref xq, .int 0, .ref r1, .ref r2, .ref r3, .ref r4, .ref se, .int ts, .int hq, .int 40, .int 0, .int 0])), (xq, .inl (cq, 16, .inr (.inr (.inr (.inr (fun _ => none))))))]) hP hK hD hS hA hT hZ [0, 1] [0] rfl rfl (by decide) rfl [.ref xo, .int ii])⟩ rfl rfl hl.1 rfl (lv_room (Nat.le_of_ble_eq_true rfl)) dX6_shear_2 ⟨(Nat.le_of_ble_eq_true rfl), (Nat.le_of_ble_eq_true rfl)⟩) hS (fun q _ h => hFc q h) hFc (fun q _ h => hFc q h) (fun E ce q9 u t H locs ht hvm hpx hBX hz1 hk1 hS hce hcv hcl => ?_) (fun r_132 u t H locs ht hvm w_133 hB hz1 hk1 hS => ?_)
  · have hBX : (E = "java/lang/IndexOutOfBoundsException") := hBX
    rcases hBX with rfl
    exact vx_out (fun x h => (hxt x h).elim) hlocks hce hcv hcl (fun t ht _ => ⟨(), trivial, rfl, hS.F ht⟩) hS.2.2 (Nat.le_of_ble_eq_true rfl) (Nat.le_of_ble_eq_true rfl)
  · exact w_133.elim
theorem dX6_crack_0 : decode cX6_crack 0 = .ok (.aload_n 0, 1) := by decide +kernel
theorem dX6_crack_1 : decode cX6_crack 1 = .ok (.iload_n 1, 1) := by decide +kernel
theorem dX6_crack_2 : decode cX6_crack 2 = .ok (.invokevirtual 169, 3) := by decide +kernel
def wzEX6_crack : List Cond := [.code yX6_crack cX6_crack 3 (some .int), .methodLink RX6 169 yX6_findPiece, .instanceMethod yX6_findPiece, .selects RX6 yX6_findPiece yX6_findPiece, .initialized RX6, .code yX6_findPiece cX6_findPiece 3 (some (.object "Gatherhouse$Piece")), .classLink RX6 365 "java/lang/IndexOutOfBoundsException", .initialized "java/lang/IndexOutOfBoundsException", .fieldLink RX6 30 "Gatherhouse" "pieces" "[LGatherhouse$Piece;"]
def wzX6_crack : List Cond := wzEX6_crack ++ (u_ws RX6 TX6 16 ++ ((vx_atS RX6 369 "java/lang/IndexOutOfBoundsException" ["java/lang/RuntimeException", "java/lang/Exception"]).filter goodWord))
theorem zgEX6_crack : wzEX6_crack.all goodWord = true := by decide +kernel
theorem zuX6_crack_X6 : ∀ w ∈ u_ws RX6 TX6 16, w ∈ wzX6_crack := (fun _ h => (List.mem_append_right _ (List.mem_append_left _ h)))
theorem ztX6_crack_X6_369 : ∀ w ∈ (vx_atS RX6 369 "java/lang/IndexOutOfBoundsException" ["java/lang/RuntimeException", "java/lang/Exception"]).filter goodWord, w ∈ wzX6_crack := (fun _ h => (List.mem_append_right _ (List.mem_append_right _ h)))
theorem gzX6_crack_X6_findPiece_169 : GoodIn wzX6_crack (wsV RX6 169 RX6 yX6_findPiece wzX6_findPiece) := (goodIn_app (z_lift (goodIn_r _ [1, 2, 3, 4] rfl (by decide +kernel))) (goodIn_app (z_lift (goodIn_r wzEX6_findPiece [5, 6, 7, 8] rfl zgEX6_findPiece)) (goodIn_app (goodIn_sub (fun _ h => (List.mem_append_right _ (List.mem_append_left _ h))) zgU_X6) (goodIn_sub (fun _ h => (List.mem_append_right _ (List.mem_append_right _ h))) zgV_X6_369))))
set_option maxHeartbeats 4000000 in
set_option maxRecDepth 100000 in
theorem zc_X6_crack (l : Launch) (hnt : l.stackTraces = false) (D : va_G) (G : Nat × Nat × Nat) (xo : Nat) (xg : Nat) (xp : Nat) (xq : Nat) (r1 : Nat) (r2 : Nat) (r3 : Nat) (r4 : Nat) (se : Nat) (ts : Int32) (hq : Int32) (cq : ClassId) (ii : Int32) (sz : Nat) : vx_Met l yX6_crack wzX6_crack ({ frames := 7, cells := 1, slots := 6, locals := 104 }) (va_Pc [.ref xo, .int ii] (p_RW D G [(cq, .object "Gatherhouse$Piece")] [(xo, .inr (11, [.ref xg, .int 0, .ref xp, .int 0, .ref xq, .int 0, .ref r1, .ref r2, .ref r3, .ref r4, .ref se, .int ts, .int hq, .int 40, .int 0, .int 0])), (xq, .inl (cq, 16, .inr (.inr (.inr (.inr (fun _ => none))))))] sz)) (va_Qi (fun (r : Int32) (u : Unit) => False) (fun (u : Unit) (t : State) => True) (va_A [(xo, .inr (11, [.ref xg, .int 0, .ref xp, .int 0, .ref xq, .int 0, .ref r1, .ref r2, .ref r3, .ref r4, .ref se, .int ts, .int hq, .int 40, .int 0, .int 0])), (xq, .inl (cq, 16, .inr (.inr (.inr (.inr (fun _ => none))))))] sz)) (vx_X (fun (_ : Unit) => True) (fun E (_ : Unit) (_ : State) => (E = "java/lang/IndexOutOfBoundsException")) (va_A [(xo, .inr (11, [.ref xg, .int 0, .ref xp, .int 0, .ref xq, .int 0, .ref r1, .ref r2, .ref r3, .ref r4, .ref se, .int ts, .int hq, .int 40, .int 0, .int 0])), (xq, .inl (cq, 16, .inr (.inr (.inr (.inr (fun _ => none))))))] sz)) 1 6 (va_A [(xo, .inr (11, [.ref xg, .int 0, .ref xp, .int 0, .ref xq, .int 0, .ref r1, .ref r2, .ref r3, .ref r4, .ref se, .int ts, .int hq, .int 40, .int 0, .int 0])), (xq, .inl (cq, 16, .inr (.inr (.inr (.inr (fun _ => none))))))] sz) := by
  refine vx_ofW (cc := cX6_crack) (maxL := 3) (ret := (some .int)) (by decide) rfl ?_
  intro p e s m args below meth c s₁ B hml hxt hv
  obtain ⟨rfl, hsz, hP, hK, hD0, hT, hZ⟩ := hv
  have hx := B.exec
  have hb := B.bytes
  have hr := B.returns
  have hts := atoms_spec (ws := wzX6_crack) B.pre
  have hown : s.vm.findClass RX6 = some m.cls := findClass_of_methodNamed B.named
  have hlocks := B.notSynchronized
  subst hsz
  have hD := hD0.self (sz := s.heap.size)
  generalize hAe : va_A [(xo, .inr (11, [.ref xg, .int 0, .ref xp, .int 0, .ref xq, .int 0, .ref r1, .ref r2, .ref r3, .ref r4, .ref se, .int ts, .int hq, .int 40, .int 0, .int 0])), (xq, .inl (cq, 16, .inr (.inr (.inr (.inr (fun _ => none))))))] s.heap.size = A at hD hZ ⊢
  have hA : ∀ q : Nat, s.heap.size ≤ q → A q := fun q h => by rw [← hAe]; exact Or.inr h
  have hS : va_S A s.heap s.heap [] := va_S.rf
  have hl := lv_entry ([.ref xo, .int ii]) (n := 3) (Nat.le_of_ble_eq_true rfl)
  rw [lg_entry_eq]
  generalize (lg_sl ([.ref xo, .int ii]) ++ List.replicate (3 - (lg_sl ([.ref xo, .int ii])).length) Slot.unset).toArray = ls at hl ⊢
  have hl : lv_has ls 3 [(0, .ref xo), (1, .int ii)] := hl
  refine lv_aload_n hx hb dX6_crack_0 rfl (lv_at hl 0 rfl) ?_
  refine lv_iload_n hx hb dX6_crack_1 rfl (lv_at hl 1 rfl) ?_
  have hFc := va_free (wc := [(xo, .inr (11, [.ref xg, .int 0, .ref xp, .int 0, .ref xq, .int 0, .ref r1, .ref r2, .ref r3, .ref r4, .ref se, .int ts, .int hq, .int 40, .int 0, .int 0])), (xq, .inl (cq, 16, .inr (.inr (.inr (.inr (fun _ => none))))))]) hD hS hA [0, 1] rfl
  refine vx_callq (vx_runV (As := [.int ii]) (rest := []) ⟨hx, hb, hml, hown, hts⟩ (zc_X6_findPiece l hnt D G xo xg xp xq r1 r2 r3 r4 se ts hq cq ii s.heap.size) (cwV 1 hts gzX6_crack_X6_findPiece_169 rfl rfl rfl (by decide +kernel) ⟨(Nat.le_of_ble_eq_true rfl), (Nat.le_of_ble_eq_true rfl)⟩) ⟨p_RW_blind, va_recv hK hP (ci := 11) (q0 := 0) rfl rfl, (p_RW_at (tc := [(cq, .object "Gatherhouse$Piece")]) (wc := [(xo, .inr (11, [.ref xg, .int 0, .ref xp, .int 0, .ref xq, .int 0, .ref r1, .ref r2, .ref r3, .ref r4, .ref se, .int ts, .int hq, .int 40, .int 0, .int 0])), (xq, .inl (cq, 16, .inr (.inr (.inr (.inr (fun _ => none))))))]) hP hK hD hS hA hT hZ [0, 1] [0] rfl rfl (by decide) rfl [.ref xo, .int ii])⟩ rfl rfl hl.1 rfl (lv_room (Nat.le_of_ble_eq_true rfl)) dX6_crack_2 ⟨(Nat.le_of_ble_eq_true rfl), (Nat.le_of_ble_eq_true rfl)⟩) hS (fun q _ h => hFc q h) hFc (fun q _ h => hFc q h) (fun E ce q9 u t H locs ht hvm hpx hBX hz1 hk1 hS hce hcv hcl => ?_) (fun r_134 u t H locs ht hvm w_135 hB hz1 hk1 hS => ?_)
  · have hBX : (E = "java/lang/IndexOutOfBoundsException") := hBX
    rcases hBX with rfl
    exact vx_out (fun x h => (hxt x h).elim) hlocks hce hcv hcl (fun t ht _ => ⟨(), trivial, rfl, hS.F ht⟩) hS.2.2 (Nat.le_of_ble_eq_true rfl) (Nat.le_of_ble_eq_true rfl)
  · exact w_135.elim
theorem dX6_state_0 : decode cX6_state 0 = .ok (.aload_n 0, 1) := by decide +kernel
theorem dX6_state_1 : decode cX6_state 1 = .ok (.iload_n 1, 1) := by decide +kernel
theorem dX6_state_2 : decode cX6_state 2 = .ok (.invokevirtual 169, 3) := by decide +kernel
def wzEX6_state : List Cond := [.code yX6_state cX6_state 2 (some .char), .methodLink RX6 169 yX6_findPiece, .instanceMethod yX6_findPiece, .selects RX6 yX6_findPiece yX6_findPiece, .initialized RX6, .code yX6_findPiece cX6_findPiece 3 (some (.object "Gatherhouse$Piece")), .classLink RX6 365 "java/lang/IndexOutOfBoundsException", .initialized "java/lang/IndexOutOfBoundsException", .fieldLink RX6 30 "Gatherhouse" "pieces" "[LGatherhouse$Piece;"]
def wzX6_state : List Cond := wzEX6_state ++ (u_ws RX6 TX6 16 ++ ((vx_atS RX6 369 "java/lang/IndexOutOfBoundsException" ["java/lang/RuntimeException", "java/lang/Exception"]).filter goodWord))
theorem zgEX6_state : wzEX6_state.all goodWord = true := by decide +kernel
theorem zuX6_state_X6 : ∀ w ∈ u_ws RX6 TX6 16, w ∈ wzX6_state := (fun _ h => (List.mem_append_right _ (List.mem_append_left _ h)))
theorem ztX6_state_X6_369 : ∀ w ∈ (vx_atS RX6 369 "java/lang/IndexOutOfBoundsException" ["java/lang/RuntimeException", "java/lang/Exception"]).filter goodWord, w ∈ wzX6_state := (fun _ h => (List.mem_append_right _ (List.mem_append_right _ h)))
theorem gzX6_state_X6_findPiece_169 : GoodIn wzX6_state (wsV RX6 169 RX6 yX6_findPiece wzX6_findPiece) := (goodIn_app (z_lift (goodIn_r _ [1, 2, 3, 4] rfl (by decide +kernel))) (goodIn_app (z_lift (goodIn_r wzEX6_findPiece [5, 6, 7, 8] rfl zgEX6_findPiece)) (goodIn_app (goodIn_sub (fun _ h => (List.mem_append_right _ (List.mem_append_left _ h))) zgU_X6) (goodIn_sub (fun _ h => (List.mem_append_right _ (List.mem_append_right _ h))) zgV_X6_369))))
set_option maxHeartbeats 4000000 in
set_option maxRecDepth 100000 in
theorem zc_X6_state (l : Launch) (hnt : l.stackTraces = false) (D : va_G) (G : Nat × Nat × Nat) (xo : Nat) (xg : Nat) (xp : Nat) (xq : Nat) (r1 : Nat) (r2 : Nat) (r3 : Nat) (r4 : Nat) (se : Nat) (ts : Int32) (hq : Int32) (cq : ClassId) (ii : Int32) (sz : Nat) : vx_Met l yX6_state wzX6_state ({ frames := 7, cells := 1, slots := 6, locals := 104 }) (va_Pc [.ref xo, .int ii] (p_RW D G [(cq, .object "Gatherhouse$Piece")] [(xo, .inr (11, [.ref xg, .int 0, .ref xp, .int 0, .ref xq, .int 0, .ref r1, .ref r2, .ref r3, .ref r4, .ref se, .int ts, .int hq, .int 40, .int 0, .int 0])), (xq, .inl (cq, 16, .inr (.inr (.inr (.inr (fun _ => none))))))] sz)) (va_Qi (fun (r : Int32) (u : Unit) => False) (fun (u : Unit) (t : State) => True) (va_A [(xo, .inr (11, [.ref xg, .int 0, .ref xp, .int 0, .ref xq, .int 0, .ref r1, .ref r2, .ref r3, .ref r4, .ref se, .int ts, .int hq, .int 40, .int 0, .int 0])), (xq, .inl (cq, 16, .inr (.inr (.inr (.inr (fun _ => none))))))] sz)) (vx_X (fun (_ : Unit) => True) (fun E (_ : Unit) (_ : State) => (E = "java/lang/IndexOutOfBoundsException")) (va_A [(xo, .inr (11, [.ref xg, .int 0, .ref xp, .int 0, .ref xq, .int 0, .ref r1, .ref r2, .ref r3, .ref r4, .ref se, .int ts, .int hq, .int 40, .int 0, .int 0])), (xq, .inl (cq, 16, .inr (.inr (.inr (.inr (fun _ => none))))))] sz)) 1 6 (va_A [(xo, .inr (11, [.ref xg, .int 0, .ref xp, .int 0, .ref xq, .int 0, .ref r1, .ref r2, .ref r3, .ref r4, .ref se, .int ts, .int hq, .int 40, .int 0, .int 0])), (xq, .inl (cq, 16, .inr (.inr (.inr (.inr (fun _ => none))))))] sz) := by
  refine vx_ofW (cc := cX6_state) (maxL := 2) (ret := (some .char)) (by decide) rfl ?_
  intro p e s m args below meth c s₁ B hml hxt hv
  obtain ⟨rfl, hsz, hP, hK, hD0, hT, hZ⟩ := hv
  have hx := B.exec
  have hb := B.bytes
  have hr := B.returns
  have hts := atoms_spec (ws := wzX6_state) B.pre
  have hown : s.vm.findClass RX6 = some m.cls := findClass_of_methodNamed B.named
  have hlocks := B.notSynchronized
  subst hsz
  have hD := hD0.self (sz := s.heap.size)
  generalize hAe : va_A [(xo, .inr (11, [.ref xg, .int 0, .ref xp, .int 0, .ref xq, .int 0, .ref r1, .ref r2, .ref r3, .ref r4, .ref se, .int ts, .int hq, .int 40, .int 0, .int 0])), (xq, .inl (cq, 16, .inr (.inr (.inr (.inr (fun _ => none))))))] s.heap.size = A at hD hZ ⊢
  have hA : ∀ q : Nat, s.heap.size ≤ q → A q := fun q h => by rw [← hAe]; exact Or.inr h
  have hS : va_S A s.heap s.heap [] := va_S.rf
  have hl := lv_entry ([.ref xo, .int ii]) (n := 2) (Nat.le_of_ble_eq_true rfl)
  rw [lg_entry_eq]
  generalize (lg_sl ([.ref xo, .int ii]) ++ List.replicate (2 - (lg_sl ([.ref xo, .int ii])).length) Slot.unset).toArray = ls at hl ⊢
  have hl : lv_has ls 2 [(0, .ref xo), (1, .int ii)] := hl
  refine lv_aload_n hx hb dX6_state_0 rfl (lv_at hl 0 rfl) ?_
  refine lv_iload_n hx hb dX6_state_1 rfl (lv_at hl 1 rfl) ?_
  have hFc := va_free (wc := [(xo, .inr (11, [.ref xg, .int 0, .ref xp, .int 0, .ref xq, .int 0, .ref r1, .ref r2, .ref r3, .ref r4, .ref se, .int ts, .int hq, .int 40, .int 0, .int 0])), (xq, .inl (cq, 16, .inr (.inr (.inr (.inr (fun _ => none))))))]) hD hS hA [0, 1] rfl
  refine vx_callq (vx_runV (As := [.int ii]) (rest := []) ⟨hx, hb, hml, hown, hts⟩ (zc_X6_findPiece l hnt D G xo xg xp xq r1 r2 r3 r4 se ts hq cq ii s.heap.size) (cwV 1 hts gzX6_state_X6_findPiece_169 rfl rfl rfl (by decide +kernel) ⟨(Nat.le_of_ble_eq_true rfl), (Nat.le_of_ble_eq_true rfl)⟩) ⟨p_RW_blind, va_recv hK hP (ci := 11) (q0 := 0) rfl rfl, (p_RW_at (tc := [(cq, .object "Gatherhouse$Piece")]) (wc := [(xo, .inr (11, [.ref xg, .int 0, .ref xp, .int 0, .ref xq, .int 0, .ref r1, .ref r2, .ref r3, .ref r4, .ref se, .int ts, .int hq, .int 40, .int 0, .int 0])), (xq, .inl (cq, 16, .inr (.inr (.inr (.inr (fun _ => none))))))]) hP hK hD hS hA hT hZ [0, 1] [0] rfl rfl (by decide) rfl [.ref xo, .int ii])⟩ rfl rfl hl.1 rfl (lv_room (Nat.le_of_ble_eq_true rfl)) dX6_state_2 ⟨(Nat.le_of_ble_eq_true rfl), (Nat.le_of_ble_eq_true rfl)⟩) hS (fun q _ h => hFc q h) hFc (fun q _ h => hFc q h) (fun E ce q9 u t H locs ht hvm hpx hBX hz1 hk1 hS hce hcv hcl => ?_) (fun r_136 u t H locs ht hvm w_137 hB hz1 hk1 hS => ?_)
  · have hBX : (E = "java/lang/IndexOutOfBoundsException") := hBX
    rcases hBX with rfl
    exact vx_out (fun x h => (hxt x h).elim) hlocks hce hcv hcl (fun t ht _ => ⟨(), trivial, rfl, hS.F ht⟩) hS.2.2 (Nat.le_of_ble_eq_true rfl) (Nat.le_of_ble_eq_true rfl)
  · exact w_137.elim
theorem dX6_heatOf_0 : decode cX6_heatOf 0 = .ok (.aload_n 0, 1) := by decide +kernel
theorem dX6_heatOf_1 : decode cX6_heatOf 1 = .ok (.iload_n 1, 1) := by decide +kernel
theorem dX6_heatOf_2 : decode cX6_heatOf 2 = .ok (.invokevirtual 169, 3) := by decide +kernel
def wzEX6_heatOf : List Cond := [.code yX6_heatOf cX6_heatOf 3 (some .int), .methodLink RX6 169 yX6_findPiece, .instanceMethod yX6_findPiece, .selects RX6 yX6_findPiece yX6_findPiece, .initialized RX6, .code yX6_findPiece cX6_findPiece 3 (some (.object "Gatherhouse$Piece")), .classLink RX6 365 "java/lang/IndexOutOfBoundsException", .initialized "java/lang/IndexOutOfBoundsException", .fieldLink RX6 30 "Gatherhouse" "pieces" "[LGatherhouse$Piece;"]
def wzX6_heatOf : List Cond := wzEX6_heatOf ++ (u_ws RX6 TX6 16 ++ ((vx_atS RX6 369 "java/lang/IndexOutOfBoundsException" ["java/lang/RuntimeException", "java/lang/Exception"]).filter goodWord))
theorem zgEX6_heatOf : wzEX6_heatOf.all goodWord = true := by decide +kernel
theorem zuX6_heatOf_X6 : ∀ w ∈ u_ws RX6 TX6 16, w ∈ wzX6_heatOf := (fun _ h => (List.mem_append_right _ (List.mem_append_left _ h)))
theorem ztX6_heatOf_X6_369 : ∀ w ∈ (vx_atS RX6 369 "java/lang/IndexOutOfBoundsException" ["java/lang/RuntimeException", "java/lang/Exception"]).filter goodWord, w ∈ wzX6_heatOf := (fun _ h => (List.mem_append_right _ (List.mem_append_right _ h)))
theorem gzX6_heatOf_X6_findPiece_169 : GoodIn wzX6_heatOf (wsV RX6 169 RX6 yX6_findPiece wzX6_findPiece) := (goodIn_app (z_lift (goodIn_r _ [1, 2, 3, 4] rfl (by decide +kernel))) (goodIn_app (z_lift (goodIn_r wzEX6_findPiece [5, 6, 7, 8] rfl zgEX6_findPiece)) (goodIn_app (goodIn_sub (fun _ h => (List.mem_append_right _ (List.mem_append_left _ h))) zgU_X6) (goodIn_sub (fun _ h => (List.mem_append_right _ (List.mem_append_right _ h))) zgV_X6_369))))
set_option maxHeartbeats 4000000 in
set_option maxRecDepth 100000 in
theorem zc_X6_heatOf (l : Launch) (hnt : l.stackTraces = false) (D : va_G) (G : Nat × Nat × Nat) (xo : Nat) (xg : Nat) (xp : Nat) (xq : Nat) (r1 : Nat) (r2 : Nat) (r3 : Nat) (r4 : Nat) (se : Nat) (ts : Int32) (hq : Int32) (cq : ClassId) (ii : Int32) (sz : Nat) : vx_Met l yX6_heatOf wzX6_heatOf ({ frames := 7, cells := 1, slots := 6, locals := 104 }) (va_Pc [.ref xo, .int ii] (p_RW D G [(cq, .object "Gatherhouse$Piece")] [(xo, .inr (11, [.ref xg, .int 0, .ref xp, .int 0, .ref xq, .int 0, .ref r1, .ref r2, .ref r3, .ref r4, .ref se, .int ts, .int hq, .int 40, .int 0, .int 0])), (xq, .inl (cq, 16, .inr (.inr (.inr (.inr (fun _ => none))))))] sz)) (va_Qi (fun (r : Int32) (u : Unit) => False) (fun (u : Unit) (t : State) => True) (va_A [(xo, .inr (11, [.ref xg, .int 0, .ref xp, .int 0, .ref xq, .int 0, .ref r1, .ref r2, .ref r3, .ref r4, .ref se, .int ts, .int hq, .int 40, .int 0, .int 0])), (xq, .inl (cq, 16, .inr (.inr (.inr (.inr (fun _ => none))))))] sz)) (vx_X (fun (_ : Unit) => True) (fun E (_ : Unit) (_ : State) => (E = "java/lang/IndexOutOfBoundsException")) (va_A [(xo, .inr (11, [.ref xg, .int 0, .ref xp, .int 0, .ref xq, .int 0, .ref r1, .ref r2, .ref r3, .ref r4, .ref se, .int ts, .int hq, .int 40, .int 0, .int 0])), (xq, .inl (cq, 16, .inr (.inr (.inr (.inr (fun _ => none))))))] sz)) 1 6 (va_A [(xo, .inr (11, [.ref xg, .int 0, .ref xp, .int 0, .ref xq, .int 0, .ref r1, .ref r2, .ref r3, .ref r4, .ref se, .int ts, .int hq, .int 40, .int 0, .int 0])), (xq, .inl (cq, 16, .inr (.inr (.inr (.inr (fun _ => none))))))] sz) := by
  refine vx_ofW (cc := cX6_heatOf) (maxL := 3) (ret := (some .int)) (by decide) rfl ?_
  intro p e s m args below meth c s₁ B hml hxt hv
  obtain ⟨rfl, hsz, hP, hK, hD0, hT, hZ⟩ := hv
  have hx := B.exec
  have hb := B.bytes
  have hr := B.returns
  have hts := atoms_spec (ws := wzX6_heatOf) B.pre
  have hown : s.vm.findClass RX6 = some m.cls := findClass_of_methodNamed B.named
  have hlocks := B.notSynchronized
  subst hsz
  have hD := hD0.self (sz := s.heap.size)
  generalize hAe : va_A [(xo, .inr (11, [.ref xg, .int 0, .ref xp, .int 0, .ref xq, .int 0, .ref r1, .ref r2, .ref r3, .ref r4, .ref se, .int ts, .int hq, .int 40, .int 0, .int 0])), (xq, .inl (cq, 16, .inr (.inr (.inr (.inr (fun _ => none))))))] s.heap.size = A at hD hZ ⊢
  have hA : ∀ q : Nat, s.heap.size ≤ q → A q := fun q h => by rw [← hAe]; exact Or.inr h
  have hS : va_S A s.heap s.heap [] := va_S.rf
  have hl := lv_entry ([.ref xo, .int ii]) (n := 3) (Nat.le_of_ble_eq_true rfl)
  rw [lg_entry_eq]
  generalize (lg_sl ([.ref xo, .int ii]) ++ List.replicate (3 - (lg_sl ([.ref xo, .int ii])).length) Slot.unset).toArray = ls at hl ⊢
  have hl : lv_has ls 3 [(0, .ref xo), (1, .int ii)] := hl
  refine lv_aload_n hx hb dX6_heatOf_0 rfl (lv_at hl 0 rfl) ?_
  refine lv_iload_n hx hb dX6_heatOf_1 rfl (lv_at hl 1 rfl) ?_
  have hFc := va_free (wc := [(xo, .inr (11, [.ref xg, .int 0, .ref xp, .int 0, .ref xq, .int 0, .ref r1, .ref r2, .ref r3, .ref r4, .ref se, .int ts, .int hq, .int 40, .int 0, .int 0])), (xq, .inl (cq, 16, .inr (.inr (.inr (.inr (fun _ => none))))))]) hD hS hA [0, 1] rfl
  refine vx_callq (vx_runV (As := [.int ii]) (rest := []) ⟨hx, hb, hml, hown, hts⟩ (zc_X6_findPiece l hnt D G xo xg xp xq r1 r2 r3 r4 se ts hq cq ii s.heap.size) (cwV 1 hts gzX6_heatOf_X6_findPiece_169 rfl rfl rfl (by decide +kernel) ⟨(Nat.le_of_ble_eq_true rfl), (Nat.le_of_ble_eq_true rfl)⟩) ⟨p_RW_blind, va_recv hK hP (ci := 11) (q0 := 0) rfl rfl, (p_RW_at (tc := [(cq, .object "Gatherhouse$Piece")]) (wc := [(xo, .inr (11, [.ref xg, .int 0, .ref xp, .int 0, .ref xq, .int 0, .ref r1, .ref r2, .ref r3, .ref r4, .ref se, .int ts, .int hq, .int 40, .int 0, .int 0])), (xq, .inl (cq, 16, .inr (.inr (.inr (.inr (fun _ => none))))))]) hP hK hD hS hA hT hZ [0, 1] [0] rfl rfl (by decide) rfl [.ref xo, .int ii])⟩ rfl rfl hl.1 rfl (lv_room (Nat.le_of_ble_eq_true rfl)) dX6_heatOf_2 ⟨(Nat.le_of_ble_eq_true rfl), (Nat.le_of_ble_eq_true rfl)⟩) hS (fun q _ h => hFc q h) hFc (fun q _ h => hFc q h) (fun E ce q9 u t H locs ht hvm hpx hBX hz1 hk1 hS hce hcv hcl => ?_) (fun r_138 u t H locs ht hvm w_139 hB hz1 hk1 hS => ?_)
  · have hBX : (E = "java/lang/IndexOutOfBoundsException") := hBX
    rcases hBX with rfl
    exact vx_out (fun x h => (hxt x h).elim) hlocks hce hcv hcl (fun t ht _ => ⟨(), trivial, rfl, hS.F ht⟩) hS.2.2 (Nat.le_of_ble_eq_true rfl) (Nat.le_of_ble_eq_true rfl)
  · exact w_139.elim
theorem dX6_rings_0 : decode cX6_rings 0 = .ok (.aload_n 0, 1) := by decide +kernel
theorem dX6_rings_1 : decode cX6_rings 1 = .ok (.iload_n 1, 1) := by decide +kernel
theorem dX6_rings_2 : decode cX6_rings 2 = .ok (.invokevirtual 169, 3) := by decide +kernel
def wzEX6_rings : List Cond := [.code yX6_rings cX6_rings 2 (some .int), .methodLink RX6 169 yX6_findPiece, .instanceMethod yX6_findPiece, .selects RX6 yX6_findPiece yX6_findPiece, .initialized RX6, .code yX6_findPiece cX6_findPiece 3 (some (.object "Gatherhouse$Piece")), .classLink RX6 365 "java/lang/IndexOutOfBoundsException", .initialized "java/lang/IndexOutOfBoundsException", .fieldLink RX6 30 "Gatherhouse" "pieces" "[LGatherhouse$Piece;"]
def wzX6_rings : List Cond := wzEX6_rings ++ (u_ws RX6 TX6 16 ++ ((vx_atS RX6 369 "java/lang/IndexOutOfBoundsException" ["java/lang/RuntimeException", "java/lang/Exception"]).filter goodWord))
theorem zgEX6_rings : wzEX6_rings.all goodWord = true := by decide +kernel
theorem zuX6_rings_X6 : ∀ w ∈ u_ws RX6 TX6 16, w ∈ wzX6_rings := (fun _ h => (List.mem_append_right _ (List.mem_append_left _ h)))
theorem ztX6_rings_X6_369 : ∀ w ∈ (vx_atS RX6 369 "java/lang/IndexOutOfBoundsException" ["java/lang/RuntimeException", "java/lang/Exception"]).filter goodWord, w ∈ wzX6_rings := (fun _ h => (List.mem_append_right _ (List.mem_append_right _ h)))
theorem gzX6_rings_X6_findPiece_169 : GoodIn wzX6_rings (wsV RX6 169 RX6 yX6_findPiece wzX6_findPiece) := (goodIn_app (z_lift (goodIn_r _ [1, 2, 3, 4] rfl (by decide +kernel))) (goodIn_app (z_lift (goodIn_r wzEX6_findPiece [5, 6, 7, 8] rfl zgEX6_findPiece)) (goodIn_app (goodIn_sub (fun _ h => (List.mem_append_right _ (List.mem_append_left _ h))) zgU_X6) (goodIn_sub (fun _ h => (List.mem_append_right _ (List.mem_append_right _ h))) zgV_X6_369))))
set_option maxHeartbeats 4000000 in
set_option maxRecDepth 100000 in
theorem zc_X6_rings (l : Launch) (hnt : l.stackTraces = false) (D : va_G) (G : Nat × Nat × Nat) (xo : Nat) (xg : Nat) (xp : Nat) (xq : Nat) (r1 : Nat) (r2 : Nat) (r3 : Nat) (r4 : Nat) (se : Nat) (ts : Int32) (hq : Int32) (cq : ClassId) (ii : Int32) (sz : Nat) : vx_Met l yX6_rings wzX6_rings ({ frames := 7, cells := 1, slots := 6, locals := 104 }) (va_Pc [.ref xo, .int ii] (p_RW D G [(cq, .object "Gatherhouse$Piece")] [(xo, .inr (11, [.ref xg, .int 0, .ref xp, .int 0, .ref xq, .int 0, .ref r1, .ref r2, .ref r3, .ref r4, .ref se, .int ts, .int hq, .int 40, .int 0, .int 0])), (xq, .inl (cq, 16, .inr (.inr (.inr (.inr (fun _ => none))))))] sz)) (va_Qi (fun (r : Int32) (u : Unit) => False) (fun (u : Unit) (t : State) => True) (va_A [(xo, .inr (11, [.ref xg, .int 0, .ref xp, .int 0, .ref xq, .int 0, .ref r1, .ref r2, .ref r3, .ref r4, .ref se, .int ts, .int hq, .int 40, .int 0, .int 0])), (xq, .inl (cq, 16, .inr (.inr (.inr (.inr (fun _ => none))))))] sz)) (vx_X (fun (_ : Unit) => True) (fun E (_ : Unit) (_ : State) => (E = "java/lang/IndexOutOfBoundsException")) (va_A [(xo, .inr (11, [.ref xg, .int 0, .ref xp, .int 0, .ref xq, .int 0, .ref r1, .ref r2, .ref r3, .ref r4, .ref se, .int ts, .int hq, .int 40, .int 0, .int 0])), (xq, .inl (cq, 16, .inr (.inr (.inr (.inr (fun _ => none))))))] sz)) 1 6 (va_A [(xo, .inr (11, [.ref xg, .int 0, .ref xp, .int 0, .ref xq, .int 0, .ref r1, .ref r2, .ref r3, .ref r4, .ref se, .int ts, .int hq, .int 40, .int 0, .int 0])), (xq, .inl (cq, 16, .inr (.inr (.inr (.inr (fun _ => none))))))] sz) := by
  refine vx_ofW (cc := cX6_rings) (maxL := 2) (ret := (some .int)) (by decide) rfl ?_
  intro p e s m args below meth c s₁ B hml hxt hv
  obtain ⟨rfl, hsz, hP, hK, hD0, hT, hZ⟩ := hv
  have hx := B.exec
  have hb := B.bytes
  have hr := B.returns
  have hts := atoms_spec (ws := wzX6_rings) B.pre
  have hown : s.vm.findClass RX6 = some m.cls := findClass_of_methodNamed B.named
  have hlocks := B.notSynchronized
  subst hsz
  have hD := hD0.self (sz := s.heap.size)
  generalize hAe : va_A [(xo, .inr (11, [.ref xg, .int 0, .ref xp, .int 0, .ref xq, .int 0, .ref r1, .ref r2, .ref r3, .ref r4, .ref se, .int ts, .int hq, .int 40, .int 0, .int 0])), (xq, .inl (cq, 16, .inr (.inr (.inr (.inr (fun _ => none))))))] s.heap.size = A at hD hZ ⊢
  have hA : ∀ q : Nat, s.heap.size ≤ q → A q := fun q h => by rw [← hAe]; exact Or.inr h
  have hS : va_S A s.heap s.heap [] := va_S.rf
  have hl := lv_entry ([.ref xo, .int ii]) (n := 2) (Nat.le_of_ble_eq_true rfl)
  rw [lg_entry_eq]
  generalize (lg_sl ([.ref xo, .int ii]) ++ List.replicate (2 - (lg_sl ([.ref xo, .int ii])).length) Slot.unset).toArray = ls at hl ⊢
  have hl : lv_has ls 2 [(0, .ref xo), (1, .int ii)] := hl
  refine lv_aload_n hx hb dX6_rings_0 rfl (lv_at hl 0 rfl) ?_
  refine lv_iload_n hx hb dX6_rings_1 rfl (lv_at hl 1 rfl) ?_
  have hFc := va_free (wc := [(xo, .inr (11, [.ref xg, .int 0, .ref xp, .int 0, .ref xq, .int 0, .ref r1, .ref r2, .ref r3, .ref r4, .ref se, .int ts, .int hq, .int 40, .int 0, .int 0])), (xq, .inl (cq, 16, .inr (.inr (.inr (.inr (fun _ => none))))))]) hD hS hA [0, 1] rfl
  refine vx_callq (vx_runV (As := [.int ii]) (rest := []) ⟨hx, hb, hml, hown, hts⟩ (zc_X6_findPiece l hnt D G xo xg xp xq r1 r2 r3 r4 se ts hq cq ii s.heap.size) (cwV 1 hts gzX6_rings_X6_findPiece_169 rfl rfl rfl (by decide +kernel) ⟨(Nat.le_of_ble_eq_true rfl), (Nat.le_of_ble_eq_true rfl)⟩) ⟨p_RW_blind, va_recv hK hP (ci := 11) (q0 := 0) rfl rfl, (p_RW_at (tc := [(cq, .object "Gatherhouse$Piece")]) (wc := [(xo, .inr (11, [.ref xg, .int 0, .ref xp, .int 0, .ref xq, .int 0, .ref r1, .ref r2, .ref r3, .ref r4, .ref se, .int ts, .int hq, .int 40, .int 0, .int 0])), (xq, .inl (cq, 16, .inr (.inr (.inr (.inr (fun _ => none))))))]) hP hK hD hS hA hT hZ [0, 1] [0] rfl rfl (by decide) rfl [.ref xo, .int ii])⟩ rfl rfl hl.1 rfl (lv_room (Nat.le_of_ble_eq_true rfl)) dX6_rings_2 ⟨(Nat.le_of_ble_eq_true rfl), (Nat.le_of_ble_eq_true rfl)⟩) hS (fun q _ h => hFc q h) hFc (fun q _ h => hFc q h) (fun E ce q9 u t H locs ht hvm hpx hBX hz1 hk1 hS hce hcv hcl => ?_) (fun r_140 u t H locs ht hvm w_141 hB hz1 hk1 hS => ?_)
  · have hBX : (E = "java/lang/IndexOutOfBoundsException") := hBX
    rcases hBX with rfl
    exact vx_out (fun x h => (hxt x h).elim) hlocks hce hcv hcl (fun t ht _ => ⟨(), trivial, rfl, hS.F ht⟩) hS.2.2 (Nat.le_of_ble_eq_true rfl) (Nat.le_of_ble_eq_true rfl)
  · exact w_141.elim
theorem dX6_ring_0 : decode cX6_ring 0 = .ok (.aload_n 0, 1) := by decide +kernel
theorem dX6_ring_1 : decode cX6_ring 1 = .ok (.iload_n 1, 1) := by decide +kernel
theorem dX6_ring_2 : decode cX6_ring 2 = .ok (.invokevirtual 169, 3) := by decide +kernel
def wzEX6_ring : List Cond := [.code yX6_ring cX6_ring 5 (some .int), .methodLink RX6 169 yX6_findPiece, .instanceMethod yX6_findPiece, .selects RX6 yX6_findPiece yX6_findPiece, .initialized RX6, .code yX6_findPiece cX6_findPiece 3 (some (.object "Gatherhouse$Piece")), .classLink RX6 365 "java/lang/IndexOutOfBoundsException", .initialized "java/lang/IndexOutOfBoundsException", .fieldLink RX6 30 "Gatherhouse" "pieces" "[LGatherhouse$Piece;"]
def wzX6_ring : List Cond := wzEX6_ring ++ (u_ws RX6 TX6 16 ++ ((vx_atS RX6 369 "java/lang/IndexOutOfBoundsException" ["java/lang/RuntimeException", "java/lang/Exception"]).filter goodWord))
theorem zgEX6_ring : wzEX6_ring.all goodWord = true := by decide +kernel
theorem zuX6_ring_X6 : ∀ w ∈ u_ws RX6 TX6 16, w ∈ wzX6_ring := (fun _ h => (List.mem_append_right _ (List.mem_append_left _ h)))
theorem ztX6_ring_X6_369 : ∀ w ∈ (vx_atS RX6 369 "java/lang/IndexOutOfBoundsException" ["java/lang/RuntimeException", "java/lang/Exception"]).filter goodWord, w ∈ wzX6_ring := (fun _ h => (List.mem_append_right _ (List.mem_append_right _ h)))
theorem gzX6_ring_X6_findPiece_169 : GoodIn wzX6_ring (wsV RX6 169 RX6 yX6_findPiece wzX6_findPiece) := (goodIn_app (z_lift (goodIn_r _ [1, 2, 3, 4] rfl (by decide +kernel))) (goodIn_app (z_lift (goodIn_r wzEX6_findPiece [5, 6, 7, 8] rfl zgEX6_findPiece)) (goodIn_app (goodIn_sub (fun _ h => (List.mem_append_right _ (List.mem_append_left _ h))) zgU_X6) (goodIn_sub (fun _ h => (List.mem_append_right _ (List.mem_append_right _ h))) zgV_X6_369))))
set_option maxHeartbeats 4000000 in
set_option maxRecDepth 100000 in
theorem zc_X6_ring (l : Launch) (hnt : l.stackTraces = false) (D : va_G) (G : Nat × Nat × Nat) (xo : Nat) (xg : Nat) (xp : Nat) (xq : Nat) (r1 : Nat) (r2 : Nat) (r3 : Nat) (r4 : Nat) (se : Nat) (ts : Int32) (hq : Int32) (cq : ClassId) (ii : Int32) (jj : Int32) (kk : Int32) (sz : Nat) : vx_Met l yX6_ring wzX6_ring ({ frames := 7, cells := 1, slots := 6, locals := 104 }) (va_Pc [.ref xo, .int ii, .int jj, .int kk] (p_RW D G [(cq, .object "Gatherhouse$Piece")] [(xo, .inr (11, [.ref xg, .int 0, .ref xp, .int 0, .ref xq, .int 0, .ref r1, .ref r2, .ref r3, .ref r4, .ref se, .int ts, .int hq, .int 40, .int 0, .int 0])), (xq, .inl (cq, 16, .inr (.inr (.inr (.inr (fun _ => none))))))] sz)) (va_Qi (fun (r : Int32) (u : Unit) => False) (fun (u : Unit) (t : State) => True) (va_A [(xo, .inr (11, [.ref xg, .int 0, .ref xp, .int 0, .ref xq, .int 0, .ref r1, .ref r2, .ref r3, .ref r4, .ref se, .int ts, .int hq, .int 40, .int 0, .int 0])), (xq, .inl (cq, 16, .inr (.inr (.inr (.inr (fun _ => none))))))] sz)) (vx_X (fun (_ : Unit) => True) (fun E (_ : Unit) (_ : State) => (E = "java/lang/IndexOutOfBoundsException")) (va_A [(xo, .inr (11, [.ref xg, .int 0, .ref xp, .int 0, .ref xq, .int 0, .ref r1, .ref r2, .ref r3, .ref r4, .ref se, .int ts, .int hq, .int 40, .int 0, .int 0])), (xq, .inl (cq, 16, .inr (.inr (.inr (.inr (fun _ => none))))))] sz)) 1 6 (va_A [(xo, .inr (11, [.ref xg, .int 0, .ref xp, .int 0, .ref xq, .int 0, .ref r1, .ref r2, .ref r3, .ref r4, .ref se, .int ts, .int hq, .int 40, .int 0, .int 0])), (xq, .inl (cq, 16, .inr (.inr (.inr (.inr (fun _ => none))))))] sz) := by
  refine vx_ofW (cc := cX6_ring) (maxL := 5) (ret := (some .int)) (by decide) rfl ?_
  intro p e s m args below meth c s₁ B hml hxt hv
  obtain ⟨rfl, hsz, hP, hK, hD0, hT, hZ⟩ := hv
  have hx := B.exec
  have hb := B.bytes
  have hr := B.returns
  have hts := atoms_spec (ws := wzX6_ring) B.pre
  have hown : s.vm.findClass RX6 = some m.cls := findClass_of_methodNamed B.named
  have hlocks := B.notSynchronized
  subst hsz
  have hD := hD0.self (sz := s.heap.size)
  generalize hAe : va_A [(xo, .inr (11, [.ref xg, .int 0, .ref xp, .int 0, .ref xq, .int 0, .ref r1, .ref r2, .ref r3, .ref r4, .ref se, .int ts, .int hq, .int 40, .int 0, .int 0])), (xq, .inl (cq, 16, .inr (.inr (.inr (.inr (fun _ => none))))))] s.heap.size = A at hD hZ ⊢
  have hA : ∀ q : Nat, s.heap.size ≤ q → A q := fun q h => by rw [← hAe]; exact Or.inr h
  have hS : va_S A s.heap s.heap [] := va_S.rf
  have hl := lv_entry ([.ref xo, .int ii, .int jj, .int kk]) (n := 5) (Nat.le_of_ble_eq_true rfl)
  rw [lg_entry_eq]
  generalize (lg_sl ([.ref xo, .int ii, .int jj, .int kk]) ++ List.replicate (5 - (lg_sl ([.ref xo, .int ii, .int jj, .int kk])).length) Slot.unset).toArray = ls at hl ⊢
  have hl : lv_has ls 5 [(0, .ref xo), (1, .int ii), (2, .int jj), (3, .int kk)] := hl
  refine lv_aload_n hx hb dX6_ring_0 rfl (lv_at hl 0 rfl) ?_
  refine lv_iload_n hx hb dX6_ring_1 rfl (lv_at hl 1 rfl) ?_
  have hFc := va_free (wc := [(xo, .inr (11, [.ref xg, .int 0, .ref xp, .int 0, .ref xq, .int 0, .ref r1, .ref r2, .ref r3, .ref r4, .ref se, .int ts, .int hq, .int 40, .int 0, .int 0])), (xq, .inl (cq, 16, .inr (.inr (.inr (.inr (fun _ => none))))))]) hD hS hA [0, 1] rfl
  refine vx_callq (vx_runV (As := [.int ii]) (rest := []) ⟨hx, hb, hml, hown, hts⟩ (zc_X6_findPiece l hnt D G xo xg xp xq r1 r2 r3 r4 se ts hq cq ii s.heap.size) (cwV 1 hts gzX6_ring_X6_findPiece_169 rfl rfl rfl (by decide +kernel) ⟨(Nat.le_of_ble_eq_true rfl), (Nat.le_of_ble_eq_true rfl)⟩) ⟨p_RW_blind, va_recv hK hP (ci := 11) (q0 := 0) rfl rfl, (p_RW_at (tc := [(cq, .object "Gatherhouse$Piece")]) (wc := [(xo, .inr (11, [.ref xg, .int 0, .ref xp, .int 0, .ref xq, .int 0, .ref r1, .ref r2, .ref r3, .ref r4, .ref se, .int ts, .int hq, .int 40, .int 0, .int 0])), (xq, .inl (cq, 16, .inr (.inr (.inr (.inr (fun _ => none))))))]) hP hK hD hS hA hT hZ [0, 1] [0] rfl rfl (by decide) rfl [.ref xo, .int ii])⟩ rfl rfl hl.1 rfl (lv_room (Nat.le_of_ble_eq_true rfl)) dX6_ring_2 ⟨(Nat.le_of_ble_eq_true rfl), (Nat.le_of_ble_eq_true rfl)⟩) hS (fun q _ h => hFc q h) hFc (fun q _ h => hFc q h) (fun E ce q9 u t H locs ht hvm hpx hBX hz1 hk1 hS hce hcv hcl => ?_) (fun r_142 u t H locs ht hvm w_143 hB hz1 hk1 hS => ?_)
  · have hBX : (E = "java/lang/IndexOutOfBoundsException") := hBX
    rcases hBX with rfl
    exact vx_out (fun x h => (hxt x h).elim) hlocks hce hcv hcl (fun t ht _ => ⟨(), trivial, rfl, hS.F ht⟩) hS.2.2 (Nat.le_of_ble_eq_true rfl) (Nat.le_of_ble_eq_true rfl)
  · exact w_143.elim
theorem dX6_mass_0 : decode cX6_mass 0 = .ok (.aload_n 0, 1) := by decide +kernel
theorem dX6_mass_1 : decode cX6_mass 1 = .ok (.iload_n 1, 1) := by decide +kernel
theorem dX6_mass_2 : decode cX6_mass 2 = .ok (.invokevirtual 169, 3) := by decide +kernel
def wzEX6_mass : List Cond := [.code yX6_mass cX6_mass 2 (some .int), .methodLink RX6 169 yX6_findPiece, .instanceMethod yX6_findPiece, .selects RX6 yX6_findPiece yX6_findPiece, .initialized RX6, .code yX6_findPiece cX6_findPiece 3 (some (.object "Gatherhouse$Piece")), .classLink RX6 365 "java/lang/IndexOutOfBoundsException", .initialized "java/lang/IndexOutOfBoundsException", .fieldLink RX6 30 "Gatherhouse" "pieces" "[LGatherhouse$Piece;"]
def wzX6_mass : List Cond := wzEX6_mass ++ (u_ws RX6 TX6 16 ++ ((vx_atS RX6 369 "java/lang/IndexOutOfBoundsException" ["java/lang/RuntimeException", "java/lang/Exception"]).filter goodWord))
theorem zgEX6_mass : wzEX6_mass.all goodWord = true := by decide +kernel
theorem zuX6_mass_X6 : ∀ w ∈ u_ws RX6 TX6 16, w ∈ wzX6_mass := (fun _ h => (List.mem_append_right _ (List.mem_append_left _ h)))
theorem ztX6_mass_X6_369 : ∀ w ∈ (vx_atS RX6 369 "java/lang/IndexOutOfBoundsException" ["java/lang/RuntimeException", "java/lang/Exception"]).filter goodWord, w ∈ wzX6_mass := (fun _ h => (List.mem_append_right _ (List.mem_append_right _ h)))
theorem gzX6_mass_X6_findPiece_169 : GoodIn wzX6_mass (wsV RX6 169 RX6 yX6_findPiece wzX6_findPiece) := (goodIn_app (z_lift (goodIn_r _ [1, 2, 3, 4] rfl (by decide +kernel))) (goodIn_app (z_lift (goodIn_r wzEX6_findPiece [5, 6, 7, 8] rfl zgEX6_findPiece)) (goodIn_app (goodIn_sub (fun _ h => (List.mem_append_right _ (List.mem_append_left _ h))) zgU_X6) (goodIn_sub (fun _ h => (List.mem_append_right _ (List.mem_append_right _ h))) zgV_X6_369))))
set_option maxHeartbeats 4000000 in
set_option maxRecDepth 100000 in
theorem zc_X6_mass (l : Launch) (hnt : l.stackTraces = false) (D : va_G) (G : Nat × Nat × Nat) (xo : Nat) (xg : Nat) (xp : Nat) (xq : Nat) (r1 : Nat) (r2 : Nat) (r3 : Nat) (r4 : Nat) (se : Nat) (ts : Int32) (hq : Int32) (cq : ClassId) (ii : Int32) (sz : Nat) : vx_Met l yX6_mass wzX6_mass ({ frames := 7, cells := 1, slots := 6, locals := 104 }) (va_Pc [.ref xo, .int ii] (p_RW D G [(cq, .object "Gatherhouse$Piece")] [(xo, .inr (11, [.ref xg, .int 0, .ref xp, .int 0, .ref xq, .int 0, .ref r1, .ref r2, .ref r3, .ref r4, .ref se, .int ts, .int hq, .int 40, .int 0, .int 0])), (xq, .inl (cq, 16, .inr (.inr (.inr (.inr (fun _ => none))))))] sz)) (va_Qi (fun (r : Int32) (u : Unit) => False) (fun (u : Unit) (t : State) => True) (va_A [(xo, .inr (11, [.ref xg, .int 0, .ref xp, .int 0, .ref xq, .int 0, .ref r1, .ref r2, .ref r3, .ref r4, .ref se, .int ts, .int hq, .int 40, .int 0, .int 0])), (xq, .inl (cq, 16, .inr (.inr (.inr (.inr (fun _ => none))))))] sz)) (vx_X (fun (_ : Unit) => True) (fun E (_ : Unit) (_ : State) => (E = "java/lang/IndexOutOfBoundsException")) (va_A [(xo, .inr (11, [.ref xg, .int 0, .ref xp, .int 0, .ref xq, .int 0, .ref r1, .ref r2, .ref r3, .ref r4, .ref se, .int ts, .int hq, .int 40, .int 0, .int 0])), (xq, .inl (cq, 16, .inr (.inr (.inr (.inr (fun _ => none))))))] sz)) 1 6 (va_A [(xo, .inr (11, [.ref xg, .int 0, .ref xp, .int 0, .ref xq, .int 0, .ref r1, .ref r2, .ref r3, .ref r4, .ref se, .int ts, .int hq, .int 40, .int 0, .int 0])), (xq, .inl (cq, 16, .inr (.inr (.inr (.inr (fun _ => none))))))] sz) := by
  refine vx_ofW (cc := cX6_mass) (maxL := 2) (ret := (some .int)) (by decide) rfl ?_
  intro p e s m args below meth c s₁ B hml hxt hv
  obtain ⟨rfl, hsz, hP, hK, hD0, hT, hZ⟩ := hv
  have hx := B.exec
  have hb := B.bytes
  have hr := B.returns
  have hts := atoms_spec (ws := wzX6_mass) B.pre
  have hown : s.vm.findClass RX6 = some m.cls := findClass_of_methodNamed B.named
  have hlocks := B.notSynchronized
  subst hsz
  have hD := hD0.self (sz := s.heap.size)
  generalize hAe : va_A [(xo, .inr (11, [.ref xg, .int 0, .ref xp, .int 0, .ref xq, .int 0, .ref r1, .ref r2, .ref r3, .ref r4, .ref se, .int ts, .int hq, .int 40, .int 0, .int 0])), (xq, .inl (cq, 16, .inr (.inr (.inr (.inr (fun _ => none))))))] s.heap.size = A at hD hZ ⊢
  have hA : ∀ q : Nat, s.heap.size ≤ q → A q := fun q h => by rw [← hAe]; exact Or.inr h
  have hS : va_S A s.heap s.heap [] := va_S.rf
  have hl := lv_entry ([.ref xo, .int ii]) (n := 2) (Nat.le_of_ble_eq_true rfl)
  rw [lg_entry_eq]
  generalize (lg_sl ([.ref xo, .int ii]) ++ List.replicate (2 - (lg_sl ([.ref xo, .int ii])).length) Slot.unset).toArray = ls at hl ⊢
  have hl : lv_has ls 2 [(0, .ref xo), (1, .int ii)] := hl
  refine lv_aload_n hx hb dX6_mass_0 rfl (lv_at hl 0 rfl) ?_
  refine lv_iload_n hx hb dX6_mass_1 rfl (lv_at hl 1 rfl) ?_
  have hFc := va_free (wc := [(xo, .inr (11, [.ref xg, .int 0, .ref xp, .int 0, .ref xq, .int 0, .ref r1, .ref r2, .ref r3, .ref r4, .ref se, .int ts, .int hq, .int 40, .int 0, .int 0])), (xq, .inl (cq, 16, .inr (.inr (.inr (.inr (fun _ => none))))))]) hD hS hA [0, 1] rfl
  refine vx_callq (vx_runV (As := [.int ii]) (rest := []) ⟨hx, hb, hml, hown, hts⟩ (zc_X6_findPiece l hnt D G xo xg xp xq r1 r2 r3 r4 se ts hq cq ii s.heap.size) (cwV 1 hts gzX6_mass_X6_findPiece_169 rfl rfl rfl (by decide +kernel) ⟨(Nat.le_of_ble_eq_true rfl), (Nat.le_of_ble_eq_true rfl)⟩) ⟨p_RW_blind, va_recv hK hP (ci := 11) (q0 := 0) rfl rfl, (p_RW_at (tc := [(cq, .object "Gatherhouse$Piece")]) (wc := [(xo, .inr (11, [.ref xg, .int 0, .ref xp, .int 0, .ref xq, .int 0, .ref r1, .ref r2, .ref r3, .ref r4, .ref se, .int ts, .int hq, .int 40, .int 0, .int 0])), (xq, .inl (cq, 16, .inr (.inr (.inr (.inr (fun _ => none))))))]) hP hK hD hS hA hT hZ [0, 1] [0] rfl rfl (by decide) rfl [.ref xo, .int ii])⟩ rfl rfl hl.1 rfl (lv_room (Nat.le_of_ble_eq_true rfl)) dX6_mass_2 ⟨(Nat.le_of_ble_eq_true rfl), (Nat.le_of_ble_eq_true rfl)⟩) hS (fun q _ h => hFc q h) hFc (fun q _ h => hFc q h) (fun E ce q9 u t H locs ht hvm hpx hBX hz1 hk1 hS hce hcv hcl => ?_) (fun r_144 u t H locs ht hvm w_145 hB hz1 hk1 hS => ?_)
  · have hBX : (E = "java/lang/IndexOutOfBoundsException") := hBX
    rcases hBX with rfl
    exact vx_out (fun x h => (hxt x h).elim) hlocks hce hcv hcl (fun t ht _ => ⟨(), trivial, rfl, hS.F ht⟩) hS.2.2 (Nat.le_of_ble_eq_true rfl) (Nat.le_of_ble_eq_true rfl)
  · exact w_145.elim
theorem dX6_height_0 : decode cX6_height 0 = .ok (.aload_n 0, 1) := by decide +kernel
theorem dX6_height_1 : decode cX6_height 1 = .ok (.iload_n 1, 1) := by decide +kernel
theorem dX6_height_2 : decode cX6_height 2 = .ok (.invokevirtual 169, 3) := by decide +kernel
def wzEX6_height : List Cond := [.code yX6_height cX6_height 2 (some .int), .methodLink RX6 169 yX6_findPiece, .instanceMethod yX6_findPiece, .selects RX6 yX6_findPiece yX6_findPiece, .initialized RX6, .code yX6_findPiece cX6_findPiece 3 (some (.object "Gatherhouse$Piece")), .classLink RX6 365 "java/lang/IndexOutOfBoundsException", .initialized "java/lang/IndexOutOfBoundsException", .fieldLink RX6 30 "Gatherhouse" "pieces" "[LGatherhouse$Piece;"]
def wzX6_height : List Cond := wzEX6_height ++ (u_ws RX6 TX6 16 ++ ((vx_atS RX6 369 "java/lang/IndexOutOfBoundsException" ["java/lang/RuntimeException", "java/lang/Exception"]).filter goodWord))
theorem zgEX6_height : wzEX6_height.all goodWord = true := by decide +kernel
theorem zuX6_height_X6 : ∀ w ∈ u_ws RX6 TX6 16, w ∈ wzX6_height := (fun _ h => (List.mem_append_right _ (List.mem_append_left _ h)))
theorem ztX6_height_X6_369 : ∀ w ∈ (vx_atS RX6 369 "java/lang/IndexOutOfBoundsException" ["java/lang/RuntimeException", "java/lang/Exception"]).filter goodWord, w ∈ wzX6_height := (fun _ h => (List.mem_append_right _ (List.mem_append_right _ h)))
theorem gzX6_height_X6_findPiece_169 : GoodIn wzX6_height (wsV RX6 169 RX6 yX6_findPiece wzX6_findPiece) := (goodIn_app (z_lift (goodIn_r _ [1, 2, 3, 4] rfl (by decide +kernel))) (goodIn_app (z_lift (goodIn_r wzEX6_findPiece [5, 6, 7, 8] rfl zgEX6_findPiece)) (goodIn_app (goodIn_sub (fun _ h => (List.mem_append_right _ (List.mem_append_left _ h))) zgU_X6) (goodIn_sub (fun _ h => (List.mem_append_right _ (List.mem_append_right _ h))) zgV_X6_369))))
set_option maxHeartbeats 4000000 in
set_option maxRecDepth 100000 in
theorem zc_X6_height (l : Launch) (hnt : l.stackTraces = false) (D : va_G) (G : Nat × Nat × Nat) (xo : Nat) (xg : Nat) (xp : Nat) (xq : Nat) (r1 : Nat) (r2 : Nat) (r3 : Nat) (r4 : Nat) (se : Nat) (ts : Int32) (hq : Int32) (cq : ClassId) (ii : Int32) (sz : Nat) : vx_Met l yX6_height wzX6_height ({ frames := 7, cells := 1, slots := 6, locals := 104 }) (va_Pc [.ref xo, .int ii] (p_RW D G [(cq, .object "Gatherhouse$Piece")] [(xo, .inr (11, [.ref xg, .int 0, .ref xp, .int 0, .ref xq, .int 0, .ref r1, .ref r2, .ref r3, .ref r4, .ref se, .int ts, .int hq, .int 40, .int 0, .int 0])), (xq, .inl (cq, 16, .inr (.inr (.inr (.inr (fun _ => none))))))] sz)) (va_Qi (fun (r : Int32) (u : Unit) => False) (fun (u : Unit) (t : State) => True) (va_A [(xo, .inr (11, [.ref xg, .int 0, .ref xp, .int 0, .ref xq, .int 0, .ref r1, .ref r2, .ref r3, .ref r4, .ref se, .int ts, .int hq, .int 40, .int 0, .int 0])), (xq, .inl (cq, 16, .inr (.inr (.inr (.inr (fun _ => none))))))] sz)) (vx_X (fun (_ : Unit) => True) (fun E (_ : Unit) (_ : State) => (E = "java/lang/IndexOutOfBoundsException")) (va_A [(xo, .inr (11, [.ref xg, .int 0, .ref xp, .int 0, .ref xq, .int 0, .ref r1, .ref r2, .ref r3, .ref r4, .ref se, .int ts, .int hq, .int 40, .int 0, .int 0])), (xq, .inl (cq, 16, .inr (.inr (.inr (.inr (fun _ => none))))))] sz)) 1 6 (va_A [(xo, .inr (11, [.ref xg, .int 0, .ref xp, .int 0, .ref xq, .int 0, .ref r1, .ref r2, .ref r3, .ref r4, .ref se, .int ts, .int hq, .int 40, .int 0, .int 0])), (xq, .inl (cq, 16, .inr (.inr (.inr (.inr (fun _ => none))))))] sz) := by
  refine vx_ofW (cc := cX6_height) (maxL := 2) (ret := (some .int)) (by decide) rfl ?_
  intro p e s m args below meth c s₁ B hml hxt hv
  obtain ⟨rfl, hsz, hP, hK, hD0, hT, hZ⟩ := hv
  have hx := B.exec
  have hb := B.bytes
  have hr := B.returns
  have hts := atoms_spec (ws := wzX6_height) B.pre
  have hown : s.vm.findClass RX6 = some m.cls := findClass_of_methodNamed B.named
  have hlocks := B.notSynchronized
  subst hsz
  have hD := hD0.self (sz := s.heap.size)
  generalize hAe : va_A [(xo, .inr (11, [.ref xg, .int 0, .ref xp, .int 0, .ref xq, .int 0, .ref r1, .ref r2, .ref r3, .ref r4, .ref se, .int ts, .int hq, .int 40, .int 0, .int 0])), (xq, .inl (cq, 16, .inr (.inr (.inr (.inr (fun _ => none))))))] s.heap.size = A at hD hZ ⊢
  have hA : ∀ q : Nat, s.heap.size ≤ q → A q := fun q h => by rw [← hAe]; exact Or.inr h
  have hS : va_S A s.heap s.heap [] := va_S.rf
  have hl := lv_entry ([.ref xo, .int ii]) (n := 2) (Nat.le_of_ble_eq_true rfl)
  rw [lg_entry_eq]
  generalize (lg_sl ([.ref xo, .int ii]) ++ List.replicate (2 - (lg_sl ([.ref xo, .int ii])).length) Slot.unset).toArray = ls at hl ⊢
  have hl : lv_has ls 2 [(0, .ref xo), (1, .int ii)] := hl
  refine lv_aload_n hx hb dX6_height_0 rfl (lv_at hl 0 rfl) ?_
  refine lv_iload_n hx hb dX6_height_1 rfl (lv_at hl 1 rfl) ?_
  have hFc := va_free (wc := [(xo, .inr (11, [.ref xg, .int 0, .ref xp, .int 0, .ref xq, .int 0, .ref r1, .ref r2, .ref r3, .ref r4, .ref se, .int ts, .int hq, .int 40, .int 0, .int 0])), (xq, .inl (cq, 16, .inr (.inr (.inr (.inr (fun _ => none))))))]) hD hS hA [0, 1] rfl
  refine vx_callq (vx_runV (As := [.int ii]) (rest := []) ⟨hx, hb, hml, hown, hts⟩ (zc_X6_findPiece l hnt D G xo xg xp xq r1 r2 r3 r4 se ts hq cq ii s.heap.size) (cwV 1 hts gzX6_height_X6_findPiece_169 rfl rfl rfl (by decide +kernel) ⟨(Nat.le_of_ble_eq_true rfl), (Nat.le_of_ble_eq_true rfl)⟩) ⟨p_RW_blind, va_recv hK hP (ci := 11) (q0 := 0) rfl rfl, (p_RW_at (tc := [(cq, .object "Gatherhouse$Piece")]) (wc := [(xo, .inr (11, [.ref xg, .int 0, .ref xp, .int 0, .ref xq, .int 0, .ref r1, .ref r2, .ref r3, .ref r4, .ref se, .int ts, .int hq, .int 40, .int 0, .int 0])), (xq, .inl (cq, 16, .inr (.inr (.inr (.inr (fun _ => none))))))]) hP hK hD hS hA hT hZ [0, 1] [0] rfl rfl (by decide) rfl [.ref xo, .int ii])⟩ rfl rfl hl.1 rfl (lv_room (Nat.le_of_ble_eq_true rfl)) dX6_height_2 ⟨(Nat.le_of_ble_eq_true rfl), (Nat.le_of_ble_eq_true rfl)⟩) hS (fun q _ h => hFc q h) hFc (fun q _ h => hFc q h) (fun E ce q9 u t H locs ht hvm hpx hBX hz1 hk1 hS hce hcv hcl => ?_) (fun r_146 u t H locs ht hvm w_147 hB hz1 hk1 hS => ?_)
  · have hBX : (E = "java/lang/IndexOutOfBoundsException") := hBX
    rcases hBX with rfl
    exact vx_out (fun x h => (hxt x h).elim) hlocks hce hcv hcl (fun t ht _ => ⟨(), trivial, rfl, hS.F ht⟩) hS.2.2 (Nat.le_of_ble_eq_true rfl) (Nat.le_of_ble_eq_true rfl)
  · exact w_147.elim
theorem dX6_layers_0 : decode cX6_layers 0 = .ok (.aload_n 0, 1) := by decide +kernel
theorem dX6_layers_1 : decode cX6_layers 1 = .ok (.iload_n 1, 1) := by decide +kernel
theorem dX6_layers_2 : decode cX6_layers 2 = .ok (.invokevirtual 169, 3) := by decide +kernel
def wzEX6_layers : List Cond := [.code yX6_layers cX6_layers 2 (some .int), .methodLink RX6 169 yX6_findPiece, .instanceMethod yX6_findPiece, .selects RX6 yX6_findPiece yX6_findPiece, .initialized RX6, .code yX6_findPiece cX6_findPiece 3 (some (.object "Gatherhouse$Piece")), .classLink RX6 365 "java/lang/IndexOutOfBoundsException", .initialized "java/lang/IndexOutOfBoundsException", .fieldLink RX6 30 "Gatherhouse" "pieces" "[LGatherhouse$Piece;"]
def wzX6_layers : List Cond := wzEX6_layers ++ (u_ws RX6 TX6 16 ++ ((vx_atS RX6 369 "java/lang/IndexOutOfBoundsException" ["java/lang/RuntimeException", "java/lang/Exception"]).filter goodWord))
theorem zgEX6_layers : wzEX6_layers.all goodWord = true := by decide +kernel
theorem zuX6_layers_X6 : ∀ w ∈ u_ws RX6 TX6 16, w ∈ wzX6_layers := (fun _ h => (List.mem_append_right _ (List.mem_append_left _ h)))
theorem ztX6_layers_X6_369 : ∀ w ∈ (vx_atS RX6 369 "java/lang/IndexOutOfBoundsException" ["java/lang/RuntimeException", "java/lang/Exception"]).filter goodWord, w ∈ wzX6_layers := (fun _ h => (List.mem_append_right _ (List.mem_append_right _ h)))
theorem gzX6_layers_X6_findPiece_169 : GoodIn wzX6_layers (wsV RX6 169 RX6 yX6_findPiece wzX6_findPiece) := (goodIn_app (z_lift (goodIn_r _ [1, 2, 3, 4] rfl (by decide +kernel))) (goodIn_app (z_lift (goodIn_r wzEX6_findPiece [5, 6, 7, 8] rfl zgEX6_findPiece)) (goodIn_app (goodIn_sub (fun _ h => (List.mem_append_right _ (List.mem_append_left _ h))) zgU_X6) (goodIn_sub (fun _ h => (List.mem_append_right _ (List.mem_append_right _ h))) zgV_X6_369))))
set_option maxHeartbeats 4000000 in
set_option maxRecDepth 100000 in
theorem zc_X6_layers (l : Launch) (hnt : l.stackTraces = false) (D : va_G) (G : Nat × Nat × Nat) (xo : Nat) (xg : Nat) (xp : Nat) (xq : Nat) (r1 : Nat) (r2 : Nat) (r3 : Nat) (r4 : Nat) (se : Nat) (ts : Int32) (hq : Int32) (cq : ClassId) (ii : Int32) (sz : Nat) : vx_Met l yX6_layers wzX6_layers ({ frames := 7, cells := 1, slots := 6, locals := 104 }) (va_Pc [.ref xo, .int ii] (p_RW D G [(cq, .object "Gatherhouse$Piece")] [(xo, .inr (11, [.ref xg, .int 0, .ref xp, .int 0, .ref xq, .int 0, .ref r1, .ref r2, .ref r3, .ref r4, .ref se, .int ts, .int hq, .int 40, .int 0, .int 0])), (xq, .inl (cq, 16, .inr (.inr (.inr (.inr (fun _ => none))))))] sz)) (va_Qi (fun (r : Int32) (u : Unit) => False) (fun (u : Unit) (t : State) => True) (va_A [(xo, .inr (11, [.ref xg, .int 0, .ref xp, .int 0, .ref xq, .int 0, .ref r1, .ref r2, .ref r3, .ref r4, .ref se, .int ts, .int hq, .int 40, .int 0, .int 0])), (xq, .inl (cq, 16, .inr (.inr (.inr (.inr (fun _ => none))))))] sz)) (vx_X (fun (_ : Unit) => True) (fun E (_ : Unit) (_ : State) => (E = "java/lang/IndexOutOfBoundsException")) (va_A [(xo, .inr (11, [.ref xg, .int 0, .ref xp, .int 0, .ref xq, .int 0, .ref r1, .ref r2, .ref r3, .ref r4, .ref se, .int ts, .int hq, .int 40, .int 0, .int 0])), (xq, .inl (cq, 16, .inr (.inr (.inr (.inr (fun _ => none))))))] sz)) 1 6 (va_A [(xo, .inr (11, [.ref xg, .int 0, .ref xp, .int 0, .ref xq, .int 0, .ref r1, .ref r2, .ref r3, .ref r4, .ref se, .int ts, .int hq, .int 40, .int 0, .int 0])), (xq, .inl (cq, 16, .inr (.inr (.inr (.inr (fun _ => none))))))] sz) := by
  refine vx_ofW (cc := cX6_layers) (maxL := 2) (ret := (some .int)) (by decide) rfl ?_
  intro p e s m args below meth c s₁ B hml hxt hv
  obtain ⟨rfl, hsz, hP, hK, hD0, hT, hZ⟩ := hv
  have hx := B.exec
  have hb := B.bytes
  have hr := B.returns
  have hts := atoms_spec (ws := wzX6_layers) B.pre
  have hown : s.vm.findClass RX6 = some m.cls := findClass_of_methodNamed B.named
  have hlocks := B.notSynchronized
  subst hsz
  have hD := hD0.self (sz := s.heap.size)
  generalize hAe : va_A [(xo, .inr (11, [.ref xg, .int 0, .ref xp, .int 0, .ref xq, .int 0, .ref r1, .ref r2, .ref r3, .ref r4, .ref se, .int ts, .int hq, .int 40, .int 0, .int 0])), (xq, .inl (cq, 16, .inr (.inr (.inr (.inr (fun _ => none))))))] s.heap.size = A at hD hZ ⊢
  have hA : ∀ q : Nat, s.heap.size ≤ q → A q := fun q h => by rw [← hAe]; exact Or.inr h
  have hS : va_S A s.heap s.heap [] := va_S.rf
  have hl := lv_entry ([.ref xo, .int ii]) (n := 2) (Nat.le_of_ble_eq_true rfl)
  rw [lg_entry_eq]
  generalize (lg_sl ([.ref xo, .int ii]) ++ List.replicate (2 - (lg_sl ([.ref xo, .int ii])).length) Slot.unset).toArray = ls at hl ⊢
  have hl : lv_has ls 2 [(0, .ref xo), (1, .int ii)] := hl
  refine lv_aload_n hx hb dX6_layers_0 rfl (lv_at hl 0 rfl) ?_
  refine lv_iload_n hx hb dX6_layers_1 rfl (lv_at hl 1 rfl) ?_
  have hFc := va_free (wc := [(xo, .inr (11, [.ref xg, .int 0, .ref xp, .int 0, .ref xq, .int 0, .ref r1, .ref r2, .ref r3, .ref r4, .ref se, .int ts, .int hq, .int 40, .int 0, .int 0])), (xq, .inl (cq, 16, .inr (.inr (.inr (.inr (fun _ => none))))))]) hD hS hA [0, 1] rfl
  refine vx_callq (vx_runV (As := [.int ii]) (rest := []) ⟨hx, hb, hml, hown, hts⟩ (zc_X6_findPiece l hnt D G xo xg xp xq r1 r2 r3 r4 se ts hq cq ii s.heap.size) (cwV 1 hts gzX6_layers_X6_findPiece_169 rfl rfl rfl (by decide +kernel) ⟨(Nat.le_of_ble_eq_true rfl), (Nat.le_of_ble_eq_true rfl)⟩) ⟨p_RW_blind, va_recv hK hP (ci := 11) (q0 := 0) rfl rfl, (p_RW_at (tc := [(cq, .object "Gatherhouse$Piece")]) (wc := [(xo, .inr (11, [.ref xg, .int 0, .ref xp, .int 0, .ref xq, .int 0, .ref r1, .ref r2, .ref r3, .ref r4, .ref se, .int ts, .int hq, .int 40, .int 0, .int 0])), (xq, .inl (cq, 16, .inr (.inr (.inr (.inr (fun _ => none))))))]) hP hK hD hS hA hT hZ [0, 1] [0] rfl rfl (by decide) rfl [.ref xo, .int ii])⟩ rfl rfl hl.1 rfl (lv_room (Nat.le_of_ble_eq_true rfl)) dX6_layers_2 ⟨(Nat.le_of_ble_eq_true rfl), (Nat.le_of_ble_eq_true rfl)⟩) hS (fun q _ h => hFc q h) hFc (fun q _ h => hFc q h) (fun E ce q9 u t H locs ht hvm hpx hBX hz1 hk1 hS hce hcv hcl => ?_) (fun r_148 u t H locs ht hvm w_149 hB hz1 hk1 hS => ?_)
  · have hBX : (E = "java/lang/IndexOutOfBoundsException") := hBX
    rcases hBX with rfl
    exact vx_out (fun x h => (hxt x h).elim) hlocks hce hcv hcl (fun t ht _ => ⟨(), trivial, rfl, hS.F ht⟩) hS.2.2 (Nat.le_of_ble_eq_true rfl) (Nat.le_of_ble_eq_true rfl)
  · exact w_149.elim
theorem dX6_flaws_0 : decode cX6_flaws 0 = .ok (.aload_n 0, 1) := by decide +kernel
theorem dX6_flaws_1 : decode cX6_flaws 1 = .ok (.iload_n 1, 1) := by decide +kernel
theorem dX6_flaws_2 : decode cX6_flaws 2 = .ok (.invokevirtual 169, 3) := by decide +kernel
def wzEX6_flaws : List Cond := [.code yX6_flaws cX6_flaws 2 (some .int), .methodLink RX6 169 yX6_findPiece, .instanceMethod yX6_findPiece, .selects RX6 yX6_findPiece yX6_findPiece, .initialized RX6, .code yX6_findPiece cX6_findPiece 3 (some (.object "Gatherhouse$Piece")), .classLink RX6 365 "java/lang/IndexOutOfBoundsException", .initialized "java/lang/IndexOutOfBoundsException", .fieldLink RX6 30 "Gatherhouse" "pieces" "[LGatherhouse$Piece;"]
def wzX6_flaws : List Cond := wzEX6_flaws ++ (u_ws RX6 TX6 16 ++ ((vx_atS RX6 369 "java/lang/IndexOutOfBoundsException" ["java/lang/RuntimeException", "java/lang/Exception"]).filter goodWord))
theorem zgEX6_flaws : wzEX6_flaws.all goodWord = true := by decide +kernel
theorem zuX6_flaws_X6 : ∀ w ∈ u_ws RX6 TX6 16, w ∈ wzX6_flaws := (fun _ h => (List.mem_append_right _ (List.mem_append_left _ h)))
theorem ztX6_flaws_X6_369 : ∀ w ∈ (vx_atS RX6 369 "java/lang/IndexOutOfBoundsException" ["java/lang/RuntimeException", "java/lang/Exception"]).filter goodWord, w ∈ wzX6_flaws := (fun _ h => (List.mem_append_right _ (List.mem_append_right _ h)))
theorem gzX6_flaws_X6_findPiece_169 : GoodIn wzX6_flaws (wsV RX6 169 RX6 yX6_findPiece wzX6_findPiece) := (goodIn_app (z_lift (goodIn_r _ [1, 2, 3, 4] rfl (by decide +kernel))) (goodIn_app (z_lift (goodIn_r wzEX6_findPiece [5, 6, 7, 8] rfl zgEX6_findPiece)) (goodIn_app (goodIn_sub (fun _ h => (List.mem_append_right _ (List.mem_append_left _ h))) zgU_X6) (goodIn_sub (fun _ h => (List.mem_append_right _ (List.mem_append_right _ h))) zgV_X6_369))))
set_option maxHeartbeats 4000000 in
set_option maxRecDepth 100000 in
theorem zc_X6_flaws (l : Launch) (hnt : l.stackTraces = false) (D : va_G) (G : Nat × Nat × Nat) (xo : Nat) (xg : Nat) (xp : Nat) (xq : Nat) (r1 : Nat) (r2 : Nat) (r3 : Nat) (r4 : Nat) (se : Nat) (ts : Int32) (hq : Int32) (cq : ClassId) (ii : Int32) (sz : Nat) : vx_Met l yX6_flaws wzX6_flaws ({ frames := 7, cells := 1, slots := 6, locals := 104 }) (va_Pc [.ref xo, .int ii] (p_RW D G [(cq, .object "Gatherhouse$Piece")] [(xo, .inr (11, [.ref xg, .int 0, .ref xp, .int 0, .ref xq, .int 0, .ref r1, .ref r2, .ref r3, .ref r4, .ref se, .int ts, .int hq, .int 40, .int 0, .int 0])), (xq, .inl (cq, 16, .inr (.inr (.inr (.inr (fun _ => none))))))] sz)) (va_Qi (fun (r : Int32) (u : Unit) => False) (fun (u : Unit) (t : State) => True) (va_A [(xo, .inr (11, [.ref xg, .int 0, .ref xp, .int 0, .ref xq, .int 0, .ref r1, .ref r2, .ref r3, .ref r4, .ref se, .int ts, .int hq, .int 40, .int 0, .int 0])), (xq, .inl (cq, 16, .inr (.inr (.inr (.inr (fun _ => none))))))] sz)) (vx_X (fun (_ : Unit) => True) (fun E (_ : Unit) (_ : State) => (E = "java/lang/IndexOutOfBoundsException")) (va_A [(xo, .inr (11, [.ref xg, .int 0, .ref xp, .int 0, .ref xq, .int 0, .ref r1, .ref r2, .ref r3, .ref r4, .ref se, .int ts, .int hq, .int 40, .int 0, .int 0])), (xq, .inl (cq, 16, .inr (.inr (.inr (.inr (fun _ => none))))))] sz)) 1 6 (va_A [(xo, .inr (11, [.ref xg, .int 0, .ref xp, .int 0, .ref xq, .int 0, .ref r1, .ref r2, .ref r3, .ref r4, .ref se, .int ts, .int hq, .int 40, .int 0, .int 0])), (xq, .inl (cq, 16, .inr (.inr (.inr (.inr (fun _ => none))))))] sz) := by
  refine vx_ofW (cc := cX6_flaws) (maxL := 2) (ret := (some .int)) (by decide) rfl ?_
  intro p e s m args below meth c s₁ B hml hxt hv
  obtain ⟨rfl, hsz, hP, hK, hD0, hT, hZ⟩ := hv
  have hx := B.exec
  have hb := B.bytes
  have hr := B.returns
  have hts := atoms_spec (ws := wzX6_flaws) B.pre
  have hown : s.vm.findClass RX6 = some m.cls := findClass_of_methodNamed B.named
  have hlocks := B.notSynchronized
  subst hsz
  have hD := hD0.self (sz := s.heap.size)
  generalize hAe : va_A [(xo, .inr (11, [.ref xg, .int 0, .ref xp, .int 0, .ref xq, .int 0, .ref r1, .ref r2, .ref r3, .ref r4, .ref se, .int ts, .int hq, .int 40, .int 0, .int 0])), (xq, .inl (cq, 16, .inr (.inr (.inr (.inr (fun _ => none))))))] s.heap.size = A at hD hZ ⊢
  have hA : ∀ q : Nat, s.heap.size ≤ q → A q := fun q h => by rw [← hAe]; exact Or.inr h
  have hS : va_S A s.heap s.heap [] := va_S.rf
  have hl := lv_entry ([.ref xo, .int ii]) (n := 2) (Nat.le_of_ble_eq_true rfl)
  rw [lg_entry_eq]
  generalize (lg_sl ([.ref xo, .int ii]) ++ List.replicate (2 - (lg_sl ([.ref xo, .int ii])).length) Slot.unset).toArray = ls at hl ⊢
  have hl : lv_has ls 2 [(0, .ref xo), (1, .int ii)] := hl
  refine lv_aload_n hx hb dX6_flaws_0 rfl (lv_at hl 0 rfl) ?_
  refine lv_iload_n hx hb dX6_flaws_1 rfl (lv_at hl 1 rfl) ?_
  have hFc := va_free (wc := [(xo, .inr (11, [.ref xg, .int 0, .ref xp, .int 0, .ref xq, .int 0, .ref r1, .ref r2, .ref r3, .ref r4, .ref se, .int ts, .int hq, .int 40, .int 0, .int 0])), (xq, .inl (cq, 16, .inr (.inr (.inr (.inr (fun _ => none))))))]) hD hS hA [0, 1] rfl
  refine vx_callq (vx_runV (As := [.int ii]) (rest := []) ⟨hx, hb, hml, hown, hts⟩ (zc_X6_findPiece l hnt D G xo xg xp xq r1 r2 r3 r4 se ts hq cq ii s.heap.size) (cwV 1 hts gzX6_flaws_X6_findPiece_169 rfl rfl rfl (by decide +kernel) ⟨(Nat.le_of_ble_eq_true rfl), (Nat.le_of_ble_eq_true rfl)⟩) ⟨p_RW_blind, va_recv hK hP (ci := 11) (q0 := 0) rfl rfl, (p_RW_at (tc := [(cq, .object "Gatherhouse$Piece")]) (wc := [(xo, .inr (11, [.ref xg, .int 0, .ref xp, .int 0, .ref xq, .int 0, .ref r1, .ref r2, .ref r3, .ref r4, .ref se, .int ts, .int hq, .int 40, .int 0, .int 0])), (xq, .inl (cq, 16, .inr (.inr (.inr (.inr (fun _ => none))))))]) hP hK hD hS hA hT hZ [0, 1] [0] rfl rfl (by decide) rfl [.ref xo, .int ii])⟩ rfl rfl hl.1 rfl (lv_room (Nat.le_of_ble_eq_true rfl)) dX6_flaws_2 ⟨(Nat.le_of_ble_eq_true rfl), (Nat.le_of_ble_eq_true rfl)⟩) hS (fun q _ h => hFc q h) hFc (fun q _ h => hFc q h) (fun E ce q9 u t H locs ht hvm hpx hBX hz1 hk1 hS hce hcv hcl => ?_) (fun r_150 u t H locs ht hvm w_151 hB hz1 hk1 hS => ?_)
  · have hBX : (E = "java/lang/IndexOutOfBoundsException") := hBX
    rcases hBX with rfl
    exact vx_out (fun x h => (hxt x h).elim) hlocks hce hcv hcl (fun t ht _ => ⟨(), trivial, rfl, hS.F ht⟩) hS.2.2 (Nat.le_of_ble_eq_true rfl) (Nat.le_of_ble_eq_true rfl)
  · exact w_151.elim
theorem dX6_low_0 : decode cX6_low 0 = .ok (.aload_n 0, 1) := by decide +kernel
theorem dX6_low_1 : decode cX6_low 1 = .ok (.iload_n 1, 1) := by decide +kernel
theorem dX6_low_2 : decode cX6_low 2 = .ok (.invokevirtual 169, 3) := by decide +kernel
def wzEX6_low : List Cond := [.code yX6_low cX6_low 4 (some .int), .methodLink RX6 169 yX6_findPiece, .instanceMethod yX6_findPiece, .selects RX6 yX6_findPiece yX6_findPiece, .initialized RX6, .code yX6_findPiece cX6_findPiece 3 (some (.object "Gatherhouse$Piece")), .classLink RX6 365 "java/lang/IndexOutOfBoundsException", .initialized "java/lang/IndexOutOfBoundsException", .fieldLink RX6 30 "Gatherhouse" "pieces" "[LGatherhouse$Piece;"]
def wzX6_low : List Cond := wzEX6_low ++ (u_ws RX6 TX6 16 ++ ((vx_atS RX6 369 "java/lang/IndexOutOfBoundsException" ["java/lang/RuntimeException", "java/lang/Exception"]).filter goodWord))
theorem zgEX6_low : wzEX6_low.all goodWord = true := by decide +kernel
theorem zuX6_low_X6 : ∀ w ∈ u_ws RX6 TX6 16, w ∈ wzX6_low := (fun _ h => (List.mem_append_right _ (List.mem_append_left _ h)))
theorem ztX6_low_X6_369 : ∀ w ∈ (vx_atS RX6 369 "java/lang/IndexOutOfBoundsException" ["java/lang/RuntimeException", "java/lang/Exception"]).filter goodWord, w ∈ wzX6_low := (fun _ h => (List.mem_append_right _ (List.mem_append_right _ h)))
theorem gzX6_low_X6_findPiece_169 : GoodIn wzX6_low (wsV RX6 169 RX6 yX6_findPiece wzX6_findPiece) := (goodIn_app (z_lift (goodIn_r _ [1, 2, 3, 4] rfl (by decide +kernel))) (goodIn_app (z_lift (goodIn_r wzEX6_findPiece [5, 6, 7, 8] rfl zgEX6_findPiece)) (goodIn_app (goodIn_sub (fun _ h => (List.mem_append_right _ (List.mem_append_left _ h))) zgU_X6) (goodIn_sub (fun _ h => (List.mem_append_right _ (List.mem_append_right _ h))) zgV_X6_369))))
set_option maxHeartbeats 4000000 in
set_option maxRecDepth 100000 in
theorem zc_X6_low (l : Launch) (hnt : l.stackTraces = false) (D : va_G) (G : Nat × Nat × Nat) (xo : Nat) (xg : Nat) (xp : Nat) (xq : Nat) (r1 : Nat) (r2 : Nat) (r3 : Nat) (r4 : Nat) (se : Nat) (ts : Int32) (hq : Int32) (cq : ClassId) (ii : Int32) (jj : Int32) (sz : Nat) : vx_Met l yX6_low wzX6_low ({ frames := 7, cells := 1, slots := 6, locals := 104 }) (va_Pc [.ref xo, .int ii, .int jj] (p_RW D G [(cq, .object "Gatherhouse$Piece")] [(xo, .inr (11, [.ref xg, .int 0, .ref xp, .int 0, .ref xq, .int 0, .ref r1, .ref r2, .ref r3, .ref r4, .ref se, .int ts, .int hq, .int 40, .int 0, .int 0])), (xq, .inl (cq, 16, .inr (.inr (.inr (.inr (fun _ => none))))))] sz)) (va_Qi (fun (r : Int32) (u : Unit) => False) (fun (u : Unit) (t : State) => True) (va_A [(xo, .inr (11, [.ref xg, .int 0, .ref xp, .int 0, .ref xq, .int 0, .ref r1, .ref r2, .ref r3, .ref r4, .ref se, .int ts, .int hq, .int 40, .int 0, .int 0])), (xq, .inl (cq, 16, .inr (.inr (.inr (.inr (fun _ => none))))))] sz)) (vx_X (fun (_ : Unit) => True) (fun E (_ : Unit) (_ : State) => (E = "java/lang/IndexOutOfBoundsException")) (va_A [(xo, .inr (11, [.ref xg, .int 0, .ref xp, .int 0, .ref xq, .int 0, .ref r1, .ref r2, .ref r3, .ref r4, .ref se, .int ts, .int hq, .int 40, .int 0, .int 0])), (xq, .inl (cq, 16, .inr (.inr (.inr (.inr (fun _ => none))))))] sz)) 1 6 (va_A [(xo, .inr (11, [.ref xg, .int 0, .ref xp, .int 0, .ref xq, .int 0, .ref r1, .ref r2, .ref r3, .ref r4, .ref se, .int ts, .int hq, .int 40, .int 0, .int 0])), (xq, .inl (cq, 16, .inr (.inr (.inr (.inr (fun _ => none))))))] sz) := by
  refine vx_ofW (cc := cX6_low) (maxL := 4) (ret := (some .int)) (by decide) rfl ?_
  intro p e s m args below meth c s₁ B hml hxt hv
  obtain ⟨rfl, hsz, hP, hK, hD0, hT, hZ⟩ := hv
  have hx := B.exec
  have hb := B.bytes
  have hr := B.returns
  have hts := atoms_spec (ws := wzX6_low) B.pre
  have hown : s.vm.findClass RX6 = some m.cls := findClass_of_methodNamed B.named
  have hlocks := B.notSynchronized
  subst hsz
  have hD := hD0.self (sz := s.heap.size)
  generalize hAe : va_A [(xo, .inr (11, [.ref xg, .int 0, .ref xp, .int 0, .ref xq, .int 0, .ref r1, .ref r2, .ref r3, .ref r4, .ref se, .int ts, .int hq, .int 40, .int 0, .int 0])), (xq, .inl (cq, 16, .inr (.inr (.inr (.inr (fun _ => none))))))] s.heap.size = A at hD hZ ⊢
  have hA : ∀ q : Nat, s.heap.size ≤ q → A q := fun q h => by rw [← hAe]; exact Or.inr h
  have hS : va_S A s.heap s.heap [] := va_S.rf
  have hl := lv_entry ([.ref xo, .int ii, .int jj]) (n := 4) (Nat.le_of_ble_eq_true rfl)
  rw [lg_entry_eq]
  generalize (lg_sl ([.ref xo, .int ii, .int jj]) ++ List.replicate (4 - (lg_sl ([.ref xo, .int ii, .int jj])).length) Slot.unset).toArray = ls at hl ⊢
  have hl : lv_has ls 4 [(0, .ref xo), (1, .int ii), (2, .int jj)] := hl
  refine lv_aload_n hx hb dX6_low_0 rfl (lv_at hl 0 rfl) ?_
  refine lv_iload_n hx hb dX6_low_1 rfl (lv_at hl 1 rfl) ?_
  have hFc := va_free (wc := [(xo, .inr (11, [.ref xg, .int 0, .ref xp, .int 0, .ref xq, .int 0, .ref r1, .ref r2, .ref r3, .ref r4, .ref se, .int ts, .int hq, .int 40, .int 0, .int 0])), (xq, .inl (cq, 16, .inr (.inr (.inr (.inr (fun _ => none))))))]) hD hS hA [0, 1] rfl
  refine vx_callq (vx_runV (As := [.int ii]) (rest := []) ⟨hx, hb, hml, hown, hts⟩ (zc_X6_findPiece l hnt D G xo xg xp xq r1 r2 r3 r4 se ts hq cq ii s.heap.size) (cwV 1 hts gzX6_low_X6_findPiece_169 rfl rfl rfl (by decide +kernel) ⟨(Nat.le_of_ble_eq_true rfl), (Nat.le_of_ble_eq_true rfl)⟩) ⟨p_RW_blind, va_recv hK hP (ci := 11) (q0 := 0) rfl rfl, (p_RW_at (tc := [(cq, .object "Gatherhouse$Piece")]) (wc := [(xo, .inr (11, [.ref xg, .int 0, .ref xp, .int 0, .ref xq, .int 0, .ref r1, .ref r2, .ref r3, .ref r4, .ref se, .int ts, .int hq, .int 40, .int 0, .int 0])), (xq, .inl (cq, 16, .inr (.inr (.inr (.inr (fun _ => none))))))]) hP hK hD hS hA hT hZ [0, 1] [0] rfl rfl (by decide) rfl [.ref xo, .int ii])⟩ rfl rfl hl.1 rfl (lv_room (Nat.le_of_ble_eq_true rfl)) dX6_low_2 ⟨(Nat.le_of_ble_eq_true rfl), (Nat.le_of_ble_eq_true rfl)⟩) hS (fun q _ h => hFc q h) hFc (fun q _ h => hFc q h) (fun E ce q9 u t H locs ht hvm hpx hBX hz1 hk1 hS hce hcv hcl => ?_) (fun r_152 u t H locs ht hvm w_153 hB hz1 hk1 hS => ?_)
  · have hBX : (E = "java/lang/IndexOutOfBoundsException") := hBX
    rcases hBX with rfl
    exact vx_out (fun x h => (hxt x h).elim) hlocks hce hcv hcl (fun t ht _ => ⟨(), trivial, rfl, hS.F ht⟩) hS.2.2 (Nat.le_of_ble_eq_true rfl) (Nat.le_of_ble_eq_true rfl)
  · exact w_153.elim
theorem dX6_strain_0 : decode cX6_strain 0 = .ok (.aload_n 0, 1) := by decide +kernel
theorem dX6_strain_1 : decode cX6_strain 1 = .ok (.iload_n 1, 1) := by decide +kernel
theorem dX6_strain_2 : decode cX6_strain 2 = .ok (.invokevirtual 169, 3) := by decide +kernel
def wzEX6_strain : List Cond := [.code yX6_strain cX6_strain 2 (some .int), .methodLink RX6 169 yX6_findPiece, .instanceMethod yX6_findPiece, .selects RX6 yX6_findPiece yX6_findPiece, .initialized RX6, .code yX6_findPiece cX6_findPiece 3 (some (.object "Gatherhouse$Piece")), .classLink RX6 365 "java/lang/IndexOutOfBoundsException", .initialized "java/lang/IndexOutOfBoundsException", .fieldLink RX6 30 "Gatherhouse" "pieces" "[LGatherhouse$Piece;"]
def wzX6_strain : List Cond := wzEX6_strain ++ (u_ws RX6 TX6 16 ++ ((vx_atS RX6 369 "java/lang/IndexOutOfBoundsException" ["java/lang/RuntimeException", "java/lang/Exception"]).filter goodWord))
theorem zgEX6_strain : wzEX6_strain.all goodWord = true := by decide +kernel
theorem zuX6_strain_X6 : ∀ w ∈ u_ws RX6 TX6 16, w ∈ wzX6_strain := (fun _ h => (List.mem_append_right _ (List.mem_append_left _ h)))
theorem ztX6_strain_X6_369 : ∀ w ∈ (vx_atS RX6 369 "java/lang/IndexOutOfBoundsException" ["java/lang/RuntimeException", "java/lang/Exception"]).filter goodWord, w ∈ wzX6_strain := (fun _ h => (List.mem_append_right _ (List.mem_append_right _ h)))
theorem gzX6_strain_X6_findPiece_169 : GoodIn wzX6_strain (wsV RX6 169 RX6 yX6_findPiece wzX6_findPiece) := (goodIn_app (z_lift (goodIn_r _ [1, 2, 3, 4] rfl (by decide +kernel))) (goodIn_app (z_lift (goodIn_r wzEX6_findPiece [5, 6, 7, 8] rfl zgEX6_findPiece)) (goodIn_app (goodIn_sub (fun _ h => (List.mem_append_right _ (List.mem_append_left _ h))) zgU_X6) (goodIn_sub (fun _ h => (List.mem_append_right _ (List.mem_append_right _ h))) zgV_X6_369))))
set_option maxHeartbeats 4000000 in
set_option maxRecDepth 100000 in
theorem zc_X6_strain (l : Launch) (hnt : l.stackTraces = false) (D : va_G) (G : Nat × Nat × Nat) (xo : Nat) (xg : Nat) (xp : Nat) (xq : Nat) (r1 : Nat) (r2 : Nat) (r3 : Nat) (r4 : Nat) (se : Nat) (ts : Int32) (hq : Int32) (cq : ClassId) (ii : Int32) (sz : Nat) : vx_Met l yX6_strain wzX6_strain ({ frames := 7, cells := 1, slots := 6, locals := 104 }) (va_Pc [.ref xo, .int ii] (p_RW D G [(cq, .object "Gatherhouse$Piece")] [(xo, .inr (11, [.ref xg, .int 0, .ref xp, .int 0, .ref xq, .int 0, .ref r1, .ref r2, .ref r3, .ref r4, .ref se, .int ts, .int hq, .int 40, .int 0, .int 0])), (xq, .inl (cq, 16, .inr (.inr (.inr (.inr (fun _ => none))))))] sz)) (va_Qi (fun (r : Int32) (u : Unit) => False) (fun (u : Unit) (t : State) => True) (va_A [(xo, .inr (11, [.ref xg, .int 0, .ref xp, .int 0, .ref xq, .int 0, .ref r1, .ref r2, .ref r3, .ref r4, .ref se, .int ts, .int hq, .int 40, .int 0, .int 0])), (xq, .inl (cq, 16, .inr (.inr (.inr (.inr (fun _ => none))))))] sz)) (vx_X (fun (_ : Unit) => True) (fun E (_ : Unit) (_ : State) => (E = "java/lang/IndexOutOfBoundsException")) (va_A [(xo, .inr (11, [.ref xg, .int 0, .ref xp, .int 0, .ref xq, .int 0, .ref r1, .ref r2, .ref r3, .ref r4, .ref se, .int ts, .int hq, .int 40, .int 0, .int 0])), (xq, .inl (cq, 16, .inr (.inr (.inr (.inr (fun _ => none))))))] sz)) 1 6 (va_A [(xo, .inr (11, [.ref xg, .int 0, .ref xp, .int 0, .ref xq, .int 0, .ref r1, .ref r2, .ref r3, .ref r4, .ref se, .int ts, .int hq, .int 40, .int 0, .int 0])), (xq, .inl (cq, 16, .inr (.inr (.inr (.inr (fun _ => none))))))] sz) := by
  refine vx_ofW (cc := cX6_strain) (maxL := 2) (ret := (some .int)) (by decide) rfl ?_
  intro p e s m args below meth c s₁ B hml hxt hv
  obtain ⟨rfl, hsz, hP, hK, hD0, hT, hZ⟩ := hv
  have hx := B.exec
  have hb := B.bytes
  have hr := B.returns
  have hts := atoms_spec (ws := wzX6_strain) B.pre
  have hown : s.vm.findClass RX6 = some m.cls := findClass_of_methodNamed B.named
  have hlocks := B.notSynchronized
  subst hsz
  have hD := hD0.self (sz := s.heap.size)
  generalize hAe : va_A [(xo, .inr (11, [.ref xg, .int 0, .ref xp, .int 0, .ref xq, .int 0, .ref r1, .ref r2, .ref r3, .ref r4, .ref se, .int ts, .int hq, .int 40, .int 0, .int 0])), (xq, .inl (cq, 16, .inr (.inr (.inr (.inr (fun _ => none))))))] s.heap.size = A at hD hZ ⊢
  have hA : ∀ q : Nat, s.heap.size ≤ q → A q := fun q h => by rw [← hAe]; exact Or.inr h
  have hS : va_S A s.heap s.heap [] := va_S.rf
  have hl := lv_entry ([.ref xo, .int ii]) (n := 2) (Nat.le_of_ble_eq_true rfl)
  rw [lg_entry_eq]
  generalize (lg_sl ([.ref xo, .int ii]) ++ List.replicate (2 - (lg_sl ([.ref xo, .int ii])).length) Slot.unset).toArray = ls at hl ⊢
  have hl : lv_has ls 2 [(0, .ref xo), (1, .int ii)] := hl
  refine lv_aload_n hx hb dX6_strain_0 rfl (lv_at hl 0 rfl) ?_
  refine lv_iload_n hx hb dX6_strain_1 rfl (lv_at hl 1 rfl) ?_
  have hFc := va_free (wc := [(xo, .inr (11, [.ref xg, .int 0, .ref xp, .int 0, .ref xq, .int 0, .ref r1, .ref r2, .ref r3, .ref r4, .ref se, .int ts, .int hq, .int 40, .int 0, .int 0])), (xq, .inl (cq, 16, .inr (.inr (.inr (.inr (fun _ => none))))))]) hD hS hA [0, 1] rfl
  refine vx_callq (vx_runV (As := [.int ii]) (rest := []) ⟨hx, hb, hml, hown, hts⟩ (zc_X6_findPiece l hnt D G xo xg xp xq r1 r2 r3 r4 se ts hq cq ii s.heap.size) (cwV 1 hts gzX6_strain_X6_findPiece_169 rfl rfl rfl (by decide +kernel) ⟨(Nat.le_of_ble_eq_true rfl), (Nat.le_of_ble_eq_true rfl)⟩) ⟨p_RW_blind, va_recv hK hP (ci := 11) (q0 := 0) rfl rfl, (p_RW_at (tc := [(cq, .object "Gatherhouse$Piece")]) (wc := [(xo, .inr (11, [.ref xg, .int 0, .ref xp, .int 0, .ref xq, .int 0, .ref r1, .ref r2, .ref r3, .ref r4, .ref se, .int ts, .int hq, .int 40, .int 0, .int 0])), (xq, .inl (cq, 16, .inr (.inr (.inr (.inr (fun _ => none))))))]) hP hK hD hS hA hT hZ [0, 1] [0] rfl rfl (by decide) rfl [.ref xo, .int ii])⟩ rfl rfl hl.1 rfl (lv_room (Nat.le_of_ble_eq_true rfl)) dX6_strain_2 ⟨(Nat.le_of_ble_eq_true rfl), (Nat.le_of_ble_eq_true rfl)⟩) hS (fun q _ h => hFc q h) hFc (fun q _ h => hFc q h) (fun E ce q9 u t H locs ht hvm hpx hBX hz1 hk1 hS hce hcv hcl => ?_) (fun r_154 u t H locs ht hvm w_155 hB hz1 hk1 hS => ?_)
  · have hBX : (E = "java/lang/IndexOutOfBoundsException") := hBX
    rcases hBX with rfl
    exact vx_out (fun x h => (hxt x h).elim) hlocks hce hcv hcl (fun t ht _ => ⟨(), trivial, rfl, hS.F ht⟩) hS.2.2 (Nat.le_of_ble_eq_true rfl) (Nat.le_of_ble_eq_true rfl)
  · exact w_155.elim
theorem dX6_isFirst_0 : decode cX6_isFirst 0 = .ok (.aload_n 0, 1) := by decide +kernel
theorem dX6_isFirst_1 : decode cX6_isFirst 1 = .ok (.iload_n 1, 1) := by decide +kernel
theorem dX6_isFirst_2 : decode cX6_isFirst 2 = .ok (.invokevirtual 169, 3) := by decide +kernel
def wzEX6_isFirst : List Cond := [.code yX6_isFirst cX6_isFirst 3 (some .boolean), .methodLink RX6 169 yX6_findPiece, .instanceMethod yX6_findPiece, .selects RX6 yX6_findPiece yX6_findPiece, .initialized RX6, .code yX6_findPiece cX6_findPiece 3 (some (.object "Gatherhouse$Piece")), .classLink RX6 365 "java/lang/IndexOutOfBoundsException", .initialized "java/lang/IndexOutOfBoundsException", .fieldLink RX6 30 "Gatherhouse" "pieces" "[LGatherhouse$Piece;"]
def wzX6_isFirst : List Cond := wzEX6_isFirst ++ (u_ws RX6 TX6 16 ++ ((vx_atS RX6 369 "java/lang/IndexOutOfBoundsException" ["java/lang/RuntimeException", "java/lang/Exception"]).filter goodWord))
theorem zgEX6_isFirst : wzEX6_isFirst.all goodWord = true := by decide +kernel
theorem zuX6_isFirst_X6 : ∀ w ∈ u_ws RX6 TX6 16, w ∈ wzX6_isFirst := (fun _ h => (List.mem_append_right _ (List.mem_append_left _ h)))
theorem ztX6_isFirst_X6_369 : ∀ w ∈ (vx_atS RX6 369 "java/lang/IndexOutOfBoundsException" ["java/lang/RuntimeException", "java/lang/Exception"]).filter goodWord, w ∈ wzX6_isFirst := (fun _ h => (List.mem_append_right _ (List.mem_append_right _ h)))
theorem gzX6_isFirst_X6_findPiece_169 : GoodIn wzX6_isFirst (wsV RX6 169 RX6 yX6_findPiece wzX6_findPiece) := (goodIn_app (z_lift (goodIn_r _ [1, 2, 3, 4] rfl (by decide +kernel))) (goodIn_app (z_lift (goodIn_r wzEX6_findPiece [5, 6, 7, 8] rfl zgEX6_findPiece)) (goodIn_app (goodIn_sub (fun _ h => (List.mem_append_right _ (List.mem_append_left _ h))) zgU_X6) (goodIn_sub (fun _ h => (List.mem_append_right _ (List.mem_append_right _ h))) zgV_X6_369))))
set_option maxHeartbeats 4000000 in
set_option maxRecDepth 100000 in
theorem zc_X6_isFirst (l : Launch) (hnt : l.stackTraces = false) (D : va_G) (G : Nat × Nat × Nat) (xo : Nat) (xg : Nat) (xp : Nat) (xq : Nat) (r1 : Nat) (r2 : Nat) (r3 : Nat) (r4 : Nat) (se : Nat) (ts : Int32) (hq : Int32) (cq : ClassId) (ii : Int32) (sz : Nat) : vx_Met l yX6_isFirst wzX6_isFirst ({ frames := 7, cells := 1, slots := 6, locals := 104 }) (va_Pc [.ref xo, .int ii] (p_RW D G [(cq, .object "Gatherhouse$Piece")] [(xo, .inr (11, [.ref xg, .int 0, .ref xp, .int 0, .ref xq, .int 0, .ref r1, .ref r2, .ref r3, .ref r4, .ref se, .int ts, .int hq, .int 40, .int 0, .int 0])), (xq, .inl (cq, 16, .inr (.inr (.inr (.inr (fun _ => none))))))] sz)) (va_Qi (fun (r : Int32) (u : Unit) => False) (fun (u : Unit) (t : State) => True) (va_A [(xo, .inr (11, [.ref xg, .int 0, .ref xp, .int 0, .ref xq, .int 0, .ref r1, .ref r2, .ref r3, .ref r4, .ref se, .int ts, .int hq, .int 40, .int 0, .int 0])), (xq, .inl (cq, 16, .inr (.inr (.inr (.inr (fun _ => none))))))] sz)) (vx_X (fun (_ : Unit) => True) (fun E (_ : Unit) (_ : State) => (E = "java/lang/IndexOutOfBoundsException")) (va_A [(xo, .inr (11, [.ref xg, .int 0, .ref xp, .int 0, .ref xq, .int 0, .ref r1, .ref r2, .ref r3, .ref r4, .ref se, .int ts, .int hq, .int 40, .int 0, .int 0])), (xq, .inl (cq, 16, .inr (.inr (.inr (.inr (fun _ => none))))))] sz)) 1 6 (va_A [(xo, .inr (11, [.ref xg, .int 0, .ref xp, .int 0, .ref xq, .int 0, .ref r1, .ref r2, .ref r3, .ref r4, .ref se, .int ts, .int hq, .int 40, .int 0, .int 0])), (xq, .inl (cq, 16, .inr (.inr (.inr (.inr (fun _ => none))))))] sz) := by
  refine vx_ofW (cc := cX6_isFirst) (maxL := 3) (ret := (some .boolean)) (by decide) rfl ?_
  intro p e s m args below meth c s₁ B hml hxt hv
  obtain ⟨rfl, hsz, hP, hK, hD0, hT, hZ⟩ := hv
  have hx := B.exec
  have hb := B.bytes
  have hr := B.returns
  have hts := atoms_spec (ws := wzX6_isFirst) B.pre
  have hown : s.vm.findClass RX6 = some m.cls := findClass_of_methodNamed B.named
  have hlocks := B.notSynchronized
  subst hsz
  have hD := hD0.self (sz := s.heap.size)
  generalize hAe : va_A [(xo, .inr (11, [.ref xg, .int 0, .ref xp, .int 0, .ref xq, .int 0, .ref r1, .ref r2, .ref r3, .ref r4, .ref se, .int ts, .int hq, .int 40, .int 0, .int 0])), (xq, .inl (cq, 16, .inr (.inr (.inr (.inr (fun _ => none))))))] s.heap.size = A at hD hZ ⊢
  have hA : ∀ q : Nat, s.heap.size ≤ q → A q := fun q h => by rw [← hAe]; exact Or.inr h
  have hS : va_S A s.heap s.heap [] := va_S.rf
  have hl := lv_entry ([.ref xo, .int ii]) (n := 3) (Nat.le_of_ble_eq_true rfl)
  rw [lg_entry_eq]
  generalize (lg_sl ([.ref xo, .int ii]) ++ List.replicate (3 - (lg_sl ([.ref xo, .int ii])).length) Slot.unset).toArray = ls at hl ⊢
  have hl : lv_has ls 3 [(0, .ref xo), (1, .int ii)] := hl
  refine lv_aload_n hx hb dX6_isFirst_0 rfl (lv_at hl 0 rfl) ?_
  refine lv_iload_n hx hb dX6_isFirst_1 rfl (lv_at hl 1 rfl) ?_
  have hFc := va_free (wc := [(xo, .inr (11, [.ref xg, .int 0, .ref xp, .int 0, .ref xq, .int 0, .ref r1, .ref r2, .ref r3, .ref r4, .ref se, .int ts, .int hq, .int 40, .int 0, .int 0])), (xq, .inl (cq, 16, .inr (.inr (.inr (.inr (fun _ => none))))))]) hD hS hA [0, 1] rfl
  refine vx_callq (vx_runV (As := [.int ii]) (rest := []) ⟨hx, hb, hml, hown, hts⟩ (zc_X6_findPiece l hnt D G xo xg xp xq r1 r2 r3 r4 se ts hq cq ii s.heap.size) (cwV 1 hts gzX6_isFirst_X6_findPiece_169 rfl rfl rfl (by decide +kernel) ⟨(Nat.le_of_ble_eq_true rfl), (Nat.le_of_ble_eq_true rfl)⟩) ⟨p_RW_blind, va_recv hK hP (ci := 11) (q0 := 0) rfl rfl, (p_RW_at (tc := [(cq, .object "Gatherhouse$Piece")]) (wc := [(xo, .inr (11, [.ref xg, .int 0, .ref xp, .int 0, .ref xq, .int 0, .ref r1, .ref r2, .ref r3, .ref r4, .ref se, .int ts, .int hq, .int 40, .int 0, .int 0])), (xq, .inl (cq, 16, .inr (.inr (.inr (.inr (fun _ => none))))))]) hP hK hD hS hA hT hZ [0, 1] [0] rfl rfl (by decide) rfl [.ref xo, .int ii])⟩ rfl rfl hl.1 rfl (lv_room (Nat.le_of_ble_eq_true rfl)) dX6_isFirst_2 ⟨(Nat.le_of_ble_eq_true rfl), (Nat.le_of_ble_eq_true rfl)⟩) hS (fun q _ h => hFc q h) hFc (fun q _ h => hFc q h) (fun E ce q9 u t H locs ht hvm hpx hBX hz1 hk1 hS hce hcv hcl => ?_) (fun r_156 u t H locs ht hvm w_157 hB hz1 hk1 hS => ?_)
  · have hBX : (E = "java/lang/IndexOutOfBoundsException") := hBX
    rcases hBX with rfl
    exact vx_out (fun x h => (hxt x h).elim) hlocks hce hcv hcl (fun t ht _ => ⟨(), trivial, rfl, hS.F ht⟩) hS.2.2 (Nat.le_of_ble_eq_true rfl) (Nat.le_of_ble_eq_true rfl)
  · exact w_157.elim
theorem dX6_cut_0 : decode cX6_cut 0 = .ok (.aload_n 0, 1) := by decide +kernel
theorem dX6_cut_1 : decode cX6_cut 1 = .ok (.iload_n 1, 1) := by decide +kernel
theorem dX6_cut_2 : decode cX6_cut 2 = .ok (.invokevirtual 169, 3) := by decide +kernel
def wzEX6_cut : List Cond := [.code yX6_cut cX6_cut 6 (some .int), .methodLink RX6 169 yX6_findPiece, .instanceMethod yX6_findPiece, .selects RX6 yX6_findPiece yX6_findPiece, .initialized RX6, .code yX6_findPiece cX6_findPiece 3 (some (.object "Gatherhouse$Piece")), .classLink RX6 365 "java/lang/IndexOutOfBoundsException", .initialized "java/lang/IndexOutOfBoundsException", .fieldLink RX6 30 "Gatherhouse" "pieces" "[LGatherhouse$Piece;"]
def wzX6_cut : List Cond := wzEX6_cut ++ (u_ws RX6 TX6 16 ++ ((vx_atS RX6 369 "java/lang/IndexOutOfBoundsException" ["java/lang/RuntimeException", "java/lang/Exception"]).filter goodWord))
theorem zgEX6_cut : wzEX6_cut.all goodWord = true := by decide +kernel
theorem zuX6_cut_X6 : ∀ w ∈ u_ws RX6 TX6 16, w ∈ wzX6_cut := (fun _ h => (List.mem_append_right _ (List.mem_append_left _ h)))
theorem ztX6_cut_X6_369 : ∀ w ∈ (vx_atS RX6 369 "java/lang/IndexOutOfBoundsException" ["java/lang/RuntimeException", "java/lang/Exception"]).filter goodWord, w ∈ wzX6_cut := (fun _ h => (List.mem_append_right _ (List.mem_append_right _ h)))
theorem gzX6_cut_X6_findPiece_169 : GoodIn wzX6_cut (wsV RX6 169 RX6 yX6_findPiece wzX6_findPiece) := (goodIn_app (z_lift (goodIn_r _ [1, 2, 3, 4] rfl (by decide +kernel))) (goodIn_app (z_lift (goodIn_r wzEX6_findPiece [5, 6, 7, 8] rfl zgEX6_findPiece)) (goodIn_app (goodIn_sub (fun _ h => (List.mem_append_right _ (List.mem_append_left _ h))) zgU_X6) (goodIn_sub (fun _ h => (List.mem_append_right _ (List.mem_append_right _ h))) zgV_X6_369))))
set_option maxHeartbeats 4000000 in
set_option maxRecDepth 100000 in
theorem zc_X6_cut (l : Launch) (hnt : l.stackTraces = false) (D : va_G) (G : Nat × Nat × Nat) (xo : Nat) (xg : Nat) (xp : Nat) (xq : Nat) (r1 : Nat) (r2 : Nat) (r3 : Nat) (r4 : Nat) (se : Nat) (ts : Int32) (hq : Int32) (cq : ClassId) (ii : Int32) (jj : Int32) (kk : Int32) (sz : Nat) : vx_Met l yX6_cut wzX6_cut ({ frames := 7, cells := 1, slots := 6, locals := 104 }) (va_Pc [.ref xo, .int ii, .int jj, .int kk] (p_RW D G [(cq, .object "Gatherhouse$Piece")] [(xo, .inr (11, [.ref xg, .int 0, .ref xp, .int 0, .ref xq, .int 0, .ref r1, .ref r2, .ref r3, .ref r4, .ref se, .int ts, .int hq, .int 40, .int 0, .int 0])), (xq, .inl (cq, 16, .inr (.inr (.inr (.inr (fun _ => none))))))] sz)) (va_Qi (fun (r : Int32) (u : Unit) => False) (fun (u : Unit) (t : State) => True) (va_A [(xo, .inr (11, [.ref xg, .int 0, .ref xp, .int 0, .ref xq, .int 0, .ref r1, .ref r2, .ref r3, .ref r4, .ref se, .int ts, .int hq, .int 40, .int 0, .int 0])), (xq, .inl (cq, 16, .inr (.inr (.inr (.inr (fun _ => none))))))] sz)) (vx_X (fun (_ : Unit) => True) (fun E (_ : Unit) (_ : State) => (E = "java/lang/IndexOutOfBoundsException")) (va_A [(xo, .inr (11, [.ref xg, .int 0, .ref xp, .int 0, .ref xq, .int 0, .ref r1, .ref r2, .ref r3, .ref r4, .ref se, .int ts, .int hq, .int 40, .int 0, .int 0])), (xq, .inl (cq, 16, .inr (.inr (.inr (.inr (fun _ => none))))))] sz)) 1 6 (va_A [(xo, .inr (11, [.ref xg, .int 0, .ref xp, .int 0, .ref xq, .int 0, .ref r1, .ref r2, .ref r3, .ref r4, .ref se, .int ts, .int hq, .int 40, .int 0, .int 0])), (xq, .inl (cq, 16, .inr (.inr (.inr (.inr (fun _ => none))))))] sz) := by
  refine vx_ofW (cc := cX6_cut) (maxL := 6) (ret := (some .int)) (by decide) rfl ?_
  intro p e s m args below meth c s₁ B hml hxt hv
  obtain ⟨rfl, hsz, hP, hK, hD0, hT, hZ⟩ := hv
  have hx := B.exec
  have hb := B.bytes
  have hr := B.returns
  have hts := atoms_spec (ws := wzX6_cut) B.pre
  have hown : s.vm.findClass RX6 = some m.cls := findClass_of_methodNamed B.named
  have hlocks := B.notSynchronized
  subst hsz
  have hD := hD0.self (sz := s.heap.size)
  generalize hAe : va_A [(xo, .inr (11, [.ref xg, .int 0, .ref xp, .int 0, .ref xq, .int 0, .ref r1, .ref r2, .ref r3, .ref r4, .ref se, .int ts, .int hq, .int 40, .int 0, .int 0])), (xq, .inl (cq, 16, .inr (.inr (.inr (.inr (fun _ => none))))))] s.heap.size = A at hD hZ ⊢
  have hA : ∀ q : Nat, s.heap.size ≤ q → A q := fun q h => by rw [← hAe]; exact Or.inr h
  have hS : va_S A s.heap s.heap [] := va_S.rf
  have hl := lv_entry ([.ref xo, .int ii, .int jj, .int kk]) (n := 6) (Nat.le_of_ble_eq_true rfl)
  rw [lg_entry_eq]
  generalize (lg_sl ([.ref xo, .int ii, .int jj, .int kk]) ++ List.replicate (6 - (lg_sl ([.ref xo, .int ii, .int jj, .int kk])).length) Slot.unset).toArray = ls at hl ⊢
  have hl : lv_has ls 6 [(0, .ref xo), (1, .int ii), (2, .int jj), (3, .int kk)] := hl
  refine lv_aload_n hx hb dX6_cut_0 rfl (lv_at hl 0 rfl) ?_
  refine lv_iload_n hx hb dX6_cut_1 rfl (lv_at hl 1 rfl) ?_
  have hFc := va_free (wc := [(xo, .inr (11, [.ref xg, .int 0, .ref xp, .int 0, .ref xq, .int 0, .ref r1, .ref r2, .ref r3, .ref r4, .ref se, .int ts, .int hq, .int 40, .int 0, .int 0])), (xq, .inl (cq, 16, .inr (.inr (.inr (.inr (fun _ => none))))))]) hD hS hA [0, 1] rfl
  refine vx_callq (vx_runV (As := [.int ii]) (rest := []) ⟨hx, hb, hml, hown, hts⟩ (zc_X6_findPiece l hnt D G xo xg xp xq r1 r2 r3 r4 se ts hq cq ii s.heap.size) (cwV 1 hts gzX6_cut_X6_findPiece_169 rfl rfl rfl (by decide +kernel) ⟨(Nat.le_of_ble_eq_true rfl), (Nat.le_of_ble_eq_true rfl)⟩) ⟨p_RW_blind, va_recv hK hP (ci := 11) (q0 := 0) rfl rfl, (p_RW_at (tc := [(cq, .object "Gatherhouse$Piece")]) (wc := [(xo, .inr (11, [.ref xg, .int 0, .ref xp, .int 0, .ref xq, .int 0, .ref r1, .ref r2, .ref r3, .ref r4, .ref se, .int ts, .int hq, .int 40, .int 0, .int 0])), (xq, .inl (cq, 16, .inr (.inr (.inr (.inr (fun _ => none))))))]) hP hK hD hS hA hT hZ [0, 1] [0] rfl rfl (by decide) rfl [.ref xo, .int ii])⟩ rfl rfl hl.1 rfl (lv_room (Nat.le_of_ble_eq_true rfl)) dX6_cut_2 ⟨(Nat.le_of_ble_eq_true rfl), (Nat.le_of_ble_eq_true rfl)⟩) hS (fun q _ h => hFc q h) hFc (fun q _ h => hFc q h) (fun E ce q9 u t H locs ht hvm hpx hBX hz1 hk1 hS hce hcv hcl => ?_) (fun r_158 u t H locs ht hvm w_159 hB hz1 hk1 hS => ?_)
  · have hBX : (E = "java/lang/IndexOutOfBoundsException") := hBX
    rcases hBX with rfl
    exact vx_out (fun x h => (hxt x h).elim) hlocks hce hcv hcl (fun t ht _ => ⟨(), trivial, rfl, hS.F ht⟩) hS.2.2 (Nat.le_of_ble_eq_true rfl) (Nat.le_of_ble_eq_true rfl)
  · exact w_159.elim
theorem dX6_colour_0 : decode cX6_colour 0 = .ok (.aload_n 0, 1) := by decide +kernel
theorem dX6_colour_1 : decode cX6_colour 1 = .ok (.iload_n 1, 1) := by decide +kernel
theorem dX6_colour_2 : decode cX6_colour 2 = .ok (.invokevirtual 169, 3) := by decide +kernel
def wzEX6_colour : List Cond := [.code yX6_colour cX6_colour 3 (some .int), .methodLink RX6 169 yX6_findPiece, .instanceMethod yX6_findPiece, .selects RX6 yX6_findPiece yX6_findPiece, .initialized RX6, .code yX6_findPiece cX6_findPiece 3 (some (.object "Gatherhouse$Piece")), .classLink RX6 365 "java/lang/IndexOutOfBoundsException", .initialized "java/lang/IndexOutOfBoundsException", .fieldLink RX6 30 "Gatherhouse" "pieces" "[LGatherhouse$Piece;"]
def wzX6_colour : List Cond := wzEX6_colour ++ (u_ws RX6 TX6 16 ++ ((vx_atS RX6 369 "java/lang/IndexOutOfBoundsException" ["java/lang/RuntimeException", "java/lang/Exception"]).filter goodWord))
theorem zgEX6_colour : wzEX6_colour.all goodWord = true := by decide +kernel
theorem zuX6_colour_X6 : ∀ w ∈ u_ws RX6 TX6 16, w ∈ wzX6_colour := (fun _ h => (List.mem_append_right _ (List.mem_append_left _ h)))
theorem ztX6_colour_X6_369 : ∀ w ∈ (vx_atS RX6 369 "java/lang/IndexOutOfBoundsException" ["java/lang/RuntimeException", "java/lang/Exception"]).filter goodWord, w ∈ wzX6_colour := (fun _ h => (List.mem_append_right _ (List.mem_append_right _ h)))
theorem gzX6_colour_X6_findPiece_169 : GoodIn wzX6_colour (wsV RX6 169 RX6 yX6_findPiece wzX6_findPiece) := (goodIn_app (z_lift (goodIn_r _ [1, 2, 3, 4] rfl (by decide +kernel))) (goodIn_app (z_lift (goodIn_r wzEX6_findPiece [5, 6, 7, 8] rfl zgEX6_findPiece)) (goodIn_app (goodIn_sub (fun _ h => (List.mem_append_right _ (List.mem_append_left _ h))) zgU_X6) (goodIn_sub (fun _ h => (List.mem_append_right _ (List.mem_append_right _ h))) zgV_X6_369))))
set_option maxHeartbeats 4000000 in
set_option maxRecDepth 100000 in
theorem zc_X6_colour (l : Launch) (hnt : l.stackTraces = false) (D : va_G) (G : Nat × Nat × Nat) (xo : Nat) (xg : Nat) (xp : Nat) (xq : Nat) (r1 : Nat) (r2 : Nat) (r3 : Nat) (r4 : Nat) (se : Nat) (ts : Int32) (hq : Int32) (cq : ClassId) (ii : Int32) (jj : Int32) (sz : Nat) : vx_Met l yX6_colour wzX6_colour ({ frames := 7, cells := 1, slots := 6, locals := 104 }) (va_Pc [.ref xo, .int ii, .int jj] (p_RW D G [(cq, .object "Gatherhouse$Piece")] [(xo, .inr (11, [.ref xg, .int 0, .ref xp, .int 0, .ref xq, .int 0, .ref r1, .ref r2, .ref r3, .ref r4, .ref se, .int ts, .int hq, .int 40, .int 0, .int 0])), (xq, .inl (cq, 16, .inr (.inr (.inr (.inr (fun _ => none))))))] sz)) (va_Qi (fun (r : Int32) (u : Unit) => False) (fun (u : Unit) (t : State) => True) (va_A [(xo, .inr (11, [.ref xg, .int 0, .ref xp, .int 0, .ref xq, .int 0, .ref r1, .ref r2, .ref r3, .ref r4, .ref se, .int ts, .int hq, .int 40, .int 0, .int 0])), (xq, .inl (cq, 16, .inr (.inr (.inr (.inr (fun _ => none))))))] sz)) (vx_X (fun (_ : Unit) => True) (fun E (_ : Unit) (_ : State) => (E = "java/lang/IndexOutOfBoundsException")) (va_A [(xo, .inr (11, [.ref xg, .int 0, .ref xp, .int 0, .ref xq, .int 0, .ref r1, .ref r2, .ref r3, .ref r4, .ref se, .int ts, .int hq, .int 40, .int 0, .int 0])), (xq, .inl (cq, 16, .inr (.inr (.inr (.inr (fun _ => none))))))] sz)) 1 6 (va_A [(xo, .inr (11, [.ref xg, .int 0, .ref xp, .int 0, .ref xq, .int 0, .ref r1, .ref r2, .ref r3, .ref r4, .ref se, .int ts, .int hq, .int 40, .int 0, .int 0])), (xq, .inl (cq, 16, .inr (.inr (.inr (.inr (fun _ => none))))))] sz) := by
  refine vx_ofW (cc := cX6_colour) (maxL := 3) (ret := (some .int)) (by decide) rfl ?_
  intro p e s m args below meth c s₁ B hml hxt hv
  obtain ⟨rfl, hsz, hP, hK, hD0, hT, hZ⟩ := hv
  have hx := B.exec
  have hb := B.bytes
  have hr := B.returns
  have hts := atoms_spec (ws := wzX6_colour) B.pre
  have hown : s.vm.findClass RX6 = some m.cls := findClass_of_methodNamed B.named
  have hlocks := B.notSynchronized
  subst hsz
  have hD := hD0.self (sz := s.heap.size)
  generalize hAe : va_A [(xo, .inr (11, [.ref xg, .int 0, .ref xp, .int 0, .ref xq, .int 0, .ref r1, .ref r2, .ref r3, .ref r4, .ref se, .int ts, .int hq, .int 40, .int 0, .int 0])), (xq, .inl (cq, 16, .inr (.inr (.inr (.inr (fun _ => none))))))] s.heap.size = A at hD hZ ⊢
  have hA : ∀ q : Nat, s.heap.size ≤ q → A q := fun q h => by rw [← hAe]; exact Or.inr h
  have hS : va_S A s.heap s.heap [] := va_S.rf
  have hl := lv_entry ([.ref xo, .int ii, .int jj]) (n := 3) (Nat.le_of_ble_eq_true rfl)
  rw [lg_entry_eq]
  generalize (lg_sl ([.ref xo, .int ii, .int jj]) ++ List.replicate (3 - (lg_sl ([.ref xo, .int ii, .int jj])).length) Slot.unset).toArray = ls at hl ⊢
  have hl : lv_has ls 3 [(0, .ref xo), (1, .int ii), (2, .int jj)] := hl
  refine lv_aload_n hx hb dX6_colour_0 rfl (lv_at hl 0 rfl) ?_
  refine lv_iload_n hx hb dX6_colour_1 rfl (lv_at hl 1 rfl) ?_
  have hFc := va_free (wc := [(xo, .inr (11, [.ref xg, .int 0, .ref xp, .int 0, .ref xq, .int 0, .ref r1, .ref r2, .ref r3, .ref r4, .ref se, .int ts, .int hq, .int 40, .int 0, .int 0])), (xq, .inl (cq, 16, .inr (.inr (.inr (.inr (fun _ => none))))))]) hD hS hA [0, 1] rfl
  refine vx_callq (vx_runV (As := [.int ii]) (rest := []) ⟨hx, hb, hml, hown, hts⟩ (zc_X6_findPiece l hnt D G xo xg xp xq r1 r2 r3 r4 se ts hq cq ii s.heap.size) (cwV 1 hts gzX6_colour_X6_findPiece_169 rfl rfl rfl (by decide +kernel) ⟨(Nat.le_of_ble_eq_true rfl), (Nat.le_of_ble_eq_true rfl)⟩) ⟨p_RW_blind, va_recv hK hP (ci := 11) (q0 := 0) rfl rfl, (p_RW_at (tc := [(cq, .object "Gatherhouse$Piece")]) (wc := [(xo, .inr (11, [.ref xg, .int 0, .ref xp, .int 0, .ref xq, .int 0, .ref r1, .ref r2, .ref r3, .ref r4, .ref se, .int ts, .int hq, .int 40, .int 0, .int 0])), (xq, .inl (cq, 16, .inr (.inr (.inr (.inr (fun _ => none))))))]) hP hK hD hS hA hT hZ [0, 1] [0] rfl rfl (by decide) rfl [.ref xo, .int ii])⟩ rfl rfl hl.1 rfl (lv_room (Nat.le_of_ble_eq_true rfl)) dX6_colour_2 ⟨(Nat.le_of_ble_eq_true rfl), (Nat.le_of_ble_eq_true rfl)⟩) hS (fun q _ h => hFc q h) hFc (fun q _ h => hFc q h) (fun E ce q9 u t H locs ht hvm hpx hBX hz1 hk1 hS hce hcv hcl => ?_) (fun r_160 u t H locs ht hvm w_161 hB hz1 hk1 hS => ?_)
  · have hBX : (E = "java/lang/IndexOutOfBoundsException") := hBX
    rcases hBX with rfl
    exact vx_out (fun x h => (hxt x h).elim) hlocks hce hcv hcl (fun t ht _ => ⟨(), trivial, rfl, hS.F ht⟩) hS.2.2 (Nat.le_of_ble_eq_true rfl) (Nat.le_of_ble_eq_true rfl)
  · exact w_161.elim
theorem dX6_isInSet_0 : decode cX6_isInSet 0 = .ok (.aload_n 0, 1) := by decide +kernel
theorem dX6_isInSet_1 : decode cX6_isInSet 1 = .ok (.iload_n 1, 1) := by decide +kernel
theorem dX6_isInSet_2 : decode cX6_isInSet 2 = .ok (.invokevirtual 169, 3) := by decide +kernel
def wzEX6_isInSet : List Cond := [.code yX6_isInSet cX6_isInSet 2 (some .boolean), .methodLink RX6 169 yX6_findPiece, .instanceMethod yX6_findPiece, .selects RX6 yX6_findPiece yX6_findPiece, .initialized RX6, .code yX6_findPiece cX6_findPiece 3 (some (.object "Gatherhouse$Piece")), .classLink RX6 365 "java/lang/IndexOutOfBoundsException", .initialized "java/lang/IndexOutOfBoundsException", .fieldLink RX6 30 "Gatherhouse" "pieces" "[LGatherhouse$Piece;"]
def wzX6_isInSet : List Cond := wzEX6_isInSet ++ (u_ws RX6 TX6 16 ++ ((vx_atS RX6 369 "java/lang/IndexOutOfBoundsException" ["java/lang/RuntimeException", "java/lang/Exception"]).filter goodWord))
theorem zgEX6_isInSet : wzEX6_isInSet.all goodWord = true := by decide +kernel
theorem zuX6_isInSet_X6 : ∀ w ∈ u_ws RX6 TX6 16, w ∈ wzX6_isInSet := (fun _ h => (List.mem_append_right _ (List.mem_append_left _ h)))
theorem ztX6_isInSet_X6_369 : ∀ w ∈ (vx_atS RX6 369 "java/lang/IndexOutOfBoundsException" ["java/lang/RuntimeException", "java/lang/Exception"]).filter goodWord, w ∈ wzX6_isInSet := (fun _ h => (List.mem_append_right _ (List.mem_append_right _ h)))
theorem gzX6_isInSet_X6_findPiece_169 : GoodIn wzX6_isInSet (wsV RX6 169 RX6 yX6_findPiece wzX6_findPiece) := (goodIn_app (z_lift (goodIn_r _ [1, 2, 3, 4] rfl (by decide +kernel))) (goodIn_app (z_lift (goodIn_r wzEX6_findPiece [5, 6, 7, 8] rfl zgEX6_findPiece)) (goodIn_app (goodIn_sub (fun _ h => (List.mem_append_right _ (List.mem_append_left _ h))) zgU_X6) (goodIn_sub (fun _ h => (List.mem_append_right _ (List.mem_append_right _ h))) zgV_X6_369))))
set_option maxHeartbeats 4000000 in
set_option maxRecDepth 100000 in
theorem zc_X6_isInSet (l : Launch) (hnt : l.stackTraces = false) (D : va_G) (G : Nat × Nat × Nat) (xo : Nat) (xg : Nat) (xp : Nat) (xq : Nat) (r1 : Nat) (r2 : Nat) (r3 : Nat) (r4 : Nat) (se : Nat) (ts : Int32) (hq : Int32) (cq : ClassId) (ii : Int32) (sz : Nat) : vx_Met l yX6_isInSet wzX6_isInSet ({ frames := 7, cells := 1, slots := 6, locals := 104 }) (va_Pc [.ref xo, .int ii] (p_RW D G [(cq, .object "Gatherhouse$Piece")] [(xo, .inr (11, [.ref xg, .int 0, .ref xp, .int 0, .ref xq, .int 0, .ref r1, .ref r2, .ref r3, .ref r4, .ref se, .int ts, .int hq, .int 40, .int 0, .int 0])), (xq, .inl (cq, 16, .inr (.inr (.inr (.inr (fun _ => none))))))] sz)) (va_Qi (fun (r : Int32) (u : Unit) => False) (fun (u : Unit) (t : State) => True) (va_A [(xo, .inr (11, [.ref xg, .int 0, .ref xp, .int 0, .ref xq, .int 0, .ref r1, .ref r2, .ref r3, .ref r4, .ref se, .int ts, .int hq, .int 40, .int 0, .int 0])), (xq, .inl (cq, 16, .inr (.inr (.inr (.inr (fun _ => none))))))] sz)) (vx_X (fun (_ : Unit) => True) (fun E (_ : Unit) (_ : State) => (E = "java/lang/IndexOutOfBoundsException")) (va_A [(xo, .inr (11, [.ref xg, .int 0, .ref xp, .int 0, .ref xq, .int 0, .ref r1, .ref r2, .ref r3, .ref r4, .ref se, .int ts, .int hq, .int 40, .int 0, .int 0])), (xq, .inl (cq, 16, .inr (.inr (.inr (.inr (fun _ => none))))))] sz)) 1 6 (va_A [(xo, .inr (11, [.ref xg, .int 0, .ref xp, .int 0, .ref xq, .int 0, .ref r1, .ref r2, .ref r3, .ref r4, .ref se, .int ts, .int hq, .int 40, .int 0, .int 0])), (xq, .inl (cq, 16, .inr (.inr (.inr (.inr (fun _ => none))))))] sz) := by
  refine vx_ofW (cc := cX6_isInSet) (maxL := 2) (ret := (some .boolean)) (by decide) rfl ?_
  intro p e s m args below meth c s₁ B hml hxt hv
  obtain ⟨rfl, hsz, hP, hK, hD0, hT, hZ⟩ := hv
  have hx := B.exec
  have hb := B.bytes
  have hr := B.returns
  have hts := atoms_spec (ws := wzX6_isInSet) B.pre
  have hown : s.vm.findClass RX6 = some m.cls := findClass_of_methodNamed B.named
  have hlocks := B.notSynchronized
  subst hsz
  have hD := hD0.self (sz := s.heap.size)
  generalize hAe : va_A [(xo, .inr (11, [.ref xg, .int 0, .ref xp, .int 0, .ref xq, .int 0, .ref r1, .ref r2, .ref r3, .ref r4, .ref se, .int ts, .int hq, .int 40, .int 0, .int 0])), (xq, .inl (cq, 16, .inr (.inr (.inr (.inr (fun _ => none))))))] s.heap.size = A at hD hZ ⊢
  have hA : ∀ q : Nat, s.heap.size ≤ q → A q := fun q h => by rw [← hAe]; exact Or.inr h
  have hS : va_S A s.heap s.heap [] := va_S.rf
  have hl := lv_entry ([.ref xo, .int ii]) (n := 2) (Nat.le_of_ble_eq_true rfl)
  rw [lg_entry_eq]
  generalize (lg_sl ([.ref xo, .int ii]) ++ List.replicate (2 - (lg_sl ([.ref xo, .int ii])).length) Slot.unset).toArray = ls at hl ⊢
  have hl : lv_has ls 2 [(0, .ref xo), (1, .int ii)] := hl
  refine lv_aload_n hx hb dX6_isInSet_0 rfl (lv_at hl 0 rfl) ?_
  refine lv_iload_n hx hb dX6_isInSet_1 rfl (lv_at hl 1 rfl) ?_
  have hFc := va_free (wc := [(xo, .inr (11, [.ref xg, .int 0, .ref xp, .int 0, .ref xq, .int 0, .ref r1, .ref r2, .ref r3, .ref r4, .ref se, .int ts, .int hq, .int 40, .int 0, .int 0])), (xq, .inl (cq, 16, .inr (.inr (.inr (.inr (fun _ => none))))))]) hD hS hA [0, 1] rfl
  refine vx_callq (vx_runV (As := [.int ii]) (rest := []) ⟨hx, hb, hml, hown, hts⟩ (zc_X6_findPiece l hnt D G xo xg xp xq r1 r2 r3 r4 se ts hq cq ii s.heap.size) (cwV 1 hts gzX6_isInSet_X6_findPiece_169 rfl rfl rfl (by decide +kernel) ⟨(Nat.le_of_ble_eq_true rfl), (Nat.le_of_ble_eq_true rfl)⟩) ⟨p_RW_blind, va_recv hK hP (ci := 11) (q0 := 0) rfl rfl, (p_RW_at (tc := [(cq, .object "Gatherhouse$Piece")]) (wc := [(xo, .inr (11, [.ref xg, .int 0, .ref xp, .int 0, .ref xq, .int 0, .ref r1, .ref r2, .ref r3, .ref r4, .ref se, .int ts, .int hq, .int 40, .int 0, .int 0])), (xq, .inl (cq, 16, .inr (.inr (.inr (.inr (fun _ => none))))))]) hP hK hD hS hA hT hZ [0, 1] [0] rfl rfl (by decide) rfl [.ref xo, .int ii])⟩ rfl rfl hl.1 rfl (lv_room (Nat.le_of_ble_eq_true rfl)) dX6_isInSet_2 ⟨(Nat.le_of_ble_eq_true rfl), (Nat.le_of_ble_eq_true rfl)⟩) hS (fun q _ h => hFc q h) hFc (fun q _ h => hFc q h) (fun E ce q9 u t H locs ht hvm hpx hBX hz1 hk1 hS hce hcv hcl => ?_) (fun r_162 u t H locs ht hvm w_163 hB hz1 hk1 hS => ?_)
  · have hBX : (E = "java/lang/IndexOutOfBoundsException") := hBX
    rcases hBX with rfl
    exact vx_out (fun x h => (hxt x h).elim) hlocks hce hcv hcl (fun t ht _ => ⟨(), trivial, rfl, hS.F ht⟩) hS.2.2 (Nat.le_of_ble_eq_true rfl) (Nat.le_of_ble_eq_true rfl)
  · exact w_163.elim
theorem dX6_price_0 : decode cX6_price 0 = .ok (.aload_n 0, 1) := by decide +kernel
theorem dX6_price_1 : decode cX6_price 1 = .ok (.iload_n 1, 1) := by decide +kernel
theorem dX6_price_2 : decode cX6_price 2 = .ok (.invokevirtual 169, 3) := by decide +kernel
def wzEX6_price : List Cond := [.code yX6_price cX6_price 2 (some .int), .methodLink RX6 169 yX6_findPiece, .instanceMethod yX6_findPiece, .selects RX6 yX6_findPiece yX6_findPiece, .initialized RX6, .code yX6_findPiece cX6_findPiece 3 (some (.object "Gatherhouse$Piece")), .classLink RX6 365 "java/lang/IndexOutOfBoundsException", .initialized "java/lang/IndexOutOfBoundsException", .fieldLink RX6 30 "Gatherhouse" "pieces" "[LGatherhouse$Piece;"]
def wzX6_price : List Cond := wzEX6_price ++ (u_ws RX6 TX6 16 ++ ((vx_atS RX6 369 "java/lang/IndexOutOfBoundsException" ["java/lang/RuntimeException", "java/lang/Exception"]).filter goodWord))
theorem zgEX6_price : wzEX6_price.all goodWord = true := by decide +kernel
theorem zuX6_price_X6 : ∀ w ∈ u_ws RX6 TX6 16, w ∈ wzX6_price := (fun _ h => (List.mem_append_right _ (List.mem_append_left _ h)))
theorem ztX6_price_X6_369 : ∀ w ∈ (vx_atS RX6 369 "java/lang/IndexOutOfBoundsException" ["java/lang/RuntimeException", "java/lang/Exception"]).filter goodWord, w ∈ wzX6_price := (fun _ h => (List.mem_append_right _ (List.mem_append_right _ h)))
theorem gzX6_price_X6_findPiece_169 : GoodIn wzX6_price (wsV RX6 169 RX6 yX6_findPiece wzX6_findPiece) := (goodIn_app (z_lift (goodIn_r _ [1, 2, 3, 4] rfl (by decide +kernel))) (goodIn_app (z_lift (goodIn_r wzEX6_findPiece [5, 6, 7, 8] rfl zgEX6_findPiece)) (goodIn_app (goodIn_sub (fun _ h => (List.mem_append_right _ (List.mem_append_left _ h))) zgU_X6) (goodIn_sub (fun _ h => (List.mem_append_right _ (List.mem_append_right _ h))) zgV_X6_369))))
set_option maxHeartbeats 4000000 in
set_option maxRecDepth 100000 in
theorem zc_X6_price (l : Launch) (hnt : l.stackTraces = false) (D : va_G) (G : Nat × Nat × Nat) (xo : Nat) (xg : Nat) (xp : Nat) (xq : Nat) (r1 : Nat) (r2 : Nat) (r3 : Nat) (r4 : Nat) (se : Nat) (ts : Int32) (hq : Int32) (cq : ClassId) (ii : Int32) (sz : Nat) : vx_Met l yX6_price wzX6_price ({ frames := 7, cells := 1, slots := 6, locals := 104 }) (va_Pc [.ref xo, .int ii] (p_RW D G [(cq, .object "Gatherhouse$Piece")] [(xo, .inr (11, [.ref xg, .int 0, .ref xp, .int 0, .ref xq, .int 0, .ref r1, .ref r2, .ref r3, .ref r4, .ref se, .int ts, .int hq, .int 40, .int 0, .int 0])), (xq, .inl (cq, 16, .inr (.inr (.inr (.inr (fun _ => none))))))] sz)) (va_Qi (fun (r : Int32) (u : Unit) => False) (fun (u : Unit) (t : State) => True) (va_A [(xo, .inr (11, [.ref xg, .int 0, .ref xp, .int 0, .ref xq, .int 0, .ref r1, .ref r2, .ref r3, .ref r4, .ref se, .int ts, .int hq, .int 40, .int 0, .int 0])), (xq, .inl (cq, 16, .inr (.inr (.inr (.inr (fun _ => none))))))] sz)) (vx_X (fun (_ : Unit) => True) (fun E (_ : Unit) (_ : State) => (E = "java/lang/IndexOutOfBoundsException")) (va_A [(xo, .inr (11, [.ref xg, .int 0, .ref xp, .int 0, .ref xq, .int 0, .ref r1, .ref r2, .ref r3, .ref r4, .ref se, .int ts, .int hq, .int 40, .int 0, .int 0])), (xq, .inl (cq, 16, .inr (.inr (.inr (.inr (fun _ => none))))))] sz)) 1 6 (va_A [(xo, .inr (11, [.ref xg, .int 0, .ref xp, .int 0, .ref xq, .int 0, .ref r1, .ref r2, .ref r3, .ref r4, .ref se, .int ts, .int hq, .int 40, .int 0, .int 0])), (xq, .inl (cq, 16, .inr (.inr (.inr (.inr (fun _ => none))))))] sz) := by
  refine vx_ofW (cc := cX6_price) (maxL := 2) (ret := (some .int)) (by decide) rfl ?_
  intro p e s m args below meth c s₁ B hml hxt hv
  obtain ⟨rfl, hsz, hP, hK, hD0, hT, hZ⟩ := hv
  have hx := B.exec
  have hb := B.bytes
  have hr := B.returns
  have hts := atoms_spec (ws := wzX6_price) B.pre
  have hown : s.vm.findClass RX6 = some m.cls := findClass_of_methodNamed B.named
  have hlocks := B.notSynchronized
  subst hsz
  have hD := hD0.self (sz := s.heap.size)
  generalize hAe : va_A [(xo, .inr (11, [.ref xg, .int 0, .ref xp, .int 0, .ref xq, .int 0, .ref r1, .ref r2, .ref r3, .ref r4, .ref se, .int ts, .int hq, .int 40, .int 0, .int 0])), (xq, .inl (cq, 16, .inr (.inr (.inr (.inr (fun _ => none))))))] s.heap.size = A at hD hZ ⊢
  have hA : ∀ q : Nat, s.heap.size ≤ q → A q := fun q h => by rw [← hAe]; exact Or.inr h
  have hS : va_S A s.heap s.heap [] := va_S.rf
  have hl := lv_entry ([.ref xo, .int ii]) (n := 2) (Nat.le_of_ble_eq_true rfl)
  rw [lg_entry_eq]
  generalize (lg_sl ([.ref xo, .int ii]) ++ List.replicate (2 - (lg_sl ([.ref xo, .int ii])).length) Slot.unset).toArray = ls at hl ⊢
  have hl : lv_has ls 2 [(0, .ref xo), (1, .int ii)] := hl
  refine lv_aload_n hx hb dX6_price_0 rfl (lv_at hl 0 rfl) ?_
  refine lv_iload_n hx hb dX6_price_1 rfl (lv_at hl 1 rfl) ?_
  have hFc := va_free (wc := [(xo, .inr (11, [.ref xg, .int 0, .ref xp, .int 0, .ref xq, .int 0, .ref r1, .ref r2, .ref r3, .ref r4, .ref se, .int ts, .int hq, .int 40, .int 0, .int 0])), (xq, .inl (cq, 16, .inr (.inr (.inr (.inr (fun _ => none))))))]) hD hS hA [0, 1] rfl
  refine vx_callq (vx_runV (As := [.int ii]) (rest := []) ⟨hx, hb, hml, hown, hts⟩ (zc_X6_findPiece l hnt D G xo xg xp xq r1 r2 r3 r4 se ts hq cq ii s.heap.size) (cwV 1 hts gzX6_price_X6_findPiece_169 rfl rfl rfl (by decide +kernel) ⟨(Nat.le_of_ble_eq_true rfl), (Nat.le_of_ble_eq_true rfl)⟩) ⟨p_RW_blind, va_recv hK hP (ci := 11) (q0 := 0) rfl rfl, (p_RW_at (tc := [(cq, .object "Gatherhouse$Piece")]) (wc := [(xo, .inr (11, [.ref xg, .int 0, .ref xp, .int 0, .ref xq, .int 0, .ref r1, .ref r2, .ref r3, .ref r4, .ref se, .int ts, .int hq, .int 40, .int 0, .int 0])), (xq, .inl (cq, 16, .inr (.inr (.inr (.inr (fun _ => none))))))]) hP hK hD hS hA hT hZ [0, 1] [0] rfl rfl (by decide) rfl [.ref xo, .int ii])⟩ rfl rfl hl.1 rfl (lv_room (Nat.le_of_ble_eq_true rfl)) dX6_price_2 ⟨(Nat.le_of_ble_eq_true rfl), (Nat.le_of_ble_eq_true rfl)⟩) hS (fun q _ h => hFc q h) hFc (fun q _ h => hFc q h) (fun E ce q9 u t H locs ht hvm hpx hBX hz1 hk1 hS hce hcv hcl => ?_) (fun r_164 u t H locs ht hvm w_165 hB hz1 hk1 hS => ?_)
  · have hBX : (E = "java/lang/IndexOutOfBoundsException") := hBX
    rcases hBX with rfl
    exact vx_out (fun x h => (hxt x h).elim) hlocks hce hcv hcl (fun t ht _ => ⟨(), trivial, rfl, hS.F ht⟩) hS.2.2 (Nat.le_of_ble_eq_true rfl) (Nat.le_of_ble_eq_true rfl)
  · exact w_165.elim
theorem dX6_sell_0 : decode cX6_sell 0 = .ok (.aload_n 0, 1) := by decide +kernel
theorem dX6_sell_1 : decode cX6_sell 1 = .ok (.iload_n 1, 1) := by decide +kernel
theorem dX6_sell_2 : decode cX6_sell 2 = .ok (.invokevirtual 169, 3) := by decide +kernel
def wzEX6_sell : List Cond := [.code yX6_sell cX6_sell 4 (some .int), .methodLink RX6 169 yX6_findPiece, .instanceMethod yX6_findPiece, .selects RX6 yX6_findPiece yX6_findPiece, .initialized RX6, .code yX6_findPiece cX6_findPiece 3 (some (.object "Gatherhouse$Piece")), .classLink RX6 365 "java/lang/IndexOutOfBoundsException", .initialized "java/lang/IndexOutOfBoundsException", .fieldLink RX6 30 "Gatherhouse" "pieces" "[LGatherhouse$Piece;"]
def wzX6_sell : List Cond := wzEX6_sell ++ (u_ws RX6 TX6 16 ++ ((vx_atS RX6 369 "java/lang/IndexOutOfBoundsException" ["java/lang/RuntimeException", "java/lang/Exception"]).filter goodWord))
theorem zgEX6_sell : wzEX6_sell.all goodWord = true := by decide +kernel
theorem zuX6_sell_X6 : ∀ w ∈ u_ws RX6 TX6 16, w ∈ wzX6_sell := (fun _ h => (List.mem_append_right _ (List.mem_append_left _ h)))
theorem ztX6_sell_X6_369 : ∀ w ∈ (vx_atS RX6 369 "java/lang/IndexOutOfBoundsException" ["java/lang/RuntimeException", "java/lang/Exception"]).filter goodWord, w ∈ wzX6_sell := (fun _ h => (List.mem_append_right _ (List.mem_append_right _ h)))
theorem gzX6_sell_X6_findPiece_169 : GoodIn wzX6_sell (wsV RX6 169 RX6 yX6_findPiece wzX6_findPiece) := (goodIn_app (z_lift (goodIn_r _ [1, 2, 3, 4] rfl (by decide +kernel))) (goodIn_app (z_lift (goodIn_r wzEX6_findPiece [5, 6, 7, 8] rfl zgEX6_findPiece)) (goodIn_app (goodIn_sub (fun _ h => (List.mem_append_right _ (List.mem_append_left _ h))) zgU_X6) (goodIn_sub (fun _ h => (List.mem_append_right _ (List.mem_append_right _ h))) zgV_X6_369))))
set_option maxHeartbeats 4000000 in
set_option maxRecDepth 100000 in
theorem zc_X6_sell (l : Launch) (hnt : l.stackTraces = false) (D : va_G) (G : Nat × Nat × Nat) (xo : Nat) (xg : Nat) (xp : Nat) (xq : Nat) (r1 : Nat) (r2 : Nat) (r3 : Nat) (r4 : Nat) (se : Nat) (ts : Int32) (hq : Int32) (cq : ClassId) (ii : Int32) (sz : Nat) : vx_Met l yX6_sell wzX6_sell ({ frames := 7, cells := 1, slots := 6, locals := 104 }) (va_Pc [.ref xo, .int ii] (p_RW D G [(cq, .object "Gatherhouse$Piece")] [(xo, .inr (11, [.ref xg, .int 0, .ref xp, .int 0, .ref xq, .int 0, .ref r1, .ref r2, .ref r3, .ref r4, .ref se, .int ts, .int hq, .int 40, .int 0, .int 0])), (xq, .inl (cq, 16, .inr (.inr (.inr (.inr (fun _ => none))))))] sz)) (va_Qi (fun (r : Int32) (u : Unit) => False) (fun (u : Unit) (t : State) => True) (va_A [(xo, .inr (11, [.ref xg, .int 0, .ref xp, .int 0, .ref xq, .int 0, .ref r1, .ref r2, .ref r3, .ref r4, .ref se, .int ts, .int hq, .int 40, .int 0, .int 0])), (xq, .inl (cq, 16, .inr (.inr (.inr (.inr (fun _ => none))))))] sz)) (vx_X (fun (_ : Unit) => True) (fun E (_ : Unit) (_ : State) => (E = "java/lang/IndexOutOfBoundsException")) (va_A [(xo, .inr (11, [.ref xg, .int 0, .ref xp, .int 0, .ref xq, .int 0, .ref r1, .ref r2, .ref r3, .ref r4, .ref se, .int ts, .int hq, .int 40, .int 0, .int 0])), (xq, .inl (cq, 16, .inr (.inr (.inr (.inr (fun _ => none))))))] sz)) 1 6 (va_A [(xo, .inr (11, [.ref xg, .int 0, .ref xp, .int 0, .ref xq, .int 0, .ref r1, .ref r2, .ref r3, .ref r4, .ref se, .int ts, .int hq, .int 40, .int 0, .int 0])), (xq, .inl (cq, 16, .inr (.inr (.inr (.inr (fun _ => none))))))] sz) := by
  refine vx_ofW (cc := cX6_sell) (maxL := 4) (ret := (some .int)) (by decide) rfl ?_
  intro p e s m args below meth c s₁ B hml hxt hv
  obtain ⟨rfl, hsz, hP, hK, hD0, hT, hZ⟩ := hv
  have hx := B.exec
  have hb := B.bytes
  have hr := B.returns
  have hts := atoms_spec (ws := wzX6_sell) B.pre
  have hown : s.vm.findClass RX6 = some m.cls := findClass_of_methodNamed B.named
  have hlocks := B.notSynchronized
  subst hsz
  have hD := hD0.self (sz := s.heap.size)
  generalize hAe : va_A [(xo, .inr (11, [.ref xg, .int 0, .ref xp, .int 0, .ref xq, .int 0, .ref r1, .ref r2, .ref r3, .ref r4, .ref se, .int ts, .int hq, .int 40, .int 0, .int 0])), (xq, .inl (cq, 16, .inr (.inr (.inr (.inr (fun _ => none))))))] s.heap.size = A at hD hZ ⊢
  have hA : ∀ q : Nat, s.heap.size ≤ q → A q := fun q h => by rw [← hAe]; exact Or.inr h
  have hS : va_S A s.heap s.heap [] := va_S.rf
  have hl := lv_entry ([.ref xo, .int ii]) (n := 4) (Nat.le_of_ble_eq_true rfl)
  rw [lg_entry_eq]
  generalize (lg_sl ([.ref xo, .int ii]) ++ List.replicate (4 - (lg_sl ([.ref xo, .int ii])).length) Slot.unset).toArray = ls at hl ⊢
  have hl : lv_has ls 4 [(0, .ref xo), (1, .int ii)] := hl
  refine lv_aload_n hx hb dX6_sell_0 rfl (lv_at hl 0 rfl) ?_
  refine lv_iload_n hx hb dX6_sell_1 rfl (lv_at hl 1 rfl) ?_
  have hFc := va_free (wc := [(xo, .inr (11, [.ref xg, .int 0, .ref xp, .int 0, .ref xq, .int 0, .ref r1, .ref r2, .ref r3, .ref r4, .ref se, .int ts, .int hq, .int 40, .int 0, .int 0])), (xq, .inl (cq, 16, .inr (.inr (.inr (.inr (fun _ => none))))))]) hD hS hA [0, 1] rfl
  refine vx_callq (vx_runV (As := [.int ii]) (rest := []) ⟨hx, hb, hml, hown, hts⟩ (zc_X6_findPiece l hnt D G xo xg xp xq r1 r2 r3 r4 se ts hq cq ii s.heap.size) (cwV 1 hts gzX6_sell_X6_findPiece_169 rfl rfl rfl (by decide +kernel) ⟨(Nat.le_of_ble_eq_true rfl), (Nat.le_of_ble_eq_true rfl)⟩) ⟨p_RW_blind, va_recv hK hP (ci := 11) (q0 := 0) rfl rfl, (p_RW_at (tc := [(cq, .object "Gatherhouse$Piece")]) (wc := [(xo, .inr (11, [.ref xg, .int 0, .ref xp, .int 0, .ref xq, .int 0, .ref r1, .ref r2, .ref r3, .ref r4, .ref se, .int ts, .int hq, .int 40, .int 0, .int 0])), (xq, .inl (cq, 16, .inr (.inr (.inr (.inr (fun _ => none))))))]) hP hK hD hS hA hT hZ [0, 1] [0] rfl rfl (by decide) rfl [.ref xo, .int ii])⟩ rfl rfl hl.1 rfl (lv_room (Nat.le_of_ble_eq_true rfl)) dX6_sell_2 ⟨(Nat.le_of_ble_eq_true rfl), (Nat.le_of_ble_eq_true rfl)⟩) hS (fun q _ h => hFc q h) hFc (fun q _ h => hFc q h) (fun E ce q9 u t H locs ht hvm hpx hBX hz1 hk1 hS hce hcv hcl => ?_) (fun r_166 u t H locs ht hvm w_167 hB hz1 hk1 hS => ?_)
  · have hBX : (E = "java/lang/IndexOutOfBoundsException") := hBX
    rcases hBX with rfl
    exact vx_out (fun x h => (hxt x h).elim) hlocks hce hcv hcl (fun t ht _ => ⟨(), trivial, rfl, hS.F ht⟩) hS.2.2 (Nat.le_of_ble_eq_true rfl) (Nat.le_of_ble_eq_true rfl)
  · exact w_167.elim
theorem dX6_lay_0 : decode cX6_lay 0 = .ok (.aload_n 0, 1) := by decide +kernel
theorem dX6_lay_1 : decode cX6_lay 1 = .ok (.iload_n 1, 1) := by decide +kernel
theorem dX6_lay_2 : decode cX6_lay 2 = .ok (.invokevirtual 169, 3) := by decide +kernel
def wzEX6_lay : List Cond := [.code yX6_lay cX6_lay 7 (some .int), .methodLink RX6 169 yX6_findPiece, .instanceMethod yX6_findPiece, .selects RX6 yX6_findPiece yX6_findPiece, .initialized RX6, .code yX6_findPiece cX6_findPiece 3 (some (.object "Gatherhouse$Piece")), .classLink RX6 365 "java/lang/IndexOutOfBoundsException", .initialized "java/lang/IndexOutOfBoundsException", .fieldLink RX6 30 "Gatherhouse" "pieces" "[LGatherhouse$Piece;"]
def wzX6_lay : List Cond := wzEX6_lay ++ (u_ws RX6 TX6 16 ++ ((vx_atS RX6 369 "java/lang/IndexOutOfBoundsException" ["java/lang/RuntimeException", "java/lang/Exception"]).filter goodWord))
theorem zgEX6_lay : wzEX6_lay.all goodWord = true := by decide +kernel
theorem zuX6_lay_X6 : ∀ w ∈ u_ws RX6 TX6 16, w ∈ wzX6_lay := (fun _ h => (List.mem_append_right _ (List.mem_append_left _ h)))
theorem ztX6_lay_X6_369 : ∀ w ∈ (vx_atS RX6 369 "java/lang/IndexOutOfBoundsException" ["java/lang/RuntimeException", "java/lang/Exception"]).filter goodWord, w ∈ wzX6_lay := (fun _ h => (List.mem_append_right _ (List.mem_append_right _ h)))
theorem gzX6_lay_X6_findPiece_169 : GoodIn wzX6_lay (wsV RX6 169 RX6 yX6_findPiece wzX6_findPiece) := (goodIn_app (z_lift (goodIn_r _ [1, 2, 3, 4] rfl (by decide +kernel))) (goodIn_app (z_lift (goodIn_r wzEX6_findPiece [5, 6, 7, 8] rfl zgEX6_findPiece)) (goodIn_app (goodIn_sub (fun _ h => (List.mem_append_right _ (List.mem_append_left _ h))) zgU_X6) (goodIn_sub (fun _ h => (List.mem_append_right _ (List.mem_append_right _ h))) zgV_X6_369))))
set_option maxHeartbeats 4000000 in
set_option maxRecDepth 100000 in
theorem zc_X6_lay (l : Launch) (hnt : l.stackTraces = false) (D : va_G) (G : Nat × Nat × Nat) (xo : Nat) (xg : Nat) (xp : Nat) (xq : Nat) (r1 : Nat) (r2 : Nat) (r3 : Nat) (r4 : Nat) (se : Nat) (ts : Int32) (hq : Int32) (cq : ClassId) (ii : Int32) (jj : Int32) (kk : Int32) (sz : Nat) : vx_Met l yX6_lay wzX6_lay ({ frames := 7, cells := 1, slots := 6, locals := 104 }) (va_Pc [.ref xo, .int ii, .int jj, .int kk] (p_RW D G [(cq, .object "Gatherhouse$Piece")] [(xo, .inr (11, [.ref xg, .int 0, .ref xp, .int 0, .ref xq, .int 0, .ref r1, .ref r2, .ref r3, .ref r4, .ref se, .int ts, .int hq, .int 40, .int 0, .int 0])), (xq, .inl (cq, 16, .inr (.inr (.inr (.inr (fun _ => none))))))] sz)) (va_Qi (fun (r : Int32) (u : Unit) => False) (fun (u : Unit) (t : State) => True) (va_A [(xo, .inr (11, [.ref xg, .int 0, .ref xp, .int 0, .ref xq, .int 0, .ref r1, .ref r2, .ref r3, .ref r4, .ref se, .int ts, .int hq, .int 40, .int 0, .int 0])), (xq, .inl (cq, 16, .inr (.inr (.inr (.inr (fun _ => none))))))] sz)) (vx_X (fun (_ : Unit) => True) (fun E (_ : Unit) (_ : State) => (E = "java/lang/IndexOutOfBoundsException")) (va_A [(xo, .inr (11, [.ref xg, .int 0, .ref xp, .int 0, .ref xq, .int 0, .ref r1, .ref r2, .ref r3, .ref r4, .ref se, .int ts, .int hq, .int 40, .int 0, .int 0])), (xq, .inl (cq, 16, .inr (.inr (.inr (.inr (fun _ => none))))))] sz)) 1 6 (va_A [(xo, .inr (11, [.ref xg, .int 0, .ref xp, .int 0, .ref xq, .int 0, .ref r1, .ref r2, .ref r3, .ref r4, .ref se, .int ts, .int hq, .int 40, .int 0, .int 0])), (xq, .inl (cq, 16, .inr (.inr (.inr (.inr (fun _ => none))))))] sz) := by
  refine vx_ofW (cc := cX6_lay) (maxL := 7) (ret := (some .int)) (by decide) rfl ?_
  intro p e s m args below meth c s₁ B hml hxt hv
  obtain ⟨rfl, hsz, hP, hK, hD0, hT, hZ⟩ := hv
  have hx := B.exec
  have hb := B.bytes
  have hr := B.returns
  have hts := atoms_spec (ws := wzX6_lay) B.pre
  have hown : s.vm.findClass RX6 = some m.cls := findClass_of_methodNamed B.named
  have hlocks := B.notSynchronized
  subst hsz
  have hD := hD0.self (sz := s.heap.size)
  generalize hAe : va_A [(xo, .inr (11, [.ref xg, .int 0, .ref xp, .int 0, .ref xq, .int 0, .ref r1, .ref r2, .ref r3, .ref r4, .ref se, .int ts, .int hq, .int 40, .int 0, .int 0])), (xq, .inl (cq, 16, .inr (.inr (.inr (.inr (fun _ => none))))))] s.heap.size = A at hD hZ ⊢
  have hA : ∀ q : Nat, s.heap.size ≤ q → A q := fun q h => by rw [← hAe]; exact Or.inr h
  have hS : va_S A s.heap s.heap [] := va_S.rf
  have hl := lv_entry ([.ref xo, .int ii, .int jj, .int kk]) (n := 7) (Nat.le_of_ble_eq_true rfl)
  rw [lg_entry_eq]
  generalize (lg_sl ([.ref xo, .int ii, .int jj, .int kk]) ++ List.replicate (7 - (lg_sl ([.ref xo, .int ii, .int jj, .int kk])).length) Slot.unset).toArray = ls at hl ⊢
  have hl : lv_has ls 7 [(0, .ref xo), (1, .int ii), (2, .int jj), (3, .int kk)] := hl
  refine lv_aload_n hx hb dX6_lay_0 rfl (lv_at hl 0 rfl) ?_
  refine lv_iload_n hx hb dX6_lay_1 rfl (lv_at hl 1 rfl) ?_
  have hFc := va_free (wc := [(xo, .inr (11, [.ref xg, .int 0, .ref xp, .int 0, .ref xq, .int 0, .ref r1, .ref r2, .ref r3, .ref r4, .ref se, .int ts, .int hq, .int 40, .int 0, .int 0])), (xq, .inl (cq, 16, .inr (.inr (.inr (.inr (fun _ => none))))))]) hD hS hA [0, 1] rfl
  refine vx_callq (vx_runV (As := [.int ii]) (rest := []) ⟨hx, hb, hml, hown, hts⟩ (zc_X6_findPiece l hnt D G xo xg xp xq r1 r2 r3 r4 se ts hq cq ii s.heap.size) (cwV 1 hts gzX6_lay_X6_findPiece_169 rfl rfl rfl (by decide +kernel) ⟨(Nat.le_of_ble_eq_true rfl), (Nat.le_of_ble_eq_true rfl)⟩) ⟨p_RW_blind, va_recv hK hP (ci := 11) (q0 := 0) rfl rfl, (p_RW_at (tc := [(cq, .object "Gatherhouse$Piece")]) (wc := [(xo, .inr (11, [.ref xg, .int 0, .ref xp, .int 0, .ref xq, .int 0, .ref r1, .ref r2, .ref r3, .ref r4, .ref se, .int ts, .int hq, .int 40, .int 0, .int 0])), (xq, .inl (cq, 16, .inr (.inr (.inr (.inr (fun _ => none))))))]) hP hK hD hS hA hT hZ [0, 1] [0] rfl rfl (by decide) rfl [.ref xo, .int ii])⟩ rfl rfl hl.1 rfl (lv_room (Nat.le_of_ble_eq_true rfl)) dX6_lay_2 ⟨(Nat.le_of_ble_eq_true rfl), (Nat.le_of_ble_eq_true rfl)⟩) hS (fun q _ h => hFc q h) hFc (fun q _ h => hFc q h) (fun E ce q9 u t H locs ht hvm hpx hBX hz1 hk1 hS hce hcv hcl => ?_) (fun r_168 u t H locs ht hvm w_169 hB hz1 hk1 hS => ?_)
  · have hBX : (E = "java/lang/IndexOutOfBoundsException") := hBX
    rcases hBX with rfl
    exact vx_out (fun x h => (hxt x h).elim) hlocks hce hcv hcl (fun t ht _ => ⟨(), trivial, rfl, hS.F ht⟩) hS.2.2 (Nat.le_of_ble_eq_true rfl) (Nat.le_of_ble_eq_true rfl)
  · exact w_169.elim
theorem dX6_join_0 : decode cX6_join 0 = .ok (.aload_n 0, 1) := by decide +kernel
theorem dX6_join_1 : decode cX6_join 1 = .ok (.iload_n 1, 1) := by decide +kernel
theorem dX6_join_2 : decode cX6_join 2 = .ok (.invokevirtual 169, 3) := by decide +kernel
def wzEX6_join : List Cond := [.code yX6_join cX6_join 5 (some .int), .methodLink RX6 169 yX6_findPiece, .instanceMethod yX6_findPiece, .selects RX6 yX6_findPiece yX6_findPiece, .initialized RX6, .code yX6_findPiece cX6_findPiece 3 (some (.object "Gatherhouse$Piece")), .classLink RX6 365 "java/lang/IndexOutOfBoundsException", .initialized "java/lang/IndexOutOfBoundsException", .fieldLink RX6 30 "Gatherhouse" "pieces" "[LGatherhouse$Piece;"]
def wzX6_join : List Cond := wzEX6_join ++ (u_ws RX6 TX6 16 ++ ((vx_atS RX6 369 "java/lang/IndexOutOfBoundsException" ["java/lang/RuntimeException", "java/lang/Exception"]).filter goodWord))
theorem zgEX6_join : wzEX6_join.all goodWord = true := by decide +kernel
theorem zuX6_join_X6 : ∀ w ∈ u_ws RX6 TX6 16, w ∈ wzX6_join := (fun _ h => (List.mem_append_right _ (List.mem_append_left _ h)))
theorem ztX6_join_X6_369 : ∀ w ∈ (vx_atS RX6 369 "java/lang/IndexOutOfBoundsException" ["java/lang/RuntimeException", "java/lang/Exception"]).filter goodWord, w ∈ wzX6_join := (fun _ h => (List.mem_append_right _ (List.mem_append_right _ h)))
theorem gzX6_join_X6_findPiece_169 : GoodIn wzX6_join (wsV RX6 169 RX6 yX6_findPiece wzX6_findPiece) := (goodIn_app (z_lift (goodIn_r _ [1, 2, 3, 4] rfl (by decide +kernel))) (goodIn_app (z_lift (goodIn_r wzEX6_findPiece [5, 6, 7, 8] rfl zgEX6_findPiece)) (goodIn_app (goodIn_sub (fun _ h => (List.mem_append_right _ (List.mem_append_left _ h))) zgU_X6) (goodIn_sub (fun _ h => (List.mem_append_right _ (List.mem_append_right _ h))) zgV_X6_369))))
set_option maxHeartbeats 4000000 in
set_option maxRecDepth 100000 in
theorem zc_X6_join (l : Launch) (hnt : l.stackTraces = false) (D : va_G) (G : Nat × Nat × Nat) (xo : Nat) (xg : Nat) (xp : Nat) (xq : Nat) (r1 : Nat) (r2 : Nat) (r3 : Nat) (r4 : Nat) (se : Nat) (ts : Int32) (hq : Int32) (cq : ClassId) (ii : Int32) (jj : Int32) (sz : Nat) : vx_Met l yX6_join wzX6_join ({ frames := 7, cells := 1, slots := 6, locals := 104 }) (va_Pc [.ref xo, .int ii, .int jj] (p_RW D G [(cq, .object "Gatherhouse$Piece")] [(xo, .inr (11, [.ref xg, .int 0, .ref xp, .int 0, .ref xq, .int 0, .ref r1, .ref r2, .ref r3, .ref r4, .ref se, .int ts, .int hq, .int 40, .int 0, .int 0])), (xq, .inl (cq, 16, .inr (.inr (.inr (.inr (fun _ => none))))))] sz)) (va_Qi (fun (r : Int32) (u : Unit) => False) (fun (u : Unit) (t : State) => True) (va_A [(xo, .inr (11, [.ref xg, .int 0, .ref xp, .int 0, .ref xq, .int 0, .ref r1, .ref r2, .ref r3, .ref r4, .ref se, .int ts, .int hq, .int 40, .int 0, .int 0])), (xq, .inl (cq, 16, .inr (.inr (.inr (.inr (fun _ => none))))))] sz)) (vx_X (fun (_ : Unit) => True) (fun E (_ : Unit) (_ : State) => (E = "java/lang/IndexOutOfBoundsException")) (va_A [(xo, .inr (11, [.ref xg, .int 0, .ref xp, .int 0, .ref xq, .int 0, .ref r1, .ref r2, .ref r3, .ref r4, .ref se, .int ts, .int hq, .int 40, .int 0, .int 0])), (xq, .inl (cq, 16, .inr (.inr (.inr (.inr (fun _ => none))))))] sz)) 1 6 (va_A [(xo, .inr (11, [.ref xg, .int 0, .ref xp, .int 0, .ref xq, .int 0, .ref r1, .ref r2, .ref r3, .ref r4, .ref se, .int ts, .int hq, .int 40, .int 0, .int 0])), (xq, .inl (cq, 16, .inr (.inr (.inr (.inr (fun _ => none))))))] sz) := by
  refine vx_ofW (cc := cX6_join) (maxL := 5) (ret := (some .int)) (by decide) rfl ?_
  intro p e s m args below meth c s₁ B hml hxt hv
  obtain ⟨rfl, hsz, hP, hK, hD0, hT, hZ⟩ := hv
  have hx := B.exec
  have hb := B.bytes
  have hr := B.returns
  have hts := atoms_spec (ws := wzX6_join) B.pre
  have hown : s.vm.findClass RX6 = some m.cls := findClass_of_methodNamed B.named
  have hlocks := B.notSynchronized
  subst hsz
  have hD := hD0.self (sz := s.heap.size)
  generalize hAe : va_A [(xo, .inr (11, [.ref xg, .int 0, .ref xp, .int 0, .ref xq, .int 0, .ref r1, .ref r2, .ref r3, .ref r4, .ref se, .int ts, .int hq, .int 40, .int 0, .int 0])), (xq, .inl (cq, 16, .inr (.inr (.inr (.inr (fun _ => none))))))] s.heap.size = A at hD hZ ⊢
  have hA : ∀ q : Nat, s.heap.size ≤ q → A q := fun q h => by rw [← hAe]; exact Or.inr h
  have hS : va_S A s.heap s.heap [] := va_S.rf
  have hl := lv_entry ([.ref xo, .int ii, .int jj]) (n := 5) (Nat.le_of_ble_eq_true rfl)
  rw [lg_entry_eq]
  generalize (lg_sl ([.ref xo, .int ii, .int jj]) ++ List.replicate (5 - (lg_sl ([.ref xo, .int ii, .int jj])).length) Slot.unset).toArray = ls at hl ⊢
  have hl : lv_has ls 5 [(0, .ref xo), (1, .int ii), (2, .int jj)] := hl
  refine lv_aload_n hx hb dX6_join_0 rfl (lv_at hl 0 rfl) ?_
  refine lv_iload_n hx hb dX6_join_1 rfl (lv_at hl 1 rfl) ?_
  have hFc := va_free (wc := [(xo, .inr (11, [.ref xg, .int 0, .ref xp, .int 0, .ref xq, .int 0, .ref r1, .ref r2, .ref r3, .ref r4, .ref se, .int ts, .int hq, .int 40, .int 0, .int 0])), (xq, .inl (cq, 16, .inr (.inr (.inr (.inr (fun _ => none))))))]) hD hS hA [0, 1] rfl
  refine vx_callq (vx_runV (As := [.int ii]) (rest := []) ⟨hx, hb, hml, hown, hts⟩ (zc_X6_findPiece l hnt D G xo xg xp xq r1 r2 r3 r4 se ts hq cq ii s.heap.size) (cwV 1 hts gzX6_join_X6_findPiece_169 rfl rfl rfl (by decide +kernel) ⟨(Nat.le_of_ble_eq_true rfl), (Nat.le_of_ble_eq_true rfl)⟩) ⟨p_RW_blind, va_recv hK hP (ci := 11) (q0 := 0) rfl rfl, (p_RW_at (tc := [(cq, .object "Gatherhouse$Piece")]) (wc := [(xo, .inr (11, [.ref xg, .int 0, .ref xp, .int 0, .ref xq, .int 0, .ref r1, .ref r2, .ref r3, .ref r4, .ref se, .int ts, .int hq, .int 40, .int 0, .int 0])), (xq, .inl (cq, 16, .inr (.inr (.inr (.inr (fun _ => none))))))]) hP hK hD hS hA hT hZ [0, 1] [0] rfl rfl (by decide) rfl [.ref xo, .int ii])⟩ rfl rfl hl.1 rfl (lv_room (Nat.le_of_ble_eq_true rfl)) dX6_join_2 ⟨(Nat.le_of_ble_eq_true rfl), (Nat.le_of_ble_eq_true rfl)⟩) hS (fun q _ h => hFc q h) hFc (fun q _ h => hFc q h) (fun E ce q9 u t H locs ht hvm hpx hBX hz1 hk1 hS hce hcv hcl => ?_) (fun r_170 u t H locs ht hvm w_171 hB hz1 hk1 hS => ?_)
  · have hBX : (E = "java/lang/IndexOutOfBoundsException") := hBX
    rcases hBX with rfl
    exact vx_out (fun x h => (hxt x h).elim) hlocks hce hcv hcl (fun t ht _ => ⟨(), trivial, rfl, hS.F ht⟩) hS.2.2 (Nat.le_of_ble_eq_true rfl) (Nat.le_of_ble_eq_true rfl)
  · exact w_171.elim
theorem dX6_charge_0 : decode cX6_charge 0 = .ok (.aload_n 0, 1) := by decide +kernel
theorem dX6_charge_1 : decode cX6_charge 1 = .ok (.iload_n 1, 1) := by decide +kernel
theorem dX6_charge_2 : decode cX6_charge 2 = .ok (.invokevirtual 102, 3) := by decide +kernel
def wzEX6_charge : List Cond := [.code yX6_charge cX6_charge 4 (some .int), .methodLink RX6 102 yX6_findPot, .instanceMethod yX6_findPot, .selects RX6 yX6_findPot yX6_findPot, .initialized RX6, .code yX6_findPot cX6_findPot 3 (some (.object "Gatherhouse$Pot")), .classLink RX6 365 "java/lang/IndexOutOfBoundsException", .initialized "java/lang/IndexOutOfBoundsException", .fieldLink RX6 21 "Gatherhouse" "pots" "[LGatherhouse$Pot;"]
def wzX6_charge : List Cond := wzEX6_charge ++ (u_ws RX6 TX6 16 ++ ((vx_atS RX6 369 "java/lang/IndexOutOfBoundsException" ["java/lang/RuntimeException", "java/lang/Exception"]).filter goodWord))
theorem zgEX6_charge : wzEX6_charge.all goodWord = true := by decide +kernel
theorem zuX6_charge_X6 : ∀ w ∈ u_ws RX6 TX6 16, w ∈ wzX6_charge := (fun _ h => (List.mem_append_right _ (List.mem_append_left _ h)))
theorem ztX6_charge_X6_369 : ∀ w ∈ (vx_atS RX6 369 "java/lang/IndexOutOfBoundsException" ["java/lang/RuntimeException", "java/lang/Exception"]).filter goodWord, w ∈ wzX6_charge := (fun _ h => (List.mem_append_right _ (List.mem_append_right _ h)))
theorem gzX6_charge_X6_findPot_102 : GoodIn wzX6_charge (wsV RX6 102 RX6 yX6_findPot wzX6_findPot) := (goodIn_app (z_lift (goodIn_r _ [1, 2, 3, 4] rfl (by decide +kernel))) (goodIn_app (z_lift (goodIn_r wzEX6_findPot [5, 6, 7, 8] rfl zgEX6_findPot)) (goodIn_app (goodIn_sub (fun _ h => (List.mem_append_right _ (List.mem_append_left _ h))) zgU_X6) (goodIn_sub (fun _ h => (List.mem_append_right _ (List.mem_append_right _ h))) zgV_X6_369))))
set_option maxHeartbeats 4000000 in
set_option maxRecDepth 100000 in
theorem zc_X6_charge (l : Launch) (hnt : l.stackTraces = false) (D : va_G) (G : Nat × Nat × Nat) (xo : Nat) (xg : Nat) (xp : Nat) (xq : Nat) (r1 : Nat) (r2 : Nat) (r3 : Nat) (r4 : Nat) (se : Nat) (ts : Int32) (hq : Int32) (cp : ClassId) (ii : Int32) (jj : Int32) (sz : Nat) : vx_Met l yX6_charge wzX6_charge ({ frames := 7, cells := 1, slots := 6, locals := 104 }) (va_Pc [.ref xo, .int ii, .int jj] (p_RW D G [(cp, .object "Gatherhouse$Pot")] [(xo, .inr (11, [.ref xg, .int 0, .ref xp, .int 0, .ref xq, .int 0, .ref r1, .ref r2, .ref r3, .ref r4, .ref se, .int ts, .int hq, .int 40, .int 0, .int 0])), (xp, .inl (cp, 4, .inr (.inr (.inr (.inr (fun _ => none))))))] sz)) (va_Qi (fun (r : Int32) (u : Unit) => False) (fun (u : Unit) (t : State) => True) (va_A [(xo, .inr (11, [.ref xg, .int 0, .ref xp, .int 0, .ref xq, .int 0, .ref r1, .ref r2, .ref r3, .ref r4, .ref se, .int ts, .int hq, .int 40, .int 0, .int 0])), (xp, .inl (cp, 4, .inr (.inr (.inr (.inr (fun _ => none))))))] sz)) (vx_X (fun (_ : Unit) => True) (fun E (_ : Unit) (_ : State) => (E = "java/lang/IndexOutOfBoundsException")) (va_A [(xo, .inr (11, [.ref xg, .int 0, .ref xp, .int 0, .ref xq, .int 0, .ref r1, .ref r2, .ref r3, .ref r4, .ref se, .int ts, .int hq, .int 40, .int 0, .int 0])), (xp, .inl (cp, 4, .inr (.inr (.inr (.inr (fun _ => none))))))] sz)) 1 6 (va_A [(xo, .inr (11, [.ref xg, .int 0, .ref xp, .int 0, .ref xq, .int 0, .ref r1, .ref r2, .ref r3, .ref r4, .ref se, .int ts, .int hq, .int 40, .int 0, .int 0])), (xp, .inl (cp, 4, .inr (.inr (.inr (.inr (fun _ => none))))))] sz) := by
  refine vx_ofW (cc := cX6_charge) (maxL := 4) (ret := (some .int)) (by decide) rfl ?_
  intro p e s m args below meth c s₁ B hml hxt hv
  obtain ⟨rfl, hsz, hP, hK, hD0, hT, hZ⟩ := hv
  have hx := B.exec
  have hb := B.bytes
  have hr := B.returns
  have hts := atoms_spec (ws := wzX6_charge) B.pre
  have hown : s.vm.findClass RX6 = some m.cls := findClass_of_methodNamed B.named
  have hlocks := B.notSynchronized
  subst hsz
  have hD := hD0.self (sz := s.heap.size)
  generalize hAe : va_A [(xo, .inr (11, [.ref xg, .int 0, .ref xp, .int 0, .ref xq, .int 0, .ref r1, .ref r2, .ref r3, .ref r4, .ref se, .int ts, .int hq, .int 40, .int 0, .int 0])), (xp, .inl (cp, 4, .inr (.inr (.inr (.inr (fun _ => none))))))] s.heap.size = A at hD hZ ⊢
  have hA : ∀ q : Nat, s.heap.size ≤ q → A q := fun q h => by rw [← hAe]; exact Or.inr h
  have hS : va_S A s.heap s.heap [] := va_S.rf
  have hl := lv_entry ([.ref xo, .int ii, .int jj]) (n := 4) (Nat.le_of_ble_eq_true rfl)
  rw [lg_entry_eq]
  generalize (lg_sl ([.ref xo, .int ii, .int jj]) ++ List.replicate (4 - (lg_sl ([.ref xo, .int ii, .int jj])).length) Slot.unset).toArray = ls at hl ⊢
  have hl : lv_has ls 4 [(0, .ref xo), (1, .int ii), (2, .int jj)] := hl
  refine lv_aload_n hx hb dX6_charge_0 rfl (lv_at hl 0 rfl) ?_
  refine lv_iload_n hx hb dX6_charge_1 rfl (lv_at hl 1 rfl) ?_
  have hFc := va_free (wc := [(xo, .inr (11, [.ref xg, .int 0, .ref xp, .int 0, .ref xq, .int 0, .ref r1, .ref r2, .ref r3, .ref r4, .ref se, .int ts, .int hq, .int 40, .int 0, .int 0])), (xp, .inl (cp, 4, .inr (.inr (.inr (.inr (fun _ => none))))))]) hD hS hA [0, 1] rfl
  refine vx_callq (vx_runV (As := [.int ii]) (rest := []) ⟨hx, hb, hml, hown, hts⟩ (zc_X6_findPot l hnt D G xo xg xp xq r1 r2 r3 r4 se ts hq cp ii s.heap.size) (cwV 1 hts gzX6_charge_X6_findPot_102 rfl rfl rfl (by decide +kernel) ⟨(Nat.le_of_ble_eq_true rfl), (Nat.le_of_ble_eq_true rfl)⟩) ⟨p_RW_blind, va_recv hK hP (ci := 11) (q0 := 0) rfl rfl, (p_RW_at (tc := [(cp, .object "Gatherhouse$Pot")]) (wc := [(xo, .inr (11, [.ref xg, .int 0, .ref xp, .int 0, .ref xq, .int 0, .ref r1, .ref r2, .ref r3, .ref r4, .ref se, .int ts, .int hq, .int 40, .int 0, .int 0])), (xp, .inl (cp, 4, .inr (.inr (.inr (.inr (fun _ => none))))))]) hP hK hD hS hA hT hZ [0, 1] [0] rfl rfl (by decide) rfl [.ref xo, .int ii])⟩ rfl rfl hl.1 rfl (lv_room (Nat.le_of_ble_eq_true rfl)) dX6_charge_2 ⟨(Nat.le_of_ble_eq_true rfl), (Nat.le_of_ble_eq_true rfl)⟩) hS (fun q _ h => hFc q h) hFc (fun q _ h => hFc q h) (fun E ce q9 u t H locs ht hvm hpx hBX hz1 hk1 hS hce hcv hcl => ?_) (fun r_172 u t H locs ht hvm w_173 hB hz1 hk1 hS => ?_)
  · have hBX : (E = "java/lang/IndexOutOfBoundsException") := hBX
    rcases hBX with rfl
    exact vx_out (fun x h => (hxt x h).elim) hlocks hce hcv hcl (fun t ht _ => ⟨(), trivial, rfl, hS.F ht⟩) hS.2.2 (Nat.le_of_ble_eq_true rfl) (Nat.le_of_ble_eq_true rfl)
  · exact w_173.elim
theorem dX6_change_0 : decode cX6_change 0 = .ok (.aload_n 0, 1) := by decide +kernel
theorem dX6_change_1 : decode cX6_change 1 = .ok (.iload_n 1, 1) := by decide +kernel
theorem dX6_change_2 : decode cX6_change 2 = .ok (.invokevirtual 102, 3) := by decide +kernel
def wzEX6_change : List Cond := [.code yX6_change cX6_change 4 (some .int), .methodLink RX6 102 yX6_findPot, .instanceMethod yX6_findPot, .selects RX6 yX6_findPot yX6_findPot, .initialized RX6, .code yX6_findPot cX6_findPot 3 (some (.object "Gatherhouse$Pot")), .classLink RX6 365 "java/lang/IndexOutOfBoundsException", .initialized "java/lang/IndexOutOfBoundsException", .fieldLink RX6 21 "Gatherhouse" "pots" "[LGatherhouse$Pot;"]
def wzX6_change : List Cond := wzEX6_change ++ (u_ws RX6 TX6 16 ++ ((vx_atS RX6 369 "java/lang/IndexOutOfBoundsException" ["java/lang/RuntimeException", "java/lang/Exception"]).filter goodWord))
theorem zgEX6_change : wzEX6_change.all goodWord = true := by decide +kernel
theorem zuX6_change_X6 : ∀ w ∈ u_ws RX6 TX6 16, w ∈ wzX6_change := (fun _ h => (List.mem_append_right _ (List.mem_append_left _ h)))
theorem ztX6_change_X6_369 : ∀ w ∈ (vx_atS RX6 369 "java/lang/IndexOutOfBoundsException" ["java/lang/RuntimeException", "java/lang/Exception"]).filter goodWord, w ∈ wzX6_change := (fun _ h => (List.mem_append_right _ (List.mem_append_right _ h)))
theorem gzX6_change_X6_findPot_102 : GoodIn wzX6_change (wsV RX6 102 RX6 yX6_findPot wzX6_findPot) := (goodIn_app (z_lift (goodIn_r _ [1, 2, 3, 4] rfl (by decide +kernel))) (goodIn_app (z_lift (goodIn_r wzEX6_findPot [5, 6, 7, 8] rfl zgEX6_findPot)) (goodIn_app (goodIn_sub (fun _ h => (List.mem_append_right _ (List.mem_append_left _ h))) zgU_X6) (goodIn_sub (fun _ h => (List.mem_append_right _ (List.mem_append_right _ h))) zgV_X6_369))))
set_option maxHeartbeats 4000000 in
set_option maxRecDepth 100000 in
theorem zc_X6_change (l : Launch) (hnt : l.stackTraces = false) (D : va_G) (G : Nat × Nat × Nat) (xo : Nat) (xg : Nat) (xp : Nat) (xq : Nat) (r1 : Nat) (r2 : Nat) (r3 : Nat) (r4 : Nat) (se : Nat) (ts : Int32) (hq : Int32) (cp : ClassId) (ii : Int32) (sz : Nat) : vx_Met l yX6_change wzX6_change ({ frames := 7, cells := 1, slots := 6, locals := 104 }) (va_Pc [.ref xo, .int ii] (p_RW D G [(cp, .object "Gatherhouse$Pot")] [(xo, .inr (11, [.ref xg, .int 0, .ref xp, .int 0, .ref xq, .int 0, .ref r1, .ref r2, .ref r3, .ref r4, .ref se, .int ts, .int hq, .int 40, .int 0, .int 0])), (xp, .inl (cp, 4, .inr (.inr (.inr (.inr (fun _ => none))))))] sz)) (va_Qi (fun (r : Int32) (u : Unit) => False) (fun (u : Unit) (t : State) => True) (va_A [(xo, .inr (11, [.ref xg, .int 0, .ref xp, .int 0, .ref xq, .int 0, .ref r1, .ref r2, .ref r3, .ref r4, .ref se, .int ts, .int hq, .int 40, .int 0, .int 0])), (xp, .inl (cp, 4, .inr (.inr (.inr (.inr (fun _ => none))))))] sz)) (vx_X (fun (_ : Unit) => True) (fun E (_ : Unit) (_ : State) => (E = "java/lang/IndexOutOfBoundsException")) (va_A [(xo, .inr (11, [.ref xg, .int 0, .ref xp, .int 0, .ref xq, .int 0, .ref r1, .ref r2, .ref r3, .ref r4, .ref se, .int ts, .int hq, .int 40, .int 0, .int 0])), (xp, .inl (cp, 4, .inr (.inr (.inr (.inr (fun _ => none))))))] sz)) 1 6 (va_A [(xo, .inr (11, [.ref xg, .int 0, .ref xp, .int 0, .ref xq, .int 0, .ref r1, .ref r2, .ref r3, .ref r4, .ref se, .int ts, .int hq, .int 40, .int 0, .int 0])), (xp, .inl (cp, 4, .inr (.inr (.inr (.inr (fun _ => none))))))] sz) := by
  refine vx_ofW (cc := cX6_change) (maxL := 4) (ret := (some .int)) (by decide) rfl ?_
  intro p e s m args below meth c s₁ B hml hxt hv
  obtain ⟨rfl, hsz, hP, hK, hD0, hT, hZ⟩ := hv
  have hx := B.exec
  have hb := B.bytes
  have hr := B.returns
  have hts := atoms_spec (ws := wzX6_change) B.pre
  have hown : s.vm.findClass RX6 = some m.cls := findClass_of_methodNamed B.named
  have hlocks := B.notSynchronized
  subst hsz
  have hD := hD0.self (sz := s.heap.size)
  generalize hAe : va_A [(xo, .inr (11, [.ref xg, .int 0, .ref xp, .int 0, .ref xq, .int 0, .ref r1, .ref r2, .ref r3, .ref r4, .ref se, .int ts, .int hq, .int 40, .int 0, .int 0])), (xp, .inl (cp, 4, .inr (.inr (.inr (.inr (fun _ => none))))))] s.heap.size = A at hD hZ ⊢
  have hA : ∀ q : Nat, s.heap.size ≤ q → A q := fun q h => by rw [← hAe]; exact Or.inr h
  have hS : va_S A s.heap s.heap [] := va_S.rf
  have hl := lv_entry ([.ref xo, .int ii]) (n := 4) (Nat.le_of_ble_eq_true rfl)
  rw [lg_entry_eq]
  generalize (lg_sl ([.ref xo, .int ii]) ++ List.replicate (4 - (lg_sl ([.ref xo, .int ii])).length) Slot.unset).toArray = ls at hl ⊢
  have hl : lv_has ls 4 [(0, .ref xo), (1, .int ii)] := hl
  refine lv_aload_n hx hb dX6_change_0 rfl (lv_at hl 0 rfl) ?_
  refine lv_iload_n hx hb dX6_change_1 rfl (lv_at hl 1 rfl) ?_
  have hFc := va_free (wc := [(xo, .inr (11, [.ref xg, .int 0, .ref xp, .int 0, .ref xq, .int 0, .ref r1, .ref r2, .ref r3, .ref r4, .ref se, .int ts, .int hq, .int 40, .int 0, .int 0])), (xp, .inl (cp, 4, .inr (.inr (.inr (.inr (fun _ => none))))))]) hD hS hA [0, 1] rfl
  refine vx_callq (vx_runV (As := [.int ii]) (rest := []) ⟨hx, hb, hml, hown, hts⟩ (zc_X6_findPot l hnt D G xo xg xp xq r1 r2 r3 r4 se ts hq cp ii s.heap.size) (cwV 1 hts gzX6_change_X6_findPot_102 rfl rfl rfl (by decide +kernel) ⟨(Nat.le_of_ble_eq_true rfl), (Nat.le_of_ble_eq_true rfl)⟩) ⟨p_RW_blind, va_recv hK hP (ci := 11) (q0 := 0) rfl rfl, (p_RW_at (tc := [(cp, .object "Gatherhouse$Pot")]) (wc := [(xo, .inr (11, [.ref xg, .int 0, .ref xp, .int 0, .ref xq, .int 0, .ref r1, .ref r2, .ref r3, .ref r4, .ref se, .int ts, .int hq, .int 40, .int 0, .int 0])), (xp, .inl (cp, 4, .inr (.inr (.inr (.inr (fun _ => none))))))]) hP hK hD hS hA hT hZ [0, 1] [0] rfl rfl (by decide) rfl [.ref xo, .int ii])⟩ rfl rfl hl.1 rfl (lv_room (Nat.le_of_ble_eq_true rfl)) dX6_change_2 ⟨(Nat.le_of_ble_eq_true rfl), (Nat.le_of_ble_eq_true rfl)⟩) hS (fun q _ h => hFc q h) hFc (fun q _ h => hFc q h) (fun E ce q9 u t H locs ht hvm hpx hBX hz1 hk1 hS hce hcv hcl => ?_) (fun r_174 u t H locs ht hvm w_175 hB hz1 hk1 hS => ?_)
  · have hBX : (E = "java/lang/IndexOutOfBoundsException") := hBX
    rcases hBX with rfl
    exact vx_out (fun x h => (hxt x h).elim) hlocks hce hcv hcl (fun t ht _ => ⟨(), trivial, rfl, hS.F ht⟩) hS.2.2 (Nat.le_of_ble_eq_true rfl) (Nat.le_of_ble_eq_true rfl)
  · exact w_175.elim
theorem dX6_of_0 : decode cX6_of 0 = .ok (.aload_n 0, 1) := by decide +kernel
theorem dX6_of_1 : decode cX6_of 1 = .ok (.iload_n 1, 1) := by decide +kernel
theorem dX6_of_2 : decode cX6_of 2 = .ok (.invokevirtual 102, 3) := by decide +kernel
def wzEX6_of : List Cond := [.code yX6_of cX6_of 4 (some .int), .methodLink RX6 102 yX6_findPot, .instanceMethod yX6_findPot, .selects RX6 yX6_findPot yX6_findPot, .initialized RX6, .code yX6_findPot cX6_findPot 3 (some (.object "Gatherhouse$Pot")), .classLink RX6 365 "java/lang/IndexOutOfBoundsException", .initialized "java/lang/IndexOutOfBoundsException", .fieldLink RX6 21 "Gatherhouse" "pots" "[LGatherhouse$Pot;"]
def wzX6_of : List Cond := wzEX6_of ++ (u_ws RX6 TX6 16 ++ ((vx_atS RX6 369 "java/lang/IndexOutOfBoundsException" ["java/lang/RuntimeException", "java/lang/Exception"]).filter goodWord))
theorem zgEX6_of : wzEX6_of.all goodWord = true := by decide +kernel
theorem zuX6_of_X6 : ∀ w ∈ u_ws RX6 TX6 16, w ∈ wzX6_of := (fun _ h => (List.mem_append_right _ (List.mem_append_left _ h)))
theorem ztX6_of_X6_369 : ∀ w ∈ (vx_atS RX6 369 "java/lang/IndexOutOfBoundsException" ["java/lang/RuntimeException", "java/lang/Exception"]).filter goodWord, w ∈ wzX6_of := (fun _ h => (List.mem_append_right _ (List.mem_append_right _ h)))
theorem gzX6_of_X6_findPot_102 : GoodIn wzX6_of (wsV RX6 102 RX6 yX6_findPot wzX6_findPot) := (goodIn_app (z_lift (goodIn_r _ [1, 2, 3, 4] rfl (by decide +kernel))) (goodIn_app (z_lift (goodIn_r wzEX6_findPot [5, 6, 7, 8] rfl zgEX6_findPot)) (goodIn_app (goodIn_sub (fun _ h => (List.mem_append_right _ (List.mem_append_left _ h))) zgU_X6) (goodIn_sub (fun _ h => (List.mem_append_right _ (List.mem_append_right _ h))) zgV_X6_369))))
set_option maxHeartbeats 4000000 in
set_option maxRecDepth 100000 in
theorem zc_X6_of (l : Launch) (hnt : l.stackTraces = false) (D : va_G) (G : Nat × Nat × Nat) (xo : Nat) (xg : Nat) (xp : Nat) (xq : Nat) (r1 : Nat) (r2 : Nat) (r3 : Nat) (r4 : Nat) (se : Nat) (ts : Int32) (hq : Int32) (cp : ClassId) (ii : Int32) (jj : Int32) (sz : Nat) : vx_Met l yX6_of wzX6_of ({ frames := 7, cells := 1, slots := 6, locals := 104 }) (va_Pc [.ref xo, .int ii, .int jj] (p_RW D G [(cp, .object "Gatherhouse$Pot")] [(xo, .inr (11, [.ref xg, .int 0, .ref xp, .int 0, .ref xq, .int 0, .ref r1, .ref r2, .ref r3, .ref r4, .ref se, .int ts, .int hq, .int 40, .int 0, .int 0])), (xp, .inl (cp, 4, .inr (.inr (.inr (.inr (fun _ => none))))))] sz)) (va_Qi (fun (r : Int32) (u : Unit) => False) (fun (u : Unit) (t : State) => True) (va_A [(xo, .inr (11, [.ref xg, .int 0, .ref xp, .int 0, .ref xq, .int 0, .ref r1, .ref r2, .ref r3, .ref r4, .ref se, .int ts, .int hq, .int 40, .int 0, .int 0])), (xp, .inl (cp, 4, .inr (.inr (.inr (.inr (fun _ => none))))))] sz)) (vx_X (fun (_ : Unit) => True) (fun E (_ : Unit) (_ : State) => (E = "java/lang/IndexOutOfBoundsException")) (va_A [(xo, .inr (11, [.ref xg, .int 0, .ref xp, .int 0, .ref xq, .int 0, .ref r1, .ref r2, .ref r3, .ref r4, .ref se, .int ts, .int hq, .int 40, .int 0, .int 0])), (xp, .inl (cp, 4, .inr (.inr (.inr (.inr (fun _ => none))))))] sz)) 1 6 (va_A [(xo, .inr (11, [.ref xg, .int 0, .ref xp, .int 0, .ref xq, .int 0, .ref r1, .ref r2, .ref r3, .ref r4, .ref se, .int ts, .int hq, .int 40, .int 0, .int 0])), (xp, .inl (cp, 4, .inr (.inr (.inr (.inr (fun _ => none))))))] sz) := by
  refine vx_ofW (cc := cX6_of) (maxL := 4) (ret := (some .int)) (by decide) rfl ?_
  intro p e s m args below meth c s₁ B hml hxt hv
  obtain ⟨rfl, hsz, hP, hK, hD0, hT, hZ⟩ := hv
  have hx := B.exec
  have hb := B.bytes
  have hr := B.returns
  have hts := atoms_spec (ws := wzX6_of) B.pre
  have hown : s.vm.findClass RX6 = some m.cls := findClass_of_methodNamed B.named
  have hlocks := B.notSynchronized
  subst hsz
  have hD := hD0.self (sz := s.heap.size)
  generalize hAe : va_A [(xo, .inr (11, [.ref xg, .int 0, .ref xp, .int 0, .ref xq, .int 0, .ref r1, .ref r2, .ref r3, .ref r4, .ref se, .int ts, .int hq, .int 40, .int 0, .int 0])), (xp, .inl (cp, 4, .inr (.inr (.inr (.inr (fun _ => none))))))] s.heap.size = A at hD hZ ⊢
  have hA : ∀ q : Nat, s.heap.size ≤ q → A q := fun q h => by rw [← hAe]; exact Or.inr h
  have hS : va_S A s.heap s.heap [] := va_S.rf
  have hl := lv_entry ([.ref xo, .int ii, .int jj]) (n := 4) (Nat.le_of_ble_eq_true rfl)
  rw [lg_entry_eq]
  generalize (lg_sl ([.ref xo, .int ii, .int jj]) ++ List.replicate (4 - (lg_sl ([.ref xo, .int ii, .int jj])).length) Slot.unset).toArray = ls at hl ⊢
  have hl : lv_has ls 4 [(0, .ref xo), (1, .int ii), (2, .int jj)] := hl
  refine lv_aload_n hx hb dX6_of_0 rfl (lv_at hl 0 rfl) ?_
  refine lv_iload_n hx hb dX6_of_1 rfl (lv_at hl 1 rfl) ?_
  have hFc := va_free (wc := [(xo, .inr (11, [.ref xg, .int 0, .ref xp, .int 0, .ref xq, .int 0, .ref r1, .ref r2, .ref r3, .ref r4, .ref se, .int ts, .int hq, .int 40, .int 0, .int 0])), (xp, .inl (cp, 4, .inr (.inr (.inr (.inr (fun _ => none))))))]) hD hS hA [0, 1] rfl
  refine vx_callq (vx_runV (As := [.int ii]) (rest := []) ⟨hx, hb, hml, hown, hts⟩ (zc_X6_findPot l hnt D G xo xg xp xq r1 r2 r3 r4 se ts hq cp ii s.heap.size) (cwV 1 hts gzX6_of_X6_findPot_102 rfl rfl rfl (by decide +kernel) ⟨(Nat.le_of_ble_eq_true rfl), (Nat.le_of_ble_eq_true rfl)⟩) ⟨p_RW_blind, va_recv hK hP (ci := 11) (q0 := 0) rfl rfl, (p_RW_at (tc := [(cp, .object "Gatherhouse$Pot")]) (wc := [(xo, .inr (11, [.ref xg, .int 0, .ref xp, .int 0, .ref xq, .int 0, .ref r1, .ref r2, .ref r3, .ref r4, .ref se, .int ts, .int hq, .int 40, .int 0, .int 0])), (xp, .inl (cp, 4, .inr (.inr (.inr (.inr (fun _ => none))))))]) hP hK hD hS hA hT hZ [0, 1] [0] rfl rfl (by decide) rfl [.ref xo, .int ii])⟩ rfl rfl hl.1 rfl (lv_room (Nat.le_of_ble_eq_true rfl)) dX6_of_2 ⟨(Nat.le_of_ble_eq_true rfl), (Nat.le_of_ble_eq_true rfl)⟩) hS (fun q _ h => hFc q h) hFc (fun q _ h => hFc q h) (fun E ce q9 u t H locs ht hvm hpx hBX hz1 hk1 hS hce hcv hcl => ?_) (fun r_176 u t H locs ht hvm w_177 hB hz1 hk1 hS => ?_)
  · have hBX : (E = "java/lang/IndexOutOfBoundsException") := hBX
    rcases hBX with rfl
    exact vx_out (fun x h => (hxt x h).elim) hlocks hce hcv hcl (fun t ht _ => ⟨(), trivial, rfl, hS.F ht⟩) hS.2.2 (Nat.le_of_ble_eq_true rfl) (Nat.le_of_ble_eq_true rfl)
  · exact w_177.elim
theorem dX6_gather_0 : decode cX6_gather 0 = .ok (.aload_n 0, 1) := by decide +kernel
theorem dX6_gather_1 : decode cX6_gather 1 = .ok (.iload_n 1, 1) := by decide +kernel
theorem dX6_gather_2 : decode cX6_gather 2 = .ok (.invokevirtual 102, 3) := by decide +kernel
def wzEX6_gather : List Cond := [.code yX6_gather cX6_gather 5 (some .int), .methodLink RX6 102 yX6_findPot, .instanceMethod yX6_findPot, .selects RX6 yX6_findPot yX6_findPot, .initialized RX6, .code yX6_findPot cX6_findPot 3 (some (.object "Gatherhouse$Pot")), .classLink RX6 365 "java/lang/IndexOutOfBoundsException", .initialized "java/lang/IndexOutOfBoundsException", .fieldLink RX6 21 "Gatherhouse" "pots" "[LGatherhouse$Pot;"]
def wzX6_gather : List Cond := wzEX6_gather ++ (u_ws RX6 TX6 16 ++ ((vx_atS RX6 369 "java/lang/IndexOutOfBoundsException" ["java/lang/RuntimeException", "java/lang/Exception"]).filter goodWord))
theorem zgEX6_gather : wzEX6_gather.all goodWord = true := by decide +kernel
theorem zuX6_gather_X6 : ∀ w ∈ u_ws RX6 TX6 16, w ∈ wzX6_gather := (fun _ h => (List.mem_append_right _ (List.mem_append_left _ h)))
theorem ztX6_gather_X6_369 : ∀ w ∈ (vx_atS RX6 369 "java/lang/IndexOutOfBoundsException" ["java/lang/RuntimeException", "java/lang/Exception"]).filter goodWord, w ∈ wzX6_gather := (fun _ h => (List.mem_append_right _ (List.mem_append_right _ h)))
theorem gzX6_gather_X6_findPot_102 : GoodIn wzX6_gather (wsV RX6 102 RX6 yX6_findPot wzX6_findPot) := (goodIn_app (z_lift (goodIn_r _ [1, 2, 3, 4] rfl (by decide +kernel))) (goodIn_app (z_lift (goodIn_r wzEX6_findPot [5, 6, 7, 8] rfl zgEX6_findPot)) (goodIn_app (goodIn_sub (fun _ h => (List.mem_append_right _ (List.mem_append_left _ h))) zgU_X6) (goodIn_sub (fun _ h => (List.mem_append_right _ (List.mem_append_right _ h))) zgV_X6_369))))
set_option maxHeartbeats 4000000 in
set_option maxRecDepth 100000 in
theorem zc_X6_gather (l : Launch) (hnt : l.stackTraces = false) (D : va_G) (G : Nat × Nat × Nat) (xo : Nat) (xg : Nat) (xp : Nat) (xq : Nat) (r1 : Nat) (r2 : Nat) (r3 : Nat) (r4 : Nat) (se : Nat) (ts : Int32) (hq : Int32) (cp : ClassId) (ii : Int32) (jj : Int32) (sz : Nat) : vx_Met l yX6_gather wzX6_gather ({ frames := 7, cells := 1, slots := 6, locals := 104 }) (va_Pc [.ref xo, .int ii, .int jj] (p_RW D G [(cp, .object "Gatherhouse$Pot")] [(xo, .inr (11, [.ref xg, .int 0, .ref xp, .int 0, .ref xq, .int 0, .ref r1, .ref r2, .ref r3, .ref r4, .ref se, .int ts, .int hq, .int 40, .int 0, .int 0])), (xp, .inl (cp, 4, .inr (.inr (.inr (.inr (fun _ => none))))))] sz)) (va_Qi (fun (r : Int32) (u : Unit) => False) (fun (u : Unit) (t : State) => True) (va_A [(xo, .inr (11, [.ref xg, .int 0, .ref xp, .int 0, .ref xq, .int 0, .ref r1, .ref r2, .ref r3, .ref r4, .ref se, .int ts, .int hq, .int 40, .int 0, .int 0])), (xp, .inl (cp, 4, .inr (.inr (.inr (.inr (fun _ => none))))))] sz)) (vx_X (fun (_ : Unit) => True) (fun E (_ : Unit) (_ : State) => (E = "java/lang/IndexOutOfBoundsException")) (va_A [(xo, .inr (11, [.ref xg, .int 0, .ref xp, .int 0, .ref xq, .int 0, .ref r1, .ref r2, .ref r3, .ref r4, .ref se, .int ts, .int hq, .int 40, .int 0, .int 0])), (xp, .inl (cp, 4, .inr (.inr (.inr (.inr (fun _ => none))))))] sz)) 1 6 (va_A [(xo, .inr (11, [.ref xg, .int 0, .ref xp, .int 0, .ref xq, .int 0, .ref r1, .ref r2, .ref r3, .ref r4, .ref se, .int ts, .int hq, .int 40, .int 0, .int 0])), (xp, .inl (cp, 4, .inr (.inr (.inr (.inr (fun _ => none))))))] sz) := by
  refine vx_ofW (cc := cX6_gather) (maxL := 5) (ret := (some .int)) (by decide) rfl ?_
  intro p e s m args below meth c s₁ B hml hxt hv
  obtain ⟨rfl, hsz, hP, hK, hD0, hT, hZ⟩ := hv
  have hx := B.exec
  have hb := B.bytes
  have hr := B.returns
  have hts := atoms_spec (ws := wzX6_gather) B.pre
  have hown : s.vm.findClass RX6 = some m.cls := findClass_of_methodNamed B.named
  have hlocks := B.notSynchronized
  subst hsz
  have hD := hD0.self (sz := s.heap.size)
  generalize hAe : va_A [(xo, .inr (11, [.ref xg, .int 0, .ref xp, .int 0, .ref xq, .int 0, .ref r1, .ref r2, .ref r3, .ref r4, .ref se, .int ts, .int hq, .int 40, .int 0, .int 0])), (xp, .inl (cp, 4, .inr (.inr (.inr (.inr (fun _ => none))))))] s.heap.size = A at hD hZ ⊢
  have hA : ∀ q : Nat, s.heap.size ≤ q → A q := fun q h => by rw [← hAe]; exact Or.inr h
  have hS : va_S A s.heap s.heap [] := va_S.rf
  have hl := lv_entry ([.ref xo, .int ii, .int jj]) (n := 5) (Nat.le_of_ble_eq_true rfl)
  rw [lg_entry_eq]
  generalize (lg_sl ([.ref xo, .int ii, .int jj]) ++ List.replicate (5 - (lg_sl ([.ref xo, .int ii, .int jj])).length) Slot.unset).toArray = ls at hl ⊢
  have hl : lv_has ls 5 [(0, .ref xo), (1, .int ii), (2, .int jj)] := hl
  refine lv_aload_n hx hb dX6_gather_0 rfl (lv_at hl 0 rfl) ?_
  refine lv_iload_n hx hb dX6_gather_1 rfl (lv_at hl 1 rfl) ?_
  have hFc := va_free (wc := [(xo, .inr (11, [.ref xg, .int 0, .ref xp, .int 0, .ref xq, .int 0, .ref r1, .ref r2, .ref r3, .ref r4, .ref se, .int ts, .int hq, .int 40, .int 0, .int 0])), (xp, .inl (cp, 4, .inr (.inr (.inr (.inr (fun _ => none))))))]) hD hS hA [0, 1] rfl
  refine vx_callq (vx_runV (As := [.int ii]) (rest := []) ⟨hx, hb, hml, hown, hts⟩ (zc_X6_findPot l hnt D G xo xg xp xq r1 r2 r3 r4 se ts hq cp ii s.heap.size) (cwV 1 hts gzX6_gather_X6_findPot_102 rfl rfl rfl (by decide +kernel) ⟨(Nat.le_of_ble_eq_true rfl), (Nat.le_of_ble_eq_true rfl)⟩) ⟨p_RW_blind, va_recv hK hP (ci := 11) (q0 := 0) rfl rfl, (p_RW_at (tc := [(cp, .object "Gatherhouse$Pot")]) (wc := [(xo, .inr (11, [.ref xg, .int 0, .ref xp, .int 0, .ref xq, .int 0, .ref r1, .ref r2, .ref r3, .ref r4, .ref se, .int ts, .int hq, .int 40, .int 0, .int 0])), (xp, .inl (cp, 4, .inr (.inr (.inr (.inr (fun _ => none))))))]) hP hK hD hS hA hT hZ [0, 1] [0] rfl rfl (by decide) rfl [.ref xo, .int ii])⟩ rfl rfl hl.1 rfl (lv_room (Nat.le_of_ble_eq_true rfl)) dX6_gather_2 ⟨(Nat.le_of_ble_eq_true rfl), (Nat.le_of_ble_eq_true rfl)⟩) hS (fun q _ h => hFc q h) hFc (fun q _ h => hFc q h) (fun E ce q9 u t H locs ht hvm hpx hBX hz1 hk1 hS hce hcv hcl => ?_) (fun r_178 u t H locs ht hvm w_179 hB hz1 hk1 hS => ?_)
  · have hBX : (E = "java/lang/IndexOutOfBoundsException") := hBX
    rcases hBX with rfl
    exact vx_out (fun x h => (hxt x h).elim) hlocks hce hcv hcl (fun t ht _ => ⟨(), trivial, rfl, hS.F ht⟩) hS.2.2 (Nat.le_of_ble_eq_true rfl) (Nat.le_of_ble_eq_true rfl)
  · exact w_179.elim
theorem dX6_agree_0 : decode cX6_agree 0 = .ok (.aload_n 0, 1) := by decide +kernel
theorem dX6_agree_1 : decode cX6_agree 1 = .ok (.iload_n 1, 1) := by decide +kernel
theorem dX6_agree_2 : decode cX6_agree 2 = .ok (.invokevirtual 89, 3) := by decide +kernel
def wzEX6_agree : List Cond := [.code yX6_agree cX6_agree 5 (some .boolean), .methodLink RX6 89 yX6_findGlass, .instanceMethod yX6_findGlass, .selects RX6 yX6_findGlass yX6_findGlass, .initialized RX6, .code yX6_findGlass cX6_findGlass 3 (some (.object "Gatherhouse$Glass")), .classLink RX6 365 "java/lang/IndexOutOfBoundsException", .initialized "java/lang/IndexOutOfBoundsException", .fieldLink RX6 11 "Gatherhouse" "glasses" "[LGatherhouse$Glass;"]
def wzX6_agree : List Cond := wzEX6_agree ++ (u_ws RX6 TX6 16 ++ ((vx_atS RX6 369 "java/lang/IndexOutOfBoundsException" ["java/lang/RuntimeException", "java/lang/Exception"]).filter goodWord))
theorem zgEX6_agree : wzEX6_agree.all goodWord = true := by decide +kernel
theorem zuX6_agree_X6 : ∀ w ∈ u_ws RX6 TX6 16, w ∈ wzX6_agree := (fun _ h => (List.mem_append_right _ (List.mem_append_left _ h)))
theorem ztX6_agree_X6_369 : ∀ w ∈ (vx_atS RX6 369 "java/lang/IndexOutOfBoundsException" ["java/lang/RuntimeException", "java/lang/Exception"]).filter goodWord, w ∈ wzX6_agree := (fun _ h => (List.mem_append_right _ (List.mem_append_right _ h)))
theorem gzX6_agree_X6_findGlass_89 : GoodIn wzX6_agree (wsV RX6 89 RX6 yX6_findGlass wzX6_findGlass) := (goodIn_app (z_lift (goodIn_r _ [1, 2, 3, 4] rfl (by decide +kernel))) (goodIn_app (z_lift (goodIn_r wzEX6_findGlass [5, 6, 7, 8] rfl zgEX6_findGlass)) (goodIn_app (goodIn_sub (fun _ h => (List.mem_append_right _ (List.mem_append_left _ h))) zgU_X6) (goodIn_sub (fun _ h => (List.mem_append_right _ (List.mem_append_right _ h))) zgV_X6_369))))
set_option maxHeartbeats 4000000 in
set_option maxRecDepth 100000 in
theorem zc_X6_agree (l : Launch) (hnt : l.stackTraces = false) (D : va_G) (G : Nat × Nat × Nat) (xo : Nat) (xg : Nat) (xp : Nat) (xq : Nat) (r1 : Nat) (r2 : Nat) (r3 : Nat) (r4 : Nat) (se : Nat) (ts : Int32) (hq : Int32) (cg : ClassId) (ii : Int32) (jj : Int32) (sz : Nat) : vx_Met l yX6_agree wzX6_agree ({ frames := 7, cells := 1, slots := 6, locals := 104 }) (va_Pc [.ref xo, .int ii, .int jj] (p_RW D G [(cg, .object "Gatherhouse$Glass")] [(xo, .inr (11, [.ref xg, .int 0, .ref xp, .int 0, .ref xq, .int 0, .ref r1, .ref r2, .ref r3, .ref r4, .ref se, .int ts, .int hq, .int 40, .int 0, .int 0])), (xg, .inl (cg, 6, .inr (.inr (.inr (.inr (fun _ => none))))))] sz)) (va_Qi (fun (r : Int32) (u : Unit) => False) (fun (u : Unit) (t : State) => True) (va_A [(xo, .inr (11, [.ref xg, .int 0, .ref xp, .int 0, .ref xq, .int 0, .ref r1, .ref r2, .ref r3, .ref r4, .ref se, .int ts, .int hq, .int 40, .int 0, .int 0])), (xg, .inl (cg, 6, .inr (.inr (.inr (.inr (fun _ => none))))))] sz)) (vx_X (fun (_ : Unit) => True) (fun E (_ : Unit) (_ : State) => (E = "java/lang/IndexOutOfBoundsException")) (va_A [(xo, .inr (11, [.ref xg, .int 0, .ref xp, .int 0, .ref xq, .int 0, .ref r1, .ref r2, .ref r3, .ref r4, .ref se, .int ts, .int hq, .int 40, .int 0, .int 0])), (xg, .inl (cg, 6, .inr (.inr (.inr (.inr (fun _ => none))))))] sz)) 1 6 (va_A [(xo, .inr (11, [.ref xg, .int 0, .ref xp, .int 0, .ref xq, .int 0, .ref r1, .ref r2, .ref r3, .ref r4, .ref se, .int ts, .int hq, .int 40, .int 0, .int 0])), (xg, .inl (cg, 6, .inr (.inr (.inr (.inr (fun _ => none))))))] sz) := by
  refine vx_ofW (cc := cX6_agree) (maxL := 5) (ret := (some .boolean)) (by decide) rfl ?_
  intro p e s m args below meth c s₁ B hml hxt hv
  obtain ⟨rfl, hsz, hP, hK, hD0, hT, hZ⟩ := hv
  have hx := B.exec
  have hb := B.bytes
  have hr := B.returns
  have hts := atoms_spec (ws := wzX6_agree) B.pre
  have hown : s.vm.findClass RX6 = some m.cls := findClass_of_methodNamed B.named
  have hlocks := B.notSynchronized
  subst hsz
  have hD := hD0.self (sz := s.heap.size)
  generalize hAe : va_A [(xo, .inr (11, [.ref xg, .int 0, .ref xp, .int 0, .ref xq, .int 0, .ref r1, .ref r2, .ref r3, .ref r4, .ref se, .int ts, .int hq, .int 40, .int 0, .int 0])), (xg, .inl (cg, 6, .inr (.inr (.inr (.inr (fun _ => none))))))] s.heap.size = A at hD hZ ⊢
  have hA : ∀ q : Nat, s.heap.size ≤ q → A q := fun q h => by rw [← hAe]; exact Or.inr h
  have hS : va_S A s.heap s.heap [] := va_S.rf
  have hl := lv_entry ([.ref xo, .int ii, .int jj]) (n := 5) (Nat.le_of_ble_eq_true rfl)
  rw [lg_entry_eq]
  generalize (lg_sl ([.ref xo, .int ii, .int jj]) ++ List.replicate (5 - (lg_sl ([.ref xo, .int ii, .int jj])).length) Slot.unset).toArray = ls at hl ⊢
  have hl : lv_has ls 5 [(0, .ref xo), (1, .int ii), (2, .int jj)] := hl
  refine lv_aload_n hx hb dX6_agree_0 rfl (lv_at hl 0 rfl) ?_
  refine lv_iload_n hx hb dX6_agree_1 rfl (lv_at hl 1 rfl) ?_
  have hFc := va_free (wc := [(xo, .inr (11, [.ref xg, .int 0, .ref xp, .int 0, .ref xq, .int 0, .ref r1, .ref r2, .ref r3, .ref r4, .ref se, .int ts, .int hq, .int 40, .int 0, .int 0])), (xg, .inl (cg, 6, .inr (.inr (.inr (.inr (fun _ => none))))))]) hD hS hA [0, 1] rfl
  refine vx_callq (vx_runV (As := [.int ii]) (rest := []) ⟨hx, hb, hml, hown, hts⟩ (zc_X6_findGlass l hnt D G xo xg xp xq r1 r2 r3 r4 se ts hq cg ii s.heap.size) (cwV 1 hts gzX6_agree_X6_findGlass_89 rfl rfl rfl (by decide +kernel) ⟨(Nat.le_of_ble_eq_true rfl), (Nat.le_of_ble_eq_true rfl)⟩) ⟨p_RW_blind, va_recv hK hP (ci := 11) (q0 := 0) rfl rfl, (p_RW_at (tc := [(cg, .object "Gatherhouse$Glass")]) (wc := [(xo, .inr (11, [.ref xg, .int 0, .ref xp, .int 0, .ref xq, .int 0, .ref r1, .ref r2, .ref r3, .ref r4, .ref se, .int ts, .int hq, .int 40, .int 0, .int 0])), (xg, .inl (cg, 6, .inr (.inr (.inr (.inr (fun _ => none))))))]) hP hK hD hS hA hT hZ [0, 1] [0] rfl rfl (by decide) rfl [.ref xo, .int ii])⟩ rfl rfl hl.1 rfl (lv_room (Nat.le_of_ble_eq_true rfl)) dX6_agree_2 ⟨(Nat.le_of_ble_eq_true rfl), (Nat.le_of_ble_eq_true rfl)⟩) hS (fun q _ h => hFc q h) hFc (fun q _ h => hFc q h) (fun E ce q9 u t H locs ht hvm hpx hBX hz1 hk1 hS hce hcv hcl => ?_) (fun r_180 u t H locs ht hvm w_181 hB hz1 hk1 hS => ?_)
  · have hBX : (E = "java/lang/IndexOutOfBoundsException") := hBX
    rcases hBX with rfl
    exact vx_out (fun x h => (hxt x h).elim) hlocks hce hcv hcl (fun t ht _ => ⟨(), trivial, rfl, hS.F ht⟩) hS.2.2 (Nat.le_of_ble_eq_true rfl) (Nat.le_of_ble_eq_true rfl)
  · exact w_181.elim
theorem dX6_pot_0 : decode cX6_pot 0 = .ok (.aload_n 0, 1) := by decide +kernel
theorem dX6_pot_1 : decode cX6_pot 1 = .ok (.iload_n 1, 1) := by decide +kernel
theorem dX6_pot_2 : decode cX6_pot 2 = .ok (.invokevirtual 89, 3) := by decide +kernel
def wzEX6_pot : List Cond := [.code yX6_pot cX6_pot 3 (some .int), .methodLink RX6 89 yX6_findGlass, .instanceMethod yX6_findGlass, .selects RX6 yX6_findGlass yX6_findGlass, .initialized RX6, .code yX6_findGlass cX6_findGlass 3 (some (.object "Gatherhouse$Glass")), .classLink RX6 365 "java/lang/IndexOutOfBoundsException", .initialized "java/lang/IndexOutOfBoundsException", .fieldLink RX6 11 "Gatherhouse" "glasses" "[LGatherhouse$Glass;"]
def wzX6_pot : List Cond := wzEX6_pot ++ (u_ws RX6 TX6 16 ++ ((vx_atS RX6 369 "java/lang/IndexOutOfBoundsException" ["java/lang/RuntimeException", "java/lang/Exception"]).filter goodWord))
theorem zgEX6_pot : wzEX6_pot.all goodWord = true := by decide +kernel
theorem zuX6_pot_X6 : ∀ w ∈ u_ws RX6 TX6 16, w ∈ wzX6_pot := (fun _ h => (List.mem_append_right _ (List.mem_append_left _ h)))
theorem ztX6_pot_X6_369 : ∀ w ∈ (vx_atS RX6 369 "java/lang/IndexOutOfBoundsException" ["java/lang/RuntimeException", "java/lang/Exception"]).filter goodWord, w ∈ wzX6_pot := (fun _ h => (List.mem_append_right _ (List.mem_append_right _ h)))
theorem gzX6_pot_X6_findGlass_89 : GoodIn wzX6_pot (wsV RX6 89 RX6 yX6_findGlass wzX6_findGlass) := (goodIn_app (z_lift (goodIn_r _ [1, 2, 3, 4] rfl (by decide +kernel))) (goodIn_app (z_lift (goodIn_r wzEX6_findGlass [5, 6, 7, 8] rfl zgEX6_findGlass)) (goodIn_app (goodIn_sub (fun _ h => (List.mem_append_right _ (List.mem_append_left _ h))) zgU_X6) (goodIn_sub (fun _ h => (List.mem_append_right _ (List.mem_append_right _ h))) zgV_X6_369))))
set_option maxHeartbeats 4000000 in
set_option maxRecDepth 100000 in
theorem zc_X6_pot (l : Launch) (hnt : l.stackTraces = false) (D : va_G) (G : Nat × Nat × Nat) (xo : Nat) (xg : Nat) (xp : Nat) (xq : Nat) (r1 : Nat) (r2 : Nat) (r3 : Nat) (r4 : Nat) (se : Nat) (ts : Int32) (hq : Int32) (cg : ClassId) (ii : Int32) (sz : Nat) : vx_Met l yX6_pot wzX6_pot ({ frames := 7, cells := 1, slots := 6, locals := 104 }) (va_Pc [.ref xo, .int ii] (p_RW D G [(cg, .object "Gatherhouse$Glass")] [(xo, .inr (11, [.ref xg, .int 0, .ref xp, .int 0, .ref xq, .int 0, .ref r1, .ref r2, .ref r3, .ref r4, .ref se, .int ts, .int hq, .int 40, .int 0, .int 0])), (xg, .inl (cg, 6, .inr (.inr (.inr (.inr (fun _ => none))))))] sz)) (va_Qi (fun (r : Int32) (u : Unit) => False) (fun (u : Unit) (t : State) => True) (va_A [(xo, .inr (11, [.ref xg, .int 0, .ref xp, .int 0, .ref xq, .int 0, .ref r1, .ref r2, .ref r3, .ref r4, .ref se, .int ts, .int hq, .int 40, .int 0, .int 0])), (xg, .inl (cg, 6, .inr (.inr (.inr (.inr (fun _ => none))))))] sz)) (vx_X (fun (_ : Unit) => True) (fun E (_ : Unit) (_ : State) => (E = "java/lang/IndexOutOfBoundsException")) (va_A [(xo, .inr (11, [.ref xg, .int 0, .ref xp, .int 0, .ref xq, .int 0, .ref r1, .ref r2, .ref r3, .ref r4, .ref se, .int ts, .int hq, .int 40, .int 0, .int 0])), (xg, .inl (cg, 6, .inr (.inr (.inr (.inr (fun _ => none))))))] sz)) 1 6 (va_A [(xo, .inr (11, [.ref xg, .int 0, .ref xp, .int 0, .ref xq, .int 0, .ref r1, .ref r2, .ref r3, .ref r4, .ref se, .int ts, .int hq, .int 40, .int 0, .int 0])), (xg, .inl (cg, 6, .inr (.inr (.inr (.inr (fun _ => none))))))] sz) := by
  refine vx_ofW (cc := cX6_pot) (maxL := 3) (ret := (some .int)) (by decide) rfl ?_
  intro p e s m args below meth c s₁ B hml hxt hv
  obtain ⟨rfl, hsz, hP, hK, hD0, hT, hZ⟩ := hv
  have hx := B.exec
  have hb := B.bytes
  have hr := B.returns
  have hts := atoms_spec (ws := wzX6_pot) B.pre
  have hown : s.vm.findClass RX6 = some m.cls := findClass_of_methodNamed B.named
  have hlocks := B.notSynchronized
  subst hsz
  have hD := hD0.self (sz := s.heap.size)
  generalize hAe : va_A [(xo, .inr (11, [.ref xg, .int 0, .ref xp, .int 0, .ref xq, .int 0, .ref r1, .ref r2, .ref r3, .ref r4, .ref se, .int ts, .int hq, .int 40, .int 0, .int 0])), (xg, .inl (cg, 6, .inr (.inr (.inr (.inr (fun _ => none))))))] s.heap.size = A at hD hZ ⊢
  have hA : ∀ q : Nat, s.heap.size ≤ q → A q := fun q h => by rw [← hAe]; exact Or.inr h
  have hS : va_S A s.heap s.heap [] := va_S.rf
  have hl := lv_entry ([.ref xo, .int ii]) (n := 3) (Nat.le_of_ble_eq_true rfl)
  rw [lg_entry_eq]
  generalize (lg_sl ([.ref xo, .int ii]) ++ List.replicate (3 - (lg_sl ([.ref xo, .int ii])).length) Slot.unset).toArray = ls at hl ⊢
  have hl : lv_has ls 3 [(0, .ref xo), (1, .int ii)] := hl
  refine lv_aload_n hx hb dX6_pot_0 rfl (lv_at hl 0 rfl) ?_
  refine lv_iload_n hx hb dX6_pot_1 rfl (lv_at hl 1 rfl) ?_
  have hFc := va_free (wc := [(xo, .inr (11, [.ref xg, .int 0, .ref xp, .int 0, .ref xq, .int 0, .ref r1, .ref r2, .ref r3, .ref r4, .ref se, .int ts, .int hq, .int 40, .int 0, .int 0])), (xg, .inl (cg, 6, .inr (.inr (.inr (.inr (fun _ => none))))))]) hD hS hA [0, 1] rfl
  refine vx_callq (vx_runV (As := [.int ii]) (rest := []) ⟨hx, hb, hml, hown, hts⟩ (zc_X6_findGlass l hnt D G xo xg xp xq r1 r2 r3 r4 se ts hq cg ii s.heap.size) (cwV 1 hts gzX6_pot_X6_findGlass_89 rfl rfl rfl (by decide +kernel) ⟨(Nat.le_of_ble_eq_true rfl), (Nat.le_of_ble_eq_true rfl)⟩) ⟨p_RW_blind, va_recv hK hP (ci := 11) (q0 := 0) rfl rfl, (p_RW_at (tc := [(cg, .object "Gatherhouse$Glass")]) (wc := [(xo, .inr (11, [.ref xg, .int 0, .ref xp, .int 0, .ref xq, .int 0, .ref r1, .ref r2, .ref r3, .ref r4, .ref se, .int ts, .int hq, .int 40, .int 0, .int 0])), (xg, .inl (cg, 6, .inr (.inr (.inr (.inr (fun _ => none))))))]) hP hK hD hS hA hT hZ [0, 1] [0] rfl rfl (by decide) rfl [.ref xo, .int ii])⟩ rfl rfl hl.1 rfl (lv_room (Nat.le_of_ble_eq_true rfl)) dX6_pot_2 ⟨(Nat.le_of_ble_eq_true rfl), (Nat.le_of_ble_eq_true rfl)⟩) hS (fun q _ h => hFc q h) hFc (fun q _ h => hFc q h) (fun E ce q9 u t H locs ht hvm hpx hBX hz1 hk1 hS hce hcv hcl => ?_) (fun r_182 u t H locs ht hvm w_183 hB hz1 hk1 hS => ?_)
  · have hBX : (E = "java/lang/IndexOutOfBoundsException") := hBX
    rcases hBX with rfl
    exact vx_out (fun x h => (hxt x h).elim) hlocks hce hcv hcl (fun t ht _ => ⟨(), trivial, rfl, hS.F ht⟩) hS.2.2 (Nat.le_of_ble_eq_true rfl) (Nat.le_of_ble_eq_true rfl)
  · exact w_183.elim
theorem zgV_X6_122 : ((vx_atS RX6 122 "java/lang/IllegalArgumentException" ["java/lang/RuntimeException", "java/lang/Exception"]).filter goodWord).all goodWord = true := by decide +kernel
theorem zgU_X0 : (u_ws RX0 TX0 4).all goodWord = true := by decide +kernel
theorem dX6_glass_0 : decode cX6_glass 0 = .ok (.iload_n 1, 1) := by decide +kernel
theorem dX6_glass_1 : decode cX6_glass 1 = .ok (.sipush 600, 3) := by decide +kernel
theorem dX6_glass_4 : decode cX6_glass 4 = .ok (.sipush 1100, 3) := by decide +kernel
theorem dX6_glass_7 : decode cX6_glass 7 = .ok (.invokestatic 75, 3) := by decide +kernel
theorem dX6_glass_10 : decode cX6_glass 10 = .ok (.iload_n 2, 1) := by decide +kernel
theorem dX6_glass_11 : decode cX6_glass 11 = .ok (.iload_n 1, 1) := by decide +kernel
theorem dX6_glass_12 : decode cX6_glass 12 = .ok (.sipush 1100, 3) := by decide +kernel
theorem dX6_glass_15 : decode cX6_glass 15 = .ok (.invokestatic 75, 3) := by decide +kernel
theorem dX6_glass_18 : decode cX6_glass 18 = .ok (.iload_n 3, 1) := by decide +kernel
theorem dX6_glass_19 : decode cX6_glass 19 = .ok (.bipush 50, 2) := by decide +kernel
theorem dX6_glass_21 : decode cX6_glass 21 = .ok (.sipush 150, 3) := by decide +kernel
theorem dX6_glass_24 : decode cX6_glass 24 = .ok (.invokestatic 75, 3) := by decide +kernel
theorem dX6_glass_27 : decode cX6_glass 27 = .ok (.iload 4, 2) := by decide +kernel
theorem dX6_glass_29 : decode cX6_glass 29 = .ok (.iconst 0, 1) := by decide +kernel
theorem dX6_glass_30 : decode cX6_glass 30 = .ok (.bipush 9, 2) := by decide +kernel
theorem dX6_glass_32 : decode cX6_glass 32 = .ok (.invokestatic 75, 3) := by decide +kernel
theorem dX6_glass_35 : decode cX6_glass 35 = .ok (.aload_n 0, 1) := by decide +kernel
theorem dX6_glass_36 : decode cX6_glass 36 = .ok (.getfield 15, 3) := by decide +kernel
theorem dX6_glass_39 : decode cX6_glass 39 = .ok (.ifCond .lt 15, 3) := by decide +kernel
theorem dX6_glass_42 : decode cX6_glass 42 = .ok (.aload_n 0, 1) := by decide +kernel
theorem dX6_glass_43 : decode cX6_glass 43 = .ok (.getfield 15, 3) := by decide +kernel
theorem dX6_glass_46 : decode cX6_glass 46 = .ok (.aload_n 0, 1) := by decide +kernel
theorem dX6_glass_47 : decode cX6_glass 47 = .ok (.getfield 11, 3) := by decide +kernel
theorem dX6_glass_50 : decode cX6_glass 50 = .ok (.arraylength, 1) := by decide +kernel
theorem dX6_glass_51 : decode cX6_glass 51 = .ok (.if_icmp .lt 13, 3) := by decide +kernel
theorem dX6_glass_64 : decode cX6_glass 64 = .ok (.aload_n 0, 1) := by decide +kernel
theorem dX6_glass_65 : decode cX6_glass 65 = .ok (.getfield 11, 3) := by decide +kernel
theorem dX6_glass_68 : decode cX6_glass 68 = .ok (.aload_n 0, 1) := by decide +kernel
theorem dX6_glass_69 : decode cX6_glass 69 = .ok (.getfield 15, 3) := by decide +kernel
theorem dX6_glass_72 : decode cX6_glass 72 = .ok (.new 9, 3) := by decide +kernel
theorem dX6_glass_75 : decode cX6_glass 75 = .ok (.dup, 1) := by decide +kernel
theorem dX6_glass_76 : decode cX6_glass 76 = .ok (.iload_n 1, 1) := by decide +kernel
theorem dX6_glass_77 : decode cX6_glass 77 = .ok (.iload_n 2, 1) := by decide +kernel
theorem dX6_glass_78 : decode cX6_glass 78 = .ok (.iload_n 3, 1) := by decide +kernel
theorem dX6_glass_79 : decode cX6_glass 79 = .ok (.iload 4, 2) := by decide +kernel
theorem dX6_glass_81 : decode cX6_glass 81 = .ok (.invokespecial 86, 3) := by decide +kernel
theorem dX6_glass_84 : decode cX6_glass 84 = .ok (.aastore, 1) := by decide +kernel
theorem dX6_glass_85 : decode cX6_glass 85 = .ok (.aload_n 0, 1) := by decide +kernel
theorem dX6_glass_86 : decode cX6_glass 86 = .ok (.dup, 1) := by decide +kernel
theorem dX6_glass_87 : decode cX6_glass 87 = .ok (.getfield 15, 3) := by decide +kernel
theorem dX6_glass_90 : decode cX6_glass 90 = .ok (.iconst 1, 1) := by decide +kernel
theorem dX6_glass_91 : decode cX6_glass 91 = .ok (.iadd, 1) := by decide +kernel
theorem dX6_glass_92 : decode cX6_glass 92 = .ok (.putfield 15, 3) := by decide +kernel
theorem dX6_glass_95 : decode cX6_glass 95 = .ok (.aload_n 0, 1) := by decide +kernel
theorem dX6_glass_96 : decode cX6_glass 96 = .ok (.getfield 15, 3) := by decide +kernel
theorem dX6_glass_99 : decode cX6_glass 99 = .ok (.iconst 1, 1) := by decide +kernel
theorem dX6_glass_100 : decode cX6_glass 100 = .ok (.isub, 1) := by decide +kernel
theorem dX6_glass_101 : decode cX6_glass 101 = .ok (.ireturn, 1) := by decide +kernel
def wzEX6_glass : List Cond := [.code yX6_glass cX6_glass 5 (some .int), .methodLink RX6 75 yX6_checkRange, .static yX6_checkRange, .initialized RX6, .code yX6_checkRange cX6_checkRange 3 none, .classLink RX6 118 "java/lang/IllegalArgumentException", .initialized "java/lang/IllegalArgumentException", .fieldLink RX6 15 "Gatherhouse" "glassCount" "I", .fieldLink RX6 11 "Gatherhouse" "glasses" "[LGatherhouse$Glass;", .classLink RX6 9 RX0, .instantiable RX0 4, .initialized RX0, .code yX0_init cX0_init 5 none, .methodLink RX0 3 objectInit, .instanceMethod objectInit, .code objectInit ⟨#[0xb1]⟩ 1 none, .fieldLink RX0 9 "Gatherhouse$Glass" "low" "I", .fieldLink RX0 15 "Gatherhouse$Glass" "high" "I", .fieldLink RX0 18 "Gatherhouse$Glass" "expansion" "I", .fieldLink RX0 21 "Gatherhouse$Glass" "colour" "I", .instanceMethod yX0_init]
def wzX6_glass : List Cond := wzEX6_glass ++ (u_ws RX6 TX6 16 ++ (u_ws RX0 TX0 4 ++ ((vx_atS RX6 122 "java/lang/IllegalArgumentException" ["java/lang/RuntimeException", "java/lang/Exception"]).filter goodWord)))
theorem zgEX6_glass : wzEX6_glass.all goodWord = true := by decide +kernel
theorem zuX6_glass_X6 : ∀ w ∈ u_ws RX6 TX6 16, w ∈ wzX6_glass := (fun _ h => (List.mem_append_right _ (List.mem_append_left _ h)))
theorem zuX6_glass_X0 : ∀ w ∈ u_ws RX0 TX0 4, w ∈ wzX6_glass := (fun _ h => (List.mem_append_right _ (List.mem_append_right _ (List.mem_append_left _ h))))
theorem ztX6_glass_X6_122 : ∀ w ∈ (vx_atS RX6 122 "java/lang/IllegalArgumentException" ["java/lang/RuntimeException", "java/lang/Exception"]).filter goodWord, w ∈ wzX6_glass := (fun _ h => (List.mem_append_right _ (List.mem_append_right _ (List.mem_append_right _ h))))
theorem gzX6_glass_X6_checkRange_75 : GoodIn wzX6_glass (va_wsS RX6 75 yX6_checkRange wzX6_checkRange) := (goodIn_app (z_lift (goodIn_r _ [1, 2, 3] rfl (by decide +kernel))) (goodIn_app (z_lift (goodIn_r wzEX6_checkRange [4, 5, 6] rfl zgEX6_checkRange)) (goodIn_sub (fun _ h => (List.mem_append_right _ (List.mem_append_right _ (List.mem_append_right _ h)))) zgV_X6_122)))
theorem gzX6_glass_X0_init_86 : GoodIn wzX6_glass (wzX0_init) := (goodIn_app (z_lift (goodIn_r wzEX0_init [12, 13, 14, 15, 16, 17, 18, 19] rfl zgEX0_init)) (goodIn_sub (fun _ h => (List.mem_append_right _ (List.mem_append_right _ (List.mem_append_left _ h)))) zgU_X0))
set_option maxHeartbeats 4000000 in
set_option maxRecDepth 100000 in
theorem zc_X6_glass (l : Launch) (hnt : l.stackTraces = false) (D : va_G) (G : Nat × Nat × Nat) (xo : Nat) (xg : Nat) (xp : Nat) (xq : Nat) (r1 : Nat) (r2 : Nat) (r3 : Nat) (r4 : Nat) (se : Nat) (ts : Int32) (hq : Int32) (cg : ClassId) (lo : Int32) (hi : Int32) (xe : Int32) (co : Int32) (sz : Nat) : vx_Met l yX6_glass wzX6_glass ({ frames := 7, cells := 5, slots := 28, locals := 104 }) (va_Pc [.ref xo, .int lo, .int hi, .int xe, .int co] (p_RW D G [(cg, .object "Gatherhouse$Glass")] [(xo, .inr (11, [.ref xg, .int 0, .ref xp, .int 0, .ref xq, .int 0, .ref r1, .ref r2, .ref r3, .ref r4, .ref se, .int ts, .int hq, .int 40, .int 0, .int 0])), (xg, .inl (cg, 6, .inr (.inr (.inr (.inr (fun _ => none))))))] sz)) (va_Qi (fun (r : Int32) (u : Unit) => gOK lo hi xe co ∧ r = 0) (fun (u : Unit) (t : State) => True) (va_A [(xo, .inr (11, [.ref xg, .int 0, .ref xp, .int 0, .ref xq, .int 0, .ref r1, .ref r2, .ref r3, .ref r4, .ref se, .int ts, .int hq, .int 40, .int 0, .int 0])), (xg, .inl (cg, 6, .inr (.inr (.inr (.inr (fun _ => none))))))] sz)) (vx_X (fun (_ : Unit) => True) (fun E (_ : Unit) (_ : State) => (E = "java/lang/IllegalArgumentException" ∧ (¬ gOK lo hi xe co))) (va_A [(xo, .inr (11, [.ref xg, .int 0, .ref xp, .int 0, .ref xq, .int 0, .ref r1, .ref r2, .ref r3, .ref r4, .ref se, .int ts, .int hq, .int 40, .int 0, .int 0])), (xg, .inl (cg, 6, .inr (.inr (.inr (.inr (fun _ => none))))))] sz)) 5 28 (va_A [(xo, .inr (11, [.ref xg, .int 0, .ref xp, .int 0, .ref xq, .int 0, .ref r1, .ref r2, .ref r3, .ref r4, .ref se, .int ts, .int hq, .int 40, .int 0, .int 0])), (xg, .inl (cg, 6, .inr (.inr (.inr (.inr (fun _ => none))))))] sz) := by
  refine vx_ofW (cc := cX6_glass) (maxL := 5) (ret := (some .int)) (by decide) rfl ?_
  intro p e s m args below meth c s₁ B hml hxt hv
  obtain ⟨rfl, hsz, hP, hK, hD0, hT, hZ⟩ := hv
  have hx := B.exec
  have hb := B.bytes
  have hr := B.returns
  have hts := atoms_spec (ws := wzX6_glass) B.pre
  have hown : s.vm.findClass RX6 = some m.cls := findClass_of_methodNamed B.named
  have hlocks := B.notSynchronized
  subst hsz
  have hD := hD0.self (sz := s.heap.size)
  generalize hAe : va_A [(xo, .inr (11, [.ref xg, .int 0, .ref xp, .int 0, .ref xq, .int 0, .ref r1, .ref r2, .ref r3, .ref r4, .ref se, .int ts, .int hq, .int 40, .int 0, .int 0])), (xg, .inl (cg, 6, .inr (.inr (.inr (.inr (fun _ => none))))))] s.heap.size = A at hD hZ ⊢
  have hA : ∀ q : Nat, s.heap.size ≤ q → A q := fun q h => by rw [← hAe]; exact Or.inr h
  have hS : va_S A s.heap s.heap [] := va_S.rf
  have hl := lv_entry ([.ref xo, .int lo, .int hi, .int xe, .int co]) (n := 5) (Nat.le_of_ble_eq_true rfl)
  rw [lg_entry_eq]
  generalize (lg_sl ([.ref xo, .int lo, .int hi, .int xe, .int co]) ++ List.replicate (5 - (lg_sl ([.ref xo, .int lo, .int hi, .int xe, .int co])).length) Slot.unset).toArray = ls at hl ⊢
  have hl : lv_has ls 5 [(0, .ref xo), (1, .int lo), (2, .int hi), (3, .int xe), (4, .int co)] := hl
  refine lv_iload_n hx hb dX6_glass_0 rfl (lv_at hl 1 rfl) ?_
  refine lv_sipush (v := 600) hx hb dX6_glass_1 (by decide) ?_
  refine lv_sipush (v := 1100) hx hb dX6_glass_4 (by decide) ?_
  have hFc := va_free (wc := []) hD hS hA [] rfl
  refine vx_callv (vx_runS (As := [.int lo, .int 600, .int 1100]) (rest := []) ⟨hx, hb, hml, hown, hts⟩ (zc_X6_checkRange l hnt D G lo 600 1100 s.heap.size) (cwS 3 hts gzX6_glass_X6_checkRange_75 rfl rfl rfl (by decide +kernel) ⟨(Nat.le_of_ble_eq_true rfl), (Nat.le_of_ble_eq_true rfl)⟩) ⟨p_RW_blind, (p_RW_at (tc := []) (wc := []) hP hK hD hS hA hT hZ [] [] rfl rfl (by decide) rfl [.int lo, .int 600, .int 1100])⟩ rfl rfl hl.1 rfl (lv_room (Nat.le_of_ble_eq_true rfl)) dX6_glass_7 ⟨(Nat.le_of_ble_eq_true rfl), (Nat.le_of_ble_eq_true rfl)⟩) hS (fun q _ h => hFc q h) hFc (fun q _ h => hFc q h) (fun E ce q9 u t H locs ht hvm hpx hBX hz1 hk1 hS hce hcv hcl => ?_) (fun u t H locs ht hvm w_185 hB hz1 hk1 hS => ?_)
  · have hBX : (E = "java/lang/IllegalArgumentException" ∧ (¬ inR lo 600 1100)) := hBX
    rcases hBX with ⟨rfl, c_186⟩
    exact vx_out (fun x h => (hxt x h).elim) hlocks hce hcv hcl (fun t ht _ => ⟨(), trivial, ⟨rfl, (by first | assumption | exact inR_1 (by assumption) (by assumption) | exact inR_2 (by assumption) (by assumption) | exact inR_3 (by assumption) | exact inR_4 (by assumption) | exact inR_5 (by assumption) | exact ⟨by assumption, by assumption, by assumption, by assumption⟩ | exact ⟨by assumption, by assumption, by assumption⟩ | exact (fun q => absurd q.1 (by assumption)) | exact (fun q => absurd q.2.1 (by assumption)) | exact (fun q => absurd q.2.2 (by assumption)) | exact (fun q => absurd q.2.2.1 (by assumption)) | exact (fun q => absurd q.2.2.2 (by assumption)) | exact isRole_no (by assumption) (by assumption) (by assumption) (by assumption) | exact isRole_nb (by assumption) (by assumption) (by assumption) (by assumption) | exact isRole_out (by assumption) | exact enc_use (by assumption) (by assumption) (by assumption) | exact enc_103 (by assumption) | exact enc_103 (Eq.symm (by assumption)) | exact enc_115 (Eq.symm (by assumption)) | exact enc_102 (Eq.symm (by assumption)) | exact enc_98 (Eq.symm (by assumption)) | exact isRole_nc (by assumption) (by assumption) (by assumption) (by assumption) | exact enc_115 (by assumption) | exact enc_102 (by assumption) | exact enc_98 (by assumption) | exact Or.inr (by assumption) | rfl | exact Or.inl (by assumption) | exact Or.inr (Or.inl (by assumption)) | exact Or.inr (Or.inr (Or.inl (by assumption))) | exact Or.inr (Or.inr (Or.inr (by assumption))) | decide)⟩, hS.F ht⟩) hS.2.2 (Nat.le_of_ble_eq_true rfl) (Nat.le_of_ble_eq_true rfl)
  · obtain ⟨hP, hD, hK⟩ := q_join (D := D) (wc := []) (wr := [(xo, .inr (11, [.ref xg, .int 0, .ref xp, .int 0, .ref xq, .int 0, .ref r1, .ref r2, .ref r3, .ref r4, .ref se, .int ts, .int hq, .int 40, .int 0, .int 0])), (xg, .inl (cg, 6, .inr (.inr (.inr (.inr (fun _ => none))))))]) (w1 := []) (tyr := [(cg, .object "Gatherhouse$Glass")]) (ty1 := []) hP hD hK [] [0, 1] [0] rfl rfl (by decide) (by decide) rfl hFc hk1 ht hvm (q_none hK hvm)
    have hP : va_P D vwCl [(xo, .inr (11, [.ref xg, .int 0, .ref xp, .int 0, .ref xq, .int 0, .ref r1, .ref r2, .ref r3, .ref r4, .ref se, .int ts, .int hq, .int 40, .int 0, .int 0])), (xg, .inl (cg, 6, .inr (.inr (.inr (.inr (fun _ => none))))))] H := hP
    have hD : va_D A [(xo, .inr (11, [.ref xg, .int 0, .ref xp, .int 0, .ref xq, .int 0, .ref r1, .ref r2, .ref r3, .ref r4, .ref se, .int ts, .int hq, .int 40, .int 0, .int 0])), (xg, .inl (cg, 6, .inr (.inr (.inr (.inr (fun _ => none))))))] := hD
    have hK : va_K D vwCl [(cg, .object "Gatherhouse$Glass")] s := hK
    refine W.widen (k := 1) (n := 6) (Nat.le_of_ble_eq_true rfl) (Nat.le_of_ble_eq_true rfl) ?_
    have c_187 := w_185
    refine lv_iload_n hx hb dX6_glass_10 rfl (lv_at hl 2 rfl) ?_
    refine lv_iload_n hx hb dX6_glass_11 rfl (lv_at hl 1 rfl) ?_
    refine lv_sipush (v := 1100) hx hb dX6_glass_12 (by decide) ?_
    have hFc := va_free (wc := []) hD hS hA [] rfl
    refine vx_callv (vx_runS (As := [.int hi, .int lo, .int 1100]) (rest := []) ⟨hx, hb, hml, hown, hts⟩ (zc_X6_checkRange l hnt D G hi lo 1100 H.size) (cwS 3 hts gzX6_glass_X6_checkRange_75 rfl rfl rfl (by decide +kernel) ⟨(Nat.le_of_ble_eq_true rfl), (Nat.le_of_ble_eq_true rfl)⟩) ⟨p_RW_blind, (p_RW_at (tc := []) (wc := []) hP hK hD hS hA hT hZ [] [] rfl rfl (by decide) rfl [.int hi, .int lo, .int 1100])⟩ rfl rfl hl.1 rfl (lv_room (Nat.le_of_ble_eq_true rfl)) dX6_glass_15 ⟨(Nat.le_of_ble_eq_true rfl), (Nat.le_of_ble_eq_true rfl)⟩) hS (fun q _ h => hFc q h) hFc (fun q _ h => hFc q h) (fun E ce q9 u t H locs ht hvm hpx hBX hz1 hk1 hS hce hcv hcl => ?_) (fun u t H locs ht hvm w_189 hB hz1 hk1 hS => ?_)
    · have hBX : (E = "java/lang/IllegalArgumentException" ∧ (¬ inR hi lo 1100)) := hBX
      rcases hBX with ⟨rfl, c_190⟩
      exact vx_out (fun x h => (hxt x h).elim) hlocks hce hcv hcl (fun t ht _ => ⟨(), trivial, ⟨rfl, (by first | assumption | exact inR_1 (by assumption) (by assumption) | exact inR_2 (by assumption) (by assumption) | exact inR_3 (by assumption) | exact inR_4 (by assumption) | exact inR_5 (by assumption) | exact ⟨by assumption, by assumption, by assumption, by assumption⟩ | exact ⟨by assumption, by assumption, by assumption⟩ | exact (fun q => absurd q.1 (by assumption)) | exact (fun q => absurd q.2.1 (by assumption)) | exact (fun q => absurd q.2.2 (by assumption)) | exact (fun q => absurd q.2.2.1 (by assumption)) | exact (fun q => absurd q.2.2.2 (by assumption)) | exact isRole_no (by assumption) (by assumption) (by assumption) (by assumption) | exact isRole_nb (by assumption) (by assumption) (by assumption) (by assumption) | exact isRole_out (by assumption) | exact enc_use (by assumption) (by assumption) (by assumption) | exact enc_103 (by assumption) | exact enc_103 (Eq.symm (by assumption)) | exact enc_115 (Eq.symm (by assumption)) | exact enc_102 (Eq.symm (by assumption)) | exact enc_98 (Eq.symm (by assumption)) | exact isRole_nc (by assumption) (by assumption) (by assumption) (by assumption) | exact enc_115 (by assumption) | exact enc_102 (by assumption) | exact enc_98 (by assumption) | exact Or.inr (by assumption) | rfl | exact Or.inl (by assumption) | exact Or.inr (Or.inl (by assumption)) | exact Or.inr (Or.inr (Or.inl (by assumption))) | exact Or.inr (Or.inr (Or.inr (by assumption))) | decide)⟩, hS.F ht⟩) hS.2.2 (Nat.le_of_ble_eq_true rfl) (Nat.le_of_ble_eq_true rfl)
    · obtain ⟨hP, hD, hK⟩ := q_join (D := D) (wc := []) (wr := [(xo, .inr (11, [.ref xg, .int 0, .ref xp, .int 0, .ref xq, .int 0, .ref r1, .ref r2, .ref r3, .ref r4, .ref se, .int ts, .int hq, .int 40, .int 0, .int 0])), (xg, .inl (cg, 6, .inr (.inr (.inr (.inr (fun _ => none))))))]) (w1 := []) (tyr := [(cg, .object "Gatherhouse$Glass")]) (ty1 := []) hP hD hK [] [0, 1] [0] rfl rfl (by decide) (by decide) rfl hFc hk1 ht hvm (q_none hK hvm)
      have hP : va_P D vwCl [(xo, .inr (11, [.ref xg, .int 0, .ref xp, .int 0, .ref xq, .int 0, .ref r1, .ref r2, .ref r3, .ref r4, .ref se, .int ts, .int hq, .int 40, .int 0, .int 0])), (xg, .inl (cg, 6, .inr (.inr (.inr (.inr (fun _ => none))))))] H := hP
      have hD : va_D A [(xo, .inr (11, [.ref xg, .int 0, .ref xp, .int 0, .ref xq, .int 0, .ref r1, .ref r2, .ref r3, .ref r4, .ref se, .int ts, .int hq, .int 40, .int 0, .int 0])), (xg, .inl (cg, 6, .inr (.inr (.inr (.inr (fun _ => none))))))] := hD
      have hK : va_K D vwCl [(cg, .object "Gatherhouse$Glass")] s := hK
      refine W.widen (k := 2) (n := 12) (Nat.le_of_ble_eq_true rfl) (Nat.le_of_ble_eq_true rfl) ?_
      have c_191 := w_189
      refine lv_iload_n hx hb dX6_glass_18 rfl (lv_at hl 3 rfl) ?_
      refine lv_bipush (v := 50) hx hb dX6_glass_19 (by decide) ?_
      refine lv_sipush (v := 150) hx hb dX6_glass_21 (by decide) ?_
      have hFc := va_free (wc := []) hD hS hA [] rfl
      refine vx_callv (vx_runS (As := [.int xe, .int 50, .int 150]) (rest := []) ⟨hx, hb, hml, hown, hts⟩ (zc_X6_checkRange l hnt D G xe 50 150 H.size) (cwS 3 hts gzX6_glass_X6_checkRange_75 rfl rfl rfl (by decide +kernel) ⟨(Nat.le_of_ble_eq_true rfl), (Nat.le_of_ble_eq_true rfl)⟩) ⟨p_RW_blind, (p_RW_at (tc := []) (wc := []) hP hK hD hS hA hT hZ [] [] rfl rfl (by decide) rfl [.int xe, .int 50, .int 150])⟩ rfl rfl hl.1 rfl (lv_room (Nat.le_of_ble_eq_true rfl)) dX6_glass_24 ⟨(Nat.le_of_ble_eq_true rfl), (Nat.le_of_ble_eq_true rfl)⟩) hS (fun q _ h => hFc q h) hFc (fun q _ h => hFc q h) (fun E ce q9 u t H locs ht hvm hpx hBX hz1 hk1 hS hce hcv hcl => ?_) (fun u t H locs ht hvm w_193 hB hz1 hk1 hS => ?_)
      · have hBX : (E = "java/lang/IllegalArgumentException" ∧ (¬ inR xe 50 150)) := hBX
        rcases hBX with ⟨rfl, c_194⟩
        exact vx_out (fun x h => (hxt x h).elim) hlocks hce hcv hcl (fun t ht _ => ⟨(), trivial, ⟨rfl, (by first | assumption | exact inR_1 (by assumption) (by assumption) | exact inR_2 (by assumption) (by assumption) | exact inR_3 (by assumption) | exact inR_4 (by assumption) | exact inR_5 (by assumption) | exact ⟨by assumption, by assumption, by assumption, by assumption⟩ | exact ⟨by assumption, by assumption, by assumption⟩ | exact (fun q => absurd q.1 (by assumption)) | exact (fun q => absurd q.2.1 (by assumption)) | exact (fun q => absurd q.2.2 (by assumption)) | exact (fun q => absurd q.2.2.1 (by assumption)) | exact (fun q => absurd q.2.2.2 (by assumption)) | exact isRole_no (by assumption) (by assumption) (by assumption) (by assumption) | exact isRole_nb (by assumption) (by assumption) (by assumption) (by assumption) | exact isRole_out (by assumption) | exact enc_use (by assumption) (by assumption) (by assumption) | exact enc_103 (by assumption) | exact enc_103 (Eq.symm (by assumption)) | exact enc_115 (Eq.symm (by assumption)) | exact enc_102 (Eq.symm (by assumption)) | exact enc_98 (Eq.symm (by assumption)) | exact isRole_nc (by assumption) (by assumption) (by assumption) (by assumption) | exact enc_115 (by assumption) | exact enc_102 (by assumption) | exact enc_98 (by assumption) | exact Or.inr (by assumption) | rfl | exact Or.inl (by assumption) | exact Or.inr (Or.inl (by assumption)) | exact Or.inr (Or.inr (Or.inl (by assumption))) | exact Or.inr (Or.inr (Or.inr (by assumption))) | decide)⟩, hS.F ht⟩) hS.2.2 (Nat.le_of_ble_eq_true rfl) (Nat.le_of_ble_eq_true rfl)
      · obtain ⟨hP, hD, hK⟩ := q_join (D := D) (wc := []) (wr := [(xo, .inr (11, [.ref xg, .int 0, .ref xp, .int 0, .ref xq, .int 0, .ref r1, .ref r2, .ref r3, .ref r4, .ref se, .int ts, .int hq, .int 40, .int 0, .int 0])), (xg, .inl (cg, 6, .inr (.inr (.inr (.inr (fun _ => none))))))]) (w1 := []) (tyr := [(cg, .object "Gatherhouse$Glass")]) (ty1 := []) hP hD hK [] [0, 1] [0] rfl rfl (by decide) (by decide) rfl hFc hk1 ht hvm (q_none hK hvm)
        have hP : va_P D vwCl [(xo, .inr (11, [.ref xg, .int 0, .ref xp, .int 0, .ref xq, .int 0, .ref r1, .ref r2, .ref r3, .ref r4, .ref se, .int ts, .int hq, .int 40, .int 0, .int 0])), (xg, .inl (cg, 6, .inr (.inr (.inr (.inr (fun _ => none))))))] H := hP
        have hD : va_D A [(xo, .inr (11, [.ref xg, .int 0, .ref xp, .int 0, .ref xq, .int 0, .ref r1, .ref r2, .ref r3, .ref r4, .ref se, .int ts, .int hq, .int 40, .int 0, .int 0])), (xg, .inl (cg, 6, .inr (.inr (.inr (.inr (fun _ => none))))))] := hD
        have hK : va_K D vwCl [(cg, .object "Gatherhouse$Glass")] s := hK
        refine W.widen (k := 3) (n := 18) (Nat.le_of_ble_eq_true rfl) (Nat.le_of_ble_eq_true rfl) ?_
        have c_195 := w_193
        refine lv_iload hx hb dX6_glass_27 (lv_at hl 4 rfl) ?_
        refine lv_iconst (v := 0) hx hb dX6_glass_29 (by decide) ?_
        refine lv_bipush (v := 9) hx hb dX6_glass_30 (by decide) ?_
        have hFc := va_free (wc := []) hD hS hA [] rfl
        refine vx_callv (vx_runS (As := [.int co, .int 0, .int 9]) (rest := []) ⟨hx, hb, hml, hown, hts⟩ (zc_X6_checkRange l hnt D G co 0 9 H.size) (cwS 3 hts gzX6_glass_X6_checkRange_75 rfl rfl rfl (by decide +kernel) ⟨(Nat.le_of_ble_eq_true rfl), (Nat.le_of_ble_eq_true rfl)⟩) ⟨p_RW_blind, (p_RW_at (tc := []) (wc := []) hP hK hD hS hA hT hZ [] [] rfl rfl (by decide) rfl [.int co, .int 0, .int 9])⟩ rfl rfl hl.1 rfl (lv_room (Nat.le_of_ble_eq_true rfl)) dX6_glass_32 ⟨(Nat.le_of_ble_eq_true rfl), (Nat.le_of_ble_eq_true rfl)⟩) hS (fun q _ h => hFc q h) hFc (fun q _ h => hFc q h) (fun E ce q9 u t H locs ht hvm hpx hBX hz1 hk1 hS hce hcv hcl => ?_) (fun u t H locs ht hvm w_197 hB hz1 hk1 hS => ?_)
        · have hBX : (E = "java/lang/IllegalArgumentException" ∧ (¬ inR co 0 9)) := hBX
          rcases hBX with ⟨rfl, c_198⟩
          exact vx_out (fun x h => (hxt x h).elim) hlocks hce hcv hcl (fun t ht _ => ⟨(), trivial, ⟨rfl, (by first | assumption | exact inR_1 (by assumption) (by assumption) | exact inR_2 (by assumption) (by assumption) | exact inR_3 (by assumption) | exact inR_4 (by assumption) | exact inR_5 (by assumption) | exact ⟨by assumption, by assumption, by assumption, by assumption⟩ | exact ⟨by assumption, by assumption, by assumption⟩ | exact (fun q => absurd q.1 (by assumption)) | exact (fun q => absurd q.2.1 (by assumption)) | exact (fun q => absurd q.2.2 (by assumption)) | exact (fun q => absurd q.2.2.1 (by assumption)) | exact (fun q => absurd q.2.2.2 (by assumption)) | exact isRole_no (by assumption) (by assumption) (by assumption) (by assumption) | exact isRole_nb (by assumption) (by assumption) (by assumption) (by assumption) | exact isRole_out (by assumption) | exact enc_use (by assumption) (by assumption) (by assumption) | exact enc_103 (by assumption) | exact enc_103 (Eq.symm (by assumption)) | exact enc_115 (Eq.symm (by assumption)) | exact enc_102 (Eq.symm (by assumption)) | exact enc_98 (Eq.symm (by assumption)) | exact isRole_nc (by assumption) (by assumption) (by assumption) (by assumption) | exact enc_115 (by assumption) | exact enc_102 (by assumption) | exact enc_98 (by assumption) | exact Or.inr (by assumption) | rfl | exact Or.inl (by assumption) | exact Or.inr (Or.inl (by assumption)) | exact Or.inr (Or.inr (Or.inl (by assumption))) | exact Or.inr (Or.inr (Or.inr (by assumption))) | decide)⟩, hS.F ht⟩) hS.2.2 (Nat.le_of_ble_eq_true rfl) (Nat.le_of_ble_eq_true rfl)
        · obtain ⟨hP, hD, hK⟩ := q_join (D := D) (wc := []) (wr := [(xo, .inr (11, [.ref xg, .int 0, .ref xp, .int 0, .ref xq, .int 0, .ref r1, .ref r2, .ref r3, .ref r4, .ref se, .int ts, .int hq, .int 40, .int 0, .int 0])), (xg, .inl (cg, 6, .inr (.inr (.inr (.inr (fun _ => none))))))]) (w1 := []) (tyr := [(cg, .object "Gatherhouse$Glass")]) (ty1 := []) hP hD hK [] [0, 1] [0] rfl rfl (by decide) (by decide) rfl hFc hk1 ht hvm (q_none hK hvm)
          have hP : va_P D vwCl [(xo, .inr (11, [.ref xg, .int 0, .ref xp, .int 0, .ref xq, .int 0, .ref r1, .ref r2, .ref r3, .ref r4, .ref se, .int ts, .int hq, .int 40, .int 0, .int 0])), (xg, .inl (cg, 6, .inr (.inr (.inr (.inr (fun _ => none))))))] H := hP
          have hD : va_D A [(xo, .inr (11, [.ref xg, .int 0, .ref xp, .int 0, .ref xq, .int 0, .ref r1, .ref r2, .ref r3, .ref r4, .ref se, .int ts, .int hq, .int 40, .int 0, .int 0])), (xg, .inl (cg, 6, .inr (.inr (.inr (.inr (fun _ => none))))))] := hD
          have hK : va_K D vwCl [(cg, .object "Gatherhouse$Glass")] s := hK
          refine W.widen (k := 4) (n := 24) (Nat.le_of_ble_eq_true rfl) (Nat.le_of_ble_eq_true rfl) ?_
          have c_199 := w_197
          refine lv_aload_n hx hb dX6_glass_35 rfl (lv_at hl 0 rfl) ?_
          refine va_get (D := D) (cl := vwCl) (ci := 11) (v := .int 0) (C := RX6) (T := TX6) (N := 16) hx hb hts zuX6_glass_X6 hown hK hP 0 rfl rfl 1 (by decide) (hts (.fieldLink RX6 15 "Gatherhouse" "glassCount" "I") (by decide +kernel)) (fun _ h9 => h9) rfl dX6_glass_36 ?_
          refine lv_if_lt (tgt := 54) hx hb dX6_glass_39 (by decide) (fun cc => absurd cc (by decide)) (fun _ => ?_)
          refine lv_aload_n hx hb dX6_glass_42 rfl (lv_at hl 0 rfl) ?_
          refine va_get (D := D) (cl := vwCl) (ci := 11) (v := .int 0) (C := RX6) (T := TX6) (N := 16) hx hb hts zuX6_glass_X6 hown hK hP 0 rfl rfl 1 (by decide) (hts (.fieldLink RX6 15 "Gatherhouse" "glassCount" "I") (by decide +kernel)) (fun _ h9 => h9) rfl dX6_glass_43 ?_
          refine lv_aload_n hx hb dX6_glass_46 rfl (lv_at hl 0 rfl) ?_
          refine va_get (D := D) (cl := vwCl) (ci := 11) (v := .ref xg) (C := RX6) (T := TX6) (N := 16) hx hb hts zuX6_glass_X6 hown hK hP 0 rfl rfl 0 (by decide) (hts (.fieldLink RX6 11 "Gatherhouse" "glasses" "[LGatherhouse$Glass;") (by decide +kernel)) (fun _ h9 => h9) rfl dX6_glass_47 ?_
          refine va_alen (D := D) (cl := vwCl) (v := 6) hx hb hK hP 1 0 rfl rfl (by decide) dX6_glass_50 ?_
          refine lv_icmp_lt (tgt := 64) hx hb dX6_glass_51 (by decide) (fun _ => ?_) (fun cc => absurd (by decide) cc)
          refine lv_aload_n hx hb dX6_glass_64 rfl (lv_at hl 0 rfl) ?_
          refine va_get (D := D) (cl := vwCl) (ci := 11) (v := .ref xg) (C := RX6) (T := TX6) (N := 16) hx hb hts zuX6_glass_X6 hown hK hP 0 rfl rfl 0 (by decide) (hts (.fieldLink RX6 11 "Gatherhouse" "glasses" "[LGatherhouse$Glass;") (by decide +kernel)) (fun _ h9 => h9) rfl dX6_glass_65 ?_
          refine lv_aload_n hx hb dX6_glass_68 rfl (lv_at hl 0 rfl) ?_
          refine va_get (D := D) (cl := vwCl) (ci := 11) (v := .int 0) (C := RX6) (T := TX6) (N := 16) hx hb hts zuX6_glass_X6 hown hK hP 0 rfl rfl 1 (by decide) (hts (.fieldLink RX6 15 "Gatherhouse" "glassCount" "I") (by decide +kernel)) (fun _ h9 => h9) rfl dX6_glass_69 ?_
          refine va_new (D := D) (cl := vwCl) (ci := 5) (fs := [.int 0, .int 0, .int 0, .int 0]) (C := RX0) (T := TX0) (N := 4) hx hb hts zuX6_glass_X0 tyX0 tyX0_ok hown (hts (.classLink RX6 9 RX0) (by decide +kernel)) (hts (.instantiable RX0 4) (by decide +kernel)) (hts (.initialized RX0) (by decide +kernel)) hK hP hD hS hA rfl (fun j hj => by rcases (show j = 0 ∨ j = 1 ∨ j = 2 ∨ j = 3 by omega) with rfl | rfl | rfl | rfl <;> rfl) (Nat.le_of_ble_eq_true rfl) (Nat.le_of_ble_eq_true rfl) dX6_glass_72 (fun o_200 H hP hD hS => ?_)
          have hP : va_P D vwCl [(xo, .inr (11, [.ref xg, .int 0, .ref xp, .int 0, .ref xq, .int 0, .ref r1, .ref r2, .ref r3, .ref r4, .ref se, .int ts, .int hq, .int 40, .int 0, .int 0])), (xg, .inl (cg, 6, .inr (.inr (.inr (.inr (fun _ => none)))))), (o_200, .inr (5, [.int 0, .int 0, .int 0, .int 0]))] H := hP
          have hD : va_D A [(xo, .inr (11, [.ref xg, .int 0, .ref xp, .int 0, .ref xq, .int 0, .ref r1, .ref r2, .ref r3, .ref r4, .ref se, .int ts, .int hq, .int 40, .int 0, .int 0])), (xg, .inl (cg, 6, .inr (.inr (.inr (.inr (fun _ => none)))))), (o_200, .inr (5, [.int 0, .int 0, .int 0, .int 0]))] := hD
          refine W.widen (k := 5) (n := 28) (Nat.le_of_ble_eq_true rfl) (Nat.le_of_ble_eq_true rfl) ?_
          refine lv_dup hx hb dX6_glass_75 rfl ?_
          refine lv_iload_n hx hb dX6_glass_76 rfl (lv_at hl 1 rfl) ?_
          refine lv_iload_n hx hb dX6_glass_77 rfl (lv_at hl 2 rfl) ?_
          refine lv_iload_n hx hb dX6_glass_78 rfl (lv_at hl 3 rfl) ?_
          refine lv_iload hx hb dX6_glass_79 (lv_at hl 4 rfl) ?_
          have hFc := va_free (wc := [(o_200, .inr (5, [.int 0, .int 0, .int 0, .int 0]))]) hD hS hA [2] rfl
          refine va_callv (va_runIN (As := [.int lo, .int hi, .int xe, .int co]) (rest := [.ref o_200, .int 0, .ref xg]) ⟨hx, hb, hml, hown, hts⟩ (zc_X0_init l D G o_200 lo hi xe co H.size) ⟨va_cnB 4 hts gzX6_glass_X0_init_86 rfl rfl rfl (hT.1 ("Gatherhouse", 86, ⟨"Gatherhouse$Glass", "<init>", "(IIII)V"⟩, "Gatherhouse") (by decide +kernel)) (hts (.initialized RX0) (by decide +kernel)) (by decide +kernel) ⟨(Nat.le_of_ble_eq_true rfl), (Nat.le_of_ble_eq_true rfl)⟩, rfl, (hts (.instanceMethod yX0_init) (by decide +kernel))⟩ ⟨p_RW_blind, (p_RW_at (tc := []) (wc := [(o_200, .inr (5, [.int 0, .int 0, .int 0, .int 0]))]) hP hK hD hS hA hT hZ [2] [] rfl rfl (by decide) rfl [.ref o_200, .int lo, .int hi, .int xe, .int co])⟩ rfl rfl hl.1 rfl (lv_room (Nat.le_of_ble_eq_true rfl)) dX6_glass_81 ⟨(Nat.le_of_ble_eq_true rfl), (Nat.le_of_ble_eq_true rfl)⟩) hS (fun q _ h => hFc q h) hFc (fun u t H locs ht hvm w_202 hB hz1 hk1 hS => ?_)
          obtain ⟨hP, hD, hK⟩ := q_join (D := D) (wc := [(o_200, .inr (5, [.int 0, .int 0, .int 0, .int 0]))]) (wr := [(xo, .inr (11, [.ref xg, .int 0, .ref xp, .int 0, .ref xq, .int 0, .ref r1, .ref r2, .ref r3, .ref r4, .ref se, .int ts, .int hq, .int 40, .int 0, .int 0])), (xg, .inl (cg, 6, .inr (.inr (.inr (.inr (fun _ => none))))))]) (w1 := [(o_200, .inr (5, [.int lo, .int hi, .int xe, .int co]))]) (tyr := [(cg, .object "Gatherhouse$Glass")]) (ty1 := []) hP hD hK [2] [0, 1] [0] rfl rfl (by decide) (by decide) rfl hFc hk1 ht hvm hB
          have hP : va_P D vwCl [(xo, .inr (11, [.ref xg, .int 0, .ref xp, .int 0, .ref xq, .int 0, .ref r1, .ref r2, .ref r3, .ref r4, .ref se, .int ts, .int hq, .int 40, .int 0, .int 0])), (xg, .inl (cg, 6, .inr (.inr (.inr (.inr (fun _ => none)))))), (o_200, .inr (5, [.int lo, .int hi, .int xe, .int co]))] H := hP
          have hD : va_D A [(xo, .inr (11, [.ref xg, .int 0, .ref xp, .int 0, .ref xq, .int 0, .ref r1, .ref r2, .ref r3, .ref r4, .ref se, .int ts, .int hq, .int 40, .int 0, .int 0])), (xg, .inl (cg, 6, .inr (.inr (.inr (.inr (fun _ => none)))))), (o_200, .inr (5, [.int lo, .int hi, .int xe, .int co]))] := hD
          have hK : va_K D vwCl [(cg, .object "Gatherhouse$Glass")] s := hK
          refine va_astq (D := D) (cl := vwCl) hx hb hK hP hD hS 1 0 2 5 rfl rfl rfl rfl (vp_in_nI (n := 0) (N := 6) (by decide) (by decide)) dX6_glass_84 (fun H locs hP hD hS => ?_)
          have hP := hP.sub (ws' := [(xo, .inr (11, [.ref xg, .int 0, .ref xp, .int 0, .ref xq, .int 0, .ref r1, .ref r2, .ref r3, .ref r4, .ref se, .int ts, .int hq, .int 40, .int 0, .int 0])), (o_200, .inr (5, [.int lo, .int hi, .int xe, .int co]))]) [0, 2] rfl
          have hD := hD.sub (ws' := [(xo, .inr (11, [.ref xg, .int 0, .ref xp, .int 0, .ref xq, .int 0, .ref r1, .ref r2, .ref r3, .ref r4, .ref se, .int ts, .int hq, .int 40, .int 0, .int 0])), (o_200, .inr (5, [.int lo, .int hi, .int xe, .int co]))]) [0, 2] (by decide) rfl
          refine lv_aload_n hx hb dX6_glass_85 rfl (lv_at hl 0 rfl) ?_
          refine lv_dup hx hb dX6_glass_86 rfl ?_
          refine va_get (D := D) (cl := vwCl) (ci := 11) (v := .int 0) (C := RX6) (T := TX6) (N := 16) hx hb hts zuX6_glass_X6 hown hK hP 0 rfl rfl 1 (by decide) (hts (.fieldLink RX6 15 "Gatherhouse" "glassCount" "I") (by decide +kernel)) (fun _ h9 => h9) rfl dX6_glass_87 ?_
          refine lv_iconst (v := 1) hx hb dX6_glass_90 (by decide) ?_
          refine lv_iadd hx hb dX6_glass_91 ?_
          refine lv_topi (fun y_203 ey_203 => ?_)
          have ey_203 : y_203 = 1 := ey_203.trans (by decide +kernel)
          subst ey_203
          refine va_put (D := D) (cl := vwCl) (ci := 11) (v := .int 1) (ty := .int) (C := RX6) (T := TX6) (N := 16) hx hb hts zuX6_glass_X6 tyX6 tyX6_ok nmX6 hown hK hP hD hS 0 rfl rfl 1 (by decide) (hts (.fieldLink RX6 15 "Gatherhouse" "glassCount" "I") (by decide +kernel)) (fun _ h9 => h9) rfl (by decide +kernel) rfl rfl (Nat.le_of_ble_eq_true rfl) dX6_glass_92 (fun H locs hP hD hS => ?_)
          have hP : va_P D vwCl [(xo, .inr (11, [.ref xg, .int 1, .ref xp, .int 0, .ref xq, .int 0, .ref r1, .ref r2, .ref r3, .ref r4, .ref se, .int ts, .int hq, .int 40, .int 0, .int 0])), (o_200, .inr (5, [.int lo, .int hi, .int xe, .int co]))] H := hP
          have hD : va_D A [(xo, .inr (11, [.ref xg, .int 1, .ref xp, .int 0, .ref xq, .int 0, .ref r1, .ref r2, .ref r3, .ref r4, .ref se, .int ts, .int hq, .int 40, .int 0, .int 0])), (o_200, .inr (5, [.int lo, .int hi, .int xe, .int co]))] := hD
          refine lv_aload_n hx hb dX6_glass_95 rfl (lv_at hl 0 rfl) ?_
          refine va_get (D := D) (cl := vwCl) (ci := 11) (v := .int 1) (C := RX6) (T := TX6) (N := 16) hx hb hts zuX6_glass_X6 hown hK hP 0 rfl rfl 1 (by decide) (hts (.fieldLink RX6 15 "Gatherhouse" "glassCount" "I") (by decide +kernel)) (fun _ h9 => h9) rfl dX6_glass_96 ?_
          refine lv_iconst (v := 1) hx hb dX6_glass_99 (by decide) ?_
          refine lv_isub hx hb dX6_glass_100 ?_
          refine lv_topi (fun y_204 ey_204 => ?_)
          have ey_204 : y_204 = 0 := ey_204.trans (by decide +kernel)
          subst ey_204
          refine vx_ret ?_
          exact W.iret (v := 0) hx hb hr (fun t ht hW => ⟨⟨0, (), rfl, ⟨(by first | assumption | exact inR_1 (by assumption) (by assumption) | exact inR_2 (by assumption) (by assumption) | exact inR_3 (by assumption) | exact inR_4 (by assumption) | exact inR_5 (by assumption) | exact ⟨by assumption, by assumption, by assumption, by assumption⟩ | exact ⟨by assumption, by assumption, by assumption⟩ | exact (fun q => absurd q.1 (by assumption)) | exact (fun q => absurd q.2.1 (by assumption)) | exact (fun q => absurd q.2.2 (by assumption)) | exact (fun q => absurd q.2.2.1 (by assumption)) | exact (fun q => absurd q.2.2.2 (by assumption)) | exact isRole_no (by assumption) (by assumption) (by assumption) (by assumption) | exact isRole_nb (by assumption) (by assumption) (by assumption) (by assumption) | exact isRole_out (by assumption) | exact enc_use (by assumption) (by assumption) (by assumption) | exact enc_103 (by assumption) | exact enc_103 (Eq.symm (by assumption)) | exact enc_115 (Eq.symm (by assumption)) | exact enc_102 (Eq.symm (by assumption)) | exact enc_98 (Eq.symm (by assumption)) | exact isRole_nc (by assumption) (by assumption) (by assumption) (by assumption) | exact enc_115 (by assumption) | exact enc_102 (by assumption) | exact enc_98 (by assumption) | exact Or.inr (by assumption) | rfl | exact Or.inl (by assumption) | exact Or.inr (Or.inl (by assumption)) | exact Or.inr (Or.inr (Or.inl (by assumption))) | exact Or.inr (Or.inr (Or.inr (by assumption))) | decide), rfl⟩, trivial⟩, hS.F ht⟩) hS.2.2 dX6_glass_101
theorem dX6_time_0 : decode cX6_time 0 = .ok (.aload_n 0, 1) := by decide +kernel
theorem dX6_time_1 : decode cX6_time 1 = .ok (.getfield 60, 3) := by decide +kernel
theorem dX6_time_4 : decode cX6_time 4 = .ok (.ireturn, 1) := by decide +kernel
def wzEX6_time : List Cond := [.code yX6_time cX6_time 1 (some .int), .fieldLink RX6 60 "Gatherhouse" "secondsGone" "I"]
def wzX6_time : List Cond := wzEX6_time ++ (u_ws RX6 TX6 16)
theorem zgEX6_time : wzEX6_time.all goodWord = true := by decide +kernel
theorem zuX6_time_X6 : ∀ w ∈ u_ws RX6 TX6 16, w ∈ wzX6_time := (fun _ h => (List.mem_append_right _ h))
set_option maxHeartbeats 4000000 in
set_option maxRecDepth 100000 in
theorem zc_X6_time (l : Launch) (D : va_G) (G : Nat × Nat × Nat) (xo : Nat) (xg : Nat) (xp : Nat) (xq : Nat) (r1 : Nat) (r2 : Nat) (r3 : Nat) (r4 : Nat) (se : Nat) (ts : Int32) (hq : Int32) : Met l yX6_time wzX6_time ({ frames := 0, cells := 0, slots := 0, locals := 0 }) (va_Pc [.ref xo] (p_RO D G [] [(xo, .inr (11, [.ref xg, .int 0, .ref xp, .int 0, .ref xq, .int 0, .ref r1, .ref r2, .ref r3, .ref r4, .ref se, .int ts, .int hq, .int 40, .int 0, .int 0]))])) (vp_Si (fun r => r = ts)) 0 0 (fun _ => False) := by
  refine Met.ofW (cc := cX6_time) (maxL := 1) (ret := (some .int)) (by decide) rfl ?_
  intro p e s m args below meth c s₁ B hml hv
  obtain ⟨rfl, hP, hK, hT⟩ := hv
  have hx := B.exec
  have hb := B.bytes
  have hr := B.returns
  have hts := atoms_spec (ws := wzX6_time) B.pre
  have hown : s.vm.findClass RX6 = some m.cls := findClass_of_methodNamed B.named
  have hlocks := B.notSynchronized
  have hl := lv_entry ([.ref xo]) (n := 1) (Nat.le_of_ble_eq_true rfl)
  rw [lg_entry_eq]
  generalize (lg_sl ([.ref xo]) ++ List.replicate (1 - (lg_sl ([.ref xo])).length) Slot.unset).toArray = ls at hl ⊢
  have hl : lv_has ls 1 [(0, .ref xo)] := hl
  refine lv_aload_n hx hb dX6_time_0 rfl (lv_at hl 0 rfl) ?_
  refine va_get (D := D) (cl := vwCl) (ci := 11) (v := .int ts) (C := RX6) (T := TX6) (N := 16) hx hb hts zuX6_time_X6 hown hK hP 0 rfl rfl 11 (by decide) (hts (.fieldLink RX6 60 "Gatherhouse" "secondsGone" "I") (by decide +kernel)) (fun _ h9 => h9) rfl dX6_time_1 ?_
  exact W.iret (v := ts) hx hb hr (fun t ht hW => ⟨ts, rfl, rfl, ht⟩) (fun q h => by cases h) dX6_time_4
theorem dX6_takings_0 : decode cX6_takings 0 = .ok (.aload_n 0, 1) := by decide +kernel
theorem dX6_takings_1 : decode cX6_takings 1 = .ok (.getfield 69, 3) := by decide +kernel
theorem dX6_takings_4 : decode cX6_takings 4 = .ok (.ireturn, 1) := by decide +kernel
def wzEX6_takings : List Cond := [.code yX6_takings cX6_takings 1 (some .int), .fieldLink RX6 69 "Gatherhouse" "sumOfSales" "I"]
def wzX6_takings : List Cond := wzEX6_takings ++ (u_ws RX6 TX6 16)
theorem zgEX6_takings : wzEX6_takings.all goodWord = true := by decide +kernel
theorem zuX6_takings_X6 : ∀ w ∈ u_ws RX6 TX6 16, w ∈ wzX6_takings := (fun _ h => (List.mem_append_right _ h))
set_option maxHeartbeats 4000000 in
set_option maxRecDepth 100000 in
theorem zc_X6_takings (l : Launch) (D : va_G) (G : Nat × Nat × Nat) (xo : Nat) (xg : Nat) (xp : Nat) (xq : Nat) (r1 : Nat) (r2 : Nat) (r3 : Nat) (r4 : Nat) (se : Nat) (ts : Int32) (hq : Int32) : Met l yX6_takings wzX6_takings ({ frames := 0, cells := 0, slots := 0, locals := 0 }) (va_Pc [.ref xo] (p_RO D G [] [(xo, .inr (11, [.ref xg, .int 0, .ref xp, .int 0, .ref xq, .int 0, .ref r1, .ref r2, .ref r3, .ref r4, .ref se, .int ts, .int hq, .int 40, .int 0, .int 0]))])) (vp_Si (fun r => r = 0)) 0 0 (fun _ => False) := by
  refine Met.ofW (cc := cX6_takings) (maxL := 1) (ret := (some .int)) (by decide) rfl ?_
  intro p e s m args below meth c s₁ B hml hv
  obtain ⟨rfl, hP, hK, hT⟩ := hv
  have hx := B.exec
  have hb := B.bytes
  have hr := B.returns
  have hts := atoms_spec (ws := wzX6_takings) B.pre
  have hown : s.vm.findClass RX6 = some m.cls := findClass_of_methodNamed B.named
  have hlocks := B.notSynchronized
  have hl := lv_entry ([.ref xo]) (n := 1) (Nat.le_of_ble_eq_true rfl)
  rw [lg_entry_eq]
  generalize (lg_sl ([.ref xo]) ++ List.replicate (1 - (lg_sl ([.ref xo])).length) Slot.unset).toArray = ls at hl ⊢
  have hl : lv_has ls 1 [(0, .ref xo)] := hl
  refine lv_aload_n hx hb dX6_takings_0 rfl (lv_at hl 0 rfl) ?_
  refine va_get (D := D) (cl := vwCl) (ci := 11) (v := .int 0) (C := RX6) (T := TX6) (N := 16) hx hb hts zuX6_takings_X6 hown hK hP 0 rfl rfl 14 (by decide) (hts (.fieldLink RX6 69 "Gatherhouse" "sumOfSales" "I") (by decide +kernel)) (fun _ h9 => h9) rfl dX6_takings_1 ?_
  exact W.iret (v := 0) hx hb hr (fun t ht hW => ⟨0, rfl, rfl, ht⟩) (fun q h => by cases h) dX6_takings_4
theorem dX6_day_0 : decode cX6_day 0 = .ok (.aload_n 0, 1) := by decide +kernel
theorem dX6_day_1 : decode cX6_day 1 = .ok (.getfield 63, 3) := by decide +kernel
theorem dX6_day_4 : decode cX6_day 4 = .ok (.bipush 24, 2) := by decide +kernel
theorem dX6_day_6 : decode cX6_day 6 = .ok (.idiv, 1) := by decide +kernel
theorem dX6_day_7 : decode cX6_day 7 = .ok (.ireturn, 1) := by decide +kernel
def wzEX6_day : List Cond := [.code yX6_day cX6_day 1 (some .int), .fieldLink RX6 63 "Gatherhouse" "hoursGone" "I"]
def wzX6_day : List Cond := wzEX6_day ++ (u_ws RX6 TX6 16)
theorem zgEX6_day : wzEX6_day.all goodWord = true := by decide +kernel
theorem zuX6_day_X6 : ∀ w ∈ u_ws RX6 TX6 16, w ∈ wzX6_day := (fun _ h => (List.mem_append_right _ h))
set_option maxHeartbeats 4000000 in
set_option maxRecDepth 100000 in
theorem zc_X6_day (l : Launch) (D : va_G) (G : Nat × Nat × Nat) (xo : Nat) (xg : Nat) (xp : Nat) (xq : Nat) (r1 : Nat) (r2 : Nat) (r3 : Nat) (r4 : Nat) (se : Nat) (ts : Int32) : Met l yX6_day wzX6_day ({ frames := 0, cells := 0, slots := 0, locals := 0 }) (va_Pc [.ref xo] (p_RO D G [] [(xo, .inr (11, [.ref xg, .int 0, .ref xp, .int 0, .ref xq, .int 0, .ref r1, .ref r2, .ref r3, .ref r4, .ref se, .int ts, .int 0, .int 40, .int 0, .int 0]))])) (vp_Si (fun r => r = 0)) 0 0 (fun _ => False) := by
  refine Met.ofW (cc := cX6_day) (maxL := 1) (ret := (some .int)) (by decide) rfl ?_
  intro p e s m args below meth c s₁ B hml hv
  obtain ⟨rfl, hP, hK, hT⟩ := hv
  have hx := B.exec
  have hb := B.bytes
  have hr := B.returns
  have hts := atoms_spec (ws := wzX6_day) B.pre
  have hown : s.vm.findClass RX6 = some m.cls := findClass_of_methodNamed B.named
  have hlocks := B.notSynchronized
  have hl := lv_entry ([.ref xo]) (n := 1) (Nat.le_of_ble_eq_true rfl)
  rw [lg_entry_eq]
  generalize (lg_sl ([.ref xo]) ++ List.replicate (1 - (lg_sl ([.ref xo])).length) Slot.unset).toArray = ls at hl ⊢
  have hl : lv_has ls 1 [(0, .ref xo)] := hl
  refine lv_aload_n hx hb dX6_day_0 rfl (lv_at hl 0 rfl) ?_
  refine va_get (D := D) (cl := vwCl) (ci := 11) (v := .int 0) (C := RX6) (T := TX6) (N := 16) hx hb hts zuX6_day_X6 hown hK hP 0 rfl rfl 12 (by decide) (hts (.fieldLink RX6 63 "Gatherhouse" "hoursGone" "I") (by decide +kernel)) (fun _ h9 => h9) rfl dX6_day_1 ?_
  refine lv_bipush (v := 24) hx hb dX6_day_4 (by decide) ?_
  refine lv_idiv hx hb dX6_day_6 (by decide) ?_
  refine lv_topi (fun y_205 ey_205 => ?_)
  have ey_205 : y_205 = 0 := ey_205.trans (by decide +kernel)
  subst ey_205
  exact W.iret (v := 0) hx hb hr (fun t ht hW => ⟨0, rfl, rfl, ht⟩) (fun q h => by cases h) dX6_day_7
theorem dX6_lehr_0 : decode cX6_lehr 0 = .ok (.aload_n 0, 1) := by decide +kernel
theorem dX6_lehr_1 : decode cX6_lehr 1 = .ok (.bipush 108, 2) := by decide +kernel
theorem dX6_lehr_3 : decode cX6_lehr 3 = .ok (.invokevirtual 274, 3) := by decide +kernel
theorem dX6_lehr_6 : decode cX6_lehr 6 = .ok (.ireturn, 1) := by decide +kernel
def wzEX6_lehr : List Cond := [.code yX6_lehr cX6_lehr 1 (some .int), .methodLink RX6 274 yX6_countOf, .instanceMethod yX6_countOf, .selects RX6 yX6_countOf yX6_countOf, .initialized RX6, .code yX6_countOf cX6_countOf 7 (some .int), .fieldLink RX6 30 "Gatherhouse" "pieces" "[LGatherhouse$Piece;"]
def wzX6_lehr : List Cond := wzEX6_lehr ++ (u_ws RX6 TX6 16)
theorem zgEX6_lehr : wzEX6_lehr.all goodWord = true := by decide +kernel
theorem zuX6_lehr_X6 : ∀ w ∈ u_ws RX6 TX6 16, w ∈ wzX6_lehr := (fun _ h => (List.mem_append_right _ h))
theorem gzX6_lehr_X6_countOf_274 : GoodIn wzX6_lehr (wsV RX6 274 RX6 yX6_countOf wzX6_countOf) := (goodIn_app (z_lift (goodIn_r _ [1, 2, 3, 4] rfl (by decide +kernel))) (goodIn_app (z_lift (goodIn_r wzEX6_countOf [5, 6] rfl zgEX6_countOf)) (goodIn_sub (fun _ h => (List.mem_append_right _ h)) zgU_X6)))
set_option maxHeartbeats 4000000 in
set_option maxRecDepth 100000 in
theorem zc_X6_lehr (l : Launch) (D : va_G) (G : Nat × Nat × Nat) (xo : Nat) (xg : Nat) (xp : Nat) (xq : Nat) (r1 : Nat) (r2 : Nat) (r3 : Nat) (r4 : Nat) (se : Nat) (ts : Int32) (hq : Int32) (cq : ClassId) : Met l yX6_lehr wzX6_lehr ({ frames := 1, cells := 0, slots := 0, locals := 26 }) (va_Pc [.ref xo] (p_RO D G [(cq, .object "Gatherhouse$Piece")] [(xo, .inr (11, [.ref xg, .int 0, .ref xp, .int 0, .ref xq, .int 0, .ref r1, .ref r2, .ref r3, .ref r4, .ref se, .int ts, .int hq, .int 40, .int 0, .int 0])), (xq, .inl (cq, 16, .inr (.inr (.inr (.inr (fun _ => none))))))])) (vp_Si (fun r => r = 0)) 0 0 (fun _ => False) := by
  refine Met.ofW (cc := cX6_lehr) (maxL := 1) (ret := (some .int)) (by decide) rfl ?_
  intro p e s m args below meth c s₁ B hml hv
  obtain ⟨rfl, hP, hK, hT⟩ := hv
  have hx := B.exec
  have hb := B.bytes
  have hr := B.returns
  have hts := atoms_spec (ws := wzX6_lehr) B.pre
  have hown : s.vm.findClass RX6 = some m.cls := findClass_of_methodNamed B.named
  have hlocks := B.notSynchronized
  have hl := lv_entry ([.ref xo]) (n := 1) (Nat.le_of_ble_eq_true rfl)
  rw [lg_entry_eq]
  generalize (lg_sl ([.ref xo]) ++ List.replicate (1 - (lg_sl ([.ref xo])).length) Slot.unset).toArray = ls at hl ⊢
  have hl : lv_has ls 1 [(0, .ref xo)] := hl
  refine lv_aload_n hx hb dX6_lehr_0 rfl (lv_at hl 0 rfl) ?_
  refine lv_bipush (v := 108) hx hb dX6_lehr_1 (by decide) ?_
  refine vp_callSi (va_runV (As := [.int 108]) (rest := []) ⟨hx, hb, hml, hown, hts⟩ (zc_X6_countOf l D G xo xg xp xq r1 r2 r3 r4 se ts hq cq 108) (cwV 1 hts gzX6_lehr_X6_countOf_274 rfl rfl rfl (by decide +kernel) ⟨(Nat.le_of_ble_eq_true rfl), (Nat.le_of_ble_eq_true rfl)⟩) ⟨p_RO_blind, va_recv hK hP (ci := 11) (q0 := 0) rfl rfl, (p_RO_at (tc := [(cq, .object "Gatherhouse$Piece")]) (wc := [(xo, .inr (11, [.ref xg, .int 0, .ref xp, .int 0, .ref xq, .int 0, .ref r1, .ref r2, .ref r3, .ref r4, .ref se, .int ts, .int hq, .int 40, .int 0, .int 0])), (xq, .inl (cq, 16, .inr (.inr (.inr (.inr (fun _ => none))))))]) hP hK hT [0, 1] [0] rfl rfl [.ref xo, .int 108])⟩ rfl rfl hl.1 rfl (lv_room (Nat.le_of_ble_eq_true rfl)) dX6_lehr_3 ⟨(Nat.le_of_ble_eq_true rfl), (Nat.le_of_ble_eq_true rfl)⟩).run (fun r_206 w_207 => ?_)
  obtain rfl := w_207
  exact W.iret (v := 0) hx hb hr (fun t ht hW => ⟨0, rfl, rfl, ht⟩) (fun q h => by cases h) dX6_lehr_6
theorem dX6_isSound_0 : decode cX6_isSound 0 = .ok (.aload_n 0, 1) := by decide +kernel
theorem dX6_isSound_1 : decode cX6_isSound 1 = .ok (.getfield 30, 3) := by decide +kernel
theorem dX6_isSound_4 : decode cX6_isSound 4 = .ok (.astore_n 1, 1) := by decide +kernel
theorem dX6_isSound_5 : decode cX6_isSound 5 = .ok (.aload_n 1, 1) := by decide +kernel
theorem dX6_isSound_6 : decode cX6_isSound 6 = .ok (.arraylength, 1) := by decide +kernel
theorem dX6_isSound_7 : decode cX6_isSound 7 = .ok (.istore_n 2, 1) := by decide +kernel
theorem dX6_isSound_8 : decode cX6_isSound 8 = .ok (.iconst 0, 1) := by decide +kernel
theorem dX6_isSound_9 : decode cX6_isSound 9 = .ok (.istore_n 3, 1) := by decide +kernel
theorem dX6_isSound_10 : decode cX6_isSound 10 = .ok (.iload_n 3, 1) := by decide +kernel
theorem dX6_isSound_11 : decode cX6_isSound 11 = .ok (.iload_n 2, 1) := by decide +kernel
theorem dX6_isSound_12 : decode cX6_isSound 12 = .ok (.if_icmp .ge 29, 3) := by decide +kernel
theorem dX6_isSound_15 : decode cX6_isSound 15 = .ok (.aload_n 1, 1) := by decide +kernel
theorem dX6_isSound_16 : decode cX6_isSound 16 = .ok (.iload_n 3, 1) := by decide +kernel
theorem dX6_isSound_17 : decode cX6_isSound 17 = .ok (.aaload, 1) := by decide +kernel
theorem dX6_isSound_18 : decode cX6_isSound 18 = .ok (.astore 4, 2) := by decide +kernel
theorem dX6_isSound_20 : decode cX6_isSound 20 = .ok (.aload 4, 2) := by decide +kernel
theorem dX6_isSound_22 : decode cX6_isSound 22 = .ok (.ifnull 13, 3) := by decide +kernel
theorem dX6_isSound_35 : decode cX6_isSound 35 = .ok (.iinc 3 1, 3) := by decide +kernel
theorem dX6_isSound_38 : decode cX6_isSound 38 = .ok (.goto (-28), 3) := by decide +kernel
theorem dX6_isSound_41 : decode cX6_isSound 41 = .ok (.aload_n 0, 1) := by decide +kernel
theorem dX6_isSound_42 : decode cX6_isSound 42 = .ok (.bipush 108, 2) := by decide +kernel
theorem dX6_isSound_44 : decode cX6_isSound 44 = .ok (.invokevirtual 274, 3) := by decide +kernel
theorem dX6_isSound_47 : decode cX6_isSound 47 = .ok (.bipush 6, 2) := by decide +kernel
theorem dX6_isSound_49 : decode cX6_isSound 49 = .ok (.if_icmp .gt 7, 3) := by decide +kernel
theorem dX6_isSound_52 : decode cX6_isSound 52 = .ok (.iconst 1, 1) := by decide +kernel
theorem dX6_isSound_53 : decode cX6_isSound 53 = .ok (.goto 4, 3) := by decide +kernel
theorem dX6_isSound_57 : decode cX6_isSound 57 = .ok (.ireturn, 1) := by decide +kernel
def wzEX6_isSound : List Cond := [.code yX6_isSound cX6_isSound 5 (some .boolean), .fieldLink RX6 30 "Gatherhouse" "pieces" "[LGatherhouse$Piece;", .methodLink RX6 274 yX6_countOf, .instanceMethod yX6_countOf, .selects RX6 yX6_countOf yX6_countOf, .initialized RX6, .code yX6_countOf cX6_countOf 7 (some .int)]
def wzX6_isSound : List Cond := wzEX6_isSound ++ (u_ws RX6 TX6 16)
theorem zgEX6_isSound : wzEX6_isSound.all goodWord = true := by decide +kernel
theorem zuX6_isSound_X6 : ∀ w ∈ u_ws RX6 TX6 16, w ∈ wzX6_isSound := (fun _ h => (List.mem_append_right _ h))
theorem gzX6_isSound_X6_countOf_274 : GoodIn wzX6_isSound (wsV RX6 274 RX6 yX6_countOf wzX6_countOf) := (goodIn_app (z_lift (goodIn_r _ [2, 3, 4, 5] rfl (by decide +kernel))) (goodIn_app (z_lift (goodIn_r wzEX6_countOf [6, 1] rfl zgEX6_countOf)) (goodIn_sub (fun _ h => (List.mem_append_right _ h)) zgU_X6)))
set_option maxHeartbeats 4000000 in
set_option maxRecDepth 100000 in
theorem zc_X6_isSound (l : Launch) (D : va_G) (G : Nat × Nat × Nat) (xo : Nat) (xg : Nat) (xp : Nat) (xq : Nat) (r1 : Nat) (r2 : Nat) (r3 : Nat) (r4 : Nat) (se : Nat) (ts : Int32) (hq : Int32) (cq : ClassId) : Met l yX6_isSound wzX6_isSound ({ frames := 1, cells := 0, slots := 0, locals := 26 }) (va_Pc [.ref xo] (p_RO D G [(cq, .object "Gatherhouse$Piece")] [(xo, .inr (11, [.ref xg, .int 0, .ref xp, .int 0, .ref xq, .int 0, .ref r1, .ref r2, .ref r3, .ref r4, .ref se, .int ts, .int hq, .int 40, .int 0, .int 0])), (xq, .inl (cq, 16, .inr (.inr (.inr (.inr (fun _ => none))))))])) (vp_Si (fun r => r = 1)) 0 0 (fun _ => False) := by
  refine Met.ofW (cc := cX6_isSound) (maxL := 5) (ret := (some .boolean)) (by decide) rfl ?_
  intro p e s m args below meth c s₁ B hml hv
  obtain ⟨rfl, hP, hK, hT⟩ := hv
  have hx := B.exec
  have hb := B.bytes
  have hr := B.returns
  have hts := atoms_spec (ws := wzX6_isSound) B.pre
  have hown : s.vm.findClass RX6 = some m.cls := findClass_of_methodNamed B.named
  have hlocks := B.notSynchronized
  have hl := lv_entry ([.ref xo]) (n := 5) (Nat.le_of_ble_eq_true rfl)
  rw [lg_entry_eq]
  generalize (lg_sl ([.ref xo]) ++ List.replicate (5 - (lg_sl ([.ref xo])).length) Slot.unset).toArray = ls at hl ⊢
  have hl : lv_has ls 5 [(0, .ref xo)] := hl
  refine lv_aload_n hx hb dX6_isSound_0 rfl (lv_at hl 0 rfl) ?_
  refine va_get (D := D) (cl := vwCl) (ci := 11) (v := .ref xq) (C := RX6) (T := TX6) (N := 16) hx hb hts zuX6_isSound_X6 hown hK hP 0 rfl rfl 4 (by decide) (hts (.fieldLink RX6 30 "Gatherhouse" "pieces" "[LGatherhouse$Piece;") (by decide +kernel)) (fun _ h9 => h9) rfl dX6_isSound_1 ?_
  refine lv_astore_n (lv' := [(1, .ref xq), (0, .ref xo)]) hx hb dX6_isSound_4 rfl hl (by decide) rfl (fun ls hl => ?_)
  refine lv_aload_n hx hb dX6_isSound_5 rfl (lv_at hl 0 rfl) ?_
  refine va_alen (D := D) (cl := vwCl) (v := 16) hx hb hK hP 1 0 rfl rfl (by decide) dX6_isSound_6 ?_
  refine lv_istore_n (lv' := [(2, .int 16), (1, .ref xq), (0, .ref xo)]) hx hb dX6_isSound_7 rfl hl (by decide) rfl (fun ls hl => ?_)
  refine lv_iconst (v := 0) hx hb dX6_isSound_8 (by decide) ?_
  refine lv_istore_n (lv' := [(3, .int 0), (2, .int 16), (1, .ref xq), (0, .ref xo)]) hx hb dX6_isSound_9 rfl hl (by decide) rfl (fun ls hl => ?_)
  refine lv_iload_n hx hb dX6_isSound_10 rfl (lv_at hl 0 rfl) ?_
  refine lv_iload_n hx hb dX6_isSound_11 rfl (lv_at hl 1 rfl) ?_
  refine lv_icmp_ge (tgt := 41) hx hb dX6_isSound_12 (by decide) (fun cc => absurd cc (by decide)) (fun _ => ?_)
  refine lv_aload_n hx hb dX6_isSound_15 rfl (lv_at hl 2 rfl) ?_
  refine lv_iload_n hx hb dX6_isSound_16 rfl (lv_at hl 0 rfl) ?_
  refine va_aldq (D := D) (cl := vwCl) hx hb hK hP 1 0 rfl rfl (vp_in_nI (n := 0) (N := 16) (by decide) (by decide)) dX6_isSound_17 ?_
  refine W.eq (g2 := F0 m 18 ls [.null]) rfl ?_
  refine lv_astoreN (lv' := [(4, .null), (3, .int 0), (2, .int 16), (1, .ref xq), (0, .ref xo)]) hx hb dX6_isSound_18 hl (by decide) rfl (fun ls hl => ?_)
  refine lv_aloadN hx hb dX6_isSound_20 (lv_at hl 0 rfl) ?_
  refine lv_ifnullN (tgt := 35) hx hb dX6_isSound_22 (by decide) ?_
  obtain ⟨x_208, ex_208⟩ : ∃ y : Int32, y = 0 + 1 := ⟨_, rfl⟩
  have ex_208 : x_208 = 1 := ex_208.trans (by decide)
  subst ex_208
  refine lv_iinc (v := 1) (lv' := [(3, .int 1), (4, .null), (2, .int 16), (1, .ref xq), (0, .ref xo)]) hx hb dX6_isSound_35 hl (k := 1) rfl (by decide) (by decide) rfl (fun ls hl => ?_)
  refine lv_goto (tgt := 10) hx hb dX6_isSound_38 (by decide) ?_
  refine lv_iload_n hx hb dX6_isSound_10 rfl (lv_at hl 0 rfl) ?_
  refine lv_iload_n hx hb dX6_isSound_11 rfl (lv_at hl 2 rfl) ?_
  refine lv_icmp_ge (tgt := 41) hx hb dX6_isSound_12 (by decide) (fun cc => absurd cc (by decide)) (fun _ => ?_)
  refine lv_aload_n hx hb dX6_isSound_15 rfl (lv_at hl 3 rfl) ?_
  refine lv_iload_n hx hb dX6_isSound_16 rfl (lv_at hl 0 rfl) ?_
  refine va_aldq (D := D) (cl := vwCl) hx hb hK hP 1 0 rfl rfl (vp_in_nI (n := 1) (N := 16) (by decide) (by decide)) dX6_isSound_17 ?_
  refine W.eq (g2 := F0 m 18 ls [.null]) rfl ?_
  refine lv_astoreN (lv' := [(4, .null), (3, .int 1), (2, .int 16), (1, .ref xq), (0, .ref xo)]) hx hb dX6_isSound_18 hl (by decide) rfl (fun ls hl => ?_)
  refine lv_aloadN hx hb dX6_isSound_20 (lv_at hl 0 rfl) ?_
  refine lv_ifnullN (tgt := 35) hx hb dX6_isSound_22 (by decide) ?_
  obtain ⟨x_209, ex_209⟩ : ∃ y : Int32, y = 1 + 1 := ⟨_, rfl⟩
  have ex_209 : x_209 = 2 := ex_209.trans (by decide)
  subst ex_209
  refine lv_iinc (v := 2) (lv' := [(3, .int 2), (4, .null), (2, .int 16), (1, .ref xq), (0, .ref xo)]) hx hb dX6_isSound_35 hl (k := 1) rfl (by decide) (by decide) rfl (fun ls hl => ?_)
  refine lv_goto (tgt := 10) hx hb dX6_isSound_38 (by decide) ?_
  refine lv_iload_n hx hb dX6_isSound_10 rfl (lv_at hl 0 rfl) ?_
  refine lv_iload_n hx hb dX6_isSound_11 rfl (lv_at hl 2 rfl) ?_
  refine lv_icmp_ge (tgt := 41) hx hb dX6_isSound_12 (by decide) (fun cc => absurd cc (by decide)) (fun _ => ?_)
  refine lv_aload_n hx hb dX6_isSound_15 rfl (lv_at hl 3 rfl) ?_
  refine lv_iload_n hx hb dX6_isSound_16 rfl (lv_at hl 0 rfl) ?_
  refine va_aldq (D := D) (cl := vwCl) hx hb hK hP 1 0 rfl rfl (vp_in_nI (n := 2) (N := 16) (by decide) (by decide)) dX6_isSound_17 ?_
  refine W.eq (g2 := F0 m 18 ls [.null]) rfl ?_
  refine lv_astoreN (lv' := [(4, .null), (3, .int 2), (2, .int 16), (1, .ref xq), (0, .ref xo)]) hx hb dX6_isSound_18 hl (by decide) rfl (fun ls hl => ?_)
  refine lv_aloadN hx hb dX6_isSound_20 (lv_at hl 0 rfl) ?_
  refine lv_ifnullN (tgt := 35) hx hb dX6_isSound_22 (by decide) ?_
  obtain ⟨x_210, ex_210⟩ : ∃ y : Int32, y = 2 + 1 := ⟨_, rfl⟩
  have ex_210 : x_210 = 3 := ex_210.trans (by decide)
  subst ex_210
  refine lv_iinc (v := 3) (lv' := [(3, .int 3), (4, .null), (2, .int 16), (1, .ref xq), (0, .ref xo)]) hx hb dX6_isSound_35 hl (k := 1) rfl (by decide) (by decide) rfl (fun ls hl => ?_)
  refine lv_goto (tgt := 10) hx hb dX6_isSound_38 (by decide) ?_
  refine lv_iload_n hx hb dX6_isSound_10 rfl (lv_at hl 0 rfl) ?_
  refine lv_iload_n hx hb dX6_isSound_11 rfl (lv_at hl 2 rfl) ?_
  refine lv_icmp_ge (tgt := 41) hx hb dX6_isSound_12 (by decide) (fun cc => absurd cc (by decide)) (fun _ => ?_)
  refine lv_aload_n hx hb dX6_isSound_15 rfl (lv_at hl 3 rfl) ?_
  refine lv_iload_n hx hb dX6_isSound_16 rfl (lv_at hl 0 rfl) ?_
  refine va_aldq (D := D) (cl := vwCl) hx hb hK hP 1 0 rfl rfl (vp_in_nI (n := 3) (N := 16) (by decide) (by decide)) dX6_isSound_17 ?_
  refine W.eq (g2 := F0 m 18 ls [.null]) rfl ?_
  refine lv_astoreN (lv' := [(4, .null), (3, .int 3), (2, .int 16), (1, .ref xq), (0, .ref xo)]) hx hb dX6_isSound_18 hl (by decide) rfl (fun ls hl => ?_)
  refine lv_aloadN hx hb dX6_isSound_20 (lv_at hl 0 rfl) ?_
  refine lv_ifnullN (tgt := 35) hx hb dX6_isSound_22 (by decide) ?_
  obtain ⟨x_211, ex_211⟩ : ∃ y : Int32, y = 3 + 1 := ⟨_, rfl⟩
  have ex_211 : x_211 = 4 := ex_211.trans (by decide)
  subst ex_211
  refine lv_iinc (v := 4) (lv' := [(3, .int 4), (4, .null), (2, .int 16), (1, .ref xq), (0, .ref xo)]) hx hb dX6_isSound_35 hl (k := 1) rfl (by decide) (by decide) rfl (fun ls hl => ?_)
  refine lv_goto (tgt := 10) hx hb dX6_isSound_38 (by decide) ?_
  refine lv_iload_n hx hb dX6_isSound_10 rfl (lv_at hl 0 rfl) ?_
  refine lv_iload_n hx hb dX6_isSound_11 rfl (lv_at hl 2 rfl) ?_
  refine lv_icmp_ge (tgt := 41) hx hb dX6_isSound_12 (by decide) (fun cc => absurd cc (by decide)) (fun _ => ?_)
  refine lv_aload_n hx hb dX6_isSound_15 rfl (lv_at hl 3 rfl) ?_
  refine lv_iload_n hx hb dX6_isSound_16 rfl (lv_at hl 0 rfl) ?_
  refine va_aldq (D := D) (cl := vwCl) hx hb hK hP 1 0 rfl rfl (vp_in_nI (n := 4) (N := 16) (by decide) (by decide)) dX6_isSound_17 ?_
  refine W.eq (g2 := F0 m 18 ls [.null]) rfl ?_
  refine lv_astoreN (lv' := [(4, .null), (3, .int 4), (2, .int 16), (1, .ref xq), (0, .ref xo)]) hx hb dX6_isSound_18 hl (by decide) rfl (fun ls hl => ?_)
  refine lv_aloadN hx hb dX6_isSound_20 (lv_at hl 0 rfl) ?_
  refine lv_ifnullN (tgt := 35) hx hb dX6_isSound_22 (by decide) ?_
  obtain ⟨x_212, ex_212⟩ : ∃ y : Int32, y = 4 + 1 := ⟨_, rfl⟩
  have ex_212 : x_212 = 5 := ex_212.trans (by decide)
  subst ex_212
  refine lv_iinc (v := 5) (lv' := [(3, .int 5), (4, .null), (2, .int 16), (1, .ref xq), (0, .ref xo)]) hx hb dX6_isSound_35 hl (k := 1) rfl (by decide) (by decide) rfl (fun ls hl => ?_)
  refine lv_goto (tgt := 10) hx hb dX6_isSound_38 (by decide) ?_
  refine lv_iload_n hx hb dX6_isSound_10 rfl (lv_at hl 0 rfl) ?_
  refine lv_iload_n hx hb dX6_isSound_11 rfl (lv_at hl 2 rfl) ?_
  refine lv_icmp_ge (tgt := 41) hx hb dX6_isSound_12 (by decide) (fun cc => absurd cc (by decide)) (fun _ => ?_)
  refine lv_aload_n hx hb dX6_isSound_15 rfl (lv_at hl 3 rfl) ?_
  refine lv_iload_n hx hb dX6_isSound_16 rfl (lv_at hl 0 rfl) ?_
  refine va_aldq (D := D) (cl := vwCl) hx hb hK hP 1 0 rfl rfl (vp_in_nI (n := 5) (N := 16) (by decide) (by decide)) dX6_isSound_17 ?_
  refine W.eq (g2 := F0 m 18 ls [.null]) rfl ?_
  refine lv_astoreN (lv' := [(4, .null), (3, .int 5), (2, .int 16), (1, .ref xq), (0, .ref xo)]) hx hb dX6_isSound_18 hl (by decide) rfl (fun ls hl => ?_)
  refine lv_aloadN hx hb dX6_isSound_20 (lv_at hl 0 rfl) ?_
  refine lv_ifnullN (tgt := 35) hx hb dX6_isSound_22 (by decide) ?_
  obtain ⟨x_213, ex_213⟩ : ∃ y : Int32, y = 5 + 1 := ⟨_, rfl⟩
  have ex_213 : x_213 = 6 := ex_213.trans (by decide)
  subst ex_213
  refine lv_iinc (v := 6) (lv' := [(3, .int 6), (4, .null), (2, .int 16), (1, .ref xq), (0, .ref xo)]) hx hb dX6_isSound_35 hl (k := 1) rfl (by decide) (by decide) rfl (fun ls hl => ?_)
  refine lv_goto (tgt := 10) hx hb dX6_isSound_38 (by decide) ?_
  refine lv_iload_n hx hb dX6_isSound_10 rfl (lv_at hl 0 rfl) ?_
  refine lv_iload_n hx hb dX6_isSound_11 rfl (lv_at hl 2 rfl) ?_
  refine lv_icmp_ge (tgt := 41) hx hb dX6_isSound_12 (by decide) (fun cc => absurd cc (by decide)) (fun _ => ?_)
  refine lv_aload_n hx hb dX6_isSound_15 rfl (lv_at hl 3 rfl) ?_
  refine lv_iload_n hx hb dX6_isSound_16 rfl (lv_at hl 0 rfl) ?_
  refine va_aldq (D := D) (cl := vwCl) hx hb hK hP 1 0 rfl rfl (vp_in_nI (n := 6) (N := 16) (by decide) (by decide)) dX6_isSound_17 ?_
  refine W.eq (g2 := F0 m 18 ls [.null]) rfl ?_
  refine lv_astoreN (lv' := [(4, .null), (3, .int 6), (2, .int 16), (1, .ref xq), (0, .ref xo)]) hx hb dX6_isSound_18 hl (by decide) rfl (fun ls hl => ?_)
  refine lv_aloadN hx hb dX6_isSound_20 (lv_at hl 0 rfl) ?_
  refine lv_ifnullN (tgt := 35) hx hb dX6_isSound_22 (by decide) ?_
  obtain ⟨x_214, ex_214⟩ : ∃ y : Int32, y = 6 + 1 := ⟨_, rfl⟩
  have ex_214 : x_214 = 7 := ex_214.trans (by decide)
  subst ex_214
  refine lv_iinc (v := 7) (lv' := [(3, .int 7), (4, .null), (2, .int 16), (1, .ref xq), (0, .ref xo)]) hx hb dX6_isSound_35 hl (k := 1) rfl (by decide) (by decide) rfl (fun ls hl => ?_)
  refine lv_goto (tgt := 10) hx hb dX6_isSound_38 (by decide) ?_
  refine lv_iload_n hx hb dX6_isSound_10 rfl (lv_at hl 0 rfl) ?_
  refine lv_iload_n hx hb dX6_isSound_11 rfl (lv_at hl 2 rfl) ?_
  refine lv_icmp_ge (tgt := 41) hx hb dX6_isSound_12 (by decide) (fun cc => absurd cc (by decide)) (fun _ => ?_)
  refine lv_aload_n hx hb dX6_isSound_15 rfl (lv_at hl 3 rfl) ?_
  refine lv_iload_n hx hb dX6_isSound_16 rfl (lv_at hl 0 rfl) ?_
  refine va_aldq (D := D) (cl := vwCl) hx hb hK hP 1 0 rfl rfl (vp_in_nI (n := 7) (N := 16) (by decide) (by decide)) dX6_isSound_17 ?_
  refine W.eq (g2 := F0 m 18 ls [.null]) rfl ?_
  refine lv_astoreN (lv' := [(4, .null), (3, .int 7), (2, .int 16), (1, .ref xq), (0, .ref xo)]) hx hb dX6_isSound_18 hl (by decide) rfl (fun ls hl => ?_)
  refine lv_aloadN hx hb dX6_isSound_20 (lv_at hl 0 rfl) ?_
  refine lv_ifnullN (tgt := 35) hx hb dX6_isSound_22 (by decide) ?_
  obtain ⟨x_215, ex_215⟩ : ∃ y : Int32, y = 7 + 1 := ⟨_, rfl⟩
  have ex_215 : x_215 = 8 := ex_215.trans (by decide)
  subst ex_215
  refine lv_iinc (v := 8) (lv' := [(3, .int 8), (4, .null), (2, .int 16), (1, .ref xq), (0, .ref xo)]) hx hb dX6_isSound_35 hl (k := 1) rfl (by decide) (by decide) rfl (fun ls hl => ?_)
  refine lv_goto (tgt := 10) hx hb dX6_isSound_38 (by decide) ?_
  refine lv_iload_n hx hb dX6_isSound_10 rfl (lv_at hl 0 rfl) ?_
  refine lv_iload_n hx hb dX6_isSound_11 rfl (lv_at hl 2 rfl) ?_
  refine lv_icmp_ge (tgt := 41) hx hb dX6_isSound_12 (by decide) (fun cc => absurd cc (by decide)) (fun _ => ?_)
  refine lv_aload_n hx hb dX6_isSound_15 rfl (lv_at hl 3 rfl) ?_
  refine lv_iload_n hx hb dX6_isSound_16 rfl (lv_at hl 0 rfl) ?_
  refine va_aldq (D := D) (cl := vwCl) hx hb hK hP 1 0 rfl rfl (vp_in_nI (n := 8) (N := 16) (by decide) (by decide)) dX6_isSound_17 ?_
  refine W.eq (g2 := F0 m 18 ls [.null]) rfl ?_
  refine lv_astoreN (lv' := [(4, .null), (3, .int 8), (2, .int 16), (1, .ref xq), (0, .ref xo)]) hx hb dX6_isSound_18 hl (by decide) rfl (fun ls hl => ?_)
  refine lv_aloadN hx hb dX6_isSound_20 (lv_at hl 0 rfl) ?_
  refine lv_ifnullN (tgt := 35) hx hb dX6_isSound_22 (by decide) ?_
  obtain ⟨x_216, ex_216⟩ : ∃ y : Int32, y = 8 + 1 := ⟨_, rfl⟩
  have ex_216 : x_216 = 9 := ex_216.trans (by decide)
  subst ex_216
  refine lv_iinc (v := 9) (lv' := [(3, .int 9), (4, .null), (2, .int 16), (1, .ref xq), (0, .ref xo)]) hx hb dX6_isSound_35 hl (k := 1) rfl (by decide) (by decide) rfl (fun ls hl => ?_)
  refine lv_goto (tgt := 10) hx hb dX6_isSound_38 (by decide) ?_
  refine lv_iload_n hx hb dX6_isSound_10 rfl (lv_at hl 0 rfl) ?_
  refine lv_iload_n hx hb dX6_isSound_11 rfl (lv_at hl 2 rfl) ?_
  refine lv_icmp_ge (tgt := 41) hx hb dX6_isSound_12 (by decide) (fun cc => absurd cc (by decide)) (fun _ => ?_)
  refine lv_aload_n hx hb dX6_isSound_15 rfl (lv_at hl 3 rfl) ?_
  refine lv_iload_n hx hb dX6_isSound_16 rfl (lv_at hl 0 rfl) ?_
  refine va_aldq (D := D) (cl := vwCl) hx hb hK hP 1 0 rfl rfl (vp_in_nI (n := 9) (N := 16) (by decide) (by decide)) dX6_isSound_17 ?_
  refine W.eq (g2 := F0 m 18 ls [.null]) rfl ?_
  refine lv_astoreN (lv' := [(4, .null), (3, .int 9), (2, .int 16), (1, .ref xq), (0, .ref xo)]) hx hb dX6_isSound_18 hl (by decide) rfl (fun ls hl => ?_)
  refine lv_aloadN hx hb dX6_isSound_20 (lv_at hl 0 rfl) ?_
  refine lv_ifnullN (tgt := 35) hx hb dX6_isSound_22 (by decide) ?_
  obtain ⟨x_217, ex_217⟩ : ∃ y : Int32, y = 9 + 1 := ⟨_, rfl⟩
  have ex_217 : x_217 = 10 := ex_217.trans (by decide)
  subst ex_217
  refine lv_iinc (v := 10) (lv' := [(3, .int 10), (4, .null), (2, .int 16), (1, .ref xq), (0, .ref xo)]) hx hb dX6_isSound_35 hl (k := 1) rfl (by decide) (by decide) rfl (fun ls hl => ?_)
  refine lv_goto (tgt := 10) hx hb dX6_isSound_38 (by decide) ?_
  refine lv_iload_n hx hb dX6_isSound_10 rfl (lv_at hl 0 rfl) ?_
  refine lv_iload_n hx hb dX6_isSound_11 rfl (lv_at hl 2 rfl) ?_
  refine lv_icmp_ge (tgt := 41) hx hb dX6_isSound_12 (by decide) (fun cc => absurd cc (by decide)) (fun _ => ?_)
  refine lv_aload_n hx hb dX6_isSound_15 rfl (lv_at hl 3 rfl) ?_
  refine lv_iload_n hx hb dX6_isSound_16 rfl (lv_at hl 0 rfl) ?_
  refine va_aldq (D := D) (cl := vwCl) hx hb hK hP 1 0 rfl rfl (vp_in_nI (n := 10) (N := 16) (by decide) (by decide)) dX6_isSound_17 ?_
  refine W.eq (g2 := F0 m 18 ls [.null]) rfl ?_
  refine lv_astoreN (lv' := [(4, .null), (3, .int 10), (2, .int 16), (1, .ref xq), (0, .ref xo)]) hx hb dX6_isSound_18 hl (by decide) rfl (fun ls hl => ?_)
  refine lv_aloadN hx hb dX6_isSound_20 (lv_at hl 0 rfl) ?_
  refine lv_ifnullN (tgt := 35) hx hb dX6_isSound_22 (by decide) ?_
  obtain ⟨x_218, ex_218⟩ : ∃ y : Int32, y = 10 + 1 := ⟨_, rfl⟩
  have ex_218 : x_218 = 11 := ex_218.trans (by decide)
  subst ex_218
  refine lv_iinc (v := 11) (lv' := [(3, .int 11), (4, .null), (2, .int 16), (1, .ref xq), (0, .ref xo)]) hx hb dX6_isSound_35 hl (k := 1) rfl (by decide) (by decide) rfl (fun ls hl => ?_)
  refine lv_goto (tgt := 10) hx hb dX6_isSound_38 (by decide) ?_
  refine lv_iload_n hx hb dX6_isSound_10 rfl (lv_at hl 0 rfl) ?_
  refine lv_iload_n hx hb dX6_isSound_11 rfl (lv_at hl 2 rfl) ?_
  refine lv_icmp_ge (tgt := 41) hx hb dX6_isSound_12 (by decide) (fun cc => absurd cc (by decide)) (fun _ => ?_)
  refine lv_aload_n hx hb dX6_isSound_15 rfl (lv_at hl 3 rfl) ?_
  refine lv_iload_n hx hb dX6_isSound_16 rfl (lv_at hl 0 rfl) ?_
  refine va_aldq (D := D) (cl := vwCl) hx hb hK hP 1 0 rfl rfl (vp_in_nI (n := 11) (N := 16) (by decide) (by decide)) dX6_isSound_17 ?_
  refine W.eq (g2 := F0 m 18 ls [.null]) rfl ?_
  refine lv_astoreN (lv' := [(4, .null), (3, .int 11), (2, .int 16), (1, .ref xq), (0, .ref xo)]) hx hb dX6_isSound_18 hl (by decide) rfl (fun ls hl => ?_)
  refine lv_aloadN hx hb dX6_isSound_20 (lv_at hl 0 rfl) ?_
  refine lv_ifnullN (tgt := 35) hx hb dX6_isSound_22 (by decide) ?_
  obtain ⟨x_219, ex_219⟩ : ∃ y : Int32, y = 11 + 1 := ⟨_, rfl⟩
  have ex_219 : x_219 = 12 := ex_219.trans (by decide)
  subst ex_219
  refine lv_iinc (v := 12) (lv' := [(3, .int 12), (4, .null), (2, .int 16), (1, .ref xq), (0, .ref xo)]) hx hb dX6_isSound_35 hl (k := 1) rfl (by decide) (by decide) rfl (fun ls hl => ?_)
  refine lv_goto (tgt := 10) hx hb dX6_isSound_38 (by decide) ?_
  refine lv_iload_n hx hb dX6_isSound_10 rfl (lv_at hl 0 rfl) ?_
  refine lv_iload_n hx hb dX6_isSound_11 rfl (lv_at hl 2 rfl) ?_
  refine lv_icmp_ge (tgt := 41) hx hb dX6_isSound_12 (by decide) (fun cc => absurd cc (by decide)) (fun _ => ?_)
  refine lv_aload_n hx hb dX6_isSound_15 rfl (lv_at hl 3 rfl) ?_
  refine lv_iload_n hx hb dX6_isSound_16 rfl (lv_at hl 0 rfl) ?_
  refine va_aldq (D := D) (cl := vwCl) hx hb hK hP 1 0 rfl rfl (vp_in_nI (n := 12) (N := 16) (by decide) (by decide)) dX6_isSound_17 ?_
  refine W.eq (g2 := F0 m 18 ls [.null]) rfl ?_
  refine lv_astoreN (lv' := [(4, .null), (3, .int 12), (2, .int 16), (1, .ref xq), (0, .ref xo)]) hx hb dX6_isSound_18 hl (by decide) rfl (fun ls hl => ?_)
  refine lv_aloadN hx hb dX6_isSound_20 (lv_at hl 0 rfl) ?_
  refine lv_ifnullN (tgt := 35) hx hb dX6_isSound_22 (by decide) ?_
  obtain ⟨x_220, ex_220⟩ : ∃ y : Int32, y = 12 + 1 := ⟨_, rfl⟩
  have ex_220 : x_220 = 13 := ex_220.trans (by decide)
  subst ex_220
  refine lv_iinc (v := 13) (lv' := [(3, .int 13), (4, .null), (2, .int 16), (1, .ref xq), (0, .ref xo)]) hx hb dX6_isSound_35 hl (k := 1) rfl (by decide) (by decide) rfl (fun ls hl => ?_)
  refine lv_goto (tgt := 10) hx hb dX6_isSound_38 (by decide) ?_
  refine lv_iload_n hx hb dX6_isSound_10 rfl (lv_at hl 0 rfl) ?_
  refine lv_iload_n hx hb dX6_isSound_11 rfl (lv_at hl 2 rfl) ?_
  refine lv_icmp_ge (tgt := 41) hx hb dX6_isSound_12 (by decide) (fun cc => absurd cc (by decide)) (fun _ => ?_)
  refine lv_aload_n hx hb dX6_isSound_15 rfl (lv_at hl 3 rfl) ?_
  refine lv_iload_n hx hb dX6_isSound_16 rfl (lv_at hl 0 rfl) ?_
  refine va_aldq (D := D) (cl := vwCl) hx hb hK hP 1 0 rfl rfl (vp_in_nI (n := 13) (N := 16) (by decide) (by decide)) dX6_isSound_17 ?_
  refine W.eq (g2 := F0 m 18 ls [.null]) rfl ?_
  refine lv_astoreN (lv' := [(4, .null), (3, .int 13), (2, .int 16), (1, .ref xq), (0, .ref xo)]) hx hb dX6_isSound_18 hl (by decide) rfl (fun ls hl => ?_)
  refine lv_aloadN hx hb dX6_isSound_20 (lv_at hl 0 rfl) ?_
  refine lv_ifnullN (tgt := 35) hx hb dX6_isSound_22 (by decide) ?_
  obtain ⟨x_221, ex_221⟩ : ∃ y : Int32, y = 13 + 1 := ⟨_, rfl⟩
  have ex_221 : x_221 = 14 := ex_221.trans (by decide)
  subst ex_221
  refine lv_iinc (v := 14) (lv' := [(3, .int 14), (4, .null), (2, .int 16), (1, .ref xq), (0, .ref xo)]) hx hb dX6_isSound_35 hl (k := 1) rfl (by decide) (by decide) rfl (fun ls hl => ?_)
  refine lv_goto (tgt := 10) hx hb dX6_isSound_38 (by decide) ?_
  refine lv_iload_n hx hb dX6_isSound_10 rfl (lv_at hl 0 rfl) ?_
  refine lv_iload_n hx hb dX6_isSound_11 rfl (lv_at hl 2 rfl) ?_
  refine lv_icmp_ge (tgt := 41) hx hb dX6_isSound_12 (by decide) (fun cc => absurd cc (by decide)) (fun _ => ?_)
  refine lv_aload_n hx hb dX6_isSound_15 rfl (lv_at hl 3 rfl) ?_
  refine lv_iload_n hx hb dX6_isSound_16 rfl (lv_at hl 0 rfl) ?_
  refine va_aldq (D := D) (cl := vwCl) hx hb hK hP 1 0 rfl rfl (vp_in_nI (n := 14) (N := 16) (by decide) (by decide)) dX6_isSound_17 ?_
  refine W.eq (g2 := F0 m 18 ls [.null]) rfl ?_
  refine lv_astoreN (lv' := [(4, .null), (3, .int 14), (2, .int 16), (1, .ref xq), (0, .ref xo)]) hx hb dX6_isSound_18 hl (by decide) rfl (fun ls hl => ?_)
  refine lv_aloadN hx hb dX6_isSound_20 (lv_at hl 0 rfl) ?_
  refine lv_ifnullN (tgt := 35) hx hb dX6_isSound_22 (by decide) ?_
  obtain ⟨x_222, ex_222⟩ : ∃ y : Int32, y = 14 + 1 := ⟨_, rfl⟩
  have ex_222 : x_222 = 15 := ex_222.trans (by decide)
  subst ex_222
  refine lv_iinc (v := 15) (lv' := [(3, .int 15), (4, .null), (2, .int 16), (1, .ref xq), (0, .ref xo)]) hx hb dX6_isSound_35 hl (k := 1) rfl (by decide) (by decide) rfl (fun ls hl => ?_)
  refine lv_goto (tgt := 10) hx hb dX6_isSound_38 (by decide) ?_
  refine lv_iload_n hx hb dX6_isSound_10 rfl (lv_at hl 0 rfl) ?_
  refine lv_iload_n hx hb dX6_isSound_11 rfl (lv_at hl 2 rfl) ?_
  refine lv_icmp_ge (tgt := 41) hx hb dX6_isSound_12 (by decide) (fun cc => absurd cc (by decide)) (fun _ => ?_)
  refine lv_aload_n hx hb dX6_isSound_15 rfl (lv_at hl 3 rfl) ?_
  refine lv_iload_n hx hb dX6_isSound_16 rfl (lv_at hl 0 rfl) ?_
  refine va_aldq (D := D) (cl := vwCl) hx hb hK hP 1 0 rfl rfl (vp_in_nI (n := 15) (N := 16) (by decide) (by decide)) dX6_isSound_17 ?_
  refine W.eq (g2 := F0 m 18 ls [.null]) rfl ?_
  refine lv_astoreN (lv' := [(4, .null), (3, .int 15), (2, .int 16), (1, .ref xq), (0, .ref xo)]) hx hb dX6_isSound_18 hl (by decide) rfl (fun ls hl => ?_)
  refine lv_aloadN hx hb dX6_isSound_20 (lv_at hl 0 rfl) ?_
  refine lv_ifnullN (tgt := 35) hx hb dX6_isSound_22 (by decide) ?_
  obtain ⟨x_223, ex_223⟩ : ∃ y : Int32, y = 15 + 1 := ⟨_, rfl⟩
  have ex_223 : x_223 = 16 := ex_223.trans (by decide)
  subst ex_223
  refine lv_iinc (v := 16) (lv' := [(3, .int 16), (4, .null), (2, .int 16), (1, .ref xq), (0, .ref xo)]) hx hb dX6_isSound_35 hl (k := 1) rfl (by decide) (by decide) rfl (fun ls hl => ?_)
  refine lv_goto (tgt := 10) hx hb dX6_isSound_38 (by decide) ?_
  refine lv_iload_n hx hb dX6_isSound_10 rfl (lv_at hl 0 rfl) ?_
  refine lv_iload_n hx hb dX6_isSound_11 rfl (lv_at hl 2 rfl) ?_
  refine lv_icmp_ge (tgt := 41) hx hb dX6_isSound_12 (by decide) (fun _ => ?_) (fun cc => absurd (by decide) cc)
  refine lv_aload_n hx hb dX6_isSound_41 rfl (lv_at hl 4 rfl) ?_
  refine lv_bipush (v := 108) hx hb dX6_isSound_42 (by decide) ?_
  refine vp_callSi (va_runV (As := [.int 108]) (rest := []) ⟨hx, hb, hml, hown, hts⟩ (zc_X6_countOf l D G xo xg xp xq r1 r2 r3 r4 se ts hq cq 108) (cwV 1 hts gzX6_isSound_X6_countOf_274 rfl rfl rfl (by decide +kernel) ⟨(Nat.le_of_ble_eq_true rfl), (Nat.le_of_ble_eq_true rfl)⟩) ⟨p_RO_blind, va_recv hK hP (ci := 11) (q0 := 0) rfl rfl, (p_RO_at (tc := [(cq, .object "Gatherhouse$Piece")]) (wc := [(xo, .inr (11, [.ref xg, .int 0, .ref xp, .int 0, .ref xq, .int 0, .ref r1, .ref r2, .ref r3, .ref r4, .ref se, .int ts, .int hq, .int 40, .int 0, .int 0])), (xq, .inl (cq, 16, .inr (.inr (.inr (.inr (fun _ => none))))))]) hP hK hT [0, 1] [0] rfl rfl [.ref xo, .int 108])⟩ rfl rfl hl.1 rfl (lv_room (Nat.le_of_ble_eq_true rfl)) dX6_isSound_44 ⟨(Nat.le_of_ble_eq_true rfl), (Nat.le_of_ble_eq_true rfl)⟩).run (fun r_224 w_225 => ?_)
  obtain rfl := w_225
  refine lv_bipush (v := 6) hx hb dX6_isSound_47 (by decide) ?_
  refine lv_icmp_gt (tgt := 56) hx hb dX6_isSound_49 (by decide) (fun cc => absurd cc (by decide)) (fun _ => ?_)
  refine lv_iconst (v := 1) hx hb dX6_isSound_52 (by decide) ?_
  refine lv_goto (tgt := 57) hx hb dX6_isSound_53 (by decide) ?_
  exact W.zret (v := 1) hx hb hr rfl (fun t ht hW => ⟨1, rfl, rfl, ht⟩) (fun q h => by cases h) dX6_isSound_57
theorem dX6_checksum_0 : decode cX6_checksum 0 = .ok (.ldc2_w 354, 3) := by decide +kernel
theorem dX6_checksum_3 : decode cX6_checksum 3 = .ok (.lstore_n 1, 1) := by decide +kernel
theorem dX6_checksum_4 : decode cX6_checksum 4 = .ok (.aload_n 0, 1) := by decide +kernel
theorem dX6_checksum_5 : decode cX6_checksum 5 = .ok (.getfield 30, 3) := by decide +kernel
theorem dX6_checksum_8 : decode cX6_checksum 8 = .ok (.astore_n 3, 1) := by decide +kernel
theorem dX6_checksum_9 : decode cX6_checksum 9 = .ok (.aload_n 3, 1) := by decide +kernel
theorem dX6_checksum_10 : decode cX6_checksum 10 = .ok (.arraylength, 1) := by decide +kernel
theorem dX6_checksum_11 : decode cX6_checksum 11 = .ok (.istore 4, 2) := by decide +kernel
theorem dX6_checksum_13 : decode cX6_checksum 13 = .ok (.iconst 0, 1) := by decide +kernel
theorem dX6_checksum_14 : decode cX6_checksum 14 = .ok (.istore 5, 2) := by decide +kernel
theorem dX6_checksum_16 : decode cX6_checksum 16 = .ok (.iload 5, 2) := by decide +kernel
theorem dX6_checksum_18 : decode cX6_checksum 18 = .ok (.iload 4, 2) := by decide +kernel
theorem dX6_checksum_20 : decode cX6_checksum 20 = .ok (.if_icmp .ge 59, 3) := by decide +kernel
theorem dX6_checksum_23 : decode cX6_checksum 23 = .ok (.aload_n 3, 1) := by decide +kernel
theorem dX6_checksum_24 : decode cX6_checksum 24 = .ok (.iload 5, 2) := by decide +kernel
theorem dX6_checksum_26 : decode cX6_checksum 26 = .ok (.aaload, 1) := by decide +kernel
theorem dX6_checksum_27 : decode cX6_checksum 27 = .ok (.astore 6, 2) := by decide +kernel
theorem dX6_checksum_29 : decode cX6_checksum 29 = .ok (.aload 6, 2) := by decide +kernel
theorem dX6_checksum_31 : decode cX6_checksum 31 = .ok (.ifnull 42, 3) := by decide +kernel
theorem dX6_checksum_73 : decode cX6_checksum 73 = .ok (.iinc 5 1, 3) := by decide +kernel
theorem dX6_checksum_76 : decode cX6_checksum 76 = .ok (.goto (-60), 3) := by decide +kernel
theorem dX6_checksum_79 : decode cX6_checksum 79 = .ok (.lload_n 1, 1) := by decide +kernel
theorem dX6_checksum_80 : decode cX6_checksum 80 = .ok (.lreturn, 1) := by decide +kernel
def wzEX6_checksum : List Cond := [.code yX6_checksum cX6_checksum 7 (some .long), .constantLong RX6 354 (7), .fieldLink RX6 30 "Gatherhouse" "pieces" "[LGatherhouse$Piece;"]
def wzX6_checksum : List Cond := wzEX6_checksum ++ (u_ws RX6 TX6 16)
theorem zgEX6_checksum : wzEX6_checksum.all goodWord = true := by decide +kernel
theorem zuX6_checksum_X6 : ∀ w ∈ u_ws RX6 TX6 16, w ∈ wzX6_checksum := (fun _ h => (List.mem_append_right _ h))
set_option maxHeartbeats 4000000 in
set_option maxRecDepth 100000 in
theorem zc_X6_checksum (l : Launch) (D : va_G) (G : Nat × Nat × Nat) (xo : Nat) (xg : Nat) (xp : Nat) (xq : Nat) (r1 : Nat) (r2 : Nat) (r3 : Nat) (r4 : Nat) (se : Nat) (ts : Int32) (hq : Int32) (cq : ClassId) : Met l yX6_checksum wzX6_checksum ({ frames := 0, cells := 0, slots := 0, locals := 0 }) (va_Pc [.ref xo] (p_RO D G [(cq, .object "Gatherhouse$Piece")] [(xo, .inr (11, [.ref xg, .int 0, .ref xp, .int 0, .ref xq, .int 0, .ref r1, .ref r2, .ref r3, .ref r4, .ref se, .int ts, .int hq, .int 40, .int 0, .int 0])), (xq, .inl (cq, 16, .inr (.inr (.inr (.inr (fun _ => none))))))])) (vp_Sl (fun r => r = 7)) 0 0 (fun _ => False) := by
  refine Met.ofW (cc := cX6_checksum) (maxL := 7) (ret := (some .long)) (by decide) rfl ?_
  intro p e s m args below meth c s₁ B hml hv
  obtain ⟨rfl, hP, hK, hT⟩ := hv
  have hx := B.exec
  have hb := B.bytes
  have hr := B.returns
  have hts := atoms_spec (ws := wzX6_checksum) B.pre
  have hown : s.vm.findClass RX6 = some m.cls := findClass_of_methodNamed B.named
  have hlocks := B.notSynchronized
  have hl := lv_entry ([.ref xo]) (n := 7) (Nat.le_of_ble_eq_true rfl)
  rw [lg_entry_eq]
  generalize (lg_sl ([.ref xo]) ++ List.replicate (7 - (lg_sl ([.ref xo])).length) Slot.unset).toArray = ls at hl ⊢
  have hl : lv_has ls 7 [(0, .ref xo)] := hl
  refine lv_ldc2 (v := 7) hx hb hown (hts (.constantLong RX6 354 (7)) (by decide +kernel)) dX6_checksum_0 ?_
  refine lv_lstore_n (lv' := [(1, .long 7), (0, .ref xo)]) hx hb dX6_checksum_3 rfl hl (by decide) rfl (fun ls hl => ?_)
  refine lv_aload_n hx hb dX6_checksum_4 rfl (lv_at hl 1 rfl) ?_
  refine va_get (D := D) (cl := vwCl) (ci := 11) (v := .ref xq) (C := RX6) (T := TX6) (N := 16) hx hb hts zuX6_checksum_X6 hown hK hP 0 rfl rfl 4 (by decide) (hts (.fieldLink RX6 30 "Gatherhouse" "pieces" "[LGatherhouse$Piece;") (by decide +kernel)) (fun _ h9 => h9) rfl dX6_checksum_5 ?_
  refine lv_astore_n (lv' := [(3, .ref xq), (1, .long 7), (0, .ref xo)]) hx hb dX6_checksum_8 rfl hl (by decide) rfl (fun ls hl => ?_)
  refine lv_aload_n hx hb dX6_checksum_9 rfl (lv_at hl 0 rfl) ?_
  refine va_alen (D := D) (cl := vwCl) (v := 16) hx hb hK hP 1 0 rfl rfl (by decide) dX6_checksum_10 ?_
  refine lv_istore (lv' := [(4, .int 16), (3, .ref xq), (1, .long 7), (0, .ref xo)]) hx hb dX6_checksum_11 hl (by decide) rfl (fun ls hl => ?_)
  refine lv_iconst (v := 0) hx hb dX6_checksum_13 (by decide) ?_
  refine lv_istore (lv' := [(5, .int 0), (4, .int 16), (3, .ref xq), (1, .long 7), (0, .ref xo)]) hx hb dX6_checksum_14 hl (by decide) rfl (fun ls hl => ?_)
  refine lv_iload hx hb dX6_checksum_16 (lv_at hl 0 rfl) ?_
  refine lv_iload hx hb dX6_checksum_18 (lv_at hl 1 rfl) ?_
  refine lv_icmp_ge (tgt := 79) hx hb dX6_checksum_20 (by decide) (fun cc => absurd cc (by decide)) (fun _ => ?_)
  refine lv_aload_n hx hb dX6_checksum_23 rfl (lv_at hl 2 rfl) ?_
  refine lv_iload hx hb dX6_checksum_24 (lv_at hl 0 rfl) ?_
  refine va_aldq (D := D) (cl := vwCl) hx hb hK hP 1 0 rfl rfl (vp_in_nI (n := 0) (N := 16) (by decide) (by decide)) dX6_checksum_26 ?_
  refine W.eq (g2 := F0 m 27 ls [.null]) rfl ?_
  refine lv_astoreN (lv' := [(6, .null), (5, .int 0), (4, .int 16), (3, .ref xq), (1, .long 7), (0, .ref xo)]) hx hb dX6_checksum_27 hl (by decide) rfl (fun ls hl => ?_)
  refine lv_aloadN hx hb dX6_checksum_29 (lv_at hl 0 rfl) ?_
  refine lv_ifnullN (tgt := 73) hx hb dX6_checksum_31 (by decide) ?_
  obtain ⟨x_226, ex_226⟩ : ∃ y : Int32, y = 0 + 1 := ⟨_, rfl⟩
  have ex_226 : x_226 = 1 := ex_226.trans (by decide)
  subst ex_226
  refine lv_iinc (v := 1) (lv' := [(5, .int 1), (6, .null), (4, .int 16), (3, .ref xq), (1, .long 7), (0, .ref xo)]) hx hb dX6_checksum_73 hl (k := 1) rfl (by decide) (by decide) rfl (fun ls hl => ?_)
  refine lv_goto (tgt := 16) hx hb dX6_checksum_76 (by decide) ?_
  refine lv_iload hx hb dX6_checksum_16 (lv_at hl 0 rfl) ?_
  refine lv_iload hx hb dX6_checksum_18 (lv_at hl 2 rfl) ?_
  refine lv_icmp_ge (tgt := 79) hx hb dX6_checksum_20 (by decide) (fun cc => absurd cc (by decide)) (fun _ => ?_)
  refine lv_aload_n hx hb dX6_checksum_23 rfl (lv_at hl 3 rfl) ?_
  refine lv_iload hx hb dX6_checksum_24 (lv_at hl 0 rfl) ?_
  refine va_aldq (D := D) (cl := vwCl) hx hb hK hP 1 0 rfl rfl (vp_in_nI (n := 1) (N := 16) (by decide) (by decide)) dX6_checksum_26 ?_
  refine W.eq (g2 := F0 m 27 ls [.null]) rfl ?_
  refine lv_astoreN (lv' := [(6, .null), (5, .int 1), (4, .int 16), (3, .ref xq), (1, .long 7), (0, .ref xo)]) hx hb dX6_checksum_27 hl (by decide) rfl (fun ls hl => ?_)
  refine lv_aloadN hx hb dX6_checksum_29 (lv_at hl 0 rfl) ?_
  refine lv_ifnullN (tgt := 73) hx hb dX6_checksum_31 (by decide) ?_
  obtain ⟨x_227, ex_227⟩ : ∃ y : Int32, y = 1 + 1 := ⟨_, rfl⟩
  have ex_227 : x_227 = 2 := ex_227.trans (by decide)
  subst ex_227
  refine lv_iinc (v := 2) (lv' := [(5, .int 2), (6, .null), (4, .int 16), (3, .ref xq), (1, .long 7), (0, .ref xo)]) hx hb dX6_checksum_73 hl (k := 1) rfl (by decide) (by decide) rfl (fun ls hl => ?_)
  refine lv_goto (tgt := 16) hx hb dX6_checksum_76 (by decide) ?_
  refine lv_iload hx hb dX6_checksum_16 (lv_at hl 0 rfl) ?_
  refine lv_iload hx hb dX6_checksum_18 (lv_at hl 2 rfl) ?_
  refine lv_icmp_ge (tgt := 79) hx hb dX6_checksum_20 (by decide) (fun cc => absurd cc (by decide)) (fun _ => ?_)
  refine lv_aload_n hx hb dX6_checksum_23 rfl (lv_at hl 3 rfl) ?_
  refine lv_iload hx hb dX6_checksum_24 (lv_at hl 0 rfl) ?_
  refine va_aldq (D := D) (cl := vwCl) hx hb hK hP 1 0 rfl rfl (vp_in_nI (n := 2) (N := 16) (by decide) (by decide)) dX6_checksum_26 ?_
  refine W.eq (g2 := F0 m 27 ls [.null]) rfl ?_
  refine lv_astoreN (lv' := [(6, .null), (5, .int 2), (4, .int 16), (3, .ref xq), (1, .long 7), (0, .ref xo)]) hx hb dX6_checksum_27 hl (by decide) rfl (fun ls hl => ?_)
  refine lv_aloadN hx hb dX6_checksum_29 (lv_at hl 0 rfl) ?_
  refine lv_ifnullN (tgt := 73) hx hb dX6_checksum_31 (by decide) ?_
  obtain ⟨x_228, ex_228⟩ : ∃ y : Int32, y = 2 + 1 := ⟨_, rfl⟩
  have ex_228 : x_228 = 3 := ex_228.trans (by decide)
  subst ex_228
  refine lv_iinc (v := 3) (lv' := [(5, .int 3), (6, .null), (4, .int 16), (3, .ref xq), (1, .long 7), (0, .ref xo)]) hx hb dX6_checksum_73 hl (k := 1) rfl (by decide) (by decide) rfl (fun ls hl => ?_)
  refine lv_goto (tgt := 16) hx hb dX6_checksum_76 (by decide) ?_
  refine lv_iload hx hb dX6_checksum_16 (lv_at hl 0 rfl) ?_
  refine lv_iload hx hb dX6_checksum_18 (lv_at hl 2 rfl) ?_
  refine lv_icmp_ge (tgt := 79) hx hb dX6_checksum_20 (by decide) (fun cc => absurd cc (by decide)) (fun _ => ?_)
  refine lv_aload_n hx hb dX6_checksum_23 rfl (lv_at hl 3 rfl) ?_
  refine lv_iload hx hb dX6_checksum_24 (lv_at hl 0 rfl) ?_
  refine va_aldq (D := D) (cl := vwCl) hx hb hK hP 1 0 rfl rfl (vp_in_nI (n := 3) (N := 16) (by decide) (by decide)) dX6_checksum_26 ?_
  refine W.eq (g2 := F0 m 27 ls [.null]) rfl ?_
  refine lv_astoreN (lv' := [(6, .null), (5, .int 3), (4, .int 16), (3, .ref xq), (1, .long 7), (0, .ref xo)]) hx hb dX6_checksum_27 hl (by decide) rfl (fun ls hl => ?_)
  refine lv_aloadN hx hb dX6_checksum_29 (lv_at hl 0 rfl) ?_
  refine lv_ifnullN (tgt := 73) hx hb dX6_checksum_31 (by decide) ?_
  obtain ⟨x_229, ex_229⟩ : ∃ y : Int32, y = 3 + 1 := ⟨_, rfl⟩
  have ex_229 : x_229 = 4 := ex_229.trans (by decide)
  subst ex_229
  refine lv_iinc (v := 4) (lv' := [(5, .int 4), (6, .null), (4, .int 16), (3, .ref xq), (1, .long 7), (0, .ref xo)]) hx hb dX6_checksum_73 hl (k := 1) rfl (by decide) (by decide) rfl (fun ls hl => ?_)
  refine lv_goto (tgt := 16) hx hb dX6_checksum_76 (by decide) ?_
  refine lv_iload hx hb dX6_checksum_16 (lv_at hl 0 rfl) ?_
  refine lv_iload hx hb dX6_checksum_18 (lv_at hl 2 rfl) ?_
  refine lv_icmp_ge (tgt := 79) hx hb dX6_checksum_20 (by decide) (fun cc => absurd cc (by decide)) (fun _ => ?_)
  refine lv_aload_n hx hb dX6_checksum_23 rfl (lv_at hl 3 rfl) ?_
  refine lv_iload hx hb dX6_checksum_24 (lv_at hl 0 rfl) ?_
  refine va_aldq (D := D) (cl := vwCl) hx hb hK hP 1 0 rfl rfl (vp_in_nI (n := 4) (N := 16) (by decide) (by decide)) dX6_checksum_26 ?_
  refine W.eq (g2 := F0 m 27 ls [.null]) rfl ?_
  refine lv_astoreN (lv' := [(6, .null), (5, .int 4), (4, .int 16), (3, .ref xq), (1, .long 7), (0, .ref xo)]) hx hb dX6_checksum_27 hl (by decide) rfl (fun ls hl => ?_)
  refine lv_aloadN hx hb dX6_checksum_29 (lv_at hl 0 rfl) ?_
  refine lv_ifnullN (tgt := 73) hx hb dX6_checksum_31 (by decide) ?_
  obtain ⟨x_230, ex_230⟩ : ∃ y : Int32, y = 4 + 1 := ⟨_, rfl⟩
  have ex_230 : x_230 = 5 := ex_230.trans (by decide)
  subst ex_230
  refine lv_iinc (v := 5) (lv' := [(5, .int 5), (6, .null), (4, .int 16), (3, .ref xq), (1, .long 7), (0, .ref xo)]) hx hb dX6_checksum_73 hl (k := 1) rfl (by decide) (by decide) rfl (fun ls hl => ?_)
  refine lv_goto (tgt := 16) hx hb dX6_checksum_76 (by decide) ?_
  refine lv_iload hx hb dX6_checksum_16 (lv_at hl 0 rfl) ?_
  refine lv_iload hx hb dX6_checksum_18 (lv_at hl 2 rfl) ?_
  refine lv_icmp_ge (tgt := 79) hx hb dX6_checksum_20 (by decide) (fun cc => absurd cc (by decide)) (fun _ => ?_)
  refine lv_aload_n hx hb dX6_checksum_23 rfl (lv_at hl 3 rfl) ?_
  refine lv_iload hx hb dX6_checksum_24 (lv_at hl 0 rfl) ?_
  refine va_aldq (D := D) (cl := vwCl) hx hb hK hP 1 0 rfl rfl (vp_in_nI (n := 5) (N := 16) (by decide) (by decide)) dX6_checksum_26 ?_
  refine W.eq (g2 := F0 m 27 ls [.null]) rfl ?_
  refine lv_astoreN (lv' := [(6, .null), (5, .int 5), (4, .int 16), (3, .ref xq), (1, .long 7), (0, .ref xo)]) hx hb dX6_checksum_27 hl (by decide) rfl (fun ls hl => ?_)
  refine lv_aloadN hx hb dX6_checksum_29 (lv_at hl 0 rfl) ?_
  refine lv_ifnullN (tgt := 73) hx hb dX6_checksum_31 (by decide) ?_
  obtain ⟨x_231, ex_231⟩ : ∃ y : Int32, y = 5 + 1 := ⟨_, rfl⟩
  have ex_231 : x_231 = 6 := ex_231.trans (by decide)
  subst ex_231
  refine lv_iinc (v := 6) (lv' := [(5, .int 6), (6, .null), (4, .int 16), (3, .ref xq), (1, .long 7), (0, .ref xo)]) hx hb dX6_checksum_73 hl (k := 1) rfl (by decide) (by decide) rfl (fun ls hl => ?_)
  refine lv_goto (tgt := 16) hx hb dX6_checksum_76 (by decide) ?_
  refine lv_iload hx hb dX6_checksum_16 (lv_at hl 0 rfl) ?_
  refine lv_iload hx hb dX6_checksum_18 (lv_at hl 2 rfl) ?_
  refine lv_icmp_ge (tgt := 79) hx hb dX6_checksum_20 (by decide) (fun cc => absurd cc (by decide)) (fun _ => ?_)
  refine lv_aload_n hx hb dX6_checksum_23 rfl (lv_at hl 3 rfl) ?_
  refine lv_iload hx hb dX6_checksum_24 (lv_at hl 0 rfl) ?_
  refine va_aldq (D := D) (cl := vwCl) hx hb hK hP 1 0 rfl rfl (vp_in_nI (n := 6) (N := 16) (by decide) (by decide)) dX6_checksum_26 ?_
  refine W.eq (g2 := F0 m 27 ls [.null]) rfl ?_
  refine lv_astoreN (lv' := [(6, .null), (5, .int 6), (4, .int 16), (3, .ref xq), (1, .long 7), (0, .ref xo)]) hx hb dX6_checksum_27 hl (by decide) rfl (fun ls hl => ?_)
  refine lv_aloadN hx hb dX6_checksum_29 (lv_at hl 0 rfl) ?_
  refine lv_ifnullN (tgt := 73) hx hb dX6_checksum_31 (by decide) ?_
  obtain ⟨x_232, ex_232⟩ : ∃ y : Int32, y = 6 + 1 := ⟨_, rfl⟩
  have ex_232 : x_232 = 7 := ex_232.trans (by decide)
  subst ex_232
  refine lv_iinc (v := 7) (lv' := [(5, .int 7), (6, .null), (4, .int 16), (3, .ref xq), (1, .long 7), (0, .ref xo)]) hx hb dX6_checksum_73 hl (k := 1) rfl (by decide) (by decide) rfl (fun ls hl => ?_)
  refine lv_goto (tgt := 16) hx hb dX6_checksum_76 (by decide) ?_
  refine lv_iload hx hb dX6_checksum_16 (lv_at hl 0 rfl) ?_
  refine lv_iload hx hb dX6_checksum_18 (lv_at hl 2 rfl) ?_
  refine lv_icmp_ge (tgt := 79) hx hb dX6_checksum_20 (by decide) (fun cc => absurd cc (by decide)) (fun _ => ?_)
  refine lv_aload_n hx hb dX6_checksum_23 rfl (lv_at hl 3 rfl) ?_
  refine lv_iload hx hb dX6_checksum_24 (lv_at hl 0 rfl) ?_
  refine va_aldq (D := D) (cl := vwCl) hx hb hK hP 1 0 rfl rfl (vp_in_nI (n := 7) (N := 16) (by decide) (by decide)) dX6_checksum_26 ?_
  refine W.eq (g2 := F0 m 27 ls [.null]) rfl ?_
  refine lv_astoreN (lv' := [(6, .null), (5, .int 7), (4, .int 16), (3, .ref xq), (1, .long 7), (0, .ref xo)]) hx hb dX6_checksum_27 hl (by decide) rfl (fun ls hl => ?_)
  refine lv_aloadN hx hb dX6_checksum_29 (lv_at hl 0 rfl) ?_
  refine lv_ifnullN (tgt := 73) hx hb dX6_checksum_31 (by decide) ?_
  obtain ⟨x_233, ex_233⟩ : ∃ y : Int32, y = 7 + 1 := ⟨_, rfl⟩
  have ex_233 : x_233 = 8 := ex_233.trans (by decide)
  subst ex_233
  refine lv_iinc (v := 8) (lv' := [(5, .int 8), (6, .null), (4, .int 16), (3, .ref xq), (1, .long 7), (0, .ref xo)]) hx hb dX6_checksum_73 hl (k := 1) rfl (by decide) (by decide) rfl (fun ls hl => ?_)
  refine lv_goto (tgt := 16) hx hb dX6_checksum_76 (by decide) ?_
  refine lv_iload hx hb dX6_checksum_16 (lv_at hl 0 rfl) ?_
  refine lv_iload hx hb dX6_checksum_18 (lv_at hl 2 rfl) ?_
  refine lv_icmp_ge (tgt := 79) hx hb dX6_checksum_20 (by decide) (fun cc => absurd cc (by decide)) (fun _ => ?_)
  refine lv_aload_n hx hb dX6_checksum_23 rfl (lv_at hl 3 rfl) ?_
  refine lv_iload hx hb dX6_checksum_24 (lv_at hl 0 rfl) ?_
  refine va_aldq (D := D) (cl := vwCl) hx hb hK hP 1 0 rfl rfl (vp_in_nI (n := 8) (N := 16) (by decide) (by decide)) dX6_checksum_26 ?_
  refine W.eq (g2 := F0 m 27 ls [.null]) rfl ?_
  refine lv_astoreN (lv' := [(6, .null), (5, .int 8), (4, .int 16), (3, .ref xq), (1, .long 7), (0, .ref xo)]) hx hb dX6_checksum_27 hl (by decide) rfl (fun ls hl => ?_)
  refine lv_aloadN hx hb dX6_checksum_29 (lv_at hl 0 rfl) ?_
  refine lv_ifnullN (tgt := 73) hx hb dX6_checksum_31 (by decide) ?_
  obtain ⟨x_234, ex_234⟩ : ∃ y : Int32, y = 8 + 1 := ⟨_, rfl⟩
  have ex_234 : x_234 = 9 := ex_234.trans (by decide)
  subst ex_234
  refine lv_iinc (v := 9) (lv' := [(5, .int 9), (6, .null), (4, .int 16), (3, .ref xq), (1, .long 7), (0, .ref xo)]) hx hb dX6_checksum_73 hl (k := 1) rfl (by decide) (by decide) rfl (fun ls hl => ?_)
  refine lv_goto (tgt := 16) hx hb dX6_checksum_76 (by decide) ?_
  refine lv_iload hx hb dX6_checksum_16 (lv_at hl 0 rfl) ?_
  refine lv_iload hx hb dX6_checksum_18 (lv_at hl 2 rfl) ?_
  refine lv_icmp_ge (tgt := 79) hx hb dX6_checksum_20 (by decide) (fun cc => absurd cc (by decide)) (fun _ => ?_)
  refine lv_aload_n hx hb dX6_checksum_23 rfl (lv_at hl 3 rfl) ?_
  refine lv_iload hx hb dX6_checksum_24 (lv_at hl 0 rfl) ?_
  refine va_aldq (D := D) (cl := vwCl) hx hb hK hP 1 0 rfl rfl (vp_in_nI (n := 9) (N := 16) (by decide) (by decide)) dX6_checksum_26 ?_
  refine W.eq (g2 := F0 m 27 ls [.null]) rfl ?_
  refine lv_astoreN (lv' := [(6, .null), (5, .int 9), (4, .int 16), (3, .ref xq), (1, .long 7), (0, .ref xo)]) hx hb dX6_checksum_27 hl (by decide) rfl (fun ls hl => ?_)
  refine lv_aloadN hx hb dX6_checksum_29 (lv_at hl 0 rfl) ?_
  refine lv_ifnullN (tgt := 73) hx hb dX6_checksum_31 (by decide) ?_
  obtain ⟨x_235, ex_235⟩ : ∃ y : Int32, y = 9 + 1 := ⟨_, rfl⟩
  have ex_235 : x_235 = 10 := ex_235.trans (by decide)
  subst ex_235
  refine lv_iinc (v := 10) (lv' := [(5, .int 10), (6, .null), (4, .int 16), (3, .ref xq), (1, .long 7), (0, .ref xo)]) hx hb dX6_checksum_73 hl (k := 1) rfl (by decide) (by decide) rfl (fun ls hl => ?_)
  refine lv_goto (tgt := 16) hx hb dX6_checksum_76 (by decide) ?_
  refine lv_iload hx hb dX6_checksum_16 (lv_at hl 0 rfl) ?_
  refine lv_iload hx hb dX6_checksum_18 (lv_at hl 2 rfl) ?_
  refine lv_icmp_ge (tgt := 79) hx hb dX6_checksum_20 (by decide) (fun cc => absurd cc (by decide)) (fun _ => ?_)
  refine lv_aload_n hx hb dX6_checksum_23 rfl (lv_at hl 3 rfl) ?_
  refine lv_iload hx hb dX6_checksum_24 (lv_at hl 0 rfl) ?_
  refine va_aldq (D := D) (cl := vwCl) hx hb hK hP 1 0 rfl rfl (vp_in_nI (n := 10) (N := 16) (by decide) (by decide)) dX6_checksum_26 ?_
  refine W.eq (g2 := F0 m 27 ls [.null]) rfl ?_
  refine lv_astoreN (lv' := [(6, .null), (5, .int 10), (4, .int 16), (3, .ref xq), (1, .long 7), (0, .ref xo)]) hx hb dX6_checksum_27 hl (by decide) rfl (fun ls hl => ?_)
  refine lv_aloadN hx hb dX6_checksum_29 (lv_at hl 0 rfl) ?_
  refine lv_ifnullN (tgt := 73) hx hb dX6_checksum_31 (by decide) ?_
  obtain ⟨x_236, ex_236⟩ : ∃ y : Int32, y = 10 + 1 := ⟨_, rfl⟩
  have ex_236 : x_236 = 11 := ex_236.trans (by decide)
  subst ex_236
  refine lv_iinc (v := 11) (lv' := [(5, .int 11), (6, .null), (4, .int 16), (3, .ref xq), (1, .long 7), (0, .ref xo)]) hx hb dX6_checksum_73 hl (k := 1) rfl (by decide) (by decide) rfl (fun ls hl => ?_)
  refine lv_goto (tgt := 16) hx hb dX6_checksum_76 (by decide) ?_
  refine lv_iload hx hb dX6_checksum_16 (lv_at hl 0 rfl) ?_
  refine lv_iload hx hb dX6_checksum_18 (lv_at hl 2 rfl) ?_
  refine lv_icmp_ge (tgt := 79) hx hb dX6_checksum_20 (by decide) (fun cc => absurd cc (by decide)) (fun _ => ?_)
  refine lv_aload_n hx hb dX6_checksum_23 rfl (lv_at hl 3 rfl) ?_
  refine lv_iload hx hb dX6_checksum_24 (lv_at hl 0 rfl) ?_
  refine va_aldq (D := D) (cl := vwCl) hx hb hK hP 1 0 rfl rfl (vp_in_nI (n := 11) (N := 16) (by decide) (by decide)) dX6_checksum_26 ?_
  refine W.eq (g2 := F0 m 27 ls [.null]) rfl ?_
  refine lv_astoreN (lv' := [(6, .null), (5, .int 11), (4, .int 16), (3, .ref xq), (1, .long 7), (0, .ref xo)]) hx hb dX6_checksum_27 hl (by decide) rfl (fun ls hl => ?_)
  refine lv_aloadN hx hb dX6_checksum_29 (lv_at hl 0 rfl) ?_
  refine lv_ifnullN (tgt := 73) hx hb dX6_checksum_31 (by decide) ?_
  obtain ⟨x_237, ex_237⟩ : ∃ y : Int32, y = 11 + 1 := ⟨_, rfl⟩
  have ex_237 : x_237 = 12 := ex_237.trans (by decide)
  subst ex_237
  refine lv_iinc (v := 12) (lv' := [(5, .int 12), (6, .null), (4, .int 16), (3, .ref xq), (1, .long 7), (0, .ref xo)]) hx hb dX6_checksum_73 hl (k := 1) rfl (by decide) (by decide) rfl (fun ls hl => ?_)
  refine lv_goto (tgt := 16) hx hb dX6_checksum_76 (by decide) ?_
  refine lv_iload hx hb dX6_checksum_16 (lv_at hl 0 rfl) ?_
  refine lv_iload hx hb dX6_checksum_18 (lv_at hl 2 rfl) ?_
  refine lv_icmp_ge (tgt := 79) hx hb dX6_checksum_20 (by decide) (fun cc => absurd cc (by decide)) (fun _ => ?_)
  refine lv_aload_n hx hb dX6_checksum_23 rfl (lv_at hl 3 rfl) ?_
  refine lv_iload hx hb dX6_checksum_24 (lv_at hl 0 rfl) ?_
  refine va_aldq (D := D) (cl := vwCl) hx hb hK hP 1 0 rfl rfl (vp_in_nI (n := 12) (N := 16) (by decide) (by decide)) dX6_checksum_26 ?_
  refine W.eq (g2 := F0 m 27 ls [.null]) rfl ?_
  refine lv_astoreN (lv' := [(6, .null), (5, .int 12), (4, .int 16), (3, .ref xq), (1, .long 7), (0, .ref xo)]) hx hb dX6_checksum_27 hl (by decide) rfl (fun ls hl => ?_)
  refine lv_aloadN hx hb dX6_checksum_29 (lv_at hl 0 rfl) ?_
  refine lv_ifnullN (tgt := 73) hx hb dX6_checksum_31 (by decide) ?_
  obtain ⟨x_238, ex_238⟩ : ∃ y : Int32, y = 12 + 1 := ⟨_, rfl⟩
  have ex_238 : x_238 = 13 := ex_238.trans (by decide)
  subst ex_238
  refine lv_iinc (v := 13) (lv' := [(5, .int 13), (6, .null), (4, .int 16), (3, .ref xq), (1, .long 7), (0, .ref xo)]) hx hb dX6_checksum_73 hl (k := 1) rfl (by decide) (by decide) rfl (fun ls hl => ?_)
  refine lv_goto (tgt := 16) hx hb dX6_checksum_76 (by decide) ?_
  refine lv_iload hx hb dX6_checksum_16 (lv_at hl 0 rfl) ?_
  refine lv_iload hx hb dX6_checksum_18 (lv_at hl 2 rfl) ?_
  refine lv_icmp_ge (tgt := 79) hx hb dX6_checksum_20 (by decide) (fun cc => absurd cc (by decide)) (fun _ => ?_)
  refine lv_aload_n hx hb dX6_checksum_23 rfl (lv_at hl 3 rfl) ?_
  refine lv_iload hx hb dX6_checksum_24 (lv_at hl 0 rfl) ?_
  refine va_aldq (D := D) (cl := vwCl) hx hb hK hP 1 0 rfl rfl (vp_in_nI (n := 13) (N := 16) (by decide) (by decide)) dX6_checksum_26 ?_
  refine W.eq (g2 := F0 m 27 ls [.null]) rfl ?_
  refine lv_astoreN (lv' := [(6, .null), (5, .int 13), (4, .int 16), (3, .ref xq), (1, .long 7), (0, .ref xo)]) hx hb dX6_checksum_27 hl (by decide) rfl (fun ls hl => ?_)
  refine lv_aloadN hx hb dX6_checksum_29 (lv_at hl 0 rfl) ?_
  refine lv_ifnullN (tgt := 73) hx hb dX6_checksum_31 (by decide) ?_
  obtain ⟨x_239, ex_239⟩ : ∃ y : Int32, y = 13 + 1 := ⟨_, rfl⟩
  have ex_239 : x_239 = 14 := ex_239.trans (by decide)
  subst ex_239
  refine lv_iinc (v := 14) (lv' := [(5, .int 14), (6, .null), (4, .int 16), (3, .ref xq), (1, .long 7), (0, .ref xo)]) hx hb dX6_checksum_73 hl (k := 1) rfl (by decide) (by decide) rfl (fun ls hl => ?_)
  refine lv_goto (tgt := 16) hx hb dX6_checksum_76 (by decide) ?_
  refine lv_iload hx hb dX6_checksum_16 (lv_at hl 0 rfl) ?_
  refine lv_iload hx hb dX6_checksum_18 (lv_at hl 2 rfl) ?_
  refine lv_icmp_ge (tgt := 79) hx hb dX6_checksum_20 (by decide) (fun cc => absurd cc (by decide)) (fun _ => ?_)
  refine lv_aload_n hx hb dX6_checksum_23 rfl (lv_at hl 3 rfl) ?_
  refine lv_iload hx hb dX6_checksum_24 (lv_at hl 0 rfl) ?_
  refine va_aldq (D := D) (cl := vwCl) hx hb hK hP 1 0 rfl rfl (vp_in_nI (n := 14) (N := 16) (by decide) (by decide)) dX6_checksum_26 ?_
  refine W.eq (g2 := F0 m 27 ls [.null]) rfl ?_
  refine lv_astoreN (lv' := [(6, .null), (5, .int 14), (4, .int 16), (3, .ref xq), (1, .long 7), (0, .ref xo)]) hx hb dX6_checksum_27 hl (by decide) rfl (fun ls hl => ?_)
  refine lv_aloadN hx hb dX6_checksum_29 (lv_at hl 0 rfl) ?_
  refine lv_ifnullN (tgt := 73) hx hb dX6_checksum_31 (by decide) ?_
  obtain ⟨x_240, ex_240⟩ : ∃ y : Int32, y = 14 + 1 := ⟨_, rfl⟩
  have ex_240 : x_240 = 15 := ex_240.trans (by decide)
  subst ex_240
  refine lv_iinc (v := 15) (lv' := [(5, .int 15), (6, .null), (4, .int 16), (3, .ref xq), (1, .long 7), (0, .ref xo)]) hx hb dX6_checksum_73 hl (k := 1) rfl (by decide) (by decide) rfl (fun ls hl => ?_)
  refine lv_goto (tgt := 16) hx hb dX6_checksum_76 (by decide) ?_
  refine lv_iload hx hb dX6_checksum_16 (lv_at hl 0 rfl) ?_
  refine lv_iload hx hb dX6_checksum_18 (lv_at hl 2 rfl) ?_
  refine lv_icmp_ge (tgt := 79) hx hb dX6_checksum_20 (by decide) (fun cc => absurd cc (by decide)) (fun _ => ?_)
  refine lv_aload_n hx hb dX6_checksum_23 rfl (lv_at hl 3 rfl) ?_
  refine lv_iload hx hb dX6_checksum_24 (lv_at hl 0 rfl) ?_
  refine va_aldq (D := D) (cl := vwCl) hx hb hK hP 1 0 rfl rfl (vp_in_nI (n := 15) (N := 16) (by decide) (by decide)) dX6_checksum_26 ?_
  refine W.eq (g2 := F0 m 27 ls [.null]) rfl ?_
  refine lv_astoreN (lv' := [(6, .null), (5, .int 15), (4, .int 16), (3, .ref xq), (1, .long 7), (0, .ref xo)]) hx hb dX6_checksum_27 hl (by decide) rfl (fun ls hl => ?_)
  refine lv_aloadN hx hb dX6_checksum_29 (lv_at hl 0 rfl) ?_
  refine lv_ifnullN (tgt := 73) hx hb dX6_checksum_31 (by decide) ?_
  obtain ⟨x_241, ex_241⟩ : ∃ y : Int32, y = 15 + 1 := ⟨_, rfl⟩
  have ex_241 : x_241 = 16 := ex_241.trans (by decide)
  subst ex_241
  refine lv_iinc (v := 16) (lv' := [(5, .int 16), (6, .null), (4, .int 16), (3, .ref xq), (1, .long 7), (0, .ref xo)]) hx hb dX6_checksum_73 hl (k := 1) rfl (by decide) (by decide) rfl (fun ls hl => ?_)
  refine lv_goto (tgt := 16) hx hb dX6_checksum_76 (by decide) ?_
  refine lv_iload hx hb dX6_checksum_16 (lv_at hl 0 rfl) ?_
  refine lv_iload hx hb dX6_checksum_18 (lv_at hl 2 rfl) ?_
  refine lv_icmp_ge (tgt := 79) hx hb dX6_checksum_20 (by decide) (fun _ => ?_) (fun cc => absurd (by decide) cc)
  refine lv_lload_n hx hb dX6_checksum_79 rfl (lv_at hl 4 rfl) ?_
  exact W.lret (v := 7) hx hb hr (fun t ht hW => ⟨7, rfl, rfl, ht⟩) (fun q h => by cases h) dX6_checksum_80
theorem dX6_drop_0 : decode cX6_drop 0 = .ok (.iload_n 1, 1) := by decide +kernel
theorem dX6_drop_1 : decode cX6_drop 1 = .ok (.bipush 10, 2) := by decide +kernel
theorem dX6_drop_3 : decode cX6_drop 3 = .ok (.sipush 200, 3) := by decide +kernel
theorem dX6_drop_6 : decode cX6_drop 6 = .ok (.invokestatic 75, 3) := by decide +kernel
theorem dX6_drop_9 : decode cX6_drop 9 = .ok (.aload_n 0, 1) := by decide +kernel
theorem dX6_drop_10 : decode cX6_drop 10 = .ok (.getfield 66, 3) := by decide +kernel
theorem dX6_drop_13 : decode cX6_drop 13 = .ok (.istore_n 2, 1) := by decide +kernel
theorem dX6_drop_14 : decode cX6_drop 14 = .ok (.aload_n 0, 1) := by decide +kernel
theorem dX6_drop_15 : decode cX6_drop 15 = .ok (.iload_n 1, 1) := by decide +kernel
theorem dX6_drop_16 : decode cX6_drop 16 = .ok (.putfield 66, 3) := by decide +kernel
theorem dX6_drop_19 : decode cX6_drop 19 = .ok (.iload_n 2, 1) := by decide +kernel
theorem dX6_drop_20 : decode cX6_drop 20 = .ok (.ireturn, 1) := by decide +kernel
def wzEX6_drop : List Cond := [.code yX6_drop cX6_drop 3 (some .int), .methodLink RX6 75 yX6_checkRange, .static yX6_checkRange, .initialized RX6, .code yX6_checkRange cX6_checkRange 3 none, .classLink RX6 118 "java/lang/IllegalArgumentException", .initialized "java/lang/IllegalArgumentException", .fieldLink RX6 66 "Gatherhouse" "dropAnHour" "I"]
def wzX6_drop : List Cond := wzEX6_drop ++ (u_ws RX6 TX6 16 ++ ((vx_atS RX6 122 "java/lang/IllegalArgumentException" ["java/lang/RuntimeException", "java/lang/Exception"]).filter goodWord))
theorem zgEX6_drop : wzEX6_drop.all goodWord = true := by decide +kernel
theorem zuX6_drop_X6 : ∀ w ∈ u_ws RX6 TX6 16, w ∈ wzX6_drop := (fun _ h => (List.mem_append_right _ (List.mem_append_left _ h)))
theorem ztX6_drop_X6_122 : ∀ w ∈ (vx_atS RX6 122 "java/lang/IllegalArgumentException" ["java/lang/RuntimeException", "java/lang/Exception"]).filter goodWord, w ∈ wzX6_drop := (fun _ h => (List.mem_append_right _ (List.mem_append_right _ h)))
theorem gzX6_drop_X6_checkRange_75 : GoodIn wzX6_drop (va_wsS RX6 75 yX6_checkRange wzX6_checkRange) := (goodIn_app (z_lift (goodIn_r _ [1, 2, 3] rfl (by decide +kernel))) (goodIn_app (z_lift (goodIn_r wzEX6_checkRange [4, 5, 6] rfl zgEX6_checkRange)) (goodIn_sub (fun _ h => (List.mem_append_right _ (List.mem_append_right _ h))) zgV_X6_122)))
set_option maxHeartbeats 4000000 in
set_option maxRecDepth 100000 in
theorem zc_X6_drop (l : Launch) (hnt : l.stackTraces = false) (D : va_G) (G : Nat × Nat × Nat) (xo : Nat) (xg : Nat) (xp : Nat) (xq : Nat) (r1 : Nat) (r2 : Nat) (r3 : Nat) (r4 : Nat) (se : Nat) (ts : Int32) (hq : Int32) (ii : Int32) (sz : Nat) : vx_Met l yX6_drop wzX6_drop ({ frames := 7, cells := 1, slots := 6, locals := 104 }) (va_Pc [.ref xo, .int ii] (p_RW D G [] [(xo, .inr (11, [.ref xg, .int 0, .ref xp, .int 0, .ref xq, .int 0, .ref r1, .ref r2, .ref r3, .ref r4, .ref se, .int ts, .int hq, .int 40, .int 0, .int 0]))] sz)) (va_Qi (fun (r : Int32) (u : Unit) => inR ii 10 200 ∧ r = 40) (fun (u : Unit) (t : State) => True) (va_A [(xo, .inr (11, [.ref xg, .int 0, .ref xp, .int 0, .ref xq, .int 0, .ref r1, .ref r2, .ref r3, .ref r4, .ref se, .int ts, .int hq, .int 40, .int 0, .int 0]))] sz)) (vx_X (fun (_ : Unit) => True) (fun E (_ : Unit) (_ : State) => (E = "java/lang/IllegalArgumentException" ∧ (¬ inR ii 10 200))) (va_A [(xo, .inr (11, [.ref xg, .int 0, .ref xp, .int 0, .ref xq, .int 0, .ref r1, .ref r2, .ref r3, .ref r4, .ref se, .int ts, .int hq, .int 40, .int 0, .int 0]))] sz)) 1 6 (va_A [(xo, .inr (11, [.ref xg, .int 0, .ref xp, .int 0, .ref xq, .int 0, .ref r1, .ref r2, .ref r3, .ref r4, .ref se, .int ts, .int hq, .int 40, .int 0, .int 0]))] sz) := by
  refine vx_ofW (cc := cX6_drop) (maxL := 3) (ret := (some .int)) (by decide) rfl ?_
  intro p e s m args below meth c s₁ B hml hxt hv
  obtain ⟨rfl, hsz, hP, hK, hD0, hT, hZ⟩ := hv
  have hx := B.exec
  have hb := B.bytes
  have hr := B.returns
  have hts := atoms_spec (ws := wzX6_drop) B.pre
  have hown : s.vm.findClass RX6 = some m.cls := findClass_of_methodNamed B.named
  have hlocks := B.notSynchronized
  subst hsz
  have hD := hD0.self (sz := s.heap.size)
  generalize hAe : va_A [(xo, .inr (11, [.ref xg, .int 0, .ref xp, .int 0, .ref xq, .int 0, .ref r1, .ref r2, .ref r3, .ref r4, .ref se, .int ts, .int hq, .int 40, .int 0, .int 0]))] s.heap.size = A at hD hZ ⊢
  have hA : ∀ q : Nat, s.heap.size ≤ q → A q := fun q h => by rw [← hAe]; exact Or.inr h
  have hS : va_S A s.heap s.heap [] := va_S.rf
  have hl := lv_entry ([.ref xo, .int ii]) (n := 3) (Nat.le_of_ble_eq_true rfl)
  rw [lg_entry_eq]
  generalize (lg_sl ([.ref xo, .int ii]) ++ List.replicate (3 - (lg_sl ([.ref xo, .int ii])).length) Slot.unset).toArray = ls at hl ⊢
  have hl : lv_has ls 3 [(0, .ref xo), (1, .int ii)] := hl
  refine lv_iload_n hx hb dX6_drop_0 rfl (lv_at hl 1 rfl) ?_
  refine lv_bipush (v := 10) hx hb dX6_drop_1 (by decide) ?_
  refine lv_sipush (v := 200) hx hb dX6_drop_3 (by decide) ?_
  have hFc := va_free (wc := []) hD hS hA [] rfl
  refine vx_callv (vx_runS (As := [.int ii, .int 10, .int 200]) (rest := []) ⟨hx, hb, hml, hown, hts⟩ (zc_X6_checkRange l hnt D G ii 10 200 s.heap.size) (cwS 3 hts gzX6_drop_X6_checkRange_75 rfl rfl rfl (by decide +kernel) ⟨(Nat.le_of_ble_eq_true rfl), (Nat.le_of_ble_eq_true rfl)⟩) ⟨p_RW_blind, (p_RW_at (tc := []) (wc := []) hP hK hD hS hA hT hZ [] [] rfl rfl (by decide) rfl [.int ii, .int 10, .int 200])⟩ rfl rfl hl.1 rfl (lv_room (Nat.le_of_ble_eq_true rfl)) dX6_drop_6 ⟨(Nat.le_of_ble_eq_true rfl), (Nat.le_of_ble_eq_true rfl)⟩) hS (fun q _ h => hFc q h) hFc (fun q _ h => hFc q h) (fun E ce q9 u t H locs ht hvm hpx hBX hz1 hk1 hS hce hcv hcl => ?_) (fun u t H locs ht hvm w_243 hB hz1 hk1 hS => ?_)
  · have hBX : (E = "java/lang/IllegalArgumentException" ∧ (¬ inR ii 10 200)) := hBX
    rcases hBX with ⟨rfl, c_244⟩
    exact vx_out (fun x h => (hxt x h).elim) hlocks hce hcv hcl (fun t ht _ => ⟨(), trivial, ⟨rfl, (by first | assumption | exact inR_1 (by assumption) (by assumption) | exact inR_2 (by assumption) (by assumption) | exact inR_3 (by assumption) | exact inR_4 (by assumption) | exact inR_5 (by assumption) | exact ⟨by assumption, by assumption, by assumption, by assumption⟩ | exact ⟨by assumption, by assumption, by assumption⟩ | exact (fun q => absurd q.1 (by assumption)) | exact (fun q => absurd q.2.1 (by assumption)) | exact (fun q => absurd q.2.2 (by assumption)) | exact (fun q => absurd q.2.2.1 (by assumption)) | exact (fun q => absurd q.2.2.2 (by assumption)) | exact isRole_no (by assumption) (by assumption) (by assumption) (by assumption) | exact isRole_nb (by assumption) (by assumption) (by assumption) (by assumption) | exact isRole_out (by assumption) | exact enc_use (by assumption) (by assumption) (by assumption) | exact enc_103 (by assumption) | exact enc_103 (Eq.symm (by assumption)) | exact enc_115 (Eq.symm (by assumption)) | exact enc_102 (Eq.symm (by assumption)) | exact enc_98 (Eq.symm (by assumption)) | exact isRole_nc (by assumption) (by assumption) (by assumption) (by assumption) | exact enc_115 (by assumption) | exact enc_102 (by assumption) | exact enc_98 (by assumption) | exact Or.inr (by assumption) | rfl | exact Or.inl (by assumption) | exact Or.inr (Or.inl (by assumption)) | exact Or.inr (Or.inr (Or.inl (by assumption))) | exact Or.inr (Or.inr (Or.inr (by assumption))) | decide)⟩, hS.F ht⟩) hS.2.2 (Nat.le_of_ble_eq_true rfl) (Nat.le_of_ble_eq_true rfl)
  · obtain ⟨hP, hD, hK⟩ := q_join (D := D) (wc := []) (wr := [(xo, .inr (11, [.ref xg, .int 0, .ref xp, .int 0, .ref xq, .int 0, .ref r1, .ref r2, .ref r3, .ref r4, .ref se, .int ts, .int hq, .int 40, .int 0, .int 0]))]) (w1 := []) (tyr := []) (ty1 := []) hP hD hK [] [0] [] rfl rfl (by decide) (by decide) rfl hFc hk1 ht hvm (q_none hK hvm)
    have hP : va_P D vwCl [(xo, .inr (11, [.ref xg, .int 0, .ref xp, .int 0, .ref xq, .int 0, .ref r1, .ref r2, .ref r3, .ref r4, .ref se, .int ts, .int hq, .int 40, .int 0, .int 0]))] H := hP
    have hD : va_D A [(xo, .inr (11, [.ref xg, .int 0, .ref xp, .int 0, .ref xq, .int 0, .ref r1, .ref r2, .ref r3, .ref r4, .ref se, .int ts, .int hq, .int 40, .int 0, .int 0]))] := hD
    have hK : va_K D vwCl [] s := hK
    refine W.widen (k := 1) (n := 6) (Nat.le_of_ble_eq_true rfl) (Nat.le_of_ble_eq_true rfl) ?_
    have c_245 := w_243
    refine lv_aload_n hx hb dX6_drop_9 rfl (lv_at hl 0 rfl) ?_
    refine va_get (D := D) (cl := vwCl) (ci := 11) (v := .int 40) (C := RX6) (T := TX6) (N := 16) hx hb hts zuX6_drop_X6 hown hK hP 0 rfl rfl 13 (by decide) (hts (.fieldLink RX6 66 "Gatherhouse" "dropAnHour" "I") (by decide +kernel)) (fun _ h9 => h9) rfl dX6_drop_10 ?_
    refine lv_istore_n (lv' := [(2, .int 40), (0, .ref xo), (1, .int ii)]) hx hb dX6_drop_13 rfl hl (by decide) rfl (fun ls hl => ?_)
    refine lv_aload_n hx hb dX6_drop_14 rfl (lv_at hl 1 rfl) ?_
    refine lv_iload_n hx hb dX6_drop_15 rfl (lv_at hl 2 rfl) ?_
    refine va_put (D := D) (cl := vwCl) (ci := 11) (v := .int ii) (ty := .int) (C := RX6) (T := TX6) (N := 16) hx hb hts zuX6_drop_X6 tyX6 tyX6_ok nmX6 hown hK hP hD hS 0 rfl rfl 13 (by decide) (hts (.fieldLink RX6 66 "Gatherhouse" "dropAnHour" "I") (by decide +kernel)) (fun _ h9 => h9) rfl (by decide +kernel) rfl rfl (Nat.le_of_ble_eq_true rfl) dX6_drop_16 (fun H locs hP hD hS => ?_)
    have hP : va_P D vwCl [(xo, .inr (11, [.ref xg, .int 0, .ref xp, .int 0, .ref xq, .int 0, .ref r1, .ref r2, .ref r3, .ref r4, .ref se, .int ts, .int hq, .int ii, .int 0, .int 0]))] H := hP
    have hD : va_D A [(xo, .inr (11, [.ref xg, .int 0, .ref xp, .int 0, .ref xq, .int 0, .ref r1, .ref r2, .ref r3, .ref r4, .ref se, .int ts, .int hq, .int ii, .int 0, .int 0]))] := hD
    refine lv_iload_n hx hb dX6_drop_19 rfl (lv_at hl 0 rfl) ?_
    refine vx_ret ?_
    exact W.iret (v := 40) hx hb hr (fun t ht hW => ⟨⟨40, (), rfl, ⟨(by first | assumption | exact inR_1 (by assumption) (by assumption) | exact inR_2 (by assumption) (by assumption) | exact inR_3 (by assumption) | exact inR_4 (by assumption) | exact inR_5 (by assumption) | exact ⟨by assumption, by assumption, by assumption, by assumption⟩ | exact ⟨by assumption, by assumption, by assumption⟩ | exact (fun q => absurd q.1 (by assumption)) | exact (fun q => absurd q.2.1 (by assumption)) | exact (fun q => absurd q.2.2 (by assumption)) | exact (fun q => absurd q.2.2.1 (by assumption)) | exact (fun q => absurd q.2.2.2 (by assumption)) | exact isRole_no (by assumption) (by assumption) (by assumption) (by assumption) | exact isRole_nb (by assumption) (by assumption) (by assumption) (by assumption) | exact isRole_out (by assumption) | exact enc_use (by assumption) (by assumption) (by assumption) | exact enc_103 (by assumption) | exact enc_103 (Eq.symm (by assumption)) | exact enc_115 (Eq.symm (by assumption)) | exact enc_102 (Eq.symm (by assumption)) | exact enc_98 (Eq.symm (by assumption)) | exact isRole_nc (by assumption) (by assumption) (by assumption) (by assumption) | exact enc_115 (by assumption) | exact enc_102 (by assumption) | exact enc_98 (by assumption) | exact Or.inr (by assumption) | rfl | exact Or.inl (by assumption) | exact Or.inr (Or.inl (by assumption)) | exact Or.inr (Or.inr (Or.inl (by assumption))) | exact Or.inr (Or.inr (Or.inr (by assumption))) | decide), rfl⟩, trivial⟩, hS.F ht⟩) hS.2.2 dX6_drop_20
theorem dX6_busy_0 : decode cX6_busy 0 = .ok (.aload_n 0, 1) := by decide +kernel
theorem dX6_busy_1 : decode cX6_busy 1 = .ok (.iload_n 1, 1) := by decide +kernel
theorem dX6_busy_2 : decode cX6_busy 2 = .ok (.invokevirtual 133, 3) := by decide +kernel
theorem dX6_busy_5 : decode cX6_busy 5 = .ok (.getfield 137, 3) := by decide +kernel
theorem dX6_busy_8 : decode cX6_busy 8 = .ok (.ireturn, 1) := by decide +kernel
def wzEX6_busy : List Cond := [.code yX6_busy cX6_busy 2 (some .int), .methodLink RX6 133 yX6_findRole, .instanceMethod yX6_findRole, .selects RX6 yX6_findRole yX6_findRole, .initialized RX6, .code yX6_findRole cX6_findRole 2 (some (.object "Gatherhouse$Role")), .fieldLink RX6 50 "Gatherhouse" "boy" "LGatherhouse$Role;", .fieldLink RX6 47 "Gatherhouse" "gaffer" "LGatherhouse$Role;", .fieldLink RX6 40 "Gatherhouse" "gatherer" "LGatherhouse$Role;", .fieldLink RX6 44 "Gatherhouse" "servitor" "LGatherhouse$Role;", .classLink RX6 118 "java/lang/IllegalArgumentException", .initialized "java/lang/IllegalArgumentException"]
def wzX6_busy : List Cond := wzEX6_busy ++ (u_ws RX6 TX6 16 ++ (u_ws RX4 TX4 2 ++ ((vx_atS RX6 122 "java/lang/IllegalArgumentException" ["java/lang/RuntimeException", "java/lang/Exception"]).filter goodWord)))
theorem zgEX6_busy : wzEX6_busy.all goodWord = true := by decide +kernel
theorem zuX6_busy_X6 : ∀ w ∈ u_ws RX6 TX6 16, w ∈ wzX6_busy := (fun _ h => (List.mem_append_right _ (List.mem_append_left _ h)))
theorem zuX6_busy_X4 : ∀ w ∈ u_ws RX4 TX4 2, w ∈ wzX6_busy := (fun _ h => (List.mem_append_right _ (List.mem_append_right _ (List.mem_append_left _ h))))
theorem ztX6_busy_X6_122 : ∀ w ∈ (vx_atS RX6 122 "java/lang/IllegalArgumentException" ["java/lang/RuntimeException", "java/lang/Exception"]).filter goodWord, w ∈ wzX6_busy := (fun _ h => (List.mem_append_right _ (List.mem_append_right _ (List.mem_append_right _ h))))
theorem gzX6_busy_X6_findRole_133 : GoodIn wzX6_busy (wsV RX6 133 RX6 yX6_findRole wzX6_findRole) := (goodIn_app (z_lift (goodIn_r _ [1, 2, 3, 4] rfl (by decide +kernel))) (goodIn_app (z_lift (goodIn_r wzEX6_findRole [5, 6, 7, 8, 9, 10, 11] rfl zgEX6_findRole)) (goodIn_app (goodIn_sub (fun _ h => (List.mem_append_right _ (List.mem_append_left _ h))) zgU_X6) (goodIn_sub (fun _ h => (List.mem_append_right _ (List.mem_append_right _ (List.mem_append_right _ h)))) zgV_X6_122))))
set_option maxHeartbeats 4000000 in
set_option maxRecDepth 100000 in
theorem zc_X6_busy (l : Launch) (hnt : l.stackTraces = false) (D : va_G) (G : Nat × Nat × Nat) (xo : Nat) (xg : Nat) (xp : Nat) (xq : Nat) (r1 : Nat) (r2 : Nat) (r3 : Nat) (r4 : Nat) (se : Nat) (ts : Int32) (hq : Int32) (ch : Int32) (sz : Nat) : vx_Met l yX6_busy wzX6_busy ({ frames := 7, cells := 1, slots := 6, locals := 103 }) (va_Pc [.ref xo, .int ch] (p_RW D G [] [(xo, .inr (11, [.ref xg, .int 0, .ref xp, .int 0, .ref xq, .int 0, .ref r1, .ref r2, .ref r3, .ref r4, .ref se, .int ts, .int hq, .int 40, .int 0, .int 0])), (r1, .inr (9, [.int 0, .int 0])), (r2, .inr (9, [.int 0, .int 0])), (r3, .inr (9, [.int 0, .int 0])), (r4, .inr (9, [.int 0, .int 0]))] sz)) (va_Qi (fun (r : Int32) (u : Unit) => isRole ch ∧ r = 0) (fun (u : Unit) (t : State) => True) (va_A [(xo, .inr (11, [.ref xg, .int 0, .ref xp, .int 0, .ref xq, .int 0, .ref r1, .ref r2, .ref r3, .ref r4, .ref se, .int ts, .int hq, .int 40, .int 0, .int 0])), (r1, .inr (9, [.int 0, .int 0])), (r2, .inr (9, [.int 0, .int 0])), (r3, .inr (9, [.int 0, .int 0])), (r4, .inr (9, [.int 0, .int 0]))] sz)) (vx_X (fun (_ : Unit) => True) (fun E (_ : Unit) (_ : State) => (E = "java/lang/IllegalArgumentException" ∧ (¬ isRole ch))) (va_A [(xo, .inr (11, [.ref xg, .int 0, .ref xp, .int 0, .ref xq, .int 0, .ref r1, .ref r2, .ref r3, .ref r4, .ref se, .int ts, .int hq, .int 40, .int 0, .int 0])), (r1, .inr (9, [.int 0, .int 0])), (r2, .inr (9, [.int 0, .int 0])), (r3, .inr (9, [.int 0, .int 0])), (r4, .inr (9, [.int 0, .int 0]))] sz)) 1 6 (va_A [(xo, .inr (11, [.ref xg, .int 0, .ref xp, .int 0, .ref xq, .int 0, .ref r1, .ref r2, .ref r3, .ref r4, .ref se, .int ts, .int hq, .int 40, .int 0, .int 0])), (r1, .inr (9, [.int 0, .int 0])), (r2, .inr (9, [.int 0, .int 0])), (r3, .inr (9, [.int 0, .int 0])), (r4, .inr (9, [.int 0, .int 0]))] sz) := by
  refine vx_ofW (cc := cX6_busy) (maxL := 2) (ret := (some .int)) (by decide) rfl ?_
  intro p e s m args below meth c s₁ B hml hxt hv
  obtain ⟨rfl, hsz, hP, hK, hD0, hT, hZ⟩ := hv
  have hx := B.exec
  have hb := B.bytes
  have hr := B.returns
  have hts := atoms_spec (ws := wzX6_busy) B.pre
  have hown : s.vm.findClass RX6 = some m.cls := findClass_of_methodNamed B.named
  have hlocks := B.notSynchronized
  subst hsz
  have hD := hD0.self (sz := s.heap.size)
  generalize hAe : va_A [(xo, .inr (11, [.ref xg, .int 0, .ref xp, .int 0, .ref xq, .int 0, .ref r1, .ref r2, .ref r3, .ref r4, .ref se, .int ts, .int hq, .int 40, .int 0, .int 0])), (r1, .inr (9, [.int 0, .int 0])), (r2, .inr (9, [.int 0, .int 0])), (r3, .inr (9, [.int 0, .int 0])), (r4, .inr (9, [.int 0, .int 0]))] s.heap.size = A at hD hZ ⊢
  have hA : ∀ q : Nat, s.heap.size ≤ q → A q := fun q h => by rw [← hAe]; exact Or.inr h
  have hS : va_S A s.heap s.heap [] := va_S.rf
  have hl := lv_entry ([.ref xo, .int ch]) (n := 2) (Nat.le_of_ble_eq_true rfl)
  rw [lg_entry_eq]
  generalize (lg_sl ([.ref xo, .int ch]) ++ List.replicate (2 - (lg_sl ([.ref xo, .int ch])).length) Slot.unset).toArray = ls at hl ⊢
  have hl : lv_has ls 2 [(0, .ref xo), (1, .int ch)] := hl
  refine lv_aload_n hx hb dX6_busy_0 rfl (lv_at hl 0 rfl) ?_
  refine lv_iload_n hx hb dX6_busy_1 rfl (lv_at hl 1 rfl) ?_
  have hFc := va_free (wc := [(xo, .inr (11, [.ref xg, .int 0, .ref xp, .int 0, .ref xq, .int 0, .ref r1, .ref r2, .ref r3, .ref r4, .ref se, .int ts, .int hq, .int 40, .int 0, .int 0]))]) hD hS hA [0] rfl
  refine vx_callq (vx_runV (As := [.int ch]) (rest := []) ⟨hx, hb, hml, hown, hts⟩ (zc_X6_findRole l hnt D G xo xg xp xq r1 r2 r3 r4 se ts hq ch s.heap.size) (cwV 1 hts gzX6_busy_X6_findRole_133 rfl rfl rfl (by decide +kernel) ⟨(Nat.le_of_ble_eq_true rfl), (Nat.le_of_ble_eq_true rfl)⟩) ⟨p_RW_blind, va_recv hK hP (ci := 11) (q0 := 0) rfl rfl, (p_RW_at (tc := []) (wc := [(xo, .inr (11, [.ref xg, .int 0, .ref xp, .int 0, .ref xq, .int 0, .ref r1, .ref r2, .ref r3, .ref r4, .ref se, .int ts, .int hq, .int 40, .int 0, .int 0]))]) hP hK hD hS hA hT hZ [0] [] rfl rfl (by decide) rfl [.ref xo, .int ch])⟩ rfl rfl hl.1 rfl (lv_room (Nat.le_of_ble_eq_true rfl)) dX6_busy_2 ⟨(Nat.le_of_ble_eq_true rfl), (Nat.le_of_ble_eq_true rfl)⟩) hS (fun q _ h => hFc q h) hFc (fun q _ h => hFc q h) (fun E ce q9 u t H locs ht hvm hpx hBX hz1 hk1 hS hce hcv hcl => ?_) (fun r_246 u t H locs ht hvm w_247 hB hz1 hk1 hS => ?_)
  · have hBX : (E = "java/lang/IllegalArgumentException" ∧ (¬ isRole ch)) := hBX
    rcases hBX with ⟨rfl, c_248⟩
    exact vx_out (fun x h => (hxt x h).elim) hlocks hce hcv hcl (fun t ht _ => ⟨(), trivial, ⟨rfl, (by first | assumption | exact inR_1 (by assumption) (by assumption) | exact inR_2 (by assumption) (by assumption) | exact inR_3 (by assumption) | exact inR_4 (by assumption) | exact inR_5 (by assumption) | exact ⟨by assumption, by assumption, by assumption, by assumption⟩ | exact ⟨by assumption, by assumption, by assumption⟩ | exact (fun q => absurd q.1 (by assumption)) | exact (fun q => absurd q.2.1 (by assumption)) | exact (fun q => absurd q.2.2 (by assumption)) | exact (fun q => absurd q.2.2.1 (by assumption)) | exact (fun q => absurd q.2.2.2 (by assumption)) | exact isRole_no (by assumption) (by assumption) (by assumption) (by assumption) | exact isRole_nb (by assumption) (by assumption) (by assumption) (by assumption) | exact isRole_out (by assumption) | exact enc_use (by assumption) (by assumption) (by assumption) | exact enc_103 (by assumption) | exact enc_103 (Eq.symm (by assumption)) | exact enc_115 (Eq.symm (by assumption)) | exact enc_102 (Eq.symm (by assumption)) | exact enc_98 (Eq.symm (by assumption)) | exact isRole_nc (by assumption) (by assumption) (by assumption) (by assumption) | exact enc_115 (by assumption) | exact enc_102 (by assumption) | exact enc_98 (by assumption) | exact Or.inr (by assumption) | rfl | exact Or.inl (by assumption) | exact Or.inr (Or.inl (by assumption)) | exact Or.inr (Or.inr (Or.inl (by assumption))) | exact Or.inr (Or.inr (Or.inr (by assumption))) | decide)⟩, hS.F ht⟩) hS.2.2 (Nat.le_of_ble_eq_true rfl) (Nat.le_of_ble_eq_true rfl)
  · obtain ⟨hP, hD, hK⟩ := q_join (D := D) (wc := [(xo, .inr (11, [.ref xg, .int 0, .ref xp, .int 0, .ref xq, .int 0, .ref r1, .ref r2, .ref r3, .ref r4, .ref se, .int ts, .int hq, .int 40, .int 0, .int 0]))]) (wr := [(r1, .inr (9, [.int 0, .int 0])), (r2, .inr (9, [.int 0, .int 0])), (r3, .inr (9, [.int 0, .int 0])), (r4, .inr (9, [.int 0, .int 0]))]) (w1 := [(xo, .inr (11, [.ref xg, .int 0, .ref xp, .int 0, .ref xq, .int 0, .ref r1, .ref r2, .ref r3, .ref r4, .ref se, .int ts, .int hq, .int 40, .int 0, .int 0]))]) (tyr := []) (ty1 := []) hP hD hK [0] [1, 2, 3, 4] [] rfl rfl (by decide) (by decide) rfl hFc hk1 ht hvm hB
    have hP : va_P D vwCl [(r1, .inr (9, [.int 0, .int 0])), (r2, .inr (9, [.int 0, .int 0])), (r3, .inr (9, [.int 0, .int 0])), (r4, .inr (9, [.int 0, .int 0])), (xo, .inr (11, [.ref xg, .int 0, .ref xp, .int 0, .ref xq, .int 0, .ref r1, .ref r2, .ref r3, .ref r4, .ref se, .int ts, .int hq, .int 40, .int 0, .int 0]))] H := hP
    have hD : va_D A [(r1, .inr (9, [.int 0, .int 0])), (r2, .inr (9, [.int 0, .int 0])), (r3, .inr (9, [.int 0, .int 0])), (r4, .inr (9, [.int 0, .int 0])), (xo, .inr (11, [.ref xg, .int 0, .ref xp, .int 0, .ref xq, .int 0, .ref r1, .ref r2, .ref r3, .ref r4, .ref se, .int ts, .int hq, .int 40, .int 0, .int 0]))] := hD
    have hK : va_K D vwCl [] s := hK
    refine W.widen (k := 1) (n := 6) (Nat.le_of_ble_eq_true rfl) (Nat.le_of_ble_eq_true rfl) ?_
    rcases w_247 with ⟨c_249, rfl⟩ | ⟨c_250, rfl⟩ | ⟨c_251, rfl⟩ | ⟨c_252, rfl⟩
    · refine W.eq (g2 := F0 m 5 ls [.ref r4]) rfl ?_
      refine va_getN (D := D) (cl := vwCl) (ci := 9) (v := .int 0) (C := RX4) (T := TX4) (N := 2) hx hb hts zuX6_busy_X4 hown hK hP 3 rfl rfl 0 (by decide) (va_Nw.use rfl (hT.2.1 ("Gatherhouse", 137, "Gatherhouse$Role", "busy", "I", "Gatherhouse") (by decide +kernel))) (fun _ h9 => h9) rfl dX6_busy_5 ?_
      refine vx_ret ?_
      exact W.iret (v := 0) hx hb hr (fun t ht hW => ⟨⟨0, (), rfl, ⟨(by first | assumption | exact inR_1 (by assumption) (by assumption) | exact inR_2 (by assumption) (by assumption) | exact inR_3 (by assumption) | exact inR_4 (by assumption) | exact inR_5 (by assumption) | exact ⟨by assumption, by assumption, by assumption, by assumption⟩ | exact ⟨by assumption, by assumption, by assumption⟩ | exact (fun q => absurd q.1 (by assumption)) | exact (fun q => absurd q.2.1 (by assumption)) | exact (fun q => absurd q.2.2 (by assumption)) | exact (fun q => absurd q.2.2.1 (by assumption)) | exact (fun q => absurd q.2.2.2 (by assumption)) | exact isRole_no (by assumption) (by assumption) (by assumption) (by assumption) | exact isRole_nb (by assumption) (by assumption) (by assumption) (by assumption) | exact isRole_out (by assumption) | exact enc_use (by assumption) (by assumption) (by assumption) | exact enc_103 (by assumption) | exact enc_103 (Eq.symm (by assumption)) | exact enc_115 (Eq.symm (by assumption)) | exact enc_102 (Eq.symm (by assumption)) | exact enc_98 (Eq.symm (by assumption)) | exact isRole_nc (by assumption) (by assumption) (by assumption) (by assumption) | exact enc_115 (by assumption) | exact enc_102 (by assumption) | exact enc_98 (by assumption) | exact Or.inr (by assumption) | rfl | exact Or.inl (by assumption) | exact Or.inr (Or.inl (by assumption)) | exact Or.inr (Or.inr (Or.inl (by assumption))) | exact Or.inr (Or.inr (Or.inr (by assumption))) | decide), rfl⟩, trivial⟩, hS.F ht⟩) hS.2.2 dX6_busy_8
    · refine W.eq (g2 := F0 m 5 ls [.ref r3]) rfl ?_
      refine va_getN (D := D) (cl := vwCl) (ci := 9) (v := .int 0) (C := RX4) (T := TX4) (N := 2) hx hb hts zuX6_busy_X4 hown hK hP 2 rfl rfl 0 (by decide) (va_Nw.use rfl (hT.2.1 ("Gatherhouse", 137, "Gatherhouse$Role", "busy", "I", "Gatherhouse") (by decide +kernel))) (fun _ h9 => h9) rfl dX6_busy_5 ?_
      refine vx_ret ?_
      exact W.iret (v := 0) hx hb hr (fun t ht hW => ⟨⟨0, (), rfl, ⟨(by first | assumption | exact inR_1 (by assumption) (by assumption) | exact inR_2 (by assumption) (by assumption) | exact inR_3 (by assumption) | exact inR_4 (by assumption) | exact inR_5 (by assumption) | exact ⟨by assumption, by assumption, by assumption, by assumption⟩ | exact ⟨by assumption, by assumption, by assumption⟩ | exact (fun q => absurd q.1 (by assumption)) | exact (fun q => absurd q.2.1 (by assumption)) | exact (fun q => absurd q.2.2 (by assumption)) | exact (fun q => absurd q.2.2.1 (by assumption)) | exact (fun q => absurd q.2.2.2 (by assumption)) | exact isRole_no (by assumption) (by assumption) (by assumption) (by assumption) | exact isRole_nb (by assumption) (by assumption) (by assumption) (by assumption) | exact isRole_out (by assumption) | exact enc_use (by assumption) (by assumption) (by assumption) | exact enc_103 (by assumption) | exact enc_103 (Eq.symm (by assumption)) | exact enc_115 (Eq.symm (by assumption)) | exact enc_102 (Eq.symm (by assumption)) | exact enc_98 (Eq.symm (by assumption)) | exact isRole_nc (by assumption) (by assumption) (by assumption) (by assumption) | exact enc_115 (by assumption) | exact enc_102 (by assumption) | exact enc_98 (by assumption) | exact Or.inr (by assumption) | rfl | exact Or.inl (by assumption) | exact Or.inr (Or.inl (by assumption)) | exact Or.inr (Or.inr (Or.inl (by assumption))) | exact Or.inr (Or.inr (Or.inr (by assumption))) | decide), rfl⟩, trivial⟩, hS.F ht⟩) hS.2.2 dX6_busy_8
    · refine W.eq (g2 := F0 m 5 ls [.ref r1]) rfl ?_
      refine va_getN (D := D) (cl := vwCl) (ci := 9) (v := .int 0) (C := RX4) (T := TX4) (N := 2) hx hb hts zuX6_busy_X4 hown hK hP 0 rfl rfl 0 (by decide) (va_Nw.use rfl (hT.2.1 ("Gatherhouse", 137, "Gatherhouse$Role", "busy", "I", "Gatherhouse") (by decide +kernel))) (fun _ h9 => h9) rfl dX6_busy_5 ?_
      refine vx_ret ?_
      exact W.iret (v := 0) hx hb hr (fun t ht hW => ⟨⟨0, (), rfl, ⟨(by first | assumption | exact inR_1 (by assumption) (by assumption) | exact inR_2 (by assumption) (by assumption) | exact inR_3 (by assumption) | exact inR_4 (by assumption) | exact inR_5 (by assumption) | exact ⟨by assumption, by assumption, by assumption, by assumption⟩ | exact ⟨by assumption, by assumption, by assumption⟩ | exact (fun q => absurd q.1 (by assumption)) | exact (fun q => absurd q.2.1 (by assumption)) | exact (fun q => absurd q.2.2 (by assumption)) | exact (fun q => absurd q.2.2.1 (by assumption)) | exact (fun q => absurd q.2.2.2 (by assumption)) | exact isRole_no (by assumption) (by assumption) (by assumption) (by assumption) | exact isRole_nb (by assumption) (by assumption) (by assumption) (by assumption) | exact isRole_out (by assumption) | exact enc_use (by assumption) (by assumption) (by assumption) | exact enc_103 (by assumption) | exact enc_103 (Eq.symm (by assumption)) | exact enc_115 (Eq.symm (by assumption)) | exact enc_102 (Eq.symm (by assumption)) | exact enc_98 (Eq.symm (by assumption)) | exact isRole_nc (by assumption) (by assumption) (by assumption) (by assumption) | exact enc_115 (by assumption) | exact enc_102 (by assumption) | exact enc_98 (by assumption) | exact Or.inr (by assumption) | rfl | exact Or.inl (by assumption) | exact Or.inr (Or.inl (by assumption)) | exact Or.inr (Or.inr (Or.inl (by assumption))) | exact Or.inr (Or.inr (Or.inr (by assumption))) | decide), rfl⟩, trivial⟩, hS.F ht⟩) hS.2.2 dX6_busy_8
    · refine W.eq (g2 := F0 m 5 ls [.ref r2]) rfl ?_
      refine va_getN (D := D) (cl := vwCl) (ci := 9) (v := .int 0) (C := RX4) (T := TX4) (N := 2) hx hb hts zuX6_busy_X4 hown hK hP 1 rfl rfl 0 (by decide) (va_Nw.use rfl (hT.2.1 ("Gatherhouse", 137, "Gatherhouse$Role", "busy", "I", "Gatherhouse") (by decide +kernel))) (fun _ h9 => h9) rfl dX6_busy_5 ?_
      refine vx_ret ?_
      exact W.iret (v := 0) hx hb hr (fun t ht hW => ⟨⟨0, (), rfl, ⟨(by first | assumption | exact inR_1 (by assumption) (by assumption) | exact inR_2 (by assumption) (by assumption) | exact inR_3 (by assumption) | exact inR_4 (by assumption) | exact inR_5 (by assumption) | exact ⟨by assumption, by assumption, by assumption, by assumption⟩ | exact ⟨by assumption, by assumption, by assumption⟩ | exact (fun q => absurd q.1 (by assumption)) | exact (fun q => absurd q.2.1 (by assumption)) | exact (fun q => absurd q.2.2 (by assumption)) | exact (fun q => absurd q.2.2.1 (by assumption)) | exact (fun q => absurd q.2.2.2 (by assumption)) | exact isRole_no (by assumption) (by assumption) (by assumption) (by assumption) | exact isRole_nb (by assumption) (by assumption) (by assumption) (by assumption) | exact isRole_out (by assumption) | exact enc_use (by assumption) (by assumption) (by assumption) | exact enc_103 (by assumption) | exact enc_103 (Eq.symm (by assumption)) | exact enc_115 (Eq.symm (by assumption)) | exact enc_102 (Eq.symm (by assumption)) | exact enc_98 (Eq.symm (by assumption)) | exact isRole_nc (by assumption) (by assumption) (by assumption) (by assumption) | exact enc_115 (by assumption) | exact enc_102 (by assumption) | exact enc_98 (by assumption) | exact Or.inr (by assumption) | rfl | exact Or.inl (by assumption) | exact Or.inr (Or.inl (by assumption)) | exact Or.inr (Or.inr (Or.inl (by assumption))) | exact Or.inr (Or.inr (Or.inr (by assumption))) | decide), rfl⟩, trivial⟩, hS.F ht⟩) hS.2.2 dX6_busy_8
theorem dX6_pay_0 : decode cX6_pay 0 = .ok (.aload_n 0, 1) := by decide +kernel
theorem dX6_pay_1 : decode cX6_pay 1 = .ok (.iload_n 1, 1) := by decide +kernel
theorem dX6_pay_2 : decode cX6_pay 2 = .ok (.invokevirtual 133, 3) := by decide +kernel
theorem dX6_pay_5 : decode cX6_pay 5 = .ok (.getfield 140, 3) := by decide +kernel
theorem dX6_pay_8 : decode cX6_pay 8 = .ok (.ireturn, 1) := by decide +kernel
def wzEX6_pay : List Cond := [.code yX6_pay cX6_pay 2 (some .int), .methodLink RX6 133 yX6_findRole, .instanceMethod yX6_findRole, .selects RX6 yX6_findRole yX6_findRole, .initialized RX6, .code yX6_findRole cX6_findRole 2 (some (.object "Gatherhouse$Role")), .fieldLink RX6 50 "Gatherhouse" "boy" "LGatherhouse$Role;", .fieldLink RX6 47 "Gatherhouse" "gaffer" "LGatherhouse$Role;", .fieldLink RX6 40 "Gatherhouse" "gatherer" "LGatherhouse$Role;", .fieldLink RX6 44 "Gatherhouse" "servitor" "LGatherhouse$Role;", .classLink RX6 118 "java/lang/IllegalArgumentException", .initialized "java/lang/IllegalArgumentException"]
def wzX6_pay : List Cond := wzEX6_pay ++ (u_ws RX6 TX6 16 ++ (u_ws RX4 TX4 2 ++ ((vx_atS RX6 122 "java/lang/IllegalArgumentException" ["java/lang/RuntimeException", "java/lang/Exception"]).filter goodWord)))
theorem zgEX6_pay : wzEX6_pay.all goodWord = true := by decide +kernel
theorem zuX6_pay_X6 : ∀ w ∈ u_ws RX6 TX6 16, w ∈ wzX6_pay := (fun _ h => (List.mem_append_right _ (List.mem_append_left _ h)))
theorem zuX6_pay_X4 : ∀ w ∈ u_ws RX4 TX4 2, w ∈ wzX6_pay := (fun _ h => (List.mem_append_right _ (List.mem_append_right _ (List.mem_append_left _ h))))
theorem ztX6_pay_X6_122 : ∀ w ∈ (vx_atS RX6 122 "java/lang/IllegalArgumentException" ["java/lang/RuntimeException", "java/lang/Exception"]).filter goodWord, w ∈ wzX6_pay := (fun _ h => (List.mem_append_right _ (List.mem_append_right _ (List.mem_append_right _ h))))
theorem gzX6_pay_X6_findRole_133 : GoodIn wzX6_pay (wsV RX6 133 RX6 yX6_findRole wzX6_findRole) := (goodIn_app (z_lift (goodIn_r _ [1, 2, 3, 4] rfl (by decide +kernel))) (goodIn_app (z_lift (goodIn_r wzEX6_findRole [5, 6, 7, 8, 9, 10, 11] rfl zgEX6_findRole)) (goodIn_app (goodIn_sub (fun _ h => (List.mem_append_right _ (List.mem_append_left _ h))) zgU_X6) (goodIn_sub (fun _ h => (List.mem_append_right _ (List.mem_append_right _ (List.mem_append_right _ h)))) zgV_X6_122))))
set_option maxHeartbeats 4000000 in
set_option maxRecDepth 100000 in
theorem zc_X6_pay (l : Launch) (hnt : l.stackTraces = false) (D : va_G) (G : Nat × Nat × Nat) (xo : Nat) (xg : Nat) (xp : Nat) (xq : Nat) (r1 : Nat) (r2 : Nat) (r3 : Nat) (r4 : Nat) (se : Nat) (ts : Int32) (hq : Int32) (ch : Int32) (sz : Nat) : vx_Met l yX6_pay wzX6_pay ({ frames := 7, cells := 1, slots := 6, locals := 103 }) (va_Pc [.ref xo, .int ch] (p_RW D G [] [(xo, .inr (11, [.ref xg, .int 0, .ref xp, .int 0, .ref xq, .int 0, .ref r1, .ref r2, .ref r3, .ref r4, .ref se, .int ts, .int hq, .int 40, .int 0, .int 0])), (r1, .inr (9, [.int 0, .int 0])), (r2, .inr (9, [.int 0, .int 0])), (r3, .inr (9, [.int 0, .int 0])), (r4, .inr (9, [.int 0, .int 0]))] sz)) (va_Qi (fun (r : Int32) (u : Unit) => isRole ch ∧ r = 0) (fun (u : Unit) (t : State) => True) (va_A [(xo, .inr (11, [.ref xg, .int 0, .ref xp, .int 0, .ref xq, .int 0, .ref r1, .ref r2, .ref r3, .ref r4, .ref se, .int ts, .int hq, .int 40, .int 0, .int 0])), (r1, .inr (9, [.int 0, .int 0])), (r2, .inr (9, [.int 0, .int 0])), (r3, .inr (9, [.int 0, .int 0])), (r4, .inr (9, [.int 0, .int 0]))] sz)) (vx_X (fun (_ : Unit) => True) (fun E (_ : Unit) (_ : State) => (E = "java/lang/IllegalArgumentException" ∧ (¬ isRole ch))) (va_A [(xo, .inr (11, [.ref xg, .int 0, .ref xp, .int 0, .ref xq, .int 0, .ref r1, .ref r2, .ref r3, .ref r4, .ref se, .int ts, .int hq, .int 40, .int 0, .int 0])), (r1, .inr (9, [.int 0, .int 0])), (r2, .inr (9, [.int 0, .int 0])), (r3, .inr (9, [.int 0, .int 0])), (r4, .inr (9, [.int 0, .int 0]))] sz)) 1 6 (va_A [(xo, .inr (11, [.ref xg, .int 0, .ref xp, .int 0, .ref xq, .int 0, .ref r1, .ref r2, .ref r3, .ref r4, .ref se, .int ts, .int hq, .int 40, .int 0, .int 0])), (r1, .inr (9, [.int 0, .int 0])), (r2, .inr (9, [.int 0, .int 0])), (r3, .inr (9, [.int 0, .int 0])), (r4, .inr (9, [.int 0, .int 0]))] sz) := by
  refine vx_ofW (cc := cX6_pay) (maxL := 2) (ret := (some .int)) (by decide) rfl ?_
  intro p e s m args below meth c s₁ B hml hxt hv
  obtain ⟨rfl, hsz, hP, hK, hD0, hT, hZ⟩ := hv
  have hx := B.exec
  have hb := B.bytes
  have hr := B.returns
  have hts := atoms_spec (ws := wzX6_pay) B.pre
  have hown : s.vm.findClass RX6 = some m.cls := findClass_of_methodNamed B.named
  have hlocks := B.notSynchronized
  subst hsz
  have hD := hD0.self (sz := s.heap.size)
  generalize hAe : va_A [(xo, .inr (11, [.ref xg, .int 0, .ref xp, .int 0, .ref xq, .int 0, .ref r1, .ref r2, .ref r3, .ref r4, .ref se, .int ts, .int hq, .int 40, .int 0, .int 0])), (r1, .inr (9, [.int 0, .int 0])), (r2, .inr (9, [.int 0, .int 0])), (r3, .inr (9, [.int 0, .int 0])), (r4, .inr (9, [.int 0, .int 0]))] s.heap.size = A at hD hZ ⊢
  have hA : ∀ q : Nat, s.heap.size ≤ q → A q := fun q h => by rw [← hAe]; exact Or.inr h
  have hS : va_S A s.heap s.heap [] := va_S.rf
  have hl := lv_entry ([.ref xo, .int ch]) (n := 2) (Nat.le_of_ble_eq_true rfl)
  rw [lg_entry_eq]
  generalize (lg_sl ([.ref xo, .int ch]) ++ List.replicate (2 - (lg_sl ([.ref xo, .int ch])).length) Slot.unset).toArray = ls at hl ⊢
  have hl : lv_has ls 2 [(0, .ref xo), (1, .int ch)] := hl
  refine lv_aload_n hx hb dX6_pay_0 rfl (lv_at hl 0 rfl) ?_
  refine lv_iload_n hx hb dX6_pay_1 rfl (lv_at hl 1 rfl) ?_
  have hFc := va_free (wc := [(xo, .inr (11, [.ref xg, .int 0, .ref xp, .int 0, .ref xq, .int 0, .ref r1, .ref r2, .ref r3, .ref r4, .ref se, .int ts, .int hq, .int 40, .int 0, .int 0]))]) hD hS hA [0] rfl
  refine vx_callq (vx_runV (As := [.int ch]) (rest := []) ⟨hx, hb, hml, hown, hts⟩ (zc_X6_findRole l hnt D G xo xg xp xq r1 r2 r3 r4 se ts hq ch s.heap.size) (cwV 1 hts gzX6_pay_X6_findRole_133 rfl rfl rfl (by decide +kernel) ⟨(Nat.le_of_ble_eq_true rfl), (Nat.le_of_ble_eq_true rfl)⟩) ⟨p_RW_blind, va_recv hK hP (ci := 11) (q0 := 0) rfl rfl, (p_RW_at (tc := []) (wc := [(xo, .inr (11, [.ref xg, .int 0, .ref xp, .int 0, .ref xq, .int 0, .ref r1, .ref r2, .ref r3, .ref r4, .ref se, .int ts, .int hq, .int 40, .int 0, .int 0]))]) hP hK hD hS hA hT hZ [0] [] rfl rfl (by decide) rfl [.ref xo, .int ch])⟩ rfl rfl hl.1 rfl (lv_room (Nat.le_of_ble_eq_true rfl)) dX6_pay_2 ⟨(Nat.le_of_ble_eq_true rfl), (Nat.le_of_ble_eq_true rfl)⟩) hS (fun q _ h => hFc q h) hFc (fun q _ h => hFc q h) (fun E ce q9 u t H locs ht hvm hpx hBX hz1 hk1 hS hce hcv hcl => ?_) (fun r_253 u t H locs ht hvm w_254 hB hz1 hk1 hS => ?_)
  · have hBX : (E = "java/lang/IllegalArgumentException" ∧ (¬ isRole ch)) := hBX
    rcases hBX with ⟨rfl, c_255⟩
    exact vx_out (fun x h => (hxt x h).elim) hlocks hce hcv hcl (fun t ht _ => ⟨(), trivial, ⟨rfl, (by first | assumption | exact inR_1 (by assumption) (by assumption) | exact inR_2 (by assumption) (by assumption) | exact inR_3 (by assumption) | exact inR_4 (by assumption) | exact inR_5 (by assumption) | exact ⟨by assumption, by assumption, by assumption, by assumption⟩ | exact ⟨by assumption, by assumption, by assumption⟩ | exact (fun q => absurd q.1 (by assumption)) | exact (fun q => absurd q.2.1 (by assumption)) | exact (fun q => absurd q.2.2 (by assumption)) | exact (fun q => absurd q.2.2.1 (by assumption)) | exact (fun q => absurd q.2.2.2 (by assumption)) | exact isRole_no (by assumption) (by assumption) (by assumption) (by assumption) | exact isRole_nb (by assumption) (by assumption) (by assumption) (by assumption) | exact isRole_out (by assumption) | exact enc_use (by assumption) (by assumption) (by assumption) | exact enc_103 (by assumption) | exact enc_103 (Eq.symm (by assumption)) | exact enc_115 (Eq.symm (by assumption)) | exact enc_102 (Eq.symm (by assumption)) | exact enc_98 (Eq.symm (by assumption)) | exact isRole_nc (by assumption) (by assumption) (by assumption) (by assumption) | exact enc_115 (by assumption) | exact enc_102 (by assumption) | exact enc_98 (by assumption) | exact Or.inr (by assumption) | rfl | exact Or.inl (by assumption) | exact Or.inr (Or.inl (by assumption)) | exact Or.inr (Or.inr (Or.inl (by assumption))) | exact Or.inr (Or.inr (Or.inr (by assumption))) | decide)⟩, hS.F ht⟩) hS.2.2 (Nat.le_of_ble_eq_true rfl) (Nat.le_of_ble_eq_true rfl)
  · obtain ⟨hP, hD, hK⟩ := q_join (D := D) (wc := [(xo, .inr (11, [.ref xg, .int 0, .ref xp, .int 0, .ref xq, .int 0, .ref r1, .ref r2, .ref r3, .ref r4, .ref se, .int ts, .int hq, .int 40, .int 0, .int 0]))]) (wr := [(r1, .inr (9, [.int 0, .int 0])), (r2, .inr (9, [.int 0, .int 0])), (r3, .inr (9, [.int 0, .int 0])), (r4, .inr (9, [.int 0, .int 0]))]) (w1 := [(xo, .inr (11, [.ref xg, .int 0, .ref xp, .int 0, .ref xq, .int 0, .ref r1, .ref r2, .ref r3, .ref r4, .ref se, .int ts, .int hq, .int 40, .int 0, .int 0]))]) (tyr := []) (ty1 := []) hP hD hK [0] [1, 2, 3, 4] [] rfl rfl (by decide) (by decide) rfl hFc hk1 ht hvm hB
    have hP : va_P D vwCl [(r1, .inr (9, [.int 0, .int 0])), (r2, .inr (9, [.int 0, .int 0])), (r3, .inr (9, [.int 0, .int 0])), (r4, .inr (9, [.int 0, .int 0])), (xo, .inr (11, [.ref xg, .int 0, .ref xp, .int 0, .ref xq, .int 0, .ref r1, .ref r2, .ref r3, .ref r4, .ref se, .int ts, .int hq, .int 40, .int 0, .int 0]))] H := hP
    have hD : va_D A [(r1, .inr (9, [.int 0, .int 0])), (r2, .inr (9, [.int 0, .int 0])), (r3, .inr (9, [.int 0, .int 0])), (r4, .inr (9, [.int 0, .int 0])), (xo, .inr (11, [.ref xg, .int 0, .ref xp, .int 0, .ref xq, .int 0, .ref r1, .ref r2, .ref r3, .ref r4, .ref se, .int ts, .int hq, .int 40, .int 0, .int 0]))] := hD
    have hK : va_K D vwCl [] s := hK
    refine W.widen (k := 1) (n := 6) (Nat.le_of_ble_eq_true rfl) (Nat.le_of_ble_eq_true rfl) ?_
    rcases w_254 with ⟨c_256, rfl⟩ | ⟨c_257, rfl⟩ | ⟨c_258, rfl⟩ | ⟨c_259, rfl⟩
    · refine W.eq (g2 := F0 m 5 ls [.ref r4]) rfl ?_
      refine va_getN (D := D) (cl := vwCl) (ci := 9) (v := .int 0) (C := RX4) (T := TX4) (N := 2) hx hb hts zuX6_pay_X4 hown hK hP 3 rfl rfl 1 (by decide) (va_Nw.use rfl (hT.2.1 ("Gatherhouse", 140, "Gatherhouse$Role", "paid", "I", "Gatherhouse") (by decide +kernel))) (fun _ h9 => h9) rfl dX6_pay_5 ?_
      refine vx_ret ?_
      exact W.iret (v := 0) hx hb hr (fun t ht hW => ⟨⟨0, (), rfl, ⟨(by first | assumption | exact inR_1 (by assumption) (by assumption) | exact inR_2 (by assumption) (by assumption) | exact inR_3 (by assumption) | exact inR_4 (by assumption) | exact inR_5 (by assumption) | exact ⟨by assumption, by assumption, by assumption, by assumption⟩ | exact ⟨by assumption, by assumption, by assumption⟩ | exact (fun q => absurd q.1 (by assumption)) | exact (fun q => absurd q.2.1 (by assumption)) | exact (fun q => absurd q.2.2 (by assumption)) | exact (fun q => absurd q.2.2.1 (by assumption)) | exact (fun q => absurd q.2.2.2 (by assumption)) | exact isRole_no (by assumption) (by assumption) (by assumption) (by assumption) | exact isRole_nb (by assumption) (by assumption) (by assumption) (by assumption) | exact isRole_out (by assumption) | exact enc_use (by assumption) (by assumption) (by assumption) | exact enc_103 (by assumption) | exact enc_103 (Eq.symm (by assumption)) | exact enc_115 (Eq.symm (by assumption)) | exact enc_102 (Eq.symm (by assumption)) | exact enc_98 (Eq.symm (by assumption)) | exact isRole_nc (by assumption) (by assumption) (by assumption) (by assumption) | exact enc_115 (by assumption) | exact enc_102 (by assumption) | exact enc_98 (by assumption) | exact Or.inr (by assumption) | rfl | exact Or.inl (by assumption) | exact Or.inr (Or.inl (by assumption)) | exact Or.inr (Or.inr (Or.inl (by assumption))) | exact Or.inr (Or.inr (Or.inr (by assumption))) | decide), rfl⟩, trivial⟩, hS.F ht⟩) hS.2.2 dX6_pay_8
    · refine W.eq (g2 := F0 m 5 ls [.ref r3]) rfl ?_
      refine va_getN (D := D) (cl := vwCl) (ci := 9) (v := .int 0) (C := RX4) (T := TX4) (N := 2) hx hb hts zuX6_pay_X4 hown hK hP 2 rfl rfl 1 (by decide) (va_Nw.use rfl (hT.2.1 ("Gatherhouse", 140, "Gatherhouse$Role", "paid", "I", "Gatherhouse") (by decide +kernel))) (fun _ h9 => h9) rfl dX6_pay_5 ?_
      refine vx_ret ?_
      exact W.iret (v := 0) hx hb hr (fun t ht hW => ⟨⟨0, (), rfl, ⟨(by first | assumption | exact inR_1 (by assumption) (by assumption) | exact inR_2 (by assumption) (by assumption) | exact inR_3 (by assumption) | exact inR_4 (by assumption) | exact inR_5 (by assumption) | exact ⟨by assumption, by assumption, by assumption, by assumption⟩ | exact ⟨by assumption, by assumption, by assumption⟩ | exact (fun q => absurd q.1 (by assumption)) | exact (fun q => absurd q.2.1 (by assumption)) | exact (fun q => absurd q.2.2 (by assumption)) | exact (fun q => absurd q.2.2.1 (by assumption)) | exact (fun q => absurd q.2.2.2 (by assumption)) | exact isRole_no (by assumption) (by assumption) (by assumption) (by assumption) | exact isRole_nb (by assumption) (by assumption) (by assumption) (by assumption) | exact isRole_out (by assumption) | exact enc_use (by assumption) (by assumption) (by assumption) | exact enc_103 (by assumption) | exact enc_103 (Eq.symm (by assumption)) | exact enc_115 (Eq.symm (by assumption)) | exact enc_102 (Eq.symm (by assumption)) | exact enc_98 (Eq.symm (by assumption)) | exact isRole_nc (by assumption) (by assumption) (by assumption) (by assumption) | exact enc_115 (by assumption) | exact enc_102 (by assumption) | exact enc_98 (by assumption) | exact Or.inr (by assumption) | rfl | exact Or.inl (by assumption) | exact Or.inr (Or.inl (by assumption)) | exact Or.inr (Or.inr (Or.inl (by assumption))) | exact Or.inr (Or.inr (Or.inr (by assumption))) | decide), rfl⟩, trivial⟩, hS.F ht⟩) hS.2.2 dX6_pay_8
    · refine W.eq (g2 := F0 m 5 ls [.ref r1]) rfl ?_
      refine va_getN (D := D) (cl := vwCl) (ci := 9) (v := .int 0) (C := RX4) (T := TX4) (N := 2) hx hb hts zuX6_pay_X4 hown hK hP 0 rfl rfl 1 (by decide) (va_Nw.use rfl (hT.2.1 ("Gatherhouse", 140, "Gatherhouse$Role", "paid", "I", "Gatherhouse") (by decide +kernel))) (fun _ h9 => h9) rfl dX6_pay_5 ?_
      refine vx_ret ?_
      exact W.iret (v := 0) hx hb hr (fun t ht hW => ⟨⟨0, (), rfl, ⟨(by first | assumption | exact inR_1 (by assumption) (by assumption) | exact inR_2 (by assumption) (by assumption) | exact inR_3 (by assumption) | exact inR_4 (by assumption) | exact inR_5 (by assumption) | exact ⟨by assumption, by assumption, by assumption, by assumption⟩ | exact ⟨by assumption, by assumption, by assumption⟩ | exact (fun q => absurd q.1 (by assumption)) | exact (fun q => absurd q.2.1 (by assumption)) | exact (fun q => absurd q.2.2 (by assumption)) | exact (fun q => absurd q.2.2.1 (by assumption)) | exact (fun q => absurd q.2.2.2 (by assumption)) | exact isRole_no (by assumption) (by assumption) (by assumption) (by assumption) | exact isRole_nb (by assumption) (by assumption) (by assumption) (by assumption) | exact isRole_out (by assumption) | exact enc_use (by assumption) (by assumption) (by assumption) | exact enc_103 (by assumption) | exact enc_103 (Eq.symm (by assumption)) | exact enc_115 (Eq.symm (by assumption)) | exact enc_102 (Eq.symm (by assumption)) | exact enc_98 (Eq.symm (by assumption)) | exact isRole_nc (by assumption) (by assumption) (by assumption) (by assumption) | exact enc_115 (by assumption) | exact enc_102 (by assumption) | exact enc_98 (by assumption) | exact Or.inr (by assumption) | rfl | exact Or.inl (by assumption) | exact Or.inr (Or.inl (by assumption)) | exact Or.inr (Or.inr (Or.inl (by assumption))) | exact Or.inr (Or.inr (Or.inr (by assumption))) | decide), rfl⟩, trivial⟩, hS.F ht⟩) hS.2.2 dX6_pay_8
    · refine W.eq (g2 := F0 m 5 ls [.ref r2]) rfl ?_
      refine va_getN (D := D) (cl := vwCl) (ci := 9) (v := .int 0) (C := RX4) (T := TX4) (N := 2) hx hb hts zuX6_pay_X4 hown hK hP 1 rfl rfl 1 (by decide) (va_Nw.use rfl (hT.2.1 ("Gatherhouse", 140, "Gatherhouse$Role", "paid", "I", "Gatherhouse") (by decide +kernel))) (fun _ h9 => h9) rfl dX6_pay_5 ?_
      refine vx_ret ?_
      exact W.iret (v := 0) hx hb hr (fun t ht hW => ⟨⟨0, (), rfl, ⟨(by first | assumption | exact inR_1 (by assumption) (by assumption) | exact inR_2 (by assumption) (by assumption) | exact inR_3 (by assumption) | exact inR_4 (by assumption) | exact inR_5 (by assumption) | exact ⟨by assumption, by assumption, by assumption, by assumption⟩ | exact ⟨by assumption, by assumption, by assumption⟩ | exact (fun q => absurd q.1 (by assumption)) | exact (fun q => absurd q.2.1 (by assumption)) | exact (fun q => absurd q.2.2 (by assumption)) | exact (fun q => absurd q.2.2.1 (by assumption)) | exact (fun q => absurd q.2.2.2 (by assumption)) | exact isRole_no (by assumption) (by assumption) (by assumption) (by assumption) | exact isRole_nb (by assumption) (by assumption) (by assumption) (by assumption) | exact isRole_out (by assumption) | exact enc_use (by assumption) (by assumption) (by assumption) | exact enc_103 (by assumption) | exact enc_103 (Eq.symm (by assumption)) | exact enc_115 (Eq.symm (by assumption)) | exact enc_102 (Eq.symm (by assumption)) | exact enc_98 (Eq.symm (by assumption)) | exact isRole_nc (by assumption) (by assumption) (by assumption) (by assumption) | exact enc_115 (by assumption) | exact enc_102 (by assumption) | exact enc_98 (by assumption) | exact Or.inr (by assumption) | rfl | exact Or.inl (by assumption) | exact Or.inr (Or.inl (by assumption)) | exact Or.inr (Or.inr (Or.inl (by assumption))) | exact Or.inr (Or.inr (Or.inr (by assumption))) | decide), rfl⟩, trivial⟩, hS.F ht⟩) hS.2.2 dX6_pay_8
theorem dX6_wholeShare_0 : decode cX6_wholeShare 0 = .ok (.aload_n 0, 1) := by decide +kernel
theorem dX6_wholeShare_1 : decode cX6_wholeShare 1 = .ok (.getfield 34, 3) := by decide +kernel
theorem dX6_wholeShare_4 : decode cX6_wholeShare 4 = .ok (.ifCond .gt 14, 3) := by decide +kernel
theorem dX6_wholeShare_7 : decode cX6_wholeShare 7 = .ok (.new 280, 3) := by decide +kernel
theorem dX6_wholeShare_10 : decode cX6_wholeShare 10 = .ok (.dup, 1) := by decide +kernel
theorem dX6_wholeShare_11 : decode cX6_wholeShare 11 = .ok (.ldc_w 358, 3) := by decide +kernel
theorem dX6_wholeShare_14 : decode cX6_wholeShare 14 = .ok (.invokespecial 284, 3) := by decide +kernel
theorem dX6_wholeShare_17 : decode cX6_wholeShare 17 = .ok (.athrow, 1) := by decide +kernel
def wzEX6_wholeShare : List Cond := [.code yX6_wholeShare cX6_wholeShare 2 (some .float), .fieldLink RX6 34 "Gatherhouse" "pieceCount" "I", .classLink RX6 280 "java/util/NoSuchElementException", .initialized "java/util/NoSuchElementException"]
def wzX6_wholeShare : List Cond := wzEX6_wholeShare ++ (u_ws RX6 TX6 16 ++ ((z_atN RX6 284 "java/util/NoSuchElementException" "java/lang/RuntimeException" ["java/lang/Exception"]).filter goodWord))
theorem zgEX6_wholeShare : wzEX6_wholeShare.all goodWord = true := by decide +kernel
theorem zuX6_wholeShare_X6 : ∀ w ∈ u_ws RX6 TX6 16, w ∈ wzX6_wholeShare := (fun _ h => (List.mem_append_right _ (List.mem_append_left _ h)))
theorem ztX6_wholeShare_X6_284 : ∀ w ∈ (z_atN RX6 284 "java/util/NoSuchElementException" "java/lang/RuntimeException" ["java/lang/Exception"]).filter goodWord, w ∈ wzX6_wholeShare := (fun _ h => (List.mem_append_right _ (List.mem_append_right _ h)))
set_option maxHeartbeats 4000000 in
set_option maxRecDepth 100000 in
theorem zc_X6_wholeShare (l : Launch) (hnt : l.stackTraces = false) (D : va_G) (G : Nat × Nat × Nat) (xo : Nat) (xg : Nat) (xp : Nat) (xq : Nat) (r1 : Nat) (r2 : Nat) (r3 : Nat) (r4 : Nat) (se : Nat) (ts : Int32) (hq : Int32) (sz : Nat) : vx_Met l yX6_wholeShare wzX6_wholeShare ({ frames := 6, cells := 1, slots := 6, locals := 82 }) (va_Pc [.ref xo] (p_RW D G [] [(xo, .inr (11, [.ref xg, .int 0, .ref xp, .int 0, .ref xq, .int 0, .ref r1, .ref r2, .ref r3, .ref r4, .ref se, .int ts, .int hq, .int 40, .int 0, .int 0]))] sz)) (va_Qf (fun (r : UInt32) (u : Unit) => False) (fun (u : Unit) (t : State) => True) (va_A [(xo, .inr (11, [.ref xg, .int 0, .ref xp, .int 0, .ref xq, .int 0, .ref r1, .ref r2, .ref r3, .ref r4, .ref se, .int ts, .int hq, .int 40, .int 0, .int 0]))] sz)) (vx_X (fun (_ : Unit) => True) (fun E (_ : Unit) (_ : State) => (E = "java/util/NoSuchElementException")) (va_A [(xo, .inr (11, [.ref xg, .int 0, .ref xp, .int 0, .ref xq, .int 0, .ref r1, .ref r2, .ref r3, .ref r4, .ref se, .int ts, .int hq, .int 40, .int 0, .int 0]))] sz)) 1 6 (va_A [(xo, .inr (11, [.ref xg, .int 0, .ref xp, .int 0, .ref xq, .int 0, .ref r1, .ref r2, .ref r3, .ref r4, .ref se, .int ts, .int hq, .int 40, .int 0, .int 0]))] sz) := by
  refine vx_ofW (cc := cX6_wholeShare) (maxL := 2) (ret := (some .float)) (by decide) rfl ?_
  intro p e s m args below meth c s₁ B hml hxt hv
  obtain ⟨rfl, hsz, hP, hK, hD0, hT, hZ⟩ := hv
  have hx := B.exec
  have hb := B.bytes
  have hr := B.returns
  have hts := atoms_spec (ws := wzX6_wholeShare) B.pre
  have hown : s.vm.findClass RX6 = some m.cls := findClass_of_methodNamed B.named
  have hlocks := B.notSynchronized
  subst hsz
  have hD := hD0.self (sz := s.heap.size)
  generalize hAe : va_A [(xo, .inr (11, [.ref xg, .int 0, .ref xp, .int 0, .ref xq, .int 0, .ref r1, .ref r2, .ref r3, .ref r4, .ref se, .int ts, .int hq, .int 40, .int 0, .int 0]))] s.heap.size = A at hD hZ ⊢
  have hA : ∀ q : Nat, s.heap.size ≤ q → A q := fun q h => by rw [← hAe]; exact Or.inr h
  have hS : va_S A s.heap s.heap [] := va_S.rf
  have hl := lv_entry ([.ref xo]) (n := 2) (Nat.le_of_ble_eq_true rfl)
  rw [lg_entry_eq]
  generalize (lg_sl ([.ref xo]) ++ List.replicate (2 - (lg_sl ([.ref xo])).length) Slot.unset).toArray = ls at hl ⊢
  have hl : lv_has ls 2 [(0, .ref xo)] := hl
  refine lv_aload_n hx hb dX6_wholeShare_0 rfl (lv_at hl 0 rfl) ?_
  refine va_get (D := D) (cl := vwCl) (ci := 11) (v := .int 0) (C := RX6) (T := TX6) (N := 16) hx hb hts zuX6_wholeShare_X6 hown hK hP 0 rfl rfl 5 (by decide) (hts (.fieldLink RX6 34 "Gatherhouse" "pieceCount" "I") (by decide +kernel)) (fun _ h9 => h9) rfl dX6_wholeShare_1 ?_
  refine lv_if_gt (tgt := 18) hx hb dX6_wholeShare_4 (by decide) (fun cc => absurd cc (by decide)) (fun _ => ?_)
  obtain ⟨sa_260, hsa_260⟩ := hT.2.2.2.2.2.1 ("Gatherhouse", 358, "there are no pieces") (by decide +kernel)
  refine zx_throw (own := RX6) (cls := "java/util/NoSuchElementException") (up := "java/lang/RuntimeException") (r := ["java/lang/Exception"]) (A := A) hx hb hnt hown (by decide +kernel) (by decide +kernel) (by decide +kernel) (hts (.classLink RX6 280 "java/util/NoSuchElementException") (by decide +kernel)) (hts (.initialized "java/util/NoSuchElementException") (by decide +kernel)) hsa_260 (z_throwN (fun w h => hts w (ztX6_wholeShare_X6_284 w h)) (hT.2.2.1 ("java/util/NoSuchElementException", "java/util/NoSuchElementException") (by decide +kernel)) hT.2.2.2.2.2.2.2.1 (by decide +kernel)) (by decide +kernel) hZ.1 hZ.2.1 hS (hl.1.trans hml.symm) dX6_wholeShare_7 dX6_wholeShare_10 dX6_wholeShare_11 dX6_wholeShare_14 dX6_wholeShare_17 (fun x h => (hxt x h).elim) (Nat.le_of_ble_eq_true rfl) (Nat.le_of_ble_eq_true rfl) (Nat.le_of_ble_eq_true rfl) (Nat.le_of_ble_eq_true rfl) hlocks (fun t hvm hz1 hk1 => ⟨(), trivial, rfl, ⟨Nat.le_trans hS.1 hz1, fun q h1 h2 => (hk1 q (Nat.lt_of_lt_of_le h1 hS.1)).trans (hS.2.1 q h1 h2)⟩⟩) hS.2.2 (Nat.le_of_ble_eq_true rfl) (Nat.le_of_ble_eq_true rfl)
theorem dX6_meanMass_0 : decode cX6_meanMass 0 = .ok (.aload_n 0, 1) := by decide +kernel
theorem dX6_meanMass_1 : decode cX6_meanMass 1 = .ok (.getfield 34, 3) := by decide +kernel
theorem dX6_meanMass_4 : decode cX6_meanMass 4 = .ok (.ifCond .gt 14, 3) := by decide +kernel
theorem dX6_meanMass_7 : decode cX6_meanMass 7 = .ok (.new 280, 3) := by decide +kernel
theorem dX6_meanMass_10 : decode cX6_meanMass 10 = .ok (.dup, 1) := by decide +kernel
theorem dX6_meanMass_11 : decode cX6_meanMass 11 = .ok (.ldc_w 358, 3) := by decide +kernel
theorem dX6_meanMass_14 : decode cX6_meanMass 14 = .ok (.invokespecial 284, 3) := by decide +kernel
theorem dX6_meanMass_17 : decode cX6_meanMass 17 = .ok (.athrow, 1) := by decide +kernel
def wzEX6_meanMass : List Cond := [.code yX6_meanMass cX6_meanMass 6 (some .double), .fieldLink RX6 34 "Gatherhouse" "pieceCount" "I", .classLink RX6 280 "java/util/NoSuchElementException", .initialized "java/util/NoSuchElementException"]
def wzX6_meanMass : List Cond := wzEX6_meanMass ++ (u_ws RX6 TX6 16 ++ ((z_atN RX6 284 "java/util/NoSuchElementException" "java/lang/RuntimeException" ["java/lang/Exception"]).filter goodWord))
theorem zgEX6_meanMass : wzEX6_meanMass.all goodWord = true := by decide +kernel
theorem zuX6_meanMass_X6 : ∀ w ∈ u_ws RX6 TX6 16, w ∈ wzX6_meanMass := (fun _ h => (List.mem_append_right _ (List.mem_append_left _ h)))
theorem ztX6_meanMass_X6_284 : ∀ w ∈ (z_atN RX6 284 "java/util/NoSuchElementException" "java/lang/RuntimeException" ["java/lang/Exception"]).filter goodWord, w ∈ wzX6_meanMass := (fun _ h => (List.mem_append_right _ (List.mem_append_right _ h)))
set_option maxHeartbeats 4000000 in
set_option maxRecDepth 100000 in
theorem zc_X6_meanMass (l : Launch) (hnt : l.stackTraces = false) (D : va_G) (G : Nat × Nat × Nat) (xo : Nat) (xg : Nat) (xp : Nat) (xq : Nat) (r1 : Nat) (r2 : Nat) (r3 : Nat) (r4 : Nat) (se : Nat) (ts : Int32) (hq : Int32) (sz : Nat) : vx_Met l yX6_meanMass wzX6_meanMass ({ frames := 6, cells := 1, slots := 6, locals := 82 }) (va_Pc [.ref xo] (p_RW D G [] [(xo, .inr (11, [.ref xg, .int 0, .ref xp, .int 0, .ref xq, .int 0, .ref r1, .ref r2, .ref r3, .ref r4, .ref se, .int ts, .int hq, .int 40, .int 0, .int 0]))] sz)) (va_Qd (fun (r : UInt64) (u : Unit) => False) (fun (u : Unit) (t : State) => True) (va_A [(xo, .inr (11, [.ref xg, .int 0, .ref xp, .int 0, .ref xq, .int 0, .ref r1, .ref r2, .ref r3, .ref r4, .ref se, .int ts, .int hq, .int 40, .int 0, .int 0]))] sz)) (vx_X (fun (_ : Unit) => True) (fun E (_ : Unit) (_ : State) => (E = "java/util/NoSuchElementException")) (va_A [(xo, .inr (11, [.ref xg, .int 0, .ref xp, .int 0, .ref xq, .int 0, .ref r1, .ref r2, .ref r3, .ref r4, .ref se, .int ts, .int hq, .int 40, .int 0, .int 0]))] sz)) 1 6 (va_A [(xo, .inr (11, [.ref xg, .int 0, .ref xp, .int 0, .ref xq, .int 0, .ref r1, .ref r2, .ref r3, .ref r4, .ref se, .int ts, .int hq, .int 40, .int 0, .int 0]))] sz) := by
  refine vx_ofW (cc := cX6_meanMass) (maxL := 6) (ret := (some .double)) (by decide) rfl ?_
  intro p e s m args below meth c s₁ B hml hxt hv
  obtain ⟨rfl, hsz, hP, hK, hD0, hT, hZ⟩ := hv
  have hx := B.exec
  have hb := B.bytes
  have hr := B.returns
  have hts := atoms_spec (ws := wzX6_meanMass) B.pre
  have hown : s.vm.findClass RX6 = some m.cls := findClass_of_methodNamed B.named
  have hlocks := B.notSynchronized
  subst hsz
  have hD := hD0.self (sz := s.heap.size)
  generalize hAe : va_A [(xo, .inr (11, [.ref xg, .int 0, .ref xp, .int 0, .ref xq, .int 0, .ref r1, .ref r2, .ref r3, .ref r4, .ref se, .int ts, .int hq, .int 40, .int 0, .int 0]))] s.heap.size = A at hD hZ ⊢
  have hA : ∀ q : Nat, s.heap.size ≤ q → A q := fun q h => by rw [← hAe]; exact Or.inr h
  have hS : va_S A s.heap s.heap [] := va_S.rf
  have hl := lv_entry ([.ref xo]) (n := 6) (Nat.le_of_ble_eq_true rfl)
  rw [lg_entry_eq]
  generalize (lg_sl ([.ref xo]) ++ List.replicate (6 - (lg_sl ([.ref xo])).length) Slot.unset).toArray = ls at hl ⊢
  have hl : lv_has ls 6 [(0, .ref xo)] := hl
  refine lv_aload_n hx hb dX6_meanMass_0 rfl (lv_at hl 0 rfl) ?_
  refine va_get (D := D) (cl := vwCl) (ci := 11) (v := .int 0) (C := RX6) (T := TX6) (N := 16) hx hb hts zuX6_meanMass_X6 hown hK hP 0 rfl rfl 5 (by decide) (hts (.fieldLink RX6 34 "Gatherhouse" "pieceCount" "I") (by decide +kernel)) (fun _ h9 => h9) rfl dX6_meanMass_1 ?_
  refine lv_if_gt (tgt := 18) hx hb dX6_meanMass_4 (by decide) (fun cc => absurd cc (by decide)) (fun _ => ?_)
  obtain ⟨sa_261, hsa_261⟩ := hT.2.2.2.2.2.1 ("Gatherhouse", 358, "there are no pieces") (by decide +kernel)
  refine zx_throw (own := RX6) (cls := "java/util/NoSuchElementException") (up := "java/lang/RuntimeException") (r := ["java/lang/Exception"]) (A := A) hx hb hnt hown (by decide +kernel) (by decide +kernel) (by decide +kernel) (hts (.classLink RX6 280 "java/util/NoSuchElementException") (by decide +kernel)) (hts (.initialized "java/util/NoSuchElementException") (by decide +kernel)) hsa_261 (z_throwN (fun w h => hts w (ztX6_meanMass_X6_284 w h)) (hT.2.2.1 ("java/util/NoSuchElementException", "java/util/NoSuchElementException") (by decide +kernel)) hT.2.2.2.2.2.2.2.1 (by decide +kernel)) (by decide +kernel) hZ.1 hZ.2.1 hS (hl.1.trans hml.symm) dX6_meanMass_7 dX6_meanMass_10 dX6_meanMass_11 dX6_meanMass_14 dX6_meanMass_17 (fun x h => (hxt x h).elim) (Nat.le_of_ble_eq_true rfl) (Nat.le_of_ble_eq_true rfl) (Nat.le_of_ble_eq_true rfl) (Nat.le_of_ble_eq_true rfl) hlocks (fun t hvm hz1 hk1 => ⟨(), trivial, rfl, ⟨Nat.le_trans hS.1 hz1, fun q h1 h2 => (hk1 q (Nat.lt_of_lt_of_le h1 hS.1)).trans (hS.2.1 q h1 h2)⟩⟩) hS.2.2 (Nat.le_of_ble_eq_true rfl) (Nat.le_of_ble_eq_true rfl)
theorem zgU_X5 : (u_ws RX5 TX5 7).all goodWord = true := by decide +kernel
theorem dX6_set_0 : decode cX6_set 0 = .ok (.iload_n 1, 1) := by decide +kernel
theorem dX6_set_1 : decode cX6_set 1 = .ok (.iconst 2, 1) := by decide +kernel
theorem dX6_set_2 : decode cX6_set 2 = .ok (.bipush 6, 2) := by decide +kernel
theorem dX6_set_4 : decode cX6_set 4 = .ok (.invokestatic 75, 3) := by decide +kernel
theorem dX6_set_7 : decode cX6_set 7 = .ok (.iload_n 2, 1) := by decide +kernel
theorem dX6_set_8 : decode cX6_set 8 = .ok (.iconst 1, 1) := by decide +kernel
theorem dX6_set_9 : decode cX6_set 9 = .ok (.bipush 8, 2) := by decide +kernel
theorem dX6_set_11 : decode cX6_set 11 = .ok (.invokestatic 75, 3) := by decide +kernel
theorem dX6_set_14 : decode cX6_set 14 = .ok (.iload_n 3, 1) := by decide +kernel
theorem dX6_set_15 : decode cX6_set 15 = .ok (.iconst 0, 1) := by decide +kernel
theorem dX6_set_16 : decode cX6_set 16 = .ok (.bipush 99, 2) := by decide +kernel
theorem dX6_set_18 : decode cX6_set 18 = .ok (.invokestatic 75, 3) := by decide +kernel
theorem dX6_set_21 : decode cX6_set 21 = .ok (.aload_n 0, 1) := by decide +kernel
theorem dX6_set_22 : decode cX6_set 22 = .ok (.getfield 56, 3) := by decide +kernel
theorem dX6_set_25 : decode cX6_set 25 = .ok (.invokevirtual 320, 3) := by decide +kernel
theorem dX6_set_28 : decode cX6_set 28 = .ok (.iconst 0, 1) := by decide +kernel
theorem dX6_set_29 : decode cX6_set 29 = .ok (.istore 4, 2) := by decide +kernel
theorem dX6_set_31 : decode cX6_set 31 = .ok (.iload 4, 2) := by decide +kernel
theorem dX6_set_33 : decode cX6_set 33 = .ok (.aload_n 0, 1) := by decide +kernel
theorem dX6_set_34 : decode cX6_set 34 = .ok (.getfield 30, 3) := by decide +kernel
theorem dX6_set_37 : decode cX6_set 37 = .ok (.arraylength, 1) := by decide +kernel
theorem dX6_set_38 : decode cX6_set 38 = .ok (.if_icmp .ge 51, 3) := by decide +kernel
theorem dX6_set_41 : decode cX6_set 41 = .ok (.aload_n 0, 1) := by decide +kernel
theorem dX6_set_42 : decode cX6_set 42 = .ok (.getfield 30, 3) := by decide +kernel
theorem dX6_set_45 : decode cX6_set 45 = .ok (.iload 4, 2) := by decide +kernel
theorem dX6_set_47 : decode cX6_set 47 = .ok (.aaload, 1) := by decide +kernel
theorem dX6_set_48 : decode cX6_set 48 = .ok (.astore 5, 2) := by decide +kernel
theorem dX6_set_50 : decode cX6_set 50 = .ok (.aload 5, 2) := by decide +kernel
theorem dX6_set_52 : decode cX6_set 52 = .ok (.ifnull 31, 3) := by decide +kernel
theorem dX6_set_83 : decode cX6_set 83 = .ok (.iinc 4 1, 3) := by decide +kernel
theorem dX6_set_86 : decode cX6_set 86 = .ok (.goto (-55), 3) := by decide +kernel
theorem dX6_set_89 : decode cX6_set 89 = .ok (.aload_n 0, 1) := by decide +kernel
theorem dX6_set_90 : decode cX6_set 90 = .ok (.getfield 56, 3) := by decide +kernel
theorem dX6_set_93 : decode cX6_set 93 = .ok (.getfield 329, 3) := by decide +kernel
theorem dX6_set_96 : decode cX6_set 96 = .ok (.iload_n 1, 1) := by decide +kernel
theorem dX6_set_97 : decode cX6_set 97 = .ok (.if_icmp .ge 14, 3) := by decide +kernel
theorem dX6_set_100 : decode cX6_set 100 = .ok (.new 280, 3) := by decide +kernel
theorem dX6_set_103 : decode cX6_set 103 = .ok (.dup, 1) := by decide +kernel
theorem dX6_set_104 : decode cX6_set 104 = .ok (.ldc_w 332, 3) := by decide +kernel
theorem dX6_set_107 : decode cX6_set 107 = .ok (.invokespecial 284, 3) := by decide +kernel
theorem dX6_set_110 : decode cX6_set 110 = .ok (.athrow, 1) := by decide +kernel
def wzEX6_set : List Cond := [.code yX6_set cX6_set 6 (some .int), .methodLink RX6 75 yX6_checkRange, .static yX6_checkRange, .initialized RX6, .code yX6_checkRange cX6_checkRange 3 none, .classLink RX6 118 "java/lang/IllegalArgumentException", .initialized "java/lang/IllegalArgumentException", .fieldLink RX6 56 "Gatherhouse" "search" "LGatherhouse$SetSearch;", .code yX5_begin cX5_begin 1 none, .fieldLink RX5 21 "Gatherhouse$SetSearch" "size" "I", .constant RX5 36 (2147483647), .fieldLink RX5 25 "Gatherhouse$SetSearch" "bestApart" "I", .fieldLink RX5 28 "Gatherhouse$SetSearch" "bestMass" "I", .fieldLink RX5 31 "Gatherhouse$SetSearch" "bestChoice" "I", .initialized RX5, .instanceMethod yX5_begin, .selects RX5 yX5_begin yX5_begin, .fieldLink RX6 30 "Gatherhouse" "pieces" "[LGatherhouse$Piece;", .classLink RX6 280 "java/util/NoSuchElementException", .initialized "java/util/NoSuchElementException"]
def wzX6_set : List Cond := wzEX6_set ++ (u_ws RX6 TX6 16 ++ (u_ws RX5 TX5 7 ++ ((vx_atS RX6 122 "java/lang/IllegalArgumentException" ["java/lang/RuntimeException", "java/lang/Exception"]).filter goodWord ++ ((z_atN RX6 284 "java/util/NoSuchElementException" "java/lang/RuntimeException" ["java/lang/Exception"]).filter goodWord))))
theorem zgEX6_set : wzEX6_set.all goodWord = true := by decide +kernel
theorem zuX6_set_X6 : ∀ w ∈ u_ws RX6 TX6 16, w ∈ wzX6_set := (fun _ h => (List.mem_append_right _ (List.mem_append_left _ h)))
theorem zuX6_set_X5 : ∀ w ∈ u_ws RX5 TX5 7, w ∈ wzX6_set := (fun _ h => (List.mem_append_right _ (List.mem_append_right _ (List.mem_append_left _ h))))
theorem ztX6_set_X6_122 : ∀ w ∈ (vx_atS RX6 122 "java/lang/IllegalArgumentException" ["java/lang/RuntimeException", "java/lang/Exception"]).filter goodWord, w ∈ wzX6_set := (fun _ h => (List.mem_append_right _ (List.mem_append_right _ (List.mem_append_right _ (List.mem_append_left _ h)))))
theorem ztX6_set_X6_284 : ∀ w ∈ (z_atN RX6 284 "java/util/NoSuchElementException" "java/lang/RuntimeException" ["java/lang/Exception"]).filter goodWord, w ∈ wzX6_set := (fun _ h => (List.mem_append_right _ (List.mem_append_right _ (List.mem_append_right _ (List.mem_append_right _ h)))))
theorem gzX6_set_X6_checkRange_75 : GoodIn wzX6_set (va_wsS RX6 75 yX6_checkRange wzX6_checkRange) := (goodIn_app (z_lift (goodIn_r _ [1, 2, 3] rfl (by decide +kernel))) (goodIn_app (z_lift (goodIn_r wzEX6_checkRange [4, 5, 6] rfl zgEX6_checkRange)) (goodIn_sub (fun _ h => (List.mem_append_right _ (List.mem_append_right _ (List.mem_append_right _ (List.mem_append_left _ h))))) zgV_X6_122)))
theorem gzX6_set_X5_begin_320 : GoodIn wzX6_set (wzX5_begin) := (goodIn_app (z_lift (goodIn_r wzEX5_begin [8, 9, 10, 11, 12, 13] rfl zgEX5_begin)) (goodIn_sub (fun _ h => (List.mem_append_right _ (List.mem_append_right _ (List.mem_append_left _ h)))) zgU_X5))
set_option maxHeartbeats 4000000 in
set_option maxRecDepth 100000 in
theorem zc_X6_set (l : Launch) (hnt : l.stackTraces = false) (D : va_G) (G : Nat × Nat × Nat) (xo : Nat) (xg : Nat) (xp : Nat) (xq : Nat) (r1 : Nat) (r2 : Nat) (r3 : Nat) (r4 : Nat) (se : Nat) (ts : Int32) (hq : Int32) (cq : ClassId) (n1 : Nat) (n2 : Nat) (n3 : Nat) (ii : Int32) (jj : Int32) (kk : Int32) (sz : Nat) : vx_Met l yX6_set wzX6_set ({ frames := 7, cells := 4, slots := 24, locals := 104 }) (va_Pc [.ref xo, .int ii, .int jj, .int kk] (p_RW D G [(cq, .object "Gatherhouse$Piece")] [(xo, .inr (11, [.ref xg, .int 0, .ref xp, .int 0, .ref xq, .int 0, .ref r1, .ref r2, .ref r3, .ref r4, .ref se, .int ts, .int hq, .int 40, .int 0, .int 0])), (xq, .inl (cq, 16, .inr (.inr (.inr (.inr (fun _ => none)))))), (se, .inr (10, [.ref n1, .ref n2, .ref n3, .int 0, .int 0, .int 0, .int 0]))] sz)) (va_Qi (fun (r : Int32) (u : Unit) => False) (fun (u : Unit) (t : State) => True) (va_A [(xo, .inr (11, [.ref xg, .int 0, .ref xp, .int 0, .ref xq, .int 0, .ref r1, .ref r2, .ref r3, .ref r4, .ref se, .int ts, .int hq, .int 40, .int 0, .int 0])), (xq, .inl (cq, 16, .inr (.inr (.inr (.inr (fun _ => none)))))), (se, .inr (10, [.ref n1, .ref n2, .ref n3, .int 0, .int 0, .int 0, .int 0]))] sz)) (vx_X (fun (_ : Unit) => True) (fun E (_ : Unit) (_ : State) => (E = "java/lang/IllegalArgumentException" ∧ (¬ sOK ii jj kk)) ∨ (E = "java/util/NoSuchElementException" ∧ (sOK ii jj kk))) (va_A [(xo, .inr (11, [.ref xg, .int 0, .ref xp, .int 0, .ref xq, .int 0, .ref r1, .ref r2, .ref r3, .ref r4, .ref se, .int ts, .int hq, .int 40, .int 0, .int 0])), (xq, .inl (cq, 16, .inr (.inr (.inr (.inr (fun _ => none)))))), (se, .inr (10, [.ref n1, .ref n2, .ref n3, .int 0, .int 0, .int 0, .int 0]))] sz)) 4 24 (va_A [(xo, .inr (11, [.ref xg, .int 0, .ref xp, .int 0, .ref xq, .int 0, .ref r1, .ref r2, .ref r3, .ref r4, .ref se, .int ts, .int hq, .int 40, .int 0, .int 0])), (xq, .inl (cq, 16, .inr (.inr (.inr (.inr (fun _ => none)))))), (se, .inr (10, [.ref n1, .ref n2, .ref n3, .int 0, .int 0, .int 0, .int 0]))] sz) := by
  refine vx_ofW (cc := cX6_set) (maxL := 6) (ret := (some .int)) (by decide) rfl ?_
  intro p e s m args below meth c s₁ B hml hxt hv
  obtain ⟨rfl, hsz, hP, hK, hD0, hT, hZ⟩ := hv
  have hx := B.exec
  have hb := B.bytes
  have hr := B.returns
  have hts := atoms_spec (ws := wzX6_set) B.pre
  have hown : s.vm.findClass RX6 = some m.cls := findClass_of_methodNamed B.named
  have hlocks := B.notSynchronized
  subst hsz
  have hD := hD0.self (sz := s.heap.size)
  generalize hAe : va_A [(xo, .inr (11, [.ref xg, .int 0, .ref xp, .int 0, .ref xq, .int 0, .ref r1, .ref r2, .ref r3, .ref r4, .ref se, .int ts, .int hq, .int 40, .int 0, .int 0])), (xq, .inl (cq, 16, .inr (.inr (.inr (.inr (fun _ => none)))))), (se, .inr (10, [.ref n1, .ref n2, .ref n3, .int 0, .int 0, .int 0, .int 0]))] s.heap.size = A at hD hZ ⊢
  have hA : ∀ q : Nat, s.heap.size ≤ q → A q := fun q h => by rw [← hAe]; exact Or.inr h
  have hS : va_S A s.heap s.heap [] := va_S.rf
  have hl := lv_entry ([.ref xo, .int ii, .int jj, .int kk]) (n := 6) (Nat.le_of_ble_eq_true rfl)
  rw [lg_entry_eq]
  generalize (lg_sl ([.ref xo, .int ii, .int jj, .int kk]) ++ List.replicate (6 - (lg_sl ([.ref xo, .int ii, .int jj, .int kk])).length) Slot.unset).toArray = ls at hl ⊢
  have hl : lv_has ls 6 [(0, .ref xo), (1, .int ii), (2, .int jj), (3, .int kk)] := hl
  refine lv_iload_n hx hb dX6_set_0 rfl (lv_at hl 1 rfl) ?_
  refine lv_iconst (v := 2) hx hb dX6_set_1 (by decide) ?_
  refine lv_bipush (v := 6) hx hb dX6_set_2 (by decide) ?_
  have hFc := va_free (wc := []) hD hS hA [] rfl
  refine vx_callv (vx_runS (As := [.int ii, .int 2, .int 6]) (rest := []) ⟨hx, hb, hml, hown, hts⟩ (zc_X6_checkRange l hnt D G ii 2 6 s.heap.size) (cwS 3 hts gzX6_set_X6_checkRange_75 rfl rfl rfl (by decide +kernel) ⟨(Nat.le_of_ble_eq_true rfl), (Nat.le_of_ble_eq_true rfl)⟩) ⟨p_RW_blind, (p_RW_at (tc := []) (wc := []) hP hK hD hS hA hT hZ [] [] rfl rfl (by decide) rfl [.int ii, .int 2, .int 6])⟩ rfl rfl hl.1 rfl (lv_room (Nat.le_of_ble_eq_true rfl)) dX6_set_4 ⟨(Nat.le_of_ble_eq_true rfl), (Nat.le_of_ble_eq_true rfl)⟩) hS (fun q _ h => hFc q h) hFc (fun q _ h => hFc q h) (fun E ce q9 u t H locs ht hvm hpx hBX hz1 hk1 hS hce hcv hcl => ?_) (fun u t H locs ht hvm w_263 hB hz1 hk1 hS => ?_)
  · have hBX : (E = "java/lang/IllegalArgumentException" ∧ (¬ inR ii 2 6)) := hBX
    rcases hBX with ⟨rfl, c_264⟩
    exact vx_out (fun x h => (hxt x h).elim) hlocks hce hcv hcl (fun t ht _ => ⟨(), trivial, (Or.inl (⟨rfl, (by first | assumption | exact inR_1 (by assumption) (by assumption) | exact inR_2 (by assumption) (by assumption) | exact inR_3 (by assumption) | exact inR_4 (by assumption) | exact inR_5 (by assumption) | exact ⟨by assumption, by assumption, by assumption, by assumption⟩ | exact ⟨by assumption, by assumption, by assumption⟩ | exact (fun q => absurd q.1 (by assumption)) | exact (fun q => absurd q.2.1 (by assumption)) | exact (fun q => absurd q.2.2 (by assumption)) | exact (fun q => absurd q.2.2.1 (by assumption)) | exact (fun q => absurd q.2.2.2 (by assumption)) | exact isRole_no (by assumption) (by assumption) (by assumption) (by assumption) | exact isRole_nb (by assumption) (by assumption) (by assumption) (by assumption) | exact isRole_out (by assumption) | exact enc_use (by assumption) (by assumption) (by assumption) | exact enc_103 (by assumption) | exact enc_103 (Eq.symm (by assumption)) | exact enc_115 (Eq.symm (by assumption)) | exact enc_102 (Eq.symm (by assumption)) | exact enc_98 (Eq.symm (by assumption)) | exact isRole_nc (by assumption) (by assumption) (by assumption) (by assumption) | exact enc_115 (by assumption) | exact enc_102 (by assumption) | exact enc_98 (by assumption) | exact Or.inr (by assumption) | rfl | exact Or.inl (by assumption) | exact Or.inr (Or.inl (by assumption)) | exact Or.inr (Or.inr (Or.inl (by assumption))) | exact Or.inr (Or.inr (Or.inr (by assumption))) | decide)⟩)), hS.F ht⟩) hS.2.2 (Nat.le_of_ble_eq_true rfl) (Nat.le_of_ble_eq_true rfl)
  · obtain ⟨hP, hD, hK⟩ := q_join (D := D) (wc := []) (wr := [(xo, .inr (11, [.ref xg, .int 0, .ref xp, .int 0, .ref xq, .int 0, .ref r1, .ref r2, .ref r3, .ref r4, .ref se, .int ts, .int hq, .int 40, .int 0, .int 0])), (xq, .inl (cq, 16, .inr (.inr (.inr (.inr (fun _ => none)))))), (se, .inr (10, [.ref n1, .ref n2, .ref n3, .int 0, .int 0, .int 0, .int 0]))]) (w1 := []) (tyr := [(cq, .object "Gatherhouse$Piece")]) (ty1 := []) hP hD hK [] [0, 1, 2] [0] rfl rfl (by decide) (by decide) rfl hFc hk1 ht hvm (q_none hK hvm)
    have hP : va_P D vwCl [(xo, .inr (11, [.ref xg, .int 0, .ref xp, .int 0, .ref xq, .int 0, .ref r1, .ref r2, .ref r3, .ref r4, .ref se, .int ts, .int hq, .int 40, .int 0, .int 0])), (xq, .inl (cq, 16, .inr (.inr (.inr (.inr (fun _ => none)))))), (se, .inr (10, [.ref n1, .ref n2, .ref n3, .int 0, .int 0, .int 0, .int 0]))] H := hP
    have hD : va_D A [(xo, .inr (11, [.ref xg, .int 0, .ref xp, .int 0, .ref xq, .int 0, .ref r1, .ref r2, .ref r3, .ref r4, .ref se, .int ts, .int hq, .int 40, .int 0, .int 0])), (xq, .inl (cq, 16, .inr (.inr (.inr (.inr (fun _ => none)))))), (se, .inr (10, [.ref n1, .ref n2, .ref n3, .int 0, .int 0, .int 0, .int 0]))] := hD
    have hK : va_K D vwCl [(cq, .object "Gatherhouse$Piece")] s := hK
    refine W.widen (k := 1) (n := 6) (Nat.le_of_ble_eq_true rfl) (Nat.le_of_ble_eq_true rfl) ?_
    have c_265 := w_263
    refine lv_iload_n hx hb dX6_set_7 rfl (lv_at hl 2 rfl) ?_
    refine lv_iconst (v := 1) hx hb dX6_set_8 (by decide) ?_
    refine lv_bipush (v := 8) hx hb dX6_set_9 (by decide) ?_
    have hFc := va_free (wc := []) hD hS hA [] rfl
    refine vx_callv (vx_runS (As := [.int jj, .int 1, .int 8]) (rest := []) ⟨hx, hb, hml, hown, hts⟩ (zc_X6_checkRange l hnt D G jj 1 8 H.size) (cwS 3 hts gzX6_set_X6_checkRange_75 rfl rfl rfl (by decide +kernel) ⟨(Nat.le_of_ble_eq_true rfl), (Nat.le_of_ble_eq_true rfl)⟩) ⟨p_RW_blind, (p_RW_at (tc := []) (wc := []) hP hK hD hS hA hT hZ [] [] rfl rfl (by decide) rfl [.int jj, .int 1, .int 8])⟩ rfl rfl hl.1 rfl (lv_room (Nat.le_of_ble_eq_true rfl)) dX6_set_11 ⟨(Nat.le_of_ble_eq_true rfl), (Nat.le_of_ble_eq_true rfl)⟩) hS (fun q _ h => hFc q h) hFc (fun q _ h => hFc q h) (fun E ce q9 u t H locs ht hvm hpx hBX hz1 hk1 hS hce hcv hcl => ?_) (fun u t H locs ht hvm w_267 hB hz1 hk1 hS => ?_)
    · have hBX : (E = "java/lang/IllegalArgumentException" ∧ (¬ inR jj 1 8)) := hBX
      rcases hBX with ⟨rfl, c_268⟩
      exact vx_out (fun x h => (hxt x h).elim) hlocks hce hcv hcl (fun t ht _ => ⟨(), trivial, (Or.inl (⟨rfl, (by first | assumption | exact inR_1 (by assumption) (by assumption) | exact inR_2 (by assumption) (by assumption) | exact inR_3 (by assumption) | exact inR_4 (by assumption) | exact inR_5 (by assumption) | exact ⟨by assumption, by assumption, by assumption, by assumption⟩ | exact ⟨by assumption, by assumption, by assumption⟩ | exact (fun q => absurd q.1 (by assumption)) | exact (fun q => absurd q.2.1 (by assumption)) | exact (fun q => absurd q.2.2 (by assumption)) | exact (fun q => absurd q.2.2.1 (by assumption)) | exact (fun q => absurd q.2.2.2 (by assumption)) | exact isRole_no (by assumption) (by assumption) (by assumption) (by assumption) | exact isRole_nb (by assumption) (by assumption) (by assumption) (by assumption) | exact isRole_out (by assumption) | exact enc_use (by assumption) (by assumption) (by assumption) | exact enc_103 (by assumption) | exact enc_103 (Eq.symm (by assumption)) | exact enc_115 (Eq.symm (by assumption)) | exact enc_102 (Eq.symm (by assumption)) | exact enc_98 (Eq.symm (by assumption)) | exact isRole_nc (by assumption) (by assumption) (by assumption) (by assumption) | exact enc_115 (by assumption) | exact enc_102 (by assumption) | exact enc_98 (by assumption) | exact Or.inr (by assumption) | rfl | exact Or.inl (by assumption) | exact Or.inr (Or.inl (by assumption)) | exact Or.inr (Or.inr (Or.inl (by assumption))) | exact Or.inr (Or.inr (Or.inr (by assumption))) | decide)⟩)), hS.F ht⟩) hS.2.2 (Nat.le_of_ble_eq_true rfl) (Nat.le_of_ble_eq_true rfl)
    · obtain ⟨hP, hD, hK⟩ := q_join (D := D) (wc := []) (wr := [(xo, .inr (11, [.ref xg, .int 0, .ref xp, .int 0, .ref xq, .int 0, .ref r1, .ref r2, .ref r3, .ref r4, .ref se, .int ts, .int hq, .int 40, .int 0, .int 0])), (xq, .inl (cq, 16, .inr (.inr (.inr (.inr (fun _ => none)))))), (se, .inr (10, [.ref n1, .ref n2, .ref n3, .int 0, .int 0, .int 0, .int 0]))]) (w1 := []) (tyr := [(cq, .object "Gatherhouse$Piece")]) (ty1 := []) hP hD hK [] [0, 1, 2] [0] rfl rfl (by decide) (by decide) rfl hFc hk1 ht hvm (q_none hK hvm)
      have hP : va_P D vwCl [(xo, .inr (11, [.ref xg, .int 0, .ref xp, .int 0, .ref xq, .int 0, .ref r1, .ref r2, .ref r3, .ref r4, .ref se, .int ts, .int hq, .int 40, .int 0, .int 0])), (xq, .inl (cq, 16, .inr (.inr (.inr (.inr (fun _ => none)))))), (se, .inr (10, [.ref n1, .ref n2, .ref n3, .int 0, .int 0, .int 0, .int 0]))] H := hP
      have hD : va_D A [(xo, .inr (11, [.ref xg, .int 0, .ref xp, .int 0, .ref xq, .int 0, .ref r1, .ref r2, .ref r3, .ref r4, .ref se, .int ts, .int hq, .int 40, .int 0, .int 0])), (xq, .inl (cq, 16, .inr (.inr (.inr (.inr (fun _ => none)))))), (se, .inr (10, [.ref n1, .ref n2, .ref n3, .int 0, .int 0, .int 0, .int 0]))] := hD
      have hK : va_K D vwCl [(cq, .object "Gatherhouse$Piece")] s := hK
      refine W.widen (k := 2) (n := 12) (Nat.le_of_ble_eq_true rfl) (Nat.le_of_ble_eq_true rfl) ?_
      have c_269 := w_267
      refine lv_iload_n hx hb dX6_set_14 rfl (lv_at hl 3 rfl) ?_
      refine lv_iconst (v := 0) hx hb dX6_set_15 (by decide) ?_
      refine lv_bipush (v := 99) hx hb dX6_set_16 (by decide) ?_
      have hFc := va_free (wc := []) hD hS hA [] rfl
      refine vx_callv (vx_runS (As := [.int kk, .int 0, .int 99]) (rest := []) ⟨hx, hb, hml, hown, hts⟩ (zc_X6_checkRange l hnt D G kk 0 99 H.size) (cwS 3 hts gzX6_set_X6_checkRange_75 rfl rfl rfl (by decide +kernel) ⟨(Nat.le_of_ble_eq_true rfl), (Nat.le_of_ble_eq_true rfl)⟩) ⟨p_RW_blind, (p_RW_at (tc := []) (wc := []) hP hK hD hS hA hT hZ [] [] rfl rfl (by decide) rfl [.int kk, .int 0, .int 99])⟩ rfl rfl hl.1 rfl (lv_room (Nat.le_of_ble_eq_true rfl)) dX6_set_18 ⟨(Nat.le_of_ble_eq_true rfl), (Nat.le_of_ble_eq_true rfl)⟩) hS (fun q _ h => hFc q h) hFc (fun q _ h => hFc q h) (fun E ce q9 u t H locs ht hvm hpx hBX hz1 hk1 hS hce hcv hcl => ?_) (fun u t H locs ht hvm w_271 hB hz1 hk1 hS => ?_)
      · have hBX : (E = "java/lang/IllegalArgumentException" ∧ (¬ inR kk 0 99)) := hBX
        rcases hBX with ⟨rfl, c_272⟩
        exact vx_out (fun x h => (hxt x h).elim) hlocks hce hcv hcl (fun t ht _ => ⟨(), trivial, (Or.inl (⟨rfl, (by first | assumption | exact inR_1 (by assumption) (by assumption) | exact inR_2 (by assumption) (by assumption) | exact inR_3 (by assumption) | exact inR_4 (by assumption) | exact inR_5 (by assumption) | exact ⟨by assumption, by assumption, by assumption, by assumption⟩ | exact ⟨by assumption, by assumption, by assumption⟩ | exact (fun q => absurd q.1 (by assumption)) | exact (fun q => absurd q.2.1 (by assumption)) | exact (fun q => absurd q.2.2 (by assumption)) | exact (fun q => absurd q.2.2.1 (by assumption)) | exact (fun q => absurd q.2.2.2 (by assumption)) | exact isRole_no (by assumption) (by assumption) (by assumption) (by assumption) | exact isRole_nb (by assumption) (by assumption) (by assumption) (by assumption) | exact isRole_out (by assumption) | exact enc_use (by assumption) (by assumption) (by assumption) | exact enc_103 (by assumption) | exact enc_103 (Eq.symm (by assumption)) | exact enc_115 (Eq.symm (by assumption)) | exact enc_102 (Eq.symm (by assumption)) | exact enc_98 (Eq.symm (by assumption)) | exact isRole_nc (by assumption) (by assumption) (by assumption) (by assumption) | exact enc_115 (by assumption) | exact enc_102 (by assumption) | exact enc_98 (by assumption) | exact Or.inr (by assumption) | rfl | exact Or.inl (by assumption) | exact Or.inr (Or.inl (by assumption)) | exact Or.inr (Or.inr (Or.inl (by assumption))) | exact Or.inr (Or.inr (Or.inr (by assumption))) | decide)⟩)), hS.F ht⟩) hS.2.2 (Nat.le_of_ble_eq_true rfl) (Nat.le_of_ble_eq_true rfl)
      · obtain ⟨hP, hD, hK⟩ := q_join (D := D) (wc := []) (wr := [(xo, .inr (11, [.ref xg, .int 0, .ref xp, .int 0, .ref xq, .int 0, .ref r1, .ref r2, .ref r3, .ref r4, .ref se, .int ts, .int hq, .int 40, .int 0, .int 0])), (xq, .inl (cq, 16, .inr (.inr (.inr (.inr (fun _ => none)))))), (se, .inr (10, [.ref n1, .ref n2, .ref n3, .int 0, .int 0, .int 0, .int 0]))]) (w1 := []) (tyr := [(cq, .object "Gatherhouse$Piece")]) (ty1 := []) hP hD hK [] [0, 1, 2] [0] rfl rfl (by decide) (by decide) rfl hFc hk1 ht hvm (q_none hK hvm)
        have hP : va_P D vwCl [(xo, .inr (11, [.ref xg, .int 0, .ref xp, .int 0, .ref xq, .int 0, .ref r1, .ref r2, .ref r3, .ref r4, .ref se, .int ts, .int hq, .int 40, .int 0, .int 0])), (xq, .inl (cq, 16, .inr (.inr (.inr (.inr (fun _ => none)))))), (se, .inr (10, [.ref n1, .ref n2, .ref n3, .int 0, .int 0, .int 0, .int 0]))] H := hP
        have hD : va_D A [(xo, .inr (11, [.ref xg, .int 0, .ref xp, .int 0, .ref xq, .int 0, .ref r1, .ref r2, .ref r3, .ref r4, .ref se, .int ts, .int hq, .int 40, .int 0, .int 0])), (xq, .inl (cq, 16, .inr (.inr (.inr (.inr (fun _ => none)))))), (se, .inr (10, [.ref n1, .ref n2, .ref n3, .int 0, .int 0, .int 0, .int 0]))] := hD
        have hK : va_K D vwCl [(cq, .object "Gatherhouse$Piece")] s := hK
        refine W.widen (k := 3) (n := 18) (Nat.le_of_ble_eq_true rfl) (Nat.le_of_ble_eq_true rfl) ?_
        have c_273 := w_271
        refine lv_aload_n hx hb dX6_set_21 rfl (lv_at hl 0 rfl) ?_
        refine va_get (D := D) (cl := vwCl) (ci := 11) (v := .ref se) (C := RX6) (T := TX6) (N := 16) hx hb hts zuX6_set_X6 hown hK hP 0 rfl rfl 10 (by decide) (hts (.fieldLink RX6 56 "Gatherhouse" "search" "LGatherhouse$SetSearch;") (by decide +kernel)) (fun _ h9 => h9) rfl dX6_set_22 ?_
        have hFc := va_free (wc := [(se, .inr (10, [.ref n1, .ref n2, .ref n3, .int 0, .int 0, .int 0, .int 0]))]) hD hS hA [2] rfl
        refine va_callv (va_runVN (As := []) (rest := []) ⟨hx, hb, hml, hown, hts⟩ (zc_X5_begin l D G se n1 n2 n3 H.size) ⟨va_cnB 0 hts gzX6_set_X5_begin_320 rfl rfl rfl (hT.1 ("Gatherhouse", 320, ⟨"Gatherhouse$SetSearch", "begin", "()V"⟩, "Gatherhouse") (by decide +kernel)) (hts (.initialized RX5) (by decide +kernel)) (by decide +kernel) ⟨(Nat.le_of_ble_eq_true rfl), (Nat.le_of_ble_eq_true rfl)⟩, (hts (.instanceMethod yX5_begin) (by decide +kernel)), (hts (.selects RX5 yX5_begin yX5_begin) (by decide +kernel))⟩ ⟨p_RW_blind, va_recv hK hP (ci := 10) (q0 := 2) rfl rfl, (p_RW_at (tc := []) (wc := [(se, .inr (10, [.ref n1, .ref n2, .ref n3, .int 0, .int 0, .int 0, .int 0]))]) hP hK hD hS hA hT hZ [2] [] rfl rfl (by decide) rfl [.ref se])⟩ rfl rfl hl.1 rfl (lv_room (Nat.le_of_ble_eq_true rfl)) dX6_set_25 ⟨(Nat.le_of_ble_eq_true rfl), (Nat.le_of_ble_eq_true rfl)⟩) hS (fun q _ h => hFc q h) hFc (fun u t H locs ht hvm w_275 hB hz1 hk1 hS => ?_)
        obtain ⟨hP, hD, hK⟩ := q_join (D := D) (wc := [(se, .inr (10, [.ref n1, .ref n2, .ref n3, .int 0, .int 0, .int 0, .int 0]))]) (wr := [(xo, .inr (11, [.ref xg, .int 0, .ref xp, .int 0, .ref xq, .int 0, .ref r1, .ref r2, .ref r3, .ref r4, .ref se, .int ts, .int hq, .int 40, .int 0, .int 0])), (xq, .inl (cq, 16, .inr (.inr (.inr (.inr (fun _ => none))))))]) (w1 := [(se, .inr (10, [.ref n1, .ref n2, .ref n3, .int 0, .int 2147483647, .int 2147483647, .int 0]))]) (tyr := [(cq, .object "Gatherhouse$Piece")]) (ty1 := []) hP hD hK [2] [0, 1] [0] rfl rfl (by decide) (by decide) rfl hFc hk1 ht hvm hB
        have hP : va_P D vwCl [(xo, .inr (11, [.ref xg, .int 0, .ref xp, .int 0, .ref xq, .int 0, .ref r1, .ref r2, .ref r3, .ref r4, .ref se, .int ts, .int hq, .int 40, .int 0, .int 0])), (xq, .inl (cq, 16, .inr (.inr (.inr (.inr (fun _ => none)))))), (se, .inr (10, [.ref n1, .ref n2, .ref n3, .int 0, .int 2147483647, .int 2147483647, .int 0]))] H := hP
        have hD : va_D A [(xo, .inr (11, [.ref xg, .int 0, .ref xp, .int 0, .ref xq, .int 0, .ref r1, .ref r2, .ref r3, .ref r4, .ref se, .int ts, .int hq, .int 40, .int 0, .int 0])), (xq, .inl (cq, 16, .inr (.inr (.inr (.inr (fun _ => none)))))), (se, .inr (10, [.ref n1, .ref n2, .ref n3, .int 0, .int 2147483647, .int 2147483647, .int 0]))] := hD
        have hK : va_K D vwCl [(cq, .object "Gatherhouse$Piece")] s := hK
        refine lv_iconst (v := 0) hx hb dX6_set_28 (by decide) ?_
        refine lv_istore (lv' := [(4, .int 0), (0, .ref xo), (1, .int ii), (2, .int jj), (3, .int kk)]) hx hb dX6_set_29 hl (by decide) rfl (fun ls hl => ?_)
        refine lv_iload hx hb dX6_set_31 (lv_at hl 0 rfl) ?_
        refine lv_aload_n hx hb dX6_set_33 rfl (lv_at hl 1 rfl) ?_
        refine va_get (D := D) (cl := vwCl) (ci := 11) (v := .ref xq) (C := RX6) (T := TX6) (N := 16) hx hb hts zuX6_set_X6 hown hK hP 0 rfl rfl 4 (by decide) (hts (.fieldLink RX6 30 "Gatherhouse" "pieces" "[LGatherhouse$Piece;") (by decide +kernel)) (fun _ h9 => h9) rfl dX6_set_34 ?_
        refine va_alen (D := D) (cl := vwCl) (v := 16) hx hb hK hP 1 0 rfl rfl (by decide) dX6_set_37 ?_
        refine lv_icmp_ge (tgt := 89) hx hb dX6_set_38 (by decide) (fun cc => absurd cc (by decide)) (fun _ => ?_)
        refine lv_aload_n hx hb dX6_set_41 rfl (lv_at hl 1 rfl) ?_
        refine va_get (D := D) (cl := vwCl) (ci := 11) (v := .ref xq) (C := RX6) (T := TX6) (N := 16) hx hb hts zuX6_set_X6 hown hK hP 0 rfl rfl 4 (by decide) (hts (.fieldLink RX6 30 "Gatherhouse" "pieces" "[LGatherhouse$Piece;") (by decide +kernel)) (fun _ h9 => h9) rfl dX6_set_42 ?_
        refine lv_iload hx hb dX6_set_45 (lv_at hl 0 rfl) ?_
        refine va_aldq (D := D) (cl := vwCl) hx hb hK hP 1 0 rfl rfl (vp_in_nI (n := 0) (N := 16) (by decide) (by decide)) dX6_set_47 ?_
        refine W.eq (g2 := F0 m 48 ls [.null]) rfl ?_
        refine lv_astoreN (lv' := [(5, .null), (4, .int 0), (0, .ref xo), (1, .int ii), (2, .int jj), (3, .int kk)]) hx hb dX6_set_48 hl (by decide) rfl (fun ls hl => ?_)
        refine lv_aloadN hx hb dX6_set_50 (lv_at hl 0 rfl) ?_
        refine lv_ifnullN (tgt := 83) hx hb dX6_set_52 (by decide) ?_
        obtain ⟨x_276, ex_276⟩ : ∃ y : Int32, y = 0 + 1 := ⟨_, rfl⟩
        have ex_276 : x_276 = 1 := ex_276.trans (by decide)
        subst ex_276
        refine lv_iinc (v := 1) (lv' := [(4, .int 1), (5, .null), (0, .ref xo), (1, .int ii), (2, .int jj), (3, .int kk)]) hx hb dX6_set_83 hl (k := 1) rfl (by decide) (by decide) rfl (fun ls hl => ?_)
        refine lv_goto (tgt := 31) hx hb dX6_set_86 (by decide) ?_
        refine lv_iload hx hb dX6_set_31 (lv_at hl 0 rfl) ?_
        refine lv_aload_n hx hb dX6_set_33 rfl (lv_at hl 2 rfl) ?_
        refine va_get (D := D) (cl := vwCl) (ci := 11) (v := .ref xq) (C := RX6) (T := TX6) (N := 16) hx hb hts zuX6_set_X6 hown hK hP 0 rfl rfl 4 (by decide) (hts (.fieldLink RX6 30 "Gatherhouse" "pieces" "[LGatherhouse$Piece;") (by decide +kernel)) (fun _ h9 => h9) rfl dX6_set_34 ?_
        refine va_alen (D := D) (cl := vwCl) (v := 16) hx hb hK hP 1 0 rfl rfl (by decide) dX6_set_37 ?_
        refine lv_icmp_ge (tgt := 89) hx hb dX6_set_38 (by decide) (fun cc => absurd cc (by decide)) (fun _ => ?_)
        refine lv_aload_n hx hb dX6_set_41 rfl (lv_at hl 2 rfl) ?_
        refine va_get (D := D) (cl := vwCl) (ci := 11) (v := .ref xq) (C := RX6) (T := TX6) (N := 16) hx hb hts zuX6_set_X6 hown hK hP 0 rfl rfl 4 (by decide) (hts (.fieldLink RX6 30 "Gatherhouse" "pieces" "[LGatherhouse$Piece;") (by decide +kernel)) (fun _ h9 => h9) rfl dX6_set_42 ?_
        refine lv_iload hx hb dX6_set_45 (lv_at hl 0 rfl) ?_
        refine va_aldq (D := D) (cl := vwCl) hx hb hK hP 1 0 rfl rfl (vp_in_nI (n := 1) (N := 16) (by decide) (by decide)) dX6_set_47 ?_
        refine W.eq (g2 := F0 m 48 ls [.null]) rfl ?_
        refine lv_astoreN (lv' := [(5, .null), (4, .int 1), (0, .ref xo), (1, .int ii), (2, .int jj), (3, .int kk)]) hx hb dX6_set_48 hl (by decide) rfl (fun ls hl => ?_)
        refine lv_aloadN hx hb dX6_set_50 (lv_at hl 0 rfl) ?_
        refine lv_ifnullN (tgt := 83) hx hb dX6_set_52 (by decide) ?_
        obtain ⟨x_277, ex_277⟩ : ∃ y : Int32, y = 1 + 1 := ⟨_, rfl⟩
        have ex_277 : x_277 = 2 := ex_277.trans (by decide)
        subst ex_277
        refine lv_iinc (v := 2) (lv' := [(4, .int 2), (5, .null), (0, .ref xo), (1, .int ii), (2, .int jj), (3, .int kk)]) hx hb dX6_set_83 hl (k := 1) rfl (by decide) (by decide) rfl (fun ls hl => ?_)
        refine lv_goto (tgt := 31) hx hb dX6_set_86 (by decide) ?_
        refine lv_iload hx hb dX6_set_31 (lv_at hl 0 rfl) ?_
        refine lv_aload_n hx hb dX6_set_33 rfl (lv_at hl 2 rfl) ?_
        refine va_get (D := D) (cl := vwCl) (ci := 11) (v := .ref xq) (C := RX6) (T := TX6) (N := 16) hx hb hts zuX6_set_X6 hown hK hP 0 rfl rfl 4 (by decide) (hts (.fieldLink RX6 30 "Gatherhouse" "pieces" "[LGatherhouse$Piece;") (by decide +kernel)) (fun _ h9 => h9) rfl dX6_set_34 ?_
        refine va_alen (D := D) (cl := vwCl) (v := 16) hx hb hK hP 1 0 rfl rfl (by decide) dX6_set_37 ?_
        refine lv_icmp_ge (tgt := 89) hx hb dX6_set_38 (by decide) (fun cc => absurd cc (by decide)) (fun _ => ?_)
        refine lv_aload_n hx hb dX6_set_41 rfl (lv_at hl 2 rfl) ?_
        refine va_get (D := D) (cl := vwCl) (ci := 11) (v := .ref xq) (C := RX6) (T := TX6) (N := 16) hx hb hts zuX6_set_X6 hown hK hP 0 rfl rfl 4 (by decide) (hts (.fieldLink RX6 30 "Gatherhouse" "pieces" "[LGatherhouse$Piece;") (by decide +kernel)) (fun _ h9 => h9) rfl dX6_set_42 ?_
        refine lv_iload hx hb dX6_set_45 (lv_at hl 0 rfl) ?_
        refine va_aldq (D := D) (cl := vwCl) hx hb hK hP 1 0 rfl rfl (vp_in_nI (n := 2) (N := 16) (by decide) (by decide)) dX6_set_47 ?_
        refine W.eq (g2 := F0 m 48 ls [.null]) rfl ?_
        refine lv_astoreN (lv' := [(5, .null), (4, .int 2), (0, .ref xo), (1, .int ii), (2, .int jj), (3, .int kk)]) hx hb dX6_set_48 hl (by decide) rfl (fun ls hl => ?_)
        refine lv_aloadN hx hb dX6_set_50 (lv_at hl 0 rfl) ?_
        refine lv_ifnullN (tgt := 83) hx hb dX6_set_52 (by decide) ?_
        obtain ⟨x_278, ex_278⟩ : ∃ y : Int32, y = 2 + 1 := ⟨_, rfl⟩
        have ex_278 : x_278 = 3 := ex_278.trans (by decide)
        subst ex_278
        refine lv_iinc (v := 3) (lv' := [(4, .int 3), (5, .null), (0, .ref xo), (1, .int ii), (2, .int jj), (3, .int kk)]) hx hb dX6_set_83 hl (k := 1) rfl (by decide) (by decide) rfl (fun ls hl => ?_)
        refine lv_goto (tgt := 31) hx hb dX6_set_86 (by decide) ?_
        refine lv_iload hx hb dX6_set_31 (lv_at hl 0 rfl) ?_
        refine lv_aload_n hx hb dX6_set_33 rfl (lv_at hl 2 rfl) ?_
        refine va_get (D := D) (cl := vwCl) (ci := 11) (v := .ref xq) (C := RX6) (T := TX6) (N := 16) hx hb hts zuX6_set_X6 hown hK hP 0 rfl rfl 4 (by decide) (hts (.fieldLink RX6 30 "Gatherhouse" "pieces" "[LGatherhouse$Piece;") (by decide +kernel)) (fun _ h9 => h9) rfl dX6_set_34 ?_
        refine va_alen (D := D) (cl := vwCl) (v := 16) hx hb hK hP 1 0 rfl rfl (by decide) dX6_set_37 ?_
        refine lv_icmp_ge (tgt := 89) hx hb dX6_set_38 (by decide) (fun cc => absurd cc (by decide)) (fun _ => ?_)
        refine lv_aload_n hx hb dX6_set_41 rfl (lv_at hl 2 rfl) ?_
        refine va_get (D := D) (cl := vwCl) (ci := 11) (v := .ref xq) (C := RX6) (T := TX6) (N := 16) hx hb hts zuX6_set_X6 hown hK hP 0 rfl rfl 4 (by decide) (hts (.fieldLink RX6 30 "Gatherhouse" "pieces" "[LGatherhouse$Piece;") (by decide +kernel)) (fun _ h9 => h9) rfl dX6_set_42 ?_
        refine lv_iload hx hb dX6_set_45 (lv_at hl 0 rfl) ?_
        refine va_aldq (D := D) (cl := vwCl) hx hb hK hP 1 0 rfl rfl (vp_in_nI (n := 3) (N := 16) (by decide) (by decide)) dX6_set_47 ?_
        refine W.eq (g2 := F0 m 48 ls [.null]) rfl ?_
        refine lv_astoreN (lv' := [(5, .null), (4, .int 3), (0, .ref xo), (1, .int ii), (2, .int jj), (3, .int kk)]) hx hb dX6_set_48 hl (by decide) rfl (fun ls hl => ?_)
        refine lv_aloadN hx hb dX6_set_50 (lv_at hl 0 rfl) ?_
        refine lv_ifnullN (tgt := 83) hx hb dX6_set_52 (by decide) ?_
        obtain ⟨x_279, ex_279⟩ : ∃ y : Int32, y = 3 + 1 := ⟨_, rfl⟩
        have ex_279 : x_279 = 4 := ex_279.trans (by decide)
        subst ex_279
        refine lv_iinc (v := 4) (lv' := [(4, .int 4), (5, .null), (0, .ref xo), (1, .int ii), (2, .int jj), (3, .int kk)]) hx hb dX6_set_83 hl (k := 1) rfl (by decide) (by decide) rfl (fun ls hl => ?_)
        refine lv_goto (tgt := 31) hx hb dX6_set_86 (by decide) ?_
        refine lv_iload hx hb dX6_set_31 (lv_at hl 0 rfl) ?_
        refine lv_aload_n hx hb dX6_set_33 rfl (lv_at hl 2 rfl) ?_
        refine va_get (D := D) (cl := vwCl) (ci := 11) (v := .ref xq) (C := RX6) (T := TX6) (N := 16) hx hb hts zuX6_set_X6 hown hK hP 0 rfl rfl 4 (by decide) (hts (.fieldLink RX6 30 "Gatherhouse" "pieces" "[LGatherhouse$Piece;") (by decide +kernel)) (fun _ h9 => h9) rfl dX6_set_34 ?_
        refine va_alen (D := D) (cl := vwCl) (v := 16) hx hb hK hP 1 0 rfl rfl (by decide) dX6_set_37 ?_
        refine lv_icmp_ge (tgt := 89) hx hb dX6_set_38 (by decide) (fun cc => absurd cc (by decide)) (fun _ => ?_)
        refine lv_aload_n hx hb dX6_set_41 rfl (lv_at hl 2 rfl) ?_
        refine va_get (D := D) (cl := vwCl) (ci := 11) (v := .ref xq) (C := RX6) (T := TX6) (N := 16) hx hb hts zuX6_set_X6 hown hK hP 0 rfl rfl 4 (by decide) (hts (.fieldLink RX6 30 "Gatherhouse" "pieces" "[LGatherhouse$Piece;") (by decide +kernel)) (fun _ h9 => h9) rfl dX6_set_42 ?_
        refine lv_iload hx hb dX6_set_45 (lv_at hl 0 rfl) ?_
        refine va_aldq (D := D) (cl := vwCl) hx hb hK hP 1 0 rfl rfl (vp_in_nI (n := 4) (N := 16) (by decide) (by decide)) dX6_set_47 ?_
        refine W.eq (g2 := F0 m 48 ls [.null]) rfl ?_
        refine lv_astoreN (lv' := [(5, .null), (4, .int 4), (0, .ref xo), (1, .int ii), (2, .int jj), (3, .int kk)]) hx hb dX6_set_48 hl (by decide) rfl (fun ls hl => ?_)
        refine lv_aloadN hx hb dX6_set_50 (lv_at hl 0 rfl) ?_
        refine lv_ifnullN (tgt := 83) hx hb dX6_set_52 (by decide) ?_
        obtain ⟨x_280, ex_280⟩ : ∃ y : Int32, y = 4 + 1 := ⟨_, rfl⟩
        have ex_280 : x_280 = 5 := ex_280.trans (by decide)
        subst ex_280
        refine lv_iinc (v := 5) (lv' := [(4, .int 5), (5, .null), (0, .ref xo), (1, .int ii), (2, .int jj), (3, .int kk)]) hx hb dX6_set_83 hl (k := 1) rfl (by decide) (by decide) rfl (fun ls hl => ?_)
        refine lv_goto (tgt := 31) hx hb dX6_set_86 (by decide) ?_
        refine lv_iload hx hb dX6_set_31 (lv_at hl 0 rfl) ?_
        refine lv_aload_n hx hb dX6_set_33 rfl (lv_at hl 2 rfl) ?_
        refine va_get (D := D) (cl := vwCl) (ci := 11) (v := .ref xq) (C := RX6) (T := TX6) (N := 16) hx hb hts zuX6_set_X6 hown hK hP 0 rfl rfl 4 (by decide) (hts (.fieldLink RX6 30 "Gatherhouse" "pieces" "[LGatherhouse$Piece;") (by decide +kernel)) (fun _ h9 => h9) rfl dX6_set_34 ?_
        refine va_alen (D := D) (cl := vwCl) (v := 16) hx hb hK hP 1 0 rfl rfl (by decide) dX6_set_37 ?_
        refine lv_icmp_ge (tgt := 89) hx hb dX6_set_38 (by decide) (fun cc => absurd cc (by decide)) (fun _ => ?_)
        refine lv_aload_n hx hb dX6_set_41 rfl (lv_at hl 2 rfl) ?_
        refine va_get (D := D) (cl := vwCl) (ci := 11) (v := .ref xq) (C := RX6) (T := TX6) (N := 16) hx hb hts zuX6_set_X6 hown hK hP 0 rfl rfl 4 (by decide) (hts (.fieldLink RX6 30 "Gatherhouse" "pieces" "[LGatherhouse$Piece;") (by decide +kernel)) (fun _ h9 => h9) rfl dX6_set_42 ?_
        refine lv_iload hx hb dX6_set_45 (lv_at hl 0 rfl) ?_
        refine va_aldq (D := D) (cl := vwCl) hx hb hK hP 1 0 rfl rfl (vp_in_nI (n := 5) (N := 16) (by decide) (by decide)) dX6_set_47 ?_
        refine W.eq (g2 := F0 m 48 ls [.null]) rfl ?_
        refine lv_astoreN (lv' := [(5, .null), (4, .int 5), (0, .ref xo), (1, .int ii), (2, .int jj), (3, .int kk)]) hx hb dX6_set_48 hl (by decide) rfl (fun ls hl => ?_)
        refine lv_aloadN hx hb dX6_set_50 (lv_at hl 0 rfl) ?_
        refine lv_ifnullN (tgt := 83) hx hb dX6_set_52 (by decide) ?_
        obtain ⟨x_281, ex_281⟩ : ∃ y : Int32, y = 5 + 1 := ⟨_, rfl⟩
        have ex_281 : x_281 = 6 := ex_281.trans (by decide)
        subst ex_281
        refine lv_iinc (v := 6) (lv' := [(4, .int 6), (5, .null), (0, .ref xo), (1, .int ii), (2, .int jj), (3, .int kk)]) hx hb dX6_set_83 hl (k := 1) rfl (by decide) (by decide) rfl (fun ls hl => ?_)
        refine lv_goto (tgt := 31) hx hb dX6_set_86 (by decide) ?_
        refine lv_iload hx hb dX6_set_31 (lv_at hl 0 rfl) ?_
        refine lv_aload_n hx hb dX6_set_33 rfl (lv_at hl 2 rfl) ?_
        refine va_get (D := D) (cl := vwCl) (ci := 11) (v := .ref xq) (C := RX6) (T := TX6) (N := 16) hx hb hts zuX6_set_X6 hown hK hP 0 rfl rfl 4 (by decide) (hts (.fieldLink RX6 30 "Gatherhouse" "pieces" "[LGatherhouse$Piece;") (by decide +kernel)) (fun _ h9 => h9) rfl dX6_set_34 ?_
        refine va_alen (D := D) (cl := vwCl) (v := 16) hx hb hK hP 1 0 rfl rfl (by decide) dX6_set_37 ?_
        refine lv_icmp_ge (tgt := 89) hx hb dX6_set_38 (by decide) (fun cc => absurd cc (by decide)) (fun _ => ?_)
        refine lv_aload_n hx hb dX6_set_41 rfl (lv_at hl 2 rfl) ?_
        refine va_get (D := D) (cl := vwCl) (ci := 11) (v := .ref xq) (C := RX6) (T := TX6) (N := 16) hx hb hts zuX6_set_X6 hown hK hP 0 rfl rfl 4 (by decide) (hts (.fieldLink RX6 30 "Gatherhouse" "pieces" "[LGatherhouse$Piece;") (by decide +kernel)) (fun _ h9 => h9) rfl dX6_set_42 ?_
        refine lv_iload hx hb dX6_set_45 (lv_at hl 0 rfl) ?_
        refine va_aldq (D := D) (cl := vwCl) hx hb hK hP 1 0 rfl rfl (vp_in_nI (n := 6) (N := 16) (by decide) (by decide)) dX6_set_47 ?_
        refine W.eq (g2 := F0 m 48 ls [.null]) rfl ?_
        refine lv_astoreN (lv' := [(5, .null), (4, .int 6), (0, .ref xo), (1, .int ii), (2, .int jj), (3, .int kk)]) hx hb dX6_set_48 hl (by decide) rfl (fun ls hl => ?_)
        refine lv_aloadN hx hb dX6_set_50 (lv_at hl 0 rfl) ?_
        refine lv_ifnullN (tgt := 83) hx hb dX6_set_52 (by decide) ?_
        obtain ⟨x_282, ex_282⟩ : ∃ y : Int32, y = 6 + 1 := ⟨_, rfl⟩
        have ex_282 : x_282 = 7 := ex_282.trans (by decide)
        subst ex_282
        refine lv_iinc (v := 7) (lv' := [(4, .int 7), (5, .null), (0, .ref xo), (1, .int ii), (2, .int jj), (3, .int kk)]) hx hb dX6_set_83 hl (k := 1) rfl (by decide) (by decide) rfl (fun ls hl => ?_)
        refine lv_goto (tgt := 31) hx hb dX6_set_86 (by decide) ?_
        refine lv_iload hx hb dX6_set_31 (lv_at hl 0 rfl) ?_
        refine lv_aload_n hx hb dX6_set_33 rfl (lv_at hl 2 rfl) ?_
        refine va_get (D := D) (cl := vwCl) (ci := 11) (v := .ref xq) (C := RX6) (T := TX6) (N := 16) hx hb hts zuX6_set_X6 hown hK hP 0 rfl rfl 4 (by decide) (hts (.fieldLink RX6 30 "Gatherhouse" "pieces" "[LGatherhouse$Piece;") (by decide +kernel)) (fun _ h9 => h9) rfl dX6_set_34 ?_
        refine va_alen (D := D) (cl := vwCl) (v := 16) hx hb hK hP 1 0 rfl rfl (by decide) dX6_set_37 ?_
        refine lv_icmp_ge (tgt := 89) hx hb dX6_set_38 (by decide) (fun cc => absurd cc (by decide)) (fun _ => ?_)
        refine lv_aload_n hx hb dX6_set_41 rfl (lv_at hl 2 rfl) ?_
        refine va_get (D := D) (cl := vwCl) (ci := 11) (v := .ref xq) (C := RX6) (T := TX6) (N := 16) hx hb hts zuX6_set_X6 hown hK hP 0 rfl rfl 4 (by decide) (hts (.fieldLink RX6 30 "Gatherhouse" "pieces" "[LGatherhouse$Piece;") (by decide +kernel)) (fun _ h9 => h9) rfl dX6_set_42 ?_
        refine lv_iload hx hb dX6_set_45 (lv_at hl 0 rfl) ?_
        refine va_aldq (D := D) (cl := vwCl) hx hb hK hP 1 0 rfl rfl (vp_in_nI (n := 7) (N := 16) (by decide) (by decide)) dX6_set_47 ?_
        refine W.eq (g2 := F0 m 48 ls [.null]) rfl ?_
        refine lv_astoreN (lv' := [(5, .null), (4, .int 7), (0, .ref xo), (1, .int ii), (2, .int jj), (3, .int kk)]) hx hb dX6_set_48 hl (by decide) rfl (fun ls hl => ?_)
        refine lv_aloadN hx hb dX6_set_50 (lv_at hl 0 rfl) ?_
        refine lv_ifnullN (tgt := 83) hx hb dX6_set_52 (by decide) ?_
        obtain ⟨x_283, ex_283⟩ : ∃ y : Int32, y = 7 + 1 := ⟨_, rfl⟩
        have ex_283 : x_283 = 8 := ex_283.trans (by decide)
        subst ex_283
        refine lv_iinc (v := 8) (lv' := [(4, .int 8), (5, .null), (0, .ref xo), (1, .int ii), (2, .int jj), (3, .int kk)]) hx hb dX6_set_83 hl (k := 1) rfl (by decide) (by decide) rfl (fun ls hl => ?_)
        refine lv_goto (tgt := 31) hx hb dX6_set_86 (by decide) ?_
        refine lv_iload hx hb dX6_set_31 (lv_at hl 0 rfl) ?_
        refine lv_aload_n hx hb dX6_set_33 rfl (lv_at hl 2 rfl) ?_
        refine va_get (D := D) (cl := vwCl) (ci := 11) (v := .ref xq) (C := RX6) (T := TX6) (N := 16) hx hb hts zuX6_set_X6 hown hK hP 0 rfl rfl 4 (by decide) (hts (.fieldLink RX6 30 "Gatherhouse" "pieces" "[LGatherhouse$Piece;") (by decide +kernel)) (fun _ h9 => h9) rfl dX6_set_34 ?_
        refine va_alen (D := D) (cl := vwCl) (v := 16) hx hb hK hP 1 0 rfl rfl (by decide) dX6_set_37 ?_
        refine lv_icmp_ge (tgt := 89) hx hb dX6_set_38 (by decide) (fun cc => absurd cc (by decide)) (fun _ => ?_)
        refine lv_aload_n hx hb dX6_set_41 rfl (lv_at hl 2 rfl) ?_
        refine va_get (D := D) (cl := vwCl) (ci := 11) (v := .ref xq) (C := RX6) (T := TX6) (N := 16) hx hb hts zuX6_set_X6 hown hK hP 0 rfl rfl 4 (by decide) (hts (.fieldLink RX6 30 "Gatherhouse" "pieces" "[LGatherhouse$Piece;") (by decide +kernel)) (fun _ h9 => h9) rfl dX6_set_42 ?_
        refine lv_iload hx hb dX6_set_45 (lv_at hl 0 rfl) ?_
        refine va_aldq (D := D) (cl := vwCl) hx hb hK hP 1 0 rfl rfl (vp_in_nI (n := 8) (N := 16) (by decide) (by decide)) dX6_set_47 ?_
        refine W.eq (g2 := F0 m 48 ls [.null]) rfl ?_
        refine lv_astoreN (lv' := [(5, .null), (4, .int 8), (0, .ref xo), (1, .int ii), (2, .int jj), (3, .int kk)]) hx hb dX6_set_48 hl (by decide) rfl (fun ls hl => ?_)
        refine lv_aloadN hx hb dX6_set_50 (lv_at hl 0 rfl) ?_
        refine lv_ifnullN (tgt := 83) hx hb dX6_set_52 (by decide) ?_
        obtain ⟨x_284, ex_284⟩ : ∃ y : Int32, y = 8 + 1 := ⟨_, rfl⟩
        have ex_284 : x_284 = 9 := ex_284.trans (by decide)
        subst ex_284
        refine lv_iinc (v := 9) (lv' := [(4, .int 9), (5, .null), (0, .ref xo), (1, .int ii), (2, .int jj), (3, .int kk)]) hx hb dX6_set_83 hl (k := 1) rfl (by decide) (by decide) rfl (fun ls hl => ?_)
        refine lv_goto (tgt := 31) hx hb dX6_set_86 (by decide) ?_
        refine lv_iload hx hb dX6_set_31 (lv_at hl 0 rfl) ?_
        refine lv_aload_n hx hb dX6_set_33 rfl (lv_at hl 2 rfl) ?_
        refine va_get (D := D) (cl := vwCl) (ci := 11) (v := .ref xq) (C := RX6) (T := TX6) (N := 16) hx hb hts zuX6_set_X6 hown hK hP 0 rfl rfl 4 (by decide) (hts (.fieldLink RX6 30 "Gatherhouse" "pieces" "[LGatherhouse$Piece;") (by decide +kernel)) (fun _ h9 => h9) rfl dX6_set_34 ?_
        refine va_alen (D := D) (cl := vwCl) (v := 16) hx hb hK hP 1 0 rfl rfl (by decide) dX6_set_37 ?_
        refine lv_icmp_ge (tgt := 89) hx hb dX6_set_38 (by decide) (fun cc => absurd cc (by decide)) (fun _ => ?_)
        refine lv_aload_n hx hb dX6_set_41 rfl (lv_at hl 2 rfl) ?_
        refine va_get (D := D) (cl := vwCl) (ci := 11) (v := .ref xq) (C := RX6) (T := TX6) (N := 16) hx hb hts zuX6_set_X6 hown hK hP 0 rfl rfl 4 (by decide) (hts (.fieldLink RX6 30 "Gatherhouse" "pieces" "[LGatherhouse$Piece;") (by decide +kernel)) (fun _ h9 => h9) rfl dX6_set_42 ?_
        refine lv_iload hx hb dX6_set_45 (lv_at hl 0 rfl) ?_
        refine va_aldq (D := D) (cl := vwCl) hx hb hK hP 1 0 rfl rfl (vp_in_nI (n := 9) (N := 16) (by decide) (by decide)) dX6_set_47 ?_
        refine W.eq (g2 := F0 m 48 ls [.null]) rfl ?_
        refine lv_astoreN (lv' := [(5, .null), (4, .int 9), (0, .ref xo), (1, .int ii), (2, .int jj), (3, .int kk)]) hx hb dX6_set_48 hl (by decide) rfl (fun ls hl => ?_)
        refine lv_aloadN hx hb dX6_set_50 (lv_at hl 0 rfl) ?_
        refine lv_ifnullN (tgt := 83) hx hb dX6_set_52 (by decide) ?_
        obtain ⟨x_285, ex_285⟩ : ∃ y : Int32, y = 9 + 1 := ⟨_, rfl⟩
        have ex_285 : x_285 = 10 := ex_285.trans (by decide)
        subst ex_285
        refine lv_iinc (v := 10) (lv' := [(4, .int 10), (5, .null), (0, .ref xo), (1, .int ii), (2, .int jj), (3, .int kk)]) hx hb dX6_set_83 hl (k := 1) rfl (by decide) (by decide) rfl (fun ls hl => ?_)
        refine lv_goto (tgt := 31) hx hb dX6_set_86 (by decide) ?_
        refine lv_iload hx hb dX6_set_31 (lv_at hl 0 rfl) ?_
        refine lv_aload_n hx hb dX6_set_33 rfl (lv_at hl 2 rfl) ?_
        refine va_get (D := D) (cl := vwCl) (ci := 11) (v := .ref xq) (C := RX6) (T := TX6) (N := 16) hx hb hts zuX6_set_X6 hown hK hP 0 rfl rfl 4 (by decide) (hts (.fieldLink RX6 30 "Gatherhouse" "pieces" "[LGatherhouse$Piece;") (by decide +kernel)) (fun _ h9 => h9) rfl dX6_set_34 ?_
        refine va_alen (D := D) (cl := vwCl) (v := 16) hx hb hK hP 1 0 rfl rfl (by decide) dX6_set_37 ?_
        refine lv_icmp_ge (tgt := 89) hx hb dX6_set_38 (by decide) (fun cc => absurd cc (by decide)) (fun _ => ?_)
        refine lv_aload_n hx hb dX6_set_41 rfl (lv_at hl 2 rfl) ?_
        refine va_get (D := D) (cl := vwCl) (ci := 11) (v := .ref xq) (C := RX6) (T := TX6) (N := 16) hx hb hts zuX6_set_X6 hown hK hP 0 rfl rfl 4 (by decide) (hts (.fieldLink RX6 30 "Gatherhouse" "pieces" "[LGatherhouse$Piece;") (by decide +kernel)) (fun _ h9 => h9) rfl dX6_set_42 ?_
        refine lv_iload hx hb dX6_set_45 (lv_at hl 0 rfl) ?_
        refine va_aldq (D := D) (cl := vwCl) hx hb hK hP 1 0 rfl rfl (vp_in_nI (n := 10) (N := 16) (by decide) (by decide)) dX6_set_47 ?_
        refine W.eq (g2 := F0 m 48 ls [.null]) rfl ?_
        refine lv_astoreN (lv' := [(5, .null), (4, .int 10), (0, .ref xo), (1, .int ii), (2, .int jj), (3, .int kk)]) hx hb dX6_set_48 hl (by decide) rfl (fun ls hl => ?_)
        refine lv_aloadN hx hb dX6_set_50 (lv_at hl 0 rfl) ?_
        refine lv_ifnullN (tgt := 83) hx hb dX6_set_52 (by decide) ?_
        obtain ⟨x_286, ex_286⟩ : ∃ y : Int32, y = 10 + 1 := ⟨_, rfl⟩
        have ex_286 : x_286 = 11 := ex_286.trans (by decide)
        subst ex_286
        refine lv_iinc (v := 11) (lv' := [(4, .int 11), (5, .null), (0, .ref xo), (1, .int ii), (2, .int jj), (3, .int kk)]) hx hb dX6_set_83 hl (k := 1) rfl (by decide) (by decide) rfl (fun ls hl => ?_)
        refine lv_goto (tgt := 31) hx hb dX6_set_86 (by decide) ?_
        refine lv_iload hx hb dX6_set_31 (lv_at hl 0 rfl) ?_
        refine lv_aload_n hx hb dX6_set_33 rfl (lv_at hl 2 rfl) ?_
        refine va_get (D := D) (cl := vwCl) (ci := 11) (v := .ref xq) (C := RX6) (T := TX6) (N := 16) hx hb hts zuX6_set_X6 hown hK hP 0 rfl rfl 4 (by decide) (hts (.fieldLink RX6 30 "Gatherhouse" "pieces" "[LGatherhouse$Piece;") (by decide +kernel)) (fun _ h9 => h9) rfl dX6_set_34 ?_
        refine va_alen (D := D) (cl := vwCl) (v := 16) hx hb hK hP 1 0 rfl rfl (by decide) dX6_set_37 ?_
        refine lv_icmp_ge (tgt := 89) hx hb dX6_set_38 (by decide) (fun cc => absurd cc (by decide)) (fun _ => ?_)
        refine lv_aload_n hx hb dX6_set_41 rfl (lv_at hl 2 rfl) ?_
        refine va_get (D := D) (cl := vwCl) (ci := 11) (v := .ref xq) (C := RX6) (T := TX6) (N := 16) hx hb hts zuX6_set_X6 hown hK hP 0 rfl rfl 4 (by decide) (hts (.fieldLink RX6 30 "Gatherhouse" "pieces" "[LGatherhouse$Piece;") (by decide +kernel)) (fun _ h9 => h9) rfl dX6_set_42 ?_
        refine lv_iload hx hb dX6_set_45 (lv_at hl 0 rfl) ?_
        refine va_aldq (D := D) (cl := vwCl) hx hb hK hP 1 0 rfl rfl (vp_in_nI (n := 11) (N := 16) (by decide) (by decide)) dX6_set_47 ?_
        refine W.eq (g2 := F0 m 48 ls [.null]) rfl ?_
        refine lv_astoreN (lv' := [(5, .null), (4, .int 11), (0, .ref xo), (1, .int ii), (2, .int jj), (3, .int kk)]) hx hb dX6_set_48 hl (by decide) rfl (fun ls hl => ?_)
        refine lv_aloadN hx hb dX6_set_50 (lv_at hl 0 rfl) ?_
        refine lv_ifnullN (tgt := 83) hx hb dX6_set_52 (by decide) ?_
        obtain ⟨x_287, ex_287⟩ : ∃ y : Int32, y = 11 + 1 := ⟨_, rfl⟩
        have ex_287 : x_287 = 12 := ex_287.trans (by decide)
        subst ex_287
        refine lv_iinc (v := 12) (lv' := [(4, .int 12), (5, .null), (0, .ref xo), (1, .int ii), (2, .int jj), (3, .int kk)]) hx hb dX6_set_83 hl (k := 1) rfl (by decide) (by decide) rfl (fun ls hl => ?_)
        refine lv_goto (tgt := 31) hx hb dX6_set_86 (by decide) ?_
        refine lv_iload hx hb dX6_set_31 (lv_at hl 0 rfl) ?_
        refine lv_aload_n hx hb dX6_set_33 rfl (lv_at hl 2 rfl) ?_
        refine va_get (D := D) (cl := vwCl) (ci := 11) (v := .ref xq) (C := RX6) (T := TX6) (N := 16) hx hb hts zuX6_set_X6 hown hK hP 0 rfl rfl 4 (by decide) (hts (.fieldLink RX6 30 "Gatherhouse" "pieces" "[LGatherhouse$Piece;") (by decide +kernel)) (fun _ h9 => h9) rfl dX6_set_34 ?_
        refine va_alen (D := D) (cl := vwCl) (v := 16) hx hb hK hP 1 0 rfl rfl (by decide) dX6_set_37 ?_
        refine lv_icmp_ge (tgt := 89) hx hb dX6_set_38 (by decide) (fun cc => absurd cc (by decide)) (fun _ => ?_)
        refine lv_aload_n hx hb dX6_set_41 rfl (lv_at hl 2 rfl) ?_
        refine va_get (D := D) (cl := vwCl) (ci := 11) (v := .ref xq) (C := RX6) (T := TX6) (N := 16) hx hb hts zuX6_set_X6 hown hK hP 0 rfl rfl 4 (by decide) (hts (.fieldLink RX6 30 "Gatherhouse" "pieces" "[LGatherhouse$Piece;") (by decide +kernel)) (fun _ h9 => h9) rfl dX6_set_42 ?_
        refine lv_iload hx hb dX6_set_45 (lv_at hl 0 rfl) ?_
        refine va_aldq (D := D) (cl := vwCl) hx hb hK hP 1 0 rfl rfl (vp_in_nI (n := 12) (N := 16) (by decide) (by decide)) dX6_set_47 ?_
        refine W.eq (g2 := F0 m 48 ls [.null]) rfl ?_
        refine lv_astoreN (lv' := [(5, .null), (4, .int 12), (0, .ref xo), (1, .int ii), (2, .int jj), (3, .int kk)]) hx hb dX6_set_48 hl (by decide) rfl (fun ls hl => ?_)
        refine lv_aloadN hx hb dX6_set_50 (lv_at hl 0 rfl) ?_
        refine lv_ifnullN (tgt := 83) hx hb dX6_set_52 (by decide) ?_
        obtain ⟨x_288, ex_288⟩ : ∃ y : Int32, y = 12 + 1 := ⟨_, rfl⟩
        have ex_288 : x_288 = 13 := ex_288.trans (by decide)
        subst ex_288
        refine lv_iinc (v := 13) (lv' := [(4, .int 13), (5, .null), (0, .ref xo), (1, .int ii), (2, .int jj), (3, .int kk)]) hx hb dX6_set_83 hl (k := 1) rfl (by decide) (by decide) rfl (fun ls hl => ?_)
        refine lv_goto (tgt := 31) hx hb dX6_set_86 (by decide) ?_
        refine lv_iload hx hb dX6_set_31 (lv_at hl 0 rfl) ?_
        refine lv_aload_n hx hb dX6_set_33 rfl (lv_at hl 2 rfl) ?_
        refine va_get (D := D) (cl := vwCl) (ci := 11) (v := .ref xq) (C := RX6) (T := TX6) (N := 16) hx hb hts zuX6_set_X6 hown hK hP 0 rfl rfl 4 (by decide) (hts (.fieldLink RX6 30 "Gatherhouse" "pieces" "[LGatherhouse$Piece;") (by decide +kernel)) (fun _ h9 => h9) rfl dX6_set_34 ?_
        refine va_alen (D := D) (cl := vwCl) (v := 16) hx hb hK hP 1 0 rfl rfl (by decide) dX6_set_37 ?_
        refine lv_icmp_ge (tgt := 89) hx hb dX6_set_38 (by decide) (fun cc => absurd cc (by decide)) (fun _ => ?_)
        refine lv_aload_n hx hb dX6_set_41 rfl (lv_at hl 2 rfl) ?_
        refine va_get (D := D) (cl := vwCl) (ci := 11) (v := .ref xq) (C := RX6) (T := TX6) (N := 16) hx hb hts zuX6_set_X6 hown hK hP 0 rfl rfl 4 (by decide) (hts (.fieldLink RX6 30 "Gatherhouse" "pieces" "[LGatherhouse$Piece;") (by decide +kernel)) (fun _ h9 => h9) rfl dX6_set_42 ?_
        refine lv_iload hx hb dX6_set_45 (lv_at hl 0 rfl) ?_
        refine va_aldq (D := D) (cl := vwCl) hx hb hK hP 1 0 rfl rfl (vp_in_nI (n := 13) (N := 16) (by decide) (by decide)) dX6_set_47 ?_
        refine W.eq (g2 := F0 m 48 ls [.null]) rfl ?_
        refine lv_astoreN (lv' := [(5, .null), (4, .int 13), (0, .ref xo), (1, .int ii), (2, .int jj), (3, .int kk)]) hx hb dX6_set_48 hl (by decide) rfl (fun ls hl => ?_)
        refine lv_aloadN hx hb dX6_set_50 (lv_at hl 0 rfl) ?_
        refine lv_ifnullN (tgt := 83) hx hb dX6_set_52 (by decide) ?_
        obtain ⟨x_289, ex_289⟩ : ∃ y : Int32, y = 13 + 1 := ⟨_, rfl⟩
        have ex_289 : x_289 = 14 := ex_289.trans (by decide)
        subst ex_289
        refine lv_iinc (v := 14) (lv' := [(4, .int 14), (5, .null), (0, .ref xo), (1, .int ii), (2, .int jj), (3, .int kk)]) hx hb dX6_set_83 hl (k := 1) rfl (by decide) (by decide) rfl (fun ls hl => ?_)
        refine lv_goto (tgt := 31) hx hb dX6_set_86 (by decide) ?_
        refine lv_iload hx hb dX6_set_31 (lv_at hl 0 rfl) ?_
        refine lv_aload_n hx hb dX6_set_33 rfl (lv_at hl 2 rfl) ?_
        refine va_get (D := D) (cl := vwCl) (ci := 11) (v := .ref xq) (C := RX6) (T := TX6) (N := 16) hx hb hts zuX6_set_X6 hown hK hP 0 rfl rfl 4 (by decide) (hts (.fieldLink RX6 30 "Gatherhouse" "pieces" "[LGatherhouse$Piece;") (by decide +kernel)) (fun _ h9 => h9) rfl dX6_set_34 ?_
        refine va_alen (D := D) (cl := vwCl) (v := 16) hx hb hK hP 1 0 rfl rfl (by decide) dX6_set_37 ?_
        refine lv_icmp_ge (tgt := 89) hx hb dX6_set_38 (by decide) (fun cc => absurd cc (by decide)) (fun _ => ?_)
        refine lv_aload_n hx hb dX6_set_41 rfl (lv_at hl 2 rfl) ?_
        refine va_get (D := D) (cl := vwCl) (ci := 11) (v := .ref xq) (C := RX6) (T := TX6) (N := 16) hx hb hts zuX6_set_X6 hown hK hP 0 rfl rfl 4 (by decide) (hts (.fieldLink RX6 30 "Gatherhouse" "pieces" "[LGatherhouse$Piece;") (by decide +kernel)) (fun _ h9 => h9) rfl dX6_set_42 ?_
        refine lv_iload hx hb dX6_set_45 (lv_at hl 0 rfl) ?_
        refine va_aldq (D := D) (cl := vwCl) hx hb hK hP 1 0 rfl rfl (vp_in_nI (n := 14) (N := 16) (by decide) (by decide)) dX6_set_47 ?_
        refine W.eq (g2 := F0 m 48 ls [.null]) rfl ?_
        refine lv_astoreN (lv' := [(5, .null), (4, .int 14), (0, .ref xo), (1, .int ii), (2, .int jj), (3, .int kk)]) hx hb dX6_set_48 hl (by decide) rfl (fun ls hl => ?_)
        refine lv_aloadN hx hb dX6_set_50 (lv_at hl 0 rfl) ?_
        refine lv_ifnullN (tgt := 83) hx hb dX6_set_52 (by decide) ?_
        obtain ⟨x_290, ex_290⟩ : ∃ y : Int32, y = 14 + 1 := ⟨_, rfl⟩
        have ex_290 : x_290 = 15 := ex_290.trans (by decide)
        subst ex_290
        refine lv_iinc (v := 15) (lv' := [(4, .int 15), (5, .null), (0, .ref xo), (1, .int ii), (2, .int jj), (3, .int kk)]) hx hb dX6_set_83 hl (k := 1) rfl (by decide) (by decide) rfl (fun ls hl => ?_)
        refine lv_goto (tgt := 31) hx hb dX6_set_86 (by decide) ?_
        refine lv_iload hx hb dX6_set_31 (lv_at hl 0 rfl) ?_
        refine lv_aload_n hx hb dX6_set_33 rfl (lv_at hl 2 rfl) ?_
        refine va_get (D := D) (cl := vwCl) (ci := 11) (v := .ref xq) (C := RX6) (T := TX6) (N := 16) hx hb hts zuX6_set_X6 hown hK hP 0 rfl rfl 4 (by decide) (hts (.fieldLink RX6 30 "Gatherhouse" "pieces" "[LGatherhouse$Piece;") (by decide +kernel)) (fun _ h9 => h9) rfl dX6_set_34 ?_
        refine va_alen (D := D) (cl := vwCl) (v := 16) hx hb hK hP 1 0 rfl rfl (by decide) dX6_set_37 ?_
        refine lv_icmp_ge (tgt := 89) hx hb dX6_set_38 (by decide) (fun cc => absurd cc (by decide)) (fun _ => ?_)
        refine lv_aload_n hx hb dX6_set_41 rfl (lv_at hl 2 rfl) ?_
        refine va_get (D := D) (cl := vwCl) (ci := 11) (v := .ref xq) (C := RX6) (T := TX6) (N := 16) hx hb hts zuX6_set_X6 hown hK hP 0 rfl rfl 4 (by decide) (hts (.fieldLink RX6 30 "Gatherhouse" "pieces" "[LGatherhouse$Piece;") (by decide +kernel)) (fun _ h9 => h9) rfl dX6_set_42 ?_
        refine lv_iload hx hb dX6_set_45 (lv_at hl 0 rfl) ?_
        refine va_aldq (D := D) (cl := vwCl) hx hb hK hP 1 0 rfl rfl (vp_in_nI (n := 15) (N := 16) (by decide) (by decide)) dX6_set_47 ?_
        refine W.eq (g2 := F0 m 48 ls [.null]) rfl ?_
        refine lv_astoreN (lv' := [(5, .null), (4, .int 15), (0, .ref xo), (1, .int ii), (2, .int jj), (3, .int kk)]) hx hb dX6_set_48 hl (by decide) rfl (fun ls hl => ?_)
        refine lv_aloadN hx hb dX6_set_50 (lv_at hl 0 rfl) ?_
        refine lv_ifnullN (tgt := 83) hx hb dX6_set_52 (by decide) ?_
        obtain ⟨x_291, ex_291⟩ : ∃ y : Int32, y = 15 + 1 := ⟨_, rfl⟩
        have ex_291 : x_291 = 16 := ex_291.trans (by decide)
        subst ex_291
        refine lv_iinc (v := 16) (lv' := [(4, .int 16), (5, .null), (0, .ref xo), (1, .int ii), (2, .int jj), (3, .int kk)]) hx hb dX6_set_83 hl (k := 1) rfl (by decide) (by decide) rfl (fun ls hl => ?_)
        refine lv_goto (tgt := 31) hx hb dX6_set_86 (by decide) ?_
        refine lv_iload hx hb dX6_set_31 (lv_at hl 0 rfl) ?_
        refine lv_aload_n hx hb dX6_set_33 rfl (lv_at hl 2 rfl) ?_
        refine va_get (D := D) (cl := vwCl) (ci := 11) (v := .ref xq) (C := RX6) (T := TX6) (N := 16) hx hb hts zuX6_set_X6 hown hK hP 0 rfl rfl 4 (by decide) (hts (.fieldLink RX6 30 "Gatherhouse" "pieces" "[LGatherhouse$Piece;") (by decide +kernel)) (fun _ h9 => h9) rfl dX6_set_34 ?_
        refine va_alen (D := D) (cl := vwCl) (v := 16) hx hb hK hP 1 0 rfl rfl (by decide) dX6_set_37 ?_
        refine lv_icmp_ge (tgt := 89) hx hb dX6_set_38 (by decide) (fun _ => ?_) (fun cc => absurd (by decide) cc)
        refine lv_aload_n hx hb dX6_set_89 rfl (lv_at hl 2 rfl) ?_
        refine va_get (D := D) (cl := vwCl) (ci := 11) (v := .ref se) (C := RX6) (T := TX6) (N := 16) hx hb hts zuX6_set_X6 hown hK hP 0 rfl rfl 10 (by decide) (hts (.fieldLink RX6 56 "Gatherhouse" "search" "LGatherhouse$SetSearch;") (by decide +kernel)) (fun _ h9 => h9) rfl dX6_set_90 ?_
        refine va_getN (D := D) (cl := vwCl) (ci := 10) (v := .int 0) (C := RX5) (T := TX5) (N := 7) hx hb hts zuX6_set_X5 hown hK hP 2 rfl rfl 3 (by decide) (va_Nw.use rfl (hT.2.1 ("Gatherhouse", 329, "Gatherhouse$SetSearch", "size", "I", "Gatherhouse") (by decide +kernel))) (fun _ h9 => h9) rfl dX6_set_93 ?_
        refine lv_iload_n hx hb dX6_set_96 rfl (lv_at hl 3 rfl) ?_
        refine lv_icmp_ge (tgt := 111) hx hb dX6_set_97 (by decide) (fun cc => absurd cc (inR_pos c_265)) (fun _ => ?_)
        obtain ⟨sa_292, hsa_292⟩ := hT.2.2.2.2.2.1 ("Gatherhouse", 332, "there are not so many") (by decide +kernel)
        refine zx_throw (own := RX6) (cls := "java/util/NoSuchElementException") (up := "java/lang/RuntimeException") (r := ["java/lang/Exception"]) (A := A) hx hb hnt hown (by decide +kernel) (by decide +kernel) (by decide +kernel) (hts (.classLink RX6 280 "java/util/NoSuchElementException") (by decide +kernel)) (hts (.initialized "java/util/NoSuchElementException") (by decide +kernel)) hsa_292 (z_throwN (fun w h => hts w (ztX6_set_X6_284 w h)) (hT.2.2.1 ("java/util/NoSuchElementException", "java/util/NoSuchElementException") (by decide +kernel)) hT.2.2.2.2.2.2.2.1 (by decide +kernel)) (by decide +kernel) hZ.1 hZ.2.1 hS (hl.1.trans hml.symm) dX6_set_100 dX6_set_103 dX6_set_104 dX6_set_107 dX6_set_110 (fun x h => (hxt x h).elim) (Nat.le_of_ble_eq_true rfl) (Nat.le_of_ble_eq_true rfl) (Nat.le_of_ble_eq_true rfl) (Nat.le_of_ble_eq_true rfl) hlocks (fun t hvm hz1 hk1 => ⟨(), trivial, (Or.inr (⟨rfl, (by first | assumption | exact inR_1 (by assumption) (by assumption) | exact inR_2 (by assumption) (by assumption) | exact inR_3 (by assumption) | exact inR_4 (by assumption) | exact inR_5 (by assumption) | exact ⟨by assumption, by assumption, by assumption, by assumption⟩ | exact ⟨by assumption, by assumption, by assumption⟩ | exact (fun q => absurd q.1 (by assumption)) | exact (fun q => absurd q.2.1 (by assumption)) | exact (fun q => absurd q.2.2 (by assumption)) | exact (fun q => absurd q.2.2.1 (by assumption)) | exact (fun q => absurd q.2.2.2 (by assumption)) | exact isRole_no (by assumption) (by assumption) (by assumption) (by assumption) | exact isRole_nb (by assumption) (by assumption) (by assumption) (by assumption) | exact isRole_out (by assumption) | exact enc_use (by assumption) (by assumption) (by assumption) | exact enc_103 (by assumption) | exact enc_103 (Eq.symm (by assumption)) | exact enc_115 (Eq.symm (by assumption)) | exact enc_102 (Eq.symm (by assumption)) | exact enc_98 (Eq.symm (by assumption)) | exact isRole_nc (by assumption) (by assumption) (by assumption) (by assumption) | exact enc_115 (by assumption) | exact enc_102 (by assumption) | exact enc_98 (by assumption) | exact Or.inr (by assumption) | rfl | exact Or.inl (by assumption) | exact Or.inr (Or.inl (by assumption)) | exact Or.inr (Or.inr (Or.inl (by assumption))) | exact Or.inr (Or.inr (Or.inr (by assumption))) | decide)⟩)), ⟨Nat.le_trans hS.1 hz1, fun q h1 h2 => (hk1 q (Nat.lt_of_lt_of_le h1 hS.1)).trans (hS.2.1 q h1 h2)⟩⟩) hS.2.2 (Nat.le_of_ble_eq_true rfl) (Nat.le_of_ble_eq_true rfl)
theorem dX6_init_0 : decode cX6_init 0 = .ok (.aload_n 0, 1) := by decide +kernel
theorem dX6_init_1 : decode cX6_init 1 = .ok (.invokespecial 1, 3) := by decide +kernel
theorem dX6_init_4 : decode cX6_init 4 = .ok (.aload_n 0, 1) := by decide +kernel
theorem dX6_init_5 : decode cX6_init 5 = .ok (.bipush 6, 2) := by decide +kernel
theorem dX6_init_7 : decode cX6_init 7 = .ok (.anewarray 9, 3) := by decide +kernel
theorem dX6_init_10 : decode cX6_init 10 = .ok (.putfield 11, 3) := by decide +kernel
theorem dX6_init_13 : decode cX6_init 13 = .ok (.aload_n 0, 1) := by decide +kernel
theorem dX6_init_14 : decode cX6_init 14 = .ok (.iconst 0, 1) := by decide +kernel
theorem dX6_init_15 : decode cX6_init 15 = .ok (.putfield 15, 3) := by decide +kernel
theorem dX6_init_18 : decode cX6_init 18 = .ok (.aload_n 0, 1) := by decide +kernel
theorem dX6_init_19 : decode cX6_init 19 = .ok (.iconst 4, 1) := by decide +kernel
theorem dX6_init_20 : decode cX6_init 20 = .ok (.anewarray 19, 3) := by decide +kernel
theorem dX6_init_23 : decode cX6_init 23 = .ok (.putfield 21, 3) := by decide +kernel
theorem dX6_init_26 : decode cX6_init 26 = .ok (.aload_n 0, 1) := by decide +kernel
theorem dX6_init_27 : decode cX6_init 27 = .ok (.iconst 0, 1) := by decide +kernel
theorem dX6_init_28 : decode cX6_init 28 = .ok (.putfield 25, 3) := by decide +kernel
theorem dX6_init_31 : decode cX6_init 31 = .ok (.aload_n 0, 1) := by decide +kernel
theorem dX6_init_32 : decode cX6_init 32 = .ok (.bipush 16, 2) := by decide +kernel
theorem dX6_init_34 : decode cX6_init 34 = .ok (.anewarray 28, 3) := by decide +kernel
theorem dX6_init_37 : decode cX6_init 37 = .ok (.putfield 30, 3) := by decide +kernel
theorem dX6_init_40 : decode cX6_init 40 = .ok (.aload_n 0, 1) := by decide +kernel
theorem dX6_init_41 : decode cX6_init 41 = .ok (.iconst 0, 1) := by decide +kernel
theorem dX6_init_42 : decode cX6_init 42 = .ok (.putfield 34, 3) := by decide +kernel
theorem dX6_init_45 : decode cX6_init 45 = .ok (.aload_n 0, 1) := by decide +kernel
theorem dX6_init_46 : decode cX6_init 46 = .ok (.new 37, 3) := by decide +kernel
theorem dX6_init_49 : decode cX6_init 49 = .ok (.dup, 1) := by decide +kernel
theorem dX6_init_50 : decode cX6_init 50 = .ok (.invokespecial 39, 3) := by decide +kernel
theorem dX6_init_53 : decode cX6_init 53 = .ok (.putfield 40, 3) := by decide +kernel
theorem dX6_init_56 : decode cX6_init 56 = .ok (.aload_n 0, 1) := by decide +kernel
theorem dX6_init_57 : decode cX6_init 57 = .ok (.new 37, 3) := by decide +kernel
theorem dX6_init_60 : decode cX6_init 60 = .ok (.dup, 1) := by decide +kernel
theorem dX6_init_61 : decode cX6_init 61 = .ok (.invokespecial 39, 3) := by decide +kernel
theorem dX6_init_64 : decode cX6_init 64 = .ok (.putfield 44, 3) := by decide +kernel
theorem dX6_init_67 : decode cX6_init 67 = .ok (.aload_n 0, 1) := by decide +kernel
theorem dX6_init_68 : decode cX6_init 68 = .ok (.new 37, 3) := by decide +kernel
theorem dX6_init_71 : decode cX6_init 71 = .ok (.dup, 1) := by decide +kernel
theorem dX6_init_72 : decode cX6_init 72 = .ok (.invokespecial 39, 3) := by decide +kernel
theorem dX6_init_75 : decode cX6_init 75 = .ok (.putfield 47, 3) := by decide +kernel
theorem dX6_init_78 : decode cX6_init 78 = .ok (.aload_n 0, 1) := by decide +kernel
theorem dX6_init_79 : decode cX6_init 79 = .ok (.new 37, 3) := by decide +kernel
theorem dX6_init_82 : decode cX6_init 82 = .ok (.dup, 1) := by decide +kernel
theorem dX6_init_83 : decode cX6_init 83 = .ok (.invokespecial 39, 3) := by decide +kernel
theorem dX6_init_86 : decode cX6_init 86 = .ok (.putfield 50, 3) := by decide +kernel
theorem dX6_init_89 : decode cX6_init 89 = .ok (.aload_n 0, 1) := by decide +kernel
theorem dX6_init_90 : decode cX6_init 90 = .ok (.new 53, 3) := by decide +kernel
theorem dX6_init_93 : decode cX6_init 93 = .ok (.dup, 1) := by decide +kernel
theorem dX6_init_94 : decode cX6_init 94 = .ok (.invokespecial 55, 3) := by decide +kernel
theorem dX6_init_97 : decode cX6_init 97 = .ok (.putfield 56, 3) := by decide +kernel
theorem dX6_init_100 : decode cX6_init 100 = .ok (.aload_n 0, 1) := by decide +kernel
theorem dX6_init_101 : decode cX6_init 101 = .ok (.iconst 0, 1) := by decide +kernel
theorem dX6_init_102 : decode cX6_init 102 = .ok (.putfield 60, 3) := by decide +kernel
theorem dX6_init_105 : decode cX6_init 105 = .ok (.aload_n 0, 1) := by decide +kernel
theorem dX6_init_106 : decode cX6_init 106 = .ok (.iconst 0, 1) := by decide +kernel
theorem dX6_init_107 : decode cX6_init 107 = .ok (.putfield 63, 3) := by decide +kernel
theorem dX6_init_110 : decode cX6_init 110 = .ok (.aload_n 0, 1) := by decide +kernel
theorem dX6_init_111 : decode cX6_init 111 = .ok (.bipush 40, 2) := by decide +kernel
theorem dX6_init_113 : decode cX6_init 113 = .ok (.putfield 66, 3) := by decide +kernel
theorem dX6_init_116 : decode cX6_init 116 = .ok (.aload_n 0, 1) := by decide +kernel
theorem dX6_init_117 : decode cX6_init 117 = .ok (.iconst 0, 1) := by decide +kernel
theorem dX6_init_118 : decode cX6_init 118 = .ok (.putfield 69, 3) := by decide +kernel
theorem dX6_init_121 : decode cX6_init 121 = .ok (.aload_n 0, 1) := by decide +kernel
theorem dX6_init_122 : decode cX6_init 122 = .ok (.iconst 0, 1) := by decide +kernel
theorem dX6_init_123 : decode cX6_init 123 = .ok (.putfield 72, 3) := by decide +kernel
theorem dX6_init_126 : decode cX6_init 126 = .ok (.return_, 1) := by decide +kernel
def wzEX6_init : List Cond := [.code yX6_init cX6_init 1 none, .methodLink RX6 1 objectInit, .instanceMethod objectInit, .code objectInit ⟨#[0xb1]⟩ 1 none, .classLink RX6 9 RX0, .fieldLink RX6 11 "Gatherhouse" "glasses" "[LGatherhouse$Glass;", .fieldLink RX6 15 "Gatherhouse" "glassCount" "I", .classLink RX6 19 RX2, .fieldLink RX6 21 "Gatherhouse" "pots" "[LGatherhouse$Pot;", .fieldLink RX6 25 "Gatherhouse" "potCount" "I", .classLink RX6 28 RX1, .fieldLink RX6 30 "Gatherhouse" "pieces" "[LGatherhouse$Piece;", .fieldLink RX6 34 "Gatherhouse" "pieceCount" "I", .classLink RX6 37 RX4, .instantiable RX4 2, .initialized RX4, .code yX4_init cX4_init 1 none, .methodLink RX4 1 objectInit, .fieldLink RX4 7 "Gatherhouse$Role" "busy" "I", .fieldLink RX4 13 "Gatherhouse$Role" "paid" "I", .instanceMethod yX4_init, .fieldLink RX6 40 "Gatherhouse" "gatherer" "LGatherhouse$Role;", .fieldLink RX6 44 "Gatherhouse" "servitor" "LGatherhouse$Role;", .fieldLink RX6 47 "Gatherhouse" "gaffer" "LGatherhouse$Role;", .fieldLink RX6 50 "Gatherhouse" "boy" "LGatherhouse$Role;", .classLink RX6 53 RX5, .instantiable RX5 7, .initialized RX5, .code yX5_init cX5_init 1 none, .methodLink RX5 3 objectInit, .arrayClass .int, .fieldLink RX5 9 "Gatherhouse$SetSearch" "numbers" "[I", .fieldLink RX5 15 "Gatherhouse$SetSearch" "heights" "[I", .fieldLink RX5 18 "Gatherhouse$SetSearch" "masses" "[I", .fieldLink RX5 21 "Gatherhouse$SetSearch" "size" "I", .fieldLink RX5 25 "Gatherhouse$SetSearch" "bestApart" "I", .fieldLink RX5 28 "Gatherhouse$SetSearch" "bestMass" "I", .fieldLink RX5 31 "Gatherhouse$SetSearch" "bestChoice" "I", .instanceMethod yX5_init, .fieldLink RX6 56 "Gatherhouse" "search" "LGatherhouse$SetSearch;", .fieldLink RX6 60 "Gatherhouse" "secondsGone" "I", .fieldLink RX6 63 "Gatherhouse" "hoursGone" "I", .fieldLink RX6 66 "Gatherhouse" "dropAnHour" "I", .fieldLink RX6 69 "Gatherhouse" "sumOfSales" "I", .fieldLink RX6 72 "Gatherhouse" "brokenLater" "I"]
def wzX6_init : List Cond := wzEX6_init ++ (u_ws RX6 TX6 16 ++ (u_ws RX4 TX4 2 ++ (u_ws RX5 TX5 7)))
theorem zgEX6_init : wzEX6_init.all goodWord = true := by decide +kernel
theorem zuX6_init_X6 : ∀ w ∈ u_ws RX6 TX6 16, w ∈ wzX6_init := (fun _ h => (List.mem_append_right _ (List.mem_append_left _ h)))
theorem zuX6_init_X4 : ∀ w ∈ u_ws RX4 TX4 2, w ∈ wzX6_init := (fun _ h => (List.mem_append_right _ (List.mem_append_right _ (List.mem_append_left _ h))))
theorem zuX6_init_X5 : ∀ w ∈ u_ws RX5 TX5 7, w ∈ wzX6_init := (fun _ h => (List.mem_append_right _ (List.mem_append_right _ (List.mem_append_right _ h))))
theorem gzX6_init_X4_init_39 : GoodIn wzX6_init (wzX4_init) := (goodIn_app (z_lift (goodIn_r wzEX4_init [16, 17, 2, 3, 18, 19] rfl zgEX4_init)) (goodIn_sub (fun _ h => (List.mem_append_right _ (List.mem_append_right _ (List.mem_append_left _ h)))) zgU_X4))
theorem gzX6_init_X5_init_55 : GoodIn wzX6_init (wzX5_init) := (goodIn_app (z_lift (goodIn_r wzEX5_init [28, 29, 2, 3, 30, 31, 32, 33, 34, 35, 36, 37] rfl zgEX5_init)) (goodIn_sub (fun _ h => (List.mem_append_right _ (List.mem_append_right _ (List.mem_append_right _ h)))) zgU_X5))
set_option maxHeartbeats 4000000 in
set_option maxRecDepth 100000 in
theorem zc_X6_init (l : Launch) (D : va_G) (G : Nat × Nat × Nat) (xo : Nat) (sz : Nat) : Met l yX6_init wzX6_init ({ frames := 2, cells := 11, slots := 89, locals := 32 }) (va_Pc [.ref xo] (p_RW D G [] [(xo, .inr (11, [.null, .int 0, .null, .int 0, .null, .int 0, .null, .null, .null, .null, .null, .int 0, .int 0, .int 0, .int 0, .int 0]))] sz)) (va_Qv (fun (u : Unit) => True) (fun (u : Unit) (t : State) => ∃ (xg : Nat) (xp : Nat) (xq : Nat) (r1 : Nat) (r2 : Nat) (r3 : Nat) (r4 : Nat) (se : Nat) (n1 : Nat) (n2 : Nat) (n3 : Nat) (cg : ClassId) (cp : ClassId) (cq : ClassId), q_RW D [(cg, .object "Gatherhouse$Glass"), (cp, .object "Gatherhouse$Pot"), (cq, .object "Gatherhouse$Piece")] [(xo, .inr (11, [.ref xg, .int 0, .ref xp, .int 0, .ref xq, .int 0, .ref r1, .ref r2, .ref r3, .ref r4, .ref se, .int 0, .int 0, .int 40, .int 0, .int 0])), (xg, .inl (cg, 6, .inr (.inr (.inr (.inr (fun _ => none)))))), (xp, .inl (cp, 4, .inr (.inr (.inr (.inr (fun _ => none)))))), (xq, .inl (cq, 16, .inr (.inr (.inr (.inr (fun _ => none)))))), (r1, .inr (9, [.int 0, .int 0])), (r2, .inr (9, [.int 0, .int 0])), (r3, .inr (9, [.int 0, .int 0])), (r4, .inr (9, [.int 0, .int 0])), (se, .inr (10, [.ref n1, .ref n2, .ref n3, .int 0, .int 0, .int 0, .int 0]))] (va_A [(xo, .inr (11, [.null, .int 0, .null, .int 0, .null, .int 0, .null, .null, .null, .null, .null, .int 0, .int 0, .int 0, .int 0, .int 0]))] sz) t) (va_A [(xo, .inr (11, [.null, .int 0, .null, .int 0, .null, .int 0, .null, .null, .null, .null, .null, .int 0, .int 0, .int 0, .int 0, .int 0]))] sz)) 11 89 (va_A [(xo, .inr (11, [.null, .int 0, .null, .int 0, .null, .int 0, .null, .null, .null, .null, .null, .int 0, .int 0, .int 0, .int 0, .int 0]))] sz) := by
  refine Met.ofW (cc := cX6_init) (maxL := 1) (ret := none) (by decide) rfl ?_
  intro p e s m args below meth c s₁ B hml hv
  obtain ⟨rfl, hsz, hP, hK, hD0, hT, hZ⟩ := hv
  have hx := B.exec
  have hb := B.bytes
  have hr := B.returns
  have hts := atoms_spec (ws := wzX6_init) B.pre
  have hown : s.vm.findClass RX6 = some m.cls := findClass_of_methodNamed B.named
  have hlocks := B.notSynchronized
  have hin : meth.name = "<init>" := (name_of_methodNamed B.named B.method).1
  subst hsz
  have hD := hD0.self (sz := s.heap.size)
  generalize hAe : va_A [(xo, .inr (11, [.null, .int 0, .null, .int 0, .null, .int 0, .null, .null, .null, .null, .null, .int 0, .int 0, .int 0, .int 0, .int 0]))] s.heap.size = A at hD hZ ⊢
  have hA : ∀ q : Nat, s.heap.size ≤ q → A q := fun q h => by rw [← hAe]; exact Or.inr h
  have hS : va_S A s.heap s.heap [] := va_S.rf
  have hl := lv_entry ([.ref xo]) (n := 1) (Nat.le_of_ble_eq_true rfl)
  rw [lg_entry_eq]
  generalize (lg_sl ([.ref xo]) ++ List.replicate (1 - (lg_sl ([.ref xo])).length) Slot.unset).toArray = ls at hl ⊢
  have hl : lv_has ls 1 [(0, .ref xo)] := hl
  refine lv_aload_n hx hb dX6_init_0 rfl (lv_at hl 0 rfl) ?_
  refine W.objInit hx hb hown (hts (.methodLink RX6 1 objectInit) (by decide +kernel)) (hts (.instanceMethod objectInit) (by decide +kernel)) (hts (.code objectInit ⟨#[0xb1]⟩ 1 none) (by decide +kernel)) rfl (by rw [hml]; exact hl.1) rfl dX6_init_1 (Nat.le_of_ble_eq_true rfl) (Nat.le_of_ble_eq_true rfl) ?_
  refine W.eq (g2 := F0 m 4 ls []) rfl ?_
  refine lv_aload_n hx hb dX6_init_4 rfl (lv_at hl 0 rfl) ?_
  refine lv_bipush (v := 6) hx hb dX6_init_5 (by decide) ?_
  refine va_newq (D := D) (cl := vwCl) (N' := 6) hx hb hown (hts (.classLink RX6 9 RX0) (by decide +kernel)) (hT.2.2.2.2.1 "Gatherhouse$Glass" (by decide +kernel)) hK hP hD hS hA (by decide) (by decide) (by decide) (Nat.le_of_ble_eq_true rfl) (Nat.le_of_ble_eq_true rfl) dX6_init_7 (fun o_293 cA_294 H hK hP hD hS => ?_)
  have hP : va_P D vwCl [(xo, .inr (11, [.null, .int 0, .null, .int 0, .null, .int 0, .null, .null, .null, .null, .null, .int 0, .int 0, .int 0, .int 0, .int 0])), (o_293, .inl (cA_294, 6, .inr (.inr (.inr (.inr (fun _ => none))))))] H := hP
  have hD : va_D A [(xo, .inr (11, [.null, .int 0, .null, .int 0, .null, .int 0, .null, .null, .null, .null, .null, .int 0, .int 0, .int 0, .int 0, .int 0])), (o_293, .inl (cA_294, 6, .inr (.inr (.inr (.inr (fun _ => none))))))] := hD
  have hK : va_K D vwCl [(cA_294, .object "Gatherhouse$Glass")] s := hK
  refine W.widen (k := 1) (n := 6) (Nat.le_of_ble_eq_true rfl) (Nat.le_of_ble_eq_true rfl) ?_
  refine va_putF (D := D) (cl := vwCl) (ci := 11) (v := .ref o_293) (ty := (.array (.object "Gatherhouse$Glass"))) (C := RX6) (T := TX6) (N := 16) hx hb hts zuX6_init_X6 tyX6 tyX6_ok nmX6 hown hK hP hD hS 0 rfl rfl 0 (by decide) (hts (.fieldLink RX6 11 "Gatherhouse" "glasses" "[LGatherhouse$Glass;") (by decide +kernel)) (fun _ h9 => h9) rfl hin rfl (by decide +kernel) rfl rfl (Nat.le_of_ble_eq_true rfl) dX6_init_10 (fun H locs hP hD hS => ?_)
  have hP : va_P D vwCl [(xo, .inr (11, [.ref o_293, .int 0, .null, .int 0, .null, .int 0, .null, .null, .null, .null, .null, .int 0, .int 0, .int 0, .int 0, .int 0])), (o_293, .inl (cA_294, 6, .inr (.inr (.inr (.inr (fun _ => none))))))] H := hP
  have hD : va_D A [(xo, .inr (11, [.ref o_293, .int 0, .null, .int 0, .null, .int 0, .null, .null, .null, .null, .null, .int 0, .int 0, .int 0, .int 0, .int 0])), (o_293, .inl (cA_294, 6, .inr (.inr (.inr (.inr (fun _ => none))))))] := hD
  refine lv_aload_n hx hb dX6_init_13 rfl (lv_at hl 0 rfl) ?_
  refine lv_iconst (v := 0) hx hb dX6_init_14 (by decide) ?_
  refine va_put (D := D) (cl := vwCl) (ci := 11) (v := .int 0) (ty := .int) (C := RX6) (T := TX6) (N := 16) hx hb hts zuX6_init_X6 tyX6 tyX6_ok nmX6 hown hK hP hD hS 0 rfl rfl 1 (by decide) (hts (.fieldLink RX6 15 "Gatherhouse" "glassCount" "I") (by decide +kernel)) (fun _ h9 => h9) rfl (by decide +kernel) rfl rfl (Nat.le_of_ble_eq_true rfl) dX6_init_15 (fun H locs hP hD hS => ?_)
  have hP : va_P D vwCl [(xo, .inr (11, [.ref o_293, .int 0, .null, .int 0, .null, .int 0, .null, .null, .null, .null, .null, .int 0, .int 0, .int 0, .int 0, .int 0])), (o_293, .inl (cA_294, 6, .inr (.inr (.inr (.inr (fun _ => none))))))] H := hP
  have hD : va_D A [(xo, .inr (11, [.ref o_293, .int 0, .null, .int 0, .null, .int 0, .null, .null, .null, .null, .null, .int 0, .int 0, .int 0, .int 0, .int 0])), (o_293, .inl (cA_294, 6, .inr (.inr (.inr (.inr (fun _ => none))))))] := hD
  refine lv_aload_n hx hb dX6_init_18 rfl (lv_at hl 0 rfl) ?_
  refine lv_iconst (v := 4) hx hb dX6_init_19 (by decide) ?_
  refine va_newq (D := D) (cl := vwCl) (N' := 4) hx hb hown (hts (.classLink RX6 19 RX2) (by decide +kernel)) (hT.2.2.2.2.1 "Gatherhouse$Pot" (by decide +kernel)) hK hP hD hS hA (by decide) (by decide) (by decide) (Nat.le_of_ble_eq_true rfl) (Nat.le_of_ble_eq_true rfl) dX6_init_20 (fun o_295 cA_296 H hK hP hD hS => ?_)
  have hP : va_P D vwCl [(xo, .inr (11, [.ref o_293, .int 0, .null, .int 0, .null, .int 0, .null, .null, .null, .null, .null, .int 0, .int 0, .int 0, .int 0, .int 0])), (o_293, .inl (cA_294, 6, .inr (.inr (.inr (.inr (fun _ => none)))))), (o_295, .inl (cA_296, 4, .inr (.inr (.inr (.inr (fun _ => none))))))] H := hP
  have hD : va_D A [(xo, .inr (11, [.ref o_293, .int 0, .null, .int 0, .null, .int 0, .null, .null, .null, .null, .null, .int 0, .int 0, .int 0, .int 0, .int 0])), (o_293, .inl (cA_294, 6, .inr (.inr (.inr (.inr (fun _ => none)))))), (o_295, .inl (cA_296, 4, .inr (.inr (.inr (.inr (fun _ => none))))))] := hD
  have hK : va_K D vwCl [(cA_294, .object "Gatherhouse$Glass"), (cA_296, .object "Gatherhouse$Pot")] s := hK
  refine W.widen (k := 2) (n := 10) (Nat.le_of_ble_eq_true rfl) (Nat.le_of_ble_eq_true rfl) ?_
  refine va_putF (D := D) (cl := vwCl) (ci := 11) (v := .ref o_295) (ty := (.array (.object "Gatherhouse$Pot"))) (C := RX6) (T := TX6) (N := 16) hx hb hts zuX6_init_X6 tyX6 tyX6_ok nmX6 hown hK hP hD hS 0 rfl rfl 2 (by decide) (hts (.fieldLink RX6 21 "Gatherhouse" "pots" "[LGatherhouse$Pot;") (by decide +kernel)) (fun _ h9 => h9) rfl hin rfl (by decide +kernel) rfl rfl (Nat.le_of_ble_eq_true rfl) dX6_init_23 (fun H locs hP hD hS => ?_)
  have hP : va_P D vwCl [(xo, .inr (11, [.ref o_293, .int 0, .ref o_295, .int 0, .null, .int 0, .null, .null, .null, .null, .null, .int 0, .int 0, .int 0, .int 0, .int 0])), (o_293, .inl (cA_294, 6, .inr (.inr (.inr (.inr (fun _ => none)))))), (o_295, .inl (cA_296, 4, .inr (.inr (.inr (.inr (fun _ => none))))))] H := hP
  have hD : va_D A [(xo, .inr (11, [.ref o_293, .int 0, .ref o_295, .int 0, .null, .int 0, .null, .null, .null, .null, .null, .int 0, .int 0, .int 0, .int 0, .int 0])), (o_293, .inl (cA_294, 6, .inr (.inr (.inr (.inr (fun _ => none)))))), (o_295, .inl (cA_296, 4, .inr (.inr (.inr (.inr (fun _ => none))))))] := hD
  refine lv_aload_n hx hb dX6_init_26 rfl (lv_at hl 0 rfl) ?_
  refine lv_iconst (v := 0) hx hb dX6_init_27 (by decide) ?_
  refine va_put (D := D) (cl := vwCl) (ci := 11) (v := .int 0) (ty := .int) (C := RX6) (T := TX6) (N := 16) hx hb hts zuX6_init_X6 tyX6 tyX6_ok nmX6 hown hK hP hD hS 0 rfl rfl 3 (by decide) (hts (.fieldLink RX6 25 "Gatherhouse" "potCount" "I") (by decide +kernel)) (fun _ h9 => h9) rfl (by decide +kernel) rfl rfl (Nat.le_of_ble_eq_true rfl) dX6_init_28 (fun H locs hP hD hS => ?_)
  have hP : va_P D vwCl [(xo, .inr (11, [.ref o_293, .int 0, .ref o_295, .int 0, .null, .int 0, .null, .null, .null, .null, .null, .int 0, .int 0, .int 0, .int 0, .int 0])), (o_293, .inl (cA_294, 6, .inr (.inr (.inr (.inr (fun _ => none)))))), (o_295, .inl (cA_296, 4, .inr (.inr (.inr (.inr (fun _ => none))))))] H := hP
  have hD : va_D A [(xo, .inr (11, [.ref o_293, .int 0, .ref o_295, .int 0, .null, .int 0, .null, .null, .null, .null, .null, .int 0, .int 0, .int 0, .int 0, .int 0])), (o_293, .inl (cA_294, 6, .inr (.inr (.inr (.inr (fun _ => none)))))), (o_295, .inl (cA_296, 4, .inr (.inr (.inr (.inr (fun _ => none))))))] := hD
  refine lv_aload_n hx hb dX6_init_31 rfl (lv_at hl 0 rfl) ?_
  refine lv_bipush (v := 16) hx hb dX6_init_32 (by decide) ?_
  refine va_newq (D := D) (cl := vwCl) (N' := 16) hx hb hown (hts (.classLink RX6 28 RX1) (by decide +kernel)) (hT.2.2.2.2.1 "Gatherhouse$Piece" (by decide +kernel)) hK hP hD hS hA (by decide) (by decide) (by decide) (Nat.le_of_ble_eq_true rfl) (Nat.le_of_ble_eq_true rfl) dX6_init_34 (fun o_297 cA_298 H hK hP hD hS => ?_)
  have hP : va_P D vwCl [(xo, .inr (11, [.ref o_293, .int 0, .ref o_295, .int 0, .null, .int 0, .null, .null, .null, .null, .null, .int 0, .int 0, .int 0, .int 0, .int 0])), (o_293, .inl (cA_294, 6, .inr (.inr (.inr (.inr (fun _ => none)))))), (o_295, .inl (cA_296, 4, .inr (.inr (.inr (.inr (fun _ => none)))))), (o_297, .inl (cA_298, 16, .inr (.inr (.inr (.inr (fun _ => none))))))] H := hP
  have hD : va_D A [(xo, .inr (11, [.ref o_293, .int 0, .ref o_295, .int 0, .null, .int 0, .null, .null, .null, .null, .null, .int 0, .int 0, .int 0, .int 0, .int 0])), (o_293, .inl (cA_294, 6, .inr (.inr (.inr (.inr (fun _ => none)))))), (o_295, .inl (cA_296, 4, .inr (.inr (.inr (.inr (fun _ => none)))))), (o_297, .inl (cA_298, 16, .inr (.inr (.inr (.inr (fun _ => none))))))] := hD
  have hK : va_K D vwCl [(cA_294, .object "Gatherhouse$Glass"), (cA_296, .object "Gatherhouse$Pot"), (cA_298, .object "Gatherhouse$Piece")] s := hK
  refine W.widen (k := 3) (n := 26) (Nat.le_of_ble_eq_true rfl) (Nat.le_of_ble_eq_true rfl) ?_
  refine va_putF (D := D) (cl := vwCl) (ci := 11) (v := .ref o_297) (ty := (.array (.object "Gatherhouse$Piece"))) (C := RX6) (T := TX6) (N := 16) hx hb hts zuX6_init_X6 tyX6 tyX6_ok nmX6 hown hK hP hD hS 0 rfl rfl 4 (by decide) (hts (.fieldLink RX6 30 "Gatherhouse" "pieces" "[LGatherhouse$Piece;") (by decide +kernel)) (fun _ h9 => h9) rfl hin rfl (by decide +kernel) rfl rfl (Nat.le_of_ble_eq_true rfl) dX6_init_37 (fun H locs hP hD hS => ?_)
  have hP : va_P D vwCl [(xo, .inr (11, [.ref o_293, .int 0, .ref o_295, .int 0, .ref o_297, .int 0, .null, .null, .null, .null, .null, .int 0, .int 0, .int 0, .int 0, .int 0])), (o_293, .inl (cA_294, 6, .inr (.inr (.inr (.inr (fun _ => none)))))), (o_295, .inl (cA_296, 4, .inr (.inr (.inr (.inr (fun _ => none)))))), (o_297, .inl (cA_298, 16, .inr (.inr (.inr (.inr (fun _ => none))))))] H := hP
  have hD : va_D A [(xo, .inr (11, [.ref o_293, .int 0, .ref o_295, .int 0, .ref o_297, .int 0, .null, .null, .null, .null, .null, .int 0, .int 0, .int 0, .int 0, .int 0])), (o_293, .inl (cA_294, 6, .inr (.inr (.inr (.inr (fun _ => none)))))), (o_295, .inl (cA_296, 4, .inr (.inr (.inr (.inr (fun _ => none)))))), (o_297, .inl (cA_298, 16, .inr (.inr (.inr (.inr (fun _ => none))))))] := hD
  refine lv_aload_n hx hb dX6_init_40 rfl (lv_at hl 0 rfl) ?_
  refine lv_iconst (v := 0) hx hb dX6_init_41 (by decide) ?_
  refine va_put (D := D) (cl := vwCl) (ci := 11) (v := .int 0) (ty := .int) (C := RX6) (T := TX6) (N := 16) hx hb hts zuX6_init_X6 tyX6 tyX6_ok nmX6 hown hK hP hD hS 0 rfl rfl 5 (by decide) (hts (.fieldLink RX6 34 "Gatherhouse" "pieceCount" "I") (by decide +kernel)) (fun _ h9 => h9) rfl (by decide +kernel) rfl rfl (Nat.le_of_ble_eq_true rfl) dX6_init_42 (fun H locs hP hD hS => ?_)
  have hP : va_P D vwCl [(xo, .inr (11, [.ref o_293, .int 0, .ref o_295, .int 0, .ref o_297, .int 0, .null, .null, .null, .null, .null, .int 0, .int 0, .int 0, .int 0, .int 0])), (o_293, .inl (cA_294, 6, .inr (.inr (.inr (.inr (fun _ => none)))))), (o_295, .inl (cA_296, 4, .inr (.inr (.inr (.inr (fun _ => none)))))), (o_297, .inl (cA_298, 16, .inr (.inr (.inr (.inr (fun _ => none))))))] H := hP
  have hD : va_D A [(xo, .inr (11, [.ref o_293, .int 0, .ref o_295, .int 0, .ref o_297, .int 0, .null, .null, .null, .null, .null, .int 0, .int 0, .int 0, .int 0, .int 0])), (o_293, .inl (cA_294, 6, .inr (.inr (.inr (.inr (fun _ => none)))))), (o_295, .inl (cA_296, 4, .inr (.inr (.inr (.inr (fun _ => none)))))), (o_297, .inl (cA_298, 16, .inr (.inr (.inr (.inr (fun _ => none))))))] := hD
  refine lv_aload_n hx hb dX6_init_45 rfl (lv_at hl 0 rfl) ?_
  refine va_new (D := D) (cl := vwCl) (ci := 9) (fs := [.int 0, .int 0]) (C := RX4) (T := TX4) (N := 2) hx hb hts zuX6_init_X4 tyX4 tyX4_ok hown (hts (.classLink RX6 37 RX4) (by decide +kernel)) (hts (.instantiable RX4 2) (by decide +kernel)) (hts (.initialized RX4) (by decide +kernel)) hK hP hD hS hA rfl (fun j hj => by rcases (show j = 0 ∨ j = 1 by omega) with rfl | rfl <;> rfl) (Nat.le_of_ble_eq_true rfl) (Nat.le_of_ble_eq_true rfl) dX6_init_46 (fun o_299 H hP hD hS => ?_)
  have hP : va_P D vwCl [(xo, .inr (11, [.ref o_293, .int 0, .ref o_295, .int 0, .ref o_297, .int 0, .null, .null, .null, .null, .null, .int 0, .int 0, .int 0, .int 0, .int 0])), (o_293, .inl (cA_294, 6, .inr (.inr (.inr (.inr (fun _ => none)))))), (o_295, .inl (cA_296, 4, .inr (.inr (.inr (.inr (fun _ => none)))))), (o_297, .inl (cA_298, 16, .inr (.inr (.inr (.inr (fun _ => none)))))), (o_299, .inr (9, [.int 0, .int 0]))] H := hP
  have hD : va_D A [(xo, .inr (11, [.ref o_293, .int 0, .ref o_295, .int 0, .ref o_297, .int 0, .null, .null, .null, .null, .null, .int 0, .int 0, .int 0, .int 0, .int 0])), (o_293, .inl (cA_294, 6, .inr (.inr (.inr (.inr (fun _ => none)))))), (o_295, .inl (cA_296, 4, .inr (.inr (.inr (.inr (fun _ => none)))))), (o_297, .inl (cA_298, 16, .inr (.inr (.inr (.inr (fun _ => none)))))), (o_299, .inr (9, [.int 0, .int 0]))] := hD
  refine W.widen (k := 4) (n := 28) (Nat.le_of_ble_eq_true rfl) (Nat.le_of_ble_eq_true rfl) ?_
  refine lv_dup hx hb dX6_init_49 rfl ?_
  have hFc := va_free (wc := [(o_299, .inr (9, [.int 0, .int 0]))]) hD hS hA [4] rfl
  refine va_callv (va_runIN (As := []) (rest := [.ref o_299, .ref xo]) ⟨hx, hb, hml, hown, hts⟩ (zc_X4_init l D G o_299 0 0 H.size) ⟨va_cnB 0 hts gzX6_init_X4_init_39 rfl rfl rfl (hT.1 ("Gatherhouse", 39, ⟨"Gatherhouse$Role", "<init>", "()V"⟩, "Gatherhouse") (by decide +kernel)) (hts (.initialized RX4) (by decide +kernel)) (by decide +kernel) ⟨(Nat.le_of_ble_eq_true rfl), (Nat.le_of_ble_eq_true rfl)⟩, rfl, (hts (.instanceMethod yX4_init) (by decide +kernel))⟩ ⟨p_RW_blind, (p_RW_at (tc := []) (wc := [(o_299, .inr (9, [.int 0, .int 0]))]) hP hK hD hS hA hT hZ [4] [] rfl rfl (by decide) rfl [.ref o_299])⟩ rfl rfl hl.1 rfl (lv_room (Nat.le_of_ble_eq_true rfl)) dX6_init_50 ⟨(Nat.le_of_ble_eq_true rfl), (Nat.le_of_ble_eq_true rfl)⟩) hS (fun q _ h => hFc q h) hFc (fun u t H locs ht hvm w_301 hB hz1 hk1 hS => ?_)
  obtain ⟨hP, hD, hK⟩ := q_join (D := D) (wc := [(o_299, .inr (9, [.int 0, .int 0]))]) (wr := [(xo, .inr (11, [.ref o_293, .int 0, .ref o_295, .int 0, .ref o_297, .int 0, .null, .null, .null, .null, .null, .int 0, .int 0, .int 0, .int 0, .int 0])), (o_293, .inl (cA_294, 6, .inr (.inr (.inr (.inr (fun _ => none)))))), (o_295, .inl (cA_296, 4, .inr (.inr (.inr (.inr (fun _ => none)))))), (o_297, .inl (cA_298, 16, .inr (.inr (.inr (.inr (fun _ => none))))))]) (w1 := [(o_299, .inr (9, [.int 0, .int 0]))]) (tyr := [(cA_294, .object "Gatherhouse$Glass"), (cA_296, .object "Gatherhouse$Pot"), (cA_298, .object "Gatherhouse$Piece")]) (ty1 := []) hP hD hK [4] [0, 1, 2, 3] [0, 1, 2] rfl rfl (by decide) (by decide) rfl hFc hk1 ht hvm hB
  have hP : va_P D vwCl [(xo, .inr (11, [.ref o_293, .int 0, .ref o_295, .int 0, .ref o_297, .int 0, .null, .null, .null, .null, .null, .int 0, .int 0, .int 0, .int 0, .int 0])), (o_293, .inl (cA_294, 6, .inr (.inr (.inr (.inr (fun _ => none)))))), (o_295, .inl (cA_296, 4, .inr (.inr (.inr (.inr (fun _ => none)))))), (o_297, .inl (cA_298, 16, .inr (.inr (.inr (.inr (fun _ => none)))))), (o_299, .inr (9, [.int 0, .int 0]))] H := hP
  have hD : va_D A [(xo, .inr (11, [.ref o_293, .int 0, .ref o_295, .int 0, .ref o_297, .int 0, .null, .null, .null, .null, .null, .int 0, .int 0, .int 0, .int 0, .int 0])), (o_293, .inl (cA_294, 6, .inr (.inr (.inr (.inr (fun _ => none)))))), (o_295, .inl (cA_296, 4, .inr (.inr (.inr (.inr (fun _ => none)))))), (o_297, .inl (cA_298, 16, .inr (.inr (.inr (.inr (fun _ => none)))))), (o_299, .inr (9, [.int 0, .int 0]))] := hD
  have hK : va_K D vwCl [(cA_294, .object "Gatherhouse$Glass"), (cA_296, .object "Gatherhouse$Pot"), (cA_298, .object "Gatherhouse$Piece")] s := hK
  refine va_putF (D := D) (cl := vwCl) (ci := 11) (v := .ref o_299) (ty := (.object "Gatherhouse$Role")) (C := RX6) (T := TX6) (N := 16) hx hb hts zuX6_init_X6 tyX6 tyX6_ok nmX6 hown hK hP hD hS 0 rfl rfl 6 (by decide) (hts (.fieldLink RX6 40 "Gatherhouse" "gatherer" "LGatherhouse$Role;") (by decide +kernel)) (fun _ h9 => h9) rfl hin rfl (by decide +kernel) rfl rfl (Nat.le_of_ble_eq_true rfl) dX6_init_53 (fun H locs hP hD hS => ?_)
  have hP : va_P D vwCl [(xo, .inr (11, [.ref o_293, .int 0, .ref o_295, .int 0, .ref o_297, .int 0, .ref o_299, .null, .null, .null, .null, .int 0, .int 0, .int 0, .int 0, .int 0])), (o_293, .inl (cA_294, 6, .inr (.inr (.inr (.inr (fun _ => none)))))), (o_295, .inl (cA_296, 4, .inr (.inr (.inr (.inr (fun _ => none)))))), (o_297, .inl (cA_298, 16, .inr (.inr (.inr (.inr (fun _ => none)))))), (o_299, .inr (9, [.int 0, .int 0]))] H := hP
  have hD : va_D A [(xo, .inr (11, [.ref o_293, .int 0, .ref o_295, .int 0, .ref o_297, .int 0, .ref o_299, .null, .null, .null, .null, .int 0, .int 0, .int 0, .int 0, .int 0])), (o_293, .inl (cA_294, 6, .inr (.inr (.inr (.inr (fun _ => none)))))), (o_295, .inl (cA_296, 4, .inr (.inr (.inr (.inr (fun _ => none)))))), (o_297, .inl (cA_298, 16, .inr (.inr (.inr (.inr (fun _ => none)))))), (o_299, .inr (9, [.int 0, .int 0]))] := hD
  refine lv_aload_n hx hb dX6_init_56 rfl (lv_at hl 0 rfl) ?_
  refine va_new (D := D) (cl := vwCl) (ci := 9) (fs := [.int 0, .int 0]) (C := RX4) (T := TX4) (N := 2) hx hb hts zuX6_init_X4 tyX4 tyX4_ok hown (hts (.classLink RX6 37 RX4) (by decide +kernel)) (hts (.instantiable RX4 2) (by decide +kernel)) (hts (.initialized RX4) (by decide +kernel)) hK hP hD hS hA rfl (fun j hj => by rcases (show j = 0 ∨ j = 1 by omega) with rfl | rfl <;> rfl) (Nat.le_of_ble_eq_true rfl) (Nat.le_of_ble_eq_true rfl) dX6_init_57 (fun o_302 H hP hD hS => ?_)
  have hP : va_P D vwCl [(xo, .inr (11, [.ref o_293, .int 0, .ref o_295, .int 0, .ref o_297, .int 0, .ref o_299, .null, .null, .null, .null, .int 0, .int 0, .int 0, .int 0, .int 0])), (o_293, .inl (cA_294, 6, .inr (.inr (.inr (.inr (fun _ => none)))))), (o_295, .inl (cA_296, 4, .inr (.inr (.inr (.inr (fun _ => none)))))), (o_297, .inl (cA_298, 16, .inr (.inr (.inr (.inr (fun _ => none)))))), (o_299, .inr (9, [.int 0, .int 0])), (o_302, .inr (9, [.int 0, .int 0]))] H := hP
  have hD : va_D A [(xo, .inr (11, [.ref o_293, .int 0, .ref o_295, .int 0, .ref o_297, .int 0, .ref o_299, .null, .null, .null, .null, .int 0, .int 0, .int 0, .int 0, .int 0])), (o_293, .inl (cA_294, 6, .inr (.inr (.inr (.inr (fun _ => none)))))), (o_295, .inl (cA_296, 4, .inr (.inr (.inr (.inr (fun _ => none)))))), (o_297, .inl (cA_298, 16, .inr (.inr (.inr (.inr (fun _ => none)))))), (o_299, .inr (9, [.int 0, .int 0])), (o_302, .inr (9, [.int 0, .int 0]))] := hD
  refine W.widen (k := 5) (n := 30) (Nat.le_of_ble_eq_true rfl) (Nat.le_of_ble_eq_true rfl) ?_
  refine lv_dup hx hb dX6_init_60 rfl ?_
  have hFc := va_free (wc := [(o_302, .inr (9, [.int 0, .int 0]))]) hD hS hA [5] rfl
  refine va_callv (va_runIN (As := []) (rest := [.ref o_302, .ref xo]) ⟨hx, hb, hml, hown, hts⟩ (zc_X4_init l D G o_302 0 0 H.size) ⟨va_cnB 0 hts gzX6_init_X4_init_39 rfl rfl rfl (hT.1 ("Gatherhouse", 39, ⟨"Gatherhouse$Role", "<init>", "()V"⟩, "Gatherhouse") (by decide +kernel)) (hts (.initialized RX4) (by decide +kernel)) (by decide +kernel) ⟨(Nat.le_of_ble_eq_true rfl), (Nat.le_of_ble_eq_true rfl)⟩, rfl, (hts (.instanceMethod yX4_init) (by decide +kernel))⟩ ⟨p_RW_blind, (p_RW_at (tc := []) (wc := [(o_302, .inr (9, [.int 0, .int 0]))]) hP hK hD hS hA hT hZ [5] [] rfl rfl (by decide) rfl [.ref o_302])⟩ rfl rfl hl.1 rfl (lv_room (Nat.le_of_ble_eq_true rfl)) dX6_init_61 ⟨(Nat.le_of_ble_eq_true rfl), (Nat.le_of_ble_eq_true rfl)⟩) hS (fun q _ h => hFc q h) hFc (fun u t H locs ht hvm w_304 hB hz1 hk1 hS => ?_)
  obtain ⟨hP, hD, hK⟩ := q_join (D := D) (wc := [(o_302, .inr (9, [.int 0, .int 0]))]) (wr := [(xo, .inr (11, [.ref o_293, .int 0, .ref o_295, .int 0, .ref o_297, .int 0, .ref o_299, .null, .null, .null, .null, .int 0, .int 0, .int 0, .int 0, .int 0])), (o_293, .inl (cA_294, 6, .inr (.inr (.inr (.inr (fun _ => none)))))), (o_295, .inl (cA_296, 4, .inr (.inr (.inr (.inr (fun _ => none)))))), (o_297, .inl (cA_298, 16, .inr (.inr (.inr (.inr (fun _ => none)))))), (o_299, .inr (9, [.int 0, .int 0]))]) (w1 := [(o_302, .inr (9, [.int 0, .int 0]))]) (tyr := [(cA_294, .object "Gatherhouse$Glass"), (cA_296, .object "Gatherhouse$Pot"), (cA_298, .object "Gatherhouse$Piece")]) (ty1 := []) hP hD hK [5] [0, 1, 2, 3, 4] [0, 1, 2] rfl rfl (by decide) (by decide) rfl hFc hk1 ht hvm hB
  have hP : va_P D vwCl [(xo, .inr (11, [.ref o_293, .int 0, .ref o_295, .int 0, .ref o_297, .int 0, .ref o_299, .null, .null, .null, .null, .int 0, .int 0, .int 0, .int 0, .int 0])), (o_293, .inl (cA_294, 6, .inr (.inr (.inr (.inr (fun _ => none)))))), (o_295, .inl (cA_296, 4, .inr (.inr (.inr (.inr (fun _ => none)))))), (o_297, .inl (cA_298, 16, .inr (.inr (.inr (.inr (fun _ => none)))))), (o_299, .inr (9, [.int 0, .int 0])), (o_302, .inr (9, [.int 0, .int 0]))] H := hP
  have hD : va_D A [(xo, .inr (11, [.ref o_293, .int 0, .ref o_295, .int 0, .ref o_297, .int 0, .ref o_299, .null, .null, .null, .null, .int 0, .int 0, .int 0, .int 0, .int 0])), (o_293, .inl (cA_294, 6, .inr (.inr (.inr (.inr (fun _ => none)))))), (o_295, .inl (cA_296, 4, .inr (.inr (.inr (.inr (fun _ => none)))))), (o_297, .inl (cA_298, 16, .inr (.inr (.inr (.inr (fun _ => none)))))), (o_299, .inr (9, [.int 0, .int 0])), (o_302, .inr (9, [.int 0, .int 0]))] := hD
  have hK : va_K D vwCl [(cA_294, .object "Gatherhouse$Glass"), (cA_296, .object "Gatherhouse$Pot"), (cA_298, .object "Gatherhouse$Piece")] s := hK
  refine va_putF (D := D) (cl := vwCl) (ci := 11) (v := .ref o_302) (ty := (.object "Gatherhouse$Role")) (C := RX6) (T := TX6) (N := 16) hx hb hts zuX6_init_X6 tyX6 tyX6_ok nmX6 hown hK hP hD hS 0 rfl rfl 7 (by decide) (hts (.fieldLink RX6 44 "Gatherhouse" "servitor" "LGatherhouse$Role;") (by decide +kernel)) (fun _ h9 => h9) rfl hin rfl (by decide +kernel) rfl rfl (Nat.le_of_ble_eq_true rfl) dX6_init_64 (fun H locs hP hD hS => ?_)
  have hP : va_P D vwCl [(xo, .inr (11, [.ref o_293, .int 0, .ref o_295, .int 0, .ref o_297, .int 0, .ref o_299, .ref o_302, .null, .null, .null, .int 0, .int 0, .int 0, .int 0, .int 0])), (o_293, .inl (cA_294, 6, .inr (.inr (.inr (.inr (fun _ => none)))))), (o_295, .inl (cA_296, 4, .inr (.inr (.inr (.inr (fun _ => none)))))), (o_297, .inl (cA_298, 16, .inr (.inr (.inr (.inr (fun _ => none)))))), (o_299, .inr (9, [.int 0, .int 0])), (o_302, .inr (9, [.int 0, .int 0]))] H := hP
  have hD : va_D A [(xo, .inr (11, [.ref o_293, .int 0, .ref o_295, .int 0, .ref o_297, .int 0, .ref o_299, .ref o_302, .null, .null, .null, .int 0, .int 0, .int 0, .int 0, .int 0])), (o_293, .inl (cA_294, 6, .inr (.inr (.inr (.inr (fun _ => none)))))), (o_295, .inl (cA_296, 4, .inr (.inr (.inr (.inr (fun _ => none)))))), (o_297, .inl (cA_298, 16, .inr (.inr (.inr (.inr (fun _ => none)))))), (o_299, .inr (9, [.int 0, .int 0])), (o_302, .inr (9, [.int 0, .int 0]))] := hD
  refine lv_aload_n hx hb dX6_init_67 rfl (lv_at hl 0 rfl) ?_
  refine va_new (D := D) (cl := vwCl) (ci := 9) (fs := [.int 0, .int 0]) (C := RX4) (T := TX4) (N := 2) hx hb hts zuX6_init_X4 tyX4 tyX4_ok hown (hts (.classLink RX6 37 RX4) (by decide +kernel)) (hts (.instantiable RX4 2) (by decide +kernel)) (hts (.initialized RX4) (by decide +kernel)) hK hP hD hS hA rfl (fun j hj => by rcases (show j = 0 ∨ j = 1 by omega) with rfl | rfl <;> rfl) (Nat.le_of_ble_eq_true rfl) (Nat.le_of_ble_eq_true rfl) dX6_init_68 (fun o_305 H hP hD hS => ?_)
  have hP : va_P D vwCl [(xo, .inr (11, [.ref o_293, .int 0, .ref o_295, .int 0, .ref o_297, .int 0, .ref o_299, .ref o_302, .null, .null, .null, .int 0, .int 0, .int 0, .int 0, .int 0])), (o_293, .inl (cA_294, 6, .inr (.inr (.inr (.inr (fun _ => none)))))), (o_295, .inl (cA_296, 4, .inr (.inr (.inr (.inr (fun _ => none)))))), (o_297, .inl (cA_298, 16, .inr (.inr (.inr (.inr (fun _ => none)))))), (o_299, .inr (9, [.int 0, .int 0])), (o_302, .inr (9, [.int 0, .int 0])), (o_305, .inr (9, [.int 0, .int 0]))] H := hP
  have hD : va_D A [(xo, .inr (11, [.ref o_293, .int 0, .ref o_295, .int 0, .ref o_297, .int 0, .ref o_299, .ref o_302, .null, .null, .null, .int 0, .int 0, .int 0, .int 0, .int 0])), (o_293, .inl (cA_294, 6, .inr (.inr (.inr (.inr (fun _ => none)))))), (o_295, .inl (cA_296, 4, .inr (.inr (.inr (.inr (fun _ => none)))))), (o_297, .inl (cA_298, 16, .inr (.inr (.inr (.inr (fun _ => none)))))), (o_299, .inr (9, [.int 0, .int 0])), (o_302, .inr (9, [.int 0, .int 0])), (o_305, .inr (9, [.int 0, .int 0]))] := hD
  refine W.widen (k := 6) (n := 32) (Nat.le_of_ble_eq_true rfl) (Nat.le_of_ble_eq_true rfl) ?_
  refine lv_dup hx hb dX6_init_71 rfl ?_
  have hFc := va_free (wc := [(o_305, .inr (9, [.int 0, .int 0]))]) hD hS hA [6] rfl
  refine va_callv (va_runIN (As := []) (rest := [.ref o_305, .ref xo]) ⟨hx, hb, hml, hown, hts⟩ (zc_X4_init l D G o_305 0 0 H.size) ⟨va_cnB 0 hts gzX6_init_X4_init_39 rfl rfl rfl (hT.1 ("Gatherhouse", 39, ⟨"Gatherhouse$Role", "<init>", "()V"⟩, "Gatherhouse") (by decide +kernel)) (hts (.initialized RX4) (by decide +kernel)) (by decide +kernel) ⟨(Nat.le_of_ble_eq_true rfl), (Nat.le_of_ble_eq_true rfl)⟩, rfl, (hts (.instanceMethod yX4_init) (by decide +kernel))⟩ ⟨p_RW_blind, (p_RW_at (tc := []) (wc := [(o_305, .inr (9, [.int 0, .int 0]))]) hP hK hD hS hA hT hZ [6] [] rfl rfl (by decide) rfl [.ref o_305])⟩ rfl rfl hl.1 rfl (lv_room (Nat.le_of_ble_eq_true rfl)) dX6_init_72 ⟨(Nat.le_of_ble_eq_true rfl), (Nat.le_of_ble_eq_true rfl)⟩) hS (fun q _ h => hFc q h) hFc (fun u t H locs ht hvm w_307 hB hz1 hk1 hS => ?_)
  obtain ⟨hP, hD, hK⟩ := q_join (D := D) (wc := [(o_305, .inr (9, [.int 0, .int 0]))]) (wr := [(xo, .inr (11, [.ref o_293, .int 0, .ref o_295, .int 0, .ref o_297, .int 0, .ref o_299, .ref o_302, .null, .null, .null, .int 0, .int 0, .int 0, .int 0, .int 0])), (o_293, .inl (cA_294, 6, .inr (.inr (.inr (.inr (fun _ => none)))))), (o_295, .inl (cA_296, 4, .inr (.inr (.inr (.inr (fun _ => none)))))), (o_297, .inl (cA_298, 16, .inr (.inr (.inr (.inr (fun _ => none)))))), (o_299, .inr (9, [.int 0, .int 0])), (o_302, .inr (9, [.int 0, .int 0]))]) (w1 := [(o_305, .inr (9, [.int 0, .int 0]))]) (tyr := [(cA_294, .object "Gatherhouse$Glass"), (cA_296, .object "Gatherhouse$Pot"), (cA_298, .object "Gatherhouse$Piece")]) (ty1 := []) hP hD hK [6] [0, 1, 2, 3, 4, 5] [0, 1, 2] rfl rfl (by decide) (by decide) rfl hFc hk1 ht hvm hB
  have hP : va_P D vwCl [(xo, .inr (11, [.ref o_293, .int 0, .ref o_295, .int 0, .ref o_297, .int 0, .ref o_299, .ref o_302, .null, .null, .null, .int 0, .int 0, .int 0, .int 0, .int 0])), (o_293, .inl (cA_294, 6, .inr (.inr (.inr (.inr (fun _ => none)))))), (o_295, .inl (cA_296, 4, .inr (.inr (.inr (.inr (fun _ => none)))))), (o_297, .inl (cA_298, 16, .inr (.inr (.inr (.inr (fun _ => none)))))), (o_299, .inr (9, [.int 0, .int 0])), (o_302, .inr (9, [.int 0, .int 0])), (o_305, .inr (9, [.int 0, .int 0]))] H := hP
  have hD : va_D A [(xo, .inr (11, [.ref o_293, .int 0, .ref o_295, .int 0, .ref o_297, .int 0, .ref o_299, .ref o_302, .null, .null, .null, .int 0, .int 0, .int 0, .int 0, .int 0])), (o_293, .inl (cA_294, 6, .inr (.inr (.inr (.inr (fun _ => none)))))), (o_295, .inl (cA_296, 4, .inr (.inr (.inr (.inr (fun _ => none)))))), (o_297, .inl (cA_298, 16, .inr (.inr (.inr (.inr (fun _ => none)))))), (o_299, .inr (9, [.int 0, .int 0])), (o_302, .inr (9, [.int 0, .int 0])), (o_305, .inr (9, [.int 0, .int 0]))] := hD
  have hK : va_K D vwCl [(cA_294, .object "Gatherhouse$Glass"), (cA_296, .object "Gatherhouse$Pot"), (cA_298, .object "Gatherhouse$Piece")] s := hK
  refine va_putF (D := D) (cl := vwCl) (ci := 11) (v := .ref o_305) (ty := (.object "Gatherhouse$Role")) (C := RX6) (T := TX6) (N := 16) hx hb hts zuX6_init_X6 tyX6 tyX6_ok nmX6 hown hK hP hD hS 0 rfl rfl 8 (by decide) (hts (.fieldLink RX6 47 "Gatherhouse" "gaffer" "LGatherhouse$Role;") (by decide +kernel)) (fun _ h9 => h9) rfl hin rfl (by decide +kernel) rfl rfl (Nat.le_of_ble_eq_true rfl) dX6_init_75 (fun H locs hP hD hS => ?_)
  have hP : va_P D vwCl [(xo, .inr (11, [.ref o_293, .int 0, .ref o_295, .int 0, .ref o_297, .int 0, .ref o_299, .ref o_302, .ref o_305, .null, .null, .int 0, .int 0, .int 0, .int 0, .int 0])), (o_293, .inl (cA_294, 6, .inr (.inr (.inr (.inr (fun _ => none)))))), (o_295, .inl (cA_296, 4, .inr (.inr (.inr (.inr (fun _ => none)))))), (o_297, .inl (cA_298, 16, .inr (.inr (.inr (.inr (fun _ => none)))))), (o_299, .inr (9, [.int 0, .int 0])), (o_302, .inr (9, [.int 0, .int 0])), (o_305, .inr (9, [.int 0, .int 0]))] H := hP
  have hD : va_D A [(xo, .inr (11, [.ref o_293, .int 0, .ref o_295, .int 0, .ref o_297, .int 0, .ref o_299, .ref o_302, .ref o_305, .null, .null, .int 0, .int 0, .int 0, .int 0, .int 0])), (o_293, .inl (cA_294, 6, .inr (.inr (.inr (.inr (fun _ => none)))))), (o_295, .inl (cA_296, 4, .inr (.inr (.inr (.inr (fun _ => none)))))), (o_297, .inl (cA_298, 16, .inr (.inr (.inr (.inr (fun _ => none)))))), (o_299, .inr (9, [.int 0, .int 0])), (o_302, .inr (9, [.int 0, .int 0])), (o_305, .inr (9, [.int 0, .int 0]))] := hD
  refine lv_aload_n hx hb dX6_init_78 rfl (lv_at hl 0 rfl) ?_
  refine va_new (D := D) (cl := vwCl) (ci := 9) (fs := [.int 0, .int 0]) (C := RX4) (T := TX4) (N := 2) hx hb hts zuX6_init_X4 tyX4 tyX4_ok hown (hts (.classLink RX6 37 RX4) (by decide +kernel)) (hts (.instantiable RX4 2) (by decide +kernel)) (hts (.initialized RX4) (by decide +kernel)) hK hP hD hS hA rfl (fun j hj => by rcases (show j = 0 ∨ j = 1 by omega) with rfl | rfl <;> rfl) (Nat.le_of_ble_eq_true rfl) (Nat.le_of_ble_eq_true rfl) dX6_init_79 (fun o_308 H hP hD hS => ?_)
  have hP : va_P D vwCl [(xo, .inr (11, [.ref o_293, .int 0, .ref o_295, .int 0, .ref o_297, .int 0, .ref o_299, .ref o_302, .ref o_305, .null, .null, .int 0, .int 0, .int 0, .int 0, .int 0])), (o_293, .inl (cA_294, 6, .inr (.inr (.inr (.inr (fun _ => none)))))), (o_295, .inl (cA_296, 4, .inr (.inr (.inr (.inr (fun _ => none)))))), (o_297, .inl (cA_298, 16, .inr (.inr (.inr (.inr (fun _ => none)))))), (o_299, .inr (9, [.int 0, .int 0])), (o_302, .inr (9, [.int 0, .int 0])), (o_305, .inr (9, [.int 0, .int 0])), (o_308, .inr (9, [.int 0, .int 0]))] H := hP
  have hD : va_D A [(xo, .inr (11, [.ref o_293, .int 0, .ref o_295, .int 0, .ref o_297, .int 0, .ref o_299, .ref o_302, .ref o_305, .null, .null, .int 0, .int 0, .int 0, .int 0, .int 0])), (o_293, .inl (cA_294, 6, .inr (.inr (.inr (.inr (fun _ => none)))))), (o_295, .inl (cA_296, 4, .inr (.inr (.inr (.inr (fun _ => none)))))), (o_297, .inl (cA_298, 16, .inr (.inr (.inr (.inr (fun _ => none)))))), (o_299, .inr (9, [.int 0, .int 0])), (o_302, .inr (9, [.int 0, .int 0])), (o_305, .inr (9, [.int 0, .int 0])), (o_308, .inr (9, [.int 0, .int 0]))] := hD
  refine W.widen (k := 7) (n := 34) (Nat.le_of_ble_eq_true rfl) (Nat.le_of_ble_eq_true rfl) ?_
  refine lv_dup hx hb dX6_init_82 rfl ?_
  have hFc := va_free (wc := [(o_308, .inr (9, [.int 0, .int 0]))]) hD hS hA [7] rfl
  refine va_callv (va_runIN (As := []) (rest := [.ref o_308, .ref xo]) ⟨hx, hb, hml, hown, hts⟩ (zc_X4_init l D G o_308 0 0 H.size) ⟨va_cnB 0 hts gzX6_init_X4_init_39 rfl rfl rfl (hT.1 ("Gatherhouse", 39, ⟨"Gatherhouse$Role", "<init>", "()V"⟩, "Gatherhouse") (by decide +kernel)) (hts (.initialized RX4) (by decide +kernel)) (by decide +kernel) ⟨(Nat.le_of_ble_eq_true rfl), (Nat.le_of_ble_eq_true rfl)⟩, rfl, (hts (.instanceMethod yX4_init) (by decide +kernel))⟩ ⟨p_RW_blind, (p_RW_at (tc := []) (wc := [(o_308, .inr (9, [.int 0, .int 0]))]) hP hK hD hS hA hT hZ [7] [] rfl rfl (by decide) rfl [.ref o_308])⟩ rfl rfl hl.1 rfl (lv_room (Nat.le_of_ble_eq_true rfl)) dX6_init_83 ⟨(Nat.le_of_ble_eq_true rfl), (Nat.le_of_ble_eq_true rfl)⟩) hS (fun q _ h => hFc q h) hFc (fun u t H locs ht hvm w_310 hB hz1 hk1 hS => ?_)
  obtain ⟨hP, hD, hK⟩ := q_join (D := D) (wc := [(o_308, .inr (9, [.int 0, .int 0]))]) (wr := [(xo, .inr (11, [.ref o_293, .int 0, .ref o_295, .int 0, .ref o_297, .int 0, .ref o_299, .ref o_302, .ref o_305, .null, .null, .int 0, .int 0, .int 0, .int 0, .int 0])), (o_293, .inl (cA_294, 6, .inr (.inr (.inr (.inr (fun _ => none)))))), (o_295, .inl (cA_296, 4, .inr (.inr (.inr (.inr (fun _ => none)))))), (o_297, .inl (cA_298, 16, .inr (.inr (.inr (.inr (fun _ => none)))))), (o_299, .inr (9, [.int 0, .int 0])), (o_302, .inr (9, [.int 0, .int 0])), (o_305, .inr (9, [.int 0, .int 0]))]) (w1 := [(o_308, .inr (9, [.int 0, .int 0]))]) (tyr := [(cA_294, .object "Gatherhouse$Glass"), (cA_296, .object "Gatherhouse$Pot"), (cA_298, .object "Gatherhouse$Piece")]) (ty1 := []) hP hD hK [7] [0, 1, 2, 3, 4, 5, 6] [0, 1, 2] rfl rfl (by decide) (by decide) rfl hFc hk1 ht hvm hB
  have hP : va_P D vwCl [(xo, .inr (11, [.ref o_293, .int 0, .ref o_295, .int 0, .ref o_297, .int 0, .ref o_299, .ref o_302, .ref o_305, .null, .null, .int 0, .int 0, .int 0, .int 0, .int 0])), (o_293, .inl (cA_294, 6, .inr (.inr (.inr (.inr (fun _ => none)))))), (o_295, .inl (cA_296, 4, .inr (.inr (.inr (.inr (fun _ => none)))))), (o_297, .inl (cA_298, 16, .inr (.inr (.inr (.inr (fun _ => none)))))), (o_299, .inr (9, [.int 0, .int 0])), (o_302, .inr (9, [.int 0, .int 0])), (o_305, .inr (9, [.int 0, .int 0])), (o_308, .inr (9, [.int 0, .int 0]))] H := hP
  have hD : va_D A [(xo, .inr (11, [.ref o_293, .int 0, .ref o_295, .int 0, .ref o_297, .int 0, .ref o_299, .ref o_302, .ref o_305, .null, .null, .int 0, .int 0, .int 0, .int 0, .int 0])), (o_293, .inl (cA_294, 6, .inr (.inr (.inr (.inr (fun _ => none)))))), (o_295, .inl (cA_296, 4, .inr (.inr (.inr (.inr (fun _ => none)))))), (o_297, .inl (cA_298, 16, .inr (.inr (.inr (.inr (fun _ => none)))))), (o_299, .inr (9, [.int 0, .int 0])), (o_302, .inr (9, [.int 0, .int 0])), (o_305, .inr (9, [.int 0, .int 0])), (o_308, .inr (9, [.int 0, .int 0]))] := hD
  have hK : va_K D vwCl [(cA_294, .object "Gatherhouse$Glass"), (cA_296, .object "Gatherhouse$Pot"), (cA_298, .object "Gatherhouse$Piece")] s := hK
  refine va_putF (D := D) (cl := vwCl) (ci := 11) (v := .ref o_308) (ty := (.object "Gatherhouse$Role")) (C := RX6) (T := TX6) (N := 16) hx hb hts zuX6_init_X6 tyX6 tyX6_ok nmX6 hown hK hP hD hS 0 rfl rfl 9 (by decide) (hts (.fieldLink RX6 50 "Gatherhouse" "boy" "LGatherhouse$Role;") (by decide +kernel)) (fun _ h9 => h9) rfl hin rfl (by decide +kernel) rfl rfl (Nat.le_of_ble_eq_true rfl) dX6_init_86 (fun H locs hP hD hS => ?_)
  have hP : va_P D vwCl [(xo, .inr (11, [.ref o_293, .int 0, .ref o_295, .int 0, .ref o_297, .int 0, .ref o_299, .ref o_302, .ref o_305, .ref o_308, .null, .int 0, .int 0, .int 0, .int 0, .int 0])), (o_293, .inl (cA_294, 6, .inr (.inr (.inr (.inr (fun _ => none)))))), (o_295, .inl (cA_296, 4, .inr (.inr (.inr (.inr (fun _ => none)))))), (o_297, .inl (cA_298, 16, .inr (.inr (.inr (.inr (fun _ => none)))))), (o_299, .inr (9, [.int 0, .int 0])), (o_302, .inr (9, [.int 0, .int 0])), (o_305, .inr (9, [.int 0, .int 0])), (o_308, .inr (9, [.int 0, .int 0]))] H := hP
  have hD : va_D A [(xo, .inr (11, [.ref o_293, .int 0, .ref o_295, .int 0, .ref o_297, .int 0, .ref o_299, .ref o_302, .ref o_305, .ref o_308, .null, .int 0, .int 0, .int 0, .int 0, .int 0])), (o_293, .inl (cA_294, 6, .inr (.inr (.inr (.inr (fun _ => none)))))), (o_295, .inl (cA_296, 4, .inr (.inr (.inr (.inr (fun _ => none)))))), (o_297, .inl (cA_298, 16, .inr (.inr (.inr (.inr (fun _ => none)))))), (o_299, .inr (9, [.int 0, .int 0])), (o_302, .inr (9, [.int 0, .int 0])), (o_305, .inr (9, [.int 0, .int 0])), (o_308, .inr (9, [.int 0, .int 0]))] := hD
  refine lv_aload_n hx hb dX6_init_89 rfl (lv_at hl 0 rfl) ?_
  refine va_new (D := D) (cl := vwCl) (ci := 10) (fs := [.null, .null, .null, .int 0, .int 0, .int 0, .int 0]) (C := RX5) (T := TX5) (N := 7) hx hb hts zuX6_init_X5 tyX5 tyX5_ok hown (hts (.classLink RX6 53 RX5) (by decide +kernel)) (hts (.instantiable RX5 7) (by decide +kernel)) (hts (.initialized RX5) (by decide +kernel)) hK hP hD hS hA rfl (fun j hj => by rcases (show j = 0 ∨ j = 1 ∨ j = 2 ∨ j = 3 ∨ j = 4 ∨ j = 5 ∨ j = 6 by omega) with rfl | rfl | rfl | rfl | rfl | rfl | rfl <;> rfl) (Nat.le_of_ble_eq_true rfl) (Nat.le_of_ble_eq_true rfl) dX6_init_90 (fun o_311 H hP hD hS => ?_)
  have hP : va_P D vwCl [(xo, .inr (11, [.ref o_293, .int 0, .ref o_295, .int 0, .ref o_297, .int 0, .ref o_299, .ref o_302, .ref o_305, .ref o_308, .null, .int 0, .int 0, .int 0, .int 0, .int 0])), (o_293, .inl (cA_294, 6, .inr (.inr (.inr (.inr (fun _ => none)))))), (o_295, .inl (cA_296, 4, .inr (.inr (.inr (.inr (fun _ => none)))))), (o_297, .inl (cA_298, 16, .inr (.inr (.inr (.inr (fun _ => none)))))), (o_299, .inr (9, [.int 0, .int 0])), (o_302, .inr (9, [.int 0, .int 0])), (o_305, .inr (9, [.int 0, .int 0])), (o_308, .inr (9, [.int 0, .int 0])), (o_311, .inr (10, [.null, .null, .null, .int 0, .int 0, .int 0, .int 0]))] H := hP
  have hD : va_D A [(xo, .inr (11, [.ref o_293, .int 0, .ref o_295, .int 0, .ref o_297, .int 0, .ref o_299, .ref o_302, .ref o_305, .ref o_308, .null, .int 0, .int 0, .int 0, .int 0, .int 0])), (o_293, .inl (cA_294, 6, .inr (.inr (.inr (.inr (fun _ => none)))))), (o_295, .inl (cA_296, 4, .inr (.inr (.inr (.inr (fun _ => none)))))), (o_297, .inl (cA_298, 16, .inr (.inr (.inr (.inr (fun _ => none)))))), (o_299, .inr (9, [.int 0, .int 0])), (o_302, .inr (9, [.int 0, .int 0])), (o_305, .inr (9, [.int 0, .int 0])), (o_308, .inr (9, [.int 0, .int 0])), (o_311, .inr (10, [.null, .null, .null, .int 0, .int 0, .int 0, .int 0]))] := hD
  refine W.widen (k := 8) (n := 41) (Nat.le_of_ble_eq_true rfl) (Nat.le_of_ble_eq_true rfl) ?_
  refine lv_dup hx hb dX6_init_93 rfl ?_
  have hFc := va_free (wc := [(o_311, .inr (10, [.null, .null, .null, .int 0, .int 0, .int 0, .int 0]))]) hD hS hA [8] rfl
  refine va_callv (va_runIN (As := []) (rest := [.ref o_311, .ref xo]) ⟨hx, hb, hml, hown, hts⟩ (zc_X5_init l D G o_311 H.size) ⟨va_cnB 0 hts gzX6_init_X5_init_55 rfl rfl rfl (hT.1 ("Gatherhouse", 55, ⟨"Gatherhouse$SetSearch", "<init>", "()V"⟩, "Gatherhouse") (by decide +kernel)) (hts (.initialized RX5) (by decide +kernel)) (by decide +kernel) ⟨(Nat.le_of_ble_eq_true rfl), (Nat.le_of_ble_eq_true rfl)⟩, rfl, (hts (.instanceMethod yX5_init) (by decide +kernel))⟩ ⟨p_RW_blind, (p_RW_at (tc := []) (wc := [(o_311, .inr (10, [.null, .null, .null, .int 0, .int 0, .int 0, .int 0]))]) hP hK hD hS hA hT hZ [8] [] rfl rfl (by decide) rfl [.ref o_311])⟩ rfl rfl hl.1 rfl (lv_room (Nat.le_of_ble_eq_true rfl)) dX6_init_94 ⟨(Nat.le_of_ble_eq_true rfl), (Nat.le_of_ble_eq_true rfl)⟩) hS (fun q _ h => hFc q h) hFc (fun u t H locs ht hvm w_313 hB hz1 hk1 hS => ?_)
  obtain ⟨v_314, v_315, v_316, hB⟩ := hB
  obtain ⟨hP, hD, hK⟩ := q_join (D := D) (wc := [(o_311, .inr (10, [.null, .null, .null, .int 0, .int 0, .int 0, .int 0]))]) (wr := [(xo, .inr (11, [.ref o_293, .int 0, .ref o_295, .int 0, .ref o_297, .int 0, .ref o_299, .ref o_302, .ref o_305, .ref o_308, .null, .int 0, .int 0, .int 0, .int 0, .int 0])), (o_293, .inl (cA_294, 6, .inr (.inr (.inr (.inr (fun _ => none)))))), (o_295, .inl (cA_296, 4, .inr (.inr (.inr (.inr (fun _ => none)))))), (o_297, .inl (cA_298, 16, .inr (.inr (.inr (.inr (fun _ => none)))))), (o_299, .inr (9, [.int 0, .int 0])), (o_302, .inr (9, [.int 0, .int 0])), (o_305, .inr (9, [.int 0, .int 0])), (o_308, .inr (9, [.int 0, .int 0]))]) (w1 := [(o_311, .inr (10, [.ref v_314, .ref v_315, .ref v_316, .int 0, .int 0, .int 0, .int 0]))]) (tyr := [(cA_294, .object "Gatherhouse$Glass"), (cA_296, .object "Gatherhouse$Pot"), (cA_298, .object "Gatherhouse$Piece")]) (ty1 := []) hP hD hK [8] [0, 1, 2, 3, 4, 5, 6, 7] [0, 1, 2] rfl rfl (by decide) (by decide) rfl hFc hk1 ht hvm hB
  have hP : va_P D vwCl [(xo, .inr (11, [.ref o_293, .int 0, .ref o_295, .int 0, .ref o_297, .int 0, .ref o_299, .ref o_302, .ref o_305, .ref o_308, .null, .int 0, .int 0, .int 0, .int 0, .int 0])), (o_293, .inl (cA_294, 6, .inr (.inr (.inr (.inr (fun _ => none)))))), (o_295, .inl (cA_296, 4, .inr (.inr (.inr (.inr (fun _ => none)))))), (o_297, .inl (cA_298, 16, .inr (.inr (.inr (.inr (fun _ => none)))))), (o_299, .inr (9, [.int 0, .int 0])), (o_302, .inr (9, [.int 0, .int 0])), (o_305, .inr (9, [.int 0, .int 0])), (o_308, .inr (9, [.int 0, .int 0])), (o_311, .inr (10, [.ref v_314, .ref v_315, .ref v_316, .int 0, .int 0, .int 0, .int 0]))] H := hP
  have hD : va_D A [(xo, .inr (11, [.ref o_293, .int 0, .ref o_295, .int 0, .ref o_297, .int 0, .ref o_299, .ref o_302, .ref o_305, .ref o_308, .null, .int 0, .int 0, .int 0, .int 0, .int 0])), (o_293, .inl (cA_294, 6, .inr (.inr (.inr (.inr (fun _ => none)))))), (o_295, .inl (cA_296, 4, .inr (.inr (.inr (.inr (fun _ => none)))))), (o_297, .inl (cA_298, 16, .inr (.inr (.inr (.inr (fun _ => none)))))), (o_299, .inr (9, [.int 0, .int 0])), (o_302, .inr (9, [.int 0, .int 0])), (o_305, .inr (9, [.int 0, .int 0])), (o_308, .inr (9, [.int 0, .int 0])), (o_311, .inr (10, [.ref v_314, .ref v_315, .ref v_316, .int 0, .int 0, .int 0, .int 0]))] := hD
  have hK : va_K D vwCl [(cA_294, .object "Gatherhouse$Glass"), (cA_296, .object "Gatherhouse$Pot"), (cA_298, .object "Gatherhouse$Piece")] s := hK
  refine W.widen (k := 11) (n := 89) (Nat.le_of_ble_eq_true rfl) (Nat.le_of_ble_eq_true rfl) ?_
  refine va_putF (D := D) (cl := vwCl) (ci := 11) (v := .ref o_311) (ty := (.object "Gatherhouse$SetSearch")) (C := RX6) (T := TX6) (N := 16) hx hb hts zuX6_init_X6 tyX6 tyX6_ok nmX6 hown hK hP hD hS 0 rfl rfl 10 (by decide) (hts (.fieldLink RX6 56 "Gatherhouse" "search" "LGatherhouse$SetSearch;") (by decide +kernel)) (fun _ h9 => h9) rfl hin rfl (by decide +kernel) rfl rfl (Nat.le_of_ble_eq_true rfl) dX6_init_97 (fun H locs hP hD hS => ?_)
  have hP : va_P D vwCl [(xo, .inr (11, [.ref o_293, .int 0, .ref o_295, .int 0, .ref o_297, .int 0, .ref o_299, .ref o_302, .ref o_305, .ref o_308, .ref o_311, .int 0, .int 0, .int 0, .int 0, .int 0])), (o_293, .inl (cA_294, 6, .inr (.inr (.inr (.inr (fun _ => none)))))), (o_295, .inl (cA_296, 4, .inr (.inr (.inr (.inr (fun _ => none)))))), (o_297, .inl (cA_298, 16, .inr (.inr (.inr (.inr (fun _ => none)))))), (o_299, .inr (9, [.int 0, .int 0])), (o_302, .inr (9, [.int 0, .int 0])), (o_305, .inr (9, [.int 0, .int 0])), (o_308, .inr (9, [.int 0, .int 0])), (o_311, .inr (10, [.ref v_314, .ref v_315, .ref v_316, .int 0, .int 0, .int 0, .int 0]))] H := hP
  have hD : va_D A [(xo, .inr (11, [.ref o_293, .int 0, .ref o_295, .int 0, .ref o_297, .int 0, .ref o_299, .ref o_302, .ref o_305, .ref o_308, .ref o_311, .int 0, .int 0, .int 0, .int 0, .int 0])), (o_293, .inl (cA_294, 6, .inr (.inr (.inr (.inr (fun _ => none)))))), (o_295, .inl (cA_296, 4, .inr (.inr (.inr (.inr (fun _ => none)))))), (o_297, .inl (cA_298, 16, .inr (.inr (.inr (.inr (fun _ => none)))))), (o_299, .inr (9, [.int 0, .int 0])), (o_302, .inr (9, [.int 0, .int 0])), (o_305, .inr (9, [.int 0, .int 0])), (o_308, .inr (9, [.int 0, .int 0])), (o_311, .inr (10, [.ref v_314, .ref v_315, .ref v_316, .int 0, .int 0, .int 0, .int 0]))] := hD
  refine lv_aload_n hx hb dX6_init_100 rfl (lv_at hl 0 rfl) ?_
  refine lv_iconst (v := 0) hx hb dX6_init_101 (by decide) ?_
  refine va_put (D := D) (cl := vwCl) (ci := 11) (v := .int 0) (ty := .int) (C := RX6) (T := TX6) (N := 16) hx hb hts zuX6_init_X6 tyX6 tyX6_ok nmX6 hown hK hP hD hS 0 rfl rfl 11 (by decide) (hts (.fieldLink RX6 60 "Gatherhouse" "secondsGone" "I") (by decide +kernel)) (fun _ h9 => h9) rfl (by decide +kernel) rfl rfl (Nat.le_of_ble_eq_true rfl) dX6_init_102 (fun H locs hP hD hS => ?_)
  have hP : va_P D vwCl [(xo, .inr (11, [.ref o_293, .int 0, .ref o_295, .int 0, .ref o_297, .int 0, .ref o_299, .ref o_302, .ref o_305, .ref o_308, .ref o_311, .int 0, .int 0, .int 0, .int 0, .int 0])), (o_293, .inl (cA_294, 6, .inr (.inr (.inr (.inr (fun _ => none)))))), (o_295, .inl (cA_296, 4, .inr (.inr (.inr (.inr (fun _ => none)))))), (o_297, .inl (cA_298, 16, .inr (.inr (.inr (.inr (fun _ => none)))))), (o_299, .inr (9, [.int 0, .int 0])), (o_302, .inr (9, [.int 0, .int 0])), (o_305, .inr (9, [.int 0, .int 0])), (o_308, .inr (9, [.int 0, .int 0])), (o_311, .inr (10, [.ref v_314, .ref v_315, .ref v_316, .int 0, .int 0, .int 0, .int 0]))] H := hP
  have hD : va_D A [(xo, .inr (11, [.ref o_293, .int 0, .ref o_295, .int 0, .ref o_297, .int 0, .ref o_299, .ref o_302, .ref o_305, .ref o_308, .ref o_311, .int 0, .int 0, .int 0, .int 0, .int 0])), (o_293, .inl (cA_294, 6, .inr (.inr (.inr (.inr (fun _ => none)))))), (o_295, .inl (cA_296, 4, .inr (.inr (.inr (.inr (fun _ => none)))))), (o_297, .inl (cA_298, 16, .inr (.inr (.inr (.inr (fun _ => none)))))), (o_299, .inr (9, [.int 0, .int 0])), (o_302, .inr (9, [.int 0, .int 0])), (o_305, .inr (9, [.int 0, .int 0])), (o_308, .inr (9, [.int 0, .int 0])), (o_311, .inr (10, [.ref v_314, .ref v_315, .ref v_316, .int 0, .int 0, .int 0, .int 0]))] := hD
  refine lv_aload_n hx hb dX6_init_105 rfl (lv_at hl 0 rfl) ?_
  refine lv_iconst (v := 0) hx hb dX6_init_106 (by decide) ?_
  refine va_put (D := D) (cl := vwCl) (ci := 11) (v := .int 0) (ty := .int) (C := RX6) (T := TX6) (N := 16) hx hb hts zuX6_init_X6 tyX6 tyX6_ok nmX6 hown hK hP hD hS 0 rfl rfl 12 (by decide) (hts (.fieldLink RX6 63 "Gatherhouse" "hoursGone" "I") (by decide +kernel)) (fun _ h9 => h9) rfl (by decide +kernel) rfl rfl (Nat.le_of_ble_eq_true rfl) dX6_init_107 (fun H locs hP hD hS => ?_)
  have hP : va_P D vwCl [(xo, .inr (11, [.ref o_293, .int 0, .ref o_295, .int 0, .ref o_297, .int 0, .ref o_299, .ref o_302, .ref o_305, .ref o_308, .ref o_311, .int 0, .int 0, .int 0, .int 0, .int 0])), (o_293, .inl (cA_294, 6, .inr (.inr (.inr (.inr (fun _ => none)))))), (o_295, .inl (cA_296, 4, .inr (.inr (.inr (.inr (fun _ => none)))))), (o_297, .inl (cA_298, 16, .inr (.inr (.inr (.inr (fun _ => none)))))), (o_299, .inr (9, [.int 0, .int 0])), (o_302, .inr (9, [.int 0, .int 0])), (o_305, .inr (9, [.int 0, .int 0])), (o_308, .inr (9, [.int 0, .int 0])), (o_311, .inr (10, [.ref v_314, .ref v_315, .ref v_316, .int 0, .int 0, .int 0, .int 0]))] H := hP
  have hD : va_D A [(xo, .inr (11, [.ref o_293, .int 0, .ref o_295, .int 0, .ref o_297, .int 0, .ref o_299, .ref o_302, .ref o_305, .ref o_308, .ref o_311, .int 0, .int 0, .int 0, .int 0, .int 0])), (o_293, .inl (cA_294, 6, .inr (.inr (.inr (.inr (fun _ => none)))))), (o_295, .inl (cA_296, 4, .inr (.inr (.inr (.inr (fun _ => none)))))), (o_297, .inl (cA_298, 16, .inr (.inr (.inr (.inr (fun _ => none)))))), (o_299, .inr (9, [.int 0, .int 0])), (o_302, .inr (9, [.int 0, .int 0])), (o_305, .inr (9, [.int 0, .int 0])), (o_308, .inr (9, [.int 0, .int 0])), (o_311, .inr (10, [.ref v_314, .ref v_315, .ref v_316, .int 0, .int 0, .int 0, .int 0]))] := hD
  refine lv_aload_n hx hb dX6_init_110 rfl (lv_at hl 0 rfl) ?_
  refine lv_bipush (v := 40) hx hb dX6_init_111 (by decide) ?_
  refine va_put (D := D) (cl := vwCl) (ci := 11) (v := .int 40) (ty := .int) (C := RX6) (T := TX6) (N := 16) hx hb hts zuX6_init_X6 tyX6 tyX6_ok nmX6 hown hK hP hD hS 0 rfl rfl 13 (by decide) (hts (.fieldLink RX6 66 "Gatherhouse" "dropAnHour" "I") (by decide +kernel)) (fun _ h9 => h9) rfl (by decide +kernel) rfl rfl (Nat.le_of_ble_eq_true rfl) dX6_init_113 (fun H locs hP hD hS => ?_)
  have hP : va_P D vwCl [(xo, .inr (11, [.ref o_293, .int 0, .ref o_295, .int 0, .ref o_297, .int 0, .ref o_299, .ref o_302, .ref o_305, .ref o_308, .ref o_311, .int 0, .int 0, .int 40, .int 0, .int 0])), (o_293, .inl (cA_294, 6, .inr (.inr (.inr (.inr (fun _ => none)))))), (o_295, .inl (cA_296, 4, .inr (.inr (.inr (.inr (fun _ => none)))))), (o_297, .inl (cA_298, 16, .inr (.inr (.inr (.inr (fun _ => none)))))), (o_299, .inr (9, [.int 0, .int 0])), (o_302, .inr (9, [.int 0, .int 0])), (o_305, .inr (9, [.int 0, .int 0])), (o_308, .inr (9, [.int 0, .int 0])), (o_311, .inr (10, [.ref v_314, .ref v_315, .ref v_316, .int 0, .int 0, .int 0, .int 0]))] H := hP
  have hD : va_D A [(xo, .inr (11, [.ref o_293, .int 0, .ref o_295, .int 0, .ref o_297, .int 0, .ref o_299, .ref o_302, .ref o_305, .ref o_308, .ref o_311, .int 0, .int 0, .int 40, .int 0, .int 0])), (o_293, .inl (cA_294, 6, .inr (.inr (.inr (.inr (fun _ => none)))))), (o_295, .inl (cA_296, 4, .inr (.inr (.inr (.inr (fun _ => none)))))), (o_297, .inl (cA_298, 16, .inr (.inr (.inr (.inr (fun _ => none)))))), (o_299, .inr (9, [.int 0, .int 0])), (o_302, .inr (9, [.int 0, .int 0])), (o_305, .inr (9, [.int 0, .int 0])), (o_308, .inr (9, [.int 0, .int 0])), (o_311, .inr (10, [.ref v_314, .ref v_315, .ref v_316, .int 0, .int 0, .int 0, .int 0]))] := hD
  refine lv_aload_n hx hb dX6_init_116 rfl (lv_at hl 0 rfl) ?_
  refine lv_iconst (v := 0) hx hb dX6_init_117 (by decide) ?_
  refine va_put (D := D) (cl := vwCl) (ci := 11) (v := .int 0) (ty := .int) (C := RX6) (T := TX6) (N := 16) hx hb hts zuX6_init_X6 tyX6 tyX6_ok nmX6 hown hK hP hD hS 0 rfl rfl 14 (by decide) (hts (.fieldLink RX6 69 "Gatherhouse" "sumOfSales" "I") (by decide +kernel)) (fun _ h9 => h9) rfl (by decide +kernel) rfl rfl (Nat.le_of_ble_eq_true rfl) dX6_init_118 (fun H locs hP hD hS => ?_)
  have hP : va_P D vwCl [(xo, .inr (11, [.ref o_293, .int 0, .ref o_295, .int 0, .ref o_297, .int 0, .ref o_299, .ref o_302, .ref o_305, .ref o_308, .ref o_311, .int 0, .int 0, .int 40, .int 0, .int 0])), (o_293, .inl (cA_294, 6, .inr (.inr (.inr (.inr (fun _ => none)))))), (o_295, .inl (cA_296, 4, .inr (.inr (.inr (.inr (fun _ => none)))))), (o_297, .inl (cA_298, 16, .inr (.inr (.inr (.inr (fun _ => none)))))), (o_299, .inr (9, [.int 0, .int 0])), (o_302, .inr (9, [.int 0, .int 0])), (o_305, .inr (9, [.int 0, .int 0])), (o_308, .inr (9, [.int 0, .int 0])), (o_311, .inr (10, [.ref v_314, .ref v_315, .ref v_316, .int 0, .int 0, .int 0, .int 0]))] H := hP
  have hD : va_D A [(xo, .inr (11, [.ref o_293, .int 0, .ref o_295, .int 0, .ref o_297, .int 0, .ref o_299, .ref o_302, .ref o_305, .ref o_308, .ref o_311, .int 0, .int 0, .int 40, .int 0, .int 0])), (o_293, .inl (cA_294, 6, .inr (.inr (.inr (.inr (fun _ => none)))))), (o_295, .inl (cA_296, 4, .inr (.inr (.inr (.inr (fun _ => none)))))), (o_297, .inl (cA_298, 16, .inr (.inr (.inr (.inr (fun _ => none)))))), (o_299, .inr (9, [.int 0, .int 0])), (o_302, .inr (9, [.int 0, .int 0])), (o_305, .inr (9, [.int 0, .int 0])), (o_308, .inr (9, [.int 0, .int 0])), (o_311, .inr (10, [.ref v_314, .ref v_315, .ref v_316, .int 0, .int 0, .int 0, .int 0]))] := hD
  refine lv_aload_n hx hb dX6_init_121 rfl (lv_at hl 0 rfl) ?_
  refine lv_iconst (v := 0) hx hb dX6_init_122 (by decide) ?_
  refine va_put (D := D) (cl := vwCl) (ci := 11) (v := .int 0) (ty := .int) (C := RX6) (T := TX6) (N := 16) hx hb hts zuX6_init_X6 tyX6 tyX6_ok nmX6 hown hK hP hD hS 0 rfl rfl 15 (by decide) (hts (.fieldLink RX6 72 "Gatherhouse" "brokenLater" "I") (by decide +kernel)) (fun _ h9 => h9) rfl (by decide +kernel) rfl rfl (Nat.le_of_ble_eq_true rfl) dX6_init_123 (fun H locs hP hD hS => ?_)
  have hP : va_P D vwCl [(xo, .inr (11, [.ref o_293, .int 0, .ref o_295, .int 0, .ref o_297, .int 0, .ref o_299, .ref o_302, .ref o_305, .ref o_308, .ref o_311, .int 0, .int 0, .int 40, .int 0, .int 0])), (o_293, .inl (cA_294, 6, .inr (.inr (.inr (.inr (fun _ => none)))))), (o_295, .inl (cA_296, 4, .inr (.inr (.inr (.inr (fun _ => none)))))), (o_297, .inl (cA_298, 16, .inr (.inr (.inr (.inr (fun _ => none)))))), (o_299, .inr (9, [.int 0, .int 0])), (o_302, .inr (9, [.int 0, .int 0])), (o_305, .inr (9, [.int 0, .int 0])), (o_308, .inr (9, [.int 0, .int 0])), (o_311, .inr (10, [.ref v_314, .ref v_315, .ref v_316, .int 0, .int 0, .int 0, .int 0]))] H := hP
  have hD : va_D A [(xo, .inr (11, [.ref o_293, .int 0, .ref o_295, .int 0, .ref o_297, .int 0, .ref o_299, .ref o_302, .ref o_305, .ref o_308, .ref o_311, .int 0, .int 0, .int 40, .int 0, .int 0])), (o_293, .inl (cA_294, 6, .inr (.inr (.inr (.inr (fun _ => none)))))), (o_295, .inl (cA_296, 4, .inr (.inr (.inr (.inr (fun _ => none)))))), (o_297, .inl (cA_298, 16, .inr (.inr (.inr (.inr (fun _ => none)))))), (o_299, .inr (9, [.int 0, .int 0])), (o_302, .inr (9, [.int 0, .int 0])), (o_305, .inr (9, [.int 0, .int 0])), (o_308, .inr (9, [.int 0, .int 0])), (o_311, .inr (10, [.ref v_314, .ref v_315, .ref v_316, .int 0, .int 0, .int 0, .int 0]))] := hD
  exact W.vret hx hb hr (fun t ht hW => ⟨⟨(), rfl, trivial, ⟨o_293, o_295, o_297, o_299, o_302, o_305, o_308, o_311, v_314, v_315, v_316, cA_294, cA_296, cA_298, q_RW_mk hP hK hD [0, 1, 2, 3, 4, 5, 6, 7, 8] [0, 1, 2] rfl rfl (by decide) rfl ht hW.alike⟩⟩, hS.F ht⟩) hS.2.2 dX6_init_126
theorem dX6_hours_0 : decode cX6_hours 0 = .ok (.iload_n 1, 1) := by decide +kernel
theorem dX6_hours_1 : decode cX6_hours 1 = .ok (.iconst 1, 1) := by decide +kernel
theorem dX6_hours_2 : decode cX6_hours 2 = .ok (.sipush 240, 3) := by decide +kernel
theorem dX6_hours_5 : decode cX6_hours 5 = .ok (.invokestatic 75, 3) := by decide +kernel
theorem dX6_hours_8 : decode cX6_hours 8 = .ok (.aload_n 0, 1) := by decide +kernel
theorem dX6_hours_9 : decode cX6_hours 9 = .ok (.invokevirtual 123, 3) := by decide +kernel
theorem dX6_hours_12 : decode cX6_hours 12 = .ok (.iconst 0, 1) := by decide +kernel
theorem dX6_hours_13 : decode cX6_hours 13 = .ok (.istore_n 2, 1) := by decide +kernel
theorem dX6_hours_14 : decode cX6_hours 14 = .ok (.iconst 0, 1) := by decide +kernel
theorem dX6_hours_15 : decode cX6_hours 15 = .ok (.istore_n 3, 1) := by decide +kernel
theorem dX6_hours_16 : decode cX6_hours 16 = .ok (.iload_n 3, 1) := by decide +kernel
theorem dX6_hours_17 : decode cX6_hours 17 = .ok (.iload_n 1, 1) := by decide +kernel
theorem dX6_hours_18 : decode cX6_hours 18 = .ok (.if_icmp .ge 16, 3) := by decide +kernel
theorem dX6_hours_21 : decode cX6_hours 21 = .ok (.iload_n 2, 1) := by decide +kernel
theorem dX6_hours_22 : decode cX6_hours 22 = .ok (.aload_n 0, 1) := by decide +kernel
theorem dX6_hours_23 : decode cX6_hours 23 = .ok (.invokevirtual 126, 3) := by decide +kernel
theorem dX6_hours_26 : decode cX6_hours 26 = .ok (.iadd, 1) := by decide +kernel
theorem dX6_hours_27 : decode cX6_hours 27 = .ok (.istore_n 2, 1) := by decide +kernel
theorem dX6_hours_28 : decode cX6_hours 28 = .ok (.iinc 3 1, 3) := by decide +kernel
theorem dX6_hours_31 : decode cX6_hours 31 = .ok (.goto (-15), 3) := by decide +kernel
theorem dX6_hours_34 : decode cX6_hours 34 = .ok (.iload_n 2, 1) := by decide +kernel
theorem dX6_hours_35 : decode cX6_hours 35 = .ok (.ireturn, 1) := by decide +kernel
def wzEX6_hours : List Cond := [.code yX6_hours cX6_hours 4 (some .int), .methodLink RX6 75 yX6_checkRange, .static yX6_checkRange, .initialized RX6, .code yX6_checkRange cX6_checkRange 3 none, .classLink RX6 118 "java/lang/IllegalArgumentException", .initialized "java/lang/IllegalArgumentException", .methodLink RX6 123 yX6_checkTeamRests, .instanceMethod yX6_checkTeamRests, .selects RX6 yX6_checkTeamRests yX6_checkTeamRests, .code yX6_checkTeamRests cX6_checkTeamRests 1 none, .methodLink RX6 274 yX6_countOf, .instanceMethod yX6_countOf, .selects RX6 yX6_countOf yX6_countOf, .code yX6_countOf cX6_countOf 7 (some .int), .fieldLink RX6 30 "Gatherhouse" "pieces" "[LGatherhouse$Piece;", .fieldLink RX6 40 "Gatherhouse" "gatherer" "LGatherhouse$Role;", .code yX4_isBusy cX4_isBusy 1 (some .boolean), .fieldLink RX4 7 "Gatherhouse$Role" "busy" "I", .initialized RX4, .instanceMethod yX4_isBusy, .selects RX4 yX4_isBusy yX4_isBusy, .fieldLink RX6 44 "Gatherhouse" "servitor" "LGatherhouse$Role;", .fieldLink RX6 47 "Gatherhouse" "gaffer" "LGatherhouse$Role;", .fieldLink RX6 50 "Gatherhouse" "boy" "LGatherhouse$Role;", .methodLink RX6 126 yX6_passHour, .instanceMethod yX6_passHour, .selects RX6 yX6_passHour yX6_passHour, .code yX6_passHour cX6_passHour 7 (some .int), .fieldLink RX6 63 "Gatherhouse" "hoursGone" "I", .fieldLink RX6 21 "Gatherhouse" "pots" "[LGatherhouse$Pot;", .methodLink RX6 405 yX6_endDay, .instanceMethod yX6_endDay, .selects RX6 yX6_endDay yX6_endDay, .code yX6_endDay cX6_endDay 6 none]
def wzX6_hours : List Cond := wzEX6_hours ++ (u_ws RX6 TX6 16 ++ (u_ws RX4 TX4 2 ++ ((vx_atS RX6 122 "java/lang/IllegalArgumentException" ["java/lang/RuntimeException", "java/lang/Exception"]).filter goodWord)))
theorem zgEX6_hours : wzEX6_hours.all goodWord = true := by decide +kernel
theorem zuX6_hours_X6 : ∀ w ∈ u_ws RX6 TX6 16, w ∈ wzX6_hours := (fun _ h => (List.mem_append_right _ (List.mem_append_left _ h)))
theorem zuX6_hours_X4 : ∀ w ∈ u_ws RX4 TX4 2, w ∈ wzX6_hours := (fun _ h => (List.mem_append_right _ (List.mem_append_right _ (List.mem_append_left _ h))))
theorem ztX6_hours_X6_122 : ∀ w ∈ (vx_atS RX6 122 "java/lang/IllegalArgumentException" ["java/lang/RuntimeException", "java/lang/Exception"]).filter goodWord, w ∈ wzX6_hours := (fun _ h => (List.mem_append_right _ (List.mem_append_right _ (List.mem_append_right _ h))))
theorem gzX6_hours_X6_checkRange_75 : GoodIn wzX6_hours (va_wsS RX6 75 yX6_checkRange wzX6_checkRange) := (goodIn_app (z_lift (goodIn_r _ [1, 2, 3] rfl (by decide +kernel))) (goodIn_app (z_lift (goodIn_r wzEX6_checkRange [4, 5, 6] rfl zgEX6_checkRange)) (goodIn_sub (fun _ h => (List.mem_append_right _ (List.mem_append_right _ (List.mem_append_right _ h)))) zgV_X6_122)))
theorem gzX6_hours_X6_checkTeamRests_123 : GoodIn wzX6_hours (wsV RX6 123 RX6 yX6_checkTeamRests wzX6_checkTeamRests) := (goodIn_app (z_lift (goodIn_r _ [7, 8, 9, 3] rfl (by decide +kernel))) (goodIn_app (z_lift (goodIn_r wzEX6_checkTeamRests [10, 11, 12, 13, 3, 14, 15, 16, 17, 18, 19, 20, 21, 22, 23, 24] rfl zgEX6_checkTeamRests)) (goodIn_app (goodIn_sub (fun _ h => (List.mem_append_right _ (List.mem_append_left _ h))) zgU_X6) (goodIn_sub (fun _ h => (List.mem_append_right _ (List.mem_append_right _ (List.mem_append_left _ h)))) zgU_X4))))
theorem gzX6_hours_X6_passHour_126 : GoodIn wzX6_hours (wsV RX6 126 RX6 yX6_passHour wzX6_passHour) := (goodIn_app (z_lift (goodIn_r _ [25, 26, 27, 3] rfl (by decide +kernel))) (goodIn_app (z_lift (goodIn_r wzEX6_passHour [28, 29, 30, 15, 31, 32, 33, 3, 34] rfl zgEX6_passHour)) (goodIn_sub (fun _ h => (List.mem_append_right _ (List.mem_append_left _ h))) zgU_X6)))
set_option maxHeartbeats 4000000 in
set_option maxRecDepth 100000 in
theorem zc_X6_hours (l : Launch) (hnt : l.stackTraces = false) (D : va_G) (G : Nat × Nat × Nat) (xo : Nat) (xg : Nat) (xp : Nat) (xq : Nat) (r1 : Nat) (r2 : Nat) (r3 : Nat) (r4 : Nat) (se : Nat) (ts : Int32) (hq : Int32) (cp : ClassId) (cq : ClassId) (ii : Int32) (sz : Nat) : vx_Met l yX6_hours wzX6_hours ({ frames := 7, cells := 1, slots := 6, locals := 104 }) (va_Pc [.ref xo, .int ii] (p_RW D G [(cp, .object "Gatherhouse$Pot"), (cq, .object "Gatherhouse$Piece")] [(xo, .inr (11, [.ref xg, .int 0, .ref xp, .int 0, .ref xq, .int 0, .ref r1, .ref r2, .ref r3, .ref r4, .ref se, .int ts, .int hq, .int 40, .int 0, .int 0])), (xp, .inl (cp, 4, .inr (.inr (.inr (.inr (fun _ => none)))))), (xq, .inl (cq, 16, .inr (.inr (.inr (.inr (fun _ => none)))))), (r1, .inr (9, [.int 0, .int 0])), (r2, .inr (9, [.int 0, .int 0])), (r3, .inr (9, [.int 0, .int 0])), (r4, .inr (9, [.int 0, .int 0]))] sz)) (va_Qi (fun (r : Int32) (u : Unit) => inR ii 1 240 ∧ r = 0) (fun (u : Unit) (t : State) => True) (va_A [(xo, .inr (11, [.ref xg, .int 0, .ref xp, .int 0, .ref xq, .int 0, .ref r1, .ref r2, .ref r3, .ref r4, .ref se, .int ts, .int hq, .int 40, .int 0, .int 0])), (xp, .inl (cp, 4, .inr (.inr (.inr (.inr (fun _ => none)))))), (xq, .inl (cq, 16, .inr (.inr (.inr (.inr (fun _ => none)))))), (r1, .inr (9, [.int 0, .int 0])), (r2, .inr (9, [.int 0, .int 0])), (r3, .inr (9, [.int 0, .int 0])), (r4, .inr (9, [.int 0, .int 0]))] sz)) (vx_X (fun (_ : Unit) => True) (fun E (_ : Unit) (_ : State) => (E = "java/lang/IllegalArgumentException" ∧ (¬ inR ii 1 240))) (va_A [(xo, .inr (11, [.ref xg, .int 0, .ref xp, .int 0, .ref xq, .int 0, .ref r1, .ref r2, .ref r3, .ref r4, .ref se, .int ts, .int hq, .int 40, .int 0, .int 0])), (xp, .inl (cp, 4, .inr (.inr (.inr (.inr (fun _ => none)))))), (xq, .inl (cq, 16, .inr (.inr (.inr (.inr (fun _ => none)))))), (r1, .inr (9, [.int 0, .int 0])), (r2, .inr (9, [.int 0, .int 0])), (r3, .inr (9, [.int 0, .int 0])), (r4, .inr (9, [.int 0, .int 0]))] sz)) 1 6 (va_A [(xo, .inr (11, [.ref xg, .int 0, .ref xp, .int 0, .ref xq, .int 0, .ref r1, .ref r2, .ref r3, .ref r4, .ref se, .int ts, .int hq, .int 40, .int 0, .int 0])), (xp, .inl (cp, 4, .inr (.inr (.inr (.inr (fun _ => none)))))), (xq, .inl (cq, 16, .inr (.inr (.inr (.inr (fun _ => none)))))), (r1, .inr (9, [.int 0, .int 0])), (r2, .inr (9, [.int 0, .int 0])), (r3, .inr (9, [.int 0, .int 0])), (r4, .inr (9, [.int 0, .int 0]))] sz) := by
  refine vx_ofW (cc := cX6_hours) (maxL := 4) (ret := (some .int)) (by decide) rfl ?_
  intro p e s m args below meth c s₁ B hml hxt hv
  obtain ⟨rfl, hsz, hP, hK, hD0, hT, hZ⟩ := hv
  have hx := B.exec
  have hb := B.bytes
  have hr := B.returns
  have hts := atoms_spec (ws := wzX6_hours) B.pre
  have hown : s.vm.findClass RX6 = some m.cls := findClass_of_methodNamed B.named
  have hlocks := B.notSynchronized
  subst hsz
  have hD := hD0.self (sz := s.heap.size)
  generalize hAe : va_A [(xo, .inr (11, [.ref xg, .int 0, .ref xp, .int 0, .ref xq, .int 0, .ref r1, .ref r2, .ref r3, .ref r4, .ref se, .int ts, .int hq, .int 40, .int 0, .int 0])), (xp, .inl (cp, 4, .inr (.inr (.inr (.inr (fun _ => none)))))), (xq, .inl (cq, 16, .inr (.inr (.inr (.inr (fun _ => none)))))), (r1, .inr (9, [.int 0, .int 0])), (r2, .inr (9, [.int 0, .int 0])), (r3, .inr (9, [.int 0, .int 0])), (r4, .inr (9, [.int 0, .int 0]))] s.heap.size = A at hD hZ ⊢
  have hA : ∀ q : Nat, s.heap.size ≤ q → A q := fun q h => by rw [← hAe]; exact Or.inr h
  have hS : va_S A s.heap s.heap [] := va_S.rf
  have hl := lv_entry ([.ref xo, .int ii]) (n := 4) (Nat.le_of_ble_eq_true rfl)
  rw [lg_entry_eq]
  generalize (lg_sl ([.ref xo, .int ii]) ++ List.replicate (4 - (lg_sl ([.ref xo, .int ii])).length) Slot.unset).toArray = ls at hl ⊢
  have hl : lv_has ls 4 [(0, .ref xo), (1, .int ii)] := hl
  refine lv_iload_n hx hb dX6_hours_0 rfl (lv_at hl 1 rfl) ?_
  refine lv_iconst (v := 1) hx hb dX6_hours_1 (by decide) ?_
  refine lv_sipush (v := 240) hx hb dX6_hours_2 (by decide) ?_
  have hFc := va_free (wc := []) hD hS hA [] rfl
  refine vx_callv (vx_runS (As := [.int ii, .int 1, .int 240]) (rest := []) ⟨hx, hb, hml, hown, hts⟩ (zc_X6_checkRange l hnt D G ii 1 240 s.heap.size) (cwS 3 hts gzX6_hours_X6_checkRange_75 rfl rfl rfl (by decide +kernel) ⟨(Nat.le_of_ble_eq_true rfl), (Nat.le_of_ble_eq_true rfl)⟩) ⟨p_RW_blind, (p_RW_at (tc := []) (wc := []) hP hK hD hS hA hT hZ [] [] rfl rfl (by decide) rfl [.int ii, .int 1, .int 240])⟩ rfl rfl hl.1 rfl (lv_room (Nat.le_of_ble_eq_true rfl)) dX6_hours_5 ⟨(Nat.le_of_ble_eq_true rfl), (Nat.le_of_ble_eq_true rfl)⟩) hS (fun q _ h => hFc q h) hFc (fun q _ h => hFc q h) (fun E ce q9 u t H locs ht hvm hpx hBX hz1 hk1 hS hce hcv hcl => ?_) (fun u t H locs ht hvm w_318 hB hz1 hk1 hS => ?_)
  · have hBX : (E = "java/lang/IllegalArgumentException" ∧ (¬ inR ii 1 240)) := hBX
    rcases hBX with ⟨rfl, c_319⟩
    exact vx_out (fun x h => (hxt x h).elim) hlocks hce hcv hcl (fun t ht _ => ⟨(), trivial, ⟨rfl, (by first | assumption | exact inR_1 (by assumption) (by assumption) | exact inR_2 (by assumption) (by assumption) | exact inR_3 (by assumption) | exact inR_4 (by assumption) | exact inR_5 (by assumption) | exact ⟨by assumption, by assumption, by assumption, by assumption⟩ | exact ⟨by assumption, by assumption, by assumption⟩ | exact (fun q => absurd q.1 (by assumption)) | exact (fun q => absurd q.2.1 (by assumption)) | exact (fun q => absurd q.2.2 (by assumption)) | exact (fun q => absurd q.2.2.1 (by assumption)) | exact (fun q => absurd q.2.2.2 (by assumption)) | exact isRole_no (by assumption) (by assumption) (by assumption) (by assumption) | exact isRole_nb (by assumption) (by assumption) (by assumption) (by assumption) | exact isRole_out (by assumption) | exact enc_use (by assumption) (by assumption) (by assumption) | exact enc_103 (by assumption) | exact enc_103 (Eq.symm (by assumption)) | exact enc_115 (Eq.symm (by assumption)) | exact enc_102 (Eq.symm (by assumption)) | exact enc_98 (Eq.symm (by assumption)) | exact isRole_nc (by assumption) (by assumption) (by assumption) (by assumption) | exact enc_115 (by assumption) | exact enc_102 (by assumption) | exact enc_98 (by assumption) | exact Or.inr (by assumption) | rfl | exact Or.inl (by assumption) | exact Or.inr (Or.inl (by assumption)) | exact Or.inr (Or.inr (Or.inl (by assumption))) | exact Or.inr (Or.inr (Or.inr (by assumption))) | decide)⟩, hS.F ht⟩) hS.2.2 (Nat.le_of_ble_eq_true rfl) (Nat.le_of_ble_eq_true rfl)
  · obtain ⟨hP, hD, hK⟩ := q_join (D := D) (wc := []) (wr := [(xo, .inr (11, [.ref xg, .int 0, .ref xp, .int 0, .ref xq, .int 0, .ref r1, .ref r2, .ref r3, .ref r4, .ref se, .int ts, .int hq, .int 40, .int 0, .int 0])), (xp, .inl (cp, 4, .inr (.inr (.inr (.inr (fun _ => none)))))), (xq, .inl (cq, 16, .inr (.inr (.inr (.inr (fun _ => none)))))), (r1, .inr (9, [.int 0, .int 0])), (r2, .inr (9, [.int 0, .int 0])), (r3, .inr (9, [.int 0, .int 0])), (r4, .inr (9, [.int 0, .int 0]))]) (w1 := []) (tyr := [(cp, .object "Gatherhouse$Pot"), (cq, .object "Gatherhouse$Piece")]) (ty1 := []) hP hD hK [] [0, 1, 2, 3, 4, 5, 6] [0, 1] rfl rfl (by decide) (by decide) rfl hFc hk1 ht hvm (q_none hK hvm)
    have hP : va_P D vwCl [(xo, .inr (11, [.ref xg, .int 0, .ref xp, .int 0, .ref xq, .int 0, .ref r1, .ref r2, .ref r3, .ref r4, .ref se, .int ts, .int hq, .int 40, .int 0, .int 0])), (xp, .inl (cp, 4, .inr (.inr (.inr (.inr (fun _ => none)))))), (xq, .inl (cq, 16, .inr (.inr (.inr (.inr (fun _ => none)))))), (r1, .inr (9, [.int 0, .int 0])), (r2, .inr (9, [.int 0, .int 0])), (r3, .inr (9, [.int 0, .int 0])), (r4, .inr (9, [.int 0, .int 0]))] H := hP
    have hD : va_D A [(xo, .inr (11, [.ref xg, .int 0, .ref xp, .int 0, .ref xq, .int 0, .ref r1, .ref r2, .ref r3, .ref r4, .ref se, .int ts, .int hq, .int 40, .int 0, .int 0])), (xp, .inl (cp, 4, .inr (.inr (.inr (.inr (fun _ => none)))))), (xq, .inl (cq, 16, .inr (.inr (.inr (.inr (fun _ => none)))))), (r1, .inr (9, [.int 0, .int 0])), (r2, .inr (9, [.int 0, .int 0])), (r3, .inr (9, [.int 0, .int 0])), (r4, .inr (9, [.int 0, .int 0]))] := hD
    have hK : va_K D vwCl [(cp, .object "Gatherhouse$Pot"), (cq, .object "Gatherhouse$Piece")] s := hK
    refine W.widen (k := 1) (n := 6) (Nat.le_of_ble_eq_true rfl) (Nat.le_of_ble_eq_true rfl) ?_
    have c_320 := w_318
    refine lv_aload_n hx hb dX6_hours_8 rfl (lv_at hl 0 rfl) ?_
    refine va_csv (va_runV (As := []) (rest := []) ⟨hx, hb, hml, hown, hts⟩ (zc_X6_checkTeamRests l D G xo xg xp xq r1 r2 r3 r4 se ts hq cq) (cwV 0 hts gzX6_hours_X6_checkTeamRests_123 rfl rfl rfl (by decide +kernel) ⟨(Nat.le_of_ble_eq_true rfl), (Nat.le_of_ble_eq_true rfl)⟩) ⟨p_RO_blind, va_recv hK hP (ci := 11) (q0 := 0) rfl rfl, (p_RO_at (tc := [(cq, .object "Gatherhouse$Piece")]) (wc := [(xo, .inr (11, [.ref xg, .int 0, .ref xp, .int 0, .ref xq, .int 0, .ref r1, .ref r2, .ref r3, .ref r4, .ref se, .int ts, .int hq, .int 40, .int 0, .int 0])), (xq, .inl (cq, 16, .inr (.inr (.inr (.inr (fun _ => none)))))), (r1, .inr (9, [.int 0, .int 0])), (r2, .inr (9, [.int 0, .int 0])), (r3, .inr (9, [.int 0, .int 0])), (r4, .inr (9, [.int 0, .int 0]))]) hP hK hT [0, 2, 3, 4, 5, 6] [1] rfl rfl [.ref xo])⟩ rfl rfl hl.1 rfl (lv_room (Nat.le_of_ble_eq_true rfl)) dX6_hours_9 ⟨(Nat.le_of_ble_eq_true rfl), (Nat.le_of_ble_eq_true rfl)⟩).run (fun w_322 => ?_)
    refine lv_iconst (v := 0) hx hb dX6_hours_12 (by decide) ?_
    refine lv_istore_n (lv' := [(2, .int 0), (0, .ref xo), (1, .int ii)]) hx hb dX6_hours_13 rfl hl (by decide) rfl (fun ls hl => ?_)
    obtain ⟨n, hn, rfl⟩ := inR_n (h := 240) (by decide) c_320
    refine lv_iconst (v := 0) hx hb dX6_hours_14 (by decide) ?_
    refine lv_istore_n (lv' := [(3, .int 0), (2, .int 0), (0, .ref xo), (1, .int (nI n))]) hx hb dX6_hours_15 rfl hl (by decide) rfl (fun ls hl => ?_)
    refine z_loop (fun (k : Nat) (hv : Int32) (H : Heap) (locs : List Loc) (ls : Array Slot) => va_P D vwCl [(xo, .inr (11, [.ref xg, .int 0, .ref xp, .int 0, .ref xq, .int 0, .ref r1, .ref r2, .ref r3, .ref r4, .ref se, .int ts, .int hv, .int 40, .int 0, .int 0])), (xp, .inl (cp, 4, .inr (.inr (.inr (.inr (fun _ => none)))))), (xq, .inl (cq, 16, .inr (.inr (.inr (.inr (fun _ => none)))))), (r1, .inr (9, [.int 0, .int 0])), (r2, .inr (9, [.int 0, .int 0])), (r3, .inr (9, [.int 0, .int 0])), (r4, .inr (9, [.int 0, .int 0]))] H ∧ va_D A [(xo, .inr (11, [.ref xg, .int 0, .ref xp, .int 0, .ref xq, .int 0, .ref r1, .ref r2, .ref r3, .ref r4, .ref se, .int ts, .int hv, .int 40, .int 0, .int 0])), (xp, .inl (cp, 4, .inr (.inr (.inr (.inr (fun _ => none)))))), (xq, .inl (cq, 16, .inr (.inr (.inr (.inr (fun _ => none)))))), (r1, .inr (9, [.int 0, .int 0])), (r2, .inr (9, [.int 0, .int 0])), (r3, .inr (9, [.int 0, .int 0])), (r4, .inr (9, [.int 0, .int 0]))] ∧ va_S A s.heap H locs ∧ lv_has ls 4 [(3, .int (nI k)), (2, .int 0), (0, .ref xo), (1, .int (nI n))]) (fun (k : Nat) (H : Heap) (locs : List Loc) (ls : Array Slot) => W p l e _ s m _ below meth c H locs (1) (6) _ (F0 m 16 ls [])) (n) ?_ ?_ (n) 0 (by omega) hq H _ ls ⟨hP, hD, hS, hl⟩
    · intro k hk ih hv H locs ls hp
      obtain ⟨hP, hD, hS, hl⟩ := hp
      refine lv_iload_n hx hb dX6_hours_16 rfl (lv_at hl 0 rfl) ?_
      refine lv_iload_n hx hb dX6_hours_17 rfl (lv_at hl 3 rfl) ?_
      refine lv_icmp_ge (tgt := 34) hx hb dX6_hours_18 (by decide) (fun cc => absurd cc (nI_ge hk (by omega))) (fun _ => ?_)
      refine lv_iload_n hx hb dX6_hours_21 rfl (lv_at hl 1 rfl) ?_
      refine lv_aload_n hx hb dX6_hours_22 rfl (lv_at hl 2 rfl) ?_
      have hFc := va_free (wc := [(xo, .inr (11, [.ref xg, .int 0, .ref xp, .int 0, .ref xq, .int 0, .ref r1, .ref r2, .ref r3, .ref r4, .ref se, .int ts, .int hv, .int 40, .int 0, .int 0])), (xp, .inl (cp, 4, .inr (.inr (.inr (.inr (fun _ => none)))))), (xq, .inl (cq, 16, .inr (.inr (.inr (.inr (fun _ => none))))))]) hD hS hA [0, 1, 2] rfl
      refine va_calli (va_runV (As := []) (rest := [.int 0]) ⟨hx, hb, hml, hown, hts⟩ (zc_X6_passHour l D G xo xg xp xq r1 r2 r3 r4 se ts hv cp cq H.size) (cwV 0 hts gzX6_hours_X6_passHour_126 rfl rfl rfl (by decide +kernel) ⟨(Nat.le_of_ble_eq_true rfl), (Nat.le_of_ble_eq_true rfl)⟩) ⟨p_RW_blind, va_recv hK hP (ci := 11) (q0 := 0) rfl rfl, (p_RW_at (tc := [(cp, .object "Gatherhouse$Pot"), (cq, .object "Gatherhouse$Piece")]) (wc := [(xo, .inr (11, [.ref xg, .int 0, .ref xp, .int 0, .ref xq, .int 0, .ref r1, .ref r2, .ref r3, .ref r4, .ref se, .int ts, .int hv, .int 40, .int 0, .int 0])), (xp, .inl (cp, 4, .inr (.inr (.inr (.inr (fun _ => none)))))), (xq, .inl (cq, 16, .inr (.inr (.inr (.inr (fun _ => none))))))]) hP hK hD hS hA hT hZ [0, 1, 2] [0, 1] rfl rfl (by decide) rfl [.ref xo])⟩ rfl rfl hl.1 rfl (lv_room (Nat.le_of_ble_eq_true rfl)) dX6_hours_23 ⟨(Nat.le_of_ble_eq_true rfl), (Nat.le_of_ble_eq_true rfl)⟩) hS (fun q _ h => hFc q h) hFc (fun r_323 u t H locs ht hvm w_324 hB hz1 hk1 hS => ?_)
      obtain ⟨hP, hD, hK⟩ := q_join (D := D) (wc := [(xo, .inr (11, [.ref xg, .int 0, .ref xp, .int 0, .ref xq, .int 0, .ref r1, .ref r2, .ref r3, .ref r4, .ref se, .int ts, .int hv, .int 40, .int 0, .int 0])), (xp, .inl (cp, 4, .inr (.inr (.inr (.inr (fun _ => none)))))), (xq, .inl (cq, 16, .inr (.inr (.inr (.inr (fun _ => none))))))]) (wr := [(r1, .inr (9, [.int 0, .int 0])), (r2, .inr (9, [.int 0, .int 0])), (r3, .inr (9, [.int 0, .int 0])), (r4, .inr (9, [.int 0, .int 0]))]) (w1 := [(xo, .inr (11, [.ref xg, .int 0, .ref xp, .int 0, .ref xq, .int 0, .ref r1, .ref r2, .ref r3, .ref r4, .ref se, .int ts, .int (hv + 1), .int 40, .int 0, .int 0])), (xp, .inl (cp, 4, .inr (.inr (.inr (.inr (fun _ => none)))))), (xq, .inl (cq, 16, .inr (.inr (.inr (.inr (fun _ => none))))))]) (tyr := []) (ty1 := [(cp, .object "Gatherhouse$Pot"), (cq, .object "Gatherhouse$Piece")]) hP hD hK [0, 1, 2] [3, 4, 5, 6] [] rfl rfl (by decide) (by decide) rfl hFc hk1 ht hvm hB
      have hP : va_P D vwCl [(r1, .inr (9, [.int 0, .int 0])), (r2, .inr (9, [.int 0, .int 0])), (r3, .inr (9, [.int 0, .int 0])), (r4, .inr (9, [.int 0, .int 0])), (xo, .inr (11, [.ref xg, .int 0, .ref xp, .int 0, .ref xq, .int 0, .ref r1, .ref r2, .ref r3, .ref r4, .ref se, .int ts, .int (hv + 1), .int 40, .int 0, .int 0])), (xp, .inl (cp, 4, .inr (.inr (.inr (.inr (fun _ => none)))))), (xq, .inl (cq, 16, .inr (.inr (.inr (.inr (fun _ => none))))))] H := hP
      have hD : va_D A [(r1, .inr (9, [.int 0, .int 0])), (r2, .inr (9, [.int 0, .int 0])), (r3, .inr (9, [.int 0, .int 0])), (r4, .inr (9, [.int 0, .int 0])), (xo, .inr (11, [.ref xg, .int 0, .ref xp, .int 0, .ref xq, .int 0, .ref r1, .ref r2, .ref r3, .ref r4, .ref se, .int ts, .int (hv + 1), .int 40, .int 0, .int 0])), (xp, .inl (cp, 4, .inr (.inr (.inr (.inr (fun _ => none)))))), (xq, .inl (cq, 16, .inr (.inr (.inr (.inr (fun _ => none))))))] := hD
      have hK : va_K D vwCl [(cp, .object "Gatherhouse$Pot"), (cq, .object "Gatherhouse$Piece")] s := hK
      obtain rfl := w_324
      refine lv_iadd hx hb dX6_hours_26 ?_
      refine lv_topi (fun y_325 ey_325 => ?_)
      have ey_325 : y_325 = 0 := ey_325.trans (by decide +kernel)
      subst ey_325
      refine lv_istore_n (lv' := [(2, .int 0), (3, .int (nI k)), (0, .ref xo), (1, .int (nI n))]) hx hb dX6_hours_27 rfl hl (by decide) rfl (fun ls hl => ?_)
      refine lv_iinc (v := nI (k + 1)) (lv' := [(3, .int (nI (k + 1))), (2, .int 0), (0, .ref xo), (1, .int (nI n))]) hx hb dX6_hours_28 hl (k := 1) rfl (show nI k + Int32.ofInt 1 = nI (k + 1) from nI_1 k) (by decide) rfl (fun ls hl => ?_)
      refine lv_goto (tgt := 16) hx hb dX6_hours_31 (by decide) ?_
      have hP := hP.sub (ws' := [(xo, .inr (11, [.ref xg, .int 0, .ref xp, .int 0, .ref xq, .int 0, .ref r1, .ref r2, .ref r3, .ref r4, .ref se, .int ts, .int (hv + 1), .int 40, .int 0, .int 0])), (xp, .inl (cp, 4, .inr (.inr (.inr (.inr (fun _ => none)))))), (xq, .inl (cq, 16, .inr (.inr (.inr (.inr (fun _ => none)))))), (r1, .inr (9, [.int 0, .int 0])), (r2, .inr (9, [.int 0, .int 0])), (r3, .inr (9, [.int 0, .int 0])), (r4, .inr (9, [.int 0, .int 0]))]) [4, 5, 6, 0, 1, 2, 3] rfl
      have hD := hD.sub (ws' := [(xo, .inr (11, [.ref xg, .int 0, .ref xp, .int 0, .ref xq, .int 0, .ref r1, .ref r2, .ref r3, .ref r4, .ref se, .int ts, .int (hv + 1), .int 40, .int 0, .int 0])), (xp, .inl (cp, 4, .inr (.inr (.inr (.inr (fun _ => none)))))), (xq, .inl (cq, 16, .inr (.inr (.inr (.inr (fun _ => none)))))), (r1, .inr (9, [.int 0, .int 0])), (r2, .inr (9, [.int 0, .int 0])), (r3, .inr (9, [.int 0, .int 0])), (r4, .inr (9, [.int 0, .int 0]))]) [4, 5, 6, 0, 1, 2, 3] (by decide) rfl
      exact ih (hv + 1) _ _ _ ⟨hP, hD, hS, lv_sub hl [0, 1, 2, 3] rfl⟩
    · intro hv H locs ls hp
      obtain ⟨hP, hD, hS, hl⟩ := hp
      refine lv_iload_n hx hb dX6_hours_16 rfl (lv_at hl 0 rfl) ?_
      refine lv_iload_n hx hb dX6_hours_17 rfl (lv_at hl 3 rfl) ?_
      refine lv_icmp_ge (tgt := 34) hx hb dX6_hours_18 (by decide) (fun _ => ?_) (fun cc => absurd (nI_le (Nat.le_refl _) (by omega)) cc)
      refine lv_iload_n hx hb dX6_hours_34 rfl (lv_at hl 1 rfl) ?_
      refine vx_ret ?_
      exact W.iret (v := 0) hx hb hr (fun t ht hW => ⟨⟨0, (), rfl, ⟨(by first | assumption | exact inR_1 (by assumption) (by assumption) | exact inR_2 (by assumption) (by assumption) | exact inR_3 (by assumption) | exact inR_4 (by assumption) | exact inR_5 (by assumption) | exact ⟨by assumption, by assumption, by assumption, by assumption⟩ | exact ⟨by assumption, by assumption, by assumption⟩ | exact (fun q => absurd q.1 (by assumption)) | exact (fun q => absurd q.2.1 (by assumption)) | exact (fun q => absurd q.2.2 (by assumption)) | exact (fun q => absurd q.2.2.1 (by assumption)) | exact (fun q => absurd q.2.2.2 (by assumption)) | exact isRole_no (by assumption) (by assumption) (by assumption) (by assumption) | exact isRole_nb (by assumption) (by assumption) (by assumption) (by assumption) | exact isRole_out (by assumption) | exact enc_use (by assumption) (by assumption) (by assumption) | exact enc_103 (by assumption) | exact enc_103 (Eq.symm (by assumption)) | exact enc_115 (Eq.symm (by assumption)) | exact enc_102 (Eq.symm (by assumption)) | exact enc_98 (Eq.symm (by assumption)) | exact isRole_nc (by assumption) (by assumption) (by assumption) (by assumption) | exact enc_115 (by assumption) | exact enc_102 (by assumption) | exact enc_98 (by assumption) | exact Or.inr (by assumption) | rfl | exact Or.inl (by assumption) | exact Or.inr (Or.inl (by assumption)) | exact Or.inr (Or.inr (Or.inl (by assumption))) | exact Or.inr (Or.inr (Or.inr (by assumption))) | decide), rfl⟩, trivial⟩, hS.F ht⟩) hS.2.2 dX6_hours_35
theorem dX6_days_0 : decode cX6_days 0 = .ok (.iload_n 1, 1) := by decide +kernel
theorem dX6_days_1 : decode cX6_days 1 = .ok (.iconst 1, 1) := by decide +kernel
theorem dX6_days_2 : decode cX6_days 2 = .ok (.bipush 60, 2) := by decide +kernel
theorem dX6_days_4 : decode cX6_days 4 = .ok (.invokestatic 75, 3) := by decide +kernel
theorem dX6_days_7 : decode cX6_days 7 = .ok (.aload_n 0, 1) := by decide +kernel
theorem dX6_days_8 : decode cX6_days 8 = .ok (.invokevirtual 123, 3) := by decide +kernel
theorem dX6_days_11 : decode cX6_days 11 = .ok (.aload_n 0, 1) := by decide +kernel
theorem dX6_days_12 : decode cX6_days 12 = .ok (.getfield 72, 3) := by decide +kernel
theorem dX6_days_15 : decode cX6_days 15 = .ok (.istore_n 2, 1) := by decide +kernel
theorem dX6_days_16 : decode cX6_days 16 = .ok (.iconst 0, 1) := by decide +kernel
theorem dX6_days_17 : decode cX6_days 17 = .ok (.istore_n 3, 1) := by decide +kernel
theorem dX6_days_18 : decode cX6_days 18 = .ok (.iload_n 3, 1) := by decide +kernel
theorem dX6_days_19 : decode cX6_days 19 = .ok (.iload_n 1, 1) := by decide +kernel
theorem dX6_days_20 : decode cX6_days 20 = .ok (.bipush 24, 2) := by decide +kernel
theorem dX6_days_22 : decode cX6_days 22 = .ok (.imul, 1) := by decide +kernel
theorem dX6_days_23 : decode cX6_days 23 = .ok (.if_icmp .ge 14, 3) := by decide +kernel
theorem dX6_days_26 : decode cX6_days 26 = .ok (.aload_n 0, 1) := by decide +kernel
theorem dX6_days_27 : decode cX6_days 27 = .ok (.invokevirtual 126, 3) := by decide +kernel
theorem dX6_days_30 : decode cX6_days 30 = .ok (.pop, 1) := by decide +kernel
theorem dX6_days_31 : decode cX6_days 31 = .ok (.iinc 3 1, 3) := by decide +kernel
theorem dX6_days_34 : decode cX6_days 34 = .ok (.goto (-16), 3) := by decide +kernel
theorem dX6_days_37 : decode cX6_days 37 = .ok (.aload_n 0, 1) := by decide +kernel
theorem dX6_days_38 : decode cX6_days 38 = .ok (.getfield 72, 3) := by decide +kernel
theorem dX6_days_41 : decode cX6_days 41 = .ok (.iload_n 2, 1) := by decide +kernel
theorem dX6_days_42 : decode cX6_days 42 = .ok (.isub, 1) := by decide +kernel
theorem dX6_days_43 : decode cX6_days 43 = .ok (.ireturn, 1) := by decide +kernel
def wzEX6_days : List Cond := [.code yX6_days cX6_days 4 (some .int), .methodLink RX6 75 yX6_checkRange, .static yX6_checkRange, .initialized RX6, .code yX6_checkRange cX6_checkRange 3 none, .classLink RX6 118 "java/lang/IllegalArgumentException", .initialized "java/lang/IllegalArgumentException", .methodLink RX6 123 yX6_checkTeamRests, .instanceMethod yX6_checkTeamRests, .selects RX6 yX6_checkTeamRests yX6_checkTeamRests, .code yX6_checkTeamRests cX6_checkTeamRests 1 none, .methodLink RX6 274 yX6_countOf, .instanceMethod yX6_countOf, .selects RX6 yX6_countOf yX6_countOf, .code yX6_countOf cX6_countOf 7 (some .int), .fieldLink RX6 30 "Gatherhouse" "pieces" "[LGatherhouse$Piece;", .fieldLink RX6 40 "Gatherhouse" "gatherer" "LGatherhouse$Role;", .code yX4_isBusy cX4_isBusy 1 (some .boolean), .fieldLink RX4 7 "Gatherhouse$Role" "busy" "I", .initialized RX4, .instanceMethod yX4_isBusy, .selects RX4 yX4_isBusy yX4_isBusy, .fieldLink RX6 44 "Gatherhouse" "servitor" "LGatherhouse$Role;", .fieldLink RX6 47 "Gatherhouse" "gaffer" "LGatherhouse$Role;", .fieldLink RX6 50 "Gatherhouse" "boy" "LGatherhouse$Role;", .fieldLink RX6 72 "Gatherhouse" "brokenLater" "I", .methodLink RX6 126 yX6_passHour, .instanceMethod yX6_passHour, .selects RX6 yX6_passHour yX6_passHour, .code yX6_passHour cX6_passHour 7 (some .int), .fieldLink RX6 63 "Gatherhouse" "hoursGone" "I", .fieldLink RX6 21 "Gatherhouse" "pots" "[LGatherhouse$Pot;", .methodLink RX6 405 yX6_endDay, .instanceMethod yX6_endDay, .selects RX6 yX6_endDay yX6_endDay, .code yX6_endDay cX6_endDay 6 none]
def wzX6_days : List Cond := wzEX6_days ++ (u_ws RX6 TX6 16 ++ (u_ws RX4 TX4 2 ++ ((vx_atS RX6 122 "java/lang/IllegalArgumentException" ["java/lang/RuntimeException", "java/lang/Exception"]).filter goodWord)))
theorem zgEX6_days : wzEX6_days.all goodWord = true := by decide +kernel
theorem zuX6_days_X6 : ∀ w ∈ u_ws RX6 TX6 16, w ∈ wzX6_days := (fun _ h => (List.mem_append_right _ (List.mem_append_left _ h)))
theorem zuX6_days_X4 : ∀ w ∈ u_ws RX4 TX4 2, w ∈ wzX6_days := (fun _ h => (List.mem_append_right _ (List.mem_append_right _ (List.mem_append_left _ h))))
theorem ztX6_days_X6_122 : ∀ w ∈ (vx_atS RX6 122 "java/lang/IllegalArgumentException" ["java/lang/RuntimeException", "java/lang/Exception"]).filter goodWord, w ∈ wzX6_days := (fun _ h => (List.mem_append_right _ (List.mem_append_right _ (List.mem_append_right _ h))))
theorem gzX6_days_X6_checkRange_75 : GoodIn wzX6_days (va_wsS RX6 75 yX6_checkRange wzX6_checkRange) := (goodIn_app (z_lift (goodIn_r _ [1, 2, 3] rfl (by decide +kernel))) (goodIn_app (z_lift (goodIn_r wzEX6_checkRange [4, 5, 6] rfl zgEX6_checkRange)) (goodIn_sub (fun _ h => (List.mem_append_right _ (List.mem_append_right _ (List.mem_append_right _ h)))) zgV_X6_122)))
theorem gzX6_days_X6_checkTeamRests_123 : GoodIn wzX6_days (wsV RX6 123 RX6 yX6_checkTeamRests wzX6_checkTeamRests) := (goodIn_app (z_lift (goodIn_r _ [7, 8, 9, 3] rfl (by decide +kernel))) (goodIn_app (z_lift (goodIn_r wzEX6_checkTeamRests [10, 11, 12, 13, 3, 14, 15, 16, 17, 18, 19, 20, 21, 22, 23, 24] rfl zgEX6_checkTeamRests)) (goodIn_app (goodIn_sub (fun _ h => (List.mem_append_right _ (List.mem_append_left _ h))) zgU_X6) (goodIn_sub (fun _ h => (List.mem_append_right _ (List.mem_append_right _ (List.mem_append_left _ h)))) zgU_X4))))
theorem gzX6_days_X6_passHour_126 : GoodIn wzX6_days (wsV RX6 126 RX6 yX6_passHour wzX6_passHour) := (goodIn_app (z_lift (goodIn_r _ [26, 27, 28, 3] rfl (by decide +kernel))) (goodIn_app (z_lift (goodIn_r wzEX6_passHour [29, 30, 31, 15, 32, 33, 34, 3, 35] rfl zgEX6_passHour)) (goodIn_sub (fun _ h => (List.mem_append_right _ (List.mem_append_left _ h))) zgU_X6)))
set_option maxHeartbeats 4000000 in
set_option maxRecDepth 100000 in
theorem zc_X6_days (l : Launch) (hnt : l.stackTraces = false) (D : va_G) (G : Nat × Nat × Nat) (xo : Nat) (xg : Nat) (xp : Nat) (xq : Nat) (r1 : Nat) (r2 : Nat) (r3 : Nat) (r4 : Nat) (se : Nat) (ts : Int32) (hq : Int32) (cp : ClassId) (cq : ClassId) (ii : Int32) (sz : Nat) : vx_Met l yX6_days wzX6_days ({ frames := 7, cells := 1, slots := 6, locals := 104 }) (va_Pc [.ref xo, .int ii] (p_RW D G [(cp, .object "Gatherhouse$Pot"), (cq, .object "Gatherhouse$Piece")] [(xo, .inr (11, [.ref xg, .int 0, .ref xp, .int 0, .ref xq, .int 0, .ref r1, .ref r2, .ref r3, .ref r4, .ref se, .int ts, .int hq, .int 40, .int 0, .int 0])), (xp, .inl (cp, 4, .inr (.inr (.inr (.inr (fun _ => none)))))), (xq, .inl (cq, 16, .inr (.inr (.inr (.inr (fun _ => none)))))), (r1, .inr (9, [.int 0, .int 0])), (r2, .inr (9, [.int 0, .int 0])), (r3, .inr (9, [.int 0, .int 0])), (r4, .inr (9, [.int 0, .int 0]))] sz)) (va_Qi (fun (r : Int32) (u : Unit) => inR ii 1 60 ∧ r = 0) (fun (u : Unit) (t : State) => True) (va_A [(xo, .inr (11, [.ref xg, .int 0, .ref xp, .int 0, .ref xq, .int 0, .ref r1, .ref r2, .ref r3, .ref r4, .ref se, .int ts, .int hq, .int 40, .int 0, .int 0])), (xp, .inl (cp, 4, .inr (.inr (.inr (.inr (fun _ => none)))))), (xq, .inl (cq, 16, .inr (.inr (.inr (.inr (fun _ => none)))))), (r1, .inr (9, [.int 0, .int 0])), (r2, .inr (9, [.int 0, .int 0])), (r3, .inr (9, [.int 0, .int 0])), (r4, .inr (9, [.int 0, .int 0]))] sz)) (vx_X (fun (_ : Unit) => True) (fun E (_ : Unit) (_ : State) => (E = "java/lang/IllegalArgumentException" ∧ (¬ inR ii 1 60))) (va_A [(xo, .inr (11, [.ref xg, .int 0, .ref xp, .int 0, .ref xq, .int 0, .ref r1, .ref r2, .ref r3, .ref r4, .ref se, .int ts, .int hq, .int 40, .int 0, .int 0])), (xp, .inl (cp, 4, .inr (.inr (.inr (.inr (fun _ => none)))))), (xq, .inl (cq, 16, .inr (.inr (.inr (.inr (fun _ => none)))))), (r1, .inr (9, [.int 0, .int 0])), (r2, .inr (9, [.int 0, .int 0])), (r3, .inr (9, [.int 0, .int 0])), (r4, .inr (9, [.int 0, .int 0]))] sz)) 1 6 (va_A [(xo, .inr (11, [.ref xg, .int 0, .ref xp, .int 0, .ref xq, .int 0, .ref r1, .ref r2, .ref r3, .ref r4, .ref se, .int ts, .int hq, .int 40, .int 0, .int 0])), (xp, .inl (cp, 4, .inr (.inr (.inr (.inr (fun _ => none)))))), (xq, .inl (cq, 16, .inr (.inr (.inr (.inr (fun _ => none)))))), (r1, .inr (9, [.int 0, .int 0])), (r2, .inr (9, [.int 0, .int 0])), (r3, .inr (9, [.int 0, .int 0])), (r4, .inr (9, [.int 0, .int 0]))] sz) := by
  refine vx_ofW (cc := cX6_days) (maxL := 4) (ret := (some .int)) (by decide) rfl ?_
  intro p e s m args below meth c s₁ B hml hxt hv
  obtain ⟨rfl, hsz, hP, hK, hD0, hT, hZ⟩ := hv
  have hx := B.exec
  have hb := B.bytes
  have hr := B.returns
  have hts := atoms_spec (ws := wzX6_days) B.pre
  have hown : s.vm.findClass RX6 = some m.cls := findClass_of_methodNamed B.named
  have hlocks := B.notSynchronized
  subst hsz
  have hD := hD0.self (sz := s.heap.size)
  generalize hAe : va_A [(xo, .inr (11, [.ref xg, .int 0, .ref xp, .int 0, .ref xq, .int 0, .ref r1, .ref r2, .ref r3, .ref r4, .ref se, .int ts, .int hq, .int 40, .int 0, .int 0])), (xp, .inl (cp, 4, .inr (.inr (.inr (.inr (fun _ => none)))))), (xq, .inl (cq, 16, .inr (.inr (.inr (.inr (fun _ => none)))))), (r1, .inr (9, [.int 0, .int 0])), (r2, .inr (9, [.int 0, .int 0])), (r3, .inr (9, [.int 0, .int 0])), (r4, .inr (9, [.int 0, .int 0]))] s.heap.size = A at hD hZ ⊢
  have hA : ∀ q : Nat, s.heap.size ≤ q → A q := fun q h => by rw [← hAe]; exact Or.inr h
  have hS : va_S A s.heap s.heap [] := va_S.rf
  have hl := lv_entry ([.ref xo, .int ii]) (n := 4) (Nat.le_of_ble_eq_true rfl)
  rw [lg_entry_eq]
  generalize (lg_sl ([.ref xo, .int ii]) ++ List.replicate (4 - (lg_sl ([.ref xo, .int ii])).length) Slot.unset).toArray = ls at hl ⊢
  have hl : lv_has ls 4 [(0, .ref xo), (1, .int ii)] := hl
  refine lv_iload_n hx hb dX6_days_0 rfl (lv_at hl 1 rfl) ?_
  refine lv_iconst (v := 1) hx hb dX6_days_1 (by decide) ?_
  refine lv_bipush (v := 60) hx hb dX6_days_2 (by decide) ?_
  have hFc := va_free (wc := []) hD hS hA [] rfl
  refine vx_callv (vx_runS (As := [.int ii, .int 1, .int 60]) (rest := []) ⟨hx, hb, hml, hown, hts⟩ (zc_X6_checkRange l hnt D G ii 1 60 s.heap.size) (cwS 3 hts gzX6_days_X6_checkRange_75 rfl rfl rfl (by decide +kernel) ⟨(Nat.le_of_ble_eq_true rfl), (Nat.le_of_ble_eq_true rfl)⟩) ⟨p_RW_blind, (p_RW_at (tc := []) (wc := []) hP hK hD hS hA hT hZ [] [] rfl rfl (by decide) rfl [.int ii, .int 1, .int 60])⟩ rfl rfl hl.1 rfl (lv_room (Nat.le_of_ble_eq_true rfl)) dX6_days_4 ⟨(Nat.le_of_ble_eq_true rfl), (Nat.le_of_ble_eq_true rfl)⟩) hS (fun q _ h => hFc q h) hFc (fun q _ h => hFc q h) (fun E ce q9 u t H locs ht hvm hpx hBX hz1 hk1 hS hce hcv hcl => ?_) (fun u t H locs ht hvm w_327 hB hz1 hk1 hS => ?_)
  · have hBX : (E = "java/lang/IllegalArgumentException" ∧ (¬ inR ii 1 60)) := hBX
    rcases hBX with ⟨rfl, c_328⟩
    exact vx_out (fun x h => (hxt x h).elim) hlocks hce hcv hcl (fun t ht _ => ⟨(), trivial, ⟨rfl, (by first | assumption | exact inR_1 (by assumption) (by assumption) | exact inR_2 (by assumption) (by assumption) | exact inR_3 (by assumption) | exact inR_4 (by assumption) | exact inR_5 (by assumption) | exact ⟨by assumption, by assumption, by assumption, by assumption⟩ | exact ⟨by assumption, by assumption, by assumption⟩ | exact (fun q => absurd q.1 (by assumption)) | exact (fun q => absurd q.2.1 (by assumption)) | exact (fun q => absurd q.2.2 (by assumption)) | exact (fun q => absurd q.2.2.1 (by assumption)) | exact (fun q => absurd q.2.2.2 (by assumption)) | exact isRole_no (by assumption) (by assumption) (by assumption) (by assumption) | exact isRole_nb (by assumption) (by assumption) (by assumption) (by assumption) | exact isRole_out (by assumption) | exact enc_use (by assumption) (by assumption) (by assumption) | exact enc_103 (by assumption) | exact enc_103 (Eq.symm (by assumption)) | exact enc_115 (Eq.symm (by assumption)) | exact enc_102 (Eq.symm (by assumption)) | exact enc_98 (Eq.symm (by assumption)) | exact isRole_nc (by assumption) (by assumption) (by assumption) (by assumption) | exact enc_115 (by assumption) | exact enc_102 (by assumption) | exact enc_98 (by assumption) | exact Or.inr (by assumption) | rfl | exact Or.inl (by assumption) | exact Or.inr (Or.inl (by assumption)) | exact Or.inr (Or.inr (Or.inl (by assumption))) | exact Or.inr (Or.inr (Or.inr (by assumption))) | decide)⟩, hS.F ht⟩) hS.2.2 (Nat.le_of_ble_eq_true rfl) (Nat.le_of_ble_eq_true rfl)
  · obtain ⟨hP, hD, hK⟩ := q_join (D := D) (wc := []) (wr := [(xo, .inr (11, [.ref xg, .int 0, .ref xp, .int 0, .ref xq, .int 0, .ref r1, .ref r2, .ref r3, .ref r4, .ref se, .int ts, .int hq, .int 40, .int 0, .int 0])), (xp, .inl (cp, 4, .inr (.inr (.inr (.inr (fun _ => none)))))), (xq, .inl (cq, 16, .inr (.inr (.inr (.inr (fun _ => none)))))), (r1, .inr (9, [.int 0, .int 0])), (r2, .inr (9, [.int 0, .int 0])), (r3, .inr (9, [.int 0, .int 0])), (r4, .inr (9, [.int 0, .int 0]))]) (w1 := []) (tyr := [(cp, .object "Gatherhouse$Pot"), (cq, .object "Gatherhouse$Piece")]) (ty1 := []) hP hD hK [] [0, 1, 2, 3, 4, 5, 6] [0, 1] rfl rfl (by decide) (by decide) rfl hFc hk1 ht hvm (q_none hK hvm)
    have hP : va_P D vwCl [(xo, .inr (11, [.ref xg, .int 0, .ref xp, .int 0, .ref xq, .int 0, .ref r1, .ref r2, .ref r3, .ref r4, .ref se, .int ts, .int hq, .int 40, .int 0, .int 0])), (xp, .inl (cp, 4, .inr (.inr (.inr (.inr (fun _ => none)))))), (xq, .inl (cq, 16, .inr (.inr (.inr (.inr (fun _ => none)))))), (r1, .inr (9, [.int 0, .int 0])), (r2, .inr (9, [.int 0, .int 0])), (r3, .inr (9, [.int 0, .int 0])), (r4, .inr (9, [.int 0, .int 0]))] H := hP
    have hD : va_D A [(xo, .inr (11, [.ref xg, .int 0, .ref xp, .int 0, .ref xq, .int 0, .ref r1, .ref r2, .ref r3, .ref r4, .ref se, .int ts, .int hq, .int 40, .int 0, .int 0])), (xp, .inl (cp, 4, .inr (.inr (.inr (.inr (fun _ => none)))))), (xq, .inl (cq, 16, .inr (.inr (.inr (.inr (fun _ => none)))))), (r1, .inr (9, [.int 0, .int 0])), (r2, .inr (9, [.int 0, .int 0])), (r3, .inr (9, [.int 0, .int 0])), (r4, .inr (9, [.int 0, .int 0]))] := hD
    have hK : va_K D vwCl [(cp, .object "Gatherhouse$Pot"), (cq, .object "Gatherhouse$Piece")] s := hK
    refine W.widen (k := 1) (n := 6) (Nat.le_of_ble_eq_true rfl) (Nat.le_of_ble_eq_true rfl) ?_
    have c_329 := w_327
    refine lv_aload_n hx hb dX6_days_7 rfl (lv_at hl 0 rfl) ?_
    refine va_csv (va_runV (As := []) (rest := []) ⟨hx, hb, hml, hown, hts⟩ (zc_X6_checkTeamRests l D G xo xg xp xq r1 r2 r3 r4 se ts hq cq) (cwV 0 hts gzX6_days_X6_checkTeamRests_123 rfl rfl rfl (by decide +kernel) ⟨(Nat.le_of_ble_eq_true rfl), (Nat.le_of_ble_eq_true rfl)⟩) ⟨p_RO_blind, va_recv hK hP (ci := 11) (q0 := 0) rfl rfl, (p_RO_at (tc := [(cq, .object "Gatherhouse$Piece")]) (wc := [(xo, .inr (11, [.ref xg, .int 0, .ref xp, .int 0, .ref xq, .int 0, .ref r1, .ref r2, .ref r3, .ref r4, .ref se, .int ts, .int hq, .int 40, .int 0, .int 0])), (xq, .inl (cq, 16, .inr (.inr (.inr (.inr (fun _ => none)))))), (r1, .inr (9, [.int 0, .int 0])), (r2, .inr (9, [.int 0, .int 0])), (r3, .inr (9, [.int 0, .int 0])), (r4, .inr (9, [.int 0, .int 0]))]) hP hK hT [0, 2, 3, 4, 5, 6] [1] rfl rfl [.ref xo])⟩ rfl rfl hl.1 rfl (lv_room (Nat.le_of_ble_eq_true rfl)) dX6_days_8 ⟨(Nat.le_of_ble_eq_true rfl), (Nat.le_of_ble_eq_true rfl)⟩).run (fun w_331 => ?_)
    refine lv_aload_n hx hb dX6_days_11 rfl (lv_at hl 0 rfl) ?_
    refine va_get (D := D) (cl := vwCl) (ci := 11) (v := .int 0) (C := RX6) (T := TX6) (N := 16) hx hb hts zuX6_days_X6 hown hK hP 0 rfl rfl 15 (by decide) (hts (.fieldLink RX6 72 "Gatherhouse" "brokenLater" "I") (by decide +kernel)) (fun _ h9 => h9) rfl dX6_days_12 ?_
    refine lv_istore_n (lv' := [(2, .int 0), (0, .ref xo), (1, .int ii)]) hx hb dX6_days_15 rfl hl (by decide) rfl (fun ls hl => ?_)
    obtain ⟨n, hn, rfl⟩ := inR_n (h := 60) (by decide) c_329
    refine lv_iconst (v := 0) hx hb dX6_days_16 (by decide) ?_
    refine lv_istore_n (lv' := [(3, .int 0), (2, .int 0), (0, .ref xo), (1, .int (nI n))]) hx hb dX6_days_17 rfl hl (by decide) rfl (fun ls hl => ?_)
    refine z_loop (fun (k : Nat) (hv : Int32) (H : Heap) (locs : List Loc) (ls : Array Slot) => va_P D vwCl [(xo, .inr (11, [.ref xg, .int 0, .ref xp, .int 0, .ref xq, .int 0, .ref r1, .ref r2, .ref r3, .ref r4, .ref se, .int ts, .int hv, .int 40, .int 0, .int 0])), (xp, .inl (cp, 4, .inr (.inr (.inr (.inr (fun _ => none)))))), (xq, .inl (cq, 16, .inr (.inr (.inr (.inr (fun _ => none)))))), (r1, .inr (9, [.int 0, .int 0])), (r2, .inr (9, [.int 0, .int 0])), (r3, .inr (9, [.int 0, .int 0])), (r4, .inr (9, [.int 0, .int 0]))] H ∧ va_D A [(xo, .inr (11, [.ref xg, .int 0, .ref xp, .int 0, .ref xq, .int 0, .ref r1, .ref r2, .ref r3, .ref r4, .ref se, .int ts, .int hv, .int 40, .int 0, .int 0])), (xp, .inl (cp, 4, .inr (.inr (.inr (.inr (fun _ => none)))))), (xq, .inl (cq, 16, .inr (.inr (.inr (.inr (fun _ => none)))))), (r1, .inr (9, [.int 0, .int 0])), (r2, .inr (9, [.int 0, .int 0])), (r3, .inr (9, [.int 0, .int 0])), (r4, .inr (9, [.int 0, .int 0]))] ∧ va_S A s.heap H locs ∧ lv_has ls 4 [(3, .int (nI k)), (2, .int 0), (0, .ref xo), (1, .int (nI n))]) (fun (k : Nat) (H : Heap) (locs : List Loc) (ls : Array Slot) => W p l e _ s m _ below meth c H locs (1) (6) _ (F0 m 18 ls [])) (n * 24) ?_ ?_ (n * 24) 0 (by omega) hq H _ ls ⟨hP, hD, hS, hl⟩
    · intro k hk ih hv H locs ls hp
      obtain ⟨hP, hD, hS, hl⟩ := hp
      refine lv_iload_n hx hb dX6_days_18 rfl (lv_at hl 0 rfl) ?_
      refine lv_iload_n hx hb dX6_days_19 rfl (lv_at hl 3 rfl) ?_
      refine lv_bipush (v := 24) hx hb dX6_days_20 (by decide) ?_
      refine lv_imul hx hb dX6_days_22 ?_
      refine lv_topi (fun y_332 ey_332 => ?_)
      have ey_332 : y_332 = nI (n * 24) := ey_332.trans (pk_mul n 24)
      subst ey_332
      refine lv_icmp_ge (tgt := 37) hx hb dX6_days_23 (by decide) (fun cc => absurd cc (nI_ge hk (by omega))) (fun _ => ?_)
      refine lv_aload_n hx hb dX6_days_26 rfl (lv_at hl 2 rfl) ?_
      have hFc := va_free (wc := [(xo, .inr (11, [.ref xg, .int 0, .ref xp, .int 0, .ref xq, .int 0, .ref r1, .ref r2, .ref r3, .ref r4, .ref se, .int ts, .int hv, .int 40, .int 0, .int 0])), (xp, .inl (cp, 4, .inr (.inr (.inr (.inr (fun _ => none)))))), (xq, .inl (cq, 16, .inr (.inr (.inr (.inr (fun _ => none))))))]) hD hS hA [0, 1, 2] rfl
      refine va_calli (va_runV (As := []) (rest := []) ⟨hx, hb, hml, hown, hts⟩ (zc_X6_passHour l D G xo xg xp xq r1 r2 r3 r4 se ts hv cp cq H.size) (cwV 0 hts gzX6_days_X6_passHour_126 rfl rfl rfl (by decide +kernel) ⟨(Nat.le_of_ble_eq_true rfl), (Nat.le_of_ble_eq_true rfl)⟩) ⟨p_RW_blind, va_recv hK hP (ci := 11) (q0 := 0) rfl rfl, (p_RW_at (tc := [(cp, .object "Gatherhouse$Pot"), (cq, .object "Gatherhouse$Piece")]) (wc := [(xo, .inr (11, [.ref xg, .int 0, .ref xp, .int 0, .ref xq, .int 0, .ref r1, .ref r2, .ref r3, .ref r4, .ref se, .int ts, .int hv, .int 40, .int 0, .int 0])), (xp, .inl (cp, 4, .inr (.inr (.inr (.inr (fun _ => none)))))), (xq, .inl (cq, 16, .inr (.inr (.inr (.inr (fun _ => none))))))]) hP hK hD hS hA hT hZ [0, 1, 2] [0, 1] rfl rfl (by decide) rfl [.ref xo])⟩ rfl rfl hl.1 rfl (lv_room (Nat.le_of_ble_eq_true rfl)) dX6_days_27 ⟨(Nat.le_of_ble_eq_true rfl), (Nat.le_of_ble_eq_true rfl)⟩) hS (fun q _ h => hFc q h) hFc (fun r_333 u t H locs ht hvm w_334 hB hz1 hk1 hS => ?_)
      obtain ⟨hP, hD, hK⟩ := q_join (D := D) (wc := [(xo, .inr (11, [.ref xg, .int 0, .ref xp, .int 0, .ref xq, .int 0, .ref r1, .ref r2, .ref r3, .ref r4, .ref se, .int ts, .int hv, .int 40, .int 0, .int 0])), (xp, .inl (cp, 4, .inr (.inr (.inr (.inr (fun _ => none)))))), (xq, .inl (cq, 16, .inr (.inr (.inr (.inr (fun _ => none))))))]) (wr := [(r1, .inr (9, [.int 0, .int 0])), (r2, .inr (9, [.int 0, .int 0])), (r3, .inr (9, [.int 0, .int 0])), (r4, .inr (9, [.int 0, .int 0]))]) (w1 := [(xo, .inr (11, [.ref xg, .int 0, .ref xp, .int 0, .ref xq, .int 0, .ref r1, .ref r2, .ref r3, .ref r4, .ref se, .int ts, .int (hv + 1), .int 40, .int 0, .int 0])), (xp, .inl (cp, 4, .inr (.inr (.inr (.inr (fun _ => none)))))), (xq, .inl (cq, 16, .inr (.inr (.inr (.inr (fun _ => none))))))]) (tyr := []) (ty1 := [(cp, .object "Gatherhouse$Pot"), (cq, .object "Gatherhouse$Piece")]) hP hD hK [0, 1, 2] [3, 4, 5, 6] [] rfl rfl (by decide) (by decide) rfl hFc hk1 ht hvm hB
      have hP : va_P D vwCl [(r1, .inr (9, [.int 0, .int 0])), (r2, .inr (9, [.int 0, .int 0])), (r3, .inr (9, [.int 0, .int 0])), (r4, .inr (9, [.int 0, .int 0])), (xo, .inr (11, [.ref xg, .int 0, .ref xp, .int 0, .ref xq, .int 0, .ref r1, .ref r2, .ref r3, .ref r4, .ref se, .int ts, .int (hv + 1), .int 40, .int 0, .int 0])), (xp, .inl (cp, 4, .inr (.inr (.inr (.inr (fun _ => none)))))), (xq, .inl (cq, 16, .inr (.inr (.inr (.inr (fun _ => none))))))] H := hP
      have hD : va_D A [(r1, .inr (9, [.int 0, .int 0])), (r2, .inr (9, [.int 0, .int 0])), (r3, .inr (9, [.int 0, .int 0])), (r4, .inr (9, [.int 0, .int 0])), (xo, .inr (11, [.ref xg, .int 0, .ref xp, .int 0, .ref xq, .int 0, .ref r1, .ref r2, .ref r3, .ref r4, .ref se, .int ts, .int (hv + 1), .int 40, .int 0, .int 0])), (xp, .inl (cp, 4, .inr (.inr (.inr (.inr (fun _ => none)))))), (xq, .inl (cq, 16, .inr (.inr (.inr (.inr (fun _ => none))))))] := hD
      have hK : va_K D vwCl [(cp, .object "Gatherhouse$Pot"), (cq, .object "Gatherhouse$Piece")] s := hK
      obtain rfl := w_334
      refine lv_pop hx hb dX6_days_30 rfl ?_
      refine lv_iinc (v := nI (k + 1)) (lv' := [(3, .int (nI (k + 1))), (2, .int 0), (0, .ref xo), (1, .int (nI n))]) hx hb dX6_days_31 hl (k := 0) rfl (show nI k + Int32.ofInt 1 = nI (k + 1) from nI_1 k) (by decide) rfl (fun ls hl => ?_)
      refine lv_goto (tgt := 18) hx hb dX6_days_34 (by decide) ?_
      have hP := hP.sub (ws' := [(xo, .inr (11, [.ref xg, .int 0, .ref xp, .int 0, .ref xq, .int 0, .ref r1, .ref r2, .ref r3, .ref r4, .ref se, .int ts, .int (hv + 1), .int 40, .int 0, .int 0])), (xp, .inl (cp, 4, .inr (.inr (.inr (.inr (fun _ => none)))))), (xq, .inl (cq, 16, .inr (.inr (.inr (.inr (fun _ => none)))))), (r1, .inr (9, [.int 0, .int 0])), (r2, .inr (9, [.int 0, .int 0])), (r3, .inr (9, [.int 0, .int 0])), (r4, .inr (9, [.int 0, .int 0]))]) [4, 5, 6, 0, 1, 2, 3] rfl
      have hD := hD.sub (ws' := [(xo, .inr (11, [.ref xg, .int 0, .ref xp, .int 0, .ref xq, .int 0, .ref r1, .ref r2, .ref r3, .ref r4, .ref se, .int ts, .int (hv + 1), .int 40, .int 0, .int 0])), (xp, .inl (cp, 4, .inr (.inr (.inr (.inr (fun _ => none)))))), (xq, .inl (cq, 16, .inr (.inr (.inr (.inr (fun _ => none)))))), (r1, .inr (9, [.int 0, .int 0])), (r2, .inr (9, [.int 0, .int 0])), (r3, .inr (9, [.int 0, .int 0])), (r4, .inr (9, [.int 0, .int 0]))]) [4, 5, 6, 0, 1, 2, 3] (by decide) rfl
      exact ih (hv + 1) _ _ _ ⟨hP, hD, hS, lv_sub hl [0, 1, 2, 3] rfl⟩
    · intro hv H locs ls hp
      obtain ⟨hP, hD, hS, hl⟩ := hp
      refine lv_iload_n hx hb dX6_days_18 rfl (lv_at hl 0 rfl) ?_
      refine lv_iload_n hx hb dX6_days_19 rfl (lv_at hl 3 rfl) ?_
      refine lv_bipush (v := 24) hx hb dX6_days_20 (by decide) ?_
      refine lv_imul hx hb dX6_days_22 ?_
      refine lv_topi (fun y_335 ey_335 => ?_)
      have ey_335 : y_335 = nI (n * 24) := ey_335.trans (pk_mul n 24)
      subst ey_335
      refine lv_icmp_ge (tgt := 37) hx hb dX6_days_23 (by decide) (fun _ => ?_) (fun cc => absurd (nI_le (Nat.le_refl _) (by omega)) cc)
      refine lv_aload_n hx hb dX6_days_37 rfl (lv_at hl 2 rfl) ?_
      refine va_get (D := D) (cl := vwCl) (ci := 11) (v := .int 0) (C := RX6) (T := TX6) (N := 16) hx hb hts zuX6_days_X6 hown hK hP 0 rfl rfl 15 (by decide) (hts (.fieldLink RX6 72 "Gatherhouse" "brokenLater" "I") (by decide +kernel)) (fun _ h9 => h9) rfl dX6_days_38 ?_
      refine lv_iload_n hx hb dX6_days_41 rfl (lv_at hl 1 rfl) ?_
      refine lv_isub hx hb dX6_days_42 ?_
      refine lv_topi (fun y_336 ey_336 => ?_)
      have ey_336 : y_336 = 0 := ey_336.trans (by decide +kernel)
      subst ey_336
      refine vx_ret ?_
      exact W.iret (v := 0) hx hb hr (fun t ht hW => ⟨⟨0, (), rfl, ⟨(by first | assumption | exact inR_1 (by assumption) (by assumption) | exact inR_2 (by assumption) (by assumption) | exact inR_3 (by assumption) | exact inR_4 (by assumption) | exact inR_5 (by assumption) | exact ⟨by assumption, by assumption, by assumption, by assumption⟩ | exact ⟨by assumption, by assumption, by assumption⟩ | exact (fun q => absurd q.1 (by assumption)) | exact (fun q => absurd q.2.1 (by assumption)) | exact (fun q => absurd q.2.2 (by assumption)) | exact (fun q => absurd q.2.2.1 (by assumption)) | exact (fun q => absurd q.2.2.2 (by assumption)) | exact isRole_no (by assumption) (by assumption) (by assumption) (by assumption) | exact isRole_nb (by assumption) (by assumption) (by assumption) (by assumption) | exact isRole_out (by assumption) | exact enc_use (by assumption) (by assumption) (by assumption) | exact enc_103 (by assumption) | exact enc_103 (Eq.symm (by assumption)) | exact enc_115 (Eq.symm (by assumption)) | exact enc_102 (Eq.symm (by assumption)) | exact enc_98 (Eq.symm (by assumption)) | exact isRole_nc (by assumption) (by assumption) (by assumption) (by assumption) | exact enc_115 (by assumption) | exact enc_102 (by assumption) | exact enc_98 (by assumption) | exact Or.inr (by assumption) | rfl | exact Or.inl (by assumption) | exact Or.inr (Or.inl (by assumption)) | exact Or.inr (Or.inr (Or.inl (by assumption))) | exact Or.inr (Or.inr (Or.inr (by assumption))) | decide), rfl⟩, trivial⟩, hS.F ht⟩) hS.2.2 dX6_days_43
theorem dX6_pass_0 : decode cX6_pass 0 = .ok (.iload_n 1, 1) := by decide +kernel
theorem dX6_pass_1 : decode cX6_pass 1 = .ok (.iconst 1, 1) := by decide +kernel
theorem dX6_pass_2 : decode cX6_pass 2 = .ok (.sipush 600, 3) := by decide +kernel
theorem dX6_pass_5 : decode cX6_pass 5 = .ok (.invokestatic 75, 3) := by decide +kernel
theorem dX6_pass_8 : decode cX6_pass 8 = .ok (.iconst 0, 1) := by decide +kernel
theorem dX6_pass_9 : decode cX6_pass 9 = .ok (.istore_n 2, 1) := by decide +kernel
theorem dX6_pass_10 : decode cX6_pass 10 = .ok (.iconst 0, 1) := by decide +kernel
theorem dX6_pass_11 : decode cX6_pass 11 = .ok (.istore_n 3, 1) := by decide +kernel
theorem dX6_pass_12 : decode cX6_pass 12 = .ok (.iload_n 3, 1) := by decide +kernel
theorem dX6_pass_13 : decode cX6_pass 13 = .ok (.iload_n 1, 1) := by decide +kernel
theorem dX6_pass_14 : decode cX6_pass 14 = .ok (.if_icmp .ge 16, 3) := by decide +kernel
theorem dX6_pass_17 : decode cX6_pass 17 = .ok (.iload_n 2, 1) := by decide +kernel
theorem dX6_pass_18 : decode cX6_pass 18 = .ok (.aload_n 0, 1) := by decide +kernel
theorem dX6_pass_19 : decode cX6_pass 19 = .ok (.invokevirtual 130, 3) := by decide +kernel
theorem dX6_pass_22 : decode cX6_pass 22 = .ok (.iadd, 1) := by decide +kernel
theorem dX6_pass_23 : decode cX6_pass 23 = .ok (.istore_n 2, 1) := by decide +kernel
theorem dX6_pass_24 : decode cX6_pass 24 = .ok (.iinc 3 1, 3) := by decide +kernel
theorem dX6_pass_27 : decode cX6_pass 27 = .ok (.goto (-15), 3) := by decide +kernel
theorem dX6_pass_30 : decode cX6_pass 30 = .ok (.iload_n 2, 1) := by decide +kernel
theorem dX6_pass_31 : decode cX6_pass 31 = .ok (.ireturn, 1) := by decide +kernel
def wzEX6_pass : List Cond := [.code yX6_pass cX6_pass 4 (some .int), .methodLink RX6 75 yX6_checkRange, .static yX6_checkRange, .initialized RX6, .code yX6_checkRange cX6_checkRange 3 none, .classLink RX6 118 "java/lang/IllegalArgumentException", .initialized "java/lang/IllegalArgumentException", .methodLink RX6 130 yX6_passSecond, .instanceMethod yX6_passSecond, .selects RX6 yX6_passSecond yX6_passSecond, .code yX6_passSecond cX6_passSecond 6 (some .int), .fieldLink RX6 60 "Gatherhouse" "secondsGone" "I", .fieldLink RX6 40 "Gatherhouse" "gatherer" "LGatherhouse$Role;", .code yX4_passSecond cX4_passSecond 1 none, .fieldLink RX4 7 "Gatherhouse$Role" "busy" "I", .methodLink RX4 16 Lib.Math.max.name, .static Lib.Math.max.name, .initialized "java/lang/Math", .code Lib.Math.max.name Lib.Math.max.code 2 (some .int), .initialized RX4, .instanceMethod yX4_passSecond, .selects RX4 yX4_passSecond yX4_passSecond, .fieldLink RX6 44 "Gatherhouse" "servitor" "LGatherhouse$Role;", .fieldLink RX6 47 "Gatherhouse" "gaffer" "LGatherhouse$Role;", .fieldLink RX6 50 "Gatherhouse" "boy" "LGatherhouse$Role;", .fieldLink RX6 30 "Gatherhouse" "pieces" "[LGatherhouse$Piece;"]
def wzX6_pass : List Cond := wzEX6_pass ++ (u_ws RX6 TX6 16 ++ (u_ws RX4 TX4 2 ++ ((vx_atS RX6 122 "java/lang/IllegalArgumentException" ["java/lang/RuntimeException", "java/lang/Exception"]).filter goodWord)))
theorem zgEX6_pass : wzEX6_pass.all goodWord = true := by decide +kernel
theorem zuX6_pass_X6 : ∀ w ∈ u_ws RX6 TX6 16, w ∈ wzX6_pass := (fun _ h => (List.mem_append_right _ (List.mem_append_left _ h)))
theorem zuX6_pass_X4 : ∀ w ∈ u_ws RX4 TX4 2, w ∈ wzX6_pass := (fun _ h => (List.mem_append_right _ (List.mem_append_right _ (List.mem_append_left _ h))))
theorem ztX6_pass_X6_122 : ∀ w ∈ (vx_atS RX6 122 "java/lang/IllegalArgumentException" ["java/lang/RuntimeException", "java/lang/Exception"]).filter goodWord, w ∈ wzX6_pass := (fun _ h => (List.mem_append_right _ (List.mem_append_right _ (List.mem_append_right _ h))))
theorem gzX6_pass_X6_checkRange_75 : GoodIn wzX6_pass (va_wsS RX6 75 yX6_checkRange wzX6_checkRange) := (goodIn_app (z_lift (goodIn_r _ [1, 2, 3] rfl (by decide +kernel))) (goodIn_app (z_lift (goodIn_r wzEX6_checkRange [4, 5, 6] rfl zgEX6_checkRange)) (goodIn_sub (fun _ h => (List.mem_append_right _ (List.mem_append_right _ (List.mem_append_right _ h)))) zgV_X6_122)))
theorem gzX6_pass_X6_passSecond_130 : GoodIn wzX6_pass (wsV RX6 130 RX6 yX6_passSecond wzX6_passSecond) := (goodIn_app (z_lift (goodIn_r _ [7, 8, 9, 3] rfl (by decide +kernel))) (goodIn_app (z_lift (goodIn_r wzEX6_passSecond [10, 11, 12, 13, 14, 15, 16, 17, 18, 19, 20, 21, 22, 23, 24, 25] rfl zgEX6_passSecond)) (goodIn_app (goodIn_sub (fun _ h => (List.mem_append_right _ (List.mem_append_left _ h))) zgU_X6) (goodIn_sub (fun _ h => (List.mem_append_right _ (List.mem_append_right _ (List.mem_append_left _ h)))) zgU_X4))))
set_option maxHeartbeats 4000000 in
set_option maxRecDepth 100000 in
theorem zc_X6_pass (l : Launch) (hnt : l.stackTraces = false) (D : va_G) (G : Nat × Nat × Nat) (xo : Nat) (xg : Nat) (xp : Nat) (xq : Nat) (r1 : Nat) (r2 : Nat) (r3 : Nat) (r4 : Nat) (se : Nat) (ts : Int32) (hq : Int32) (cq : ClassId) (ii : Int32) (sz : Nat) : vx_Met l yX6_pass wzX6_pass ({ frames := 7, cells := 1, slots := 6, locals := 104 }) (va_Pc [.ref xo, .int ii] (p_RW D G [(cq, .object "Gatherhouse$Piece")] [(xo, .inr (11, [.ref xg, .int 0, .ref xp, .int 0, .ref xq, .int 0, .ref r1, .ref r2, .ref r3, .ref r4, .ref se, .int ts, .int hq, .int 40, .int 0, .int 0])), (xq, .inl (cq, 16, .inr (.inr (.inr (.inr (fun _ => none)))))), (r1, .inr (9, [.int 0, .int 0])), (r2, .inr (9, [.int 0, .int 0])), (r3, .inr (9, [.int 0, .int 0])), (r4, .inr (9, [.int 0, .int 0]))] sz)) (va_Qi (fun (r : Int32) (u : Unit) => inR ii 1 600 ∧ r = 0) (fun (u : Unit) (t : State) => True) (va_A [(xo, .inr (11, [.ref xg, .int 0, .ref xp, .int 0, .ref xq, .int 0, .ref r1, .ref r2, .ref r3, .ref r4, .ref se, .int ts, .int hq, .int 40, .int 0, .int 0])), (xq, .inl (cq, 16, .inr (.inr (.inr (.inr (fun _ => none)))))), (r1, .inr (9, [.int 0, .int 0])), (r2, .inr (9, [.int 0, .int 0])), (r3, .inr (9, [.int 0, .int 0])), (r4, .inr (9, [.int 0, .int 0]))] sz)) (vx_X (fun (_ : Unit) => True) (fun E (_ : Unit) (_ : State) => (E = "java/lang/IllegalArgumentException" ∧ (¬ inR ii 1 600))) (va_A [(xo, .inr (11, [.ref xg, .int 0, .ref xp, .int 0, .ref xq, .int 0, .ref r1, .ref r2, .ref r3, .ref r4, .ref se, .int ts, .int hq, .int 40, .int 0, .int 0])), (xq, .inl (cq, 16, .inr (.inr (.inr (.inr (fun _ => none)))))), (r1, .inr (9, [.int 0, .int 0])), (r2, .inr (9, [.int 0, .int 0])), (r3, .inr (9, [.int 0, .int 0])), (r4, .inr (9, [.int 0, .int 0]))] sz)) 1 6 (va_A [(xo, .inr (11, [.ref xg, .int 0, .ref xp, .int 0, .ref xq, .int 0, .ref r1, .ref r2, .ref r3, .ref r4, .ref se, .int ts, .int hq, .int 40, .int 0, .int 0])), (xq, .inl (cq, 16, .inr (.inr (.inr (.inr (fun _ => none)))))), (r1, .inr (9, [.int 0, .int 0])), (r2, .inr (9, [.int 0, .int 0])), (r3, .inr (9, [.int 0, .int 0])), (r4, .inr (9, [.int 0, .int 0]))] sz) := by
  refine vx_ofW (cc := cX6_pass) (maxL := 4) (ret := (some .int)) (by decide) rfl ?_
  intro p e s m args below meth c s₁ B hml hxt hv
  obtain ⟨rfl, hsz, hP, hK, hD0, hT, hZ⟩ := hv
  have hx := B.exec
  have hb := B.bytes
  have hr := B.returns
  have hts := atoms_spec (ws := wzX6_pass) B.pre
  have hown : s.vm.findClass RX6 = some m.cls := findClass_of_methodNamed B.named
  have hlocks := B.notSynchronized
  subst hsz
  have hD := hD0.self (sz := s.heap.size)
  generalize hAe : va_A [(xo, .inr (11, [.ref xg, .int 0, .ref xp, .int 0, .ref xq, .int 0, .ref r1, .ref r2, .ref r3, .ref r4, .ref se, .int ts, .int hq, .int 40, .int 0, .int 0])), (xq, .inl (cq, 16, .inr (.inr (.inr (.inr (fun _ => none)))))), (r1, .inr (9, [.int 0, .int 0])), (r2, .inr (9, [.int 0, .int 0])), (r3, .inr (9, [.int 0, .int 0])), (r4, .inr (9, [.int 0, .int 0]))] s.heap.size = A at hD hZ ⊢
  have hA : ∀ q : Nat, s.heap.size ≤ q → A q := fun q h => by rw [← hAe]; exact Or.inr h
  have hS : va_S A s.heap s.heap [] := va_S.rf
  have hl := lv_entry ([.ref xo, .int ii]) (n := 4) (Nat.le_of_ble_eq_true rfl)
  rw [lg_entry_eq]
  generalize (lg_sl ([.ref xo, .int ii]) ++ List.replicate (4 - (lg_sl ([.ref xo, .int ii])).length) Slot.unset).toArray = ls at hl ⊢
  have hl : lv_has ls 4 [(0, .ref xo), (1, .int ii)] := hl
  refine lv_iload_n hx hb dX6_pass_0 rfl (lv_at hl 1 rfl) ?_
  refine lv_iconst (v := 1) hx hb dX6_pass_1 (by decide) ?_
  refine lv_sipush (v := 600) hx hb dX6_pass_2 (by decide) ?_
  have hFc := va_free (wc := []) hD hS hA [] rfl
  refine vx_callv (vx_runS (As := [.int ii, .int 1, .int 600]) (rest := []) ⟨hx, hb, hml, hown, hts⟩ (zc_X6_checkRange l hnt D G ii 1 600 s.heap.size) (cwS 3 hts gzX6_pass_X6_checkRange_75 rfl rfl rfl (by decide +kernel) ⟨(Nat.le_of_ble_eq_true rfl), (Nat.le_of_ble_eq_true rfl)⟩) ⟨p_RW_blind, (p_RW_at (tc := []) (wc := []) hP hK hD hS hA hT hZ [] [] rfl rfl (by decide) rfl [.int ii, .int 1, .int 600])⟩ rfl rfl hl.1 rfl (lv_room (Nat.le_of_ble_eq_true rfl)) dX6_pass_5 ⟨(Nat.le_of_ble_eq_true rfl), (Nat.le_of_ble_eq_true rfl)⟩) hS (fun q _ h => hFc q h) hFc (fun q _ h => hFc q h) (fun E ce q9 u t H locs ht hvm hpx hBX hz1 hk1 hS hce hcv hcl => ?_) (fun u t H locs ht hvm w_338 hB hz1 hk1 hS => ?_)
  · have hBX : (E = "java/lang/IllegalArgumentException" ∧ (¬ inR ii 1 600)) := hBX
    rcases hBX with ⟨rfl, c_339⟩
    exact vx_out (fun x h => (hxt x h).elim) hlocks hce hcv hcl (fun t ht _ => ⟨(), trivial, ⟨rfl, (by first | assumption | exact inR_1 (by assumption) (by assumption) | exact inR_2 (by assumption) (by assumption) | exact inR_3 (by assumption) | exact inR_4 (by assumption) | exact inR_5 (by assumption) | exact ⟨by assumption, by assumption, by assumption, by assumption⟩ | exact ⟨by assumption, by assumption, by assumption⟩ | exact (fun q => absurd q.1 (by assumption)) | exact (fun q => absurd q.2.1 (by assumption)) | exact (fun q => absurd q.2.2 (by assumption)) | exact (fun q => absurd q.2.2.1 (by assumption)) | exact (fun q => absurd q.2.2.2 (by assumption)) | exact isRole_no (by assumption) (by assumption) (by assumption) (by assumption) | exact isRole_nb (by assumption) (by assumption) (by assumption) (by assumption) | exact isRole_out (by assumption) | exact enc_use (by assumption) (by assumption) (by assumption) | exact enc_103 (by assumption) | exact enc_103 (Eq.symm (by assumption)) | exact enc_115 (Eq.symm (by assumption)) | exact enc_102 (Eq.symm (by assumption)) | exact enc_98 (Eq.symm (by assumption)) | exact isRole_nc (by assumption) (by assumption) (by assumption) (by assumption) | exact enc_115 (by assumption) | exact enc_102 (by assumption) | exact enc_98 (by assumption) | exact Or.inr (by assumption) | rfl | exact Or.inl (by assumption) | exact Or.inr (Or.inl (by assumption)) | exact Or.inr (Or.inr (Or.inl (by assumption))) | exact Or.inr (Or.inr (Or.inr (by assumption))) | decide)⟩, hS.F ht⟩) hS.2.2 (Nat.le_of_ble_eq_true rfl) (Nat.le_of_ble_eq_true rfl)
  · obtain ⟨hP, hD, hK⟩ := q_join (D := D) (wc := []) (wr := [(xo, .inr (11, [.ref xg, .int 0, .ref xp, .int 0, .ref xq, .int 0, .ref r1, .ref r2, .ref r3, .ref r4, .ref se, .int ts, .int hq, .int 40, .int 0, .int 0])), (xq, .inl (cq, 16, .inr (.inr (.inr (.inr (fun _ => none)))))), (r1, .inr (9, [.int 0, .int 0])), (r2, .inr (9, [.int 0, .int 0])), (r3, .inr (9, [.int 0, .int 0])), (r4, .inr (9, [.int 0, .int 0]))]) (w1 := []) (tyr := [(cq, .object "Gatherhouse$Piece")]) (ty1 := []) hP hD hK [] [0, 1, 2, 3, 4, 5] [0] rfl rfl (by decide) (by decide) rfl hFc hk1 ht hvm (q_none hK hvm)
    have hP : va_P D vwCl [(xo, .inr (11, [.ref xg, .int 0, .ref xp, .int 0, .ref xq, .int 0, .ref r1, .ref r2, .ref r3, .ref r4, .ref se, .int ts, .int hq, .int 40, .int 0, .int 0])), (xq, .inl (cq, 16, .inr (.inr (.inr (.inr (fun _ => none)))))), (r1, .inr (9, [.int 0, .int 0])), (r2, .inr (9, [.int 0, .int 0])), (r3, .inr (9, [.int 0, .int 0])), (r4, .inr (9, [.int 0, .int 0]))] H := hP
    have hD : va_D A [(xo, .inr (11, [.ref xg, .int 0, .ref xp, .int 0, .ref xq, .int 0, .ref r1, .ref r2, .ref r3, .ref r4, .ref se, .int ts, .int hq, .int 40, .int 0, .int 0])), (xq, .inl (cq, 16, .inr (.inr (.inr (.inr (fun _ => none)))))), (r1, .inr (9, [.int 0, .int 0])), (r2, .inr (9, [.int 0, .int 0])), (r3, .inr (9, [.int 0, .int 0])), (r4, .inr (9, [.int 0, .int 0]))] := hD
    have hK : va_K D vwCl [(cq, .object "Gatherhouse$Piece")] s := hK
    refine W.widen (k := 1) (n := 6) (Nat.le_of_ble_eq_true rfl) (Nat.le_of_ble_eq_true rfl) ?_
    have c_340 := w_338
    refine lv_iconst (v := 0) hx hb dX6_pass_8 (by decide) ?_
    refine lv_istore_n (lv' := [(2, .int 0), (0, .ref xo), (1, .int ii)]) hx hb dX6_pass_9 rfl hl (by decide) rfl (fun ls hl => ?_)
    obtain ⟨n, hn, rfl⟩ := inR_n (h := 600) (by decide) c_340
    refine lv_iconst (v := 0) hx hb dX6_pass_10 (by decide) ?_
    refine lv_istore_n (lv' := [(3, .int 0), (2, .int 0), (0, .ref xo), (1, .int (nI n))]) hx hb dX6_pass_11 rfl hl (by decide) rfl (fun ls hl => ?_)
    refine z_loop (fun (k : Nat) (hv : Int32) (H : Heap) (locs : List Loc) (ls : Array Slot) => va_P D vwCl [(xo, .inr (11, [.ref xg, .int 0, .ref xp, .int 0, .ref xq, .int 0, .ref r1, .ref r2, .ref r3, .ref r4, .ref se, .int hv, .int hq, .int 40, .int 0, .int 0])), (xq, .inl (cq, 16, .inr (.inr (.inr (.inr (fun _ => none)))))), (r1, .inr (9, [.int 0, .int 0])), (r2, .inr (9, [.int 0, .int 0])), (r3, .inr (9, [.int 0, .int 0])), (r4, .inr (9, [.int 0, .int 0]))] H ∧ va_D A [(xo, .inr (11, [.ref xg, .int 0, .ref xp, .int 0, .ref xq, .int 0, .ref r1, .ref r2, .ref r3, .ref r4, .ref se, .int hv, .int hq, .int 40, .int 0, .int 0])), (xq, .inl (cq, 16, .inr (.inr (.inr (.inr (fun _ => none)))))), (r1, .inr (9, [.int 0, .int 0])), (r2, .inr (9, [.int 0, .int 0])), (r3, .inr (9, [.int 0, .int 0])), (r4, .inr (9, [.int 0, .int 0]))] ∧ va_S A s.heap H locs ∧ lv_has ls 4 [(3, .int (nI k)), (2, .int 0), (0, .ref xo), (1, .int (nI n))]) (fun (k : Nat) (H : Heap) (locs : List Loc) (ls : Array Slot) => W p l e _ s m _ below meth c H locs (1) (6) _ (F0 m 12 ls [])) (n) ?_ ?_ (n) 0 (by omega) ts H _ ls ⟨hP, hD, hS, hl⟩
    · intro k hk ih hv H locs ls hp
      obtain ⟨hP, hD, hS, hl⟩ := hp
      refine lv_iload_n hx hb dX6_pass_12 rfl (lv_at hl 0 rfl) ?_
      refine lv_iload_n hx hb dX6_pass_13 rfl (lv_at hl 3 rfl) ?_
      refine lv_icmp_ge (tgt := 30) hx hb dX6_pass_14 (by decide) (fun cc => absurd cc (nI_ge hk (by omega))) (fun _ => ?_)
      refine lv_iload_n hx hb dX6_pass_17 rfl (lv_at hl 1 rfl) ?_
      refine lv_aload_n hx hb dX6_pass_18 rfl (lv_at hl 2 rfl) ?_
      have hFc := va_free (wc := [(xo, .inr (11, [.ref xg, .int 0, .ref xp, .int 0, .ref xq, .int 0, .ref r1, .ref r2, .ref r3, .ref r4, .ref se, .int hv, .int hq, .int 40, .int 0, .int 0])), (xq, .inl (cq, 16, .inr (.inr (.inr (.inr (fun _ => none)))))), (r1, .inr (9, [.int 0, .int 0])), (r2, .inr (9, [.int 0, .int 0])), (r3, .inr (9, [.int 0, .int 0])), (r4, .inr (9, [.int 0, .int 0]))]) hD hS hA [0, 1, 2, 3, 4, 5] rfl
      refine va_calli (va_runV (As := []) (rest := [.int 0]) ⟨hx, hb, hml, hown, hts⟩ (zc_X6_passSecond l D G xo xg xp xq r1 r2 r3 r4 se hv hq cq H.size) (cwV 0 hts gzX6_pass_X6_passSecond_130 rfl rfl rfl (by decide +kernel) ⟨(Nat.le_of_ble_eq_true rfl), (Nat.le_of_ble_eq_true rfl)⟩) ⟨p_RW_blind, va_recv hK hP (ci := 11) (q0 := 0) rfl rfl, (p_RW_at (tc := [(cq, .object "Gatherhouse$Piece")]) (wc := [(xo, .inr (11, [.ref xg, .int 0, .ref xp, .int 0, .ref xq, .int 0, .ref r1, .ref r2, .ref r3, .ref r4, .ref se, .int hv, .int hq, .int 40, .int 0, .int 0])), (xq, .inl (cq, 16, .inr (.inr (.inr (.inr (fun _ => none)))))), (r1, .inr (9, [.int 0, .int 0])), (r2, .inr (9, [.int 0, .int 0])), (r3, .inr (9, [.int 0, .int 0])), (r4, .inr (9, [.int 0, .int 0]))]) hP hK hD hS hA hT hZ [0, 1, 2, 3, 4, 5] [0] rfl rfl (by decide) rfl [.ref xo])⟩ rfl rfl hl.1 rfl (lv_room (Nat.le_of_ble_eq_true rfl)) dX6_pass_19 ⟨(Nat.le_of_ble_eq_true rfl), (Nat.le_of_ble_eq_true rfl)⟩) hS (fun q _ h => hFc q h) hFc (fun r_341 u t H locs ht hvm w_342 hB hz1 hk1 hS => ?_)
      obtain ⟨hP, hD, hK⟩ := q_join (D := D) (wc := [(xo, .inr (11, [.ref xg, .int 0, .ref xp, .int 0, .ref xq, .int 0, .ref r1, .ref r2, .ref r3, .ref r4, .ref se, .int hv, .int hq, .int 40, .int 0, .int 0])), (xq, .inl (cq, 16, .inr (.inr (.inr (.inr (fun _ => none)))))), (r1, .inr (9, [.int 0, .int 0])), (r2, .inr (9, [.int 0, .int 0])), (r3, .inr (9, [.int 0, .int 0])), (r4, .inr (9, [.int 0, .int 0]))]) (wr := []) (w1 := [(xo, .inr (11, [.ref xg, .int 0, .ref xp, .int 0, .ref xq, .int 0, .ref r1, .ref r2, .ref r3, .ref r4, .ref se, .int (hv + 1), .int hq, .int 40, .int 0, .int 0])), (xq, .inl (cq, 16, .inr (.inr (.inr (.inr (fun _ => none)))))), (r1, .inr (9, [.int 0, .int 0])), (r2, .inr (9, [.int 0, .int 0])), (r3, .inr (9, [.int 0, .int 0])), (r4, .inr (9, [.int 0, .int 0]))]) (tyr := []) (ty1 := [(cq, .object "Gatherhouse$Piece")]) hP hD hK [0, 1, 2, 3, 4, 5] [] [] rfl rfl (by decide) (by decide) rfl hFc hk1 ht hvm hB
      have hP : va_P D vwCl [(xo, .inr (11, [.ref xg, .int 0, .ref xp, .int 0, .ref xq, .int 0, .ref r1, .ref r2, .ref r3, .ref r4, .ref se, .int (hv + 1), .int hq, .int 40, .int 0, .int 0])), (xq, .inl (cq, 16, .inr (.inr (.inr (.inr (fun _ => none)))))), (r1, .inr (9, [.int 0, .int 0])), (r2, .inr (9, [.int 0, .int 0])), (r3, .inr (9, [.int 0, .int 0])), (r4, .inr (9, [.int 0, .int 0]))] H := hP
      have hD : va_D A [(xo, .inr (11, [.ref xg, .int 0, .ref xp, .int 0, .ref xq, .int 0, .ref r1, .ref r2, .ref r3, .ref r4, .ref se, .int (hv + 1), .int hq, .int 40, .int 0, .int 0])), (xq, .inl (cq, 16, .inr (.inr (.inr (.inr (fun _ => none)))))), (r1, .inr (9, [.int 0, .int 0])), (r2, .inr (9, [.int 0, .int 0])), (r3, .inr (9, [.int 0, .int 0])), (r4, .inr (9, [.int 0, .int 0]))] := hD
      have hK : va_K D vwCl [(cq, .object "Gatherhouse$Piece")] s := hK
      obtain rfl := w_342
      refine lv_iadd hx hb dX6_pass_22 ?_
      refine lv_topi (fun y_343 ey_343 => ?_)
      have ey_343 : y_343 = 0 := ey_343.trans (by decide +kernel)
      subst ey_343
      refine lv_istore_n (lv' := [(2, .int 0), (3, .int (nI k)), (0, .ref xo), (1, .int (nI n))]) hx hb dX6_pass_23 rfl hl (by decide) rfl (fun ls hl => ?_)
      refine lv_iinc (v := nI (k + 1)) (lv' := [(3, .int (nI (k + 1))), (2, .int 0), (0, .ref xo), (1, .int (nI n))]) hx hb dX6_pass_24 hl (k := 1) rfl (show nI k + Int32.ofInt 1 = nI (k + 1) from nI_1 k) (by decide) rfl (fun ls hl => ?_)
      refine lv_goto (tgt := 12) hx hb dX6_pass_27 (by decide) ?_
      exact ih (hv + 1) _ _ _ ⟨hP, hD, hS, lv_sub hl [0, 1, 2, 3] rfl⟩
    · intro hv H locs ls hp
      obtain ⟨hP, hD, hS, hl⟩ := hp
      refine lv_iload_n hx hb dX6_pass_12 rfl (lv_at hl 0 rfl) ?_
      refine lv_iload_n hx hb dX6_pass_13 rfl (lv_at hl 3 rfl) ?_
      refine lv_icmp_ge (tgt := 30) hx hb dX6_pass_14 (by decide) (fun _ => ?_) (fun cc => absurd (nI_le (Nat.le_refl _) (by omega)) cc)
      refine lv_iload_n hx hb dX6_pass_30 rfl (lv_at hl 1 rfl) ?_
      refine vx_ret ?_
      exact W.iret (v := 0) hx hb hr (fun t ht hW => ⟨⟨0, (), rfl, ⟨(by first | assumption | exact inR_1 (by assumption) (by assumption) | exact inR_2 (by assumption) (by assumption) | exact inR_3 (by assumption) | exact inR_4 (by assumption) | exact inR_5 (by assumption) | exact ⟨by assumption, by assumption, by assumption, by assumption⟩ | exact ⟨by assumption, by assumption, by assumption⟩ | exact (fun q => absurd q.1 (by assumption)) | exact (fun q => absurd q.2.1 (by assumption)) | exact (fun q => absurd q.2.2 (by assumption)) | exact (fun q => absurd q.2.2.1 (by assumption)) | exact (fun q => absurd q.2.2.2 (by assumption)) | exact isRole_no (by assumption) (by assumption) (by assumption) (by assumption) | exact isRole_nb (by assumption) (by assumption) (by assumption) (by assumption) | exact isRole_out (by assumption) | exact enc_use (by assumption) (by assumption) (by assumption) | exact enc_103 (by assumption) | exact enc_103 (Eq.symm (by assumption)) | exact enc_115 (Eq.symm (by assumption)) | exact enc_102 (Eq.symm (by assumption)) | exact enc_98 (Eq.symm (by assumption)) | exact isRole_nc (by assumption) (by assumption) (by assumption) (by assumption) | exact enc_115 (by assumption) | exact enc_102 (by assumption) | exact enc_98 (by assumption) | exact Or.inr (by assumption) | rfl | exact Or.inl (by assumption) | exact Or.inr (Or.inl (by assumption)) | exact Or.inr (Or.inr (Or.inl (by assumption))) | exact Or.inr (Or.inr (Or.inr (by assumption))) | decide), rfl⟩, trivial⟩, hS.F ht⟩) hS.2.2 dX6_pass_31
