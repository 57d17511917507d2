theorem dX11_heat_0 : decode cX11_heat 0 = .ok (.aload_n 0, 1) := by decide +kernel
theorem dX11_heat_1 : decode cX11_heat 1 = .ok (.iload_n 1, 1) := by decide +kernel
theorem dX11_heat_2 : decode cX11_heat 2 = .ok (.invokevirtual 51, 3) := by decide +kernel
theorem dX11_heat_5 : decode cX11_heat 5 = .ok (.ifCond .eq 5, 3) := by decide +kernel
theorem dX11_heat_8 : decode cX11_heat 8 = .ok (.iconst 0, 1) := by decide +kernel
theorem dX11_heat_9 : decode cX11_heat 9 = .ok (.ireturn, 1) := by decide +kernel
def wzEX11_heat : List Cond := [.code yX11_heat cX11_heat 5 (some .int), .methodLink RX11 51 yX11_noPiece, .instanceMethod yX11_noPiece, .selects RX11 yX11_noPiece yX11_noPiece, .initialized RX11, .code yX11_noPiece cX11_noPiece 2 (some .boolean), .fieldLink RX11 19 "GatherhouseModel" "pieces" "Ljava/util/ArrayList;", .methodLink RX11 44 yJx4a65c_size_8abf5, .instanceMethod yJx4a65c_size_8abf5, .selects RJx4a65c yJx4a65c_size_8abf5 yJx4a65c_size_8abf5, .initialized RJx4a65c, .code yJx4a65c_size_8abf5 cJx4a65c_size_8abf5 1 (some .int), .fieldLink RJx4a65c 48 "java/util/ArrayList" "size" "I", .methodLink RX11 47 yX11_in, .static yX11_in, .code yX11_in cX11_in 3 (some .boolean), .fieldLink RX11 41 "GatherhouseModel" "thrown" "I"]
def wzX11_heat : List Cond := wzEX11_heat ++ (u_ws RX11 TX11 13 ++ (u_ws RJx4a65c TJx4a65c 3))
theorem zgEX11_heat : wzEX11_heat.all goodWord = true := by decide +kernel
theorem zuX11_heat_X11 : ∀ w ∈ u_ws RX11 TX11 13, w ∈ wzX11_heat := (fun _ h => (List.mem_append_right _ (List.mem_append_left _ h)))
theorem zuX11_heat_Jx4a65c : ∀ w ∈ u_ws RJx4a65c TJx4a65c 3, w ∈ wzX11_heat := (fun _ h => (List.mem_append_right _ (List.mem_append_right _ h)))
theorem gzX11_heat_X11_noPiece_51 : GoodIn wzX11_heat (wsV RX11 51 RX11 yX11_noPiece wzX11_noPiece) := (goodIn_app (z_lift (goodIn_r _ [1, 2, 3, 4] rfl (by decide +kernel))) (goodIn_app (z_lift (goodIn_r wzEX11_noPiece [5, 6, 7, 8, 9, 10, 11, 12, 13, 14, 4, 15, 16] rfl zgEX11_noPiece)) (goodIn_app (goodIn_sub (fun _ h => (List.mem_append_right _ (List.mem_append_left _ h))) zgU_X11) (goodIn_sub (fun _ h => (List.mem_append_right _ (List.mem_append_right _ h))) zgU_Jx4a65c))))
set_option maxHeartbeats 4000000 in
set_option maxRecDepth 100000 in
theorem zc_X11_heat (l : Launch) (D : va_G) (G : Nat × Nat × Nat) (mo : Nat) (gl : Nat) (po : Nat) (pi : Nat) (bu : Nat) (pa : Nat) (th : Int32) (mh : Int32) (mt : Int32) (ii : Int32) (jj : Int32) (sz : Nat) : Met l yX11_heat wzX11_heat ({ frames := 2, cells := 0, slots := 0, locals := 43 }) (va_Pc [.ref mo, .int ii, .int jj] (p_RW D G [] [(mo, .inr (16, [.int th, .ref gl, .ref po, .ref pi, .ref bu, .ref pa, .int mt, .int mh, .int 40, .int 0, .null, .int 0, .int 0])), (pi, .inr (4, [.int 0, .ref G.1, .int 0]))] sz)) (va_Qi (fun (r : Int32) (u : Unit) => r = 0) (fun (u : Unit) (t : State) => q_RW D [] [(mo, .inr (16, [.int 1, .ref gl, .ref po, .ref pi, .ref bu, .ref pa, .int mt, .int mh, .int 40, .int 0, .null, .int 0, .int 0])), (pi, .inr (4, [.int 0, .ref G.1, .int 0]))] (va_A [(mo, .inr (16, [.int th, .ref gl, .ref po, .ref pi, .ref bu, .ref pa, .int mt, .int mh, .int 40, .int 0, .null, .int 0, .int 0])), (pi, .inr (4, [.int 0, .ref G.1, .int 0]))] sz) t) (va_A [(mo, .inr (16, [.int th, .ref gl, .ref po, .ref pi, .ref bu, .ref pa, .int mt, .int mh, .int 40, .int 0, .null, .int 0, .int 0])), (pi, .inr (4, [.int 0, .ref G.1, .int 0]))] sz)) 0 0 (va_A [(mo, .inr (16, [.int th, .ref gl, .ref po, .ref pi, .ref bu, .ref pa, .int mt, .int mh, .int 40, .int 0, .null, .int 0, .int 0])), (pi, .inr (4, [.int 0, .ref G.1, .int 0]))] sz) := by
  refine Met.ofW (cc := cX11_heat) (maxL := 5) (ret := (some .int)) (by decide) rfl ?_
  intro p e s m args below meth c s₁ B hml hv
  obtain ⟨rfl, hsz, hP, hK, hD0, hT, hZ⟩ := hv
  have hx := B.exec
  have hb := B.bytes
  have hr := B.returns
  have hts := atoms_spec (ws := wzX11_heat) B.pre
  have hown : s.vm.findClass RX11 = some m.cls := findClass_of_methodNamed B.named
  have hlocks := B.notSynchronized
  subst hsz
  have hD := hD0.self (sz := s.heap.size)
  generalize hAe : va_A [(mo, .inr (16, [.int th, .ref gl, .ref po, .ref pi, .ref bu, .ref pa, .int mt, .int mh, .int 40, .int 0, .null, .int 0, .int 0])), (pi, .inr (4, [.int 0, .ref G.1, .int 0]))] s.heap.size = A at hD hZ ⊢
  have hA : ∀ q : Nat, s.heap.size ≤ q → A q := fun q h => by rw [← hAe]; exact Or.inr h
  have hS : va_S A s.heap s.heap [] := va_S.rf
  have hl := lv_entry ([.ref mo, .int ii, .int jj]) (n := 5) (Nat.le_of_ble_eq_true rfl)
  rw [lg_entry_eq]
  generalize (lg_sl ([.ref mo, .int ii, .int jj]) ++ List.replicate (5 - (lg_sl ([.ref mo, .int ii, .int jj])).length) Slot.unset).toArray = ls at hl ⊢
  have hl : lv_has ls 5 [(0, .ref mo), (1, .int ii), (2, .int jj)] := hl
  refine lv_aload_n hx hb dX11_heat_0 rfl (lv_at hl 0 rfl) ?_
  refine lv_iload_n hx hb dX11_heat_1 rfl (lv_at hl 1 rfl) ?_
  have hFc := va_free (wc := [(mo, .inr (16, [.int th, .ref gl, .ref po, .ref pi, .ref bu, .ref pa, .int mt, .int mh, .int 40, .int 0, .null, .int 0, .int 0])), (pi, .inr (4, [.int 0, .ref G.1, .int 0]))]) hD hS hA [0, 1] rfl
  refine va_calli (va_runV (As := [.int ii]) (rest := []) ⟨hx, hb, hml, hown, hts⟩ (zc_X11_noPiece l D G mo gl po pi bu pa th mh mt ii s.heap.size) (cwV 1 hts gzX11_heat_X11_noPiece_51 rfl rfl rfl (by decide +kernel) ⟨(Nat.le_of_ble_eq_true rfl), (Nat.le_of_ble_eq_true rfl)⟩) ⟨p_RW_blind, va_recv hK hP (ci := 16) (q0 := 0) rfl rfl, (p_RW_at (tc := []) (wc := [(mo, .inr (16, [.int th, .ref gl, .ref po, .ref pi, .ref bu, .ref pa, .int mt, .int mh, .int 40, .int 0, .null, .int 0, .int 0])), (pi, .inr (4, [.int 0, .ref G.1, .int 0]))]) hP hK hD hS hA hT hZ [0, 1] [] rfl rfl (by decide) rfl [.ref mo, .int ii])⟩ rfl rfl hl.1 rfl (lv_room (Nat.le_of_ble_eq_true rfl)) dX11_heat_2 ⟨(Nat.le_of_ble_eq_true rfl), (Nat.le_of_ble_eq_true rfl)⟩) hS (fun q _ h => hFc q h) hFc (fun r_423 u t H locs ht hvm w_424 hB hz1 hk1 hS => ?_)
  obtain ⟨hP, hD, hK⟩ := q_join (D := D) (wc := [(mo, .inr (16, [.int th, .ref gl, .ref po, .ref pi, .ref bu, .ref pa, .int mt, .int mh, .int 40, .int 0, .null, .int 0, .int 0])), (pi, .inr (4, [.int 0, .ref G.1, .int 0]))]) (wr := []) (w1 := [(mo, .inr (16, [.int 1, .ref gl, .ref po, .ref pi, .ref bu, .ref pa, .int mt, .int mh, .int 40, .int 0, .null, .int 0, .int 0])), (pi, .inr (4, [.int 0, .ref G.1, .int 0]))]) (tyr := []) (ty1 := []) hP hD hK [0, 1] [] [] rfl rfl (by decide) (by decide) rfl hFc hk1 ht hvm hB
  have hP : va_P D vwCl [(mo, .inr (16, [.int 1, .ref gl, .ref po, .ref pi, .ref bu, .ref pa, .int mt, .int mh, .int 40, .int 0, .null, .int 0, .int 0])), (pi, .inr (4, [.int 0, .ref G.1, .int 0]))] H := hP
  have hD : va_D A [(mo, .inr (16, [.int 1, .ref gl, .ref po, .ref pi, .ref bu, .ref pa, .int mt, .int mh, .int 40, .int 0, .null, .int 0, .int 0])), (pi, .inr (4, [.int 0, .ref G.1, .int 0]))] := hD
  have hK : va_K D vwCl [] s := hK
  obtain rfl := w_424
  refine lv_if_eq (tgt := 10) hx hb dX11_heat_5 (by decide) (fun cc => absurd cc (by decide)) (fun _ => ?_)
  refine lv_iconst (v := 0) hx hb dX11_heat_8 (by decide) ?_
  exact W.iret (v := 0) hx hb hr (fun t ht hW => ⟨⟨0, (), rfl, rfl, q_RW_mk hP hK hD [0, 1] [] rfl rfl (by decide) rfl ht hW.alike⟩, hS.F ht⟩) hS.2.2 dX11_heat_9
theorem dX11_blow_0 : decode cX11_blow 0 = .ok (.aload_n 0, 1) := by decide +kernel
theorem dX11_blow_1 : decode cX11_blow 1 = .ok (.iload_n 1, 1) := by decide +kernel
theorem dX11_blow_2 : decode cX11_blow 2 = .ok (.iload_n 2, 1) := by decide +kernel
theorem dX11_blow_3 : decode cX11_blow 3 = .ok (.iload_n 3, 1) := by decide +kernel
theorem dX11_blow_4 : decode cX11_blow 4 = .ok (.iconst 1, 1) := by decide +kernel
theorem dX11_blow_5 : decode cX11_blow 5 = .ok (.bipush 30, 2) := by decide +kernel
theorem dX11_blow_7 : decode cX11_blow 7 = .ok (.iload_n 3, 1) := by decide +kernel
theorem dX11_blow_8 : decode cX11_blow 8 = .ok (.invokestatic 158, 3) := by decide +kernel
theorem dX11_blow_11 : decode cX11_blow 11 = .ok (.invokestatic 120, 3) := by decide +kernel
theorem dX11_blow_14 : decode cX11_blow 14 = .ok (.iconst 0, 1) := by decide +kernel
theorem dX11_blow_15 : decode cX11_blow 15 = .ok (.bipush 102, 2) := by decide +kernel
theorem dX11_blow_17 : decode cX11_blow 17 = .ok (.bipush 8, 2) := by decide +kernel
theorem dX11_blow_19 : decode cX11_blow 19 = .ok (.invokevirtual 250, 3) := by decide +kernel
theorem dX11_blow_22 : decode cX11_blow 22 = .ok (.ireturn, 1) := by decide +kernel
def wzEX11_blow : List Cond := [.code yX11_blow cX11_blow 4 (some .int), .methodLink RX11 158 Lib.Math.min.name, .static Lib.Math.min.name, .initialized "java/lang/Math", .code Lib.Math.min.name Lib.Math.min.code 2 (some .int), .methodLink RX11 120 Lib.Math.max.name, .static Lib.Math.max.name, .code Lib.Math.max.name Lib.Math.max.code 2 (some .int), .methodLink RX11 250 yX11_turns, .instanceMethod yX11_turns, .selects RX11 yX11_turns yX11_turns, .initialized RX11, .code yX11_turns cX11_turns 12 (some .int), .methodLink RX11 223 yX11_noRing, .instanceMethod yX11_noRing, .selects RX11 yX11_noRing yX11_noRing, .code yX11_noRing cX11_noRing 3 (some .boolean), .methodLink RX11 51 yX11_noPiece, .instanceMethod yX11_noPiece, .selects RX11 yX11_noPiece yX11_noPiece, .code yX11_noPiece cX11_noPiece 2 (some .boolean), .fieldLink RX11 19 "GatherhouseModel" "pieces" "Ljava/util/ArrayList;", .methodLink RX11 44 yJx4a65c_size_8abf5, .instanceMethod yJx4a65c_size_8abf5, .selects RJx4a65c yJx4a65c_size_8abf5 yJx4a65c_size_8abf5, .initialized RJx4a65c, .code yJx4a65c_size_8abf5 cJx4a65c_size_8abf5 1 (some .int), .fieldLink RJx4a65c 48 "java/util/ArrayList" "size" "I", .methodLink RX11 47 yX11_in, .static yX11_in, .code yX11_in cX11_in 3 (some .boolean), .fieldLink RX11 41 "GatherhouseModel" "thrown" "I"]
def wzX11_blow : List Cond := wzEX11_blow ++ (u_ws RX11 TX11 13 ++ (u_ws RJx4a65c TJx4a65c 3))
theorem zgEX11_blow : wzEX11_blow.all goodWord = true := by decide +kernel
theorem zuX11_blow_X11 : ∀ w ∈ u_ws RX11 TX11 13, w ∈ wzX11_blow := (fun _ h => (List.mem_append_right _ (List.mem_append_left _ h)))
theorem zuX11_blow_Jx4a65c : ∀ w ∈ u_ws RJx4a65c TJx4a65c 3, w ∈ wzX11_blow := (fun _ h => (List.mem_append_right _ (List.mem_append_right _ h)))
theorem gzX11_blow_X11_turns_250 : GoodIn wzX11_blow (wsV RX11 250 RX11 yX11_turns wzX11_turns) := (goodIn_app (z_lift (goodIn_r _ [8, 9, 10, 11] rfl (by decide +kernel))) (goodIn_app (z_lift (goodIn_r wzEX11_turns [12, 13, 14, 15, 11, 16, 17, 18, 19, 20, 21, 22, 23, 24, 25, 26, 27, 28, 29, 30, 31] rfl zgEX11_turns)) (goodIn_app (goodIn_sub (fun _ h => (List.mem_append_right _ (List.mem_append_left _ h))) zgU_X11) (goodIn_sub (fun _ h => (List.mem_append_right _ (List.mem_append_right _ h))) zgU_Jx4a65c))))
set_option maxHeartbeats 4000000 in
set_option maxRecDepth 100000 in
theorem zc_X11_blow (l : Launch) (D : va_G) (G : Nat × Nat × Nat) (mo : Nat) (gl : Nat) (po : Nat) (pi : Nat) (bu : Nat) (pa : Nat) (th : Int32) (mh : Int32) (mt : Int32) (ii : Int32) (jj : Int32) (kk : Int32) (sz : Nat) : Met l yX11_blow wzX11_blow ({ frames := 4, cells := 0, slots := 0, locals := 96 }) (va_Pc [.ref mo, .int ii, .int jj, .int kk] (p_RW D G [] [(mo, .inr (16, [.int th, .ref gl, .ref po, .ref pi, .ref bu, .ref pa, .int mt, .int mh, .int 40, .int 0, .null, .int 0, .int 0])), (pi, .inr (4, [.int 0, .ref G.1, .int 0]))] sz)) (va_Qi (fun (r : Int32) (u : Unit) => r = 0) (fun (u : Unit) (t : State) => q_RW D [] [(mo, .inr (16, [.int 1, .ref gl, .ref po, .ref pi, .ref bu, .ref pa, .int mt, .int mh, .int 40, .int 0, .null, .int 0, .int 0])), (pi, .inr (4, [.int 0, .ref G.1, .int 0]))] (va_A [(mo, .inr (16, [.int th, .ref gl, .ref po, .ref pi, .ref bu, .ref pa, .int mt, .int mh, .int 40, .int 0, .null, .int 0, .int 0])), (pi, .inr (4, [.int 0, .ref G.1, .int 0]))] sz) t) (va_A [(mo, .inr (16, [.int th, .ref gl, .ref po, .ref pi, .ref bu, .ref pa, .int mt, .int mh, .int 40, .int 0, .null, .int 0, .int 0])), (pi, .inr (4, [.int 0, .ref G.1, .int 0]))] sz)) 0 0 (va_A [(mo, .inr (16, [.int th, .ref gl, .ref po, .ref pi, .ref bu, .ref pa, .int mt, .int mh, .int 40, .int 0, .null, .int 0, .int 0])), (pi, .inr (4, [.int 0, .ref G.1, .int 0]))] sz) := by
  refine Met.ofW (cc := cX11_blow) (maxL := 4) (ret := (some .int)) (by decide) rfl ?_
  intro p e s m args below meth c s₁ B hml hv
  obtain ⟨rfl, hsz, hP, hK, hD0, hT, hZ⟩ := hv
  have hx := B.exec
  have hb := B.bytes
  have hr := B.returns
  have hts := atoms_spec (ws := wzX11_blow) B.pre
  have hown : s.vm.findClass RX11 = some m.cls := findClass_of_methodNamed B.named
  have hlocks := B.notSynchronized
  subst hsz
  have hD := hD0.self (sz := s.heap.size)
  generalize hAe : va_A [(mo, .inr (16, [.int th, .ref gl, .ref po, .ref pi, .ref bu, .ref pa, .int mt, .int mh, .int 40, .int 0, .null, .int 0, .int 0])), (pi, .inr (4, [.int 0, .ref G.1, .int 0]))] s.heap.size = A at hD hZ ⊢
  have hA : ∀ q : Nat, s.heap.size ≤ q → A q := fun q h => by rw [← hAe]; exact Or.inr h
  have hS : va_S A s.heap s.heap [] := va_S.rf
  have hl := lv_entry ([.ref mo, .int ii, .int jj, .int kk]) (n := 4) (Nat.le_of_ble_eq_true rfl)
  rw [lg_entry_eq]
  generalize (lg_sl ([.ref mo, .int ii, .int jj, .int kk]) ++ List.replicate (4 - (lg_sl ([.ref mo, .int ii, .int jj, .int kk])).length) Slot.unset).toArray = ls at hl ⊢
  have hl : lv_has ls 4 [(0, .ref mo), (1, .int ii), (2, .int jj), (3, .int kk)] := hl
  refine lv_aload_n hx hb dX11_blow_0 rfl (lv_at hl 0 rfl) ?_
  refine lv_iload_n hx hb dX11_blow_1 rfl (lv_at hl 1 rfl) ?_
  refine lv_iload_n hx hb dX11_blow_2 rfl (lv_at hl 2 rfl) ?_
  refine lv_iload_n hx hb dX11_blow_3 rfl (lv_at hl 3 rfl) ?_
  refine lv_iconst (v := 1) hx hb dX11_blow_4 (by decide) ?_
  refine lv_bipush (v := 30) hx hb dX11_blow_5 (by decide) ?_
  refine lv_iload_n hx hb dX11_blow_7 rfl (lv_at hl 3 rfl) ?_
  refine va_mmin hx hb (hml.trans hl.1.symm) hown (hts (.methodLink RX11 158 Lib.Math.min.name) (by decide +kernel)) (hts (.static Lib.Math.min.name) (by decide +kernel)) (hts (.initialized "java/lang/Math") (by decide +kernel)) (hts (.code Lib.Math.min.name Lib.Math.min.code 2 (some .int)) (by decide +kernel)) (Nat.le_of_ble_eq_true rfl) (Nat.le_of_ble_eq_true rfl) (Nat.le_of_ble_eq_true rfl) (Nat.le_of_ble_eq_true rfl) dX11_blow_8 ?_
  refine va_mmax hx hb (hml.trans hl.1.symm) hown (hts (.methodLink RX11 120 Lib.Math.max.name) (by decide +kernel)) (hts (.static Lib.Math.max.name) (by decide +kernel)) (hts (.initialized "java/lang/Math") (by decide +kernel)) (hts (.code Lib.Math.max.name Lib.Math.max.code 2 (some .int)) (by decide +kernel)) (Nat.le_of_ble_eq_true rfl) (Nat.le_of_ble_eq_true rfl) (Nat.le_of_ble_eq_true rfl) (Nat.le_of_ble_eq_true rfl) dX11_blow_11 ?_
  refine lv_iconst (v := 0) hx hb dX11_blow_14 (by decide) ?_
  refine lv_bipush (v := 102) hx hb dX11_blow_15 (by decide) ?_
  refine lv_bipush (v := 8) hx hb dX11_blow_17 (by decide) ?_
  have hFc := va_free (wc := [(mo, .inr (16, [.int th, .ref gl, .ref po, .ref pi, .ref bu, .ref pa, .int mt, .int mh, .int 40, .int 0, .null, .int 0, .int 0])), (pi, .inr (4, [.int 0, .ref G.1, .int 0]))]) hD hS hA [0, 1] rfl
  refine va_calli (va_runV (As := [.int ii, .int jj, .int kk, .int (if 1 < (if kk < 30 then kk else 30) then (if kk < 30 then kk else 30) else 1), .int 0, .int 102, .int 8]) (rest := []) ⟨hx, hb, hml, hown, hts⟩ (zc_X11_turns l D G mo gl po pi bu pa th mh mt ii jj kk (if 1 < (if kk < 30 then kk else 30) then (if kk < 30 then kk else 30) else 1) 0 102 8 s.heap.size) (cwV 7 hts gzX11_blow_X11_turns_250 rfl rfl rfl (by decide +kernel) ⟨(Nat.le_of_ble_eq_true rfl), (Nat.le_of_ble_eq_true rfl)⟩) ⟨p_RW_blind, va_recv hK hP (ci := 16) (q0 := 0) rfl rfl, (p_RW_at (tc := []) (wc := [(mo, .inr (16, [.int th, .ref gl, .ref po, .ref pi, .ref bu, .ref pa, .int mt, .int mh, .int 40, .int 0, .null, .int 0, .int 0])), (pi, .inr (4, [.int 0, .ref G.1, .int 0]))]) hP hK hD hS hA hT hZ [0, 1] [] rfl rfl (by decide) rfl [.ref mo, .int ii, .int jj, .int kk, .int (if 1 < (if kk < 30 then kk else 30) then (if kk < 30 then kk else 30) else 1), .int 0, .int 102, .int 8])⟩ rfl rfl hl.1 rfl (lv_room (Nat.le_of_ble_eq_true rfl)) dX11_blow_19 ⟨(Nat.le_of_ble_eq_true rfl), (Nat.le_of_ble_eq_true rfl)⟩) hS (fun q _ h => hFc q h) hFc (fun r_425 u t H locs ht hvm w_426 hB hz1 hk1 hS => ?_)
  obtain ⟨hP, hD, hK⟩ := q_join (D := D) (wc := [(mo, .inr (16, [.int th, .ref gl, .ref po, .ref pi, .ref bu, .ref pa, .int mt, .int mh, .int 40, .int 0, .null, .int 0, .int 0])), (pi, .inr (4, [.int 0, .ref G.1, .int 0]))]) (wr := []) (w1 := [(mo, .inr (16, [.int 1, .ref gl, .ref po, .ref pi, .ref bu, .ref pa, .int mt, .int mh, .int 40, .int 0, .null, .int 0, .int 0])), (pi, .inr (4, [.int 0, .ref G.1, .int 0]))]) (tyr := []) (ty1 := []) hP hD hK [0, 1] [] [] rfl rfl (by decide) (by decide) rfl hFc hk1 ht hvm hB
  have hP : va_P D vwCl [(mo, .inr (16, [.int 1, .ref gl, .ref po, .ref pi, .ref bu, .ref pa, .int mt, .int mh, .int 40, .int 0, .null, .int 0, .int 0])), (pi, .inr (4, [.int 0, .ref G.1, .int 0]))] H := hP
  have hD : va_D A [(mo, .inr (16, [.int 1, .ref gl, .ref po, .ref pi, .ref bu, .ref pa, .int mt, .int mh, .int 40, .int 0, .null, .int 0, .int 0])), (pi, .inr (4, [.int 0, .ref G.1, .int 0]))] := hD
  have hK : va_K D vwCl [] s := hK
  obtain rfl := w_426
  exact W.iret (v := 0) hx hb hr (fun t ht hW => ⟨⟨0, (), rfl, rfl, q_RW_mk hP hK hD [0, 1] [] rfl rfl (by decide) rfl ht hW.alike⟩, hS.F ht⟩) hS.2.2 dX11_blow_22
theorem dX11_swing_0 : decode cX11_swing 0 = .ok (.aload_n 0, 1) := by decide +kernel
theorem dX11_swing_1 : decode cX11_swing 1 = .ok (.iload_n 1, 1) := by decide +kernel
theorem dX11_swing_2 : decode cX11_swing 2 = .ok (.iload_n 2, 1) := by decide +kernel
theorem dX11_swing_3 : decode cX11_swing 3 = .ok (.iload_n 3, 1) := by decide +kernel
theorem dX11_swing_4 : decode cX11_swing 4 = .ok (.iconst 1, 1) := by decide +kernel
theorem dX11_swing_5 : decode cX11_swing 5 = .ok (.bipush 30, 2) := by decide +kernel
theorem dX11_swing_7 : decode cX11_swing 7 = .ok (.iload_n 3, 1) := by decide +kernel
theorem dX11_swing_8 : decode cX11_swing 8 = .ok (.invokestatic 158, 3) := by decide +kernel
theorem dX11_swing_11 : decode cX11_swing 11 = .ok (.invokestatic 120, 3) := by decide +kernel
theorem dX11_swing_14 : decode cX11_swing 14 = .ok (.iconst 1, 1) := by decide +kernel
theorem dX11_swing_15 : decode cX11_swing 15 = .ok (.bipush 115, 2) := by decide +kernel
theorem dX11_swing_17 : decode cX11_swing 17 = .ok (.bipush 6, 2) := by decide +kernel
theorem dX11_swing_19 : decode cX11_swing 19 = .ok (.invokevirtual 250, 3) := by decide +kernel
theorem dX11_swing_22 : decode cX11_swing 22 = .ok (.ireturn, 1) := by decide +kernel
def wzEX11_swing : List Cond := [.code yX11_swing cX11_swing 4 (some .int), .methodLink RX11 158 Lib.Math.min.name, .static Lib.Math.min.name, .initialized "java/lang/Math", .code Lib.Math.min.name Lib.Math.min.code 2 (some .int), .methodLink RX11 120 Lib.Math.max.name, .static Lib.Math.max.name, .code Lib.Math.max.name Lib.Math.max.code 2 (some .int), .methodLink RX11 250 yX11_turns, .instanceMethod yX11_turns, .selects RX11 yX11_turns yX11_turns, .initialized RX11, .code yX11_turns cX11_turns 12 (some .int), .methodLink RX11 223 yX11_noRing, .instanceMethod yX11_noRing, .selects RX11 yX11_noRing yX11_noRing, .code yX11_noRing cX11_noRing 3 (some .boolean), .methodLink RX11 51 yX11_noPiece, .instanceMethod yX11_noPiece, .selects RX11 yX11_noPiece yX11_noPiece, .code yX11_noPiece cX11_noPiece 2 (some .boolean), .fieldLink RX11 19 "GatherhouseModel" "pieces" "Ljava/util/ArrayList;", .methodLink RX11 44 yJx4a65c_size_8abf5, .instanceMethod yJx4a65c_size_8abf5, .selects RJx4a65c yJx4a65c_size_8abf5 yJx4a65c_size_8abf5, .initialized RJx4a65c, .code yJx4a65c_size_8abf5 cJx4a65c_size_8abf5 1 (some .int), .fieldLink RJx4a65c 48 "java/util/ArrayList" "size" "I", .methodLink RX11 47 yX11_in, .static yX11_in, .code yX11_in cX11_in 3 (some .boolean), .fieldLink RX11 41 "GatherhouseModel" "thrown" "I"]
def wzX11_swing : List Cond := wzEX11_swing ++ (u_ws RX11 TX11 13 ++ (u_ws RJx4a65c TJx4a65c 3))
theorem zgEX11_swing : wzEX11_swing.all goodWord = true := by decide +kernel
theorem zuX11_swing_X11 : ∀ w ∈ u_ws RX11 TX11 13, w ∈ wzX11_swing := (fun _ h => (List.mem_append_right _ (List.mem_append_left _ h)))
theorem zuX11_swing_Jx4a65c : ∀ w ∈ u_ws RJx4a65c TJx4a65c 3, w ∈ wzX11_swing := (fun _ h => (List.mem_append_right _ (List.mem_append_right _ h)))
theorem gzX11_swing_X11_turns_250 : GoodIn wzX11_swing (wsV RX11 250 RX11 yX11_turns wzX11_turns) := (goodIn_app (z_lift (goodIn_r _ [8, 9, 10, 11] rfl (by decide +kernel))) (goodIn_app (z_lift (goodIn_r wzEX11_turns [12, 13, 14, 15, 11, 16, 17, 18, 19, 20, 21, 22, 23, 24, 25, 26, 27, 28, 29, 30, 31] rfl zgEX11_turns)) (goodIn_app (goodIn_sub (fun _ h => (List.mem_append_right _ (List.mem_append_left _ h))) zgU_X11) (goodIn_sub (fun _ h => (List.mem_append_right _ (List.mem_append_right _ h))) zgU_Jx4a65c))))
set_option maxHeartbeats 4000000 in
set_option maxRecDepth 100000 in
theorem zc_X11_swing (l : Launch) (D : va_G) (G : Nat × Nat × Nat) (mo : Nat) (gl : Nat) (po : Nat) (pi : Nat) (bu : Nat) (pa : Nat) (th : Int32) (mh : Int32) (mt : Int32) (ii : Int32) (jj : Int32) (kk : Int32) (sz : Nat) : Met l yX11_swing wzX11_swing ({ frames := 4, cells := 0, slots := 0, locals := 96 }) (va_Pc [.ref mo, .int ii, .int jj, .int kk] (p_RW D G [] [(mo, .inr (16, [.int th, .ref gl, .ref po, .ref pi, .ref bu, .ref pa, .int mt, .int mh, .int 40, .int 0, .null, .int 0, .int 0])), (pi, .inr (4, [.int 0, .ref G.1, .int 0]))] sz)) (va_Qi (fun (r : Int32) (u : Unit) => r = 0) (fun (u : Unit) (t : State) => q_RW D [] [(mo, .inr (16, [.int 1, .ref gl, .ref po, .ref pi, .ref bu, .ref pa, .int mt, .int mh, .int 40, .int 0, .null, .int 0, .int 0])), (pi, .inr (4, [.int 0, .ref G.1, .int 0]))] (va_A [(mo, .inr (16, [.int th, .ref gl, .ref po, .ref pi, .ref bu, .ref pa, .int mt, .int mh, .int 40, .int 0, .null, .int 0, .int 0])), (pi, .inr (4, [.int 0, .ref G.1, .int 0]))] sz) t) (va_A [(mo, .inr (16, [.int th, .ref gl, .ref po, .ref pi, .ref bu, .ref pa, .int mt, .int mh, .int 40, .int 0, .null, .int 0, .int 0])), (pi, .inr (4, [.int 0, .ref G.1, .int 0]))] sz)) 0 0 (va_A [(mo, .inr (16, [.int th, .ref gl, .ref po, .ref pi, .ref bu, .ref pa, .int mt, .int mh, .int 40, .int 0, .null, .int 0, .int 0])), (pi, .inr (4, [.int 0, .ref G.1, .int 0]))] sz) := by
  refine Met.ofW (cc := cX11_swing) (maxL := 4) (ret := (some .int)) (by decide) rfl ?_
  intro p e s m args below meth c s₁ B hml hv
  obtain ⟨rfl, hsz, hP, hK, hD0, hT, hZ⟩ := hv
  have hx := B.exec
  have hb := B.bytes
  have hr := B.returns
  have hts := atoms_spec (ws := wzX11_swing) B.pre
  have hown : s.vm.findClass RX11 = some m.cls := findClass_of_methodNamed B.named
  have hlocks := B.notSynchronized
  subst hsz
  have hD := hD0.self (sz := s.heap.size)
  generalize hAe : va_A [(mo, .inr (16, [.int th, .ref gl, .ref po, .ref pi, .ref bu, .ref pa, .int mt, .int mh, .int 40, .int 0, .null, .int 0, .int 0])), (pi, .inr (4, [.int 0, .ref G.1, .int 0]))] s.heap.size = A at hD hZ ⊢
  have hA : ∀ q : Nat, s.heap.size ≤ q → A q := fun q h => by rw [← hAe]; exact Or.inr h
  have hS : va_S A s.heap s.heap [] := va_S.rf
  have hl := lv_entry ([.ref mo, .int ii, .int jj, .int kk]) (n := 4) (Nat.le_of_ble_eq_true rfl)
  rw [lg_entry_eq]
  generalize (lg_sl ([.ref mo, .int ii, .int jj, .int kk]) ++ List.replicate (4 - (lg_sl ([.ref mo, .int ii, .int jj, .int kk])).length) Slot.unset).toArray = ls at hl ⊢
  have hl : lv_has ls 4 [(0, .ref mo), (1, .int ii), (2, .int jj), (3, .int kk)] := hl
  refine lv_aload_n hx hb dX11_swing_0 rfl (lv_at hl 0 rfl) ?_
  refine lv_iload_n hx hb dX11_swing_1 rfl (lv_at hl 1 rfl) ?_
  refine lv_iload_n hx hb dX11_swing_2 rfl (lv_at hl 2 rfl) ?_
  refine lv_iload_n hx hb dX11_swing_3 rfl (lv_at hl 3 rfl) ?_
  refine lv_iconst (v := 1) hx hb dX11_swing_4 (by decide) ?_
  refine lv_bipush (v := 30) hx hb dX11_swing_5 (by decide) ?_
  refine lv_iload_n hx hb dX11_swing_7 rfl (lv_at hl 3 rfl) ?_
  refine va_mmin hx hb (hml.trans hl.1.symm) hown (hts (.methodLink RX11 158 Lib.Math.min.name) (by decide +kernel)) (hts (.static Lib.Math.min.name) (by decide +kernel)) (hts (.initialized "java/lang/Math") (by decide +kernel)) (hts (.code Lib.Math.min.name Lib.Math.min.code 2 (some .int)) (by decide +kernel)) (Nat.le_of_ble_eq_true rfl) (Nat.le_of_ble_eq_true rfl) (Nat.le_of_ble_eq_true rfl) (Nat.le_of_ble_eq_true rfl) dX11_swing_8 ?_
  refine va_mmax hx hb (hml.trans hl.1.symm) hown (hts (.methodLink RX11 120 Lib.Math.max.name) (by decide +kernel)) (hts (.static Lib.Math.max.name) (by decide +kernel)) (hts (.initialized "java/lang/Math") (by decide +kernel)) (hts (.code Lib.Math.max.name Lib.Math.max.code 2 (some .int)) (by decide +kernel)) (Nat.le_of_ble_eq_true rfl) (Nat.le_of_ble_eq_true rfl) (Nat.le_of_ble_eq_true rfl) (Nat.le_of_ble_eq_true rfl) dX11_swing_11 ?_
  refine lv_iconst (v := 1) hx hb dX11_swing_14 (by decide) ?_
  refine lv_bipush (v := 115) hx hb dX11_swing_15 (by decide) ?_
  refine lv_bipush (v := 6) hx hb dX11_swing_17 (by decide) ?_
  have hFc := va_free (wc := [(mo, .inr (16, [.int th, .ref gl, .ref po, .ref pi, .ref bu, .ref pa, .int mt, .int mh, .int 40, .int 0, .null, .int 0, .int 0])), (pi, .inr (4, [.int 0, .ref G.1, .int 0]))]) hD hS hA [0, 1] rfl
  refine va_calli (va_runV (As := [.int ii, .int jj, .int kk, .int (if 1 < (if kk < 30 then kk else 30) then (if kk < 30 then kk else 30) else 1), .int 1, .int 115, .int 6]) (rest := []) ⟨hx, hb, hml, hown, hts⟩ (zc_X11_turns l D G mo gl po pi bu pa th mh mt ii jj kk (if 1 < (if kk < 30 then kk else 30) then (if kk < 30 then kk else 30) else 1) 1 115 6 s.heap.size) (cwV 7 hts gzX11_swing_X11_turns_250 rfl rfl rfl (by decide +kernel) ⟨(Nat.le_of_ble_eq_true rfl), (Nat.le_of_ble_eq_true rfl)⟩) ⟨p_RW_blind, va_recv hK hP (ci := 16) (q0 := 0) rfl rfl, (p_RW_at (tc := []) (wc := [(mo, .inr (16, [.int th, .ref gl, .ref po, .ref pi, .ref bu, .ref pa, .int mt, .int mh, .int 40, .int 0, .null, .int 0, .int 0])), (pi, .inr (4, [.int 0, .ref G.1, .int 0]))]) hP hK hD hS hA hT hZ [0, 1] [] rfl rfl (by decide) rfl [.ref mo, .int ii, .int jj, .int kk, .int (if 1 < (if kk < 30 then kk else 30) then (if kk < 30 then kk else 30) else 1), .int 1, .int 115, .int 6])⟩ rfl rfl hl.1 rfl (lv_room (Nat.le_of_ble_eq_true rfl)) dX11_swing_19 ⟨(Nat.le_of_ble_eq_true rfl), (Nat.le_of_ble_eq_true rfl)⟩) hS (fun q _ h => hFc q h) hFc (fun r_427 u t H locs ht hvm w_428 hB hz1 hk1 hS => ?_)
  obtain ⟨hP, hD, hK⟩ := q_join (D := D) (wc := [(mo, .inr (16, [.int th, .ref gl, .ref po, .ref pi, .ref bu, .ref pa, .int mt, .int mh, .int 40, .int 0, .null, .int 0, .int 0])), (pi, .inr (4, [.int 0, .ref G.1, .int 0]))]) (wr := []) (w1 := [(mo, .inr (16, [.int 1, .ref gl, .ref po, .ref pi, .ref bu, .ref pa, .int mt, .int mh, .int 40, .int 0, .null, .int 0, .int 0])), (pi, .inr (4, [.int 0, .ref G.1, .int 0]))]) (tyr := []) (ty1 := []) hP hD hK [0, 1] [] [] rfl rfl (by decide) (by decide) rfl hFc hk1 ht hvm hB
  have hP : va_P D vwCl [(mo, .inr (16, [.int 1, .ref gl, .ref po, .ref pi, .ref bu, .ref pa, .int mt, .int mh, .int 40, .int 0, .null, .int 0, .int 0])), (pi, .inr (4, [.int 0, .ref G.1, .int 0]))] H := hP
  have hD : va_D A [(mo, .inr (16, [.int 1, .ref gl, .ref po, .ref pi, .ref bu, .ref pa, .int mt, .int mh, .int 40, .int 0, .null, .int 0, .int 0])), (pi, .inr (4, [.int 0, .ref G.1, .int 0]))] := hD
  have hK : va_K D vwCl [] s := hK
  obtain rfl := w_428
  exact W.iret (v := 0) hx hb hr (fun t ht hW => ⟨⟨0, (), rfl, rfl, q_RW_mk hP hK hD [0, 1] [] rfl rfl (by decide) rfl ht hW.alike⟩, hS.F ht⟩) hS.2.2 dX11_swing_22
theorem dX11_neck_0 : decode cX11_neck 0 = .ok (.aload_n 0, 1) := by decide +kernel
theorem dX11_neck_1 : decode cX11_neck 1 = .ok (.iload_n 1, 1) := by decide +kernel
theorem dX11_neck_2 : decode cX11_neck 2 = .ok (.iload_n 2, 1) := by decide +kernel
theorem dX11_neck_3 : decode cX11_neck 3 = .ok (.iload_n 3, 1) := by decide +kernel
theorem dX11_neck_4 : decode cX11_neck 4 = .ok (.iconst 1, 1) := by decide +kernel
theorem dX11_neck_5 : decode cX11_neck 5 = .ok (.bipush 30, 2) := by decide +kernel
theorem dX11_neck_7 : decode cX11_neck 7 = .ok (.iload_n 3, 1) := by decide +kernel
theorem dX11_neck_8 : decode cX11_neck 8 = .ok (.invokestatic 158, 3) := by decide +kernel
theorem dX11_neck_11 : decode cX11_neck 11 = .ok (.invokestatic 120, 3) := by decide +kernel
theorem dX11_neck_14 : decode cX11_neck 14 = .ok (.ineg, 1) := by decide +kernel
theorem dX11_neck_15 : decode cX11_neck 15 = .ok (.iconst 0, 1) := by decide +kernel
theorem dX11_neck_16 : decode cX11_neck 16 = .ok (.bipush 102, 2) := by decide +kernel
theorem dX11_neck_18 : decode cX11_neck 18 = .ok (.bipush 10, 2) := by decide +kernel
theorem dX11_neck_20 : decode cX11_neck 20 = .ok (.invokevirtual 250, 3) := by decide +kernel
theorem dX11_neck_23 : decode cX11_neck 23 = .ok (.ireturn, 1) := by decide +kernel
def wzEX11_neck : List Cond := [.code yX11_neck cX11_neck 4 (some .int), .methodLink RX11 158 Lib.Math.min.name, .static Lib.Math.min.name, .initialized "java/lang/Math", .code Lib.Math.min.name Lib.Math.min.code 2 (some .int), .methodLink RX11 120 Lib.Math.max.name, .static Lib.Math.max.name, .code Lib.Math.max.name Lib.Math.max.code 2 (some .int), .methodLink RX11 250 yX11_turns, .instanceMethod yX11_turns, .selects RX11 yX11_turns yX11_turns, .initialized RX11, .code yX11_turns cX11_turns 12 (some .int), .methodLink RX11 223 yX11_noRing, .instanceMethod yX11_noRing, .selects RX11 yX11_noRing yX11_noRing, .code yX11_noRing cX11_noRing 3 (some .boolean), .methodLink RX11 51 yX11_noPiece, .instanceMethod yX11_noPiece, .selects RX11 yX11_noPiece yX11_noPiece, .code yX11_noPiece cX11_noPiece 2 (some .boolean), .fieldLink RX11 19 "GatherhouseModel" "pieces" "Ljava/util/ArrayList;", .methodLink RX11 44 yJx4a65c_size_8abf5, .instanceMethod yJx4a65c_size_8abf5, .selects RJx4a65c yJx4a65c_size_8abf5 yJx4a65c_size_8abf5, .initialized RJx4a65c, .code yJx4a65c_size_8abf5 cJx4a65c_size_8abf5 1 (some .int), .fieldLink RJx4a65c 48 "java/util/ArrayList" "size" "I", .methodLink RX11 47 yX11_in, .static yX11_in, .code yX11_in cX11_in 3 (some .boolean), .fieldLink RX11 41 "GatherhouseModel" "thrown" "I"]
def wzX11_neck : List Cond := wzEX11_neck ++ (u_ws RX11 TX11 13 ++ (u_ws RJx4a65c TJx4a65c 3))
theorem zgEX11_neck : wzEX11_neck.all goodWord = true := by decide +kernel
theorem zuX11_neck_X11 : ∀ w ∈ u_ws RX11 TX11 13, w ∈ wzX11_neck := (fun _ h => (List.mem_append_right _ (List.mem_append_left _ h)))
theorem zuX11_neck_Jx4a65c : ∀ w ∈ u_ws RJx4a65c TJx4a65c 3, w ∈ wzX11_neck := (fun _ h => (List.mem_append_right _ (List.mem_append_right _ h)))
theorem gzX11_neck_X11_turns_250 : GoodIn wzX11_neck (wsV RX11 250 RX11 yX11_turns wzX11_turns) := (goodIn_app (z_lift (goodIn_r _ [8, 9, 10, 11] rfl (by decide +kernel))) (goodIn_app (z_lift (goodIn_r wzEX11_turns [12, 13, 14, 15, 11, 16, 17, 18, 19, 20, 21, 22, 23, 24, 25, 26, 27, 28, 29, 30, 31] rfl zgEX11_turns)) (goodIn_app (goodIn_sub (fun _ h => (List.mem_append_right _ (List.mem_append_left _ h))) zgU_X11) (goodIn_sub (fun _ h => (List.mem_append_right _ (List.mem_append_right _ h))) zgU_Jx4a65c))))
set_option maxHeartbeats 4000000 in
set_option maxRecDepth 100000 in
theorem zc_X11_neck (l : Launch) (D : va_G) (G : Nat × Nat × Nat) (mo : Nat) (gl : Nat) (po : Nat) (pi : Nat) (bu : Nat) (pa : Nat) (th : Int32) (mh : Int32) (mt : Int32) (ii : Int32) (jj : Int32) (kk : Int32) (sz : Nat) : Met l yX11_neck wzX11_neck ({ frames := 4, cells := 0, slots := 0, locals := 96 }) (va_Pc [.ref mo, .int ii, .int jj, .int kk] (p_RW D G [] [(mo, .inr (16, [.int th, .ref gl, .ref po, .ref pi, .ref bu, .ref pa, .int mt, .int mh, .int 40, .int 0, .null, .int 0, .int 0])), (pi, .inr (4, [.int 0, .ref G.1, .int 0]))] sz)) (va_Qi (fun (r : Int32) (u : Unit) => r = 0) (fun (u : Unit) (t : State) => q_RW D [] [(mo, .inr (16, [.int 1, .ref gl, .ref po, .ref pi, .ref bu, .ref pa, .int mt, .int mh, .int 40, .int 0, .null, .int 0, .int 0])), (pi, .inr (4, [.int 0, .ref G.1, .int 0]))] (va_A [(mo, .inr (16, [.int th, .ref gl, .ref po, .ref pi, .ref bu, .ref pa, .int mt, .int mh, .int 40, .int 0, .null, .int 0, .int 0])), (pi, .inr (4, [.int 0, .ref G.1, .int 0]))] sz) t) (va_A [(mo, .inr (16, [.int th, .ref gl, .ref po, .ref pi, .ref bu, .ref pa, .int mt, .int mh, .int 40, .int 0, .null, .int 0, .int 0])), (pi, .inr (4, [.int 0, .ref G.1, .int 0]))] sz)) 0 0 (va_A [(mo, .inr (16, [.int th, .ref gl, .ref po, .ref pi, .ref bu, .ref pa, .int mt, .int mh, .int 40, .int 0, .null, .int 0, .int 0])), (pi, .inr (4, [.int 0, .ref G.1, .int 0]))] sz) := by
  refine Met.ofW (cc := cX11_neck) (maxL := 4) (ret := (some .int)) (by decide) rfl ?_
  intro p e s m args below meth c s₁ B hml hv
  obtain ⟨rfl, hsz, hP, hK, hD0, hT, hZ⟩ := hv
  have hx := B.exec
  have hb := B.bytes
  have hr := B.returns
  have hts := atoms_spec (ws := wzX11_neck) B.pre
  have hown : s.vm.findClass RX11 = some m.cls := findClass_of_methodNamed B.named
  have hlocks := B.notSynchronized
  subst hsz
  have hD := hD0.self (sz := s.heap.size)
  generalize hAe : va_A [(mo, .inr (16, [.int th, .ref gl, .ref po, .ref pi, .ref bu, .ref pa, .int mt, .int mh, .int 40, .int 0, .null, .int 0, .int 0])), (pi, .inr (4, [.int 0, .ref G.1, .int 0]))] s.heap.size = A at hD hZ ⊢
  have hA : ∀ q : Nat, s.heap.size ≤ q → A q := fun q h => by rw [← hAe]; exact Or.inr h
  have hS : va_S A s.heap s.heap [] := va_S.rf
  have hl := lv_entry ([.ref mo, .int ii, .int jj, .int kk]) (n := 4) (Nat.le_of_ble_eq_true rfl)
  rw [lg_entry_eq]
  generalize (lg_sl ([.ref mo, .int ii, .int jj, .int kk]) ++ List.replicate (4 - (lg_sl ([.ref mo, .int ii, .int jj, .int kk])).length) Slot.unset).toArray = ls at hl ⊢
  have hl : lv_has ls 4 [(0, .ref mo), (1, .int ii), (2, .int jj), (3, .int kk)] := hl
  refine lv_aload_n hx hb dX11_neck_0 rfl (lv_at hl 0 rfl) ?_
  refine lv_iload_n hx hb dX11_neck_1 rfl (lv_at hl 1 rfl) ?_
  refine lv_iload_n hx hb dX11_neck_2 rfl (lv_at hl 2 rfl) ?_
  refine lv_iload_n hx hb dX11_neck_3 rfl (lv_at hl 3 rfl) ?_
  refine lv_iconst (v := 1) hx hb dX11_neck_4 (by decide) ?_
  refine lv_bipush (v := 30) hx hb dX11_neck_5 (by decide) ?_
  refine lv_iload_n hx hb dX11_neck_7 rfl (lv_at hl 3 rfl) ?_
  refine va_mmin hx hb (hml.trans hl.1.symm) hown (hts (.methodLink RX11 158 Lib.Math.min.name) (by decide +kernel)) (hts (.static Lib.Math.min.name) (by decide +kernel)) (hts (.initialized "java/lang/Math") (by decide +kernel)) (hts (.code Lib.Math.min.name Lib.Math.min.code 2 (some .int)) (by decide +kernel)) (Nat.le_of_ble_eq_true rfl) (Nat.le_of_ble_eq_true rfl) (Nat.le_of_ble_eq_true rfl) (Nat.le_of_ble_eq_true rfl) dX11_neck_8 ?_
  refine va_mmax hx hb (hml.trans hl.1.symm) hown (hts (.methodLink RX11 120 Lib.Math.max.name) (by decide +kernel)) (hts (.static Lib.Math.max.name) (by decide +kernel)) (hts (.initialized "java/lang/Math") (by decide +kernel)) (hts (.code Lib.Math.max.name Lib.Math.max.code 2 (some .int)) (by decide +kernel)) (Nat.le_of_ble_eq_true rfl) (Nat.le_of_ble_eq_true rfl) (Nat.le_of_ble_eq_true rfl) (Nat.le_of_ble_eq_true rfl) dX11_neck_11 ?_
  refine lv_ineg hx hb dX11_neck_14 ?_
  refine lv_iconst (v := 0) hx hb dX11_neck_15 (by decide) ?_
  refine lv_bipush (v := 102) hx hb dX11_neck_16 (by decide) ?_
  refine lv_bipush (v := 10) hx hb dX11_neck_18 (by decide) ?_
  have hFc := va_free (wc := [(mo, .inr (16, [.int th, .ref gl, .ref po, .ref pi, .ref bu, .ref pa, .int mt, .int mh, .int 40, .int 0, .null, .int 0, .int 0])), (pi, .inr (4, [.int 0, .ref G.1, .int 0]))]) hD hS hA [0, 1] rfl
  refine va_calli (va_runV (As := [.int ii, .int jj, .int kk, .int (-(if 1 < (if kk < 30 then kk else 30) then (if kk < 30 then kk else 30) else 1)), .int 0, .int 102, .int 10]) (rest := []) ⟨hx, hb, hml, hown, hts⟩ (zc_X11_turns l D G mo gl po pi bu pa th mh mt ii jj kk (-(if 1 < (if kk < 30 then kk else 30) then (if kk < 30 then kk else 30) else 1)) 0 102 10 s.heap.size) (cwV 7 hts gzX11_neck_X11_turns_250 rfl rfl rfl (by decide +kernel) ⟨(Nat.le_of_ble_eq_true rfl), (Nat.le_of_ble_eq_true rfl)⟩) ⟨p_RW_blind, va_recv hK hP (ci := 16) (q0 := 0) rfl rfl, (p_RW_at (tc := []) (wc := [(mo, .inr (16, [.int th, .ref gl, .ref po, .ref pi, .ref bu, .ref pa, .int mt, .int mh, .int 40, .int 0, .null, .int 0, .int 0])), (pi, .inr (4, [.int 0, .ref G.1, .int 0]))]) hP hK hD hS hA hT hZ [0, 1] [] rfl rfl (by decide) rfl [.ref mo, .int ii, .int jj, .int kk, .int (-(if 1 < (if kk < 30 then kk else 30) then (if kk < 30 then kk else 30) else 1)), .int 0, .int 102, .int 10])⟩ rfl rfl hl.1 rfl (lv_room (Nat.le_of_ble_eq_true rfl)) dX11_neck_20 ⟨(Nat.le_of_ble_eq_true rfl), (Nat.le_of_ble_eq_true rfl)⟩) hS (fun q _ h => hFc q h) hFc (fun r_429 u t H locs ht hvm w_430 hB hz1 hk1 hS => ?_)
  obtain ⟨hP, hD, hK⟩ := q_join (D := D) (wc := [(mo, .inr (16, [.int th, .ref gl, .ref po, .ref pi, .ref bu, .ref pa, .int mt, .int mh, .int 40, .int 0, .null, .int 0, .int 0])), (pi, .inr (4, [.int 0, .ref G.1, .int 0]))]) (wr := []) (w1 := [(mo, .inr (16, [.int 1, .ref gl, .ref po, .ref pi, .ref bu, .ref pa, .int mt, .int mh, .int 40, .int 0, .null, .int 0, .int 0])), (pi, .inr (4, [.int 0, .ref G.1, .int 0]))]) (tyr := []) (ty1 := []) hP hD hK [0, 1] [] [] rfl rfl (by decide) (by decide) rfl hFc hk1 ht hvm hB
  have hP : va_P D vwCl [(mo, .inr (16, [.int 1, .ref gl, .ref po, .ref pi, .ref bu, .ref pa, .int mt, .int mh, .int 40, .int 0, .null, .int 0, .int 0])), (pi, .inr (4, [.int 0, .ref G.1, .int 0]))] H := hP
  have hD : va_D A [(mo, .inr (16, [.int 1, .ref gl, .ref po, .ref pi, .ref bu, .ref pa, .int mt, .int mh, .int 40, .int 0, .null, .int 0, .int 0])), (pi, .inr (4, [.int 0, .ref G.1, .int 0]))] := hD
  have hK : va_K D vwCl [] s := hK
  obtain rfl := w_430
  exact W.iret (v := 0) hx hb hr (fun t ht hW => ⟨⟨0, (), rfl, rfl, q_RW_mk hP hK hD [0, 1] [] rfl rfl (by decide) rfl ht hW.alike⟩, hS.F ht⟩) hS.2.2 dX11_neck_23
theorem dX11_split_0 : decode cX11_split 0 = .ok (.aload_n 0, 1) := by decide +kernel
theorem dX11_split_1 : decode cX11_split 1 = .ok (.iload_n 1, 1) := by decide +kernel
theorem dX11_split_2 : decode cX11_split 2 = .ok (.iload_n 2, 1) := by decide +kernel
theorem dX11_split_3 : decode cX11_split 3 = .ok (.invokevirtual 223, 3) := by decide +kernel
theorem dX11_split_6 : decode cX11_split 6 = .ok (.ifCond .eq 5, 3) := by decide +kernel
theorem dX11_split_9 : decode cX11_split 9 = .ok (.iconst 0, 1) := by decide +kernel
theorem dX11_split_10 : decode cX11_split 10 = .ok (.ireturn, 1) := by decide +kernel
def wzEX11_split : List Cond := [.code yX11_split cX11_split 6 (some .int), .methodLink RX11 223 yX11_noRing, .instanceMethod yX11_noRing, .selects RX11 yX11_noRing yX11_noRing, .initialized RX11, .code yX11_noRing cX11_noRing 3 (some .boolean), .methodLink RX11 51 yX11_noPiece, .instanceMethod yX11_noPiece, .selects RX11 yX11_noPiece yX11_noPiece, .code yX11_noPiece cX11_noPiece 2 (some .boolean), .fieldLink RX11 19 "GatherhouseModel" "pieces" "Ljava/util/ArrayList;", .methodLink RX11 44 yJx4a65c_size_8abf5, .instanceMethod yJx4a65c_size_8abf5, .selects RJx4a65c yJx4a65c_size_8abf5 yJx4a65c_size_8abf5, .initialized RJx4a65c, .code yJx4a65c_size_8abf5 cJx4a65c_size_8abf5 1 (some .int), .fieldLink RJx4a65c 48 "java/util/ArrayList" "size" "I", .methodLink RX11 47 yX11_in, .static yX11_in, .code yX11_in cX11_in 3 (some .boolean), .fieldLink RX11 41 "GatherhouseModel" "thrown" "I"]
def wzX11_split : List Cond := wzEX11_split ++ (u_ws RX11 TX11 13 ++ (u_ws RJx4a65c TJx4a65c 3))
theorem zgEX11_split : wzEX11_split.all goodWord = true := by decide +kernel
theorem zuX11_split_X11 : ∀ w ∈ u_ws RX11 TX11 13, w ∈ wzX11_split := (fun _ h => (List.mem_append_right _ (List.mem_append_left _ h)))
theorem zuX11_split_Jx4a65c : ∀ w ∈ u_ws RJx4a65c TJx4a65c 3, w ∈ wzX11_split := (fun _ h => (List.mem_append_right _ (List.mem_append_right _ h)))
theorem gzX11_split_X11_noRing_223 : GoodIn wzX11_split (wsV RX11 223 RX11 yX11_noRing wzX11_noRing) := (goodIn_app (z_lift (goodIn_r _ [1, 2, 3, 4] rfl (by decide +kernel))) (goodIn_app (z_lift (goodIn_r wzEX11_noRing [5, 6, 7, 8, 4, 9, 10, 11, 12, 13, 14, 15, 16, 17, 18, 19, 20] rfl zgEX11_noRing)) (goodIn_app (goodIn_sub (fun _ h => (List.mem_append_right _ (List.mem_append_left _ h))) zgU_X11) (goodIn_sub (fun _ h => (List.mem_append_right _ (List.mem_append_right _ h))) zgU_Jx4a65c))))
set_option maxHeartbeats 4000000 in
set_option maxRecDepth 100000 in
theorem zc_X11_split (l : Launch) (D : va_G) (G : Nat × Nat × Nat) (mo : Nat) (gl : Nat) (po : Nat) (pi : Nat) (bu : Nat) (pa : Nat) (th : Int32) (mh : Int32) (mt : Int32) (ii : Int32) (jj : Int32) (sz : Nat) : Met l yX11_split wzX11_split ({ frames := 3, cells := 0, slots := 0, locals := 65 }) (va_Pc [.ref mo, .int ii, .int jj] (p_RW D G [] [(mo, .inr (16, [.int th, .ref gl, .ref po, .ref pi, .ref bu, .ref pa, .int mt, .int mh, .int 40, .int 0, .null, .int 0, .int 0])), (pi, .inr (4, [.int 0, .ref G.1, .int 0]))] sz)) (va_Qi (fun (r : Int32) (u : Unit) => r = 0) (fun (u : Unit) (t : State) => q_RW D [] [(mo, .inr (16, [.int 1, .ref gl, .ref po, .ref pi, .ref bu, .ref pa, .int mt, .int mh, .int 40, .int 0, .null, .int 0, .int 0])), (pi, .inr (4, [.int 0, .ref G.1, .int 0]))] (va_A [(mo, .inr (16, [.int th, .ref gl, .ref po, .ref pi, .ref bu, .ref pa, .int mt, .int mh, .int 40, .int 0, .null, .int 0, .int 0])), (pi, .inr (4, [.int 0, .ref G.1, .int 0]))] sz) t) (va_A [(mo, .inr (16, [.int th, .ref gl, .ref po, .ref pi, .ref bu, .ref pa, .int mt, .int mh, .int 40, .int 0, .null, .int 0, .int 0])), (pi, .inr (4, [.int 0, .ref G.1, .int 0]))] sz)) 0 0 (va_A [(mo, .inr (16, [.int th, .ref gl, .ref po, .ref pi, .ref bu, .ref pa, .int mt, .int mh, .int 40, .int 0, .null, .int 0, .int 0])), (pi, .inr (4, [.int 0, .ref G.1, .int 0]))] sz) := by
  refine Met.ofW (cc := cX11_split) (maxL := 6) (ret := (some .int)) (by decide) rfl ?_
  intro p e s m args below meth c s₁ B hml hv
  obtain ⟨rfl, hsz, hP, hK, hD0, hT, hZ⟩ := hv
  have hx := B.exec
  have hb := B.bytes
  have hr := B.returns
  have hts := atoms_spec (ws := wzX11_split) B.pre
  have hown : s.vm.findClass RX11 = some m.cls := findClass_of_methodNamed B.named
  have hlocks := B.notSynchronized
  subst hsz
  have hD := hD0.self (sz := s.heap.size)
  generalize hAe : va_A [(mo, .inr (16, [.int th, .ref gl, .ref po, .ref pi, .ref bu, .ref pa, .int mt, .int mh, .int 40, .int 0, .null, .int 0, .int 0])), (pi, .inr (4, [.int 0, .ref G.1, .int 0]))] s.heap.size = A at hD hZ ⊢
  have hA : ∀ q : Nat, s.heap.size ≤ q → A q := fun q h => by rw [← hAe]; exact Or.inr h
  have hS : va_S A s.heap s.heap [] := va_S.rf
  have hl := lv_entry ([.ref mo, .int ii, .int jj]) (n := 6) (Nat.le_of_ble_eq_true rfl)
  rw [lg_entry_eq]
  generalize (lg_sl ([.ref mo, .int ii, .int jj]) ++ List.replicate (6 - (lg_sl ([.ref mo, .int ii, .int jj])).length) Slot.unset).toArray = ls at hl ⊢
  have hl : lv_has ls 6 [(0, .ref mo), (1, .int ii), (2, .int jj)] := hl
  refine lv_aload_n hx hb dX11_split_0 rfl (lv_at hl 0 rfl) ?_
  refine lv_iload_n hx hb dX11_split_1 rfl (lv_at hl 1 rfl) ?_
  refine lv_iload_n hx hb dX11_split_2 rfl (lv_at hl 2 rfl) ?_
  have hFc := va_free (wc := [(mo, .inr (16, [.int th, .ref gl, .ref po, .ref pi, .ref bu, .ref pa, .int mt, .int mh, .int 40, .int 0, .null, .int 0, .int 0])), (pi, .inr (4, [.int 0, .ref G.1, .int 0]))]) hD hS hA [0, 1] rfl
  refine va_calli (va_runV (As := [.int ii, .int jj]) (rest := []) ⟨hx, hb, hml, hown, hts⟩ (zc_X11_noRing l D G mo gl po pi bu pa th mh mt ii jj s.heap.size) (cwV 2 hts gzX11_split_X11_noRing_223 rfl rfl rfl (by decide +kernel) ⟨(Nat.le_of_ble_eq_true rfl), (Nat.le_of_ble_eq_true rfl)⟩) ⟨p_RW_blind, va_recv hK hP (ci := 16) (q0 := 0) rfl rfl, (p_RW_at (tc := []) (wc := [(mo, .inr (16, [.int th, .ref gl, .ref po, .ref pi, .ref bu, .ref pa, .int mt, .int mh, .int 40, .int 0, .null, .int 0, .int 0])), (pi, .inr (4, [.int 0, .ref G.1, .int 0]))]) hP hK hD hS hA hT hZ [0, 1] [] rfl rfl (by decide) rfl [.ref mo, .int ii, .int jj])⟩ rfl rfl hl.1 rfl (lv_room (Nat.le_of_ble_eq_true rfl)) dX11_split_3 ⟨(Nat.le_of_ble_eq_true rfl), (Nat.le_of_ble_eq_true rfl)⟩) hS (fun q _ h => hFc q h) hFc (fun r_431 u t H locs ht hvm w_432 hB hz1 hk1 hS => ?_)
  obtain ⟨hP, hD, hK⟩ := q_join (D := D) (wc := [(mo, .inr (16, [.int th, .ref gl, .ref po, .ref pi, .ref bu, .ref pa, .int mt, .int mh, .int 40, .int 0, .null, .int 0, .int 0])), (pi, .inr (4, [.int 0, .ref G.1, .int 0]))]) (wr := []) (w1 := [(mo, .inr (16, [.int 1, .ref gl, .ref po, .ref pi, .ref bu, .ref pa, .int mt, .int mh, .int 40, .int 0, .null, .int 0, .int 0])), (pi, .inr (4, [.int 0, .ref G.1, .int 0]))]) (tyr := []) (ty1 := []) hP hD hK [0, 1] [] [] rfl rfl (by decide) (by decide) rfl hFc hk1 ht hvm hB
  have hP : va_P D vwCl [(mo, .inr (16, [.int 1, .ref gl, .ref po, .ref pi, .ref bu, .ref pa, .int mt, .int mh, .int 40, .int 0, .null, .int 0, .int 0])), (pi, .inr (4, [.int 0, .ref G.1, .int 0]))] H := hP
  have hD : va_D A [(mo, .inr (16, [.int 1, .ref gl, .ref po, .ref pi, .ref bu, .ref pa, .int mt, .int mh, .int 40, .int 0, .null, .int 0, .int 0])), (pi, .inr (4, [.int 0, .ref G.1, .int 0]))] := hD
  have hK : va_K D vwCl [] s := hK
  obtain rfl := w_432
  refine lv_if_eq (tgt := 11) hx hb dX11_split_6 (by decide) (fun cc => absurd cc (by decide)) (fun _ => ?_)
  refine lv_iconst (v := 0) hx hb dX11_split_9 (by decide) ?_
  exact W.iret (v := 0) hx hb hr (fun t ht hW => ⟨⟨0, (), rfl, rfl, q_RW_mk hP hK hD [0, 1] [] rfl rfl (by decide) rfl ht hW.alike⟩, hS.F ht⟩) hS.2.2 dX11_split_10
theorem dX11_shear_0 : decode cX11_shear 0 = .ok (.aload_n 0, 1) := by decide +kernel
theorem dX11_shear_1 : decode cX11_shear 1 = .ok (.iload_n 1, 1) := by decide +kernel
theorem dX11_shear_2 : decode cX11_shear 2 = .ok (.invokevirtual 51, 3) := by decide +kernel
theorem dX11_shear_5 : decode cX11_shear 5 = .ok (.ifCond .eq 5, 3) := by decide +kernel
theorem dX11_shear_8 : decode cX11_shear 8 = .ok (.iconst 0, 1) := by decide +kernel
theorem dX11_shear_9 : decode cX11_shear 9 = .ok (.ireturn, 1) := by decide +kernel
def wzEX11_shear : List Cond := [.code yX11_shear cX11_shear 5 (some .int), .methodLink RX11 51 yX11_noPiece, .instanceMethod yX11_noPiece, .selects RX11 yX11_noPiece yX11_noPiece, .initialized RX11, .code yX11_noPiece cX11_noPiece 2 (some .boolean), .fieldLink RX11 19 "GatherhouseModel" "pieces" "Ljava/util/ArrayList;", .methodLink RX11 44 yJx4a65c_size_8abf5, .instanceMethod yJx4a65c_size_8abf5, .selects RJx4a65c yJx4a65c_size_8abf5 yJx4a65c_size_8abf5, .initialized RJx4a65c, .code yJx4a65c_size_8abf5 cJx4a65c_size_8abf5 1 (some .int), .fieldLink RJx4a65c 48 "java/util/ArrayList" "size" "I", .methodLink RX11 47 yX11_in, .static yX11_in, .code yX11_in cX11_in 3 (some .boolean), .fieldLink RX11 41 "GatherhouseModel" "thrown" "I"]
def wzX11_shear : List Cond := wzEX11_shear ++ (u_ws RX11 TX11 13 ++ (u_ws RJx4a65c TJx4a65c 3))
theorem zgEX11_shear : wzEX11_shear.all goodWord = true := by decide +kernel
theorem zuX11_shear_X11 : ∀ w ∈ u_ws RX11 TX11 13, w ∈ wzX11_shear := (fun _ h => (List.mem_append_right _ (List.mem_append_left _ h)))
theorem zuX11_shear_Jx4a65c : ∀ w ∈ u_ws RJx4a65c TJx4a65c 3, w ∈ wzX11_shear := (fun _ h => (List.mem_append_right _ (List.mem_append_right _ h)))
theorem gzX11_shear_X11_noPiece_51 : GoodIn wzX11_shear (wsV RX11 51 RX11 yX11_noPiece wzX11_noPiece) := (goodIn_app (z_lift (goodIn_r _ [1, 2, 3, 4] rfl (by decide +kernel))) (goodIn_app (z_lift (goodIn_r wzEX11_noPiece [5, 6, 7, 8, 9, 10, 11, 12, 13, 14, 4, 15, 16] rfl zgEX11_noPiece)) (goodIn_app (goodIn_sub (fun _ h => (List.mem_append_right _ (List.mem_append_left _ h))) zgU_X11) (goodIn_sub (fun _ h => (List.mem_append_right _ (List.mem_append_right _ h))) zgU_Jx4a65c))))
set_option maxHeartbeats 4000000 in
set_option maxRecDepth 100000 in
theorem zc_X11_shear (l : Launch) (D : va_G) (G : Nat × Nat × Nat) (mo : Nat) (gl : Nat) (po : Nat) (pi : Nat) (bu : Nat) (pa : Nat) (th : Int32) (mh : Int32) (mt : Int32) (ii : Int32) (sz : Nat) : Met l yX11_shear wzX11_shear ({ frames := 2, cells := 0, slots := 0, locals := 43 }) (va_Pc [.ref mo, .int ii] (p_RW D G [] [(mo, .inr (16, [.int th, .ref gl, .ref po, .ref pi, .ref bu, .ref pa, .int mt, .int mh, .int 40, .int 0, .null, .int 0, .int 0])), (pi, .inr (4, [.int 0, .ref G.1, .int 0]))] sz)) (va_Qi (fun (r : Int32) (u : Unit) => r = 0) (fun (u : Unit) (t : State) => q_RW D [] [(mo, .inr (16, [.int 1, .ref gl, .ref po, .ref pi, .ref bu, .ref pa, .int mt, .int mh, .int 40, .int 0, .null, .int 0, .int 0])), (pi, .inr (4, [.int 0, .ref G.1, .int 0]))] (va_A [(mo, .inr (16, [.int th, .ref gl, .ref po, .ref pi, .ref bu, .ref pa, .int mt, .int mh, .int 40, .int 0, .null, .int 0, .int 0])), (pi, .inr (4, [.int 0, .ref G.1, .int 0]))] sz) t) (va_A [(mo, .inr (16, [.int th, .ref gl, .ref po, .ref pi, .ref bu, .ref pa, .int mt, .int mh, .int 40, .int 0, .null, .int 0, .int 0])), (pi, .inr (4, [.int 0, .ref G.1, .int 0]))] sz)) 0 0 (va_A [(mo, .inr (16, [.int th, .ref gl, .ref po, .ref pi, .ref bu, .ref pa, .int mt, .int mh, .int 40, .int 0, .null, .int 0, .int 0])), (pi, .inr (4, [.int 0, .ref G.1, .int 0]))] sz) := by
  refine Met.ofW (cc := cX11_shear) (maxL := 5) (ret := (some .int)) (by decide) rfl ?_
  intro p e s m args below meth c s₁ B hml hv
  obtain ⟨rfl, hsz, hP, hK, hD0, hT, hZ⟩ := hv
  have hx := B.exec
  have hb := B.bytes
  have hr := B.returns
  have hts := atoms_spec (ws := wzX11_shear) B.pre
  have hown : s.vm.findClass RX11 = some m.cls := findClass_of_methodNamed B.named
  have hlocks := B.notSynchronized
  subst hsz
  have hD := hD0.self (sz := s.heap.size)
  generalize hAe : va_A [(mo, .inr (16, [.int th, .ref gl, .ref po, .ref pi, .ref bu, .ref pa, .int mt, .int mh, .int 40, .int 0, .null, .int 0, .int 0])), (pi, .inr (4, [.int 0, .ref G.1, .int 0]))] s.heap.size = A at hD hZ ⊢
  have hA : ∀ q : Nat, s.heap.size ≤ q → A q := fun q h => by rw [← hAe]; exact Or.inr h
  have hS : va_S A s.heap s.heap [] := va_S.rf
  have hl := lv_entry ([.ref mo, .int ii]) (n := 5) (Nat.le_of_ble_eq_true rfl)
  rw [lg_entry_eq]
  generalize (lg_sl ([.ref mo, .int ii]) ++ List.replicate (5 - (lg_sl ([.ref mo, .int ii])).length) Slot.unset).toArray = ls at hl ⊢
  have hl : lv_has ls 5 [(0, .ref mo), (1, .int ii)] := hl
  refine lv_aload_n hx hb dX11_shear_0 rfl (lv_at hl 0 rfl) ?_
  refine lv_iload_n hx hb dX11_shear_1 rfl (lv_at hl 1 rfl) ?_
  have hFc := va_free (wc := [(mo, .inr (16, [.int th, .ref gl, .ref po, .ref pi, .ref bu, .ref pa, .int mt, .int mh, .int 40, .int 0, .null, .int 0, .int 0])), (pi, .inr (4, [.int 0, .ref G.1, .int 0]))]) hD hS hA [0, 1] rfl
  refine va_calli (va_runV (As := [.int ii]) (rest := []) ⟨hx, hb, hml, hown, hts⟩ (zc_X11_noPiece l D G mo gl po pi bu pa th mh mt ii s.heap.size) (cwV 1 hts gzX11_shear_X11_noPiece_51 rfl rfl rfl (by decide +kernel) ⟨(Nat.le_of_ble_eq_true rfl), (Nat.le_of_ble_eq_true rfl)⟩) ⟨p_RW_blind, va_recv hK hP (ci := 16) (q0 := 0) rfl rfl, (p_RW_at (tc := []) (wc := [(mo, .inr (16, [.int th, .ref gl, .ref po, .ref pi, .ref bu, .ref pa, .int mt, .int mh, .int 40, .int 0, .null, .int 0, .int 0])), (pi, .inr (4, [.int 0, .ref G.1, .int 0]))]) hP hK hD hS hA hT hZ [0, 1] [] rfl rfl (by decide) rfl [.ref mo, .int ii])⟩ rfl rfl hl.1 rfl (lv_room (Nat.le_of_ble_eq_true rfl)) dX11_shear_2 ⟨(Nat.le_of_ble_eq_true rfl), (Nat.le_of_ble_eq_true rfl)⟩) hS (fun q _ h => hFc q h) hFc (fun r_433 u t H locs ht hvm w_434 hB hz1 hk1 hS => ?_)
  obtain ⟨hP, hD, hK⟩ := q_join (D := D) (wc := [(mo, .inr (16, [.int th, .ref gl, .ref po, .ref pi, .ref bu, .ref pa, .int mt, .int mh, .int 40, .int 0, .null, .int 0, .int 0])), (pi, .inr (4, [.int 0, .ref G.1, .int 0]))]) (wr := []) (w1 := [(mo, .inr (16, [.int 1, .ref gl, .ref po, .ref pi, .ref bu, .ref pa, .int mt, .int mh, .int 40, .int 0, .null, .int 0, .int 0])), (pi, .inr (4, [.int 0, .ref G.1, .int 0]))]) (tyr := []) (ty1 := []) hP hD hK [0, 1] [] [] rfl rfl (by decide) (by decide) rfl hFc hk1 ht hvm hB
  have hP : va_P D vwCl [(mo, .inr (16, [.int 1, .ref gl, .ref po, .ref pi, .ref bu, .ref pa, .int mt, .int mh, .int 40, .int 0, .null, .int 0, .int 0])), (pi, .inr (4, [.int 0, .ref G.1, .int 0]))] H := hP
  have hD : va_D A [(mo, .inr (16, [.int 1, .ref gl, .ref po, .ref pi, .ref bu, .ref pa, .int mt, .int mh, .int 40, .int 0, .null, .int 0, .int 0])), (pi, .inr (4, [.int 0, .ref G.1, .int 0]))] := hD
  have hK : va_K D vwCl [] s := hK
  obtain rfl := w_434
  refine lv_if_eq (tgt := 10) hx hb dX11_shear_5 (by decide) (fun cc => absurd cc (by decide)) (fun _ => ?_)
  refine lv_iconst (v := 0) hx hb dX11_shear_8 (by decide) ?_
  exact W.iret (v := 0) hx hb hr (fun t ht hW => ⟨⟨0, (), rfl, rfl, q_RW_mk hP hK hD [0, 1] [] rfl rfl (by decide) rfl ht hW.alike⟩, hS.F ht⟩) hS.2.2 dX11_shear_9
theorem dX11_crack_0 : decode cX11_crack 0 = .ok (.aload_n 0, 1) := by decide +kernel
theorem dX11_crack_1 : decode cX11_crack 1 = .ok (.iload_n 1, 1) := by decide +kernel
theorem dX11_crack_2 : decode cX11_crack 2 = .ok (.invokevirtual 51, 3) := by decide +kernel
theorem dX11_crack_5 : decode cX11_crack 5 = .ok (.ifCond .eq 5, 3) := by decide +kernel
theorem dX11_crack_8 : decode cX11_crack 8 = .ok (.iconst 0, 1) := by decide +kernel
theorem dX11_crack_9 : decode cX11_crack 9 = .ok (.ireturn, 1) := by decide +kernel
def wzEX11_crack : List Cond := [.code yX11_crack cX11_crack 3 (some .int), .methodLink RX11 51 yX11_noPiece, .instanceMethod yX11_noPiece, .selects RX11 yX11_noPiece yX11_noPiece, .initialized RX11, .code yX11_noPiece cX11_noPiece 2 (some .boolean), .fieldLink RX11 19 "GatherhouseModel" "pieces" "Ljava/util/ArrayList;", .methodLink RX11 44 yJx4a65c_size_8abf5, .instanceMethod yJx4a65c_size_8abf5, .selects RJx4a65c yJx4a65c_size_8abf5 yJx4a65c_size_8abf5, .initialized RJx4a65c, .code yJx4a65c_size_8abf5 cJx4a65c_size_8abf5 1 (some .int), .fieldLink RJx4a65c 48 "java/util/ArrayList" "size" "I", .methodLink RX11 47 yX11_in, .static yX11_in, .code yX11_in cX11_in 3 (some .boolean), .fieldLink RX11 41 "GatherhouseModel" "thrown" "I"]
def wzX11_crack : List Cond := wzEX11_crack ++ (u_ws RX11 TX11 13 ++ (u_ws RJx4a65c TJx4a65c 3))
theorem zgEX11_crack : wzEX11_crack.all goodWord = true := by decide +kernel
theorem zuX11_crack_X11 : ∀ w ∈ u_ws RX11 TX11 13, w ∈ wzX11_crack := (fun _ h => (List.mem_append_right _ (List.mem_append_left _ h)))
theorem zuX11_crack_Jx4a65c : ∀ w ∈ u_ws RJx4a65c TJx4a65c 3, w ∈ wzX11_crack := (fun _ h => (List.mem_append_right _ (List.mem_append_right _ h)))
theorem gzX11_crack_X11_noPiece_51 : GoodIn wzX11_crack (wsV RX11 51 RX11 yX11_noPiece wzX11_noPiece) := (goodIn_app (z_lift (goodIn_r _ [1, 2, 3, 4] rfl (by decide +kernel))) (goodIn_app (z_lift (goodIn_r wzEX11_noPiece [5, 6, 7, 8, 9, 10, 11, 12, 13, 14, 4, 15, 16] rfl zgEX11_noPiece)) (goodIn_app (goodIn_sub (fun _ h => (List.mem_append_right _ (List.mem_append_left _ h))) zgU_X11) (goodIn_sub (fun _ h => (List.mem_append_right _ (List.mem_append_right _ h))) zgU_Jx4a65c))))
set_option maxHeartbeats 4000000 in
set_option maxRecDepth 100000 in
theorem zc_X11_crack (l : Launch) (D : va_G) (G : Nat × Nat × Nat) (mo : Nat) (gl : Nat) (po : Nat) (pi : Nat) (bu : Nat) (pa : Nat) (th : Int32) (mh : Int32) (mt : Int32) (ii : Int32) (sz : Nat) : Met l yX11_crack wzX11_crack ({ frames := 2, cells := 0, slots := 0, locals := 43 }) (va_Pc [.ref mo, .int ii] (p_RW D G [] [(mo, .inr (16, [.int th, .ref gl, .ref po, .ref pi, .ref bu, .ref pa, .int mt, .int mh, .int 40, .int 0, .null, .int 0, .int 0])), (pi, .inr (4, [.int 0, .ref G.1, .int 0]))] sz)) (va_Qi (fun (r : Int32) (u : Unit) => r = 0) (fun (u : Unit) (t : State) => q_RW D [] [(mo, .inr (16, [.int 1, .ref gl, .ref po, .ref pi, .ref bu, .ref pa, .int mt, .int mh, .int 40, .int 0, .null, .int 0, .int 0])), (pi, .inr (4, [.int 0, .ref G.1, .int 0]))] (va_A [(mo, .inr (16, [.int th, .ref gl, .ref po, .ref pi, .ref bu, .ref pa, .int mt, .int mh, .int 40, .int 0, .null, .int 0, .int 0])), (pi, .inr (4, [.int 0, .ref G.1, .int 0]))] sz) t) (va_A [(mo, .inr (16, [.int th, .ref gl, .ref po, .ref pi, .ref bu, .ref pa, .int mt, .int mh, .int 40, .int 0, .null, .int 0, .int 0])), (pi, .inr (4, [.int 0, .ref G.1, .int 0]))] sz)) 0 0 (va_A [(mo, .inr (16, [.int th, .ref gl, .ref po, .ref pi, .ref bu, .ref pa, .int mt, .int mh, .int 40, .int 0, .null, .int 0, .int 0])), (pi, .inr (4, [.int 0, .ref G.1, .int 0]))] sz) := by
  refine Met.ofW (cc := cX11_crack) (maxL := 3) (ret := (some .int)) (by decide) rfl ?_
  intro p e s m args below meth c s₁ B hml hv
  obtain ⟨rfl, hsz, hP, hK, hD0, hT, hZ⟩ := hv
  have hx := B.exec
  have hb := B.bytes
  have hr := B.returns
  have hts := atoms_spec (ws := wzX11_crack) B.pre
  have hown : s.vm.findClass RX11 = some m.cls := findClass_of_methodNamed B.named
  have hlocks := B.notSynchronized
  subst hsz
  have hD := hD0.self (sz := s.heap.size)
  generalize hAe : va_A [(mo, .inr (16, [.int th, .ref gl, .ref po, .ref pi, .ref bu, .ref pa, .int mt, .int mh, .int 40, .int 0, .null, .int 0, .int 0])), (pi, .inr (4, [.int 0, .ref G.1, .int 0]))] s.heap.size = A at hD hZ ⊢
  have hA : ∀ q : Nat, s.heap.size ≤ q → A q := fun q h => by rw [← hAe]; exact Or.inr h
  have hS : va_S A s.heap s.heap [] := va_S.rf
  have hl := lv_entry ([.ref mo, .int ii]) (n := 3) (Nat.le_of_ble_eq_true rfl)
  rw [lg_entry_eq]
  generalize (lg_sl ([.ref mo, .int ii]) ++ List.replicate (3 - (lg_sl ([.ref mo, .int ii])).length) Slot.unset).toArray = ls at hl ⊢
  have hl : lv_has ls 3 [(0, .ref mo), (1, .int ii)] := hl
  refine lv_aload_n hx hb dX11_crack_0 rfl (lv_at hl 0 rfl) ?_
  refine lv_iload_n hx hb dX11_crack_1 rfl (lv_at hl 1 rfl) ?_
  have hFc := va_free (wc := [(mo, .inr (16, [.int th, .ref gl, .ref po, .ref pi, .ref bu, .ref pa, .int mt, .int mh, .int 40, .int 0, .null, .int 0, .int 0])), (pi, .inr (4, [.int 0, .ref G.1, .int 0]))]) hD hS hA [0, 1] rfl
  refine va_calli (va_runV (As := [.int ii]) (rest := []) ⟨hx, hb, hml, hown, hts⟩ (zc_X11_noPiece l D G mo gl po pi bu pa th mh mt ii s.heap.size) (cwV 1 hts gzX11_crack_X11_noPiece_51 rfl rfl rfl (by decide +kernel) ⟨(Nat.le_of_ble_eq_true rfl), (Nat.le_of_ble_eq_true rfl)⟩) ⟨p_RW_blind, va_recv hK hP (ci := 16) (q0 := 0) rfl rfl, (p_RW_at (tc := []) (wc := [(mo, .inr (16, [.int th, .ref gl, .ref po, .ref pi, .ref bu, .ref pa, .int mt, .int mh, .int 40, .int 0, .null, .int 0, .int 0])), (pi, .inr (4, [.int 0, .ref G.1, .int 0]))]) hP hK hD hS hA hT hZ [0, 1] [] rfl rfl (by decide) rfl [.ref mo, .int ii])⟩ rfl rfl hl.1 rfl (lv_room (Nat.le_of_ble_eq_true rfl)) dX11_crack_2 ⟨(Nat.le_of_ble_eq_true rfl), (Nat.le_of_ble_eq_true rfl)⟩) hS (fun q _ h => hFc q h) hFc (fun r_435 u t H locs ht hvm w_436 hB hz1 hk1 hS => ?_)
  obtain ⟨hP, hD, hK⟩ := q_join (D := D) (wc := [(mo, .inr (16, [.int th, .ref gl, .ref po, .ref pi, .ref bu, .ref pa, .int mt, .int mh, .int 40, .int 0, .null, .int 0, .int 0])), (pi, .inr (4, [.int 0, .ref G.1, .int 0]))]) (wr := []) (w1 := [(mo, .inr (16, [.int 1, .ref gl, .ref po, .ref pi, .ref bu, .ref pa, .int mt, .int mh, .int 40, .int 0, .null, .int 0, .int 0])), (pi, .inr (4, [.int 0, .ref G.1, .int 0]))]) (tyr := []) (ty1 := []) hP hD hK [0, 1] [] [] rfl rfl (by decide) (by decide) rfl hFc hk1 ht hvm hB
  have hP : va_P D vwCl [(mo, .inr (16, [.int 1, .ref gl, .ref po, .ref pi, .ref bu, .ref pa, .int mt, .int mh, .int 40, .int 0, .null, .int 0, .int 0])), (pi, .inr (4, [.int 0, .ref G.1, .int 0]))] H := hP
  have hD : va_D A [(mo, .inr (16, [.int 1, .ref gl, .ref po, .ref pi, .ref bu, .ref pa, .int mt, .int mh, .int 40, .int 0, .null, .int 0, .int 0])), (pi, .inr (4, [.int 0, .ref G.1, .int 0]))] := hD
  have hK : va_K D vwCl [] s := hK
  obtain rfl := w_436
  refine lv_if_eq (tgt := 10) hx hb dX11_crack_5 (by decide) (fun cc => absurd cc (by decide)) (fun _ => ?_)
  refine lv_iconst (v := 0) hx hb dX11_crack_8 (by decide) ?_
  exact W.iret (v := 0) hx hb hr (fun t ht hW => ⟨⟨0, (), rfl, rfl, q_RW_mk hP hK hD [0, 1] [] rfl rfl (by decide) rfl ht hW.alike⟩, hS.F ht⟩) hS.2.2 dX11_crack_9
theorem dX11_heatOf_0 : decode cX11_heatOf 0 = .ok (.aload_n 0, 1) := by decide +kernel
theorem dX11_heatOf_1 : decode cX11_heatOf 1 = .ok (.iload_n 1, 1) := by decide +kernel
theorem dX11_heatOf_2 : decode cX11_heatOf 2 = .ok (.invokevirtual 51, 3) := by decide +kernel
theorem dX11_heatOf_5 : decode cX11_heatOf 5 = .ok (.ifCond .eq 5, 3) := by decide +kernel
theorem dX11_heatOf_8 : decode cX11_heatOf 8 = .ok (.iconst 0, 1) := by decide +kernel
theorem dX11_heatOf_9 : decode cX11_heatOf 9 = .ok (.ireturn, 1) := by decide +kernel
def wzEX11_heatOf : List Cond := [.code yX11_heatOf cX11_heatOf 3 (some .int), .methodLink RX11 51 yX11_noPiece, .instanceMethod yX11_noPiece, .selects RX11 yX11_noPiece yX11_noPiece, .initialized RX11, .code yX11_noPiece cX11_noPiece 2 (some .boolean), .fieldLink RX11 19 "GatherhouseModel" "pieces" "Ljava/util/ArrayList;", .methodLink RX11 44 yJx4a65c_size_8abf5, .instanceMethod yJx4a65c_size_8abf5, .selects RJx4a65c yJx4a65c_size_8abf5 yJx4a65c_size_8abf5, .initialized RJx4a65c, .code yJx4a65c_size_8abf5 cJx4a65c_size_8abf5 1 (some .int), .fieldLink RJx4a65c 48 "java/util/ArrayList" "size" "I", .methodLink RX11 47 yX11_in, .static yX11_in, .code yX11_in cX11_in 3 (some .boolean), .fieldLink RX11 41 "GatherhouseModel" "thrown" "I"]
def wzX11_heatOf : List Cond := wzEX11_heatOf ++ (u_ws RX11 TX11 13 ++ (u_ws RJx4a65c TJx4a65c 3))
theorem zgEX11_heatOf : wzEX11_heatOf.all goodWord = true := by decide +kernel
theorem zuX11_heatOf_X11 : ∀ w ∈ u_ws RX11 TX11 13, w ∈ wzX11_heatOf := (fun _ h => (List.mem_append_right _ (List.mem_append_left _ h)))
theorem zuX11_heatOf_Jx4a65c : ∀ w ∈ u_ws RJx4a65c TJx4a65c 3, w ∈ wzX11_heatOf := (fun _ h => (List.mem_append_right _ (List.mem_append_right _ h)))
theorem gzX11_heatOf_X11_noPiece_51 : GoodIn wzX11_heatOf (wsV RX11 51 RX11 yX11_noPiece wzX11_noPiece) := (goodIn_app (z_lift (goodIn_r _ [1, 2, 3, 4] rfl (by decide +kernel))) (goodIn_app (z_lift (goodIn_r wzEX11_noPiece [5, 6, 7, 8, 9, 10, 11, 12, 13, 14, 4, 15, 16] rfl zgEX11_noPiece)) (goodIn_app (goodIn_sub (fun _ h => (List.mem_append_right _ (List.mem_append_left _ h))) zgU_X11) (goodIn_sub (fun _ h => (List.mem_append_right _ (List.mem_append_right _ h))) zgU_Jx4a65c))))
set_option maxHeartbeats 4000000 in
set_option maxRecDepth 100000 in
theorem zc_X11_heatOf (l : Launch) (D : va_G) (G : Nat × Nat × Nat) (mo : Nat) (gl : Nat) (po : Nat) (pi : Nat) (bu : Nat) (pa : Nat) (th : Int32) (mh : Int32) (mt : Int32) (ii : Int32) (sz : Nat) : Met l yX11_heatOf wzX11_heatOf ({ frames := 2, cells := 0, slots := 0, locals := 43 }) (va_Pc [.ref mo, .int ii] (p_RW D G [] [(mo, .inr (16, [.int th, .ref gl, .ref po, .ref pi, .ref bu, .ref pa, .int mt, .int mh, .int 40, .int 0, .null, .int 0, .int 0])), (pi, .inr (4, [.int 0, .ref G.1, .int 0]))] sz)) (va_Qi (fun (r : Int32) (u : Unit) => r = 0) (fun (u : Unit) (t : State) => q_RW D [] [(mo, .inr (16, [.int 1, .ref gl, .ref po, .ref pi, .ref bu, .ref pa, .int mt, .int mh, .int 40, .int 0, .null, .int 0, .int 0])), (pi, .inr (4, [.int 0, .ref G.1, .int 0]))] (va_A [(mo, .inr (16, [.int th, .ref gl, .ref po, .ref pi, .ref bu, .ref pa, .int mt, .int mh, .int 40, .int 0, .null, .int 0, .int 0])), (pi, .inr (4, [.int 0, .ref G.1, .int 0]))] sz) t) (va_A [(mo, .inr (16, [.int th, .ref gl, .ref po, .ref pi, .ref bu, .ref pa, .int mt, .int mh, .int 40, .int 0, .null, .int 0, .int 0])), (pi, .inr (4, [.int 0, .ref G.1, .int 0]))] sz)) 0 0 (va_A [(mo, .inr (16, [.int th, .ref gl, .ref po, .ref pi, .ref bu, .ref pa, .int mt, .int mh, .int 40, .int 0, .null, .int 0, .int 0])), (pi, .inr (4, [.int 0, .ref G.1, .int 0]))] sz) := by
  refine Met.ofW (cc := cX11_heatOf) (maxL := 3) (ret := (some .int)) (by decide) rfl ?_
  intro p e s m args below meth c s₁ B hml hv
  obtain ⟨rfl, hsz, hP, hK, hD0, hT, hZ⟩ := hv
  have hx := B.exec
  have hb := B.bytes
  have hr := B.returns
  have hts := atoms_spec (ws := wzX11_heatOf) B.pre
  have hown : s.vm.findClass RX11 = some m.cls := findClass_of_methodNamed B.named
  have hlocks := B.notSynchronized
  subst hsz
  have hD := hD0.self (sz := s.heap.size)
  generalize hAe : va_A [(mo, .inr (16, [.int th, .ref gl, .ref po, .ref pi, .ref bu, .ref pa, .int mt, .int mh, .int 40, .int 0, .null, .int 0, .int 0])), (pi, .inr (4, [.int 0, .ref G.1, .int 0]))] s.heap.size = A at hD hZ ⊢
  have hA : ∀ q : Nat, s.heap.size ≤ q → A q := fun q h => by rw [← hAe]; exact Or.inr h
  have hS : va_S A s.heap s.heap [] := va_S.rf
  have hl := lv_entry ([.ref mo, .int ii]) (n := 3) (Nat.le_of_ble_eq_true rfl)
  rw [lg_entry_eq]
  generalize (lg_sl ([.ref mo, .int ii]) ++ List.replicate (3 - (lg_sl ([.ref mo, .int ii])).length) Slot.unset).toArray = ls at hl ⊢
  have hl : lv_has ls 3 [(0, .ref mo), (1, .int ii)] := hl
  refine lv_aload_n hx hb dX11_heatOf_0 rfl (lv_at hl 0 rfl) ?_
  refine lv_iload_n hx hb dX11_heatOf_1 rfl (lv_at hl 1 rfl) ?_
  have hFc := va_free (wc := [(mo, .inr (16, [.int th, .ref gl, .ref po, .ref pi, .ref bu, .ref pa, .int mt, .int mh, .int 40, .int 0, .null, .int 0, .int 0])), (pi, .inr (4, [.int 0, .ref G.1, .int 0]))]) hD hS hA [0, 1] rfl
  refine va_calli (va_runV (As := [.int ii]) (rest := []) ⟨hx, hb, hml, hown, hts⟩ (zc_X11_noPiece l D G mo gl po pi bu pa th mh mt ii s.heap.size) (cwV 1 hts gzX11_heatOf_X11_noPiece_51 rfl rfl rfl (by decide +kernel) ⟨(Nat.le_of_ble_eq_true rfl), (Nat.le_of_ble_eq_true rfl)⟩) ⟨p_RW_blind, va_recv hK hP (ci := 16) (q0 := 0) rfl rfl, (p_RW_at (tc := []) (wc := [(mo, .inr (16, [.int th, .ref gl, .ref po, .ref pi, .ref bu, .ref pa, .int mt, .int mh, .int 40, .int 0, .null, .int 0, .int 0])), (pi, .inr (4, [.int 0, .ref G.1, .int 0]))]) hP hK hD hS hA hT hZ [0, 1] [] rfl rfl (by decide) rfl [.ref mo, .int ii])⟩ rfl rfl hl.1 rfl (lv_room (Nat.le_of_ble_eq_true rfl)) dX11_heatOf_2 ⟨(Nat.le_of_ble_eq_true rfl), (Nat.le_of_ble_eq_true rfl)⟩) hS (fun q _ h => hFc q h) hFc (fun r_437 u t H locs ht hvm w_438 hB hz1 hk1 hS => ?_)
  obtain ⟨hP, hD, hK⟩ := q_join (D := D) (wc := [(mo, .inr (16, [.int th, .ref gl, .ref po, .ref pi, .ref bu, .ref pa, .int mt, .int mh, .int 40, .int 0, .null, .int 0, .int 0])), (pi, .inr (4, [.int 0, .ref G.1, .int 0]))]) (wr := []) (w1 := [(mo, .inr (16, [.int 1, .ref gl, .ref po, .ref pi, .ref bu, .ref pa, .int mt, .int mh, .int 40, .int 0, .null, .int 0, .int 0])), (pi, .inr (4, [.int 0, .ref G.1, .int 0]))]) (tyr := []) (ty1 := []) hP hD hK [0, 1] [] [] rfl rfl (by decide) (by decide) rfl hFc hk1 ht hvm hB
  have hP : va_P D vwCl [(mo, .inr (16, [.int 1, .ref gl, .ref po, .ref pi, .ref bu, .ref pa, .int mt, .int mh, .int 40, .int 0, .null, .int 0, .int 0])), (pi, .inr (4, [.int 0, .ref G.1, .int 0]))] H := hP
  have hD : va_D A [(mo, .inr (16, [.int 1, .ref gl, .ref po, .ref pi, .ref bu, .ref pa, .int mt, .int mh, .int 40, .int 0, .null, .int 0, .int 0])), (pi, .inr (4, [.int 0, .ref G.1, .int 0]))] := hD
  have hK : va_K D vwCl [] s := hK
  obtain rfl := w_438
  refine lv_if_eq (tgt := 10) hx hb dX11_heatOf_5 (by decide) (fun cc => absurd cc (by decide)) (fun _ => ?_)
  refine lv_iconst (v := 0) hx hb dX11_heatOf_8 (by decide) ?_
  exact W.iret (v := 0) hx hb hr (fun t ht hW => ⟨⟨0, (), rfl, rfl, q_RW_mk hP hK hD [0, 1] [] rfl rfl (by decide) rfl ht hW.alike⟩, hS.F ht⟩) hS.2.2 dX11_heatOf_9
theorem dX11_rings_0 : decode cX11_rings 0 = .ok (.aload_n 0, 1) := by decide +kernel
theorem dX11_rings_1 : decode cX11_rings 1 = .ok (.iload_n 1, 1) := by decide +kernel
theorem dX11_rings_2 : decode cX11_rings 2 = .ok (.invokevirtual 51, 3) := by decide +kernel
theorem dX11_rings_5 : decode cX11_rings 5 = .ok (.ifCond .eq 7, 3) := by decide +kernel
theorem dX11_rings_8 : decode cX11_rings 8 = .ok (.iconst 0, 1) := by decide +kernel
theorem dX11_rings_9 : decode cX11_rings 9 = .ok (.goto 20, 3) := by decide +kernel
theorem dX11_rings_29 : decode cX11_rings 29 = .ok (.ireturn, 1) := by decide +kernel
def wzEX11_rings : List Cond := [.code yX11_rings cX11_rings 2 (some .int), .methodLink RX11 51 yX11_noPiece, .instanceMethod yX11_noPiece, .selects RX11 yX11_noPiece yX11_noPiece, .initialized RX11, .code yX11_noPiece cX11_noPiece 2 (some .boolean), .fieldLink RX11 19 "GatherhouseModel" "pieces" "Ljava/util/ArrayList;", .methodLink RX11 44 yJx4a65c_size_8abf5, .instanceMethod yJx4a65c_size_8abf5, .selects RJx4a65c yJx4a65c_size_8abf5 yJx4a65c_size_8abf5, .initialized RJx4a65c, .code yJx4a65c_size_8abf5 cJx4a65c_size_8abf5 1 (some .int), .fieldLink RJx4a65c 48 "java/util/ArrayList" "size" "I", .methodLink RX11 47 yX11_in, .static yX11_in, .code yX11_in cX11_in 3 (some .boolean), .fieldLink RX11 41 "GatherhouseModel" "thrown" "I"]
def wzX11_rings : List Cond := wzEX11_rings ++ (u_ws RX11 TX11 13 ++ (u_ws RJx4a65c TJx4a65c 3))
theorem zgEX11_rings : wzEX11_rings.all goodWord = true := by decide +kernel
theorem zuX11_rings_X11 : ∀ w ∈ u_ws RX11 TX11 13, w ∈ wzX11_rings := (fun _ h => (List.mem_append_right _ (List.mem_append_left _ h)))
theorem zuX11_rings_Jx4a65c : ∀ w ∈ u_ws RJx4a65c TJx4a65c 3, w ∈ wzX11_rings := (fun _ h => (List.mem_append_right _ (List.mem_append_right _ h)))
theorem gzX11_rings_X11_noPiece_51 : GoodIn wzX11_rings (wsV RX11 51 RX11 yX11_noPiece wzX11_noPiece) := (goodIn_app (z_lift (goodIn_r _ [1, 2, 3, 4] rfl (by decide +kernel))) (goodIn_app (z_lift (goodIn_r wzEX11_noPiece [5, 6, 7, 8, 9, 10, 11, 12, 13, 14, 4, 15, 16] rfl zgEX11_noPiece)) (goodIn_app (goodIn_sub (fun _ h => (List.mem_append_right _ (List.mem_append_left _ h))) zgU_X11) (goodIn_sub (fun _ h => (List.mem_append_right _ (List.mem_append_right _ h))) zgU_Jx4a65c))))
set_option maxHeartbeats 4000000 in
set_option maxRecDepth 100000 in
theorem zc_X11_rings (l : Launch) (D : va_G) (G : Nat × Nat × Nat) (mo : Nat) (gl : Nat) (po : Nat) (pi : Nat) (bu : Nat) (pa : Nat) (th : Int32) (mh : Int32) (mt : Int32) (ii : Int32) (sz : Nat) : Met l yX11_rings wzX11_rings ({ frames := 2, cells := 0, slots := 0, locals := 43 }) (va_Pc [.ref mo, .int ii] (p_RW D G [] [(mo, .inr (16, [.int th, .ref gl, .ref po, .ref pi, .ref bu, .ref pa, .int mt, .int mh, .int 40, .int 0, .null, .int 0, .int 0])), (pi, .inr (4, [.int 0, .ref G.1, .int 0]))] sz)) (va_Qi (fun (r : Int32) (u : Unit) => r = 0) (fun (u : Unit) (t : State) => q_RW D [] [(mo, .inr (16, [.int 1, .ref gl, .ref po, .ref pi, .ref bu, .ref pa, .int mt, .int mh, .int 40, .int 0, .null, .int 0, .int 0])), (pi, .inr (4, [.int 0, .ref G.1, .int 0]))] (va_A [(mo, .inr (16, [.int th, .ref gl, .ref po, .ref pi, .ref bu, .ref pa, .int mt, .int mh, .int 40, .int 0, .null, .int 0, .int 0])), (pi, .inr (4, [.int 0, .ref G.1, .int 0]))] sz) t) (va_A [(mo, .inr (16, [.int th, .ref gl, .ref po, .ref pi, .ref bu, .ref pa, .int mt, .int mh, .int 40, .int 0, .null, .int 0, .int 0])), (pi, .inr (4, [.int 0, .ref G.1, .int 0]))] sz)) 0 0 (va_A [(mo, .inr (16, [.int th, .ref gl, .ref po, .ref pi, .ref bu, .ref pa, .int mt, .int mh, .int 40, .int 0, .null, .int 0, .int 0])), (pi, .inr (4, [.int 0, .ref G.1, .int 0]))] sz) := by
  refine Met.ofW (cc := cX11_rings) (maxL := 2) (ret := (some .int)) (by decide) rfl ?_
  intro p e s m args below meth c s₁ B hml hv
  obtain ⟨rfl, hsz, hP, hK, hD0, hT, hZ⟩ := hv
  have hx := B.exec
  have hb := B.bytes
  have hr := B.returns
  have hts := atoms_spec (ws := wzX11_rings) B.pre
  have hown : s.vm.findClass RX11 = some m.cls := findClass_of_methodNamed B.named
  have hlocks := B.notSynchronized
  subst hsz
  have hD := hD0.self (sz := s.heap.size)
  generalize hAe : va_A [(mo, .inr (16, [.int th, .ref gl, .ref po, .ref pi, .ref bu, .ref pa, .int mt, .int mh, .int 40, .int 0, .null, .int 0, .int 0])), (pi, .inr (4, [.int 0, .ref G.1, .int 0]))] s.heap.size = A at hD hZ ⊢
  have hA : ∀ q : Nat, s.heap.size ≤ q → A q := fun q h => by rw [← hAe]; exact Or.inr h
  have hS : va_S A s.heap s.heap [] := va_S.rf
  have hl := lv_entry ([.ref mo, .int ii]) (n := 2) (Nat.le_of_ble_eq_true rfl)
  rw [lg_entry_eq]
  generalize (lg_sl ([.ref mo, .int ii]) ++ List.replicate (2 - (lg_sl ([.ref mo, .int ii])).length) Slot.unset).toArray = ls at hl ⊢
  have hl : lv_has ls 2 [(0, .ref mo), (1, .int ii)] := hl
  refine lv_aload_n hx hb dX11_rings_0 rfl (lv_at hl 0 rfl) ?_
  refine lv_iload_n hx hb dX11_rings_1 rfl (lv_at hl 1 rfl) ?_
  have hFc := va_free (wc := [(mo, .inr (16, [.int th, .ref gl, .ref po, .ref pi, .ref bu, .ref pa, .int mt, .int mh, .int 40, .int 0, .null, .int 0, .int 0])), (pi, .inr (4, [.int 0, .ref G.1, .int 0]))]) hD hS hA [0, 1] rfl
  refine va_calli (va_runV (As := [.int ii]) (rest := []) ⟨hx, hb, hml, hown, hts⟩ (zc_X11_noPiece l D G mo gl po pi bu pa th mh mt ii s.heap.size) (cwV 1 hts gzX11_rings_X11_noPiece_51 rfl rfl rfl (by decide +kernel) ⟨(Nat.le_of_ble_eq_true rfl), (Nat.le_of_ble_eq_true rfl)⟩) ⟨p_RW_blind, va_recv hK hP (ci := 16) (q0 := 0) rfl rfl, (p_RW_at (tc := []) (wc := [(mo, .inr (16, [.int th, .ref gl, .ref po, .ref pi, .ref bu, .ref pa, .int mt, .int mh, .int 40, .int 0, .null, .int 0, .int 0])), (pi, .inr (4, [.int 0, .ref G.1, .int 0]))]) hP hK hD hS hA hT hZ [0, 1] [] rfl rfl (by decide) rfl [.ref mo, .int ii])⟩ rfl rfl hl.1 rfl (lv_room (Nat.le_of_ble_eq_true rfl)) dX11_rings_2 ⟨(Nat.le_of_ble_eq_true rfl), (Nat.le_of_ble_eq_true rfl)⟩) hS (fun q _ h => hFc q h) hFc (fun r_439 u t H locs ht hvm w_440 hB hz1 hk1 hS => ?_)
  obtain ⟨hP, hD, hK⟩ := q_join (D := D) (wc := [(mo, .inr (16, [.int th, .ref gl, .ref po, .ref pi, .ref bu, .ref pa, .int mt, .int mh, .int 40, .int 0, .null, .int 0, .int 0])), (pi, .inr (4, [.int 0, .ref G.1, .int 0]))]) (wr := []) (w1 := [(mo, .inr (16, [.int 1, .ref gl, .ref po, .ref pi, .ref bu, .ref pa, .int mt, .int mh, .int 40, .int 0, .null, .int 0, .int 0])), (pi, .inr (4, [.int 0, .ref G.1, .int 0]))]) (tyr := []) (ty1 := []) hP hD hK [0, 1] [] [] rfl rfl (by decide) (by decide) rfl hFc hk1 ht hvm hB
  have hP : va_P D vwCl [(mo, .inr (16, [.int 1, .ref gl, .ref po, .ref pi, .ref bu, .ref pa, .int mt, .int mh, .int 40, .int 0, .null, .int 0, .int 0])), (pi, .inr (4, [.int 0, .ref G.1, .int 0]))] H := hP
  have hD : va_D A [(mo, .inr (16, [.int 1, .ref gl, .ref po, .ref pi, .ref bu, .ref pa, .int mt, .int mh, .int 40, .int 0, .null, .int 0, .int 0])), (pi, .inr (4, [.int 0, .ref G.1, .int 0]))] := hD
  have hK : va_K D vwCl [] s := hK
  obtain rfl := w_440
  refine lv_if_eq (tgt := 12) hx hb dX11_rings_5 (by decide) (fun cc => absurd cc (by decide)) (fun _ => ?_)
  refine lv_iconst (v := 0) hx hb dX11_rings_8 (by decide) ?_
  refine lv_goto (tgt := 29) hx hb dX11_rings_9 (by decide) ?_
  exact W.iret (v := 0) hx hb hr (fun t ht hW => ⟨⟨0, (), rfl, rfl, q_RW_mk hP hK hD [0, 1] [] rfl rfl (by decide) rfl ht hW.alike⟩, hS.F ht⟩) hS.2.2 dX11_rings_29
theorem dX11_ring_0 : decode cX11_ring 0 = .ok (.aload_n 0, 1) := by decide +kernel
theorem dX11_ring_1 : decode cX11_ring 1 = .ok (.iload_n 1, 1) := by decide +kernel
theorem dX11_ring_2 : decode cX11_ring 2 = .ok (.iload_n 2, 1) := by decide +kernel
theorem dX11_ring_3 : decode cX11_ring 3 = .ok (.invokevirtual 223, 3) := by decide +kernel
theorem dX11_ring_6 : decode cX11_ring 6 = .ok (.ifCond .eq 5, 3) := by decide +kernel
theorem dX11_ring_9 : decode cX11_ring 9 = .ok (.iconst 0, 1) := by decide +kernel
theorem dX11_ring_10 : decode cX11_ring 10 = .ok (.ireturn, 1) := by decide +kernel
def wzEX11_ring : List Cond := [.code yX11_ring cX11_ring 5 (some .int), .methodLink RX11 223 yX11_noRing, .instanceMethod yX11_noRing, .selects RX11 yX11_noRing yX11_noRing, .initialized RX11, .code yX11_noRing cX11_noRing 3 (some .boolean), .methodLink RX11 51 yX11_noPiece, .instanceMethod yX11_noPiece, .selects RX11 yX11_noPiece yX11_noPiece, .code yX11_noPiece cX11_noPiece 2 (some .boolean), .fieldLink RX11 19 "GatherhouseModel" "pieces" "Ljava/util/ArrayList;", .methodLink RX11 44 yJx4a65c_size_8abf5, .instanceMethod yJx4a65c_size_8abf5, .selects RJx4a65c yJx4a65c_size_8abf5 yJx4a65c_size_8abf5, .initialized RJx4a65c, .code yJx4a65c_size_8abf5 cJx4a65c_size_8abf5 1 (some .int), .fieldLink RJx4a65c 48 "java/util/ArrayList" "size" "I", .methodLink RX11 47 yX11_in, .static yX11_in, .code yX11_in cX11_in 3 (some .boolean), .fieldLink RX11 41 "GatherhouseModel" "thrown" "I"]
def wzX11_ring : List Cond := wzEX11_ring ++ (u_ws RX11 TX11 13 ++ (u_ws RJx4a65c TJx4a65c 3))
theorem zgEX11_ring : wzEX11_ring.all goodWord = true := by decide +kernel
theorem zuX11_ring_X11 : ∀ w ∈ u_ws RX11 TX11 13, w ∈ wzX11_ring := (fun _ h => (List.mem_append_right _ (List.mem_append_left _ h)))
theorem zuX11_ring_Jx4a65c : ∀ w ∈ u_ws RJx4a65c TJx4a65c 3, w ∈ wzX11_ring := (fun _ h => (List.mem_append_right _ (List.mem_append_right _ h)))
theorem gzX11_ring_X11_noRing_223 : GoodIn wzX11_ring (wsV RX11 223 RX11 yX11_noRing wzX11_noRing) := (goodIn_app (z_lift (goodIn_r _ [1, 2, 3, 4] rfl (by decide +kernel))) (goodIn_app (z_lift (goodIn_r wzEX11_noRing [5, 6, 7, 8, 4, 9, 10, 11, 12, 13, 14, 15, 16, 17, 18, 19, 20] rfl zgEX11_noRing)) (goodIn_app (goodIn_sub (fun _ h => (List.mem_append_right _ (List.mem_append_left _ h))) zgU_X11) (goodIn_sub (fun _ h => (List.mem_append_right _ (List.mem_append_right _ h))) zgU_Jx4a65c))))
set_option maxHeartbeats 4000000 in
set_option maxRecDepth 100000 in
theorem zc_X11_ring (l : Launch) (D : va_G) (G : Nat × Nat × Nat) (mo : Nat) (gl : Nat) (po : Nat) (pi : Nat) (bu : Nat) (pa : Nat) (th : Int32) (mh : Int32) (mt : Int32) (ii : Int32) (jj : Int32) (kk : Int32) (sz : Nat) : Met l yX11_ring wzX11_ring ({ frames := 3, cells := 0, slots := 0, locals := 65 }) (va_Pc [.ref mo, .int ii, .int jj, .int kk] (p_RW D G [] [(mo, .inr (16, [.int th, .ref gl, .ref po, .ref pi, .ref bu, .ref pa, .int mt, .int mh, .int 40, .int 0, .null, .int 0, .int 0])), (pi, .inr (4, [.int 0, .ref G.1, .int 0]))] sz)) (va_Qi (fun (r : Int32) (u : Unit) => r = 0) (fun (u : Unit) (t : State) => q_RW D [] [(mo, .inr (16, [.int 1, .ref gl, .ref po, .ref pi, .ref bu, .ref pa, .int mt, .int mh, .int 40, .int 0, .null, .int 0, .int 0])), (pi, .inr (4, [.int 0, .ref G.1, .int 0]))] (va_A [(mo, .inr (16, [.int th, .ref gl, .ref po, .ref pi, .ref bu, .ref pa, .int mt, .int mh, .int 40, .int 0, .null, .int 0, .int 0])), (pi, .inr (4, [.int 0, .ref G.1, .int 0]))] sz) t) (va_A [(mo, .inr (16, [.int th, .ref gl, .ref po, .ref pi, .ref bu, .ref pa, .int mt, .int mh, .int 40, .int 0, .null, .int 0, .int 0])), (pi, .inr (4, [.int 0, .ref G.1, .int 0]))] sz)) 0 0 (va_A [(mo, .inr (16, [.int th, .ref gl, .ref po, .ref pi, .ref bu, .ref pa, .int mt, .int mh, .int 40, .int 0, .null, .int 0, .int 0])), (pi, .inr (4, [.int 0, .ref G.1, .int 0]))] sz) := by
  refine Met.ofW (cc := cX11_ring) (maxL := 5) (ret := (some .int)) (by decide) rfl ?_
  intro p e s m args below meth c s₁ B hml hv
  obtain ⟨rfl, hsz, hP, hK, hD0, hT, hZ⟩ := hv
  have hx := B.exec
  have hb := B.bytes
  have hr := B.returns
  have hts := atoms_spec (ws := wzX11_ring) B.pre
  have hown : s.vm.findClass RX11 = some m.cls := findClass_of_methodNamed B.named
  have hlocks := B.notSynchronized
  subst hsz
  have hD := hD0.self (sz := s.heap.size)
  generalize hAe : va_A [(mo, .inr (16, [.int th, .ref gl, .ref po, .ref pi, .ref bu, .ref pa, .int mt, .int mh, .int 40, .int 0, .null, .int 0, .int 0])), (pi, .inr (4, [.int 0, .ref G.1, .int 0]))] s.heap.size = A at hD hZ ⊢
  have hA : ∀ q : Nat, s.heap.size ≤ q → A q := fun q h => by rw [← hAe]; exact Or.inr h
  have hS : va_S A s.heap s.heap [] := va_S.rf
  have hl := lv_entry ([.ref mo, .int ii, .int jj, .int kk]) (n := 5) (Nat.le_of_ble_eq_true rfl)
  rw [lg_entry_eq]
  generalize (lg_sl ([.ref mo, .int ii, .int jj, .int kk]) ++ List.replicate (5 - (lg_sl ([.ref mo, .int ii, .int jj, .int kk])).length) Slot.unset).toArray = ls at hl ⊢
  have hl : lv_has ls 5 [(0, .ref mo), (1, .int ii), (2, .int jj), (3, .int kk)] := hl
  refine lv_aload_n hx hb dX11_ring_0 rfl (lv_at hl 0 rfl) ?_
  refine lv_iload_n hx hb dX11_ring_1 rfl (lv_at hl 1 rfl) ?_
  refine lv_iload_n hx hb dX11_ring_2 rfl (lv_at hl 2 rfl) ?_
  have hFc := va_free (wc := [(mo, .inr (16, [.int th, .ref gl, .ref po, .ref pi, .ref bu, .ref pa, .int mt, .int mh, .int 40, .int 0, .null, .int 0, .int 0])), (pi, .inr (4, [.int 0, .ref G.1, .int 0]))]) hD hS hA [0, 1] rfl
  refine va_calli (va_runV (As := [.int ii, .int jj]) (rest := []) ⟨hx, hb, hml, hown, hts⟩ (zc_X11_noRing l D G mo gl po pi bu pa th mh mt ii jj s.heap.size) (cwV 2 hts gzX11_ring_X11_noRing_223 rfl rfl rfl (by decide +kernel) ⟨(Nat.le_of_ble_eq_true rfl), (Nat.le_of_ble_eq_true rfl)⟩) ⟨p_RW_blind, va_recv hK hP (ci := 16) (q0 := 0) rfl rfl, (p_RW_at (tc := []) (wc := [(mo, .inr (16, [.int th, .ref gl, .ref po, .ref pi, .ref bu, .ref pa, .int mt, .int mh, .int 40, .int 0, .null, .int 0, .int 0])), (pi, .inr (4, [.int 0, .ref G.1, .int 0]))]) hP hK hD hS hA hT hZ [0, 1] [] rfl rfl (by decide) rfl [.ref mo, .int ii, .int jj])⟩ rfl rfl hl.1 rfl (lv_room (Nat.le_of_ble_eq_true rfl)) dX11_ring_3 ⟨(Nat.le_of_ble_eq_true rfl), (Nat.le_of_ble_eq_true rfl)⟩) hS (fun q _ h => hFc q h) hFc (fun r_441 u t H locs ht hvm w_442 hB hz1 hk1 hS => ?_)
  obtain ⟨hP, hD, hK⟩ := q_join (D := D) (wc := [(mo, .inr (16, [.int th, .ref gl, .ref po, .ref pi, .ref bu, .ref pa, .int mt, .int mh, .int 40, .int 0, .null, .int 0, .int 0])), (pi, .inr (4, [.int 0, .ref G.1, .int 0]))]) (wr := []) (w1 := [(mo, .inr (16, [.int 1, .ref gl, .ref po, .ref pi, .ref bu, .ref pa, .int mt, .int mh, .int 40, .int 0, .null, .int 0, .int 0])), (pi, .inr (4, [.int 0, .ref G.1, .int 0]))]) (tyr := []) (ty1 := []) hP hD hK [0, 1] [] [] rfl rfl (by decide) (by decide) rfl hFc hk1 ht hvm hB
  have hP : va_P D vwCl [(mo, .inr (16, [.int 1, .ref gl, .ref po, .ref pi, .ref bu, .ref pa, .int mt, .int mh, .int 40, .int 0, .null, .int 0, .int 0])), (pi, .inr (4, [.int 0, .ref G.1, .int 0]))] H := hP
  have hD : va_D A [(mo, .inr (16, [.int 1, .ref gl, .ref po, .ref pi, .ref bu, .ref pa, .int mt, .int mh, .int 40, .int 0, .null, .int 0, .int 0])), (pi, .inr (4, [.int 0, .ref G.1, .int 0]))] := hD
  have hK : va_K D vwCl [] s := hK
  obtain rfl := w_442
  refine lv_if_eq (tgt := 11) hx hb dX11_ring_6 (by decide) (fun cc => absurd cc (by decide)) (fun _ => ?_)
  refine lv_iconst (v := 0) hx hb dX11_ring_9 (by decide) ?_
  exact W.iret (v := 0) hx hb hr (fun t ht hW => ⟨⟨0, (), rfl, rfl, q_RW_mk hP hK hD [0, 1] [] rfl rfl (by decide) rfl ht hW.alike⟩, hS.F ht⟩) hS.2.2 dX11_ring_10
theorem dX11_mass_0 : decode cX11_mass 0 = .ok (.aload_n 0, 1) := by decide +kernel
theorem dX11_mass_1 : decode cX11_mass 1 = .ok (.iload_n 1, 1) := by decide +kernel
theorem dX11_mass_2 : decode cX11_mass 2 = .ok (.invokevirtual 51, 3) := by decide +kernel
theorem dX11_mass_5 : decode cX11_mass 5 = .ok (.ifCond .eq 7, 3) := by decide +kernel
theorem dX11_mass_8 : decode cX11_mass 8 = .ok (.iconst 0, 1) := by decide +kernel
theorem dX11_mass_9 : decode cX11_mass 9 = .ok (.goto 17, 3) := by decide +kernel
theorem dX11_mass_26 : decode cX11_mass 26 = .ok (.ireturn, 1) := by decide +kernel
def wzEX11_mass : List Cond := [.code yX11_mass cX11_mass 2 (some .int), .methodLink RX11 51 yX11_noPiece, .instanceMethod yX11_noPiece, .selects RX11 yX11_noPiece yX11_noPiece, .initialized RX11, .code yX11_noPiece cX11_noPiece 2 (some .boolean), .fieldLink RX11 19 "GatherhouseModel" "pieces" "Ljava/util/ArrayList;", .methodLink RX11 44 yJx4a65c_size_8abf5, .instanceMethod yJx4a65c_size_8abf5, .selects RJx4a65c yJx4a65c_size_8abf5 yJx4a65c_size_8abf5, .initialized RJx4a65c, .code yJx4a65c_size_8abf5 cJx4a65c_size_8abf5 1 (some .int), .fieldLink RJx4a65c 48 "java/util/ArrayList" "size" "I", .methodLink RX11 47 yX11_in, .static yX11_in, .code yX11_in cX11_in 3 (some .boolean), .fieldLink RX11 41 "GatherhouseModel" "thrown" "I"]
def wzX11_mass : List Cond := wzEX11_mass ++ (u_ws RX11 TX11 13 ++ (u_ws RJx4a65c TJx4a65c 3))
theorem zgEX11_mass : wzEX11_mass.all goodWord = true := by decide +kernel
theorem zuX11_mass_X11 : ∀ w ∈ u_ws RX11 TX11 13, w ∈ wzX11_mass := (fun _ h => (List.mem_append_right _ (List.mem_append_left _ h)))
theorem zuX11_mass_Jx4a65c : ∀ w ∈ u_ws RJx4a65c TJx4a65c 3, w ∈ wzX11_mass := (fun _ h => (List.mem_append_right _ (List.mem_append_right _ h)))
theorem gzX11_mass_X11_noPiece_51 : GoodIn wzX11_mass (wsV RX11 51 RX11 yX11_noPiece wzX11_noPiece) := (goodIn_app (z_lift (goodIn_r _ [1, 2, 3, 4] rfl (by decide +kernel))) (goodIn_app (z_lift (goodIn_r wzEX11_noPiece [5, 6, 7, 8, 9, 10, 11, 12, 13, 14, 4, 15, 16] rfl zgEX11_noPiece)) (goodIn_app (goodIn_sub (fun _ h => (List.mem_append_right _ (List.mem_append_left _ h))) zgU_X11) (goodIn_sub (fun _ h => (List.mem_append_right _ (List.mem_append_right _ h))) zgU_Jx4a65c))))
set_option maxHeartbeats 4000000 in
set_option maxRecDepth 100000 in
theorem zc_X11_mass (l : Launch) (D : va_G) (G : Nat × Nat × Nat) (mo : Nat) (gl : Nat) (po : Nat) (pi : Nat) (bu : Nat) (pa : Nat) (th : Int32) (mh : Int32) (mt : Int32) (ii : Int32) (sz : Nat) : Met l yX11_mass wzX11_mass ({ frames := 2, cells := 0, slots := 0, locals := 43 }) (va_Pc [.ref mo, .int ii] (p_RW D G [] [(mo, .inr (16, [.int th, .ref gl, .ref po, .ref pi, .ref bu, .ref pa, .int mt, .int mh, .int 40, .int 0, .null, .int 0, .int 0])), (pi, .inr (4, [.int 0, .ref G.1, .int 0]))] sz)) (va_Qi (fun (r : Int32) (u : Unit) => r = 0) (fun (u : Unit) (t : State) => q_RW D [] [(mo, .inr (16, [.int 1, .ref gl, .ref po, .ref pi, .ref bu, .ref pa, .int mt, .int mh, .int 40, .int 0, .null, .int 0, .int 0])), (pi, .inr (4, [.int 0, .ref G.1, .int 0]))] (va_A [(mo, .inr (16, [.int th, .ref gl, .ref po, .ref pi, .ref bu, .ref pa, .int mt, .int mh, .int 40, .int 0, .null, .int 0, .int 0])), (pi, .inr (4, [.int 0, .ref G.1, .int 0]))] sz) t) (va_A [(mo, .inr (16, [.int th, .ref gl, .ref po, .ref pi, .ref bu, .ref pa, .int mt, .int mh, .int 40, .int 0, .null, .int 0, .int 0])), (pi, .inr (4, [.int 0, .ref G.1, .int 0]))] sz)) 0 0 (va_A [(mo, .inr (16, [.int th, .ref gl, .ref po, .ref pi, .ref bu, .ref pa, .int mt, .int mh, .int 40, .int 0, .null, .int 0, .int 0])), (pi, .inr (4, [.int 0, .ref G.1, .int 0]))] sz) := by
  refine Met.ofW (cc := cX11_mass) (maxL := 2) (ret := (some .int)) (by decide) rfl ?_
  intro p e s m args below meth c s₁ B hml hv
  obtain ⟨rfl, hsz, hP, hK, hD0, hT, hZ⟩ := hv
  have hx := B.exec
  have hb := B.bytes
  have hr := B.returns
  have hts := atoms_spec (ws := wzX11_mass) B.pre
  have hown : s.vm.findClass RX11 = some m.cls := findClass_of_methodNamed B.named
  have hlocks := B.notSynchronized
  subst hsz
  have hD := hD0.self (sz := s.heap.size)
  generalize hAe : va_A [(mo, .inr (16, [.int th, .ref gl, .ref po, .ref pi, .ref bu, .ref pa, .int mt, .int mh, .int 40, .int 0, .null, .int 0, .int 0])), (pi, .inr (4, [.int 0, .ref G.1, .int 0]))] s.heap.size = A at hD hZ ⊢
  have hA : ∀ q : Nat, s.heap.size ≤ q → A q := fun q h => by rw [← hAe]; exact Or.inr h
  have hS : va_S A s.heap s.heap [] := va_S.rf
  have hl := lv_entry ([.ref mo, .int ii]) (n := 2) (Nat.le_of_ble_eq_true rfl)
  rw [lg_entry_eq]
  generalize (lg_sl ([.ref mo, .int ii]) ++ List.replicate (2 - (lg_sl ([.ref mo, .int ii])).length) Slot.unset).toArray = ls at hl ⊢
  have hl : lv_has ls 2 [(0, .ref mo), (1, .int ii)] := hl
  refine lv_aload_n hx hb dX11_mass_0 rfl (lv_at hl 0 rfl) ?_
  refine lv_iload_n hx hb dX11_mass_1 rfl (lv_at hl 1 rfl) ?_
  have hFc := va_free (wc := [(mo, .inr (16, [.int th, .ref gl, .ref po, .ref pi, .ref bu, .ref pa, .int mt, .int mh, .int 40, .int 0, .null, .int 0, .int 0])), (pi, .inr (4, [.int 0, .ref G.1, .int 0]))]) hD hS hA [0, 1] rfl
  refine va_calli (va_runV (As := [.int ii]) (rest := []) ⟨hx, hb, hml, hown, hts⟩ (zc_X11_noPiece l D G mo gl po pi bu pa th mh mt ii s.heap.size) (cwV 1 hts gzX11_mass_X11_noPiece_51 rfl rfl rfl (by decide +kernel) ⟨(Nat.le_of_ble_eq_true rfl), (Nat.le_of_ble_eq_true rfl)⟩) ⟨p_RW_blind, va_recv hK hP (ci := 16) (q0 := 0) rfl rfl, (p_RW_at (tc := []) (wc := [(mo, .inr (16, [.int th, .ref gl, .ref po, .ref pi, .ref bu, .ref pa, .int mt, .int mh, .int 40, .int 0, .null, .int 0, .int 0])), (pi, .inr (4, [.int 0, .ref G.1, .int 0]))]) hP hK hD hS hA hT hZ [0, 1] [] rfl rfl (by decide) rfl [.ref mo, .int ii])⟩ rfl rfl hl.1 rfl (lv_room (Nat.le_of_ble_eq_true rfl)) dX11_mass_2 ⟨(Nat.le_of_ble_eq_true rfl), (Nat.le_of_ble_eq_true rfl)⟩) hS (fun q _ h => hFc q h) hFc (fun r_443 u t H locs ht hvm w_444 hB hz1 hk1 hS => ?_)
  obtain ⟨hP, hD, hK⟩ := q_join (D := D) (wc := [(mo, .inr (16, [.int th, .ref gl, .ref po, .ref pi, .ref bu, .ref pa, .int mt, .int mh, .int 40, .int 0, .null, .int 0, .int 0])), (pi, .inr (4, [.int 0, .ref G.1, .int 0]))]) (wr := []) (w1 := [(mo, .inr (16, [.int 1, .ref gl, .ref po, .ref pi, .ref bu, .ref pa, .int mt, .int mh, .int 40, .int 0, .null, .int 0, .int 0])), (pi, .inr (4, [.int 0, .ref G.1, .int 0]))]) (tyr := []) (ty1 := []) hP hD hK [0, 1] [] [] rfl rfl (by decide) (by decide) rfl hFc hk1 ht hvm hB
  have hP : va_P D vwCl [(mo, .inr (16, [.int 1, .ref gl, .ref po, .ref pi, .ref bu, .ref pa, .int mt, .int mh, .int 40, .int 0, .null, .int 0, .int 0])), (pi, .inr (4, [.int 0, .ref G.1, .int 0]))] H := hP
  have hD : va_D A [(mo, .inr (16, [.int 1, .ref gl, .ref po, .ref pi, .ref bu, .ref pa, .int mt, .int mh, .int 40, .int 0, .null, .int 0, .int 0])), (pi, .inr (4, [.int 0, .ref G.1, .int 0]))] := hD
  have hK : va_K D vwCl [] s := hK
  obtain rfl := w_444
  refine lv_if_eq (tgt := 12) hx hb dX11_mass_5 (by decide) (fun cc => absurd cc (by decide)) (fun _ => ?_)
  refine lv_iconst (v := 0) hx hb dX11_mass_8 (by decide) ?_
  refine lv_goto (tgt := 26) hx hb dX11_mass_9 (by decide) ?_
  exact W.iret (v := 0) hx hb hr (fun t ht hW => ⟨⟨0, (), rfl, rfl, q_RW_mk hP hK hD [0, 1] [] rfl rfl (by decide) rfl ht hW.alike⟩, hS.F ht⟩) hS.2.2 dX11_mass_26
theorem dX11_height_0 : decode cX11_height 0 = .ok (.aload_n 0, 1) := by decide +kernel
theorem dX11_height_1 : decode cX11_height 1 = .ok (.iload_n 1, 1) := by decide +kernel
theorem dX11_height_2 : decode cX11_height 2 = .ok (.invokevirtual 51, 3) := by decide +kernel
theorem dX11_height_5 : decode cX11_height 5 = .ok (.ifCond .eq 7, 3) := by decide +kernel
theorem dX11_height_8 : decode cX11_height 8 = .ok (.iconst 0, 1) := by decide +kernel
theorem dX11_height_9 : decode cX11_height 9 = .ok (.goto 17, 3) := by decide +kernel
theorem dX11_height_26 : decode cX11_height 26 = .ok (.ireturn, 1) := by decide +kernel
def wzEX11_height : List Cond := [.code yX11_height cX11_height 2 (some .int), .methodLink RX11 51 yX11_noPiece, .instanceMethod yX11_noPiece, .selects RX11 yX11_noPiece yX11_noPiece, .initialized RX11, .code yX11_noPiece cX11_noPiece 2 (some .boolean), .fieldLink RX11 19 "GatherhouseModel" "pieces" "Ljava/util/ArrayList;", .methodLink RX11 44 yJx4a65c_size_8abf5, .instanceMethod yJx4a65c_size_8abf5, .selects RJx4a65c yJx4a65c_size_8abf5 yJx4a65c_size_8abf5, .initialized RJx4a65c, .code yJx4a65c_size_8abf5 cJx4a65c_size_8abf5 1 (some .int), .fieldLink RJx4a65c 48 "java/util/ArrayList" "size" "I", .methodLink RX11 47 yX11_in, .static yX11_in, .code yX11_in cX11_in 3 (some .boolean), .fieldLink RX11 41 "GatherhouseModel" "thrown" "I"]
def wzX11_height : List Cond := wzEX11_height ++ (u_ws RX11 TX11 13 ++ (u_ws RJx4a65c TJx4a65c 3))
theorem zgEX11_height : wzEX11_height.all goodWord = true := by decide +kernel
theorem zuX11_height_X11 : ∀ w ∈ u_ws RX11 TX11 13, w ∈ wzX11_height := (fun _ h => (List.mem_append_right _ (List.mem_append_left _ h)))
theorem zuX11_height_Jx4a65c : ∀ w ∈ u_ws RJx4a65c TJx4a65c 3, w ∈ wzX11_height := (fun _ h => (List.mem_append_right _ (List.mem_append_right _ h)))
theorem gzX11_height_X11_noPiece_51 : GoodIn wzX11_height (wsV RX11 51 RX11 yX11_noPiece wzX11_noPiece) := (goodIn_app (z_lift (goodIn_r _ [1, 2, 3, 4] rfl (by decide +kernel))) (goodIn_app (z_lift (goodIn_r wzEX11_noPiece [5, 6, 7, 8, 9, 10, 11, 12, 13, 14, 4, 15, 16] rfl zgEX11_noPiece)) (goodIn_app (goodIn_sub (fun _ h => (List.mem_append_right _ (List.mem_append_left _ h))) zgU_X11) (goodIn_sub (fun _ h => (List.mem_append_right _ (List.mem_append_right _ h))) zgU_Jx4a65c))))
set_option maxHeartbeats 4000000 in
set_option maxRecDepth 100000 in
theorem zc_X11_height (l : Launch) (D : va_G) (G : Nat × Nat × Nat) (mo : Nat) (gl : Nat) (po : Nat) (pi : Nat) (bu : Nat) (pa : Nat) (th : Int32) (mh : Int32) (mt : Int32) (ii : Int32) (sz : Nat) : Met l yX11_height wzX11_height ({ frames := 2, cells := 0, slots := 0, locals := 43 }) (va_Pc [.ref mo, .int ii] (p_RW D G [] [(mo, .inr (16, [.int th, .ref gl, .ref po, .ref pi, .ref bu, .ref pa, .int mt, .int mh, .int 40, .int 0, .null, .int 0, .int 0])), (pi, .inr (4, [.int 0, .ref G.1, .int 0]))] sz)) (va_Qi (fun (r : Int32) (u : Unit) => r = 0) (fun (u : Unit) (t : State) => q_RW D [] [(mo, .inr (16, [.int 1, .ref gl, .ref po, .ref pi, .ref bu, .ref pa, .int mt, .int mh, .int 40, .int 0, .null, .int 0, .int 0])), (pi, .inr (4, [.int 0, .ref G.1, .int 0]))] (va_A [(mo, .inr (16, [.int th, .ref gl, .ref po, .ref pi, .ref bu, .ref pa, .int mt, .int mh, .int 40, .int 0, .null, .int 0, .int 0])), (pi, .inr (4, [.int 0, .ref G.1, .int 0]))] sz) t) (va_A [(mo, .inr (16, [.int th, .ref gl, .ref po, .ref pi, .ref bu, .ref pa, .int mt, .int mh, .int 40, .int 0, .null, .int 0, .int 0])), (pi, .inr (4, [.int 0, .ref G.1, .int 0]))] sz)) 0 0 (va_A [(mo, .inr (16, [.int th, .ref gl, .ref po, .ref pi, .ref bu, .ref pa, .int mt, .int mh, .int 40, .int 0, .null, .int 0, .int 0])), (pi, .inr (4, [.int 0, .ref G.1, .int 0]))] sz) := by
  refine Met.ofW (cc := cX11_height) (maxL := 2) (ret := (some .int)) (by decide) rfl ?_
  intro p e s m args below meth c s₁ B hml hv
  obtain ⟨rfl, hsz, hP, hK, hD0, hT, hZ⟩ := hv
  have hx := B.exec
  have hb := B.bytes
  have hr := B.returns
  have hts := atoms_spec (ws := wzX11_height) B.pre
  have hown : s.vm.findClass RX11 = some m.cls := findClass_of_methodNamed B.named
  have hlocks := B.notSynchronized
  subst hsz
  have hD := hD0.self (sz := s.heap.size)
  generalize hAe : va_A [(mo, .inr (16, [.int th, .ref gl, .ref po, .ref pi, .ref bu, .ref pa, .int mt, .int mh, .int 40, .int 0, .null, .int 0, .int 0])), (pi, .inr (4, [.int 0, .ref G.1, .int 0]))] s.heap.size = A at hD hZ ⊢
  have hA : ∀ q : Nat, s.heap.size ≤ q → A q := fun q h => by rw [← hAe]; exact Or.inr h
  have hS : va_S A s.heap s.heap [] := va_S.rf
  have hl := lv_entry ([.ref mo, .int ii]) (n := 2) (Nat.le_of_ble_eq_true rfl)
  rw [lg_entry_eq]
  generalize (lg_sl ([.ref mo, .int ii]) ++ List.replicate (2 - (lg_sl ([.ref mo, .int ii])).length) Slot.unset).toArray = ls at hl ⊢
  have hl : lv_has ls 2 [(0, .ref mo), (1, .int ii)] := hl
  refine lv_aload_n hx hb dX11_height_0 rfl (lv_at hl 0 rfl) ?_
  refine lv_iload_n hx hb dX11_height_1 rfl (lv_at hl 1 rfl) ?_
  have hFc := va_free (wc := [(mo, .inr (16, [.int th, .ref gl, .ref po, .ref pi, .ref bu, .ref pa, .int mt, .int mh, .int 40, .int 0, .null, .int 0, .int 0])), (pi, .inr (4, [.int 0, .ref G.1, .int 0]))]) hD hS hA [0, 1] rfl
  refine va_calli (va_runV (As := [.int ii]) (rest := []) ⟨hx, hb, hml, hown, hts⟩ (zc_X11_noPiece l D G mo gl po pi bu pa th mh mt ii s.heap.size) (cwV 1 hts gzX11_height_X11_noPiece_51 rfl rfl rfl (by decide +kernel) ⟨(Nat.le_of_ble_eq_true rfl), (Nat.le_of_ble_eq_true rfl)⟩) ⟨p_RW_blind, va_recv hK hP (ci := 16) (q0 := 0) rfl rfl, (p_RW_at (tc := []) (wc := [(mo, .inr (16, [.int th, .ref gl, .ref po, .ref pi, .ref bu, .ref pa, .int mt, .int mh, .int 40, .int 0, .null, .int 0, .int 0])), (pi, .inr (4, [.int 0, .ref G.1, .int 0]))]) hP hK hD hS hA hT hZ [0, 1] [] rfl rfl (by decide) rfl [.ref mo, .int ii])⟩ rfl rfl hl.1 rfl (lv_room (Nat.le_of_ble_eq_true rfl)) dX11_height_2 ⟨(Nat.le_of_ble_eq_true rfl), (Nat.le_of_ble_eq_true rfl)⟩) hS (fun q _ h => hFc q h) hFc (fun r_445 u t H locs ht hvm w_446 hB hz1 hk1 hS => ?_)
  obtain ⟨hP, hD, hK⟩ := q_join (D := D) (wc := [(mo, .inr (16, [.int th, .ref gl, .ref po, .ref pi, .ref bu, .ref pa, .int mt, .int mh, .int 40, .int 0, .null, .int 0, .int 0])), (pi, .inr (4, [.int 0, .ref G.1, .int 0]))]) (wr := []) (w1 := [(mo, .inr (16, [.int 1, .ref gl, .ref po, .ref pi, .ref bu, .ref pa, .int mt, .int mh, .int 40, .int 0, .null, .int 0, .int 0])), (pi, .inr (4, [.int 0, .ref G.1, .int 0]))]) (tyr := []) (ty1 := []) hP hD hK [0, 1] [] [] rfl rfl (by decide) (by decide) rfl hFc hk1 ht hvm hB
  have hP : va_P D vwCl [(mo, .inr (16, [.int 1, .ref gl, .ref po, .ref pi, .ref bu, .ref pa, .int mt, .int mh, .int 40, .int 0, .null, .int 0, .int 0])), (pi, .inr (4, [.int 0, .ref G.1, .int 0]))] H := hP
  have hD : va_D A [(mo, .inr (16, [.int 1, .ref gl, .ref po, .ref pi, .ref bu, .ref pa, .int mt, .int mh, .int 40, .int 0, .null, .int 0, .int 0])), (pi, .inr (4, [.int 0, .ref G.1, .int 0]))] := hD
  have hK : va_K D vwCl [] s := hK
  obtain rfl := w_446
  refine lv_if_eq (tgt := 12) hx hb dX11_height_5 (by decide) (fun cc => absurd cc (by decide)) (fun _ => ?_)
  refine lv_iconst (v := 0) hx hb dX11_height_8 (by decide) ?_
  refine lv_goto (tgt := 26) hx hb dX11_height_9 (by decide) ?_
  exact W.iret (v := 0) hx hb hr (fun t ht hW => ⟨⟨0, (), rfl, rfl, q_RW_mk hP hK hD [0, 1] [] rfl rfl (by decide) rfl ht hW.alike⟩, hS.F ht⟩) hS.2.2 dX11_height_26
theorem dX11_layers_0 : decode cX11_layers 0 = .ok (.aload_n 0, 1) := by decide +kernel
theorem dX11_layers_1 : decode cX11_layers 1 = .ok (.iload_n 1, 1) := by decide +kernel
theorem dX11_layers_2 : decode cX11_layers 2 = .ok (.invokevirtual 51, 3) := by decide +kernel
theorem dX11_layers_5 : decode cX11_layers 5 = .ok (.ifCond .eq 7, 3) := by decide +kernel
theorem dX11_layers_8 : decode cX11_layers 8 = .ok (.iconst 0, 1) := by decide +kernel
theorem dX11_layers_9 : decode cX11_layers 9 = .ok (.goto 17, 3) := by decide +kernel
theorem dX11_layers_26 : decode cX11_layers 26 = .ok (.ireturn, 1) := by decide +kernel
def wzEX11_layers : List Cond := [.code yX11_layers cX11_layers 2 (some .int), .methodLink RX11 51 yX11_noPiece, .instanceMethod yX11_noPiece, .selects RX11 yX11_noPiece yX11_noPiece, .initialized RX11, .code yX11_noPiece cX11_noPiece 2 (some .boolean), .fieldLink RX11 19 "GatherhouseModel" "pieces" "Ljava/util/ArrayList;", .methodLink RX11 44 yJx4a65c_size_8abf5, .instanceMethod yJx4a65c_size_8abf5, .selects RJx4a65c yJx4a65c_size_8abf5 yJx4a65c_size_8abf5, .initialized RJx4a65c, .code yJx4a65c_size_8abf5 cJx4a65c_size_8abf5 1 (some .int), .fieldLink RJx4a65c 48 "java/util/ArrayList" "size" "I", .methodLink RX11 47 yX11_in, .static yX11_in, .code yX11_in cX11_in 3 (some .boolean), .fieldLink RX11 41 "GatherhouseModel" "thrown" "I"]
def wzX11_layers : List Cond := wzEX11_layers ++ (u_ws RX11 TX11 13 ++ (u_ws RJx4a65c TJx4a65c 3))
theorem zgEX11_layers : wzEX11_layers.all goodWord = true := by decide +kernel
theorem zuX11_layers_X11 : ∀ w ∈ u_ws RX11 TX11 13, w ∈ wzX11_layers := (fun _ h => (List.mem_append_right _ (List.mem_append_left _ h)))
theorem zuX11_layers_Jx4a65c : ∀ w ∈ u_ws RJx4a65c TJx4a65c 3, w ∈ wzX11_layers := (fun _ h => (List.mem_append_right _ (List.mem_append_right _ h)))
theorem gzX11_layers_X11_noPiece_51 : GoodIn wzX11_layers (wsV RX11 51 RX11 yX11_noPiece wzX11_noPiece) := (goodIn_app (z_lift (goodIn_r _ [1, 2, 3, 4] rfl (by decide +kernel))) (goodIn_app (z_lift (goodIn_r wzEX11_noPiece [5, 6, 7, 8, 9, 10, 11, 12, 13, 14, 4, 15, 16] rfl zgEX11_noPiece)) (goodIn_app (goodIn_sub (fun _ h => (List.mem_append_right _ (List.mem_append_left _ h))) zgU_X11) (goodIn_sub (fun _ h => (List.mem_append_right _ (List.mem_append_right _ h))) zgU_Jx4a65c))))
set_option maxHeartbeats 4000000 in
set_option maxRecDepth 100000 in
theorem zc_X11_layers (l : Launch) (D : va_G) (G : Nat × Nat × Nat) (mo : Nat) (gl : Nat) (po : Nat) (pi : Nat) (bu : Nat) (pa : Nat) (th : Int32) (mh : Int32) (mt : Int32) (ii : Int32) (sz : Nat) : Met l yX11_layers wzX11_layers ({ frames := 2, cells := 0, slots := 0, locals := 43 }) (va_Pc [.ref mo, .int ii] (p_RW D G [] [(mo, .inr (16, [.int th, .ref gl, .ref po, .ref pi, .ref bu, .ref pa, .int mt, .int mh, .int 40, .int 0, .null, .int 0, .int 0])), (pi, .inr (4, [.int 0, .ref G.1, .int 0]))] sz)) (va_Qi (fun (r : Int32) (u : Unit) => r = 0) (fun (u : Unit) (t : State) => q_RW D [] [(mo, .inr (16, [.int 1, .ref gl, .ref po, .ref pi, .ref bu, .ref pa, .int mt, .int mh, .int 40, .int 0, .null, .int 0, .int 0])), (pi, .inr (4, [.int 0, .ref G.1, .int 0]))] (va_A [(mo, .inr (16, [.int th, .ref gl, .ref po, .ref pi, .ref bu, .ref pa, .int mt, .int mh, .int 40, .int 0, .null, .int 0, .int 0])), (pi, .inr (4, [.int 0, .ref G.1, .int 0]))] sz) t) (va_A [(mo, .inr (16, [.int th, .ref gl, .ref po, .ref pi, .ref bu, .ref pa, .int mt, .int mh, .int 40, .int 0, .null, .int 0, .int 0])), (pi, .inr (4, [.int 0, .ref G.1, .int 0]))] sz)) 0 0 (va_A [(mo, .inr (16, [.int th, .ref gl, .ref po, .ref pi, .ref bu, .ref pa, .int mt, .int mh, .int 40, .int 0, .null, .int 0, .int 0])), (pi, .inr (4, [.int 0, .ref G.1, .int 0]))] sz) := by
  refine Met.ofW (cc := cX11_layers) (maxL := 2) (ret := (some .int)) (by decide) rfl ?_
  intro p e s m args below meth c s₁ B hml hv
  obtain ⟨rfl, hsz, hP, hK, hD0, hT, hZ⟩ := hv
  have hx := B.exec
  have hb := B.bytes
  have hr := B.returns
  have hts := atoms_spec (ws := wzX11_layers) B.pre
  have hown : s.vm.findClass RX11 = some m.cls := findClass_of_methodNamed B.named
  have hlocks := B.notSynchronized
  subst hsz
  have hD := hD0.self (sz := s.heap.size)
  generalize hAe : va_A [(mo, .inr (16, [.int th, .ref gl, .ref po, .ref pi, .ref bu, .ref pa, .int mt, .int mh, .int 40, .int 0, .null, .int 0, .int 0])), (pi, .inr (4, [.int 0, .ref G.1, .int 0]))] s.heap.size = A at hD hZ ⊢
  have hA : ∀ q : Nat, s.heap.size ≤ q → A q := fun q h => by rw [← hAe]; exact Or.inr h
  have hS : va_S A s.heap s.heap [] := va_S.rf
  have hl := lv_entry ([.ref mo, .int ii]) (n := 2) (Nat.le_of_ble_eq_true rfl)
  rw [lg_entry_eq]
  generalize (lg_sl ([.ref mo, .int ii]) ++ List.replicate (2 - (lg_sl ([.ref mo, .int ii])).length) Slot.unset).toArray = ls at hl ⊢
  have hl : lv_has ls 2 [(0, .ref mo), (1, .int ii)] := hl
  refine lv_aload_n hx hb dX11_layers_0 rfl (lv_at hl 0 rfl) ?_
  refine lv_iload_n hx hb dX11_layers_1 rfl (lv_at hl 1 rfl) ?_
  have hFc := va_free (wc := [(mo, .inr (16, [.int th, .ref gl, .ref po, .ref pi, .ref bu, .ref pa, .int mt, .int mh, .int 40, .int 0, .null, .int 0, .int 0])), (pi, .inr (4, [.int 0, .ref G.1, .int 0]))]) hD hS hA [0, 1] rfl
  refine va_calli (va_runV (As := [.int ii]) (rest := []) ⟨hx, hb, hml, hown, hts⟩ (zc_X11_noPiece l D G mo gl po pi bu pa th mh mt ii s.heap.size) (cwV 1 hts gzX11_layers_X11_noPiece_51 rfl rfl rfl (by decide +kernel) ⟨(Nat.le_of_ble_eq_true rfl), (Nat.le_of_ble_eq_true rfl)⟩) ⟨p_RW_blind, va_recv hK hP (ci := 16) (q0 := 0) rfl rfl, (p_RW_at (tc := []) (wc := [(mo, .inr (16, [.int th, .ref gl, .ref po, .ref pi, .ref bu, .ref pa, .int mt, .int mh, .int 40, .int 0, .null, .int 0, .int 0])), (pi, .inr (4, [.int 0, .ref G.1, .int 0]))]) hP hK hD hS hA hT hZ [0, 1] [] rfl rfl (by decide) rfl [.ref mo, .int ii])⟩ rfl rfl hl.1 rfl (lv_room (Nat.le_of_ble_eq_true rfl)) dX11_layers_2 ⟨(Nat.le_of_ble_eq_true rfl), (Nat.le_of_ble_eq_true rfl)⟩) hS (fun q _ h => hFc q h) hFc (fun r_447 u t H locs ht hvm w_448 hB hz1 hk1 hS => ?_)
  obtain ⟨hP, hD, hK⟩ := q_join (D := D) (wc := [(mo, .inr (16, [.int th, .ref gl, .ref po, .ref pi, .ref bu, .ref pa, .int mt, .int mh, .int 40, .int 0, .null, .int 0, .int 0])), (pi, .inr (4, [.int 0, .ref G.1, .int 0]))]) (wr := []) (w1 := [(mo, .inr (16, [.int 1, .ref gl, .ref po, .ref pi, .ref bu, .ref pa, .int mt, .int mh, .int 40, .int 0, .null, .int 0, .int 0])), (pi, .inr (4, [.int 0, .ref G.1, .int 0]))]) (tyr := []) (ty1 := []) hP hD hK [0, 1] [] [] rfl rfl (by decide) (by decide) rfl hFc hk1 ht hvm hB
  have hP : va_P D vwCl [(mo, .inr (16, [.int 1, .ref gl, .ref po, .ref pi, .ref bu, .ref pa, .int mt, .int mh, .int 40, .int 0, .null, .int 0, .int 0])), (pi, .inr (4, [.int 0, .ref G.1, .int 0]))] H := hP
  have hD : va_D A [(mo, .inr (16, [.int 1, .ref gl, .ref po, .ref pi, .ref bu, .ref pa, .int mt, .int mh, .int 40, .int 0, .null, .int 0, .int 0])), (pi, .inr (4, [.int 0, .ref G.1, .int 0]))] := hD
  have hK : va_K D vwCl [] s := hK
  obtain rfl := w_448
  refine lv_if_eq (tgt := 12) hx hb dX11_layers_5 (by decide) (fun cc => absurd cc (by decide)) (fun _ => ?_)
  refine lv_iconst (v := 0) hx hb dX11_layers_8 (by decide) ?_
  refine lv_goto (tgt := 26) hx hb dX11_layers_9 (by decide) ?_
  exact W.iret (v := 0) hx hb hr (fun t ht hW => ⟨⟨0, (), rfl, rfl, q_RW_mk hP hK hD [0, 1] [] rfl rfl (by decide) rfl ht hW.alike⟩, hS.F ht⟩) hS.2.2 dX11_layers_26
theorem dX11_flaws_0 : decode cX11_flaws 0 = .ok (.aload_n 0, 1) := by decide +kernel
theorem dX11_flaws_1 : decode cX11_flaws 1 = .ok (.iload_n 1, 1) := by decide +kernel
theorem dX11_flaws_2 : decode cX11_flaws 2 = .ok (.invokevirtual 51, 3) := by decide +kernel
theorem dX11_flaws_5 : decode cX11_flaws 5 = .ok (.ifCond .eq 7, 3) := by decide +kernel
theorem dX11_flaws_8 : decode cX11_flaws 8 = .ok (.iconst 0, 1) := by decide +kernel
theorem dX11_flaws_9 : decode cX11_flaws 9 = .ok (.goto 17, 3) := by decide +kernel
theorem dX11_flaws_26 : decode cX11_flaws 26 = .ok (.ireturn, 1) := by decide +kernel
def wzEX11_flaws : List Cond := [.code yX11_flaws cX11_flaws 2 (some .int), .methodLink RX11 51 yX11_noPiece, .instanceMethod yX11_noPiece, .selects RX11 yX11_noPiece yX11_noPiece, .initialized RX11, .code yX11_noPiece cX11_noPiece 2 (some .boolean), .fieldLink RX11 19 "GatherhouseModel" "pieces" "Ljava/util/ArrayList;", .methodLink RX11 44 yJx4a65c_size_8abf5, .instanceMethod yJx4a65c_size_8abf5, .selects RJx4a65c yJx4a65c_size_8abf5 yJx4a65c_size_8abf5, .initialized RJx4a65c, .code yJx4a65c_size_8abf5 cJx4a65c_size_8abf5 1 (some .int), .fieldLink RJx4a65c 48 "java/util/ArrayList" "size" "I", .methodLink RX11 47 yX11_in, .static yX11_in, .code yX11_in cX11_in 3 (some .boolean), .fieldLink RX11 41 "GatherhouseModel" "thrown" "I"]
def wzX11_flaws : List Cond := wzEX11_flaws ++ (u_ws RX11 TX11 13 ++ (u_ws RJx4a65c TJx4a65c 3))
theorem zgEX11_flaws : wzEX11_flaws.all goodWord = true := by decide +kernel
theorem zuX11_flaws_X11 : ∀ w ∈ u_ws RX11 TX11 13, w ∈ wzX11_flaws := (fun _ h => (List.mem_append_right _ (List.mem_append_left _ h)))
theorem zuX11_flaws_Jx4a65c : ∀ w ∈ u_ws RJx4a65c TJx4a65c 3, w ∈ wzX11_flaws := (fun _ h => (List.mem_append_right _ (List.mem_append_right _ h)))
theorem gzX11_flaws_X11_noPiece_51 : GoodIn wzX11_flaws (wsV RX11 51 RX11 yX11_noPiece wzX11_noPiece) := (goodIn_app (z_lift (goodIn_r _ [1, 2, 3, 4] rfl (by decide +kernel))) (goodIn_app (z_lift (goodIn_r wzEX11_noPiece [5, 6, 7, 8, 9, 10, 11, 12, 13, 14, 4, 15, 16] rfl zgEX11_noPiece)) (goodIn_app (goodIn_sub (fun _ h => (List.mem_append_right _ (List.mem_append_left _ h))) zgU_X11) (goodIn_sub (fun _ h => (List.mem_append_right _ (List.mem_append_right _ h))) zgU_Jx4a65c))))
set_option maxHeartbeats 4000000 in
set_option maxRecDepth 100000 in
theorem zc_X11_flaws (l : Launch) (D : va_G) (G : Nat × Nat × Nat) (mo : Nat) (gl : Nat) (po : Nat) (pi : Nat) (bu : Nat) (pa : Nat) (th : Int32) (mh : Int32) (mt : Int32) (ii : Int32) (sz : Nat) : Met l yX11_flaws wzX11_flaws ({ frames := 2, cells := 0, slots := 0, locals := 43 }) (va_Pc [.ref mo, .int ii] (p_RW D G [] [(mo, .inr (16, [.int th, .ref gl, .ref po, .ref pi, .ref bu, .ref pa, .int mt, .int mh, .int 40, .int 0, .null, .int 0, .int 0])), (pi, .inr (4, [.int 0, .ref G.1, .int 0]))] sz)) (va_Qi (fun (r : Int32) (u : Unit) => r = 0) (fun (u : Unit) (t : State) => q_RW D [] [(mo, .inr (16, [.int 1, .ref gl, .ref po, .ref pi, .ref bu, .ref pa, .int mt, .int mh, .int 40, .int 0, .null, .int 0, .int 0])), (pi, .inr (4, [.int 0, .ref G.1, .int 0]))] (va_A [(mo, .inr (16, [.int th, .ref gl, .ref po, .ref pi, .ref bu, .ref pa, .int mt, .int mh, .int 40, .int 0, .null, .int 0, .int 0])), (pi, .inr (4, [.int 0, .ref G.1, .int 0]))] sz) t) (va_A [(mo, .inr (16, [.int th, .ref gl, .ref po, .ref pi, .ref bu, .ref pa, .int mt, .int mh, .int 40, .int 0, .null, .int 0, .int 0])), (pi, .inr (4, [.int 0, .ref G.1, .int 0]))] sz)) 0 0 (va_A [(mo, .inr (16, [.int th, .ref gl, .ref po, .ref pi, .ref bu, .ref pa, .int mt, .int mh, .int 40, .int 0, .null, .int 0, .int 0])), (pi, .inr (4, [.int 0, .ref G.1, .int 0]))] sz) := by
  refine Met.ofW (cc := cX11_flaws) (maxL := 2) (ret := (some .int)) (by decide) rfl ?_
  intro p e s m args below meth c s₁ B hml hv
  obtain ⟨rfl, hsz, hP, hK, hD0, hT, hZ⟩ := hv
  have hx := B.exec
  have hb := B.bytes
  have hr := B.returns
  have hts := atoms_spec (ws := wzX11_flaws) B.pre
  have hown : s.vm.findClass RX11 = some m.cls := findClass_of_methodNamed B.named
  have hlocks := B.notSynchronized
  subst hsz
  have hD := hD0.self (sz := s.heap.size)
  generalize hAe : va_A [(mo, .inr (16, [.int th, .ref gl, .ref po, .ref pi, .ref bu, .ref pa, .int mt, .int mh, .int 40, .int 0, .null, .int 0, .int 0])), (pi, .inr (4, [.int 0, .ref G.1, .int 0]))] s.heap.size = A at hD hZ ⊢
  have hA : ∀ q : Nat, s.heap.size ≤ q → A q := fun q h => by rw [← hAe]; exact Or.inr h
  have hS : va_S A s.heap s.heap [] := va_S.rf
  have hl := lv_entry ([.ref mo, .int ii]) (n := 2) (Nat.le_of_ble_eq_true rfl)
  rw [lg_entry_eq]
  generalize (lg_sl ([.ref mo, .int ii]) ++ List.replicate (2 - (lg_sl ([.ref mo, .int ii])).length) Slot.unset).toArray = ls at hl ⊢
  have hl : lv_has ls 2 [(0, .ref mo), (1, .int ii)] := hl
  refine lv_aload_n hx hb dX11_flaws_0 rfl (lv_at hl 0 rfl) ?_
  refine lv_iload_n hx hb dX11_flaws_1 rfl (lv_at hl 1 rfl) ?_
  have hFc := va_free (wc := [(mo, .inr (16, [.int th, .ref gl, .ref po, .ref pi, .ref bu, .ref pa, .int mt, .int mh, .int 40, .int 0, .null, .int 0, .int 0])), (pi, .inr (4, [.int 0, .ref G.1, .int 0]))]) hD hS hA [0, 1] rfl
  refine va_calli (va_runV (As := [.int ii]) (rest := []) ⟨hx, hb, hml, hown, hts⟩ (zc_X11_noPiece l D G mo gl po pi bu pa th mh mt ii s.heap.size) (cwV 1 hts gzX11_flaws_X11_noPiece_51 rfl rfl rfl (by decide +kernel) ⟨(Nat.le_of_ble_eq_true rfl), (Nat.le_of_ble_eq_true rfl)⟩) ⟨p_RW_blind, va_recv hK hP (ci := 16) (q0 := 0) rfl rfl, (p_RW_at (tc := []) (wc := [(mo, .inr (16, [.int th, .ref gl, .ref po, .ref pi, .ref bu, .ref pa, .int mt, .int mh, .int 40, .int 0, .null, .int 0, .int 0])), (pi, .inr (4, [.int 0, .ref G.1, .int 0]))]) hP hK hD hS hA hT hZ [0, 1] [] rfl rfl (by decide) rfl [.ref mo, .int ii])⟩ rfl rfl hl.1 rfl (lv_room (Nat.le_of_ble_eq_true rfl)) dX11_flaws_2 ⟨(Nat.le_of_ble_eq_true rfl), (Nat.le_of_ble_eq_true rfl)⟩) hS (fun q _ h => hFc q h) hFc (fun r_449 u t H locs ht hvm w_450 hB hz1 hk1 hS => ?_)
  obtain ⟨hP, hD, hK⟩ := q_join (D := D) (wc := [(mo, .inr (16, [.int th, .ref gl, .ref po, .ref pi, .ref bu, .ref pa, .int mt, .int mh, .int 40, .int 0, .null, .int 0, .int 0])), (pi, .inr (4, [.int 0, .ref G.1, .int 0]))]) (wr := []) (w1 := [(mo, .inr (16, [.int 1, .ref gl, .ref po, .ref pi, .ref bu, .ref pa, .int mt, .int mh, .int 40, .int 0, .null, .int 0, .int 0])), (pi, .inr (4, [.int 0, .ref G.1, .int 0]))]) (tyr := []) (ty1 := []) hP hD hK [0, 1] [] [] rfl rfl (by decide) (by decide) rfl hFc hk1 ht hvm hB
  have hP : va_P D vwCl [(mo, .inr (16, [.int 1, .ref gl, .ref po, .ref pi, .ref bu, .ref pa, .int mt, .int mh, .int 40, .int 0, .null, .int 0, .int 0])), (pi, .inr (4, [.int 0, .ref G.1, .int 0]))] H := hP
  have hD : va_D A [(mo, .inr (16, [.int 1, .ref gl, .ref po, .ref pi, .ref bu, .ref pa, .int mt, .int mh, .int 40, .int 0, .null, .int 0, .int 0])), (pi, .inr (4, [.int 0, .ref G.1, .int 0]))] := hD
  have hK : va_K D vwCl [] s := hK
  obtain rfl := w_450
  refine lv_if_eq (tgt := 12) hx hb dX11_flaws_5 (by decide) (fun cc => absurd cc (by decide)) (fun _ => ?_)
  refine lv_iconst (v := 0) hx hb dX11_flaws_8 (by decide) ?_
  refine lv_goto (tgt := 26) hx hb dX11_flaws_9 (by decide) ?_
  exact W.iret (v := 0) hx hb hr (fun t ht hW => ⟨⟨0, (), rfl, rfl, q_RW_mk hP hK hD [0, 1] [] rfl rfl (by decide) rfl ht hW.alike⟩, hS.F ht⟩) hS.2.2 dX11_flaws_26
theorem dX11_low_0 : decode cX11_low 0 = .ok (.aload_n 0, 1) := by decide +kernel
theorem dX11_low_1 : decode cX11_low 1 = .ok (.iload_n 1, 1) := by decide +kernel
theorem dX11_low_2 : decode cX11_low 2 = .ok (.invokevirtual 51, 3) := by decide +kernel
theorem dX11_low_5 : decode cX11_low 5 = .ok (.ifCond .eq 7, 3) := by decide +kernel
theorem dX11_low_8 : decode cX11_low 8 = .ok (.iconst 0, 1) := by decide +kernel
theorem dX11_low_9 : decode cX11_low 9 = .ok (.goto 19, 3) := by decide +kernel
theorem dX11_low_28 : decode cX11_low 28 = .ok (.ireturn, 1) := by decide +kernel
def wzEX11_low : List Cond := [.code yX11_low cX11_low 3 (some .int), .methodLink RX11 51 yX11_noPiece, .instanceMethod yX11_noPiece, .selects RX11 yX11_noPiece yX11_noPiece, .initialized RX11, .code yX11_noPiece cX11_noPiece 2 (some .boolean), .fieldLink RX11 19 "GatherhouseModel" "pieces" "Ljava/util/ArrayList;", .methodLink RX11 44 yJx4a65c_size_8abf5, .instanceMethod yJx4a65c_size_8abf5, .selects RJx4a65c yJx4a65c_size_8abf5 yJx4a65c_size_8abf5, .initialized RJx4a65c, .code yJx4a65c_size_8abf5 cJx4a65c_size_8abf5 1 (some .int), .fieldLink RJx4a65c 48 "java/util/ArrayList" "size" "I", .methodLink RX11 47 yX11_in, .static yX11_in, .code yX11_in cX11_in 3 (some .boolean), .fieldLink RX11 41 "GatherhouseModel" "thrown" "I"]
def wzX11_low : List Cond := wzEX11_low ++ (u_ws RX11 TX11 13 ++ (u_ws RJx4a65c TJx4a65c 3))
theorem zgEX11_low : wzEX11_low.all goodWord = true := by decide +kernel
theorem zuX11_low_X11 : ∀ w ∈ u_ws RX11 TX11 13, w ∈ wzX11_low := (fun _ h => (List.mem_append_right _ (List.mem_append_left _ h)))
theorem zuX11_low_Jx4a65c : ∀ w ∈ u_ws RJx4a65c TJx4a65c 3, w ∈ wzX11_low := (fun _ h => (List.mem_append_right _ (List.mem_append_right _ h)))
theorem gzX11_low_X11_noPiece_51 : GoodIn wzX11_low (wsV RX11 51 RX11 yX11_noPiece wzX11_noPiece) := (goodIn_app (z_lift (goodIn_r _ [1, 2, 3, 4] rfl (by decide +kernel))) (goodIn_app (z_lift (goodIn_r wzEX11_noPiece [5, 6, 7, 8, 9, 10, 11, 12, 13, 14, 4, 15, 16] rfl zgEX11_noPiece)) (goodIn_app (goodIn_sub (fun _ h => (List.mem_append_right _ (List.mem_append_left _ h))) zgU_X11) (goodIn_sub (fun _ h => (List.mem_append_right _ (List.mem_append_right _ h))) zgU_Jx4a65c))))
set_option maxHeartbeats 4000000 in
set_option maxRecDepth 100000 in
theorem zc_X11_low (l : Launch) (D : va_G) (G : Nat × Nat × Nat) (mo : Nat) (gl : Nat) (po : Nat) (pi : Nat) (bu : Nat) (pa : Nat) (th : Int32) (mh : Int32) (mt : Int32) (ii : Int32) (jj : Int32) (sz : Nat) : Met l yX11_low wzX11_low ({ frames := 2, cells := 0, slots := 0, locals := 43 }) (va_Pc [.ref mo, .int ii, .int jj] (p_RW D G [] [(mo, .inr (16, [.int th, .ref gl, .ref po, .ref pi, .ref bu, .ref pa, .int mt, .int mh, .int 40, .int 0, .null, .int 0, .int 0])), (pi, .inr (4, [.int 0, .ref G.1, .int 0]))] sz)) (va_Qi (fun (r : Int32) (u : Unit) => r = 0) (fun (u : Unit) (t : State) => q_RW D [] [(mo, .inr (16, [.int 1, .ref gl, .ref po, .ref pi, .ref bu, .ref pa, .int mt, .int mh, .int 40, .int 0, .null, .int 0, .int 0])), (pi, .inr (4, [.int 0, .ref G.1, .int 0]))] (va_A [(mo, .inr (16, [.int th, .ref gl, .ref po, .ref pi, .ref bu, .ref pa, .int mt, .int mh, .int 40, .int 0, .null, .int 0, .int 0])), (pi, .inr (4, [.int 0, .ref G.1, .int 0]))] sz) t) (va_A [(mo, .inr (16, [.int th, .ref gl, .ref po, .ref pi, .ref bu, .ref pa, .int mt, .int mh, .int 40, .int 0, .null, .int 0, .int 0])), (pi, .inr (4, [.int 0, .ref G.1, .int 0]))] sz)) 0 0 (va_A [(mo, .inr (16, [.int th, .ref gl, .ref po, .ref pi, .ref bu, .ref pa, .int mt, .int mh, .int 40, .int 0, .null, .int 0, .int 0])), (pi, .inr (4, [.int 0, .ref G.1, .int 0]))] sz) := by
  refine Met.ofW (cc := cX11_low) (maxL := 3) (ret := (some .int)) (by decide) rfl ?_
  intro p e s m args below meth c s₁ B hml hv
  obtain ⟨rfl, hsz, hP, hK, hD0, hT, hZ⟩ := hv
  have hx := B.exec
  have hb := B.bytes
  have hr := B.returns
  have hts := atoms_spec (ws := wzX11_low) B.pre
  have hown : s.vm.findClass RX11 = some m.cls := findClass_of_methodNamed B.named
  have hlocks := B.notSynchronized
  subst hsz
  have hD := hD0.self (sz := s.heap.size)
  generalize hAe : va_A [(mo, .inr (16, [.int th, .ref gl, .ref po, .ref pi, .ref bu, .ref pa, .int mt, .int mh, .int 40, .int 0, .null, .int 0, .int 0])), (pi, .inr (4, [.int 0, .ref G.1, .int 0]))] s.heap.size = A at hD hZ ⊢
  have hA : ∀ q : Nat, s.heap.size ≤ q → A q := fun q h => by rw [← hAe]; exact Or.inr h
  have hS : va_S A s.heap s.heap [] := va_S.rf
  have hl := lv_entry ([.ref mo, .int ii, .int jj]) (n := 3) (Nat.le_of_ble_eq_true rfl)
  rw [lg_entry_eq]
  generalize (lg_sl ([.ref mo, .int ii, .int jj]) ++ List.replicate (3 - (lg_sl ([.ref mo, .int ii, .int jj])).length) Slot.unset).toArray = ls at hl ⊢
  have hl : lv_has ls 3 [(0, .ref mo), (1, .int ii), (2, .int jj)] := hl
  refine lv_aload_n hx hb dX11_low_0 rfl (lv_at hl 0 rfl) ?_
  refine lv_iload_n hx hb dX11_low_1 rfl (lv_at hl 1 rfl) ?_
  have hFc := va_free (wc := [(mo, .inr (16, [.int th, .ref gl, .ref po, .ref pi, .ref bu, .ref pa, .int mt, .int mh, .int 40, .int 0, .null, .int 0, .int 0])), (pi, .inr (4, [.int 0, .ref G.1, .int 0]))]) hD hS hA [0, 1] rfl
  refine va_calli (va_runV (As := [.int ii]) (rest := []) ⟨hx, hb, hml, hown, hts⟩ (zc_X11_noPiece l D G mo gl po pi bu pa th mh mt ii s.heap.size) (cwV 1 hts gzX11_low_X11_noPiece_51 rfl rfl rfl (by decide +kernel) ⟨(Nat.le_of_ble_eq_true rfl), (Nat.le_of_ble_eq_true rfl)⟩) ⟨p_RW_blind, va_recv hK hP (ci := 16) (q0 := 0) rfl rfl, (p_RW_at (tc := []) (wc := [(mo, .inr (16, [.int th, .ref gl, .ref po, .ref pi, .ref bu, .ref pa, .int mt, .int mh, .int 40, .int 0, .null, .int 0, .int 0])), (pi, .inr (4, [.int 0, .ref G.1, .int 0]))]) hP hK hD hS hA hT hZ [0, 1] [] rfl rfl (by decide) rfl [.ref mo, .int ii])⟩ rfl rfl hl.1 rfl (lv_room (Nat.le_of_ble_eq_true rfl)) dX11_low_2 ⟨(Nat.le_of_ble_eq_true rfl), (Nat.le_of_ble_eq_true rfl)⟩) hS (fun q _ h => hFc q h) hFc (fun r_451 u t H locs ht hvm w_452 hB hz1 hk1 hS => ?_)
  obtain ⟨hP, hD, hK⟩ := q_join (D := D) (wc := [(mo, .inr (16, [.int th, .ref gl, .ref po, .ref pi, .ref bu, .ref pa, .int mt, .int mh, .int 40, .int 0, .null, .int 0, .int 0])), (pi, .inr (4, [.int 0, .ref G.1, .int 0]))]) (wr := []) (w1 := [(mo, .inr (16, [.int 1, .ref gl, .ref po, .ref pi, .ref bu, .ref pa, .int mt, .int mh, .int 40, .int 0, .null, .int 0, .int 0])), (pi, .inr (4, [.int 0, .ref G.1, .int 0]))]) (tyr := []) (ty1 := []) hP hD hK [0, 1] [] [] rfl rfl (by decide) (by decide) rfl hFc hk1 ht hvm hB
  have hP : va_P D vwCl [(mo, .inr (16, [.int 1, .ref gl, .ref po, .ref pi, .ref bu, .ref pa, .int mt, .int mh, .int 40, .int 0, .null, .int 0, .int 0])), (pi, .inr (4, [.int 0, .ref G.1, .int 0]))] H := hP
  have hD : va_D A [(mo, .inr (16, [.int 1, .ref gl, .ref po, .ref pi, .ref bu, .ref pa, .int mt, .int mh, .int 40, .int 0, .null, .int 0, .int 0])), (pi, .inr (4, [.int 0, .ref G.1, .int 0]))] := hD
  have hK : va_K D vwCl [] s := hK
  obtain rfl := w_452
  refine lv_if_eq (tgt := 12) hx hb dX11_low_5 (by decide) (fun cc => absurd cc (by decide)) (fun _ => ?_)
  refine lv_iconst (v := 0) hx hb dX11_low_8 (by decide) ?_
  refine lv_goto (tgt := 28) hx hb dX11_low_9 (by decide) ?_
  exact W.iret (v := 0) hx hb hr (fun t ht hW => ⟨⟨0, (), rfl, rfl, q_RW_mk hP hK hD [0, 1] [] rfl rfl (by decide) rfl ht hW.alike⟩, hS.F ht⟩) hS.2.2 dX11_low_28
theorem dX11_strain_0 : decode cX11_strain 0 = .ok (.aload_n 0, 1) := by decide +kernel
theorem dX11_strain_1 : decode cX11_strain 1 = .ok (.iload_n 1, 1) := by decide +kernel
theorem dX11_strain_2 : decode cX11_strain 2 = .ok (.invokevirtual 51, 3) := by decide +kernel
theorem dX11_strain_5 : decode cX11_strain 5 = .ok (.ifCond .eq 7, 3) := by decide +kernel
theorem dX11_strain_8 : decode cX11_strain 8 = .ok (.iconst 0, 1) := by decide +kernel
theorem dX11_strain_9 : decode cX11_strain 9 = .ok (.goto 17, 3) := by decide +kernel
theorem dX11_strain_26 : decode cX11_strain 26 = .ok (.ireturn, 1) := by decide +kernel
def wzEX11_strain : List Cond := [.code yX11_strain cX11_strain 2 (some .int), .methodLink RX11 51 yX11_noPiece, .instanceMethod yX11_noPiece, .selects RX11 yX11_noPiece yX11_noPiece, .initialized RX11, .code yX11_noPiece cX11_noPiece 2 (some .boolean), .fieldLink RX11 19 "GatherhouseModel" "pieces" "Ljava/util/ArrayList;", .methodLink RX11 44 yJx4a65c_size_8abf5, .instanceMethod yJx4a65c_size_8abf5, .selects RJx4a65c yJx4a65c_size_8abf5 yJx4a65c_size_8abf5, .initialized RJx4a65c, .code yJx4a65c_size_8abf5 cJx4a65c_size_8abf5 1 (some .int), .fieldLink RJx4a65c 48 "java/util/ArrayList" "size" "I", .methodLink RX11 47 yX11_in, .static yX11_in, .code yX11_in cX11_in 3 (some .boolean), .fieldLink RX11 41 "GatherhouseModel" "thrown" "I"]
def wzX11_strain : List Cond := wzEX11_strain ++ (u_ws RX11 TX11 13 ++ (u_ws RJx4a65c TJx4a65c 3))
theorem zgEX11_strain : wzEX11_strain.all goodWord = true := by decide +kernel
theorem zuX11_strain_X11 : ∀ w ∈ u_ws RX11 TX11 13, w ∈ wzX11_strain := (fun _ h => (List.mem_append_right _ (List.mem_append_left _ h)))
theorem zuX11_strain_Jx4a65c : ∀ w ∈ u_ws RJx4a65c TJx4a65c 3, w ∈ wzX11_strain := (fun _ h => (List.mem_append_right _ (List.mem_append_right _ h)))
theorem gzX11_strain_X11_noPiece_51 : GoodIn wzX11_strain (wsV RX11 51 RX11 yX11_noPiece wzX11_noPiece) := (goodIn_app (z_lift (goodIn_r _ [1, 2, 3, 4] rfl (by decide +kernel))) (goodIn_app (z_lift (goodIn_r wzEX11_noPiece [5, 6, 7, 8, 9, 10, 11, 12, 13, 14, 4, 15, 16] rfl zgEX11_noPiece)) (goodIn_app (goodIn_sub (fun _ h => (List.mem_append_right _ (List.mem_append_left _ h))) zgU_X11) (goodIn_sub (fun _ h => (List.mem_append_right _ (List.mem_append_right _ h))) zgU_Jx4a65c))))
set_option maxHeartbeats 4000000 in
set_option maxRecDepth 100000 in
theorem zc_X11_strain (l : Launch) (D : va_G) (G : Nat × Nat × Nat) (mo : Nat) (gl : Nat) (po : Nat) (pi : Nat) (bu : Nat) (pa : Nat) (th : Int32) (mh : Int32) (mt : Int32) (ii : Int32) (sz : Nat) : Met l yX11_strain wzX11_strain ({ frames := 2, cells := 0, slots := 0, locals := 43 }) (va_Pc [.ref mo, .int ii] (p_RW D G [] [(mo, .inr (16, [.int th, .ref gl, .ref po, .ref pi, .ref bu, .ref pa, .int mt, .int mh, .int 40, .int 0, .null, .int 0, .int 0])), (pi, .inr (4, [.int 0, .ref G.1, .int 0]))] sz)) (va_Qi (fun (r : Int32) (u : Unit) => r = 0) (fun (u : Unit) (t : State) => q_RW D [] [(mo, .inr (16, [.int 1, .ref gl, .ref po, .ref pi, .ref bu, .ref pa, .int mt, .int mh, .int 40, .int 0, .null, .int 0, .int 0])), (pi, .inr (4, [.int 0, .ref G.1, .int 0]))] (va_A [(mo, .inr (16, [.int th, .ref gl, .ref po, .ref pi, .ref bu, .ref pa, .int mt, .int mh, .int 40, .int 0, .null, .int 0, .int 0])), (pi, .inr (4, [.int 0, .ref G.1, .int 0]))] sz) t) (va_A [(mo, .inr (16, [.int th, .ref gl, .ref po, .ref pi, .ref bu, .ref pa, .int mt, .int mh, .int 40, .int 0, .null, .int 0, .int 0])), (pi, .inr (4, [.int 0, .ref G.1, .int 0]))] sz)) 0 0 (va_A [(mo, .inr (16, [.int th, .ref gl, .ref po, .ref pi, .ref bu, .ref pa, .int mt, .int mh, .int 40, .int 0, .null, .int 0, .int 0])), (pi, .inr (4, [.int 0, .ref G.1, .int 0]))] sz) := by
  refine Met.ofW (cc := cX11_strain) (maxL := 2) (ret := (some .int)) (by decide) rfl ?_
  intro p e s m args below meth c s₁ B hml hv
  obtain ⟨rfl, hsz, hP, hK, hD0, hT, hZ⟩ := hv
  have hx := B.exec
  have hb := B.bytes
  have hr := B.returns
  have hts := atoms_spec (ws := wzX11_strain) B.pre
  have hown : s.vm.findClass RX11 = some m.cls := findClass_of_methodNamed B.named
  have hlocks := B.notSynchronized
  subst hsz
  have hD := hD0.self (sz := s.heap.size)
  generalize hAe : va_A [(mo, .inr (16, [.int th, .ref gl, .ref po, .ref pi, .ref bu, .ref pa, .int mt, .int mh, .int 40, .int 0, .null, .int 0, .int 0])), (pi, .inr (4, [.int 0, .ref G.1, .int 0]))] s.heap.size = A at hD hZ ⊢
  have hA : ∀ q : Nat, s.heap.size ≤ q → A q := fun q h => by rw [← hAe]; exact Or.inr h
  have hS : va_S A s.heap s.heap [] := va_S.rf
  have hl := lv_entry ([.ref mo, .int ii]) (n := 2) (Nat.le_of_ble_eq_true rfl)
  rw [lg_entry_eq]
  generalize (lg_sl ([.ref mo, .int ii]) ++ List.replicate (2 - (lg_sl ([.ref mo, .int ii])).length) Slot.unset).toArray = ls at hl ⊢
  have hl : lv_has ls 2 [(0, .ref mo), (1, .int ii)] := hl
  refine lv_aload_n hx hb dX11_strain_0 rfl (lv_at hl 0 rfl) ?_
  refine lv_iload_n hx hb dX11_strain_1 rfl (lv_at hl 1 rfl) ?_
  have hFc := va_free (wc := [(mo, .inr (16, [.int th, .ref gl, .ref po, .ref pi, .ref bu, .ref pa, .int mt, .int mh, .int 40, .int 0, .null, .int 0, .int 0])), (pi, .inr (4, [.int 0, .ref G.1, .int 0]))]) hD hS hA [0, 1] rfl
  refine va_calli (va_runV (As := [.int ii]) (rest := []) ⟨hx, hb, hml, hown, hts⟩ (zc_X11_noPiece l D G mo gl po pi bu pa th mh mt ii s.heap.size) (cwV 1 hts gzX11_strain_X11_noPiece_51 rfl rfl rfl (by decide +kernel) ⟨(Nat.le_of_ble_eq_true rfl), (Nat.le_of_ble_eq_true rfl)⟩) ⟨p_RW_blind, va_recv hK hP (ci := 16) (q0 := 0) rfl rfl, (p_RW_at (tc := []) (wc := [(mo, .inr (16, [.int th, .ref gl, .ref po, .ref pi, .ref bu, .ref pa, .int mt, .int mh, .int 40, .int 0, .null, .int 0, .int 0])), (pi, .inr (4, [.int 0, .ref G.1, .int 0]))]) hP hK hD hS hA hT hZ [0, 1] [] rfl rfl (by decide) rfl [.ref mo, .int ii])⟩ rfl rfl hl.1 rfl (lv_room (Nat.le_of_ble_eq_true rfl)) dX11_strain_2 ⟨(Nat.le_of_ble_eq_true rfl), (Nat.le_of_ble_eq_true rfl)⟩) hS (fun q _ h => hFc q h) hFc (fun r_453 u t H locs ht hvm w_454 hB hz1 hk1 hS => ?_)
  obtain ⟨hP, hD, hK⟩ := q_join (D := D) (wc := [(mo, .inr (16, [.int th, .ref gl, .ref po, .ref pi, .ref bu, .ref pa, .int mt, .int mh, .int 40, .int 0, .null, .int 0, .int 0])), (pi, .inr (4, [.int 0, .ref G.1, .int 0]))]) (wr := []) (w1 := [(mo, .inr (16, [.int 1, .ref gl, .ref po, .ref pi, .ref bu, .ref pa, .int mt, .int mh, .int 40, .int 0, .null, .int 0, .int 0])), (pi, .inr (4, [.int 0, .ref G.1, .int 0]))]) (tyr := []) (ty1 := []) hP hD hK [0, 1] [] [] rfl rfl (by decide) (by decide) rfl hFc hk1 ht hvm hB
  have hP : va_P D vwCl [(mo, .inr (16, [.int 1, .ref gl, .ref po, .ref pi, .ref bu, .ref pa, .int mt, .int mh, .int 40, .int 0, .null, .int 0, .int 0])), (pi, .inr (4, [.int 0, .ref G.1, .int 0]))] H := hP
  have hD : va_D A [(mo, .inr (16, [.int 1, .ref gl, .ref po, .ref pi, .ref bu, .ref pa, .int mt, .int mh, .int 40, .int 0, .null, .int 0, .int 0])), (pi, .inr (4, [.int 0, .ref G.1, .int 0]))] := hD
  have hK : va_K D vwCl [] s := hK
  obtain rfl := w_454
  refine lv_if_eq (tgt := 12) hx hb dX11_strain_5 (by decide) (fun cc => absurd cc (by decide)) (fun _ => ?_)
  refine lv_iconst (v := 0) hx hb dX11_strain_8 (by decide) ?_
  refine lv_goto (tgt := 26) hx hb dX11_strain_9 (by decide) ?_
  exact W.iret (v := 0) hx hb hr (fun t ht hW => ⟨⟨0, (), rfl, rfl, q_RW_mk hP hK hD [0, 1] [] rfl rfl (by decide) rfl ht hW.alike⟩, hS.F ht⟩) hS.2.2 dX11_strain_26
theorem dX11_isFirst_0 : decode cX11_isFirst 0 = .ok (.aload_n 0, 1) := by decide +kernel
theorem dX11_isFirst_1 : decode cX11_isFirst 1 = .ok (.iload_n 1, 1) := by decide +kernel
theorem dX11_isFirst_2 : decode cX11_isFirst 2 = .ok (.invokevirtual 51, 3) := by decide +kernel
theorem dX11_isFirst_5 : decode cX11_isFirst 5 = .ok (.ifCond .eq 5, 3) := by decide +kernel
theorem dX11_isFirst_8 : decode cX11_isFirst 8 = .ok (.iconst 0, 1) := by decide +kernel
theorem dX11_isFirst_9 : decode cX11_isFirst 9 = .ok (.ireturn, 1) := by decide +kernel
def wzEX11_isFirst : List Cond := [.code yX11_isFirst cX11_isFirst 2 (some .boolean), .methodLink RX11 51 yX11_noPiece, .instanceMethod yX11_noPiece, .selects RX11 yX11_noPiece yX11_noPiece, .initialized RX11, .code yX11_noPiece cX11_noPiece 2 (some .boolean), .fieldLink RX11 19 "GatherhouseModel" "pieces" "Ljava/util/ArrayList;", .methodLink RX11 44 yJx4a65c_size_8abf5, .instanceMethod yJx4a65c_size_8abf5, .selects RJx4a65c yJx4a65c_size_8abf5 yJx4a65c_size_8abf5, .initialized RJx4a65c, .code yJx4a65c_size_8abf5 cJx4a65c_size_8abf5 1 (some .int), .fieldLink RJx4a65c 48 "java/util/ArrayList" "size" "I", .methodLink RX11 47 yX11_in, .static yX11_in, .code yX11_in cX11_in 3 (some .boolean), .fieldLink RX11 41 "GatherhouseModel" "thrown" "I"]
def wzX11_isFirst : List Cond := wzEX11_isFirst ++ (u_ws RX11 TX11 13 ++ (u_ws RJx4a65c TJx4a65c 3))
theorem zgEX11_isFirst : wzEX11_isFirst.all goodWord = true := by decide +kernel
theorem zuX11_isFirst_X11 : ∀ w ∈ u_ws RX11 TX11 13, w ∈ wzX11_isFirst := (fun _ h => (List.mem_append_right _ (List.mem_append_left _ h)))
theorem zuX11_isFirst_Jx4a65c : ∀ w ∈ u_ws RJx4a65c TJx4a65c 3, w ∈ wzX11_isFirst := (fun _ h => (List.mem_append_right _ (List.mem_append_right _ h)))
theorem gzX11_isFirst_X11_noPiece_51 : GoodIn wzX11_isFirst (wsV RX11 51 RX11 yX11_noPiece wzX11_noPiece) := (goodIn_app (z_lift (goodIn_r _ [1, 2, 3, 4] rfl (by decide +kernel))) (goodIn_app (z_lift (goodIn_r wzEX11_noPiece [5, 6, 7, 8, 9, 10, 11, 12, 13, 14, 4, 15, 16] rfl zgEX11_noPiece)) (goodIn_app (goodIn_sub (fun _ h => (List.mem_append_right _ (List.mem_append_left _ h))) zgU_X11) (goodIn_sub (fun _ h => (List.mem_append_right _ (List.mem_append_right _ h))) zgU_Jx4a65c))))
set_option maxHeartbeats 4000000 in
set_option maxRecDepth 100000 in
theorem zc_X11_isFirst (l : Launch) (D : va_G) (G : Nat × Nat × Nat) (mo : Nat) (gl : Nat) (po : Nat) (pi : Nat) (bu : Nat) (pa : Nat) (th : Int32) (mh : Int32) (mt : Int32) (ii : Int32) (sz : Nat) : Met l yX11_isFirst wzX11_isFirst ({ frames := 2, cells := 0, slots := 0, locals := 43 }) (va_Pc [.ref mo, .int ii] (p_RW D G [] [(mo, .inr (16, [.int th, .ref gl, .ref po, .ref pi, .ref bu, .ref pa, .int mt, .int mh, .int 40, .int 0, .null, .int 0, .int 0])), (pi, .inr (4, [.int 0, .ref G.1, .int 0]))] sz)) (va_Qi (fun (r : Int32) (u : Unit) => r = 0) (fun (u : Unit) (t : State) => q_RW D [] [(mo, .inr (16, [.int 1, .ref gl, .ref po, .ref pi, .ref bu, .ref pa, .int mt, .int mh, .int 40, .int 0, .null, .int 0, .int 0])), (pi, .inr (4, [.int 0, .ref G.1, .int 0]))] (va_A [(mo, .inr (16, [.int th, .ref gl, .ref po, .ref pi, .ref bu, .ref pa, .int mt, .int mh, .int 40, .int 0, .null, .int 0, .int 0])), (pi, .inr (4, [.int 0, .ref G.1, .int 0]))] sz) t) (va_A [(mo, .inr (16, [.int th, .ref gl, .ref po, .ref pi, .ref bu, .ref pa, .int mt, .int mh, .int 40, .int 0, .null, .int 0, .int 0])), (pi, .inr (4, [.int 0, .ref G.1, .int 0]))] sz)) 0 0 (va_A [(mo, .inr (16, [.int th, .ref gl, .ref po, .ref pi, .ref bu, .ref pa, .int mt, .int mh, .int 40, .int 0, .null, .int 0, .int 0])), (pi, .inr (4, [.int 0, .ref G.1, .int 0]))] sz) := by
  refine Met.ofW (cc := cX11_isFirst) (maxL := 2) (ret := (some .boolean)) (by decide) rfl ?_
  intro p e s m args below meth c s₁ B hml hv
  obtain ⟨rfl, hsz, hP, hK, hD0, hT, hZ⟩ := hv
  have hx := B.exec
  have hb := B.bytes
  have hr := B.returns
  have hts := atoms_spec (ws := wzX11_isFirst) B.pre
  have hown : s.vm.findClass RX11 = some m.cls := findClass_of_methodNamed B.named
  have hlocks := B.notSynchronized
  subst hsz
  have hD := hD0.self (sz := s.heap.size)
  generalize hAe : va_A [(mo, .inr (16, [.int th, .ref gl, .ref po, .ref pi, .ref bu, .ref pa, .int mt, .int mh, .int 40, .int 0, .null, .int 0, .int 0])), (pi, .inr (4, [.int 0, .ref G.1, .int 0]))] s.heap.size = A at hD hZ ⊢
  have hA : ∀ q : Nat, s.heap.size ≤ q → A q := fun q h => by rw [← hAe]; exact Or.inr h
  have hS : va_S A s.heap s.heap [] := va_S.rf
  have hl := lv_entry ([.ref mo, .int ii]) (n := 2) (Nat.le_of_ble_eq_true rfl)
  rw [lg_entry_eq]
  generalize (lg_sl ([.ref mo, .int ii]) ++ List.replicate (2 - (lg_sl ([.ref mo, .int ii])).length) Slot.unset).toArray = ls at hl ⊢
  have hl : lv_has ls 2 [(0, .ref mo), (1, .int ii)] := hl
  refine lv_aload_n hx hb dX11_isFirst_0 rfl (lv_at hl 0 rfl) ?_
  refine lv_iload_n hx hb dX11_isFirst_1 rfl (lv_at hl 1 rfl) ?_
  have hFc := va_free (wc := [(mo, .inr (16, [.int th, .ref gl, .ref po, .ref pi, .ref bu, .ref pa, .int mt, .int mh, .int 40, .int 0, .null, .int 0, .int 0])), (pi, .inr (4, [.int 0, .ref G.1, .int 0]))]) hD hS hA [0, 1] rfl
  refine va_calli (va_runV (As := [.int ii]) (rest := []) ⟨hx, hb, hml, hown, hts⟩ (zc_X11_noPiece l D G mo gl po pi bu pa th mh mt ii s.heap.size) (cwV 1 hts gzX11_isFirst_X11_noPiece_51 rfl rfl rfl (by decide +kernel) ⟨(Nat.le_of_ble_eq_true rfl), (Nat.le_of_ble_eq_true rfl)⟩) ⟨p_RW_blind, va_recv hK hP (ci := 16) (q0 := 0) rfl rfl, (p_RW_at (tc := []) (wc := [(mo, .inr (16, [.int th, .ref gl, .ref po, .ref pi, .ref bu, .ref pa, .int mt, .int mh, .int 40, .int 0, .null, .int 0, .int 0])), (pi, .inr (4, [.int 0, .ref G.1, .int 0]))]) hP hK hD hS hA hT hZ [0, 1] [] rfl rfl (by decide) rfl [.ref mo, .int ii])⟩ rfl rfl hl.1 rfl (lv_room (Nat.le_of_ble_eq_true rfl)) dX11_isFirst_2 ⟨(Nat.le_of_ble_eq_true rfl), (Nat.le_of_ble_eq_true rfl)⟩) hS (fun q _ h => hFc q h) hFc (fun r_455 u t H locs ht hvm w_456 hB hz1 hk1 hS => ?_)
  obtain ⟨hP, hD, hK⟩ := q_join (D := D) (wc := [(mo, .inr (16, [.int th, .ref gl, .ref po, .ref pi, .ref bu, .ref pa, .int mt, .int mh, .int 40, .int 0, .null, .int 0, .int 0])), (pi, .inr (4, [.int 0, .ref G.1, .int 0]))]) (wr := []) (w1 := [(mo, .inr (16, [.int 1, .ref gl, .ref po, .ref pi, .ref bu, .ref pa, .int mt, .int mh, .int 40, .int 0, .null, .int 0, .int 0])), (pi, .inr (4, [.int 0, .ref G.1, .int 0]))]) (tyr := []) (ty1 := []) hP hD hK [0, 1] [] [] rfl rfl (by decide) (by decide) rfl hFc hk1 ht hvm hB
  have hP : va_P D vwCl [(mo, .inr (16, [.int 1, .ref gl, .ref po, .ref pi, .ref bu, .ref pa, .int mt, .int mh, .int 40, .int 0, .null, .int 0, .int 0])), (pi, .inr (4, [.int 0, .ref G.1, .int 0]))] H := hP
  have hD : va_D A [(mo, .inr (16, [.int 1, .ref gl, .ref po, .ref pi, .ref bu, .ref pa, .int mt, .int mh, .int 40, .int 0, .null, .int 0, .int 0])), (pi, .inr (4, [.int 0, .ref G.1, .int 0]))] := hD
  have hK : va_K D vwCl [] s := hK
  obtain rfl := w_456
  refine lv_if_eq (tgt := 10) hx hb dX11_isFirst_5 (by decide) (fun cc => absurd cc (by decide)) (fun _ => ?_)
  refine lv_iconst (v := 0) hx hb dX11_isFirst_8 (by decide) ?_
  exact W.zret (v := 0) hx hb hr rfl (fun t ht hW => ⟨⟨0, (), rfl, rfl, q_RW_mk hP hK hD [0, 1] [] rfl rfl (by decide) rfl ht hW.alike⟩, hS.F ht⟩) hS.2.2 dX11_isFirst_9
theorem dX11_cut_0 : decode cX11_cut 0 = .ok (.aload_n 0, 1) := by decide +kernel
theorem dX11_cut_1 : decode cX11_cut 1 = .ok (.iload_n 1, 1) := by decide +kernel
theorem dX11_cut_2 : decode cX11_cut 2 = .ok (.iload_n 2, 1) := by decide +kernel
theorem dX11_cut_3 : decode cX11_cut 3 = .ok (.invokevirtual 223, 3) := by decide +kernel
theorem dX11_cut_6 : decode cX11_cut 6 = .ok (.ifCond .eq 5, 3) := by decide +kernel
theorem dX11_cut_9 : decode cX11_cut 9 = .ok (.iconst 0, 1) := by decide +kernel
theorem dX11_cut_10 : decode cX11_cut 10 = .ok (.ireturn, 1) := by decide +kernel
def wzEX11_cut : List Cond := [.code yX11_cut cX11_cut 8 (some .int), .methodLink RX11 223 yX11_noRing, .instanceMethod yX11_noRing, .selects RX11 yX11_noRing yX11_noRing, .initialized RX11, .code yX11_noRing cX11_noRing 3 (some .boolean), .methodLink RX11 51 yX11_noPiece, .instanceMethod yX11_noPiece, .selects RX11 yX11_noPiece yX11_noPiece, .code yX11_noPiece cX11_noPiece 2 (some .boolean), .fieldLink RX11 19 "GatherhouseModel" "pieces" "Ljava/util/ArrayList;", .methodLink RX11 44 yJx4a65c_size_8abf5, .instanceMethod yJx4a65c_size_8abf5, .selects RJx4a65c yJx4a65c_size_8abf5 yJx4a65c_size_8abf5, .initialized RJx4a65c, .code yJx4a65c_size_8abf5 cJx4a65c_size_8abf5 1 (some .int), .fieldLink RJx4a65c 48 "java/util/ArrayList" "size" "I", .methodLink RX11 47 yX11_in, .static yX11_in, .code yX11_in cX11_in 3 (some .boolean), .fieldLink RX11 41 "GatherhouseModel" "thrown" "I"]
def wzX11_cut : List Cond := wzEX11_cut ++ (u_ws RX11 TX11 13 ++ (u_ws RJx4a65c TJx4a65c 3))
theorem zgEX11_cut : wzEX11_cut.all goodWord = true := by decide +kernel
theorem zuX11_cut_X11 : ∀ w ∈ u_ws RX11 TX11 13, w ∈ wzX11_cut := (fun _ h => (List.mem_append_right _ (List.mem_append_left _ h)))
theorem zuX11_cut_Jx4a65c : ∀ w ∈ u_ws RJx4a65c TJx4a65c 3, w ∈ wzX11_cut := (fun _ h => (List.mem_append_right _ (List.mem_append_right _ h)))
theorem gzX11_cut_X11_noRing_223 : GoodIn wzX11_cut (wsV RX11 223 RX11 yX11_noRing wzX11_noRing) := (goodIn_app (z_lift (goodIn_r _ [1, 2, 3, 4] rfl (by decide +kernel))) (goodIn_app (z_lift (goodIn_r wzEX11_noRing [5, 6, 7, 8, 4, 9, 10, 11, 12, 13, 14, 15, 16, 17, 18, 19, 20] rfl zgEX11_noRing)) (goodIn_app (goodIn_sub (fun _ h => (List.mem_append_right _ (List.mem_append_left _ h))) zgU_X11) (goodIn_sub (fun _ h => (List.mem_append_right _ (List.mem_append_right _ h))) zgU_Jx4a65c))))
set_option maxHeartbeats 4000000 in
set_option maxRecDepth 100000 in
theorem zc_X11_cut (l : Launch) (D : va_G) (G : Nat × Nat × Nat) (mo : Nat) (gl : Nat) (po : Nat) (pi : Nat) (bu : Nat) (pa : Nat) (th : Int32) (mh : Int32) (mt : Int32) (ii : Int32) (jj : Int32) (kk : Int32) (sz : Nat) : Met l yX11_cut wzX11_cut ({ frames := 3, cells := 0, slots := 0, locals := 65 }) (va_Pc [.ref mo, .int ii, .int jj, .int kk] (p_RW D G [] [(mo, .inr (16, [.int th, .ref gl, .ref po, .ref pi, .ref bu, .ref pa, .int mt, .int mh, .int 40, .int 0, .null, .int 0, .int 0])), (pi, .inr (4, [.int 0, .ref G.1, .int 0]))] sz)) (va_Qi (fun (r : Int32) (u : Unit) => r = 0) (fun (u : Unit) (t : State) => q_RW D [] [(mo, .inr (16, [.int 1, .ref gl, .ref po, .ref pi, .ref bu, .ref pa, .int mt, .int mh, .int 40, .int 0, .null, .int 0, .int 0])), (pi, .inr (4, [.int 0, .ref G.1, .int 0]))] (va_A [(mo, .inr (16, [.int th, .ref gl, .ref po, .ref pi, .ref bu, .ref pa, .int mt, .int mh, .int 40, .int 0, .null, .int 0, .int 0])), (pi, .inr (4, [.int 0, .ref G.1, .int 0]))] sz) t) (va_A [(mo, .inr (16, [.int th, .ref gl, .ref po, .ref pi, .ref bu, .ref pa, .int mt, .int mh, .int 40, .int 0, .null, .int 0, .int 0])), (pi, .inr (4, [.int 0, .ref G.1, .int 0]))] sz)) 0 0 (va_A [(mo, .inr (16, [.int th, .ref gl, .ref po, .ref pi, .ref bu, .ref pa, .int mt, .int mh, .int 40, .int 0, .null, .int 0, .int 0])), (pi, .inr (4, [.int 0, .ref G.1, .int 0]))] sz) := by
  refine Met.ofW (cc := cX11_cut) (maxL := 8) (ret := (some .int)) (by decide) rfl ?_
  intro p e s m args below meth c s₁ B hml hv
  obtain ⟨rfl, hsz, hP, hK, hD0, hT, hZ⟩ := hv
  have hx := B.exec
  have hb := B.bytes
  have hr := B.returns
  have hts := atoms_spec (ws := wzX11_cut) B.pre
  have hown : s.vm.findClass RX11 = some m.cls := findClass_of_methodNamed B.named
  have hlocks := B.notSynchronized
  subst hsz
  have hD := hD0.self (sz := s.heap.size)
  generalize hAe : va_A [(mo, .inr (16, [.int th, .ref gl, .ref po, .ref pi, .ref bu, .ref pa, .int mt, .int mh, .int 40, .int 0, .null, .int 0, .int 0])), (pi, .inr (4, [.int 0, .ref G.1, .int 0]))] s.heap.size = A at hD hZ ⊢
  have hA : ∀ q : Nat, s.heap.size ≤ q → A q := fun q h => by rw [← hAe]; exact Or.inr h
  have hS : va_S A s.heap s.heap [] := va_S.rf
  have hl := lv_entry ([.ref mo, .int ii, .int jj, .int kk]) (n := 8) (Nat.le_of_ble_eq_true rfl)
  rw [lg_entry_eq]
  generalize (lg_sl ([.ref mo, .int ii, .int jj, .int kk]) ++ List.replicate (8 - (lg_sl ([.ref mo, .int ii, .int jj, .int kk])).length) Slot.unset).toArray = ls at hl ⊢
  have hl : lv_has ls 8 [(0, .ref mo), (1, .int ii), (2, .int jj), (3, .int kk)] := hl
  refine lv_aload_n hx hb dX11_cut_0 rfl (lv_at hl 0 rfl) ?_
  refine lv_iload_n hx hb dX11_cut_1 rfl (lv_at hl 1 rfl) ?_
  refine lv_iload_n hx hb dX11_cut_2 rfl (lv_at hl 2 rfl) ?_
  have hFc := va_free (wc := [(mo, .inr (16, [.int th, .ref gl, .ref po, .ref pi, .ref bu, .ref pa, .int mt, .int mh, .int 40, .int 0, .null, .int 0, .int 0])), (pi, .inr (4, [.int 0, .ref G.1, .int 0]))]) hD hS hA [0, 1] rfl
  refine va_calli (va_runV (As := [.int ii, .int jj]) (rest := []) ⟨hx, hb, hml, hown, hts⟩ (zc_X11_noRing l D G mo gl po pi bu pa th mh mt ii jj s.heap.size) (cwV 2 hts gzX11_cut_X11_noRing_223 rfl rfl rfl (by decide +kernel) ⟨(Nat.le_of_ble_eq_true rfl), (Nat.le_of_ble_eq_true rfl)⟩) ⟨p_RW_blind, va_recv hK hP (ci := 16) (q0 := 0) rfl rfl, (p_RW_at (tc := []) (wc := [(mo, .inr (16, [.int th, .ref gl, .ref po, .ref pi, .ref bu, .ref pa, .int mt, .int mh, .int 40, .int 0, .null, .int 0, .int 0])), (pi, .inr (4, [.int 0, .ref G.1, .int 0]))]) hP hK hD hS hA hT hZ [0, 1] [] rfl rfl (by decide) rfl [.ref mo, .int ii, .int jj])⟩ rfl rfl hl.1 rfl (lv_room (Nat.le_of_ble_eq_true rfl)) dX11_cut_3 ⟨(Nat.le_of_ble_eq_true rfl), (Nat.le_of_ble_eq_true rfl)⟩) hS (fun q _ h => hFc q h) hFc (fun r_457 u t H locs ht hvm w_458 hB hz1 hk1 hS => ?_)
  obtain ⟨hP, hD, hK⟩ := q_join (D := D) (wc := [(mo, .inr (16, [.int th, .ref gl, .ref po, .ref pi, .ref bu, .ref pa, .int mt, .int mh, .int 40, .int 0, .null, .int 0, .int 0])), (pi, .inr (4, [.int 0, .ref G.1, .int 0]))]) (wr := []) (w1 := [(mo, .inr (16, [.int 1, .ref gl, .ref po, .ref pi, .ref bu, .ref pa, .int mt, .int mh, .int 40, .int 0, .null, .int 0, .int 0])), (pi, .inr (4, [.int 0, .ref G.1, .int 0]))]) (tyr := []) (ty1 := []) hP hD hK [0, 1] [] [] rfl rfl (by decide) (by decide) rfl hFc hk1 ht hvm hB
  have hP : va_P D vwCl [(mo, .inr (16, [.int 1, .ref gl, .ref po, .ref pi, .ref bu, .ref pa, .int mt, .int mh, .int 40, .int 0, .null, .int 0, .int 0])), (pi, .inr (4, [.int 0, .ref G.1, .int 0]))] H := hP
  have hD : va_D A [(mo, .inr (16, [.int 1, .ref gl, .ref po, .ref pi, .ref bu, .ref pa, .int mt, .int mh, .int 40, .int 0, .null, .int 0, .int 0])), (pi, .inr (4, [.int 0, .ref G.1, .int 0]))] := hD
  have hK : va_K D vwCl [] s := hK
  obtain rfl := w_458
  refine lv_if_eq (tgt := 11) hx hb dX11_cut_6 (by decide) (fun cc => absurd cc (by decide)) (fun _ => ?_)
  refine lv_iconst (v := 0) hx hb dX11_cut_9 (by decide) ?_
  exact W.iret (v := 0) hx hb hr (fun t ht hW => ⟨⟨0, (), rfl, rfl, q_RW_mk hP hK hD [0, 1] [] rfl rfl (by decide) rfl ht hW.alike⟩, hS.F ht⟩) hS.2.2 dX11_cut_10
theorem dX11_colour_0 : decode cX11_colour 0 = .ok (.aload_n 0, 1) := by decide +kernel
theorem dX11_colour_1 : decode cX11_colour 1 = .ok (.iload_n 1, 1) := by decide +kernel
theorem dX11_colour_2 : decode cX11_colour 2 = .ok (.iload_n 2, 1) := by decide +kernel
theorem dX11_colour_3 : decode cX11_colour 3 = .ok (.invokevirtual 223, 3) := by decide +kernel
theorem dX11_colour_6 : decode cX11_colour 6 = .ok (.ifCond .eq 7, 3) := by decide +kernel
theorem dX11_colour_9 : decode cX11_colour 9 = .ok (.iconst 0, 1) := by decide +kernel
theorem dX11_colour_10 : decode cX11_colour 10 = .ok (.goto 28, 3) := by decide +kernel
theorem dX11_colour_38 : decode cX11_colour 38 = .ok (.ireturn, 1) := by decide +kernel
def wzEX11_colour : List Cond := [.code yX11_colour cX11_colour 3 (some .int), .methodLink RX11 223 yX11_noRing, .instanceMethod yX11_noRing, .selects RX11 yX11_noRing yX11_noRing, .initialized RX11, .code yX11_noRing cX11_noRing 3 (some .boolean), .methodLink RX11 51 yX11_noPiece, .instanceMethod yX11_noPiece, .selects RX11 yX11_noPiece yX11_noPiece, .code yX11_noPiece cX11_noPiece 2 (some .boolean), .fieldLink RX11 19 "GatherhouseModel" "pieces" "Ljava/util/ArrayList;", .methodLink RX11 44 yJx4a65c_size_8abf5, .instanceMethod yJx4a65c_size_8abf5, .selects RJx4a65c yJx4a65c_size_8abf5 yJx4a65c_size_8abf5, .initialized RJx4a65c, .code yJx4a65c_size_8abf5 cJx4a65c_size_8abf5 1 (some .int), .fieldLink RJx4a65c 48 "java/util/ArrayList" "size" "I", .methodLink RX11 47 yX11_in, .static yX11_in, .code yX11_in cX11_in 3 (some .boolean), .fieldLink RX11 41 "GatherhouseModel" "thrown" "I"]
def wzX11_colour : List Cond := wzEX11_colour ++ (u_ws RX11 TX11 13 ++ (u_ws RJx4a65c TJx4a65c 3))
theorem zgEX11_colour : wzEX11_colour.all goodWord = true := by decide +kernel
theorem zuX11_colour_X11 : ∀ w ∈ u_ws RX11 TX11 13, w ∈ wzX11_colour := (fun _ h => (List.mem_append_right _ (List.mem_append_left _ h)))
theorem zuX11_colour_Jx4a65c : ∀ w ∈ u_ws RJx4a65c TJx4a65c 3, w ∈ wzX11_colour := (fun _ h => (List.mem_append_right _ (List.mem_append_right _ h)))
theorem gzX11_colour_X11_noRing_223 : GoodIn wzX11_colour (wsV RX11 223 RX11 yX11_noRing wzX11_noRing) := (goodIn_app (z_lift (goodIn_r _ [1, 2, 3, 4] rfl (by decide +kernel))) (goodIn_app (z_lift (goodIn_r wzEX11_noRing [5, 6, 7, 8, 4, 9, 10, 11, 12, 13, 14, 15, 16, 17, 18, 19, 20] rfl zgEX11_noRing)) (goodIn_app (goodIn_sub (fun _ h => (List.mem_append_right _ (List.mem_append_left _ h))) zgU_X11) (goodIn_sub (fun _ h => (List.mem_append_right _ (List.mem_append_right _ h))) zgU_Jx4a65c))))
set_option maxHeartbeats 4000000 in
set_option maxRecDepth 100000 in
theorem zc_X11_colour (l : Launch) (D : va_G) (G : Nat × Nat × Nat) (mo : Nat) (gl : Nat) (po : Nat) (pi : Nat) (bu : Nat) (pa : Nat) (th : Int32) (mh : Int32) (mt : Int32) (ii : Int32) (jj : Int32) (sz : Nat) : Met l yX11_colour wzX11_colour ({ frames := 3, cells := 0, slots := 0, locals := 65 }) (va_Pc [.ref mo, .int ii, .int jj] (p_RW D G [] [(mo, .inr (16, [.int th, .ref gl, .ref po, .ref pi, .ref bu, .ref pa, .int mt, .int mh, .int 40, .int 0, .null, .int 0, .int 0])), (pi, .inr (4, [.int 0, .ref G.1, .int 0]))] sz)) (va_Qi (fun (r : Int32) (u : Unit) => r = 0) (fun (u : Unit) (t : State) => q_RW D [] [(mo, .inr (16, [.int 1, .ref gl, .ref po, .ref pi, .ref bu, .ref pa, .int mt, .int mh, .int 40, .int 0, .null, .int 0, .int 0])), (pi, .inr (4, [.int 0, .ref G.1, .int 0]))] (va_A [(mo, .inr (16, [.int th, .ref gl, .ref po, .ref pi, .ref bu, .ref pa, .int mt, .int mh, .int 40, .int 0, .null, .int 0, .int 0])), (pi, .inr (4, [.int 0, .ref G.1, .int 0]))] sz) t) (va_A [(mo, .inr (16, [.int th, .ref gl, .ref po, .ref pi, .ref bu, .ref pa, .int mt, .int mh, .int 40, .int 0, .null, .int 0, .int 0])), (pi, .inr (4, [.int 0, .ref G.1, .int 0]))] sz)) 0 0 (va_A [(mo, .inr (16, [.int th, .ref gl, .ref po, .ref pi, .ref bu, .ref pa, .int mt, .int mh, .int 40, .int 0, .null, .int 0, .int 0])), (pi, .inr (4, [.int 0, .ref G.1, .int 0]))] sz) := by
  refine Met.ofW (cc := cX11_colour) (maxL := 3) (ret := (some .int)) (by decide) rfl ?_
  intro p e s m args below meth c s₁ B hml hv
  obtain ⟨rfl, hsz, hP, hK, hD0, hT, hZ⟩ := hv
  have hx := B.exec
  have hb := B.bytes
  have hr := B.returns
  have hts := atoms_spec (ws := wzX11_colour) B.pre
  have hown : s.vm.findClass RX11 = some m.cls := findClass_of_methodNamed B.named
  have hlocks := B.notSynchronized
  subst hsz
  have hD := hD0.self (sz := s.heap.size)
  generalize hAe : va_A [(mo, .inr (16, [.int th, .ref gl, .ref po, .ref pi, .ref bu, .ref pa, .int mt, .int mh, .int 40, .int 0, .null, .int 0, .int 0])), (pi, .inr (4, [.int 0, .ref G.1, .int 0]))] s.heap.size = A at hD hZ ⊢
  have hA : ∀ q : Nat, s.heap.size ≤ q → A q := fun q h => by rw [← hAe]; exact Or.inr h
  have hS : va_S A s.heap s.heap [] := va_S.rf
  have hl := lv_entry ([.ref mo, .int ii, .int jj]) (n := 3) (Nat.le_of_ble_eq_true rfl)
  rw [lg_entry_eq]
  generalize (lg_sl ([.ref mo, .int ii, .int jj]) ++ List.replicate (3 - (lg_sl ([.ref mo, .int ii, .int jj])).length) Slot.unset).toArray = ls at hl ⊢
  have hl : lv_has ls 3 [(0, .ref mo), (1, .int ii), (2, .int jj)] := hl
  refine lv_aload_n hx hb dX11_colour_0 rfl (lv_at hl 0 rfl) ?_
  refine lv_iload_n hx hb dX11_colour_1 rfl (lv_at hl 1 rfl) ?_
  refine lv_iload_n hx hb dX11_colour_2 rfl (lv_at hl 2 rfl) ?_
  have hFc := va_free (wc := [(mo, .inr (16, [.int th, .ref gl, .ref po, .ref pi, .ref bu, .ref pa, .int mt, .int mh, .int 40, .int 0, .null, .int 0, .int 0])), (pi, .inr (4, [.int 0, .ref G.1, .int 0]))]) hD hS hA [0, 1] rfl
  refine va_calli (va_runV (As := [.int ii, .int jj]) (rest := []) ⟨hx, hb, hml, hown, hts⟩ (zc_X11_noRing l D G mo gl po pi bu pa th mh mt ii jj s.heap.size) (cwV 2 hts gzX11_colour_X11_noRing_223 rfl rfl rfl (by decide +kernel) ⟨(Nat.le_of_ble_eq_true rfl), (Nat.le_of_ble_eq_true rfl)⟩) ⟨p_RW_blind, va_recv hK hP (ci := 16) (q0 := 0) rfl rfl, (p_RW_at (tc := []) (wc := [(mo, .inr (16, [.int th, .ref gl, .ref po, .ref pi, .ref bu, .ref pa, .int mt, .int mh, .int 40, .int 0, .null, .int 0, .int 0])), (pi, .inr (4, [.int 0, .ref G.1, .int 0]))]) hP hK hD hS hA hT hZ [0, 1] [] rfl rfl (by decide) rfl [.ref mo, .int ii, .int jj])⟩ rfl rfl hl.1 rfl (lv_room (Nat.le_of_ble_eq_true rfl)) dX11_colour_3 ⟨(Nat.le_of_ble_eq_true rfl), (Nat.le_of_ble_eq_true rfl)⟩) hS (fun q _ h => hFc q h) hFc (fun r_459 u t H locs ht hvm w_460 hB hz1 hk1 hS => ?_)
  obtain ⟨hP, hD, hK⟩ := q_join (D := D) (wc := [(mo, .inr (16, [.int th, .ref gl, .ref po, .ref pi, .ref bu, .ref pa, .int mt, .int mh, .int 40, .int 0, .null, .int 0, .int 0])), (pi, .inr (4, [.int 0, .ref G.1, .int 0]))]) (wr := []) (w1 := [(mo, .inr (16, [.int 1, .ref gl, .ref po, .ref pi, .ref bu, .ref pa, .int mt, .int mh, .int 40, .int 0, .null, .int 0, .int 0])), (pi, .inr (4, [.int 0, .ref G.1, .int 0]))]) (tyr := []) (ty1 := []) hP hD hK [0, 1] [] [] rfl rfl (by decide) (by decide) rfl hFc hk1 ht hvm hB
  have hP : va_P D vwCl [(mo, .inr (16, [.int 1, .ref gl, .ref po, .ref pi, .ref bu, .ref pa, .int mt, .int mh, .int 40, .int 0, .null, .int 0, .int 0])), (pi, .inr (4, [.int 0, .ref G.1, .int 0]))] H := hP
  have hD : va_D A [(mo, .inr (16, [.int 1, .ref gl, .ref po, .ref pi, .ref bu, .ref pa, .int mt, .int mh, .int 40, .int 0, .null, .int 0, .int 0])), (pi, .inr (4, [.int 0, .ref G.1, .int 0]))] := hD
  have hK : va_K D vwCl [] s := hK
  obtain rfl := w_460
  refine lv_if_eq (tgt := 13) hx hb dX11_colour_6 (by decide) (fun cc => absurd cc (by decide)) (fun _ => ?_)
  refine lv_iconst (v := 0) hx hb dX11_colour_9 (by decide) ?_
  refine lv_goto (tgt := 38) hx hb dX11_colour_10 (by decide) ?_
  exact W.iret (v := 0) hx hb hr (fun t ht hW => ⟨⟨0, (), rfl, rfl, q_RW_mk hP hK hD [0, 1] [] rfl rfl (by decide) rfl ht hW.alike⟩, hS.F ht⟩) hS.2.2 dX11_colour_38
theorem dX11_isInSet_0 : decode cX11_isInSet 0 = .ok (.aload_n 0, 1) := by decide +kernel
theorem dX11_isInSet_1 : decode cX11_isInSet 1 = .ok (.iload_n 1, 1) := by decide +kernel
theorem dX11_isInSet_2 : decode cX11_isInSet 2 = .ok (.invokevirtual 51, 3) := by decide +kernel
theorem dX11_isInSet_5 : decode cX11_isInSet 5 = .ok (.ifCond .ne 24, 3) := by decide +kernel
theorem dX11_isInSet_29 : decode cX11_isInSet 29 = .ok (.iconst 0, 1) := by decide +kernel
theorem dX11_isInSet_30 : decode cX11_isInSet 30 = .ok (.ireturn, 1) := by decide +kernel
def wzEX11_isInSet : List Cond := [.code yX11_isInSet cX11_isInSet 2 (some .boolean), .methodLink RX11 51 yX11_noPiece, .instanceMethod yX11_noPiece, .selects RX11 yX11_noPiece yX11_noPiece, .initialized RX11, .code yX11_noPiece cX11_noPiece 2 (some .boolean), .fieldLink RX11 19 "GatherhouseModel" "pieces" "Ljava/util/ArrayList;", .methodLink RX11 44 yJx4a65c_size_8abf5, .instanceMethod yJx4a65c_size_8abf5, .selects RJx4a65c yJx4a65c_size_8abf5 yJx4a65c_size_8abf5, .initialized RJx4a65c, .code yJx4a65c_size_8abf5 cJx4a65c_size_8abf5 1 (some .int), .fieldLink RJx4a65c 48 "java/util/ArrayList" "size" "I", .methodLink RX11 47 yX11_in, .static yX11_in, .code yX11_in cX11_in 3 (some .boolean), .fieldLink RX11 41 "GatherhouseModel" "thrown" "I"]
def wzX11_isInSet : List Cond := wzEX11_isInSet ++ (u_ws RX11 TX11 13 ++ (u_ws RJx4a65c TJx4a65c 3))
theorem zgEX11_isInSet : wzEX11_isInSet.all goodWord = true := by decide +kernel
theorem zuX11_isInSet_X11 : ∀ w ∈ u_ws RX11 TX11 13, w ∈ wzX11_isInSet := (fun _ h => (List.mem_append_right _ (List.mem_append_left _ h)))
theorem zuX11_isInSet_Jx4a65c : ∀ w ∈ u_ws RJx4a65c TJx4a65c 3, w ∈ wzX11_isInSet := (fun _ h => (List.mem_append_right _ (List.mem_append_right _ h)))
theorem gzX11_isInSet_X11_noPiece_51 : GoodIn wzX11_isInSet (wsV RX11 51 RX11 yX11_noPiece wzX11_noPiece) := (goodIn_app (z_lift (goodIn_r _ [1, 2, 3, 4] rfl (by decide +kernel))) (goodIn_app (z_lift (goodIn_r wzEX11_noPiece [5, 6, 7, 8, 9, 10, 11, 12, 13, 14, 4, 15, 16] rfl zgEX11_noPiece)) (goodIn_app (goodIn_sub (fun _ h => (List.mem_append_right _ (List.mem_append_left _ h))) zgU_X11) (goodIn_sub (fun _ h => (List.mem_append_right _ (List.mem_append_right _ h))) zgU_Jx4a65c))))
set_option maxHeartbeats 4000000 in
set_option maxRecDepth 100000 in
theorem zc_X11_isInSet (l : Launch) (D : va_G) (G : Nat × Nat × Nat) (mo : Nat) (gl : Nat) (po : Nat) (pi : Nat) (bu : Nat) (pa : Nat) (th : Int32) (mh : Int32) (mt : Int32) (ii : Int32) (sz : Nat) : Met l yX11_isInSet wzX11_isInSet ({ frames := 2, cells := 0, slots := 0, locals := 43 }) (va_Pc [.ref mo, .int ii] (p_RW D G [] [(mo, .inr (16, [.int th, .ref gl, .ref po, .ref pi, .ref bu, .ref pa, .int mt, .int mh, .int 40, .int 0, .null, .int 0, .int 0])), (pi, .inr (4, [.int 0, .ref G.1, .int 0]))] sz)) (va_Qi (fun (r : Int32) (u : Unit) => r = 0) (fun (u : Unit) (t : State) => q_RW D [] [(mo, .inr (16, [.int 1, .ref gl, .ref po, .ref pi, .ref bu, .ref pa, .int mt, .int mh, .int 40, .int 0, .null, .int 0, .int 0])), (pi, .inr (4, [.int 0, .ref G.1, .int 0]))] (va_A [(mo, .inr (16, [.int th, .ref gl, .ref po, .ref pi, .ref bu, .ref pa, .int mt, .int mh, .int 40, .int 0, .null, .int 0, .int 0])), (pi, .inr (4, [.int 0, .ref G.1, .int 0]))] sz) t) (va_A [(mo, .inr (16, [.int th, .ref gl, .ref po, .ref pi, .ref bu, .ref pa, .int mt, .int mh, .int 40, .int 0, .null, .int 0, .int 0])), (pi, .inr (4, [.int 0, .ref G.1, .int 0]))] sz)) 0 0 (va_A [(mo, .inr (16, [.int th, .ref gl, .ref po, .ref pi, .ref bu, .ref pa, .int mt, .int mh, .int 40, .int 0, .null, .int 0, .int 0])), (pi, .inr (4, [.int 0, .ref G.1, .int 0]))] sz) := by
  refine Met.ofW (cc := cX11_isInSet) (maxL := 2) (ret := (some .boolean)) (by decide) rfl ?_
  intro p e s m args below meth c s₁ B hml hv
  obtain ⟨rfl, hsz, hP, hK, hD0, hT, hZ⟩ := hv
  have hx := B.exec
  have hb := B.bytes
  have hr := B.returns
  have hts := atoms_spec (ws := wzX11_isInSet) B.pre
  have hown : s.vm.findClass RX11 = some m.cls := findClass_of_methodNamed B.named
  have hlocks := B.notSynchronized
  subst hsz
  have hD := hD0.self (sz := s.heap.size)
  generalize hAe : va_A [(mo, .inr (16, [.int th, .ref gl, .ref po, .ref pi, .ref bu, .ref pa, .int mt, .int mh, .int 40, .int 0, .null, .int 0, .int 0])), (pi, .inr (4, [.int 0, .ref G.1, .int 0]))] s.heap.size = A at hD hZ ⊢
  have hA : ∀ q : Nat, s.heap.size ≤ q → A q := fun q h => by rw [← hAe]; exact Or.inr h
  have hS : va_S A s.heap s.heap [] := va_S.rf
  have hl := lv_entry ([.ref mo, .int ii]) (n := 2) (Nat.le_of_ble_eq_true rfl)
  rw [lg_entry_eq]
  generalize (lg_sl ([.ref mo, .int ii]) ++ List.replicate (2 - (lg_sl ([.ref mo, .int ii])).length) Slot.unset).toArray = ls at hl ⊢
  have hl : lv_has ls 2 [(0, .ref mo), (1, .int ii)] := hl
  refine lv_aload_n hx hb dX11_isInSet_0 rfl (lv_at hl 0 rfl) ?_
  refine lv_iload_n hx hb dX11_isInSet_1 rfl (lv_at hl 1 rfl) ?_
  have hFc := va_free (wc := [(mo, .inr (16, [.int th, .ref gl, .ref po, .ref pi, .ref bu, .ref pa, .int mt, .int mh, .int 40, .int 0, .null, .int 0, .int 0])), (pi, .inr (4, [.int 0, .ref G.1, .int 0]))]) hD hS hA [0, 1] rfl
  refine va_calli (va_runV (As := [.int ii]) (rest := []) ⟨hx, hb, hml, hown, hts⟩ (zc_X11_noPiece l D G mo gl po pi bu pa th mh mt ii s.heap.size) (cwV 1 hts gzX11_isInSet_X11_noPiece_51 rfl rfl rfl (by decide +kernel) ⟨(Nat.le_of_ble_eq_true rfl), (Nat.le_of_ble_eq_true rfl)⟩) ⟨p_RW_blind, va_recv hK hP (ci := 16) (q0 := 0) rfl rfl, (p_RW_at (tc := []) (wc := [(mo, .inr (16, [.int th, .ref gl, .ref po, .ref pi, .ref bu, .ref pa, .int mt, .int mh, .int 40, .int 0, .null, .int 0, .int 0])), (pi, .inr (4, [.int 0, .ref G.1, .int 0]))]) hP hK hD hS hA hT hZ [0, 1] [] rfl rfl (by decide) rfl [.ref mo, .int ii])⟩ rfl rfl hl.1 rfl (lv_room (Nat.le_of_ble_eq_true rfl)) dX11_isInSet_2 ⟨(Nat.le_of_ble_eq_true rfl), (Nat.le_of_ble_eq_true rfl)⟩) hS (fun q _ h => hFc q h) hFc (fun r_461 u t H locs ht hvm w_462 hB hz1 hk1 hS => ?_)
  obtain ⟨hP, hD, hK⟩ := q_join (D := D) (wc := [(mo, .inr (16, [.int th, .ref gl, .ref po, .ref pi, .ref bu, .ref pa, .int mt, .int mh, .int 40, .int 0, .null, .int 0, .int 0])), (pi, .inr (4, [.int 0, .ref G.1, .int 0]))]) (wr := []) (w1 := [(mo, .inr (16, [.int 1, .ref gl, .ref po, .ref pi, .ref bu, .ref pa, .int mt, .int mh, .int 40, .int 0, .null, .int 0, .int 0])), (pi, .inr (4, [.int 0, .ref G.1, .int 0]))]) (tyr := []) (ty1 := []) hP hD hK [0, 1] [] [] rfl rfl (by decide) (by decide) rfl hFc hk1 ht hvm hB
  have hP : va_P D vwCl [(mo, .inr (16, [.int 1, .ref gl, .ref po, .ref pi, .ref bu, .ref pa, .int mt, .int mh, .int 40, .int 0, .null, .int 0, .int 0])), (pi, .inr (4, [.int 0, .ref G.1, .int 0]))] H := hP
  have hD : va_D A [(mo, .inr (16, [.int 1, .ref gl, .ref po, .ref pi, .ref bu, .ref pa, .int mt, .int mh, .int 40, .int 0, .null, .int 0, .int 0])), (pi, .inr (4, [.int 0, .ref G.1, .int 0]))] := hD
  have hK : va_K D vwCl [] s := hK
  obtain rfl := w_462
  refine lv_if_ne (tgt := 29) hx hb dX11_isInSet_5 (by decide) (fun _ => ?_) (fun cc => absurd cc (by decide))
  refine lv_iconst (v := 0) hx hb dX11_isInSet_29 (by decide) ?_
  exact W.zret (v := 0) hx hb hr rfl (fun t ht hW => ⟨⟨0, (), rfl, rfl, q_RW_mk hP hK hD [0, 1] [] rfl rfl (by decide) rfl ht hW.alike⟩, hS.F ht⟩) hS.2.2 dX11_isInSet_30
theorem dX11_price_0 : decode cX11_price 0 = .ok (.aload_n 0, 1) := by decide +kernel
theorem dX11_price_1 : decode cX11_price 1 = .ok (.iload_n 1, 1) := by decide +kernel
theorem dX11_price_2 : decode cX11_price 2 = .ok (.invokevirtual 51, 3) := by decide +kernel
theorem dX11_price_5 : decode cX11_price 5 = .ok (.ifCond .eq 7, 3) := by decide +kernel
theorem dX11_price_8 : decode cX11_price 8 = .ok (.iconst 0, 1) := by decide +kernel
theorem dX11_price_9 : decode cX11_price 9 = .ok (.goto 18, 3) := by decide +kernel
theorem dX11_price_27 : decode cX11_price 27 = .ok (.ireturn, 1) := by decide +kernel
def wzEX11_price : List Cond := [.code yX11_price cX11_price 2 (some .int), .methodLink RX11 51 yX11_noPiece, .instanceMethod yX11_noPiece, .selects RX11 yX11_noPiece yX11_noPiece, .initialized RX11, .code yX11_noPiece cX11_noPiece 2 (some .boolean), .fieldLink RX11 19 "GatherhouseModel" "pieces" "Ljava/util/ArrayList;", .methodLink RX11 44 yJx4a65c_size_8abf5, .instanceMethod yJx4a65c_size_8abf5, .selects RJx4a65c yJx4a65c_size_8abf5 yJx4a65c_size_8abf5, .initialized RJx4a65c, .code yJx4a65c_size_8abf5 cJx4a65c_size_8abf5 1 (some .int), .fieldLink RJx4a65c 48 "java/util/ArrayList" "size" "I", .methodLink RX11 47 yX11_in, .static yX11_in, .code yX11_in cX11_in 3 (some .boolean), .fieldLink RX11 41 "GatherhouseModel" "thrown" "I"]
def wzX11_price : List Cond := wzEX11_price ++ (u_ws RX11 TX11 13 ++ (u_ws RJx4a65c TJx4a65c 3))
theorem zgEX11_price : wzEX11_price.all goodWord = true := by decide +kernel
theorem zuX11_price_X11 : ∀ w ∈ u_ws RX11 TX11 13, w ∈ wzX11_price := (fun _ h => (List.mem_append_right _ (List.mem_append_left _ h)))
theorem zuX11_price_Jx4a65c : ∀ w ∈ u_ws RJx4a65c TJx4a65c 3, w ∈ wzX11_price := (fun _ h => (List.mem_append_right _ (List.mem_append_right _ h)))
theorem gzX11_price_X11_noPiece_51 : GoodIn wzX11_price (wsV RX11 51 RX11 yX11_noPiece wzX11_noPiece) := (goodIn_app (z_lift (goodIn_r _ [1, 2, 3, 4] rfl (by decide +kernel))) (goodIn_app (z_lift (goodIn_r wzEX11_noPiece [5, 6, 7, 8, 9, 10, 11, 12, 13, 14, 4, 15, 16] rfl zgEX11_noPiece)) (goodIn_app (goodIn_sub (fun _ h => (List.mem_append_right _ (List.mem_append_left _ h))) zgU_X11) (goodIn_sub (fun _ h => (List.mem_append_right _ (List.mem_append_right _ h))) zgU_Jx4a65c))))
set_option maxHeartbeats 4000000 in
set_option maxRecDepth 100000 in
theorem zc_X11_price (l : Launch) (D : va_G) (G : Nat × Nat × Nat) (mo : Nat) (gl : Nat) (po : Nat) (pi : Nat) (bu : Nat) (pa : Nat) (th : Int32) (mh : Int32) (mt : Int32) (ii : Int32) (sz : Nat) : Met l yX11_price wzX11_price ({ frames := 2, cells := 0, slots := 0, locals := 43 }) (va_Pc [.ref mo, .int ii] (p_RW D G [] [(mo, .inr (16, [.int th, .ref gl, .ref po, .ref pi, .ref bu, .ref pa, .int mt, .int mh, .int 40, .int 0, .null, .int 0, .int 0])), (pi, .inr (4, [.int 0, .ref G.1, .int 0]))] sz)) (va_Qi (fun (r : Int32) (u : Unit) => r = 0) (fun (u : Unit) (t : State) => q_RW D [] [(mo, .inr (16, [.int 1, .ref gl, .ref po, .ref pi, .ref bu, .ref pa, .int mt, .int mh, .int 40, .int 0, .null, .int 0, .int 0])), (pi, .inr (4, [.int 0, .ref G.1, .int 0]))] (va_A [(mo, .inr (16, [.int th, .ref gl, .ref po, .ref pi, .ref bu, .ref pa, .int mt, .int mh, .int 40, .int 0, .null, .int 0, .int 0])), (pi, .inr (4, [.int 0, .ref G.1, .int 0]))] sz) t) (va_A [(mo, .inr (16, [.int th, .ref gl, .ref po, .ref pi, .ref bu, .ref pa, .int mt, .int mh, .int 40, .int 0, .null, .int 0, .int 0])), (pi, .inr (4, [.int 0, .ref G.1, .int 0]))] sz)) 0 0 (va_A [(mo, .inr (16, [.int th, .ref gl, .ref po, .ref pi, .ref bu, .ref pa, .int mt, .int mh, .int 40, .int 0, .null, .int 0, .int 0])), (pi, .inr (4, [.int 0, .ref G.1, .int 0]))] sz) := by
  refine Met.ofW (cc := cX11_price) (maxL := 2) (ret := (some .int)) (by decide) rfl ?_
  intro p e s m args below meth c s₁ B hml hv
  obtain ⟨rfl, hsz, hP, hK, hD0, hT, hZ⟩ := hv
  have hx := B.exec
  have hb := B.bytes
  have hr := B.returns
  have hts := atoms_spec (ws := wzX11_price) B.pre
  have hown : s.vm.findClass RX11 = some m.cls := findClass_of_methodNamed B.named
  have hlocks := B.notSynchronized
  subst hsz
  have hD := hD0.self (sz := s.heap.size)
  generalize hAe : va_A [(mo, .inr (16, [.int th, .ref gl, .ref po, .ref pi, .ref bu, .ref pa, .int mt, .int mh, .int 40, .int 0, .null, .int 0, .int 0])), (pi, .inr (4, [.int 0, .ref G.1, .int 0]))] s.heap.size = A at hD hZ ⊢
  have hA : ∀ q : Nat, s.heap.size ≤ q → A q := fun q h => by rw [← hAe]; exact Or.inr h
  have hS : va_S A s.heap s.heap [] := va_S.rf
  have hl := lv_entry ([.ref mo, .int ii]) (n := 2) (Nat.le_of_ble_eq_true rfl)
  rw [lg_entry_eq]
  generalize (lg_sl ([.ref mo, .int ii]) ++ List.replicate (2 - (lg_sl ([.ref mo, .int ii])).length) Slot.unset).toArray = ls at hl ⊢
  have hl : lv_has ls 2 [(0, .ref mo), (1, .int ii)] := hl
  refine lv_aload_n hx hb dX11_price_0 rfl (lv_at hl 0 rfl) ?_
  refine lv_iload_n hx hb dX11_price_1 rfl (lv_at hl 1 rfl) ?_
  have hFc := va_free (wc := [(mo, .inr (16, [.int th, .ref gl, .ref po, .ref pi, .ref bu, .ref pa, .int mt, .int mh, .int 40, .int 0, .null, .int 0, .int 0])), (pi, .inr (4, [.int 0, .ref G.1, .int 0]))]) hD hS hA [0, 1] rfl
  refine va_calli (va_runV (As := [.int ii]) (rest := []) ⟨hx, hb, hml, hown, hts⟩ (zc_X11_noPiece l D G mo gl po pi bu pa th mh mt ii s.heap.size) (cwV 1 hts gzX11_price_X11_noPiece_51 rfl rfl rfl (by decide +kernel) ⟨(Nat.le_of_ble_eq_true rfl), (Nat.le_of_ble_eq_true rfl)⟩) ⟨p_RW_blind, va_recv hK hP (ci := 16) (q0 := 0) rfl rfl, (p_RW_at (tc := []) (wc := [(mo, .inr (16, [.int th, .ref gl, .ref po, .ref pi, .ref bu, .ref pa, .int mt, .int mh, .int 40, .int 0, .null, .int 0, .int 0])), (pi, .inr (4, [.int 0, .ref G.1, .int 0]))]) hP hK hD hS hA hT hZ [0, 1] [] rfl rfl (by decide) rfl [.ref mo, .int ii])⟩ rfl rfl hl.1 rfl (lv_room (Nat.le_of_ble_eq_true rfl)) dX11_price_2 ⟨(Nat.le_of_ble_eq_true rfl), (Nat.le_of_ble_eq_true rfl)⟩) hS (fun q _ h => hFc q h) hFc (fun r_463 u t H locs ht hvm w_464 hB hz1 hk1 hS => ?_)
  obtain ⟨hP, hD, hK⟩ := q_join (D := D) (wc := [(mo, .inr (16, [.int th, .ref gl, .ref po, .ref pi, .ref bu, .ref pa, .int mt, .int mh, .int 40, .int 0, .null, .int 0, .int 0])), (pi, .inr (4, [.int 0, .ref G.1, .int 0]))]) (wr := []) (w1 := [(mo, .inr (16, [.int 1, .ref gl, .ref po, .ref pi, .ref bu, .ref pa, .int mt, .int mh, .int 40, .int 0, .null, .int 0, .int 0])), (pi, .inr (4, [.int 0, .ref G.1, .int 0]))]) (tyr := []) (ty1 := []) hP hD hK [0, 1] [] [] rfl rfl (by decide) (by decide) rfl hFc hk1 ht hvm hB
  have hP : va_P D vwCl [(mo, .inr (16, [.int 1, .ref gl, .ref po, .ref pi, .ref bu, .ref pa, .int mt, .int mh, .int 40, .int 0, .null, .int 0, .int 0])), (pi, .inr (4, [.int 0, .ref G.1, .int 0]))] H := hP
  have hD : va_D A [(mo, .inr (16, [.int 1, .ref gl, .ref po, .ref pi, .ref bu, .ref pa, .int mt, .int mh, .int 40, .int 0, .null, .int 0, .int 0])), (pi, .inr (4, [.int 0, .ref G.1, .int 0]))] := hD
  have hK : va_K D vwCl [] s := hK
  obtain rfl := w_464
  refine lv_if_eq (tgt := 12) hx hb dX11_price_5 (by decide) (fun cc => absurd cc (by decide)) (fun _ => ?_)
  refine lv_iconst (v := 0) hx hb dX11_price_8 (by decide) ?_
  refine lv_goto (tgt := 27) hx hb dX11_price_9 (by decide) ?_
  exact W.iret (v := 0) hx hb hr (fun t ht hW => ⟨⟨0, (), rfl, rfl, q_RW_mk hP hK hD [0, 1] [] rfl rfl (by decide) rfl ht hW.alike⟩, hS.F ht⟩) hS.2.2 dX11_price_27
theorem dX11_sell_0 : decode cX11_sell 0 = .ok (.aload_n 0, 1) := by decide +kernel
theorem dX11_sell_1 : decode cX11_sell 1 = .ok (.iload_n 1, 1) := by decide +kernel
theorem dX11_sell_2 : decode cX11_sell 2 = .ok (.invokevirtual 51, 3) := by decide +kernel
theorem dX11_sell_5 : decode cX11_sell 5 = .ok (.ifCond .eq 5, 3) := by decide +kernel
theorem dX11_sell_8 : decode cX11_sell 8 = .ok (.iconst 0, 1) := by decide +kernel
theorem dX11_sell_9 : decode cX11_sell 9 = .ok (.ireturn, 1) := by decide +kernel
def wzEX11_sell : List Cond := [.code yX11_sell cX11_sell 3 (some .int), .methodLink RX11 51 yX11_noPiece, .instanceMethod yX11_noPiece, .selects RX11 yX11_noPiece yX11_noPiece, .initialized RX11, .code yX11_noPiece cX11_noPiece 2 (some .boolean), .fieldLink RX11 19 "GatherhouseModel" "pieces" "Ljava/util/ArrayList;", .methodLink RX11 44 yJx4a65c_size_8abf5, .instanceMethod yJx4a65c_size_8abf5, .selects RJx4a65c yJx4a65c_size_8abf5 yJx4a65c_size_8abf5, .initialized RJx4a65c, .code yJx4a65c_size_8abf5 cJx4a65c_size_8abf5 1 (some .int), .fieldLink RJx4a65c 48 "java/util/ArrayList" "size" "I", .methodLink RX11 47 yX11_in, .static yX11_in, .code yX11_in cX11_in 3 (some .boolean), .fieldLink RX11 41 "GatherhouseModel" "thrown" "I"]
def wzX11_sell : List Cond := wzEX11_sell ++ (u_ws RX11 TX11 13 ++ (u_ws RJx4a65c TJx4a65c 3))
theorem zgEX11_sell : wzEX11_sell.all goodWord = true := by decide +kernel
theorem zuX11_sell_X11 : ∀ w ∈ u_ws RX11 TX11 13, w ∈ wzX11_sell := (fun _ h => (List.mem_append_right _ (List.mem_append_left _ h)))
theorem zuX11_sell_Jx4a65c : ∀ w ∈ u_ws RJx4a65c TJx4a65c 3, w ∈ wzX11_sell := (fun _ h => (List.mem_append_right _ (List.mem_append_right _ h)))
theorem gzX11_sell_X11_noPiece_51 : GoodIn wzX11_sell (wsV RX11 51 RX11 yX11_noPiece wzX11_noPiece) := (goodIn_app (z_lift (goodIn_r _ [1, 2, 3, 4] rfl (by decide +kernel))) (goodIn_app (z_lift (goodIn_r wzEX11_noPiece [5, 6, 7, 8, 9, 10, 11, 12, 13, 14, 4, 15, 16] rfl zgEX11_noPiece)) (goodIn_app (goodIn_sub (fun _ h => (List.mem_append_right _ (List.mem_append_left _ h))) zgU_X11) (goodIn_sub (fun _ h => (List.mem_append_right _ (List.mem_append_right _ h))) zgU_Jx4a65c))))
set_option maxHeartbeats 4000000 in
set_option maxRecDepth 100000 in
theorem zc_X11_sell (l : Launch) (D : va_G) (G : Nat × Nat × Nat) (mo : Nat) (gl : Nat) (po : Nat) (pi : Nat) (bu : Nat) (pa : Nat) (th : Int32) (mh : Int32) (mt : Int32) (ii : Int32) (sz : Nat) : Met l yX11_sell wzX11_sell ({ frames := 2, cells := 0, slots := 0, locals := 43 }) (va_Pc [.ref mo, .int ii] (p_RW D G [] [(mo, .inr (16, [.int th, .ref gl, .ref po, .ref pi, .ref bu, .ref pa, .int mt, .int mh, .int 40, .int 0, .null, .int 0, .int 0])), (pi, .inr (4, [.int 0, .ref G.1, .int 0]))] sz)) (va_Qi (fun (r : Int32) (u : Unit) => r = 0) (fun (u : Unit) (t : State) => q_RW D [] [(mo, .inr (16, [.int 1, .ref gl, .ref po, .ref pi, .ref bu, .ref pa, .int mt, .int mh, .int 40, .int 0, .null, .int 0, .int 0])), (pi, .inr (4, [.int 0, .ref G.1, .int 0]))] (va_A [(mo, .inr (16, [.int th, .ref gl, .ref po, .ref pi, .ref bu, .ref pa, .int mt, .int mh, .int 40, .int 0, .null, .int 0, .int 0])), (pi, .inr (4, [.int 0, .ref G.1, .int 0]))] sz) t) (va_A [(mo, .inr (16, [.int th, .ref gl, .ref po, .ref pi, .ref bu, .ref pa, .int mt, .int mh, .int 40, .int 0, .null, .int 0, .int 0])), (pi, .inr (4, [.int 0, .ref G.1, .int 0]))] sz)) 0 0 (va_A [(mo, .inr (16, [.int th, .ref gl, .ref po, .ref pi, .ref bu, .ref pa, .int mt, .int mh, .int 40, .int 0, .null, .int 0, .int 0])), (pi, .inr (4, [.int 0, .ref G.1, .int 0]))] sz) := by
  refine Met.ofW (cc := cX11_sell) (maxL := 3) (ret := (some .int)) (by decide) rfl ?_
  intro p e s m args below meth c s₁ B hml hv
  obtain ⟨rfl, hsz, hP, hK, hD0, hT, hZ⟩ := hv
  have hx := B.exec
  have hb := B.bytes
  have hr := B.returns
  have hts := atoms_spec (ws := wzX11_sell) B.pre
  have hown : s.vm.findClass RX11 = some m.cls := findClass_of_methodNamed B.named
  have hlocks := B.notSynchronized
  subst hsz
  have hD := hD0.self (sz := s.heap.size)
  generalize hAe : va_A [(mo, .inr (16, [.int th, .ref gl, .ref po, .ref pi, .ref bu, .ref pa, .int mt, .int mh, .int 40, .int 0, .null, .int 0, .int 0])), (pi, .inr (4, [.int 0, .ref G.1, .int 0]))] s.heap.size = A at hD hZ ⊢
  have hA : ∀ q : Nat, s.heap.size ≤ q → A q := fun q h => by rw [← hAe]; exact Or.inr h
  have hS : va_S A s.heap s.heap [] := va_S.rf
  have hl := lv_entry ([.ref mo, .int ii]) (n := 3) (Nat.le_of_ble_eq_true rfl)
  rw [lg_entry_eq]
  generalize (lg_sl ([.ref mo, .int ii]) ++ List.replicate (3 - (lg_sl ([.ref mo, .int ii])).length) Slot.unset).toArray = ls at hl ⊢
  have hl : lv_has ls 3 [(0, .ref mo), (1, .int ii)] := hl
  refine lv_aload_n hx hb dX11_sell_0 rfl (lv_at hl 0 rfl) ?_
  refine lv_iload_n hx hb dX11_sell_1 rfl (lv_at hl 1 rfl) ?_
  have hFc := va_free (wc := [(mo, .inr (16, [.int th, .ref gl, .ref po, .ref pi, .ref bu, .ref pa, .int mt, .int mh, .int 40, .int 0, .null, .int 0, .int 0])), (pi, .inr (4, [.int 0, .ref G.1, .int 0]))]) hD hS hA [0, 1] rfl
  refine va_calli (va_runV (As := [.int ii]) (rest := []) ⟨hx, hb, hml, hown, hts⟩ (zc_X11_noPiece l D G mo gl po pi bu pa th mh mt ii s.heap.size) (cwV 1 hts gzX11_sell_X11_noPiece_51 rfl rfl rfl (by decide +kernel) ⟨(Nat.le_of_ble_eq_true rfl), (Nat.le_of_ble_eq_true rfl)⟩) ⟨p_RW_blind, va_recv hK hP (ci := 16) (q0 := 0) rfl rfl, (p_RW_at (tc := []) (wc := [(mo, .inr (16, [.int th, .ref gl, .ref po, .ref pi, .ref bu, .ref pa, .int mt, .int mh, .int 40, .int 0, .null, .int 0, .int 0])), (pi, .inr (4, [.int 0, .ref G.1, .int 0]))]) hP hK hD hS hA hT hZ [0, 1] [] rfl rfl (by decide) rfl [.ref mo, .int ii])⟩ rfl rfl hl.1 rfl (lv_room (Nat.le_of_ble_eq_true rfl)) dX11_sell_2 ⟨(Nat.le_of_ble_eq_true rfl), (Nat.le_of_ble_eq_true rfl)⟩) hS (fun q _ h => hFc q h) hFc (fun r_465 u t H locs ht hvm w_466 hB hz1 hk1 hS => ?_)
  obtain ⟨hP, hD, hK⟩ := q_join (D := D) (wc := [(mo, .inr (16, [.int th, .ref gl, .ref po, .ref pi, .ref bu, .ref pa, .int mt, .int mh, .int 40, .int 0, .null, .int 0, .int 0])), (pi, .inr (4, [.int 0, .ref G.1, .int 0]))]) (wr := []) (w1 := [(mo, .inr (16, [.int 1, .ref gl, .ref po, .ref pi, .ref bu, .ref pa, .int mt, .int mh, .int 40, .int 0, .null, .int 0, .int 0])), (pi, .inr (4, [.int 0, .ref G.1, .int 0]))]) (tyr := []) (ty1 := []) hP hD hK [0, 1] [] [] rfl rfl (by decide) (by decide) rfl hFc hk1 ht hvm hB
  have hP : va_P D vwCl [(mo, .inr (16, [.int 1, .ref gl, .ref po, .ref pi, .ref bu, .ref pa, .int mt, .int mh, .int 40, .int 0, .null, .int 0, .int 0])), (pi, .inr (4, [.int 0, .ref G.1, .int 0]))] H := hP
  have hD : va_D A [(mo, .inr (16, [.int 1, .ref gl, .ref po, .ref pi, .ref bu, .ref pa, .int mt, .int mh, .int 40, .int 0, .null, .int 0, .int 0])), (pi, .inr (4, [.int 0, .ref G.1, .int 0]))] := hD
  have hK : va_K D vwCl [] s := hK
  obtain rfl := w_466
  refine lv_if_eq (tgt := 10) hx hb dX11_sell_5 (by decide) (fun cc => absurd cc (by decide)) (fun _ => ?_)
  refine lv_iconst (v := 0) hx hb dX11_sell_8 (by decide) ?_
  exact W.iret (v := 0) hx hb hr (fun t ht hW => ⟨⟨0, (), rfl, rfl, q_RW_mk hP hK hD [0, 1] [] rfl rfl (by decide) rfl ht hW.alike⟩, hS.F ht⟩) hS.2.2 dX11_sell_9
theorem dX11_lay_0 : decode cX11_lay 0 = .ok (.aload_n 0, 1) := by decide +kernel
theorem dX11_lay_1 : decode cX11_lay 1 = .ok (.iload_n 1, 1) := by decide +kernel
theorem dX11_lay_2 : decode cX11_lay 2 = .ok (.iconst 0, 1) := by decide +kernel
theorem dX11_lay_3 : decode cX11_lay 3 = .ok (.aload_n 0, 1) := by decide +kernel
theorem dX11_lay_4 : decode cX11_lay 4 = .ok (.getfield 19, 3) := by decide +kernel
theorem dX11_lay_7 : decode cX11_lay 7 = .ok (.invokevirtual 44, 3) := by decide +kernel
theorem dX11_lay_10 : decode cX11_lay 10 = .ok (.iconst 1, 1) := by decide +kernel
theorem dX11_lay_11 : decode cX11_lay 11 = .ok (.isub, 1) := by decide +kernel
theorem dX11_lay_12 : decode cX11_lay 12 = .ok (.invokestatic 47, 3) := by decide +kernel
theorem dX11_lay_15 : decode cX11_lay 15 = .ok (.ifCond .eq 24, 3) := by decide +kernel
theorem dX11_lay_39 : decode cX11_lay 39 = .ok (.iconst 1, 1) := by decide +kernel
theorem dX11_lay_40 : decode cX11_lay 40 = .ok (.putfield 41, 3) := by decide +kernel
theorem dX11_lay_43 : decode cX11_lay 43 = .ok (.aload_n 0, 1) := by decide +kernel
theorem dX11_lay_44 : decode cX11_lay 44 = .ok (.getfield 41, 3) := by decide +kernel
theorem dX11_lay_47 : decode cX11_lay 47 = .ok (.ifCond .le 5, 3) := by decide +kernel
theorem dX11_lay_50 : decode cX11_lay 50 = .ok (.iconst 0, 1) := by decide +kernel
theorem dX11_lay_51 : decode cX11_lay 51 = .ok (.ireturn, 1) := by decide +kernel
def wzEX11_lay : List Cond := [.code yX11_lay cX11_lay 10 (some .int), .fieldLink RX11 19 "GatherhouseModel" "pieces" "Ljava/util/ArrayList;", .methodLink RX11 44 yJx4a65c_size_8abf5, .instanceMethod yJx4a65c_size_8abf5, .selects RJx4a65c yJx4a65c_size_8abf5 yJx4a65c_size_8abf5, .initialized RJx4a65c, .code yJx4a65c_size_8abf5 cJx4a65c_size_8abf5 1 (some .int), .fieldLink RJx4a65c 48 "java/util/ArrayList" "size" "I", .methodLink RX11 47 yX11_in, .static yX11_in, .initialized RX11, .code yX11_in cX11_in 3 (some .boolean), .fieldLink RX11 41 "GatherhouseModel" "thrown" "I"]
def wzX11_lay : List Cond := wzEX11_lay ++ (u_ws RX11 TX11 13 ++ (u_ws RJx4a65c TJx4a65c 3))
theorem zgEX11_lay : wzEX11_lay.all goodWord = true := by decide +kernel
theorem zuX11_lay_X11 : ∀ w ∈ u_ws RX11 TX11 13, w ∈ wzX11_lay := (fun _ h => (List.mem_append_right _ (List.mem_append_left _ h)))
theorem zuX11_lay_Jx4a65c : ∀ w ∈ u_ws RJx4a65c TJx4a65c 3, w ∈ wzX11_lay := (fun _ h => (List.mem_append_right _ (List.mem_append_right _ h)))
theorem gzX11_lay_Jx4a65c_size_8abf5_44 : GoodIn wzX11_lay (wsV RX11 44 RJx4a65c yJx4a65c_size_8abf5 wzJx4a65c_size_8abf5) := (goodIn_app (z_lift (goodIn_r _ [2, 3, 4, 5] rfl (by decide +kernel))) (goodIn_app (z_lift (goodIn_r wzEJx4a65c_size_8abf5 [6, 7] rfl zgEJx4a65c_size_8abf5)) (goodIn_sub (fun _ h => (List.mem_append_right _ (List.mem_append_right _ h))) zgU_Jx4a65c)))
theorem gzX11_lay_X11_in_47 : GoodIn wzX11_lay (va_wsS RX11 47 yX11_in wzX11_in) := (goodIn_app (z_lift (goodIn_r _ [8, 9, 10] rfl (by decide +kernel))) (goodIn_app (z_lift (goodIn_r wzEX11_in [11] rfl zgEX11_in)) z_gnil))
set_option maxHeartbeats 4000000 in
set_option maxRecDepth 100000 in
theorem zc_X11_lay (l : Launch) (D : va_G) (G : Nat × Nat × Nat) (mo : Nat) (gl : Nat) (po : Nat) (pi : Nat) (bu : Nat) (pa : Nat) (th : Int32) (mh : Int32) (mt : Int32) (ii : Int32) (jj : Int32) (kk : Int32) (sz : Nat) : Met l yX11_lay wzX11_lay ({ frames := 1, cells := 0, slots := 0, locals := 22 }) (va_Pc [.ref mo, .int ii, .int jj, .int kk] (p_RW D G [] [(mo, .inr (16, [.int th, .ref gl, .ref po, .ref pi, .ref bu, .ref pa, .int mt, .int mh, .int 40, .int 0, .null, .int 0, .int 0])), (pi, .inr (4, [.int 0, .ref G.1, .int 0])), (po, .inr (4, [.int 0, .ref G.1, .int 0]))] sz)) (va_Qi (fun (r : Int32) (u : Unit) => r = 0) (fun (u : Unit) (t : State) => q_RW D [] [(mo, .inr (16, [.int 1, .ref gl, .ref po, .ref pi, .ref bu, .ref pa, .int mt, .int mh, .int 40, .int 0, .null, .int 0, .int 0])), (pi, .inr (4, [.int 0, .ref G.1, .int 0])), (po, .inr (4, [.int 0, .ref G.1, .int 0]))] (va_A [(mo, .inr (16, [.int th, .ref gl, .ref po, .ref pi, .ref bu, .ref pa, .int mt, .int mh, .int 40, .int 0, .null, .int 0, .int 0])), (pi, .inr (4, [.int 0, .ref G.1, .int 0])), (po, .inr (4, [.int 0, .ref G.1, .int 0]))] sz) t) (va_A [(mo, .inr (16, [.int th, .ref gl, .ref po, .ref pi, .ref bu, .ref pa, .int mt, .int mh, .int 40, .int 0, .null, .int 0, .int 0])), (pi, .inr (4, [.int 0, .ref G.1, .int 0])), (po, .inr (4, [.int 0, .ref G.1, .int 0]))] sz)) 0 0 (va_A [(mo, .inr (16, [.int th, .ref gl, .ref po, .ref pi, .ref bu, .ref pa, .int mt, .int mh, .int 40, .int 0, .null, .int 0, .int 0])), (pi, .inr (4, [.int 0, .ref G.1, .int 0])), (po, .inr (4, [.int 0, .ref G.1, .int 0]))] sz) := by
  refine Met.ofW (cc := cX11_lay) (maxL := 10) (ret := (some .int)) (by decide) rfl ?_
  intro p e s m args below meth c s₁ B hml hv
  obtain ⟨rfl, hsz, hP, hK, hD0, hT, hZ⟩ := hv
  have hx := B.exec
  have hb := B.bytes
  have hr := B.returns
  have hts := atoms_spec (ws := wzX11_lay) B.pre
  have hown : s.vm.findClass RX11 = some m.cls := findClass_of_methodNamed B.named
  have hlocks := B.notSynchronized
  subst hsz
  have hD := hD0.self (sz := s.heap.size)
  generalize hAe : va_A [(mo, .inr (16, [.int th, .ref gl, .ref po, .ref pi, .ref bu, .ref pa, .int mt, .int mh, .int 40, .int 0, .null, .int 0, .int 0])), (pi, .inr (4, [.int 0, .ref G.1, .int 0])), (po, .inr (4, [.int 0, .ref G.1, .int 0]))] s.heap.size = A at hD hZ ⊢
  have hA : ∀ q : Nat, s.heap.size ≤ q → A q := fun q h => by rw [← hAe]; exact Or.inr h
  have hS : va_S A s.heap s.heap [] := va_S.rf
  have hl := lv_entry ([.ref mo, .int ii, .int jj, .int kk]) (n := 10) (Nat.le_of_ble_eq_true rfl)
  rw [lg_entry_eq]
  generalize (lg_sl ([.ref mo, .int ii, .int jj, .int kk]) ++ List.replicate (10 - (lg_sl ([.ref mo, .int ii, .int jj, .int kk])).length) Slot.unset).toArray = ls at hl ⊢
  have hl : lv_has ls 10 [(0, .ref mo), (1, .int ii), (2, .int jj), (3, .int kk)] := hl
  refine lv_aload_n hx hb dX11_lay_0 rfl (lv_at hl 0 rfl) ?_
  refine lv_iload_n hx hb dX11_lay_1 rfl (lv_at hl 1 rfl) ?_
  refine lv_iconst (v := 0) hx hb dX11_lay_2 (by decide) ?_
  refine lv_aload_n hx hb dX11_lay_3 rfl (lv_at hl 0 rfl) ?_
  refine va_get (D := D) (cl := vwCl) (ci := 16) (v := .ref pi) (C := RX11) (T := TX11) (N := 13) hx hb hts zuX11_lay_X11 hown hK hP 0 rfl rfl 3 (by decide) (hts (.fieldLink RX11 19 "GatherhouseModel" "pieces" "Ljava/util/ArrayList;") (by decide +kernel)) (fun _ h9 => h9) rfl dX11_lay_4 ?_
  refine vp_callSi (va_runV (As := []) (rest := [.int 0, .int ii, .ref mo]) ⟨hx, hb, hml, hown, hts⟩ (zc_Jx4a65c_size_8abf5 l D G pi G.1 0 0) (cwV 0 hts gzX11_lay_Jx4a65c_size_8abf5_44 rfl rfl rfl (by decide +kernel) ⟨(Nat.le_of_ble_eq_true rfl), (Nat.le_of_ble_eq_true rfl)⟩) ⟨p_RO_blind, va_recv hK hP (ci := 4) (q0 := 1) rfl rfl, (p_RO_at (tc := []) (wc := [(pi, .inr (4, [.int 0, .ref G.1, .int 0]))]) hP hK hT [1] [] rfl rfl [.ref pi])⟩ rfl rfl hl.1 rfl (lv_room (Nat.le_of_ble_eq_true rfl)) dX11_lay_7 ⟨(Nat.le_of_ble_eq_true rfl), (Nat.le_of_ble_eq_true rfl)⟩).run (fun r_467 w_468 => ?_)
  obtain rfl := w_468
  refine lv_iconst (v := 1) hx hb dX11_lay_10 (by decide) ?_
  refine lv_isub hx hb dX11_lay_11 ?_
  refine lv_topi (fun y_469 ey_469 => ?_)
  have ey_469 : y_469 = (-1) := ey_469.trans (by decide +kernel)
  subst ey_469
  refine vp_callSi (va_runS (As := [.int ii, .int 0, .int (-1)]) (rest := [.ref mo]) ⟨hx, hb, hml, hown, hts⟩ (zc_X11_in l D G ii 0 (-1)) (cwS 3 hts gzX11_lay_X11_in_47 rfl rfl rfl (by decide +kernel) ⟨(Nat.le_of_ble_eq_true rfl), (Nat.le_of_ble_eq_true rfl)⟩) ⟨p_RO_blind, (p_RO_at (tc := []) (wc := []) hP hK hT [] [] rfl rfl [.int ii, .int 0, .int (-1)])⟩ rfl rfl hl.1 rfl (lv_room (Nat.le_of_ble_eq_true rfl)) dX11_lay_12 ⟨(Nat.le_of_ble_eq_true rfl), (Nat.le_of_ble_eq_true rfl)⟩).run (fun r_470 w_471 => ?_)
  rcases w_471 with ⟨c_472, rfl⟩ | ⟨c_473, rfl⟩
  · exact absurd c_472 (inR_none _)
  · refine lv_if_eq (tgt := 39) hx hb dX11_lay_15 (by decide) (fun _ => ?_) (fun cc => absurd (by decide) cc)
    refine lv_iconst (v := 1) hx hb dX11_lay_39 (by decide) ?_
    refine va_put (D := D) (cl := vwCl) (ci := 16) (v := .int 1) (ty := .int) (C := RX11) (T := TX11) (N := 13) hx hb hts zuX11_lay_X11 tyX11 tyX11_ok nmX11 hown hK hP hD hS 0 rfl rfl 0 (by decide) (hts (.fieldLink RX11 41 "GatherhouseModel" "thrown" "I") (by decide +kernel)) (fun _ h9 => h9) rfl (by decide +kernel) rfl rfl (Nat.le_of_ble_eq_true rfl) dX11_lay_40 (fun H locs hP hD hS => ?_)
    have hP : va_P D vwCl [(mo, .inr (16, [.int 1, .ref gl, .ref po, .ref pi, .ref bu, .ref pa, .int mt, .int mh, .int 40, .int 0, .null, .int 0, .int 0])), (pi, .inr (4, [.int 0, .ref G.1, .int 0])), (po, .inr (4, [.int 0, .ref G.1, .int 0]))] H := hP
    have hD : va_D A [(mo, .inr (16, [.int 1, .ref gl, .ref po, .ref pi, .ref bu, .ref pa, .int mt, .int mh, .int 40, .int 0, .null, .int 0, .int 0])), (pi, .inr (4, [.int 0, .ref G.1, .int 0])), (po, .inr (4, [.int 0, .ref G.1, .int 0]))] := hD
    refine lv_aload_n hx hb dX11_lay_43 rfl (lv_at hl 0 rfl) ?_
    refine va_get (D := D) (cl := vwCl) (ci := 16) (v := .int 1) (C := RX11) (T := TX11) (N := 13) hx hb hts zuX11_lay_X11 hown hK hP 0 rfl rfl 0 (by decide) (hts (.fieldLink RX11 41 "GatherhouseModel" "thrown" "I") (by decide +kernel)) (fun _ h9 => h9) rfl dX11_lay_44 ?_
    refine lv_if_le (tgt := 52) hx hb dX11_lay_47 (by decide) (fun cc => absurd cc (by decide)) (fun _ => ?_)
    refine lv_iconst (v := 0) hx hb dX11_lay_50 (by decide) ?_
    exact W.iret (v := 0) hx hb hr (fun t ht hW => ⟨⟨0, (), rfl, rfl, q_RW_mk hP hK hD [0, 1, 2] [] rfl rfl (by decide) rfl ht hW.alike⟩, hS.F ht⟩) hS.2.2 dX11_lay_51
theorem dX11_join_0 : decode cX11_join 0 = .ok (.aload_n 0, 1) := by decide +kernel
theorem dX11_join_1 : decode cX11_join 1 = .ok (.iload_n 1, 1) := by decide +kernel
theorem dX11_join_2 : decode cX11_join 2 = .ok (.iconst 0, 1) := by decide +kernel
theorem dX11_join_3 : decode cX11_join 3 = .ok (.aload_n 0, 1) := by decide +kernel
theorem dX11_join_4 : decode cX11_join 4 = .ok (.getfield 19, 3) := by decide +kernel
theorem dX11_join_7 : decode cX11_join 7 = .ok (.invokevirtual 44, 3) := by decide +kernel
theorem dX11_join_10 : decode cX11_join 10 = .ok (.iconst 1, 1) := by decide +kernel
theorem dX11_join_11 : decode cX11_join 11 = .ok (.isub, 1) := by decide +kernel
theorem dX11_join_12 : decode cX11_join 12 = .ok (.invokestatic 47, 3) := by decide +kernel
theorem dX11_join_15 : decode cX11_join 15 = .ok (.ifCond .eq 33, 3) := by decide +kernel
theorem dX11_join_48 : decode cX11_join 48 = .ok (.iconst 1, 1) := by decide +kernel
theorem dX11_join_49 : decode cX11_join 49 = .ok (.putfield 41, 3) := by decide +kernel
theorem dX11_join_52 : decode cX11_join 52 = .ok (.aload_n 0, 1) := by decide +kernel
theorem dX11_join_53 : decode cX11_join 53 = .ok (.getfield 41, 3) := by decide +kernel
theorem dX11_join_56 : decode cX11_join 56 = .ok (.ifCond .le 5, 3) := by decide +kernel
theorem dX11_join_59 : decode cX11_join 59 = .ok (.iconst 0, 1) := by decide +kernel
theorem dX11_join_60 : decode cX11_join 60 = .ok (.ireturn, 1) := by decide +kernel
def wzEX11_join : List Cond := [.code yX11_join cX11_join 8 (some .int), .fieldLink RX11 19 "GatherhouseModel" "pieces" "Ljava/util/ArrayList;", .methodLink RX11 44 yJx4a65c_size_8abf5, .instanceMethod yJx4a65c_size_8abf5, .selects RJx4a65c yJx4a65c_size_8abf5 yJx4a65c_size_8abf5, .initialized RJx4a65c, .code yJx4a65c_size_8abf5 cJx4a65c_size_8abf5 1 (some .int), .fieldLink RJx4a65c 48 "java/util/ArrayList" "size" "I", .methodLink RX11 47 yX11_in, .static yX11_in, .initialized RX11, .code yX11_in cX11_in 3 (some .boolean), .fieldLink RX11 41 "GatherhouseModel" "thrown" "I"]
def wzX11_join : List Cond := wzEX11_join ++ (u_ws RX11 TX11 13 ++ (u_ws RJx4a65c TJx4a65c 3))
theorem zgEX11_join : wzEX11_join.all goodWord = true := by decide +kernel
theorem zuX11_join_X11 : ∀ w ∈ u_ws RX11 TX11 13, w ∈ wzX11_join := (fun _ h => (List.mem_append_right _ (List.mem_append_left _ h)))
theorem zuX11_join_Jx4a65c : ∀ w ∈ u_ws RJx4a65c TJx4a65c 3, w ∈ wzX11_join := (fun _ h => (List.mem_append_right _ (List.mem_append_right _ h)))
theorem gzX11_join_Jx4a65c_size_8abf5_44 : GoodIn wzX11_join (wsV RX11 44 RJx4a65c yJx4a65c_size_8abf5 wzJx4a65c_size_8abf5) := (goodIn_app (z_lift (goodIn_r _ [2, 3, 4, 5] rfl (by decide +kernel))) (goodIn_app (z_lift (goodIn_r wzEJx4a65c_size_8abf5 [6, 7] rfl zgEJx4a65c_size_8abf5)) (goodIn_sub (fun _ h => (List.mem_append_right _ (List.mem_append_right _ h))) zgU_Jx4a65c)))
theorem gzX11_join_X11_in_47 : GoodIn wzX11_join (va_wsS RX11 47 yX11_in wzX11_in) := (goodIn_app (z_lift (goodIn_r _ [8, 9, 10] rfl (by decide +kernel))) (goodIn_app (z_lift (goodIn_r wzEX11_in [11] rfl zgEX11_in)) z_gnil))
set_option maxHeartbeats 4000000 in
set_option maxRecDepth 100000 in
theorem zc_X11_join (l : Launch) (D : va_G) (G : Nat × Nat × Nat) (mo : Nat) (gl : Nat) (po : Nat) (pi : Nat) (bu : Nat) (pa : Nat) (th : Int32) (mh : Int32) (mt : Int32) (ii : Int32) (jj : Int32) (sz : Nat) : Met l yX11_join wzX11_join ({ frames := 1, cells := 0, slots := 0, locals := 22 }) (va_Pc [.ref mo, .int ii, .int jj] (p_RW D G [] [(mo, .inr (16, [.int th, .ref gl, .ref po, .ref pi, .ref bu, .ref pa, .int mt, .int mh, .int 40, .int 0, .null, .int 0, .int 0])), (pi, .inr (4, [.int 0, .ref G.1, .int 0]))] sz)) (va_Qi (fun (r : Int32) (u : Unit) => r = 0) (fun (u : Unit) (t : State) => q_RW D [] [(mo, .inr (16, [.int 1, .ref gl, .ref po, .ref pi, .ref bu, .ref pa, .int mt, .int mh, .int 40, .int 0, .null, .int 0, .int 0])), (pi, .inr (4, [.int 0, .ref G.1, .int 0]))] (va_A [(mo, .inr (16, [.int th, .ref gl, .ref po, .ref pi, .ref bu, .ref pa, .int mt, .int mh, .int 40, .int 0, .null, .int 0, .int 0])), (pi, .inr (4, [.int 0, .ref G.1, .int 0]))] sz) t) (va_A [(mo, .inr (16, [.int th, .ref gl, .ref po, .ref pi, .ref bu, .ref pa, .int mt, .int mh, .int 40, .int 0, .null, .int 0, .int 0])), (pi, .inr (4, [.int 0, .ref G.1, .int 0]))] sz)) 0 0 (va_A [(mo, .inr (16, [.int th, .ref gl, .ref po, .ref pi, .ref bu, .ref pa, .int mt, .int mh, .int 40, .int 0, .null, .int 0, .int 0])), (pi, .inr (4, [.int 0, .ref G.1, .int 0]))] sz) := by
  refine Met.ofW (cc := cX11_join) (maxL := 8) (ret := (some .int)) (by decide) rfl ?_
  intro p e s m args below meth c s₁ B hml hv
  obtain ⟨rfl, hsz, hP, hK, hD0, hT, hZ⟩ := hv
  have hx := B.exec
  have hb := B.bytes
  have hr := B.returns
  have hts := atoms_spec (ws := wzX11_join) B.pre
  have hown : s.vm.findClass RX11 = some m.cls := findClass_of_methodNamed B.named
  have hlocks := B.notSynchronized
  subst hsz
  have hD := hD0.self (sz := s.heap.size)
  generalize hAe : va_A [(mo, .inr (16, [.int th, .ref gl, .ref po, .ref pi, .ref bu, .ref pa, .int mt, .int mh, .int 40, .int 0, .null, .int 0, .int 0])), (pi, .inr (4, [.int 0, .ref G.1, .int 0]))] s.heap.size = A at hD hZ ⊢
  have hA : ∀ q : Nat, s.heap.size ≤ q → A q := fun q h => by rw [← hAe]; exact Or.inr h
  have hS : va_S A s.heap s.heap [] := va_S.rf
  have hl := lv_entry ([.ref mo, .int ii, .int jj]) (n := 8) (Nat.le_of_ble_eq_true rfl)
  rw [lg_entry_eq]
  generalize (lg_sl ([.ref mo, .int ii, .int jj]) ++ List.replicate (8 - (lg_sl ([.ref mo, .int ii, .int jj])).length) Slot.unset).toArray = ls at hl ⊢
  have hl : lv_has ls 8 [(0, .ref mo), (1, .int ii), (2, .int jj)] := hl
  refine lv_aload_n hx hb dX11_join_0 rfl (lv_at hl 0 rfl) ?_
  refine lv_iload_n hx hb dX11_join_1 rfl (lv_at hl 1 rfl) ?_
  refine lv_iconst (v := 0) hx hb dX11_join_2 (by decide) ?_
  refine lv_aload_n hx hb dX11_join_3 rfl (lv_at hl 0 rfl) ?_
  refine va_get (D := D) (cl := vwCl) (ci := 16) (v := .ref pi) (C := RX11) (T := TX11) (N := 13) hx hb hts zuX11_join_X11 hown hK hP 0 rfl rfl 3 (by decide) (hts (.fieldLink RX11 19 "GatherhouseModel" "pieces" "Ljava/util/ArrayList;") (by decide +kernel)) (fun _ h9 => h9) rfl dX11_join_4 ?_
  refine vp_callSi (va_runV (As := []) (rest := [.int 0, .int ii, .ref mo]) ⟨hx, hb, hml, hown, hts⟩ (zc_Jx4a65c_size_8abf5 l D G pi G.1 0 0) (cwV 0 hts gzX11_join_Jx4a65c_size_8abf5_44 rfl rfl rfl (by decide +kernel) ⟨(Nat.le_of_ble_eq_true rfl), (Nat.le_of_ble_eq_true rfl)⟩) ⟨p_RO_blind, va_recv hK hP (ci := 4) (q0 := 1) rfl rfl, (p_RO_at (tc := []) (wc := [(pi, .inr (4, [.int 0, .ref G.1, .int 0]))]) hP hK hT [1] [] rfl rfl [.ref pi])⟩ rfl rfl hl.1 rfl (lv_room (Nat.le_of_ble_eq_true rfl)) dX11_join_7 ⟨(Nat.le_of_ble_eq_true rfl), (Nat.le_of_ble_eq_true rfl)⟩).run (fun r_474 w_475 => ?_)
  obtain rfl := w_475
  refine lv_iconst (v := 1) hx hb dX11_join_10 (by decide) ?_
  refine lv_isub hx hb dX11_join_11 ?_
  refine lv_topi (fun y_476 ey_476 => ?_)
  have ey_476 : y_476 = (-1) := ey_476.trans (by decide +kernel)
  subst ey_476
  refine vp_callSi (va_runS (As := [.int ii, .int 0, .int (-1)]) (rest := [.ref mo]) ⟨hx, hb, hml, hown, hts⟩ (zc_X11_in l D G ii 0 (-1)) (cwS 3 hts gzX11_join_X11_in_47 rfl rfl rfl (by decide +kernel) ⟨(Nat.le_of_ble_eq_true rfl), (Nat.le_of_ble_eq_true rfl)⟩) ⟨p_RO_blind, (p_RO_at (tc := []) (wc := []) hP hK hT [] [] rfl rfl [.int ii, .int 0, .int (-1)])⟩ rfl rfl hl.1 rfl (lv_room (Nat.le_of_ble_eq_true rfl)) dX11_join_12 ⟨(Nat.le_of_ble_eq_true rfl), (Nat.le_of_ble_eq_true rfl)⟩).run (fun r_477 w_478 => ?_)
  rcases w_478 with ⟨c_479, rfl⟩ | ⟨c_480, rfl⟩
  · exact absurd c_479 (inR_none _)
  · refine lv_if_eq (tgt := 48) hx hb dX11_join_15 (by decide) (fun _ => ?_) (fun cc => absurd (by decide) cc)
    refine lv_iconst (v := 1) hx hb dX11_join_48 (by decide) ?_
    refine va_put (D := D) (cl := vwCl) (ci := 16) (v := .int 1) (ty := .int) (C := RX11) (T := TX11) (N := 13) hx hb hts zuX11_join_X11 tyX11 tyX11_ok nmX11 hown hK hP hD hS 0 rfl rfl 0 (by decide) (hts (.fieldLink RX11 41 "GatherhouseModel" "thrown" "I") (by decide +kernel)) (fun _ h9 => h9) rfl (by decide +kernel) rfl rfl (Nat.le_of_ble_eq_true rfl) dX11_join_49 (fun H locs hP hD hS => ?_)
    have hP : va_P D vwCl [(mo, .inr (16, [.int 1, .ref gl, .ref po, .ref pi, .ref bu, .ref pa, .int mt, .int mh, .int 40, .int 0, .null, .int 0, .int 0])), (pi, .inr (4, [.int 0, .ref G.1, .int 0]))] H := hP
    have hD : va_D A [(mo, .inr (16, [.int 1, .ref gl, .ref po, .ref pi, .ref bu, .ref pa, .int mt, .int mh, .int 40, .int 0, .null, .int 0, .int 0])), (pi, .inr (4, [.int 0, .ref G.1, .int 0]))] := hD
    refine lv_aload_n hx hb dX11_join_52 rfl (lv_at hl 0 rfl) ?_
    refine va_get (D := D) (cl := vwCl) (ci := 16) (v := .int 1) (C := RX11) (T := TX11) (N := 13) hx hb hts zuX11_join_X11 hown hK hP 0 rfl rfl 0 (by decide) (hts (.fieldLink RX11 41 "GatherhouseModel" "thrown" "I") (by decide +kernel)) (fun _ h9 => h9) rfl dX11_join_53 ?_
    refine lv_if_le (tgt := 61) hx hb dX11_join_56 (by decide) (fun cc => absurd cc (by decide)) (fun _ => ?_)
    refine lv_iconst (v := 0) hx hb dX11_join_59 (by decide) ?_
    exact W.iret (v := 0) hx hb hr (fun t ht hW => ⟨⟨0, (), rfl, rfl, q_RW_mk hP hK hD [0, 1] [] rfl rfl (by decide) rfl ht hW.alike⟩, hS.F ht⟩) hS.2.2 dX11_join_60
theorem dX11_charge_0 : decode cX11_charge 0 = .ok (.aload_n 0, 1) := by decide +kernel
theorem dX11_charge_1 : decode cX11_charge 1 = .ok (.iload_n 1, 1) := by decide +kernel
theorem dX11_charge_2 : decode cX11_charge 2 = .ok (.invokevirtual 85, 3) := by decide +kernel
theorem dX11_charge_5 : decode cX11_charge 5 = .ok (.ifCond .eq 5, 3) := by decide +kernel
theorem dX11_charge_8 : decode cX11_charge 8 = .ok (.iconst 0, 1) := by decide +kernel
theorem dX11_charge_9 : decode cX11_charge 9 = .ok (.ireturn, 1) := by decide +kernel
def wzEX11_charge : List Cond := [.code yX11_charge cX11_charge 4 (some .int), .methodLink RX11 85 yX11_noPot, .instanceMethod yX11_noPot, .selects RX11 yX11_noPot yX11_noPot, .initialized RX11, .code yX11_noPot cX11_noPot 2 (some .boolean), .fieldLink RX11 16 "GatherhouseModel" "pots" "Ljava/util/ArrayList;", .methodLink RX11 44 yJx4a65c_size_8abf5, .instanceMethod yJx4a65c_size_8abf5, .selects RJx4a65c yJx4a65c_size_8abf5 yJx4a65c_size_8abf5, .initialized RJx4a65c, .code yJx4a65c_size_8abf5 cJx4a65c_size_8abf5 1 (some .int), .fieldLink RJx4a65c 48 "java/util/ArrayList" "size" "I", .methodLink RX11 47 yX11_in, .static yX11_in, .code yX11_in cX11_in 3 (some .boolean), .fieldLink RX11 41 "GatherhouseModel" "thrown" "I"]
def wzX11_charge : List Cond := wzEX11_charge ++ (u_ws RX11 TX11 13 ++ (u_ws RJx4a65c TJx4a65c 3))
theorem zgEX11_charge : wzEX11_charge.all goodWord = true := by decide +kernel
theorem zuX11_charge_X11 : ∀ w ∈ u_ws RX11 TX11 13, w ∈ wzX11_charge := (fun _ h => (List.mem_append_right _ (List.mem_append_left _ h)))
theorem zuX11_charge_Jx4a65c : ∀ w ∈ u_ws RJx4a65c TJx4a65c 3, w ∈ wzX11_charge := (fun _ h => (List.mem_append_right _ (List.mem_append_right _ h)))
theorem gzX11_charge_X11_noPot_85 : GoodIn wzX11_charge (wsV RX11 85 RX11 yX11_noPot wzX11_noPot) := (goodIn_app (z_lift (goodIn_r _ [1, 2, 3, 4] rfl (by decide +kernel))) (goodIn_app (z_lift (goodIn_r wzEX11_noPot [5, 6, 7, 8, 9, 10, 11, 12, 13, 14, 4, 15, 16] rfl zgEX11_noPot)) (goodIn_app (goodIn_sub (fun _ h => (List.mem_append_right _ (List.mem_append_left _ h))) zgU_X11) (goodIn_sub (fun _ h => (List.mem_append_right _ (List.mem_append_right _ h))) zgU_Jx4a65c))))
set_option maxHeartbeats 4000000 in
set_option maxRecDepth 100000 in
theorem zc_X11_charge (l : Launch) (D : va_G) (G : Nat × Nat × Nat) (mo : Nat) (gl : Nat) (po : Nat) (pi : Nat) (bu : Nat) (pa : Nat) (th : Int32) (mh : Int32) (mt : Int32) (ii : Int32) (jj : Int32) (sz : Nat) : Met l yX11_charge wzX11_charge ({ frames := 2, cells := 0, slots := 0, locals := 43 }) (va_Pc [.ref mo, .int ii, .int jj] (p_RW D G [] [(mo, .inr (16, [.int th, .ref gl, .ref po, .ref pi, .ref bu, .ref pa, .int mt, .int mh, .int 40, .int 0, .null, .int 0, .int 0])), (po, .inr (4, [.int 0, .ref G.1, .int 0]))] sz)) (va_Qi (fun (r : Int32) (u : Unit) => r = 0) (fun (u : Unit) (t : State) => q_RW D [] [(mo, .inr (16, [.int 1, .ref gl, .ref po, .ref pi, .ref bu, .ref pa, .int mt, .int mh, .int 40, .int 0, .null, .int 0, .int 0])), (po, .inr (4, [.int 0, .ref G.1, .int 0]))] (va_A [(mo, .inr (16, [.int th, .ref gl, .ref po, .ref pi, .ref bu, .ref pa, .int mt, .int mh, .int 40, .int 0, .null, .int 0, .int 0])), (po, .inr (4, [.int 0, .ref G.1, .int 0]))] sz) t) (va_A [(mo, .inr (16, [.int th, .ref gl, .ref po, .ref pi, .ref bu, .ref pa, .int mt, .int mh, .int 40, .int 0, .null, .int 0, .int 0])), (po, .inr (4, [.int 0, .ref G.1, .int 0]))] sz)) 0 0 (va_A [(mo, .inr (16, [.int th, .ref gl, .ref po, .ref pi, .ref bu, .ref pa, .int mt, .int mh, .int 40, .int 0, .null, .int 0, .int 0])), (po, .inr (4, [.int 0, .ref G.1, .int 0]))] sz) := by
  refine Met.ofW (cc := cX11_charge) (maxL := 4) (ret := (some .int)) (by decide) rfl ?_
  intro p e s m args below meth c s₁ B hml hv
  obtain ⟨rfl, hsz, hP, hK, hD0, hT, hZ⟩ := hv
  have hx := B.exec
  have hb := B.bytes
  have hr := B.returns
  have hts := atoms_spec (ws := wzX11_charge) B.pre
  have hown : s.vm.findClass RX11 = some m.cls := findClass_of_methodNamed B.named
  have hlocks := B.notSynchronized
  subst hsz
  have hD := hD0.self (sz := s.heap.size)
  generalize hAe : va_A [(mo, .inr (16, [.int th, .ref gl, .ref po, .ref pi, .ref bu, .ref pa, .int mt, .int mh, .int 40, .int 0, .null, .int 0, .int 0])), (po, .inr (4, [.int 0, .ref G.1, .int 0]))] s.heap.size = A at hD hZ ⊢
  have hA : ∀ q : Nat, s.heap.size ≤ q → A q := fun q h => by rw [← hAe]; exact Or.inr h
  have hS : va_S A s.heap s.heap [] := va_S.rf
  have hl := lv_entry ([.ref mo, .int ii, .int jj]) (n := 4) (Nat.le_of_ble_eq_true rfl)
  rw [lg_entry_eq]
  generalize (lg_sl ([.ref mo, .int ii, .int jj]) ++ List.replicate (4 - (lg_sl ([.ref mo, .int ii, .int jj])).length) Slot.unset).toArray = ls at hl ⊢
  have hl : lv_has ls 4 [(0, .ref mo), (1, .int ii), (2, .int jj)] := hl
  refine lv_aload_n hx hb dX11_charge_0 rfl (lv_at hl 0 rfl) ?_
  refine lv_iload_n hx hb dX11_charge_1 rfl (lv_at hl 1 rfl) ?_
  have hFc := va_free (wc := [(mo, .inr (16, [.int th, .ref gl, .ref po, .ref pi, .ref bu, .ref pa, .int mt, .int mh, .int 40, .int 0, .null, .int 0, .int 0])), (po, .inr (4, [.int 0, .ref G.1, .int 0]))]) hD hS hA [0, 1] rfl
  refine va_calli (va_runV (As := [.int ii]) (rest := []) ⟨hx, hb, hml, hown, hts⟩ (zc_X11_noPot l D G mo gl po pi bu pa th mh mt ii s.heap.size) (cwV 1 hts gzX11_charge_X11_noPot_85 rfl rfl rfl (by decide +kernel) ⟨(Nat.le_of_ble_eq_true rfl), (Nat.le_of_ble_eq_true rfl)⟩) ⟨p_RW_blind, va_recv hK hP (ci := 16) (q0 := 0) rfl rfl, (p_RW_at (tc := []) (wc := [(mo, .inr (16, [.int th, .ref gl, .ref po, .ref pi, .ref bu, .ref pa, .int mt, .int mh, .int 40, .int 0, .null, .int 0, .int 0])), (po, .inr (4, [.int 0, .ref G.1, .int 0]))]) hP hK hD hS hA hT hZ [0, 1] [] rfl rfl (by decide) rfl [.ref mo, .int ii])⟩ rfl rfl hl.1 rfl (lv_room (Nat.le_of_ble_eq_true rfl)) dX11_charge_2 ⟨(Nat.le_of_ble_eq_true rfl), (Nat.le_of_ble_eq_true rfl)⟩) hS (fun q _ h => hFc q h) hFc (fun r_481 u t H locs ht hvm w_482 hB hz1 hk1 hS => ?_)
  obtain ⟨hP, hD, hK⟩ := q_join (D := D) (wc := [(mo, .inr (16, [.int th, .ref gl, .ref po, .ref pi, .ref bu, .ref pa, .int mt, .int mh, .int 40, .int 0, .null, .int 0, .int 0])), (po, .inr (4, [.int 0, .ref G.1, .int 0]))]) (wr := []) (w1 := [(mo, .inr (16, [.int 1, .ref gl, .ref po, .ref pi, .ref bu, .ref pa, .int mt, .int mh, .int 40, .int 0, .null, .int 0, .int 0])), (po, .inr (4, [.int 0, .ref G.1, .int 0]))]) (tyr := []) (ty1 := []) hP hD hK [0, 1] [] [] rfl rfl (by decide) (by decide) rfl hFc hk1 ht hvm hB
  have hP : va_P D vwCl [(mo, .inr (16, [.int 1, .ref gl, .ref po, .ref pi, .ref bu, .ref pa, .int mt, .int mh, .int 40, .int 0, .null, .int 0, .int 0])), (po, .inr (4, [.int 0, .ref G.1, .int 0]))] H := hP
  have hD : va_D A [(mo, .inr (16, [.int 1, .ref gl, .ref po, .ref pi, .ref bu, .ref pa, .int mt, .int mh, .int 40, .int 0, .null, .int 0, .int 0])), (po, .inr (4, [.int 0, .ref G.1, .int 0]))] := hD
  have hK : va_K D vwCl [] s := hK
  obtain rfl := w_482
  refine lv_if_eq (tgt := 10) hx hb dX11_charge_5 (by decide) (fun cc => absurd cc (by decide)) (fun _ => ?_)
  refine lv_iconst (v := 0) hx hb dX11_charge_8 (by decide) ?_
  exact W.iret (v := 0) hx hb hr (fun t ht hW => ⟨⟨0, (), rfl, rfl, q_RW_mk hP hK hD [0, 1] [] rfl rfl (by decide) rfl ht hW.alike⟩, hS.F ht⟩) hS.2.2 dX11_charge_9
theorem dX11_change_0 : decode cX11_change 0 = .ok (.aload_n 0, 1) := by decide +kernel
theorem dX11_change_1 : decode cX11_change 1 = .ok (.iload_n 1, 1) := by decide +kernel
theorem dX11_change_2 : decode cX11_change 2 = .ok (.invokevirtual 85, 3) := by decide +kernel
theorem dX11_change_5 : decode cX11_change 5 = .ok (.ifCond .eq 5, 3) := by decide +kernel
theorem dX11_change_8 : decode cX11_change 8 = .ok (.iconst 0, 1) := by decide +kernel
theorem dX11_change_9 : decode cX11_change 9 = .ok (.ireturn, 1) := by decide +kernel
def wzEX11_change : List Cond := [.code yX11_change cX11_change 4 (some .int), .methodLink RX11 85 yX11_noPot, .instanceMethod yX11_noPot, .selects RX11 yX11_noPot yX11_noPot, .initialized RX11, .code yX11_noPot cX11_noPot 2 (some .boolean), .fieldLink RX11 16 "GatherhouseModel" "pots" "Ljava/util/ArrayList;", .methodLink RX11 44 yJx4a65c_size_8abf5, .instanceMethod yJx4a65c_size_8abf5, .selects RJx4a65c yJx4a65c_size_8abf5 yJx4a65c_size_8abf5, .initialized RJx4a65c, .code yJx4a65c_size_8abf5 cJx4a65c_size_8abf5 1 (some .int), .fieldLink RJx4a65c 48 "java/util/ArrayList" "size" "I", .methodLink RX11 47 yX11_in, .static yX11_in, .code yX11_in cX11_in 3 (some .boolean), .fieldLink RX11 41 "GatherhouseModel" "thrown" "I"]
def wzX11_change : List Cond := wzEX11_change ++ (u_ws RX11 TX11 13 ++ (u_ws RJx4a65c TJx4a65c 3))
theorem zgEX11_change : wzEX11_change.all goodWord = true := by decide +kernel
theorem zuX11_change_X11 : ∀ w ∈ u_ws RX11 TX11 13, w ∈ wzX11_change := (fun _ h => (List.mem_append_right _ (List.mem_append_left _ h)))
theorem zuX11_change_Jx4a65c : ∀ w ∈ u_ws RJx4a65c TJx4a65c 3, w ∈ wzX11_change := (fun _ h => (List.mem_append_right _ (List.mem_append_right _ h)))
theorem gzX11_change_X11_noPot_85 : GoodIn wzX11_change (wsV RX11 85 RX11 yX11_noPot wzX11_noPot) := (goodIn_app (z_lift (goodIn_r _ [1, 2, 3, 4] rfl (by decide +kernel))) (goodIn_app (z_lift (goodIn_r wzEX11_noPot [5, 6, 7, 8, 9, 10, 11, 12, 13, 14, 4, 15, 16] rfl zgEX11_noPot)) (goodIn_app (goodIn_sub (fun _ h => (List.mem_append_right _ (List.mem_append_left _ h))) zgU_X11) (goodIn_sub (fun _ h => (List.mem_append_right _ (List.mem_append_right _ h))) zgU_Jx4a65c))))
set_option maxHeartbeats 4000000 in
set_option maxRecDepth 100000 in
theorem zc_X11_change (l : Launch) (D : va_G) (G : Nat × Nat × Nat) (mo : Nat) (gl : Nat) (po : Nat) (pi : Nat) (bu : Nat) (pa : Nat) (th : Int32) (mh : Int32) (mt : Int32) (ii : Int32) (sz : Nat) : Met l yX11_change wzX11_change ({ frames := 2, cells := 0, slots := 0, locals := 43 }) (va_Pc [.ref mo, .int ii] (p_RW D G [] [(mo, .inr (16, [.int th, .ref gl, .ref po, .ref pi, .ref bu, .ref pa, .int mt, .int mh, .int 40, .int 0, .null, .int 0, .int 0])), (po, .inr (4, [.int 0, .ref G.1, .int 0]))] sz)) (va_Qi (fun (r : Int32) (u : Unit) => r = 0) (fun (u : Unit) (t : State) => q_RW D [] [(mo, .inr (16, [.int 1, .ref gl, .ref po, .ref pi, .ref bu, .ref pa, .int mt, .int mh, .int 40, .int 0, .null, .int 0, .int 0])), (po, .inr (4, [.int 0, .ref G.1, .int 0]))] (va_A [(mo, .inr (16, [.int th, .ref gl, .ref po, .ref pi, .ref bu, .ref pa, .int mt, .int mh, .int 40, .int 0, .null, .int 0, .int 0])), (po, .inr (4, [.int 0, .ref G.1, .int 0]))] sz) t) (va_A [(mo, .inr (16, [.int th, .ref gl, .ref po, .ref pi, .ref bu, .ref pa, .int mt, .int mh, .int 40, .int 0, .null, .int 0, .int 0])), (po, .inr (4, [.int 0, .ref G.1, .int 0]))] sz)) 0 0 (va_A [(mo, .inr (16, [.int th, .ref gl, .ref po, .ref pi, .ref bu, .ref pa, .int mt, .int mh, .int 40, .int 0, .null, .int 0, .int 0])), (po, .inr (4, [.int 0, .ref G.1, .int 0]))] sz) := by
  refine Met.ofW (cc := cX11_change) (maxL := 4) (ret := (some .int)) (by decide) rfl ?_
  intro p e s m args below meth c s₁ B hml hv
  obtain ⟨rfl, hsz, hP, hK, hD0, hT, hZ⟩ := hv
  have hx := B.exec
  have hb := B.bytes
  have hr := B.returns
  have hts := atoms_spec (ws := wzX11_change) B.pre
  have hown : s.vm.findClass RX11 = some m.cls := findClass_of_methodNamed B.named
  have hlocks := B.notSynchronized
  subst hsz
  have hD := hD0.self (sz := s.heap.size)
  generalize hAe : va_A [(mo, .inr (16, [.int th, .ref gl, .ref po, .ref pi, .ref bu, .ref pa, .int mt, .int mh, .int 40, .int 0, .null, .int 0, .int 0])), (po, .inr (4, [.int 0, .ref G.1, .int 0]))] s.heap.size = A at hD hZ ⊢
  have hA : ∀ q : Nat, s.heap.size ≤ q → A q := fun q h => by rw [← hAe]; exact Or.inr h
  have hS : va_S A s.heap s.heap [] := va_S.rf
  have hl := lv_entry ([.ref mo, .int ii]) (n := 4) (Nat.le_of_ble_eq_true rfl)
  rw [lg_entry_eq]
  generalize (lg_sl ([.ref mo, .int ii]) ++ List.replicate (4 - (lg_sl ([.ref mo, .int ii])).length) Slot.unset).toArray = ls at hl ⊢
  have hl : lv_has ls 4 [(0, .ref mo), (1, .int ii)] := hl
  refine lv_aload_n hx hb dX11_change_0 rfl (lv_at hl 0 rfl) ?_
  refine lv_iload_n hx hb dX11_change_1 rfl (lv_at hl 1 rfl) ?_
  have hFc := va_free (wc := [(mo, .inr (16, [.int th, .ref gl, .ref po, .ref pi, .ref bu, .ref pa, .int mt, .int mh, .int 40, .int 0, .null, .int 0, .int 0])), (po, .inr (4, [.int 0, .ref G.1, .int 0]))]) hD hS hA [0, 1] rfl
  refine va_calli (va_runV (As := [.int ii]) (rest := []) ⟨hx, hb, hml, hown, hts⟩ (zc_X11_noPot l D G mo gl po pi bu pa th mh mt ii s.heap.size) (cwV 1 hts gzX11_change_X11_noPot_85 rfl rfl rfl (by decide +kernel) ⟨(Nat.le_of_ble_eq_true rfl), (Nat.le_of_ble_eq_true rfl)⟩) ⟨p_RW_blind, va_recv hK hP (ci := 16) (q0 := 0) rfl rfl, (p_RW_at (tc := []) (wc := [(mo, .inr (16, [.int th, .ref gl, .ref po, .ref pi, .ref bu, .ref pa, .int mt, .int mh, .int 40, .int 0, .null, .int 0, .int 0])), (po, .inr (4, [.int 0, .ref G.1, .int 0]))]) hP hK hD hS hA hT hZ [0, 1] [] rfl rfl (by decide) rfl [.ref mo, .int ii])⟩ rfl rfl hl.1 rfl (lv_room (Nat.le_of_ble_eq_true rfl)) dX11_change_2 ⟨(Nat.le_of_ble_eq_true rfl), (Nat.le_of_ble_eq_true rfl)⟩) hS (fun q _ h => hFc q h) hFc (fun r_483 u t H locs ht hvm w_484 hB hz1 hk1 hS => ?_)
  obtain ⟨hP, hD, hK⟩ := q_join (D := D) (wc := [(mo, .inr (16, [.int th, .ref gl, .ref po, .ref pi, .ref bu, .ref pa, .int mt, .int mh, .int 40, .int 0, .null, .int 0, .int 0])), (po, .inr (4, [.int 0, .ref G.1, .int 0]))]) (wr := []) (w1 := [(mo, .inr (16, [.int 1, .ref gl, .ref po, .ref pi, .ref bu, .ref pa, .int mt, .int mh, .int 40, .int 0, .null, .int 0, .int 0])), (po, .inr (4, [.int 0, .ref G.1, .int 0]))]) (tyr := []) (ty1 := []) hP hD hK [0, 1] [] [] rfl rfl (by decide) (by decide) rfl hFc hk1 ht hvm hB
  have hP : va_P D vwCl [(mo, .inr (16, [.int 1, .ref gl, .ref po, .ref pi, .ref bu, .ref pa, .int mt, .int mh, .int 40, .int 0, .null, .int 0, .int 0])), (po, .inr (4, [.int 0, .ref G.1, .int 0]))] H := hP
  have hD : va_D A [(mo, .inr (16, [.int 1, .ref gl, .ref po, .ref pi, .ref bu, .ref pa, .int mt, .int mh, .int 40, .int 0, .null, .int 0, .int 0])), (po, .inr (4, [.int 0, .ref G.1, .int 0]))] := hD
  have hK : va_K D vwCl [] s := hK
  obtain rfl := w_484
  refine lv_if_eq (tgt := 10) hx hb dX11_change_5 (by decide) (fun cc => absurd cc (by decide)) (fun _ => ?_)
  refine lv_iconst (v := 0) hx hb dX11_change_8 (by decide) ?_
  exact W.iret (v := 0) hx hb hr (fun t ht hW => ⟨⟨0, (), rfl, rfl, q_RW_mk hP hK hD [0, 1] [] rfl rfl (by decide) rfl ht hW.alike⟩, hS.F ht⟩) hS.2.2 dX11_change_9
theorem dX11_of_0 : decode cX11_of 0 = .ok (.aload_n 0, 1) := by decide +kernel
theorem dX11_of_1 : decode cX11_of 1 = .ok (.iload_n 1, 1) := by decide +kernel
theorem dX11_of_2 : decode cX11_of 2 = .ok (.invokevirtual 85, 3) := by decide +kernel
theorem dX11_of_5 : decode cX11_of 5 = .ok (.ifCond .eq 5, 3) := by decide +kernel
theorem dX11_of_8 : decode cX11_of 8 = .ok (.iconst 0, 1) := by decide +kernel
theorem dX11_of_9 : decode cX11_of 9 = .ok (.ireturn, 1) := by decide +kernel
def wzEX11_of : List Cond := [.code yX11_of cX11_of 4 (some .int), .methodLink RX11 85 yX11_noPot, .instanceMethod yX11_noPot, .selects RX11 yX11_noPot yX11_noPot, .initialized RX11, .code yX11_noPot cX11_noPot 2 (some .boolean), .fieldLink RX11 16 "GatherhouseModel" "pots" "Ljava/util/ArrayList;", .methodLink RX11 44 yJx4a65c_size_8abf5, .instanceMethod yJx4a65c_size_8abf5, .selects RJx4a65c yJx4a65c_size_8abf5 yJx4a65c_size_8abf5, .initialized RJx4a65c, .code yJx4a65c_size_8abf5 cJx4a65c_size_8abf5 1 (some .int), .fieldLink RJx4a65c 48 "java/util/ArrayList" "size" "I", .methodLink RX11 47 yX11_in, .static yX11_in, .code yX11_in cX11_in 3 (some .boolean), .fieldLink RX11 41 "GatherhouseModel" "thrown" "I"]
def wzX11_of : List Cond := wzEX11_of ++ (u_ws RX11 TX11 13 ++ (u_ws RJx4a65c TJx4a65c 3))
theorem zgEX11_of : wzEX11_of.all goodWord = true := by decide +kernel
theorem zuX11_of_X11 : ∀ w ∈ u_ws RX11 TX11 13, w ∈ wzX11_of := (fun _ h => (List.mem_append_right _ (List.mem_append_left _ h)))
theorem zuX11_of_Jx4a65c : ∀ w ∈ u_ws RJx4a65c TJx4a65c 3, w ∈ wzX11_of := (fun _ h => (List.mem_append_right _ (List.mem_append_right _ h)))
theorem gzX11_of_X11_noPot_85 : GoodIn wzX11_of (wsV RX11 85 RX11 yX11_noPot wzX11_noPot) := (goodIn_app (z_lift (goodIn_r _ [1, 2, 3, 4] rfl (by decide +kernel))) (goodIn_app (z_lift (goodIn_r wzEX11_noPot [5, 6, 7, 8, 9, 10, 11, 12, 13, 14, 4, 15, 16] rfl zgEX11_noPot)) (goodIn_app (goodIn_sub (fun _ h => (List.mem_append_right _ (List.mem_append_left _ h))) zgU_X11) (goodIn_sub (fun _ h => (List.mem_append_right _ (List.mem_append_right _ h))) zgU_Jx4a65c))))
set_option maxHeartbeats 4000000 in
set_option maxRecDepth 100000 in
theorem zc_X11_of (l : Launch) (D : va_G) (G : Nat × Nat × Nat) (mo : Nat) (gl : Nat) (po : Nat) (pi : Nat) (bu : Nat) (pa : Nat) (th : Int32) (mh : Int32) (mt : Int32) (ii : Int32) (jj : Int32) (sz : Nat) : Met l yX11_of wzX11_of ({ frames := 2, cells := 0, slots := 0, locals := 43 }) (va_Pc [.ref mo, .int ii, .int jj] (p_RW D G [] [(mo, .inr (16, [.int th, .ref gl, .ref po, .ref pi, .ref bu, .ref pa, .int mt, .int mh, .int 40, .int 0, .null, .int 0, .int 0])), (po, .inr (4, [.int 0, .ref G.1, .int 0]))] sz)) (va_Qi (fun (r : Int32) (u : Unit) => r = 0) (fun (u : Unit) (t : State) => q_RW D [] [(mo, .inr (16, [.int 1, .ref gl, .ref po, .ref pi, .ref bu, .ref pa, .int mt, .int mh, .int 40, .int 0, .null, .int 0, .int 0])), (po, .inr (4, [.int 0, .ref G.1, .int 0]))] (va_A [(mo, .inr (16, [.int th, .ref gl, .ref po, .ref pi, .ref bu, .ref pa, .int mt, .int mh, .int 40, .int 0, .null, .int 0, .int 0])), (po, .inr (4, [.int 0, .ref G.1, .int 0]))] sz) t) (va_A [(mo, .inr (16, [.int th, .ref gl, .ref po, .ref pi, .ref bu, .ref pa, .int mt, .int mh, .int 40, .int 0, .null, .int 0, .int 0])), (po, .inr (4, [.int 0, .ref G.1, .int 0]))] sz)) 0 0 (va_A [(mo, .inr (16, [.int th, .ref gl, .ref po, .ref pi, .ref bu, .ref pa, .int mt, .int mh, .int 40, .int 0, .null, .int 0, .int 0])), (po, .inr (4, [.int 0, .ref G.1, .int 0]))] sz) := by
  refine Met.ofW (cc := cX11_of) (maxL := 4) (ret := (some .int)) (by decide) rfl ?_
  intro p e s m args below meth c s₁ B hml hv
  obtain ⟨rfl, hsz, hP, hK, hD0, hT, hZ⟩ := hv
  have hx := B.exec
  have hb := B.bytes
  have hr := B.returns
  have hts := atoms_spec (ws := wzX11_of) B.pre
  have hown : s.vm.findClass RX11 = some m.cls := findClass_of_methodNamed B.named
  have hlocks := B.notSynchronized
  subst hsz
  have hD := hD0.self (sz := s.heap.size)
  generalize hAe : va_A [(mo, .inr (16, [.int th, .ref gl, .ref po, .ref pi, .ref bu, .ref pa, .int mt, .int mh, .int 40, .int 0, .null, .int 0, .int 0])), (po, .inr (4, [.int 0, .ref G.1, .int 0]))] s.heap.size = A at hD hZ ⊢
  have hA : ∀ q : Nat, s.heap.size ≤ q → A q := fun q h => by rw [← hAe]; exact Or.inr h
  have hS : va_S A s.heap s.heap [] := va_S.rf
  have hl := lv_entry ([.ref mo, .int ii, .int jj]) (n := 4) (Nat.le_of_ble_eq_true rfl)
  rw [lg_entry_eq]
  generalize (lg_sl ([.ref mo, .int ii, .int jj]) ++ List.replicate (4 - (lg_sl ([.ref mo, .int ii, .int jj])).length) Slot.unset).toArray = ls at hl ⊢
  have hl : lv_has ls 4 [(0, .ref mo), (1, .int ii), (2, .int jj)] := hl
  refine lv_aload_n hx hb dX11_of_0 rfl (lv_at hl 0 rfl) ?_
  refine lv_iload_n hx hb dX11_of_1 rfl (lv_at hl 1 rfl) ?_
  have hFc := va_free (wc := [(mo, .inr (16, [.int th, .ref gl, .ref po, .ref pi, .ref bu, .ref pa, .int mt, .int mh, .int 40, .int 0, .null, .int 0, .int 0])), (po, .inr (4, [.int 0, .ref G.1, .int 0]))]) hD hS hA [0, 1] rfl
  refine va_calli (va_runV (As := [.int ii]) (rest := []) ⟨hx, hb, hml, hown, hts⟩ (zc_X11_noPot l D G mo gl po pi bu pa th mh mt ii s.heap.size) (cwV 1 hts gzX11_of_X11_noPot_85 rfl rfl rfl (by decide +kernel) ⟨(Nat.le_of_ble_eq_true rfl), (Nat.le_of_ble_eq_true rfl)⟩) ⟨p_RW_blind, va_recv hK hP (ci := 16) (q0 := 0) rfl rfl, (p_RW_at (tc := []) (wc := [(mo, .inr (16, [.int th, .ref gl, .ref po, .ref pi, .ref bu, .ref pa, .int mt, .int mh, .int 40, .int 0, .null, .int 0, .int 0])), (po, .inr (4, [.int 0, .ref G.1, .int 0]))]) hP hK hD hS hA hT hZ [0, 1] [] rfl rfl (by decide) rfl [.ref mo, .int ii])⟩ rfl rfl hl.1 rfl (lv_room (Nat.le_of_ble_eq_true rfl)) dX11_of_2 ⟨(Nat.le_of_ble_eq_true rfl), (Nat.le_of_ble_eq_true rfl)⟩) hS (fun q _ h => hFc q h) hFc (fun r_485 u t H locs ht hvm w_486 hB hz1 hk1 hS => ?_)
  obtain ⟨hP, hD, hK⟩ := q_join (D := D) (wc := [(mo, .inr (16, [.int th, .ref gl, .ref po, .ref pi, .ref bu, .ref pa, .int mt, .int mh, .int 40, .int 0, .null, .int 0, .int 0])), (po, .inr (4, [.int 0, .ref G.1, .int 0]))]) (wr := []) (w1 := [(mo, .inr (16, [.int 1, .ref gl, .ref po, .ref pi, .ref bu, .ref pa, .int mt, .int mh, .int 40, .int 0, .null, .int 0, .int 0])), (po, .inr (4, [.int 0, .ref G.1, .int 0]))]) (tyr := []) (ty1 := []) hP hD hK [0, 1] [] [] rfl rfl (by decide) (by decide) rfl hFc hk1 ht hvm hB
  have hP : va_P D vwCl [(mo, .inr (16, [.int 1, .ref gl, .ref po, .ref pi, .ref bu, .ref pa, .int mt, .int mh, .int 40, .int 0, .null, .int 0, .int 0])), (po, .inr (4, [.int 0, .ref G.1, .int 0]))] H := hP
  have hD : va_D A [(mo, .inr (16, [.int 1, .ref gl, .ref po, .ref pi, .ref bu, .ref pa, .int mt, .int mh, .int 40, .int 0, .null, .int 0, .int 0])), (po, .inr (4, [.int 0, .ref G.1, .int 0]))] := hD
  have hK : va_K D vwCl [] s := hK
  obtain rfl := w_486
  refine lv_if_eq (tgt := 10) hx hb dX11_of_5 (by decide) (fun cc => absurd cc (by decide)) (fun _ => ?_)
  refine lv_iconst (v := 0) hx hb dX11_of_8 (by decide) ?_
  exact W.iret (v := 0) hx hb hr (fun t ht hW => ⟨⟨0, (), rfl, rfl, q_RW_mk hP hK hD [0, 1] [] rfl rfl (by decide) rfl ht hW.alike⟩, hS.F ht⟩) hS.2.2 dX11_of_9
theorem dX11_gather_0 : decode cX11_gather 0 = .ok (.aload_n 0, 1) := by decide +kernel
theorem dX11_gather_1 : decode cX11_gather 1 = .ok (.iload_n 1, 1) := by decide +kernel
theorem dX11_gather_2 : decode cX11_gather 2 = .ok (.invokevirtual 85, 3) := by decide +kernel
theorem dX11_gather_5 : decode cX11_gather 5 = .ok (.ifCond .eq 5, 3) := by decide +kernel
theorem dX11_gather_8 : decode cX11_gather 8 = .ok (.iconst 0, 1) := by decide +kernel
theorem dX11_gather_9 : decode cX11_gather 9 = .ok (.ireturn, 1) := by decide +kernel
def wzEX11_gather : List Cond := [.code yX11_gather cX11_gather 6 (some .int), .methodLink RX11 85 yX11_noPot, .instanceMethod yX11_noPot, .selects RX11 yX11_noPot yX11_noPot, .initialized RX11, .code yX11_noPot cX11_noPot 2 (some .boolean), .fieldLink RX11 16 "GatherhouseModel" "pots" "Ljava/util/ArrayList;", .methodLink RX11 44 yJx4a65c_size_8abf5, .instanceMethod yJx4a65c_size_8abf5, .selects RJx4a65c yJx4a65c_size_8abf5 yJx4a65c_size_8abf5, .initialized RJx4a65c, .code yJx4a65c_size_8abf5 cJx4a65c_size_8abf5 1 (some .int), .fieldLink RJx4a65c 48 "java/util/ArrayList" "size" "I", .methodLink RX11 47 yX11_in, .static yX11_in, .code yX11_in cX11_in 3 (some .boolean), .fieldLink RX11 41 "GatherhouseModel" "thrown" "I"]
def wzX11_gather : List Cond := wzEX11_gather ++ (u_ws RX11 TX11 13 ++ (u_ws RJx4a65c TJx4a65c 3))
theorem zgEX11_gather : wzEX11_gather.all goodWord = true := by decide +kernel
theorem zuX11_gather_X11 : ∀ w ∈ u_ws RX11 TX11 13, w ∈ wzX11_gather := (fun _ h => (List.mem_append_right _ (List.mem_append_left _ h)))
theorem zuX11_gather_Jx4a65c : ∀ w ∈ u_ws RJx4a65c TJx4a65c 3, w ∈ wzX11_gather := (fun _ h => (List.mem_append_right _ (List.mem_append_right _ h)))
theorem gzX11_gather_X11_noPot_85 : GoodIn wzX11_gather (wsV RX11 85 RX11 yX11_noPot wzX11_noPot) := (goodIn_app (z_lift (goodIn_r _ [1, 2, 3, 4] rfl (by decide +kernel))) (goodIn_app (z_lift (goodIn_r wzEX11_noPot [5, 6, 7, 8, 9, 10, 11, 12, 13, 14, 4, 15, 16] rfl zgEX11_noPot)) (goodIn_app (goodIn_sub (fun _ h => (List.mem_append_right _ (List.mem_append_left _ h))) zgU_X11) (goodIn_sub (fun _ h => (List.mem_append_right _ (List.mem_append_right _ h))) zgU_Jx4a65c))))
set_option maxHeartbeats 4000000 in
set_option maxRecDepth 100000 in
theorem zc_X11_gather (l : Launch) (D : va_G) (G : Nat × Nat × Nat) (mo : Nat) (gl : Nat) (po : Nat) (pi : Nat) (bu : Nat) (pa : Nat) (th : Int32) (mh : Int32) (mt : Int32) (ii : Int32) (jj : Int32) (sz : Nat) : Met l yX11_gather wzX11_gather ({ frames := 2, cells := 0, slots := 0, locals := 43 }) (va_Pc [.ref mo, .int ii, .int jj] (p_RW D G [] [(mo, .inr (16, [.int th, .ref gl, .ref po, .ref pi, .ref bu, .ref pa, .int mt, .int mh, .int 40, .int 0, .null, .int 0, .int 0])), (po, .inr (4, [.int 0, .ref G.1, .int 0]))] sz)) (va_Qi (fun (r : Int32) (u : Unit) => r = 0) (fun (u : Unit) (t : State) => q_RW D [] [(mo, .inr (16, [.int 1, .ref gl, .ref po, .ref pi, .ref bu, .ref pa, .int mt, .int mh, .int 40, .int 0, .null, .int 0, .int 0])), (po, .inr (4, [.int 0, .ref G.1, .int 0]))] (va_A [(mo, .inr (16, [.int th, .ref gl, .ref po, .ref pi, .ref bu, .ref pa, .int mt, .int mh, .int 40, .int 0, .null, .int 0, .int 0])), (po, .inr (4, [.int 0, .ref G.1, .int 0]))] sz) t) (va_A [(mo, .inr (16, [.int th, .ref gl, .ref po, .ref pi, .ref bu, .ref pa, .int mt, .int mh, .int 40, .int 0, .null, .int 0, .int 0])), (po, .inr (4, [.int 0, .ref G.1, .int 0]))] sz)) 0 0 (va_A [(mo, .inr (16, [.int th, .ref gl, .ref po, .ref pi, .ref bu, .ref pa, .int mt, .int mh, .int 40, .int 0, .null, .int 0, .int 0])), (po, .inr (4, [.int 0, .ref G.1, .int 0]))] sz) := by
  refine Met.ofW (cc := cX11_gather) (maxL := 6) (ret := (some .int)) (by decide) rfl ?_
  intro p e s m args below meth c s₁ B hml hv
  obtain ⟨rfl, hsz, hP, hK, hD0, hT, hZ⟩ := hv
  have hx := B.exec
  have hb := B.bytes
  have hr := B.returns
  have hts := atoms_spec (ws := wzX11_gather) B.pre
  have hown : s.vm.findClass RX11 = some m.cls := findClass_of_methodNamed B.named
  have hlocks := B.notSynchronized
  subst hsz
  have hD := hD0.self (sz := s.heap.size)
  generalize hAe : va_A [(mo, .inr (16, [.int th, .ref gl, .ref po, .ref pi, .ref bu, .ref pa, .int mt, .int mh, .int 40, .int 0, .null, .int 0, .int 0])), (po, .inr (4, [.int 0, .ref G.1, .int 0]))] s.heap.size = A at hD hZ ⊢
  have hA : ∀ q : Nat, s.heap.size ≤ q → A q := fun q h => by rw [← hAe]; exact Or.inr h
  have hS : va_S A s.heap s.heap [] := va_S.rf
  have hl := lv_entry ([.ref mo, .int ii, .int jj]) (n := 6) (Nat.le_of_ble_eq_true rfl)
  rw [lg_entry_eq]
  generalize (lg_sl ([.ref mo, .int ii, .int jj]) ++ List.replicate (6 - (lg_sl ([.ref mo, .int ii, .int jj])).length) Slot.unset).toArray = ls at hl ⊢
  have hl : lv_has ls 6 [(0, .ref mo), (1, .int ii), (2, .int jj)] := hl
  refine lv_aload_n hx hb dX11_gather_0 rfl (lv_at hl 0 rfl) ?_
  refine lv_iload_n hx hb dX11_gather_1 rfl (lv_at hl 1 rfl) ?_
  have hFc := va_free (wc := [(mo, .inr (16, [.int th, .ref gl, .ref po, .ref pi, .ref bu, .ref pa, .int mt, .int mh, .int 40, .int 0, .null, .int 0, .int 0])), (po, .inr (4, [.int 0, .ref G.1, .int 0]))]) hD hS hA [0, 1] rfl
  refine va_calli (va_runV (As := [.int ii]) (rest := []) ⟨hx, hb, hml, hown, hts⟩ (zc_X11_noPot l D G mo gl po pi bu pa th mh mt ii s.heap.size) (cwV 1 hts gzX11_gather_X11_noPot_85 rfl rfl rfl (by decide +kernel) ⟨(Nat.le_of_ble_eq_true rfl), (Nat.le_of_ble_eq_true rfl)⟩) ⟨p_RW_blind, va_recv hK hP (ci := 16) (q0 := 0) rfl rfl, (p_RW_at (tc := []) (wc := [(mo, .inr (16, [.int th, .ref gl, .ref po, .ref pi, .ref bu, .ref pa, .int mt, .int mh, .int 40, .int 0, .null, .int 0, .int 0])), (po, .inr (4, [.int 0, .ref G.1, .int 0]))]) hP hK hD hS hA hT hZ [0, 1] [] rfl rfl (by decide) rfl [.ref mo, .int ii])⟩ rfl rfl hl.1 rfl (lv_room (Nat.le_of_ble_eq_true rfl)) dX11_gather_2 ⟨(Nat.le_of_ble_eq_true rfl), (Nat.le_of_ble_eq_true rfl)⟩) hS (fun q _ h => hFc q h) hFc (fun r_487 u t H locs ht hvm w_488 hB hz1 hk1 hS => ?_)
  obtain ⟨hP, hD, hK⟩ := q_join (D := D) (wc := [(mo, .inr (16, [.int th, .ref gl, .ref po, .ref pi, .ref bu, .ref pa, .int mt, .int mh, .int 40, .int 0, .null, .int 0, .int 0])), (po, .inr (4, [.int 0, .ref G.1, .int 0]))]) (wr := []) (w1 := [(mo, .inr (16, [.int 1, .ref gl, .ref po, .ref pi, .ref bu, .ref pa, .int mt, .int mh, .int 40, .int 0, .null, .int 0, .int 0])), (po, .inr (4, [.int 0, .ref G.1, .int 0]))]) (tyr := []) (ty1 := []) hP hD hK [0, 1] [] [] rfl rfl (by decide) (by decide) rfl hFc hk1 ht hvm hB
  have hP : va_P D vwCl [(mo, .inr (16, [.int 1, .ref gl, .ref po, .ref pi, .ref bu, .ref pa, .int mt, .int mh, .int 40, .int 0, .null, .int 0, .int 0])), (po, .inr (4, [.int 0, .ref G.1, .int 0]))] H := hP
  have hD : va_D A [(mo, .inr (16, [.int 1, .ref gl, .ref po, .ref pi, .ref bu, .ref pa, .int mt, .int mh, .int 40, .int 0, .null, .int 0, .int 0])), (po, .inr (4, [.int 0, .ref G.1, .int 0]))] := hD
  have hK : va_K D vwCl [] s := hK
  obtain rfl := w_488
  refine lv_if_eq (tgt := 10) hx hb dX11_gather_5 (by decide) (fun cc => absurd cc (by decide)) (fun _ => ?_)
  refine lv_iconst (v := 0) hx hb dX11_gather_8 (by decide) ?_
  exact W.iret (v := 0) hx hb hr (fun t ht hW => ⟨⟨0, (), rfl, rfl, q_RW_mk hP hK hD [0, 1] [] rfl rfl (by decide) rfl ht hW.alike⟩, hS.F ht⟩) hS.2.2 dX11_gather_9
theorem dX11_agree_0 : decode cX11_agree 0 = .ok (.aload_n 0, 1) := by decide +kernel
theorem dX11_agree_1 : decode cX11_agree 1 = .ok (.aload_n 0, 1) := by decide +kernel
theorem dX11_agree_2 : decode cX11_agree 2 = .ok (.iload_n 1, 1) := by decide +kernel
theorem dX11_agree_3 : decode cX11_agree 3 = .ok (.invokevirtual 73, 3) := by decide +kernel
theorem dX11_agree_6 : decode cX11_agree 6 = .ok (.ifCond .eq 15, 3) := by decide +kernel
theorem dX11_agree_21 : decode cX11_agree 21 = .ok (.iconst 1, 1) := by decide +kernel
theorem dX11_agree_22 : decode cX11_agree 22 = .ok (.putfield 41, 3) := by decide +kernel
theorem dX11_agree_25 : decode cX11_agree 25 = .ok (.aload_n 0, 1) := by decide +kernel
theorem dX11_agree_26 : decode cX11_agree 26 = .ok (.getfield 41, 3) := by decide +kernel
theorem dX11_agree_29 : decode cX11_agree 29 = .ok (.ifCond .ne 35, 3) := by decide +kernel
theorem dX11_agree_64 : decode cX11_agree 64 = .ok (.iconst 0, 1) := by decide +kernel
theorem dX11_agree_65 : decode cX11_agree 65 = .ok (.ireturn, 1) := by decide +kernel
def wzEX11_agree : List Cond := [.code yX11_agree cX11_agree 3 (some .boolean), .methodLink RX11 73 yX11_isGlass, .instanceMethod yX11_isGlass, .selects RX11 yX11_isGlass yX11_isGlass, .initialized RX11, .code yX11_isGlass cX11_isGlass 2 (some .boolean), .fieldLink RX11 10 "GatherhouseModel" "glasses" "Ljava/util/ArrayList;", .methodLink RX11 44 yJx4a65c_size_8abf5, .instanceMethod yJx4a65c_size_8abf5, .selects RJx4a65c yJx4a65c_size_8abf5 yJx4a65c_size_8abf5, .initialized RJx4a65c, .code yJx4a65c_size_8abf5 cJx4a65c_size_8abf5 1 (some .int), .fieldLink RJx4a65c 48 "java/util/ArrayList" "size" "I", .methodLink RX11 47 yX11_in, .static yX11_in, .code yX11_in cX11_in 3 (some .boolean), .fieldLink RX11 41 "GatherhouseModel" "thrown" "I"]
def wzX11_agree : List Cond := wzEX11_agree ++ (u_ws RX11 TX11 13 ++ (u_ws RJx4a65c TJx4a65c 3))
theorem zgEX11_agree : wzEX11_agree.all goodWord = true := by decide +kernel
theorem zuX11_agree_X11 : ∀ w ∈ u_ws RX11 TX11 13, w ∈ wzX11_agree := (fun _ h => (List.mem_append_right _ (List.mem_append_left _ h)))
theorem zuX11_agree_Jx4a65c : ∀ w ∈ u_ws RJx4a65c TJx4a65c 3, w ∈ wzX11_agree := (fun _ h => (List.mem_append_right _ (List.mem_append_right _ h)))
theorem gzX11_agree_X11_isGlass_73 : GoodIn wzX11_agree (wsV RX11 73 RX11 yX11_isGlass wzX11_isGlass) := (goodIn_app (z_lift (goodIn_r _ [1, 2, 3, 4] rfl (by decide +kernel))) (goodIn_app (z_lift (goodIn_r wzEX11_isGlass [5, 6, 7, 8, 9, 10, 11, 12, 13, 14, 4, 15] rfl zgEX11_isGlass)) (goodIn_app (goodIn_sub (fun _ h => (List.mem_append_right _ (List.mem_append_left _ h))) zgU_X11) (goodIn_sub (fun _ h => (List.mem_append_right _ (List.mem_append_right _ h))) zgU_Jx4a65c))))
set_option maxHeartbeats 4000000 in
set_option maxRecDepth 100000 in
theorem zc_X11_agree (l : Launch) (D : va_G) (G : Nat × Nat × Nat) (mo : Nat) (gl : Nat) (po : Nat) (pi : Nat) (bu : Nat) (pa : Nat) (th : Int32) (mh : Int32) (mt : Int32) (ii : Int32) (jj : Int32) (sz : Nat) : Met l yX11_agree wzX11_agree ({ frames := 2, cells := 0, slots := 0, locals := 43 }) (va_Pc [.ref mo, .int ii, .int jj] (p_RW D G [] [(mo, .inr (16, [.int th, .ref gl, .ref po, .ref pi, .ref bu, .ref pa, .int mt, .int mh, .int 40, .int 0, .null, .int 0, .int 0])), (gl, .inr (4, [.int 0, .ref G.1, .int 0]))] sz)) (va_Qi (fun (r : Int32) (u : Unit) => r = 0) (fun (u : Unit) (t : State) => q_RW D [] [(mo, .inr (16, [.int 1, .ref gl, .ref po, .ref pi, .ref bu, .ref pa, .int mt, .int mh, .int 40, .int 0, .null, .int 0, .int 0])), (gl, .inr (4, [.int 0, .ref G.1, .int 0]))] (va_A [(mo, .inr (16, [.int th, .ref gl, .ref po, .ref pi, .ref bu, .ref pa, .int mt, .int mh, .int 40, .int 0, .null, .int 0, .int 0])), (gl, .inr (4, [.int 0, .ref G.1, .int 0]))] sz) t) (va_A [(mo, .inr (16, [.int th, .ref gl, .ref po, .ref pi, .ref bu, .ref pa, .int mt, .int mh, .int 40, .int 0, .null, .int 0, .int 0])), (gl, .inr (4, [.int 0, .ref G.1, .int 0]))] sz)) 0 0 (va_A [(mo, .inr (16, [.int th, .ref gl, .ref po, .ref pi, .ref bu, .ref pa, .int mt, .int mh, .int 40, .int 0, .null, .int 0, .int 0])), (gl, .inr (4, [.int 0, .ref G.1, .int 0]))] sz) := by
  refine Met.ofW (cc := cX11_agree) (maxL := 3) (ret := (some .boolean)) (by decide) rfl ?_
  intro p e s m args below meth c s₁ B hml hv
  obtain ⟨rfl, hsz, hP, hK, hD0, hT, hZ⟩ := hv
  have hx := B.exec
  have hb := B.bytes
  have hr := B.returns
  have hts := atoms_spec (ws := wzX11_agree) B.pre
  have hown : s.vm.findClass RX11 = some m.cls := findClass_of_methodNamed B.named
  have hlocks := B.notSynchronized
  subst hsz
  have hD := hD0.self (sz := s.heap.size)
  generalize hAe : va_A [(mo, .inr (16, [.int th, .ref gl, .ref po, .ref pi, .ref bu, .ref pa, .int mt, .int mh, .int 40, .int 0, .null, .int 0, .int 0])), (gl, .inr (4, [.int 0, .ref G.1, .int 0]))] s.heap.size = A at hD hZ ⊢
  have hA : ∀ q : Nat, s.heap.size ≤ q → A q := fun q h => by rw [← hAe]; exact Or.inr h
  have hS : va_S A s.heap s.heap [] := va_S.rf
  have hl := lv_entry ([.ref mo, .int ii, .int jj]) (n := 3) (Nat.le_of_ble_eq_true rfl)
  rw [lg_entry_eq]
  generalize (lg_sl ([.ref mo, .int ii, .int jj]) ++ List.replicate (3 - (lg_sl ([.ref mo, .int ii, .int jj])).length) Slot.unset).toArray = ls at hl ⊢
  have hl : lv_has ls 3 [(0, .ref mo), (1, .int ii), (2, .int jj)] := hl
  refine lv_aload_n hx hb dX11_agree_0 rfl (lv_at hl 0 rfl) ?_
  refine lv_aload_n hx hb dX11_agree_1 rfl (lv_at hl 0 rfl) ?_
  refine lv_iload_n hx hb dX11_agree_2 rfl (lv_at hl 1 rfl) ?_
  refine vp_callSi (va_runV (As := [.int ii]) (rest := [.ref mo]) ⟨hx, hb, hml, hown, hts⟩ (zc_X11_isGlass l D G mo gl po pi bu pa th mh mt ii) (cwV 1 hts gzX11_agree_X11_isGlass_73 rfl rfl rfl (by decide +kernel) ⟨(Nat.le_of_ble_eq_true rfl), (Nat.le_of_ble_eq_true rfl)⟩) ⟨p_RO_blind, va_recv hK hP (ci := 16) (q0 := 0) rfl rfl, (p_RO_at (tc := []) (wc := [(mo, .inr (16, [.int th, .ref gl, .ref po, .ref pi, .ref bu, .ref pa, .int mt, .int mh, .int 40, .int 0, .null, .int 0, .int 0])), (gl, .inr (4, [.int 0, .ref G.1, .int 0]))]) hP hK hT [0, 1] [] rfl rfl [.ref mo, .int ii])⟩ rfl rfl hl.1 rfl (lv_room (Nat.le_of_ble_eq_true rfl)) dX11_agree_3 ⟨(Nat.le_of_ble_eq_true rfl), (Nat.le_of_ble_eq_true rfl)⟩).run (fun r_489 w_490 => ?_)
  obtain rfl := w_490
  refine lv_if_eq (tgt := 21) hx hb dX11_agree_6 (by decide) (fun _ => ?_) (fun cc => absurd (by decide) cc)
  refine lv_iconst (v := 1) hx hb dX11_agree_21 (by decide) ?_
  refine va_put (D := D) (cl := vwCl) (ci := 16) (v := .int 1) (ty := .int) (C := RX11) (T := TX11) (N := 13) hx hb hts zuX11_agree_X11 tyX11 tyX11_ok nmX11 hown hK hP hD hS 0 rfl rfl 0 (by decide) (hts (.fieldLink RX11 41 "GatherhouseModel" "thrown" "I") (by decide +kernel)) (fun _ h9 => h9) rfl (by decide +kernel) rfl rfl (Nat.le_of_ble_eq_true rfl) dX11_agree_22 (fun H locs hP hD hS => ?_)
  have hP : va_P D vwCl [(mo, .inr (16, [.int 1, .ref gl, .ref po, .ref pi, .ref bu, .ref pa, .int mt, .int mh, .int 40, .int 0, .null, .int 0, .int 0])), (gl, .inr (4, [.int 0, .ref G.1, .int 0]))] H := hP
  have hD : va_D A [(mo, .inr (16, [.int 1, .ref gl, .ref po, .ref pi, .ref bu, .ref pa, .int mt, .int mh, .int 40, .int 0, .null, .int 0, .int 0])), (gl, .inr (4, [.int 0, .ref G.1, .int 0]))] := hD
  refine lv_aload_n hx hb dX11_agree_25 rfl (lv_at hl 0 rfl) ?_
  refine va_get (D := D) (cl := vwCl) (ci := 16) (v := .int 1) (C := RX11) (T := TX11) (N := 13) hx hb hts zuX11_agree_X11 hown hK hP 0 rfl rfl 0 (by decide) (hts (.fieldLink RX11 41 "GatherhouseModel" "thrown" "I") (by decide +kernel)) (fun _ h9 => h9) rfl dX11_agree_26 ?_
  refine lv_if_ne (tgt := 64) hx hb dX11_agree_29 (by decide) (fun _ => ?_) (fun cc => absurd cc (by decide))
  refine lv_iconst (v := 0) hx hb dX11_agree_64 (by decide) ?_
  exact W.zret (v := 0) hx hb hr rfl (fun t ht hW => ⟨⟨0, (), rfl, rfl, q_RW_mk hP hK hD [0, 1] [] rfl rfl (by decide) rfl ht hW.alike⟩, hS.F ht⟩) hS.2.2 dX11_agree_65
theorem dX11_pot_0 : decode cX11_pot 0 = .ok (.aload_n 0, 1) := by decide +kernel
theorem dX11_pot_1 : decode cX11_pot 1 = .ok (.aload_n 0, 1) := by decide +kernel
theorem dX11_pot_2 : decode cX11_pot 2 = .ok (.iload_n 1, 1) := by decide +kernel
theorem dX11_pot_3 : decode cX11_pot 3 = .ok (.invokevirtual 73, 3) := by decide +kernel
theorem dX11_pot_6 : decode cX11_pot 6 = .ok (.ifCond .ne 7, 3) := by decide +kernel
theorem dX11_pot_9 : decode cX11_pot 9 = .ok (.iconst 1, 1) := by decide +kernel
theorem dX11_pot_10 : decode cX11_pot 10 = .ok (.goto 19, 3) := by decide +kernel
theorem dX11_pot_29 : decode cX11_pot 29 = .ok (.putfield 41, 3) := by decide +kernel
theorem dX11_pot_32 : decode cX11_pot 32 = .ok (.aload_n 0, 1) := by decide +kernel
theorem dX11_pot_33 : decode cX11_pot 33 = .ok (.getfield 41, 3) := by decide +kernel
theorem dX11_pot_36 : decode cX11_pot 36 = .ok (.ifCond .le 5, 3) := by decide +kernel
theorem dX11_pot_39 : decode cX11_pot 39 = .ok (.iconst 0, 1) := by decide +kernel
theorem dX11_pot_40 : decode cX11_pot 40 = .ok (.ireturn, 1) := by decide +kernel
def wzEX11_pot : List Cond := [.code yX11_pot cX11_pot 2 (some .int), .methodLink RX11 73 yX11_isGlass, .instanceMethod yX11_isGlass, .selects RX11 yX11_isGlass yX11_isGlass, .initialized RX11, .code yX11_isGlass cX11_isGlass 2 (some .boolean), .fieldLink RX11 10 "GatherhouseModel" "glasses" "Ljava/util/ArrayList;", .methodLink RX11 44 yJx4a65c_size_8abf5, .instanceMethod yJx4a65c_size_8abf5, .selects RJx4a65c yJx4a65c_size_8abf5 yJx4a65c_size_8abf5, .initialized RJx4a65c, .code yJx4a65c_size_8abf5 cJx4a65c_size_8abf5 1 (some .int), .fieldLink RJx4a65c 48 "java/util/ArrayList" "size" "I", .methodLink RX11 47 yX11_in, .static yX11_in, .code yX11_in cX11_in 3 (some .boolean), .fieldLink RX11 41 "GatherhouseModel" "thrown" "I"]
def wzX11_pot : List Cond := wzEX11_pot ++ (u_ws RX11 TX11 13 ++ (u_ws RJx4a65c TJx4a65c 3))
theorem zgEX11_pot : wzEX11_pot.all goodWord = true := by decide +kernel
theorem zuX11_pot_X11 : ∀ w ∈ u_ws RX11 TX11 13, w ∈ wzX11_pot := (fun _ h => (List.mem_append_right _ (List.mem_append_left _ h)))
theorem zuX11_pot_Jx4a65c : ∀ w ∈ u_ws RJx4a65c TJx4a65c 3, w ∈ wzX11_pot := (fun _ h => (List.mem_append_right _ (List.mem_append_right _ h)))
theorem gzX11_pot_X11_isGlass_73 : GoodIn wzX11_pot (wsV RX11 73 RX11 yX11_isGlass wzX11_isGlass) := (goodIn_app (z_lift (goodIn_r _ [1, 2, 3, 4] rfl (by decide +kernel))) (goodIn_app (z_lift (goodIn_r wzEX11_isGlass [5, 6, 7, 8, 9, 10, 11, 12, 13, 14, 4, 15] rfl zgEX11_isGlass)) (goodIn_app (goodIn_sub (fun _ h => (List.mem_append_right _ (List.mem_append_left _ h))) zgU_X11) (goodIn_sub (fun _ h => (List.mem_append_right _ (List.mem_append_right _ h))) zgU_Jx4a65c))))
set_option maxHeartbeats 4000000 in
set_option maxRecDepth 100000 in
theorem zc_X11_pot (l : Launch) (D : va_G) (G : Nat × Nat × Nat) (mo : Nat) (gl : Nat) (po : Nat) (pi : Nat) (bu : Nat) (pa : Nat) (th : Int32) (mh : Int32) (mt : Int32) (ii : Int32) (sz : Nat) : Met l yX11_pot wzX11_pot ({ frames := 2, cells := 0, slots := 0, locals := 43 }) (va_Pc [.ref mo, .int ii] (p_RW D G [] [(mo, .inr (16, [.int th, .ref gl, .ref po, .ref pi, .ref bu, .ref pa, .int mt, .int mh, .int 40, .int 0, .null, .int 0, .int 0])), (gl, .inr (4, [.int 0, .ref G.1, .int 0]))] sz)) (va_Qi (fun (r : Int32) (u : Unit) => r = 0) (fun (u : Unit) (t : State) => q_RW D [] [(mo, .inr (16, [.int 1, .ref gl, .ref po, .ref pi, .ref bu, .ref pa, .int mt, .int mh, .int 40, .int 0, .null, .int 0, .int 0])), (gl, .inr (4, [.int 0, .ref G.1, .int 0]))] (va_A [(mo, .inr (16, [.int th, .ref gl, .ref po, .ref pi, .ref bu, .ref pa, .int mt, .int mh, .int 40, .int 0, .null, .int 0, .int 0])), (gl, .inr (4, [.int 0, .ref G.1, .int 0]))] sz) t) (va_A [(mo, .inr (16, [.int th, .ref gl, .ref po, .ref pi, .ref bu, .ref pa, .int mt, .int mh, .int 40, .int 0, .null, .int 0, .int 0])), (gl, .inr (4, [.int 0, .ref G.1, .int 0]))] sz)) 0 0 (va_A [(mo, .inr (16, [.int th, .ref gl, .ref po, .ref pi, .ref bu, .ref pa, .int mt, .int mh, .int 40, .int 0, .null, .int 0, .int 0])), (gl, .inr (4, [.int 0, .ref G.1, .int 0]))] sz) := by
  refine Met.ofW (cc := cX11_pot) (maxL := 2) (ret := (some .int)) (by decide) rfl ?_
  intro p e s m args below meth c s₁ B hml hv
  obtain ⟨rfl, hsz, hP, hK, hD0, hT, hZ⟩ := hv
  have hx := B.exec
  have hb := B.bytes
  have hr := B.returns
  have hts := atoms_spec (ws := wzX11_pot) B.pre
  have hown : s.vm.findClass RX11 = some m.cls := findClass_of_methodNamed B.named
  have hlocks := B.notSynchronized
  subst hsz
  have hD := hD0.self (sz := s.heap.size)
  generalize hAe : va_A [(mo, .inr (16, [.int th, .ref gl, .ref po, .ref pi, .ref bu, .ref pa, .int mt, .int mh, .int 40, .int 0, .null, .int 0, .int 0])), (gl, .inr (4, [.int 0, .ref G.1, .int 0]))] s.heap.size = A at hD hZ ⊢
  have hA : ∀ q : Nat, s.heap.size ≤ q → A q := fun q h => by rw [← hAe]; exact Or.inr h
  have hS : va_S A s.heap s.heap [] := va_S.rf
  have hl := lv_entry ([.ref mo, .int ii]) (n := 2) (Nat.le_of_ble_eq_true rfl)
  rw [lg_entry_eq]
  generalize (lg_sl ([.ref mo, .int ii]) ++ List.replicate (2 - (lg_sl ([.ref mo, .int ii])).length) Slot.unset).toArray = ls at hl ⊢
  have hl : lv_has ls 2 [(0, .ref mo), (1, .int ii)] := hl
  refine lv_aload_n hx hb dX11_pot_0 rfl (lv_at hl 0 rfl) ?_
  refine lv_aload_n hx hb dX11_pot_1 rfl (lv_at hl 0 rfl) ?_
  refine lv_iload_n hx hb dX11_pot_2 rfl (lv_at hl 1 rfl) ?_
  refine vp_callSi (va_runV (As := [.int ii]) (rest := [.ref mo]) ⟨hx, hb, hml, hown, hts⟩ (zc_X11_isGlass l D G mo gl po pi bu pa th mh mt ii) (cwV 1 hts gzX11_pot_X11_isGlass_73 rfl rfl rfl (by decide +kernel) ⟨(Nat.le_of_ble_eq_true rfl), (Nat.le_of_ble_eq_true rfl)⟩) ⟨p_RO_blind, va_recv hK hP (ci := 16) (q0 := 0) rfl rfl, (p_RO_at (tc := []) (wc := [(mo, .inr (16, [.int th, .ref gl, .ref po, .ref pi, .ref bu, .ref pa, .int mt, .int mh, .int 40, .int 0, .null, .int 0, .int 0])), (gl, .inr (4, [.int 0, .ref G.1, .int 0]))]) hP hK hT [0, 1] [] rfl rfl [.ref mo, .int ii])⟩ rfl rfl hl.1 rfl (lv_room (Nat.le_of_ble_eq_true rfl)) dX11_pot_3 ⟨(Nat.le_of_ble_eq_true rfl), (Nat.le_of_ble_eq_true rfl)⟩).run (fun r_491 w_492 => ?_)
  obtain rfl := w_492
  refine lv_if_ne (tgt := 13) hx hb dX11_pot_6 (by decide) (fun cc => absurd (by decide) cc) (fun _ => ?_)
  refine lv_iconst (v := 1) hx hb dX11_pot_9 (by decide) ?_
  refine lv_goto (tgt := 29) hx hb dX11_pot_10 (by decide) ?_
  refine va_put (D := D) (cl := vwCl) (ci := 16) (v := .int 1) (ty := .int) (C := RX11) (T := TX11) (N := 13) hx hb hts zuX11_pot_X11 tyX11 tyX11_ok nmX11 hown hK hP hD hS 0 rfl rfl 0 (by decide) (hts (.fieldLink RX11 41 "GatherhouseModel" "thrown" "I") (by decide +kernel)) (fun _ h9 => h9) rfl (by decide +kernel) rfl rfl (Nat.le_of_ble_eq_true rfl) dX11_pot_29 (fun H locs hP hD hS => ?_)
  have hP : va_P D vwCl [(mo, .inr (16, [.int 1, .ref gl, .ref po, .ref pi, .ref bu, .ref pa, .int mt, .int mh, .int 40, .int 0, .null, .int 0, .int 0])), (gl, .inr (4, [.int 0, .ref G.1, .int 0]))] H := hP
  have hD : va_D A [(mo, .inr (16, [.int 1, .ref gl, .ref po, .ref pi, .ref bu, .ref pa, .int mt, .int mh, .int 40, .int 0, .null, .int 0, .int 0])), (gl, .inr (4, [.int 0, .ref G.1, .int 0]))] := hD
  refine lv_aload_n hx hb dX11_pot_32 rfl (lv_at hl 0 rfl) ?_
  refine va_get (D := D) (cl := vwCl) (ci := 16) (v := .int 1) (C := RX11) (T := TX11) (N := 13) hx hb hts zuX11_pot_X11 hown hK hP 0 rfl rfl 0 (by decide) (hts (.fieldLink RX11 41 "GatherhouseModel" "thrown" "I") (by decide +kernel)) (fun _ h9 => h9) rfl dX11_pot_33 ?_
  refine lv_if_le (tgt := 41) hx hb dX11_pot_36 (by decide) (fun cc => absurd cc (by decide)) (fun _ => ?_)
  refine lv_iconst (v := 0) hx hb dX11_pot_39 (by decide) ?_
  exact W.iret (v := 0) hx hb hr (fun t ht hW => ⟨⟨0, (), rfl, rfl, q_RW_mk hP hK hD [0, 1] [] rfl rfl (by decide) rfl ht hW.alike⟩, hS.F ht⟩) hS.2.2 dX11_pot_40
theorem dX11_state_0 : decode cX11_state 0 = .ok (.aload_n 0, 1) := by decide +kernel
theorem dX11_state_1 : decode cX11_state 1 = .ok (.iload_n 1, 1) := by decide +kernel
theorem dX11_state_2 : decode cX11_state 2 = .ok (.invokevirtual 51, 3) := by decide +kernel
theorem dX11_state_5 : decode cX11_state 5 = .ok (.ifCond .eq 8, 3) := by decide +kernel
theorem dX11_state_8 : decode cX11_state 8 = .ok (.bipush 32, 2) := by decide +kernel
theorem dX11_state_10 : decode cX11_state 10 = .ok (.goto 17, 3) := by decide +kernel
theorem dX11_state_27 : decode cX11_state 27 = .ok (.ireturn, 1) := by decide +kernel
def wzEX11_state : List Cond := [.code yX11_state cX11_state 2 (some .char), .methodLink RX11 51 yX11_noPiece, .instanceMethod yX11_noPiece, .selects RX11 yX11_noPiece yX11_noPiece, .initialized RX11, .code yX11_noPiece cX11_noPiece 2 (some .boolean), .fieldLink RX11 19 "GatherhouseModel" "pieces" "Ljava/util/ArrayList;", .methodLink RX11 44 yJx4a65c_size_8abf5, .instanceMethod yJx4a65c_size_8abf5, .selects RJx4a65c yJx4a65c_size_8abf5 yJx4a65c_size_8abf5, .initialized RJx4a65c, .code yJx4a65c_size_8abf5 cJx4a65c_size_8abf5 1 (some .int), .fieldLink RJx4a65c 48 "java/util/ArrayList" "size" "I", .methodLink RX11 47 yX11_in, .static yX11_in, .code yX11_in cX11_in 3 (some .boolean), .fieldLink RX11 41 "GatherhouseModel" "thrown" "I"]
def wzX11_state : List Cond := wzEX11_state ++ (u_ws RX11 TX11 13 ++ (u_ws RJx4a65c TJx4a65c 3))
theorem zgEX11_state : wzEX11_state.all goodWord = true := by decide +kernel
theorem zuX11_state_X11 : ∀ w ∈ u_ws RX11 TX11 13, w ∈ wzX11_state := (fun _ h => (List.mem_append_right _ (List.mem_append_left _ h)))
theorem zuX11_state_Jx4a65c : ∀ w ∈ u_ws RJx4a65c TJx4a65c 3, w ∈ wzX11_state := (fun _ h => (List.mem_append_right _ (List.mem_append_right _ h)))
theorem gzX11_state_X11_noPiece_51 : GoodIn wzX11_state (wsV RX11 51 RX11 yX11_noPiece wzX11_noPiece) := (goodIn_app (z_lift (goodIn_r _ [1, 2, 3, 4] rfl (by decide +kernel))) (goodIn_app (z_lift (goodIn_r wzEX11_noPiece [5, 6, 7, 8, 9, 10, 11, 12, 13, 14, 4, 15, 16] rfl zgEX11_noPiece)) (goodIn_app (goodIn_sub (fun _ h => (List.mem_append_right _ (List.mem_append_left _ h))) zgU_X11) (goodIn_sub (fun _ h => (List.mem_append_right _ (List.mem_append_right _ h))) zgU_Jx4a65c))))
set_option maxHeartbeats 4000000 in
set_option maxRecDepth 100000 in
theorem zc_X11_state (l : Launch) (D : va_G) (G : Nat × Nat × Nat) (mo : Nat) (gl : Nat) (po : Nat) (pi : Nat) (bu : Nat) (pa : Nat) (th : Int32) (mh : Int32) (mt : Int32) (ii : Int32) (sz : Nat) : Met l yX11_state wzX11_state ({ frames := 2, cells := 0, slots := 0, locals := 43 }) (va_Pc [.ref mo, .int ii] (p_RW D G [] [(mo, .inr (16, [.int th, .ref gl, .ref po, .ref pi, .ref bu, .ref pa, .int mt, .int mh, .int 40, .int 0, .null, .int 0, .int 0])), (pi, .inr (4, [.int 0, .ref G.1, .int 0]))] sz)) (va_Qi (fun (r : Int32) (u : Unit) => r = 32) (fun (u : Unit) (t : State) => q_RW D [] [(mo, .inr (16, [.int 1, .ref gl, .ref po, .ref pi, .ref bu, .ref pa, .int mt, .int mh, .int 40, .int 0, .null, .int 0, .int 0])), (pi, .inr (4, [.int 0, .ref G.1, .int 0]))] (va_A [(mo, .inr (16, [.int th, .ref gl, .ref po, .ref pi, .ref bu, .ref pa, .int mt, .int mh, .int 40, .int 0, .null, .int 0, .int 0])), (pi, .inr (4, [.int 0, .ref G.1, .int 0]))] sz) t) (va_A [(mo, .inr (16, [.int th, .ref gl, .ref po, .ref pi, .ref bu, .ref pa, .int mt, .int mh, .int 40, .int 0, .null, .int 0, .int 0])), (pi, .inr (4, [.int 0, .ref G.1, .int 0]))] sz)) 0 0 (va_A [(mo, .inr (16, [.int th, .ref gl, .ref po, .ref pi, .ref bu, .ref pa, .int mt, .int mh, .int 40, .int 0, .null, .int 0, .int 0])), (pi, .inr (4, [.int 0, .ref G.1, .int 0]))] sz) := by
  refine Met.ofW (cc := cX11_state) (maxL := 2) (ret := (some .char)) (by decide) rfl ?_
  intro p e s m args below meth c s₁ B hml hv
  obtain ⟨rfl, hsz, hP, hK, hD0, hT, hZ⟩ := hv
  have hx := B.exec
  have hb := B.bytes
  have hr := B.returns
  have hts := atoms_spec (ws := wzX11_state) B.pre
  have hown : s.vm.findClass RX11 = some m.cls := findClass_of_methodNamed B.named
  have hlocks := B.notSynchronized
  subst hsz
  have hD := hD0.self (sz := s.heap.size)
  generalize hAe : va_A [(mo, .inr (16, [.int th, .ref gl, .ref po, .ref pi, .ref bu, .ref pa, .int mt, .int mh, .int 40, .int 0, .null, .int 0, .int 0])), (pi, .inr (4, [.int 0, .ref G.1, .int 0]))] s.heap.size = A at hD hZ ⊢
  have hA : ∀ q : Nat, s.heap.size ≤ q → A q := fun q h => by rw [← hAe]; exact Or.inr h
  have hS : va_S A s.heap s.heap [] := va_S.rf
  have hl := lv_entry ([.ref mo, .int ii]) (n := 2) (Nat.le_of_ble_eq_true rfl)
  rw [lg_entry_eq]
  generalize (lg_sl ([.ref mo, .int ii]) ++ List.replicate (2 - (lg_sl ([.ref mo, .int ii])).length) Slot.unset).toArray = ls at hl ⊢
  have hl : lv_has ls 2 [(0, .ref mo), (1, .int ii)] := hl
  refine lv_aload_n hx hb dX11_state_0 rfl (lv_at hl 0 rfl) ?_
  refine lv_iload_n hx hb dX11_state_1 rfl (lv_at hl 1 rfl) ?_
  have hFc := va_free (wc := [(mo, .inr (16, [.int th, .ref gl, .ref po, .ref pi, .ref bu, .ref pa, .int mt, .int mh, .int 40, .int 0, .null, .int 0, .int 0])), (pi, .inr (4, [.int 0, .ref G.1, .int 0]))]) hD hS hA [0, 1] rfl
  refine va_calli (va_runV (As := [.int ii]) (rest := []) ⟨hx, hb, hml, hown, hts⟩ (zc_X11_noPiece l D G mo gl po pi bu pa th mh mt ii s.heap.size) (cwV 1 hts gzX11_state_X11_noPiece_51 rfl rfl rfl (by decide +kernel) ⟨(Nat.le_of_ble_eq_true rfl), (Nat.le_of_ble_eq_true rfl)⟩) ⟨p_RW_blind, va_recv hK hP (ci := 16) (q0 := 0) rfl rfl, (p_RW_at (tc := []) (wc := [(mo, .inr (16, [.int th, .ref gl, .ref po, .ref pi, .ref bu, .ref pa, .int mt, .int mh, .int 40, .int 0, .null, .int 0, .int 0])), (pi, .inr (4, [.int 0, .ref G.1, .int 0]))]) hP hK hD hS hA hT hZ [0, 1] [] rfl rfl (by decide) rfl [.ref mo, .int ii])⟩ rfl rfl hl.1 rfl (lv_room (Nat.le_of_ble_eq_true rfl)) dX11_state_2 ⟨(Nat.le_of_ble_eq_true rfl), (Nat.le_of_ble_eq_true rfl)⟩) hS (fun q _ h => hFc q h) hFc (fun r_493 u t H locs ht hvm w_494 hB hz1 hk1 hS => ?_)
  obtain ⟨hP, hD, hK⟩ := q_join (D := D) (wc := [(mo, .inr (16, [.int th, .ref gl, .ref po, .ref pi, .ref bu, .ref pa, .int mt, .int mh, .int 40, .int 0, .null, .int 0, .int 0])), (pi, .inr (4, [.int 0, .ref G.1, .int 0]))]) (wr := []) (w1 := [(mo, .inr (16, [.int 1, .ref gl, .ref po, .ref pi, .ref bu, .ref pa, .int mt, .int mh, .int 40, .int 0, .null, .int 0, .int 0])), (pi, .inr (4, [.int 0, .ref G.1, .int 0]))]) (tyr := []) (ty1 := []) hP hD hK [0, 1] [] [] rfl rfl (by decide) (by decide) rfl hFc hk1 ht hvm hB
  have hP : va_P D vwCl [(mo, .inr (16, [.int 1, .ref gl, .ref po, .ref pi, .ref bu, .ref pa, .int mt, .int mh, .int 40, .int 0, .null, .int 0, .int 0])), (pi, .inr (4, [.int 0, .ref G.1, .int 0]))] H := hP
  have hD : va_D A [(mo, .inr (16, [.int 1, .ref gl, .ref po, .ref pi, .ref bu, .ref pa, .int mt, .int mh, .int 40, .int 0, .null, .int 0, .int 0])), (pi, .inr (4, [.int 0, .ref G.1, .int 0]))] := hD
  have hK : va_K D vwCl [] s := hK
  obtain rfl := w_494
  refine lv_if_eq (tgt := 13) hx hb dX11_state_5 (by decide) (fun cc => absurd cc (by decide)) (fun _ => ?_)
  refine lv_bipush (v := 32) hx hb dX11_state_8 (by decide) ?_
  refine lv_goto (tgt := 27) hx hb dX11_state_10 (by decide) ?_
  exact W.zret (v := 32) hx hb hr rfl (fun t ht hW => ⟨⟨32, (), rfl, rfl, q_RW_mk hP hK hD [0, 1] [] rfl rfl (by decide) rfl ht hW.alike⟩, hS.F ht⟩) hS.2.2 dX11_state_27
theorem dX11_time_0 : decode cX11_time 0 = .ok (.aload_n 0, 1) := by decide +kernel
theorem dX11_time_1 : decode cX11_time 1 = .ok (.iconst 0, 1) := by decide +kernel
theorem dX11_time_2 : decode cX11_time 2 = .ok (.putfield 41, 3) := by decide +kernel
theorem dX11_time_5 : decode cX11_time 5 = .ok (.aload_n 0, 1) := by decide +kernel
theorem dX11_time_6 : decode cX11_time 6 = .ok (.getfield 187, 3) := by decide +kernel
theorem dX11_time_9 : decode cX11_time 9 = .ok (.ireturn, 1) := by decide +kernel
def wzEX11_time : List Cond := [.code yX11_time cX11_time 1 (some .int), .fieldLink RX11 41 "GatherhouseModel" "thrown" "I", .fieldLink RX11 187 "GatherhouseModel" "time" "I"]
def wzX11_time : List Cond := wzEX11_time ++ (u_ws RX11 TX11 13)
theorem zgEX11_time : wzEX11_time.all goodWord = true := by decide +kernel
theorem zuX11_time_X11 : ∀ w ∈ u_ws RX11 TX11 13, w ∈ wzX11_time := (fun _ h => (List.mem_append_right _ h))
set_option maxHeartbeats 4000000 in
set_option maxRecDepth 100000 in
theorem zc_X11_time (l : Launch) (D : va_G) (G : Nat × Nat × Nat) (mo : Nat) (gl : Nat) (po : Nat) (pi : Nat) (bu : Nat) (pa : Nat) (th : Int32) (mh : Int32) (mt : Int32) (sz : Nat) : Met l yX11_time wzX11_time ({ frames := 0, cells := 0, slots := 0, locals := 0 }) (va_Pc [.ref mo] (p_RW D G [] [(mo, .inr (16, [.int th, .ref gl, .ref po, .ref pi, .ref bu, .ref pa, .int mt, .int mh, .int 40, .int 0, .null, .int 0, .int 0]))] sz)) (va_Qi (fun (r : Int32) (u : Unit) => r = mt) (fun (u : Unit) (t : State) => q_RW D [] [(mo, .inr (16, [.int 0, .ref gl, .ref po, .ref pi, .ref bu, .ref pa, .int mt, .int mh, .int 40, .int 0, .null, .int 0, .int 0]))] (va_A [(mo, .inr (16, [.int th, .ref gl, .ref po, .ref pi, .ref bu, .ref pa, .int mt, .int mh, .int 40, .int 0, .null, .int 0, .int 0]))] sz) t) (va_A [(mo, .inr (16, [.int th, .ref gl, .ref po, .ref pi, .ref bu, .ref pa, .int mt, .int mh, .int 40, .int 0, .null, .int 0, .int 0]))] sz)) 0 0 (va_A [(mo, .inr (16, [.int th, .ref gl, .ref po, .ref pi, .ref bu, .ref pa, .int mt, .int mh, .int 40, .int 0, .null, .int 0, .int 0]))] sz) := by
  refine Met.ofW (cc := cX11_time) (maxL := 1) (ret := (some .int)) (by decide) rfl ?_
  intro p e s m args below meth c s₁ B hml hv
  obtain ⟨rfl, hsz, hP, hK, hD0, hT, hZ⟩ := hv
  have hx := B.exec
  have hb := B.bytes
  have hr := B.returns
  have hts := atoms_spec (ws := wzX11_time) B.pre
  have hown : s.vm.findClass RX11 = some m.cls := findClass_of_methodNamed B.named
  have hlocks := B.notSynchronized
  subst hsz
  have hD := hD0.self (sz := s.heap.size)
  generalize hAe : va_A [(mo, .inr (16, [.int th, .ref gl, .ref po, .ref pi, .ref bu, .ref pa, .int mt, .int mh, .int 40, .int 0, .null, .int 0, .int 0]))] s.heap.size = A at hD hZ ⊢
  have hA : ∀ q : Nat, s.heap.size ≤ q → A q := fun q h => by rw [← hAe]; exact Or.inr h
  have hS : va_S A s.heap s.heap [] := va_S.rf
  have hl := lv_entry ([.ref mo]) (n := 1) (Nat.le_of_ble_eq_true rfl)
  rw [lg_entry_eq]
  generalize (lg_sl ([.ref mo]) ++ List.replicate (1 - (lg_sl ([.ref mo])).length) Slot.unset).toArray = ls at hl ⊢
  have hl : lv_has ls 1 [(0, .ref mo)] := hl
  refine lv_aload_n hx hb dX11_time_0 rfl (lv_at hl 0 rfl) ?_
  refine lv_iconst (v := 0) hx hb dX11_time_1 (by decide) ?_
  refine va_put (D := D) (cl := vwCl) (ci := 16) (v := .int 0) (ty := .int) (C := RX11) (T := TX11) (N := 13) hx hb hts zuX11_time_X11 tyX11 tyX11_ok nmX11 hown hK hP hD hS 0 rfl rfl 0 (by decide) (hts (.fieldLink RX11 41 "GatherhouseModel" "thrown" "I") (by decide +kernel)) (fun _ h9 => h9) rfl (by decide +kernel) rfl rfl (Nat.le_of_ble_eq_true rfl) dX11_time_2 (fun H locs hP hD hS => ?_)
  have hP : va_P D vwCl [(mo, .inr (16, [.int 0, .ref gl, .ref po, .ref pi, .ref bu, .ref pa, .int mt, .int mh, .int 40, .int 0, .null, .int 0, .int 0]))] H := hP
  have hD : va_D A [(mo, .inr (16, [.int 0, .ref gl, .ref po, .ref pi, .ref bu, .ref pa, .int mt, .int mh, .int 40, .int 0, .null, .int 0, .int 0]))] := hD
  refine lv_aload_n hx hb dX11_time_5 rfl (lv_at hl 0 rfl) ?_
  refine va_get (D := D) (cl := vwCl) (ci := 16) (v := .int mt) (C := RX11) (T := TX11) (N := 13) hx hb hts zuX11_time_X11 hown hK hP 0 rfl rfl 6 (by decide) (hts (.fieldLink RX11 187 "GatherhouseModel" "time" "I") (by decide +kernel)) (fun _ h9 => h9) rfl dX11_time_6 ?_
  exact W.iret (v := mt) hx hb hr (fun t ht hW => ⟨⟨mt, (), rfl, rfl, q_RW_mk hP hK hD [0] [] rfl rfl (by decide) rfl ht hW.alike⟩, hS.F ht⟩) hS.2.2 dX11_time_9
theorem dX11_day_0 : decode cX11_day 0 = .ok (.aload_n 0, 1) := by decide +kernel
theorem dX11_day_1 : decode cX11_day 1 = .ok (.iconst 0, 1) := by decide +kernel
theorem dX11_day_2 : decode cX11_day 2 = .ok (.putfield 41, 3) := by decide +kernel
theorem dX11_day_5 : decode cX11_day 5 = .ok (.aload_n 0, 1) := by decide +kernel
theorem dX11_day_6 : decode cX11_day 6 = .ok (.getfield 140, 3) := by decide +kernel
theorem dX11_day_9 : decode cX11_day 9 = .ok (.bipush 24, 2) := by decide +kernel
theorem dX11_day_11 : decode cX11_day 11 = .ok (.idiv, 1) := by decide +kernel
theorem dX11_day_12 : decode cX11_day 12 = .ok (.ireturn, 1) := by decide +kernel
def wzEX11_day : List Cond := [.code yX11_day cX11_day 1 (some .int), .fieldLink RX11 41 "GatherhouseModel" "thrown" "I", .fieldLink RX11 140 "GatherhouseModel" "hours" "I"]
def wzX11_day : List Cond := wzEX11_day ++ (u_ws RX11 TX11 13)
theorem zgEX11_day : wzEX11_day.all goodWord = true := by decide +kernel
theorem zuX11_day_X11 : ∀ w ∈ u_ws RX11 TX11 13, w ∈ wzX11_day := (fun _ h => (List.mem_append_right _ h))
set_option maxHeartbeats 4000000 in
set_option maxRecDepth 100000 in
theorem zc_X11_day (l : Launch) (D : va_G) (G : Nat × Nat × Nat) (mo : Nat) (gl : Nat) (po : Nat) (pi : Nat) (bu : Nat) (pa : Nat) (th : Int32) (mt : Int32) (sz : Nat) : Met l yX11_day wzX11_day ({ frames := 0, cells := 0, slots := 0, locals := 0 }) (va_Pc [.ref mo] (p_RW D G [] [(mo, .inr (16, [.int th, .ref gl, .ref po, .ref pi, .ref bu, .ref pa, .int mt, .int 0, .int 40, .int 0, .null, .int 0, .int 0]))] sz)) (va_Qi (fun (r : Int32) (u : Unit) => r = 0) (fun (u : Unit) (t : State) => q_RW D [] [(mo, .inr (16, [.int 0, .ref gl, .ref po, .ref pi, .ref bu, .ref pa, .int mt, .int 0, .int 40, .int 0, .null, .int 0, .int 0]))] (va_A [(mo, .inr (16, [.int th, .ref gl, .ref po, .ref pi, .ref bu, .ref pa, .int mt, .int 0, .int 40, .int 0, .null, .int 0, .int 0]))] sz) t) (va_A [(mo, .inr (16, [.int th, .ref gl, .ref po, .ref pi, .ref bu, .ref pa, .int mt, .int 0, .int 40, .int 0, .null, .int 0, .int 0]))] sz)) 0 0 (va_A [(mo, .inr (16, [.int th, .ref gl, .ref po, .ref pi, .ref bu, .ref pa, .int mt, .int 0, .int 40, .int 0, .null, .int 0, .int 0]))] sz) := by
  refine Met.ofW (cc := cX11_day) (maxL := 1) (ret := (some .int)) (by decide) rfl ?_
  intro p e s m args below meth c s₁ B hml hv
  obtain ⟨rfl, hsz, hP, hK, hD0, hT, hZ⟩ := hv
  have hx := B.exec
  have hb := B.bytes
  have hr := B.returns
  have hts := atoms_spec (ws := wzX11_day) B.pre
  have hown : s.vm.findClass RX11 = some m.cls := findClass_of_methodNamed B.named
  have hlocks := B.notSynchronized
  subst hsz
  have hD := hD0.self (sz := s.heap.size)
  generalize hAe : va_A [(mo, .inr (16, [.int th, .ref gl, .ref po, .ref pi, .ref bu, .ref pa, .int mt, .int 0, .int 40, .int 0, .null, .int 0, .int 0]))] s.heap.size = A at hD hZ ⊢
  have hA : ∀ q : Nat, s.heap.size ≤ q → A q := fun q h => by rw [← hAe]; exact Or.inr h
  have hS : va_S A s.heap s.heap [] := va_S.rf
  have hl := lv_entry ([.ref mo]) (n := 1) (Nat.le_of_ble_eq_true rfl)
  rw [lg_entry_eq]
  generalize (lg_sl ([.ref mo]) ++ List.replicate (1 - (lg_sl ([.ref mo])).length) Slot.unset).toArray = ls at hl ⊢
  have hl : lv_has ls 1 [(0, .ref mo)] := hl
  refine lv_aload_n hx hb dX11_day_0 rfl (lv_at hl 0 rfl) ?_
  refine lv_iconst (v := 0) hx hb dX11_day_1 (by decide) ?_
  refine va_put (D := D) (cl := vwCl) (ci := 16) (v := .int 0) (ty := .int) (C := RX11) (T := TX11) (N := 13) hx hb hts zuX11_day_X11 tyX11 tyX11_ok nmX11 hown hK hP hD hS 0 rfl rfl 0 (by decide) (hts (.fieldLink RX11 41 "GatherhouseModel" "thrown" "I") (by decide +kernel)) (fun _ h9 => h9) rfl (by decide +kernel) rfl rfl (Nat.le_of_ble_eq_true rfl) dX11_day_2 (fun H locs hP hD hS => ?_)
  have hP : va_P D vwCl [(mo, .inr (16, [.int 0, .ref gl, .ref po, .ref pi, .ref bu, .ref pa, .int mt, .int 0, .int 40, .int 0, .null, .int 0, .int 0]))] H := hP
  have hD : va_D A [(mo, .inr (16, [.int 0, .ref gl, .ref po, .ref pi, .ref bu, .ref pa, .int mt, .int 0, .int 40, .int 0, .null, .int 0, .int 0]))] := hD
  refine lv_aload_n hx hb dX11_day_5 rfl (lv_at hl 0 rfl) ?_
  refine va_get (D := D) (cl := vwCl) (ci := 16) (v := .int 0) (C := RX11) (T := TX11) (N := 13) hx hb hts zuX11_day_X11 hown hK hP 0 rfl rfl 7 (by decide) (hts (.fieldLink RX11 140 "GatherhouseModel" "hours" "I") (by decide +kernel)) (fun _ h9 => h9) rfl dX11_day_6 ?_
  refine lv_bipush (v := 24) hx hb dX11_day_9 (by decide) ?_
  refine lv_idiv hx hb dX11_day_11 (by decide) ?_
  refine lv_topi (fun y_539 ey_539 => ?_)
  have ey_539 : y_539 = 0 := ey_539.trans (by decide +kernel)
  subst ey_539
  exact W.iret (v := 0) hx hb hr (fun t ht hW => ⟨⟨0, (), rfl, rfl, q_RW_mk hP hK hD [0] [] rfl rfl (by decide) rfl ht hW.alike⟩, hS.F ht⟩) hS.2.2 dX11_day_12
theorem dX11_takings_0 : decode cX11_takings 0 = .ok (.aload_n 0, 1) := by decide +kernel
theorem dX11_takings_1 : decode cX11_takings 1 = .ok (.iconst 0, 1) := by decide +kernel
theorem dX11_takings_2 : decode cX11_takings 2 = .ok (.putfield 41, 3) := by decide +kernel
theorem dX11_takings_5 : decode cX11_takings 5 = .ok (.aload_n 0, 1) := by decide +kernel
theorem dX11_takings_6 : decode cX11_takings 6 = .ok (.getfield 320, 3) := by decide +kernel
theorem dX11_takings_9 : decode cX11_takings 9 = .ok (.ireturn, 1) := by decide +kernel
def wzEX11_takings : List Cond := [.code yX11_takings cX11_takings 1 (some .int), .fieldLink RX11 41 "GatherhouseModel" "thrown" "I", .fieldLink RX11 320 "GatherhouseModel" "takings" "I"]
def wzX11_takings : List Cond := wzEX11_takings ++ (u_ws RX11 TX11 13)
theorem zgEX11_takings : wzEX11_takings.all goodWord = true := by decide +kernel
theorem zuX11_takings_X11 : ∀ w ∈ u_ws RX11 TX11 13, w ∈ wzX11_takings := (fun _ h => (List.mem_append_right _ h))
set_option maxHeartbeats 4000000 in
set_option maxRecDepth 100000 in
theorem zc_X11_takings (l : Launch) (D : va_G) (G : Nat × Nat × Nat) (mo : Nat) (gl : Nat) (po : Nat) (pi : Nat) (bu : Nat) (pa : Nat) (th : Int32) (mh : Int32) (mt : Int32) (sz : Nat) : Met l yX11_takings wzX11_takings ({ frames := 0, cells := 0, slots := 0, locals := 0 }) (va_Pc [.ref mo] (p_RW D G [] [(mo, .inr (16, [.int th, .ref gl, .ref po, .ref pi, .ref bu, .ref pa, .int mt, .int mh, .int 40, .int 0, .null, .int 0, .int 0]))] sz)) (va_Qi (fun (r : Int32) (u : Unit) => r = 0) (fun (u : Unit) (t : State) => q_RW D [] [(mo, .inr (16, [.int 0, .ref gl, .ref po, .ref pi, .ref bu, .ref pa, .int mt, .int mh, .int 40, .int 0, .null, .int 0, .int 0]))] (va_A [(mo, .inr (16, [.int th, .ref gl, .ref po, .ref pi, .ref bu, .ref pa, .int mt, .int mh, .int 40, .int 0, .null, .int 0, .int 0]))] sz) t) (va_A [(mo, .inr (16, [.int th, .ref gl, .ref po, .ref pi, .ref bu, .ref pa, .int mt, .int mh, .int 40, .int 0, .null, .int 0, .int 0]))] sz)) 0 0 (va_A [(mo, .inr (16, [.int th, .ref gl, .ref po, .ref pi, .ref bu, .ref pa, .int mt, .int mh, .int 40, .int 0, .null, .int 0, .int 0]))] sz) := by
  refine Met.ofW (cc := cX11_takings) (maxL := 1) (ret := (some .int)) (by decide) rfl ?_
  intro p e s m args below meth c s₁ B hml hv
  obtain ⟨rfl, hsz, hP, hK, hD0, hT, hZ⟩ := hv
  have hx := B.exec
  have hb := B.bytes
  have hr := B.returns
  have hts := atoms_spec (ws := wzX11_takings) B.pre
  have hown : s.vm.findClass RX11 = some m.cls := findClass_of_methodNamed B.named
  have hlocks := B.notSynchronized
  subst hsz
  have hD := hD0.self (sz := s.heap.size)
  generalize hAe : va_A [(mo, .inr (16, [.int th, .ref gl, .ref po, .ref pi, .ref bu, .ref pa, .int mt, .int mh, .int 40, .int 0, .null, .int 0, .int 0]))] s.heap.size = A at hD hZ ⊢
  have hA : ∀ q : Nat, s.heap.size ≤ q → A q := fun q h => by rw [← hAe]; exact Or.inr h
  have hS : va_S A s.heap s.heap [] := va_S.rf
  have hl := lv_entry ([.ref mo]) (n := 1) (Nat.le_of_ble_eq_true rfl)
  rw [lg_entry_eq]
  generalize (lg_sl ([.ref mo]) ++ List.replicate (1 - (lg_sl ([.ref mo])).length) Slot.unset).toArray = ls at hl ⊢
  have hl : lv_has ls 1 [(0, .ref mo)] := hl
  refine lv_aload_n hx hb dX11_takings_0 rfl (lv_at hl 0 rfl) ?_
  refine lv_iconst (v := 0) hx hb dX11_takings_1 (by decide) ?_
  refine va_put (D := D) (cl := vwCl) (ci := 16) (v := .int 0) (ty := .int) (C := RX11) (T := TX11) (N := 13) hx hb hts zuX11_takings_X11 tyX11 tyX11_ok nmX11 hown hK hP hD hS 0 rfl rfl 0 (by decide) (hts (.fieldLink RX11 41 "GatherhouseModel" "thrown" "I") (by decide +kernel)) (fun _ h9 => h9) rfl (by decide +kernel) rfl rfl (Nat.le_of_ble_eq_true rfl) dX11_takings_2 (fun H locs hP hD hS => ?_)
  have hP : va_P D vwCl [(mo, .inr (16, [.int 0, .ref gl, .ref po, .ref pi, .ref bu, .ref pa, .int mt, .int mh, .int 40, .int 0, .null, .int 0, .int 0]))] H := hP
  have hD : va_D A [(mo, .inr (16, [.int 0, .ref gl, .ref po, .ref pi, .ref bu, .ref pa, .int mt, .int mh, .int 40, .int 0, .null, .int 0, .int 0]))] := hD
  refine lv_aload_n hx hb dX11_takings_5 rfl (lv_at hl 0 rfl) ?_
  refine va_get (D := D) (cl := vwCl) (ci := 16) (v := .int 0) (C := RX11) (T := TX11) (N := 13) hx hb hts zuX11_takings_X11 hown hK hP 0 rfl rfl 9 (by decide) (hts (.fieldLink RX11 320 "GatherhouseModel" "takings" "I") (by decide +kernel)) (fun _ h9 => h9) rfl dX11_takings_6 ?_
  exact W.iret (v := 0) hx hb hr (fun t ht hW => ⟨⟨0, (), rfl, rfl, q_RW_mk hP hK hD [0] [] rfl rfl (by decide) rfl ht hW.alike⟩, hS.F ht⟩) hS.2.2 dX11_takings_9
theorem dX11_isSound_0 : decode cX11_isSound 0 = .ok (.aload_n 0, 1) := by decide +kernel
theorem dX11_isSound_1 : decode cX11_isSound 1 = .ok (.iconst 0, 1) := by decide +kernel
theorem dX11_isSound_2 : decode cX11_isSound 2 = .ok (.putfield 41, 3) := by decide +kernel
theorem dX11_isSound_5 : decode cX11_isSound 5 = .ok (.iconst 1, 1) := by decide +kernel
theorem dX11_isSound_6 : decode cX11_isSound 6 = .ok (.ireturn, 1) := by decide +kernel
def wzEX11_isSound : List Cond := [.code yX11_isSound cX11_isSound 1 (some .boolean), .fieldLink RX11 41 "GatherhouseModel" "thrown" "I"]
def wzX11_isSound : List Cond := wzEX11_isSound ++ (u_ws RX11 TX11 13)
theorem zgEX11_isSound : wzEX11_isSound.all goodWord = true := by decide +kernel
theorem zuX11_isSound_X11 : ∀ w ∈ u_ws RX11 TX11 13, w ∈ wzX11_isSound := (fun _ h => (List.mem_append_right _ h))
set_option maxHeartbeats 4000000 in
set_option maxRecDepth 100000 in
theorem zc_X11_isSound (l : Launch) (D : va_G) (G : Nat × Nat × Nat) (mo : Nat) (gl : Nat) (po : Nat) (pi : Nat) (bu : Nat) (pa : Nat) (th : Int32) (mh : Int32) (mt : Int32) (sz : Nat) : Met l yX11_isSound wzX11_isSound ({ frames := 0, cells := 0, slots := 0, locals := 0 }) (va_Pc [.ref mo] (p_RW D G [] [(mo, .inr (16, [.int th, .ref gl, .ref po, .ref pi, .ref bu, .ref pa, .int mt, .int mh, .int 40, .int 0, .null, .int 0, .int 0]))] sz)) (va_Qi (fun (r : Int32) (u : Unit) => r = 1) (fun (u : Unit) (t : State) => q_RW D [] [(mo, .inr (16, [.int 0, .ref gl, .ref po, .ref pi, .ref bu, .ref pa, .int mt, .int mh, .int 40, .int 0, .null, .int 0, .int 0]))] (va_A [(mo, .inr (16, [.int th, .ref gl, .ref po, .ref pi, .ref bu, .ref pa, .int mt, .int mh, .int 40, .int 0, .null, .int 0, .int 0]))] sz) t) (va_A [(mo, .inr (16, [.int th, .ref gl, .ref po, .ref pi, .ref bu, .ref pa, .int mt, .int mh, .int 40, .int 0, .null, .int 0, .int 0]))] sz)) 0 0 (va_A [(mo, .inr (16, [.int th, .ref gl, .ref po, .ref pi, .ref bu, .ref pa, .int mt, .int mh, .int 40, .int 0, .null, .int 0, .int 0]))] sz) := by
  refine Met.ofW (cc := cX11_isSound) (maxL := 1) (ret := (some .boolean)) (by decide) rfl ?_
  intro p e s m args below meth c s₁ B hml hv
  obtain ⟨rfl, hsz, hP, hK, hD0, hT, hZ⟩ := hv
  have hx := B.exec
  have hb := B.bytes
  have hr := B.returns
  have hts := atoms_spec (ws := wzX11_isSound) B.pre
  have hown : s.vm.findClass RX11 = some m.cls := findClass_of_methodNamed B.named
  have hlocks := B.notSynchronized
  subst hsz
  have hD := hD0.self (sz := s.heap.size)
  generalize hAe : va_A [(mo, .inr (16, [.int th, .ref gl, .ref po, .ref pi, .ref bu, .ref pa, .int mt, .int mh, .int 40, .int 0, .null, .int 0, .int 0]))] s.heap.size = A at hD hZ ⊢
  have hA : ∀ q : Nat, s.heap.size ≤ q → A q := fun q h => by rw [← hAe]; exact Or.inr h
  have hS : va_S A s.heap s.heap [] := va_S.rf
  have hl := lv_entry ([.ref mo]) (n := 1) (Nat.le_of_ble_eq_true rfl)
  rw [lg_entry_eq]
  generalize (lg_sl ([.ref mo]) ++ List.replicate (1 - (lg_sl ([.ref mo])).length) Slot.unset).toArray = ls at hl ⊢
  have hl : lv_has ls 1 [(0, .ref mo)] := hl
  refine lv_aload_n hx hb dX11_isSound_0 rfl (lv_at hl 0 rfl) ?_
  refine lv_iconst (v := 0) hx hb dX11_isSound_1 (by decide) ?_
  refine va_put (D := D) (cl := vwCl) (ci := 16) (v := .int 0) (ty := .int) (C := RX11) (T := TX11) (N := 13) hx hb hts zuX11_isSound_X11 tyX11 tyX11_ok nmX11 hown hK hP hD hS 0 rfl rfl 0 (by decide) (hts (.fieldLink RX11 41 "GatherhouseModel" "thrown" "I") (by decide +kernel)) (fun _ h9 => h9) rfl (by decide +kernel) rfl rfl (Nat.le_of_ble_eq_true rfl) dX11_isSound_2 (fun H locs hP hD hS => ?_)
  have hP : va_P D vwCl [(mo, .inr (16, [.int 0, .ref gl, .ref po, .ref pi, .ref bu, .ref pa, .int mt, .int mh, .int 40, .int 0, .null, .int 0, .int 0]))] H := hP
  have hD : va_D A [(mo, .inr (16, [.int 0, .ref gl, .ref po, .ref pi, .ref bu, .ref pa, .int mt, .int mh, .int 40, .int 0, .null, .int 0, .int 0]))] := hD
  refine lv_iconst (v := 1) hx hb dX11_isSound_5 (by decide) ?_
  exact W.zret (v := 1) hx hb hr rfl (fun t ht hW => ⟨⟨1, (), rfl, rfl, q_RW_mk hP hK hD [0] [] rfl rfl (by decide) rfl ht hW.alike⟩, hS.F ht⟩) hS.2.2 dX11_isSound_6
theorem dX11_lehr_0 : decode cX11_lehr 0 = .ok (.aload_n 0, 1) := by decide +kernel
theorem dX11_lehr_1 : decode cX11_lehr 1 = .ok (.iconst 0, 1) := by decide +kernel
theorem dX11_lehr_2 : decode cX11_lehr 2 = .ok (.putfield 41, 3) := by decide +kernel
theorem dX11_lehr_5 : decode cX11_lehr 5 = .ok (.aload_n 0, 1) := by decide +kernel
theorem dX11_lehr_6 : decode cX11_lehr 6 = .ok (.invokevirtual 271, 3) := by decide +kernel
theorem dX11_lehr_9 : decode cX11_lehr 9 = .ok (.ireturn, 1) := by decide +kernel
def wzEX11_lehr : List Cond := [.code yX11_lehr cX11_lehr 1 (some .int), .fieldLink RX11 41 "GatherhouseModel" "thrown" "I", .methodLink RX11 271 yX11_inLehr, .instanceMethod yX11_inLehr, .selects RX11 yX11_inLehr yX11_inLehr, .initialized RX11, .code yX11_inLehr cX11_inLehr 4 (some .int), .fieldLink RX11 19 "GatherhouseModel" "pieces" "Ljava/util/ArrayList;", .methodLink RX11 106 yJx4a65c_iterator_32c93, .instanceMethod yJx4a65c_iterator_32c93, .selects RJx4a65c yJx4a65c_iterator_32c93 yJx4a65c_iterator_32c93, .initialized RJx4a65c, .code yJx4a65c_iterator_32c93 cJx4a65c_iterator_32c93 1 (some (.object "java/util/Iterator")), .classLink RJx4a65c 267 RJx35411, .instantiable RJx35411 4, .initialized RJx35411, .code yJx35411_init_45d68 cJx35411_init_45d68 2 none, .fieldLink RJx35411 1 "java/util/ArrayList$Itr" "this$0" "Ljava/util/ArrayList;", .methodLink RJx35411 7 objectInit, .instanceMethod objectInit, .code objectInit ⟨#[0xb1]⟩ 1 none, .fieldLink RJx35411 13 "java/util/ArrayList$Itr" "lastRet" "I", .sameField "java/util/ArrayList" "java/util/AbstractList" "modCount" "I", .fieldLink RJx35411 17 "java/util/ArrayList" "modCount" "I", .fieldLink RJx35411 22 "java/util/ArrayList$Itr" "expectedModCount" "I", .instanceMethod yJx35411_init_45d68, .methodLink RJx4a65c 269 yJx35411_init_45d68, .methodLink RX11 110 ⟨"java/util/Iterator", "hasNext", "()Z"⟩, .selects RJx35411 ⟨"java/util/Iterator", "hasNext", "()Z"⟩ yJx35411_hasNext_aae02, .instanceMethod yJx35411_hasNext_aae02, .code yJx35411_hasNext_aae02 cJx35411_hasNext_aae02 1 (some .boolean), .fieldLink RJx35411 25 "java/util/ArrayList$Itr" "cursor" "I"]
def wzX11_lehr : List Cond := wzEX11_lehr ++ (u_ws RX11 TX11 13 ++ (u_ws RJx35411 TJx35411 4 ++ (u_ws RJx4a65c TJx4a65c 3)))
theorem zgEX11_lehr : wzEX11_lehr.all goodWord = true := by decide +kernel
theorem zuX11_lehr_X11 : ∀ w ∈ u_ws RX11 TX11 13, w ∈ wzX11_lehr := (fun _ h => (List.mem_append_right _ (List.mem_append_left _ h)))
theorem zuX11_lehr_Jx35411 : ∀ w ∈ u_ws RJx35411 TJx35411 4, w ∈ wzX11_lehr := (fun _ h => (List.mem_append_right _ (List.mem_append_right _ (List.mem_append_left _ h))))
theorem zuX11_lehr_Jx4a65c : ∀ w ∈ u_ws RJx4a65c TJx4a65c 3, w ∈ wzX11_lehr := (fun _ h => (List.mem_append_right _ (List.mem_append_right _ (List.mem_append_right _ h))))
theorem gzX11_lehr_X11_inLehr_271 : GoodIn wzX11_lehr (wsV RX11 271 RX11 yX11_inLehr wzX11_inLehr) := (goodIn_app (z_lift (goodIn_r _ [2, 3, 4, 5] rfl (by decide +kernel))) (goodIn_app (z_lift (goodIn_r wzEX11_inLehr [6, 7, 8, 9, 10, 11, 12, 13, 14, 15, 16, 17, 18, 19, 20, 21, 22, 23, 24, 25, 26, 27, 28, 29, 30, 31] rfl zgEX11_inLehr)) (goodIn_app (goodIn_sub (fun _ h => (List.mem_append_right _ (List.mem_append_left _ h))) zgU_X11) (goodIn_app (goodIn_sub (fun _ h => (List.mem_append_right _ (List.mem_append_right _ (List.mem_append_left _ h)))) zgU_Jx35411) (goodIn_sub (fun _ h => (List.mem_append_right _ (List.mem_append_right _ (List.mem_append_right _ h)))) zgU_Jx4a65c)))))
set_option maxHeartbeats 4000000 in
set_option maxRecDepth 100000 in
theorem zc_X11_lehr (l : Launch) (D : va_G) (G : Nat × Nat × Nat) (mo : Nat) (gl : Nat) (po : Nat) (pi : Nat) (bu : Nat) (pa : Nat) (th : Int32) (mh : Int32) (mt : Int32) (sz : Nat) : Met l yX11_lehr wzX11_lehr ({ frames := 4, cells := 1, slots := 4, locals := 76 }) (va_Pc [.ref mo] (p_RW D G [] [(mo, .inr (16, [.int th, .ref gl, .ref po, .ref pi, .ref bu, .ref pa, .int mt, .int mh, .int 40, .int 0, .null, .int 0, .int 0])), (pi, .inr (4, [.int 0, .ref G.1, .int 0]))] sz)) (va_Qi (fun (r : Int32) (u : Unit) => r = 0) (fun (u : Unit) (t : State) => q_RW D [] [(mo, .inr (16, [.int 0, .ref gl, .ref po, .ref pi, .ref bu, .ref pa, .int mt, .int mh, .int 40, .int 0, .null, .int 0, .int 0])), (pi, .inr (4, [.int 0, .ref G.1, .int 0]))] (va_A [(mo, .inr (16, [.int th, .ref gl, .ref po, .ref pi, .ref bu, .ref pa, .int mt, .int mh, .int 40, .int 0, .null, .int 0, .int 0])), (pi, .inr (4, [.int 0, .ref G.1, .int 0]))] sz) t) (va_A [(mo, .inr (16, [.int th, .ref gl, .ref po, .ref pi, .ref bu, .ref pa, .int mt, .int mh, .int 40, .int 0, .null, .int 0, .int 0])), (pi, .inr (4, [.int 0, .ref G.1, .int 0]))] sz)) 1 4 (va_A [(mo, .inr (16, [.int th, .ref gl, .ref po, .ref pi, .ref bu, .ref pa, .int mt, .int mh, .int 40, .int 0, .null, .int 0, .int 0])), (pi, .inr (4, [.int 0, .ref G.1, .int 0]))] sz) := by
  refine Met.ofW (cc := cX11_lehr) (maxL := 1) (ret := (some .int)) (by decide) rfl ?_
  intro p e s m args below meth c s₁ B hml hv
  obtain ⟨rfl, hsz, hP, hK, hD0, hT, hZ⟩ := hv
  have hx := B.exec
  have hb := B.bytes
  have hr := B.returns
  have hts := atoms_spec (ws := wzX11_lehr) B.pre
  have hown : s.vm.findClass RX11 = some m.cls := findClass_of_methodNamed B.named
  have hlocks := B.notSynchronized
  subst hsz
  have hD := hD0.self (sz := s.heap.size)
  generalize hAe : va_A [(mo, .inr (16, [.int th, .ref gl, .ref po, .ref pi, .ref bu, .ref pa, .int mt, .int mh, .int 40, .int 0, .null, .int 0, .int 0])), (pi, .inr (4, [.int 0, .ref G.1, .int 0]))] s.heap.size = A at hD hZ ⊢
  have hA : ∀ q : Nat, s.heap.size ≤ q → A q := fun q h => by rw [← hAe]; exact Or.inr h
  have hS : va_S A s.heap s.heap [] := va_S.rf
  have hl := lv_entry ([.ref mo]) (n := 1) (Nat.le_of_ble_eq_true rfl)
  rw [lg_entry_eq]
  generalize (lg_sl ([.ref mo]) ++ List.replicate (1 - (lg_sl ([.ref mo])).length) Slot.unset).toArray = ls at hl ⊢
  have hl : lv_has ls 1 [(0, .ref mo)] := hl
  refine lv_aload_n hx hb dX11_lehr_0 rfl (lv_at hl 0 rfl) ?_
  refine lv_iconst (v := 0) hx hb dX11_lehr_1 (by decide) ?_
  refine va_put (D := D) (cl := vwCl) (ci := 16) (v := .int 0) (ty := .int) (C := RX11) (T := TX11) (N := 13) hx hb hts zuX11_lehr_X11 tyX11 tyX11_ok nmX11 hown hK hP hD hS 0 rfl rfl 0 (by decide) (hts (.fieldLink RX11 41 "GatherhouseModel" "thrown" "I") (by decide +kernel)) (fun _ h9 => h9) rfl (by decide +kernel) rfl rfl (Nat.le_of_ble_eq_true rfl) dX11_lehr_2 (fun H locs hP hD hS => ?_)
  have hP : va_P D vwCl [(mo, .inr (16, [.int 0, .ref gl, .ref po, .ref pi, .ref bu, .ref pa, .int mt, .int mh, .int 40, .int 0, .null, .int 0, .int 0])), (pi, .inr (4, [.int 0, .ref G.1, .int 0]))] H := hP
  have hD : va_D A [(mo, .inr (16, [.int 0, .ref gl, .ref po, .ref pi, .ref bu, .ref pa, .int mt, .int mh, .int 40, .int 0, .null, .int 0, .int 0])), (pi, .inr (4, [.int 0, .ref G.1, .int 0]))] := hD
  refine lv_aload_n hx hb dX11_lehr_5 rfl (lv_at hl 0 rfl) ?_
  have hFc := va_free (wc := [(mo, .inr (16, [.int 0, .ref gl, .ref po, .ref pi, .ref bu, .ref pa, .int mt, .int mh, .int 40, .int 0, .null, .int 0, .int 0])), (pi, .inr (4, [.int 0, .ref G.1, .int 0]))]) hD hS hA [0, 1] rfl
  refine va_calli (va_runV (As := []) (rest := []) ⟨hx, hb, hml, hown, hts⟩ (zc_X11_inLehr l D G mo gl po pi bu pa 0 mh mt H.size) (cwV 0 hts gzX11_lehr_X11_inLehr_271 rfl rfl rfl (by decide +kernel) ⟨(Nat.le_of_ble_eq_true rfl), (Nat.le_of_ble_eq_true rfl)⟩) ⟨p_RW_blind, va_recv hK hP (ci := 16) (q0 := 0) rfl rfl, (p_RW_at (tc := []) (wc := [(mo, .inr (16, [.int 0, .ref gl, .ref po, .ref pi, .ref bu, .ref pa, .int mt, .int mh, .int 40, .int 0, .null, .int 0, .int 0])), (pi, .inr (4, [.int 0, .ref G.1, .int 0]))]) hP hK hD hS hA hT hZ [0, 1] [] rfl rfl (by decide) rfl [.ref mo])⟩ rfl rfl hl.1 rfl (lv_room (Nat.le_of_ble_eq_true rfl)) dX11_lehr_6 ⟨(Nat.le_of_ble_eq_true rfl), (Nat.le_of_ble_eq_true rfl)⟩) hS (fun q _ h => hFc q h) hFc (fun r_540 u t H locs ht hvm w_541 hB hz1 hk1 hS => ?_)
  obtain ⟨hP, hD, hK⟩ := q_join (D := D) (wc := [(mo, .inr (16, [.int 0, .ref gl, .ref po, .ref pi, .ref bu, .ref pa, .int mt, .int mh, .int 40, .int 0, .null, .int 0, .int 0])), (pi, .inr (4, [.int 0, .ref G.1, .int 0]))]) (wr := []) (w1 := [(mo, .inr (16, [.int 0, .ref gl, .ref po, .ref pi, .ref bu, .ref pa, .int mt, .int mh, .int 40, .int 0, .null, .int 0, .int 0])), (pi, .inr (4, [.int 0, .ref G.1, .int 0]))]) (tyr := []) (ty1 := []) hP hD hK [0, 1] [] [] rfl rfl (by decide) (by decide) rfl hFc hk1 ht hvm hB
  have hP : va_P D vwCl [(mo, .inr (16, [.int 0, .ref gl, .ref po, .ref pi, .ref bu, .ref pa, .int mt, .int mh, .int 40, .int 0, .null, .int 0, .int 0])), (pi, .inr (4, [.int 0, .ref G.1, .int 0]))] H := hP
  have hD : va_D A [(mo, .inr (16, [.int 0, .ref gl, .ref po, .ref pi, .ref bu, .ref pa, .int mt, .int mh, .int 40, .int 0, .null, .int 0, .int 0])), (pi, .inr (4, [.int 0, .ref G.1, .int 0]))] := hD
  have hK : va_K D vwCl [] s := hK
  refine W.widen (k := 1) (n := 4) (Nat.le_of_ble_eq_true rfl) (Nat.le_of_ble_eq_true rfl) ?_
  obtain rfl := w_541
  exact W.iret (v := 0) hx hb hr (fun t ht hW => ⟨⟨0, (), rfl, rfl, q_RW_mk hP hK hD [0, 1] [] rfl rfl (by decide) rfl ht hW.alike⟩, hS.F ht⟩) hS.2.2 dX11_lehr_9
theorem dX11_checksum_0 : decode cX11_checksum 0 = .ok (.aload_n 0, 1) := by decide +kernel
theorem dX11_checksum_1 : decode cX11_checksum 1 = .ok (.iconst 0, 1) := by decide +kernel
theorem dX11_checksum_2 : decode cX11_checksum 2 = .ok (.putfield 41, 3) := by decide +kernel
theorem dX11_checksum_5 : decode cX11_checksum 5 = .ok (.ldc2_w 323, 3) := by decide +kernel
theorem dX11_checksum_8 : decode cX11_checksum 8 = .ok (.lstore_n 1, 1) := by decide +kernel
theorem dX11_checksum_9 : decode cX11_checksum 9 = .ok (.aload_n 0, 1) := by decide +kernel
theorem dX11_checksum_10 : decode cX11_checksum 10 = .ok (.getfield 19, 3) := by decide +kernel
theorem dX11_checksum_13 : decode cX11_checksum 13 = .ok (.invokevirtual 106, 3) := by decide +kernel
theorem dX11_checksum_16 : decode cX11_checksum 16 = .ok (.astore_n 3, 1) := by decide +kernel
theorem dX11_checksum_17 : decode cX11_checksum 17 = .ok (.aload_n 3, 1) := by decide +kernel
theorem dX11_checksum_18 : decode cX11_checksum 18 = .ok (.invokeinterface 110 1, 5) := by decide +kernel
theorem dX11_checksum_23 : decode cX11_checksum 23 = .ok (.ifCond .eq 56, 3) := by decide +kernel
theorem dX11_checksum_79 : decode cX11_checksum 79 = .ok (.lload_n 1, 1) := by decide +kernel
theorem dX11_checksum_80 : decode cX11_checksum 80 = .ok (.lreturn, 1) := by decide +kernel
def wzEX11_checksum : List Cond := [.code yX11_checksum cX11_checksum 5 (some .long), .fieldLink RX11 41 "GatherhouseModel" "thrown" "I", .constantLong RX11 323 (7), .fieldLink RX11 19 "GatherhouseModel" "pieces" "Ljava/util/ArrayList;", .methodLink RX11 106 yJx4a65c_iterator_32c93, .instanceMethod yJx4a65c_iterator_32c93, .selects RJx4a65c yJx4a65c_iterator_32c93 yJx4a65c_iterator_32c93, .initialized RJx4a65c, .code yJx4a65c_iterator_32c93 cJx4a65c_iterator_32c93 1 (some (.object "java/util/Iterator")), .classLink RJx4a65c 267 RJx35411, .instantiable RJx35411 4, .initialized RJx35411, .code yJx35411_init_45d68 cJx35411_init_45d68 2 none, .fieldLink RJx35411 1 "java/util/ArrayList$Itr" "this$0" "Ljava/util/ArrayList;", .methodLink RJx35411 7 objectInit, .instanceMethod objectInit, .code objectInit ⟨#[0xb1]⟩ 1 none, .fieldLink RJx35411 13 "java/util/ArrayList$Itr" "lastRet" "I", .sameField "java/util/ArrayList" "java/util/AbstractList" "modCount" "I", .fieldLink RJx35411 17 "java/util/ArrayList" "modCount" "I", .fieldLink RJx35411 22 "java/util/ArrayList$Itr" "expectedModCount" "I", .instanceMethod yJx35411_init_45d68, .methodLink RJx4a65c 269 yJx35411_init_45d68, .methodLink RX11 110 ⟨"java/util/Iterator", "hasNext", "()Z"⟩, .selects RJx35411 ⟨"java/util/Iterator", "hasNext", "()Z"⟩ yJx35411_hasNext_aae02, .instanceMethod yJx35411_hasNext_aae02, .code yJx35411_hasNext_aae02 cJx35411_hasNext_aae02 1 (some .boolean), .fieldLink RJx35411 25 "java/util/ArrayList$Itr" "cursor" "I"]
def wzX11_checksum : List Cond := wzEX11_checksum ++ (u_ws RX11 TX11 13 ++ (u_ws RJx35411 TJx35411 4 ++ (u_ws RJx4a65c TJx4a65c 3)))
theorem zgEX11_checksum : wzEX11_checksum.all goodWord = true := by decide +kernel
theorem zuX11_checksum_X11 : ∀ w ∈ u_ws RX11 TX11 13, w ∈ wzX11_checksum := (fun _ h => (List.mem_append_right _ (List.mem_append_left _ h)))
theorem zuX11_checksum_Jx35411 : ∀ w ∈ u_ws RJx35411 TJx35411 4, w ∈ wzX11_checksum := (fun _ h => (List.mem_append_right _ (List.mem_append_right _ (List.mem_append_left _ h))))
theorem zuX11_checksum_Jx4a65c : ∀ w ∈ u_ws RJx4a65c TJx4a65c 3, w ∈ wzX11_checksum := (fun _ h => (List.mem_append_right _ (List.mem_append_right _ (List.mem_append_right _ h))))
theorem gzX11_checksum_Jx4a65c_iterator_32c93_106 : GoodIn wzX11_checksum (wsV RX11 106 RJx4a65c yJx4a65c_iterator_32c93 wzJx4a65c_iterator_32c93) := (goodIn_app (z_lift (goodIn_r _ [4, 5, 6, 7] rfl (by decide +kernel))) (goodIn_app (z_lift (goodIn_r wzEJx4a65c_iterator_32c93 [8, 9, 10, 11, 12, 13, 14, 15, 16, 17, 18, 19, 20, 21, 22] rfl zgEJx4a65c_iterator_32c93)) (goodIn_app (goodIn_sub (fun _ h => (List.mem_append_right _ (List.mem_append_right _ (List.mem_append_left _ h)))) zgU_Jx35411) (goodIn_sub (fun _ h => (List.mem_append_right _ (List.mem_append_right _ (List.mem_append_right _ h)))) zgU_Jx4a65c))))
theorem gzX11_checksum_Jx35411_hasNext_aae02_110 : GoodIn wzX11_checksum (va_wsF RX11 110 RJx35411 ⟨"java/util/Iterator", "hasNext", "()Z"⟩ yJx35411_hasNext_aae02 wzJx35411_hasNext_aae02) := (goodIn_app (z_lift (goodIn_r _ [23, 24, 25, 11] rfl (by decide +kernel))) (goodIn_app (z_lift (goodIn_r wzEJx35411_hasNext_aae02 [26, 27, 13] rfl zgEJx35411_hasNext_aae02)) (goodIn_app (goodIn_sub (fun _ h => (List.mem_append_right _ (List.mem_append_right _ (List.mem_append_left _ h)))) zgU_Jx35411) (goodIn_sub (fun _ h => (List.mem_append_right _ (List.mem_append_right _ (List.mem_append_right _ h)))) zgU_Jx4a65c))))
set_option maxHeartbeats 4000000 in
set_option maxRecDepth 100000 in
theorem zc_X11_checksum (l : Launch) (D : va_G) (G : Nat × Nat × Nat) (mo : Nat) (gl : Nat) (po : Nat) (pi : Nat) (bu : Nat) (pa : Nat) (th : Int32) (mh : Int32) (mt : Int32) (sz : Nat) : Met l yX11_checksum wzX11_checksum ({ frames := 3, cells := 1, slots := 4, locals := 53 }) (va_Pc [.ref mo] (p_RW D G [] [(mo, .inr (16, [.int th, .ref gl, .ref po, .ref pi, .ref bu, .ref pa, .int mt, .int mh, .int 40, .int 0, .null, .int 0, .int 0])), (pi, .inr (4, [.int 0, .ref G.1, .int 0]))] sz)) (va_Ql (fun (r : Int64) (u : Unit) => r = 7) (fun (u : Unit) (t : State) => q_RW D [] [(mo, .inr (16, [.int 0, .ref gl, .ref po, .ref pi, .ref bu, .ref pa, .int mt, .int mh, .int 40, .int 0, .null, .int 0, .int 0])), (pi, .inr (4, [.int 0, .ref G.1, .int 0]))] (va_A [(mo, .inr (16, [.int th, .ref gl, .ref po, .ref pi, .ref bu, .ref pa, .int mt, .int mh, .int 40, .int 0, .null, .int 0, .int 0])), (pi, .inr (4, [.int 0, .ref G.1, .int 0]))] sz) t) (va_A [(mo, .inr (16, [.int th, .ref gl, .ref po, .ref pi, .ref bu, .ref pa, .int mt, .int mh, .int 40, .int 0, .null, .int 0, .int 0])), (pi, .inr (4, [.int 0, .ref G.1, .int 0]))] sz)) 1 4 (va_A [(mo, .inr (16, [.int th, .ref gl, .ref po, .ref pi, .ref bu, .ref pa, .int mt, .int mh, .int 40, .int 0, .null, .int 0, .int 0])), (pi, .inr (4, [.int 0, .ref G.1, .int 0]))] sz) := by
  refine Met.ofW (cc := cX11_checksum) (maxL := 5) (ret := (some .long)) (by decide) rfl ?_
  intro p e s m args below meth c s₁ B hml hv
  obtain ⟨rfl, hsz, hP, hK, hD0, hT, hZ⟩ := hv
  have hx := B.exec
  have hb := B.bytes
  have hr := B.returns
  have hts := atoms_spec (ws := wzX11_checksum) B.pre
  have hown : s.vm.findClass RX11 = some m.cls := findClass_of_methodNamed B.named
  have hlocks := B.notSynchronized
  subst hsz
  have hD := hD0.self (sz := s.heap.size)
  generalize hAe : va_A [(mo, .inr (16, [.int th, .ref gl, .ref po, .ref pi, .ref bu, .ref pa, .int mt, .int mh, .int 40, .int 0, .null, .int 0, .int 0])), (pi, .inr (4, [.int 0, .ref G.1, .int 0]))] s.heap.size = A at hD hZ ⊢
  have hA : ∀ q : Nat, s.heap.size ≤ q → A q := fun q h => by rw [← hAe]; exact Or.inr h
  have hS : va_S A s.heap s.heap [] := va_S.rf
  have hl := lv_entry ([.ref mo]) (n := 5) (Nat.le_of_ble_eq_true rfl)
  rw [lg_entry_eq]
  generalize (lg_sl ([.ref mo]) ++ List.replicate (5 - (lg_sl ([.ref mo])).length) Slot.unset).toArray = ls at hl ⊢
  have hl : lv_has ls 5 [(0, .ref mo)] := hl
  refine lv_aload_n hx hb dX11_checksum_0 rfl (lv_at hl 0 rfl) ?_
  refine lv_iconst (v := 0) hx hb dX11_checksum_1 (by decide) ?_
  refine va_put (D := D) (cl := vwCl) (ci := 16) (v := .int 0) (ty := .int) (C := RX11) (T := TX11) (N := 13) hx hb hts zuX11_checksum_X11 tyX11 tyX11_ok nmX11 hown hK hP hD hS 0 rfl rfl 0 (by decide) (hts (.fieldLink RX11 41 "GatherhouseModel" "thrown" "I") (by decide +kernel)) (fun _ h9 => h9) rfl (by decide +kernel) rfl rfl (Nat.le_of_ble_eq_true rfl) dX11_checksum_2 (fun H locs hP hD hS => ?_)
  have hP : va_P D vwCl [(mo, .inr (16, [.int 0, .ref gl, .ref po, .ref pi, .ref bu, .ref pa, .int mt, .int mh, .int 40, .int 0, .null, .int 0, .int 0])), (pi, .inr (4, [.int 0, .ref G.1, .int 0]))] H := hP
  have hD : va_D A [(mo, .inr (16, [.int 0, .ref gl, .ref po, .ref pi, .ref bu, .ref pa, .int mt, .int mh, .int 40, .int 0, .null, .int 0, .int 0])), (pi, .inr (4, [.int 0, .ref G.1, .int 0]))] := hD
  refine lv_ldc2 (v := 7) hx hb hown (hts (.constantLong RX11 323 (7)) (by decide +kernel)) dX11_checksum_5 ?_
  refine lv_lstore_n (lv' := [(1, .long 7), (0, .ref mo)]) hx hb dX11_checksum_8 rfl hl (by decide) rfl (fun ls hl => ?_)
  refine lv_aload_n hx hb dX11_checksum_9 rfl (lv_at hl 1 rfl) ?_
  refine va_get (D := D) (cl := vwCl) (ci := 16) (v := .ref pi) (C := RX11) (T := TX11) (N := 13) hx hb hts zuX11_checksum_X11 hown hK hP 0 rfl rfl 3 (by decide) (hts (.fieldLink RX11 19 "GatherhouseModel" "pieces" "Ljava/util/ArrayList;") (by decide +kernel)) (fun _ h9 => h9) rfl dX11_checksum_10 ?_
  have hFc := va_free (wc := [(pi, .inr (4, [.int 0, .ref G.1, .int 0]))]) hD hS hA [1] rfl
  refine va_callr (va_runV (As := []) (rest := []) ⟨hx, hb, hml, hown, hts⟩ (zc_Jx4a65c_iterator_32c93 l D G pi H.size) (cwV 0 hts gzX11_checksum_Jx4a65c_iterator_32c93_106 rfl rfl rfl (by decide +kernel) ⟨(Nat.le_of_ble_eq_true rfl), (Nat.le_of_ble_eq_true rfl)⟩) ⟨p_RW_blind, va_recv hK hP (ci := 4) (q0 := 1) rfl rfl, (p_RW_at (tc := []) (wc := [(pi, .inr (4, [.int 0, .ref G.1, .int 0]))]) hP hK hD hS hA hT hZ [1] [] rfl rfl (by decide) rfl [.ref pi])⟩ rfl rfl hl.1 rfl (lv_room (Nat.le_of_ble_eq_true rfl)) dX11_checksum_13 ⟨(Nat.le_of_ble_eq_true rfl), (Nat.le_of_ble_eq_true rfl)⟩) hS (fun q _ h => hFc q h) hFc (fun u r_542 t H locs ht hvm w_543 hB hz1 hk1 hS => ?_)
  obtain ⟨hP, hD, hK⟩ := q_join (D := D) (wc := [(pi, .inr (4, [.int 0, .ref G.1, .int 0]))]) (wr := [(mo, .inr (16, [.int 0, .ref gl, .ref po, .ref pi, .ref bu, .ref pa, .int mt, .int mh, .int 40, .int 0, .null, .int 0, .int 0]))]) (w1 := [(pi, .inr (4, [.int 0, .ref G.1, .int 0])), (r_542, .inr (3, [.int 0, .int (-1), .int 0, .ref pi]))]) (tyr := []) (ty1 := []) hP hD hK [1] [0] [] rfl rfl (by decide) (by decide) rfl hFc hk1 ht hvm hB
  have hP : va_P D vwCl [(mo, .inr (16, [.int 0, .ref gl, .ref po, .ref pi, .ref bu, .ref pa, .int mt, .int mh, .int 40, .int 0, .null, .int 0, .int 0])), (pi, .inr (4, [.int 0, .ref G.1, .int 0])), (r_542, .inr (3, [.int 0, .int (-1), .int 0, .ref pi]))] H := hP
  have hD : va_D A [(mo, .inr (16, [.int 0, .ref gl, .ref po, .ref pi, .ref bu, .ref pa, .int mt, .int mh, .int 40, .int 0, .null, .int 0, .int 0])), (pi, .inr (4, [.int 0, .ref G.1, .int 0])), (r_542, .inr (3, [.int 0, .int (-1), .int 0, .ref pi]))] := hD
  have hK : va_K D vwCl [] s := hK
  refine W.widen (k := 1) (n := 4) (Nat.le_of_ble_eq_true rfl) (Nat.le_of_ble_eq_true rfl) ?_
  refine lv_astore_n (lv' := [(3, .ref r_542), (1, .long 7), (0, .ref mo)]) hx hb dX11_checksum_16 rfl hl (by decide) rfl (fun ls hl => ?_)
  refine lv_aload_n hx hb dX11_checksum_17 rfl (lv_at hl 0 rfl) ?_
  refine va_csFi (va_runF (As := []) (rest := []) (hK.1 3 (RJx35411, TJx35411, 4) rfl).2 ⟨hx, hb, hml, hown, hts⟩ (zc_Jx35411_hasNext_aae02 l D G r_542 pi) (va_cwF 0 hts gzX11_checksum_Jx35411_hasNext_aae02_110 rfl rfl rfl (hT.2.2.2.2.2.2.1 (_, _, _) (List.mem_of_getElem? (i := 0) rfl)) (by decide +kernel) ⟨(Nat.le_of_ble_eq_true rfl), (Nat.le_of_ble_eq_true rfl)⟩) ⟨p_RO_blind, va_recv hK hP (ci := 3) (q0 := 2) rfl rfl, (p_RO_at (tc := []) (wc := [(r_542, .inr (3, [.int 0, .int (-1), .int 0, .ref pi])), (pi, .inr (4, [.int 0, .ref G.1, .int 0]))]) hP hK hT [2, 1] [] rfl rfl [.ref r_542])⟩ rfl rfl hl.1 rfl (lv_room (Nat.le_of_ble_eq_true rfl)) dX11_checksum_18 ⟨(Nat.le_of_ble_eq_true rfl), (Nat.le_of_ble_eq_true rfl)⟩) (fun r_544 w_545 => ?_)
  obtain rfl := w_545
  refine lv_if_eq (tgt := 79) hx hb dX11_checksum_23 (by decide) (fun _ => ?_) (fun cc => absurd (by decide) cc)
  refine lv_lload_n hx hb dX11_checksum_79 rfl (lv_at hl 1 rfl) ?_
  exact W.lret (v := 7) hx hb hr (fun t ht hW => ⟨⟨7, (), rfl, rfl, q_RW_mk hP hK hD [0, 1] [] rfl rfl (by decide) rfl ht hW.alike⟩, hS.F ht⟩) hS.2.2 dX11_checksum_80
theorem dX11_wholeShare_0 : decode cX11_wholeShare 0 = .ok (.aload_n 0, 1) := by decide +kernel
theorem dX11_wholeShare_1 : decode cX11_wholeShare 1 = .ok (.aload_n 0, 1) := by decide +kernel
theorem dX11_wholeShare_2 : decode cX11_wholeShare 2 = .ok (.getfield 19, 3) := by decide +kernel
theorem dX11_wholeShare_5 : decode cX11_wholeShare 5 = .ok (.invokevirtual 327, 3) := by decide +kernel
theorem dX11_wholeShare_8 : decode cX11_wholeShare 8 = .ok (.ifCond .eq 7, 3) := by decide +kernel
theorem dX11_wholeShare_11 : decode cX11_wholeShare 11 = .ok (.iconst 1, 1) := by decide +kernel
theorem dX11_wholeShare_12 : decode cX11_wholeShare 12 = .ok (.goto 4, 3) := by decide +kernel
theorem dX11_wholeShare_16 : decode cX11_wholeShare 16 = .ok (.putfield 41, 3) := by decide +kernel
theorem dX11_wholeShare_19 : decode cX11_wholeShare 19 = .ok (.iconst 0, 1) := by decide +kernel
theorem dX11_wholeShare_20 : decode cX11_wholeShare 20 = .ok (.istore_n 1, 1) := by decide +kernel
theorem dX11_wholeShare_21 : decode cX11_wholeShare 21 = .ok (.aload_n 0, 1) := by decide +kernel
theorem dX11_wholeShare_22 : decode cX11_wholeShare 22 = .ok (.getfield 19, 3) := by decide +kernel
theorem dX11_wholeShare_25 : decode cX11_wholeShare 25 = .ok (.invokevirtual 106, 3) := by decide +kernel
theorem dX11_wholeShare_28 : decode cX11_wholeShare 28 = .ok (.astore_n 2, 1) := by decide +kernel
theorem dX11_wholeShare_29 : decode cX11_wholeShare 29 = .ok (.aload_n 2, 1) := by decide +kernel
theorem dX11_wholeShare_30 : decode cX11_wholeShare 30 = .ok (.invokeinterface 110 1, 5) := by decide +kernel
theorem dX11_wholeShare_35 : decode cX11_wholeShare 35 = .ok (.ifCond .eq 33, 3) := by decide +kernel
theorem dX11_wholeShare_68 : decode cX11_wholeShare 68 = .ok (.aload_n 0, 1) := by decide +kernel
theorem dX11_wholeShare_69 : decode cX11_wholeShare 69 = .ok (.getfield 41, 3) := by decide +kernel
theorem dX11_wholeShare_72 : decode cX11_wholeShare 72 = .ok (.ifCond .le 7, 3) := by decide +kernel
theorem dX11_wholeShare_75 : decode cX11_wholeShare 75 = .ok (.fconst 0, 1) := by decide +kernel
theorem dX11_wholeShare_76 : decode cX11_wholeShare 76 = .ok (.goto 14, 3) := by decide +kernel
theorem dX11_wholeShare_90 : decode cX11_wholeShare 90 = .ok (.freturn, 1) := by decide +kernel
def wzEX11_wholeShare : List Cond := [.code yX11_wholeShare cX11_wholeShare 4 (some .float), .fieldLink RX11 19 "GatherhouseModel" "pieces" "Ljava/util/ArrayList;", .methodLink RX11 327 yJx4a65c_isEmpty_aae02, .instanceMethod yJx4a65c_isEmpty_aae02, .selects RJx4a65c yJx4a65c_isEmpty_aae02 yJx4a65c_isEmpty_aae02, .initialized RJx4a65c, .code yJx4a65c_isEmpty_aae02 cJx4a65c_isEmpty_aae02 1 (some .boolean), .fieldLink RJx4a65c 48 "java/util/ArrayList" "size" "I", .fieldLink RX11 41 "GatherhouseModel" "thrown" "I", .methodLink RX11 106 yJx4a65c_iterator_32c93, .instanceMethod yJx4a65c_iterator_32c93, .selects RJx4a65c yJx4a65c_iterator_32c93 yJx4a65c_iterator_32c93, .code yJx4a65c_iterator_32c93 cJx4a65c_iterator_32c93 1 (some (.object "java/util/Iterator")), .classLink RJx4a65c 267 RJx35411, .instantiable RJx35411 4, .initialized RJx35411, .code yJx35411_init_45d68 cJx35411_init_45d68 2 none, .fieldLink RJx35411 1 "java/util/ArrayList$Itr" "this$0" "Ljava/util/ArrayList;", .methodLink RJx35411 7 objectInit, .instanceMethod objectInit, .code objectInit ⟨#[0xb1]⟩ 1 none, .fieldLink RJx35411 13 "java/util/ArrayList$Itr" "lastRet" "I", .sameField "java/util/ArrayList" "java/util/AbstractList" "modCount" "I", .fieldLink RJx35411 17 "java/util/ArrayList" "modCount" "I", .fieldLink RJx35411 22 "java/util/ArrayList$Itr" "expectedModCount" "I", .instanceMethod yJx35411_init_45d68, .methodLink RJx4a65c 269 yJx35411_init_45d68, .methodLink RX11 110 ⟨"java/util/Iterator", "hasNext", "()Z"⟩, .selects RJx35411 ⟨"java/util/Iterator", "hasNext", "()Z"⟩ yJx35411_hasNext_aae02, .instanceMethod yJx35411_hasNext_aae02, .code yJx35411_hasNext_aae02 cJx35411_hasNext_aae02 1 (some .boolean), .fieldLink RJx35411 25 "java/util/ArrayList$Itr" "cursor" "I"]
def wzX11_wholeShare : List Cond := wzEX11_wholeShare ++ (u_ws RX11 TX11 13 ++ (u_ws RJx4a65c TJx4a65c 3 ++ (u_ws RJx35411 TJx35411 4)))
theorem zgEX11_wholeShare : wzEX11_wholeShare.all goodWord = true := by decide +kernel
theorem zuX11_wholeShare_X11 : ∀ w ∈ u_ws RX11 TX11 13, w ∈ wzX11_wholeShare := (fun _ h => (List.mem_append_right _ (List.mem_append_left _ h)))
theorem zuX11_wholeShare_Jx4a65c : ∀ w ∈ u_ws RJx4a65c TJx4a65c 3, w ∈ wzX11_wholeShare := (fun _ h => (List.mem_append_right _ (List.mem_append_right _ (List.mem_append_left _ h))))
theorem zuX11_wholeShare_Jx35411 : ∀ w ∈ u_ws RJx35411 TJx35411 4, w ∈ wzX11_wholeShare := (fun _ h => (List.mem_append_right _ (List.mem_append_right _ (List.mem_append_right _ h))))
theorem gzX11_wholeShare_Jx4a65c_isEmpty_aae02_327 : GoodIn wzX11_wholeShare (wsV RX11 327 RJx4a65c yJx4a65c_isEmpty_aae02 wzJx4a65c_isEmpty_aae02) := (goodIn_app (z_lift (goodIn_r _ [2, 3, 4, 5] rfl (by decide +kernel))) (goodIn_app (z_lift (goodIn_r wzEJx4a65c_isEmpty_aae02 [6, 7] rfl zgEJx4a65c_isEmpty_aae02)) (goodIn_sub (fun _ h => (List.mem_append_right _ (List.mem_append_right _ (List.mem_append_left _ h)))) zgU_Jx4a65c)))
theorem gzX11_wholeShare_Jx4a65c_iterator_32c93_106 : GoodIn wzX11_wholeShare (wsV RX11 106 RJx4a65c yJx4a65c_iterator_32c93 wzJx4a65c_iterator_32c93) := (goodIn_app (z_lift (goodIn_r _ [9, 10, 11, 5] rfl (by decide +kernel))) (goodIn_app (z_lift (goodIn_r wzEJx4a65c_iterator_32c93 [12, 13, 14, 15, 16, 17, 18, 19, 20, 21, 22, 23, 24, 25, 26] rfl zgEJx4a65c_iterator_32c93)) (goodIn_app (goodIn_sub (fun _ h => (List.mem_append_right _ (List.mem_append_right _ (List.mem_append_right _ h)))) zgU_Jx35411) (goodIn_sub (fun _ h => (List.mem_append_right _ (List.mem_append_right _ (List.mem_append_left _ h)))) zgU_Jx4a65c))))
theorem gzX11_wholeShare_Jx35411_hasNext_aae02_110 : GoodIn wzX11_wholeShare (va_wsF RX11 110 RJx35411 ⟨"java/util/Iterator", "hasNext", "()Z"⟩ yJx35411_hasNext_aae02 wzJx35411_hasNext_aae02) := (goodIn_app (z_lift (goodIn_r _ [27, 28, 29, 15] rfl (by decide +kernel))) (goodIn_app (z_lift (goodIn_r wzEJx35411_hasNext_aae02 [30, 31, 17] rfl zgEJx35411_hasNext_aae02)) (goodIn_app (goodIn_sub (fun _ h => (List.mem_append_right _ (List.mem_append_right _ (List.mem_append_right _ h)))) zgU_Jx35411) (goodIn_sub (fun _ h => (List.mem_append_right _ (List.mem_append_right _ (List.mem_append_left _ h)))) zgU_Jx4a65c))))
set_option maxHeartbeats 4000000 in
set_option maxRecDepth 100000 in
theorem zc_X11_wholeShare (l : Launch) (D : va_G) (G : Nat × Nat × Nat) (mo : Nat) (gl : Nat) (po : Nat) (pi : Nat) (bu : Nat) (pa : Nat) (th : Int32) (mh : Int32) (mt : Int32) (sz : Nat) : Met l yX11_wholeShare wzX11_wholeShare ({ frames := 3, cells := 1, slots := 4, locals := 53 }) (va_Pc [.ref mo] (p_RW D G [] [(mo, .inr (16, [.int th, .ref gl, .ref po, .ref pi, .ref bu, .ref pa, .int mt, .int mh, .int 40, .int 0, .null, .int 0, .int 0])), (pi, .inr (4, [.int 0, .ref G.1, .int 0]))] sz)) (va_Qf (fun (r : UInt32) (u : Unit) => r = FP.fconst0) (fun (u : Unit) (t : State) => q_RW D [] [(mo, .inr (16, [.int 1, .ref gl, .ref po, .ref pi, .ref bu, .ref pa, .int mt, .int mh, .int 40, .int 0, .null, .int 0, .int 0])), (pi, .inr (4, [.int 0, .ref G.1, .int 0]))] (va_A [(mo, .inr (16, [.int th, .ref gl, .ref po, .ref pi, .ref bu, .ref pa, .int mt, .int mh, .int 40, .int 0, .null, .int 0, .int 0])), (pi, .inr (4, [.int 0, .ref G.1, .int 0]))] sz) t) (va_A [(mo, .inr (16, [.int th, .ref gl, .ref po, .ref pi, .ref bu, .ref pa, .int mt, .int mh, .int 40, .int 0, .null, .int 0, .int 0])), (pi, .inr (4, [.int 0, .ref G.1, .int 0]))] sz)) 1 4 (va_A [(mo, .inr (16, [.int th, .ref gl, .ref po, .ref pi, .ref bu, .ref pa, .int mt, .int mh, .int 40, .int 0, .null, .int 0, .int 0])), (pi, .inr (4, [.int 0, .ref G.1, .int 0]))] sz) := by
  refine Met.ofW (cc := cX11_wholeShare) (maxL := 4) (ret := (some .float)) (by decide) rfl ?_
  intro p e s m args below meth c s₁ B hml hv
  obtain ⟨rfl, hsz, hP, hK, hD0, hT, hZ⟩ := hv
  have hx := B.exec
  have hb := B.bytes
  have hr := B.returns
  have hts := atoms_spec (ws := wzX11_wholeShare) B.pre
  have hown : s.vm.findClass RX11 = some m.cls := findClass_of_methodNamed B.named
  have hlocks := B.notSynchronized
  subst hsz
  have hD := hD0.self (sz := s.heap.size)
  generalize hAe : va_A [(mo, .inr (16, [.int th, .ref gl, .ref po, .ref pi, .ref bu, .ref pa, .int mt, .int mh, .int 40, .int 0, .null, .int 0, .int 0])), (pi, .inr (4, [.int 0, .ref G.1, .int 0]))] s.heap.size = A at hD hZ ⊢
  have hA : ∀ q : Nat, s.heap.size ≤ q → A q := fun q h => by rw [← hAe]; exact Or.inr h
  have hS : va_S A s.heap s.heap [] := va_S.rf
  have hl := lv_entry ([.ref mo]) (n := 4) (Nat.le_of_ble_eq_true rfl)
  rw [lg_entry_eq]
  generalize (lg_sl ([.ref mo]) ++ List.replicate (4 - (lg_sl ([.ref mo])).length) Slot.unset).toArray = ls at hl ⊢
  have hl : lv_has ls 4 [(0, .ref mo)] := hl
  refine lv_aload_n hx hb dX11_wholeShare_0 rfl (lv_at hl 0 rfl) ?_
  refine lv_aload_n hx hb dX11_wholeShare_1 rfl (lv_at hl 0 rfl) ?_
  refine va_get (D := D) (cl := vwCl) (ci := 16) (v := .ref pi) (C := RX11) (T := TX11) (N := 13) hx hb hts zuX11_wholeShare_X11 hown hK hP 0 rfl rfl 3 (by decide) (hts (.fieldLink RX11 19 "GatherhouseModel" "pieces" "Ljava/util/ArrayList;") (by decide +kernel)) (fun _ h9 => h9) rfl dX11_wholeShare_2 ?_
  refine vp_callSi (va_runV (As := []) (rest := [.ref mo]) ⟨hx, hb, hml, hown, hts⟩ (zc_Jx4a65c_isEmpty_aae02 l D G pi) (cwV 0 hts gzX11_wholeShare_Jx4a65c_isEmpty_aae02_327 rfl rfl rfl (by decide +kernel) ⟨(Nat.le_of_ble_eq_true rfl), (Nat.le_of_ble_eq_true rfl)⟩) ⟨p_RO_blind, va_recv hK hP (ci := 4) (q0 := 1) rfl rfl, (p_RO_at (tc := []) (wc := [(pi, .inr (4, [.int 0, .ref G.1, .int 0]))]) hP hK hT [1] [] rfl rfl [.ref pi])⟩ rfl rfl hl.1 rfl (lv_room (Nat.le_of_ble_eq_true rfl)) dX11_wholeShare_5 ⟨(Nat.le_of_ble_eq_true rfl), (Nat.le_of_ble_eq_true rfl)⟩).run (fun r_546 w_547 => ?_)
  obtain rfl := w_547
  refine lv_if_eq (tgt := 15) hx hb dX11_wholeShare_8 (by decide) (fun cc => absurd cc (by decide)) (fun _ => ?_)
  refine lv_iconst (v := 1) hx hb dX11_wholeShare_11 (by decide) ?_
  refine lv_goto (tgt := 16) hx hb dX11_wholeShare_12 (by decide) ?_
  refine va_put (D := D) (cl := vwCl) (ci := 16) (v := .int 1) (ty := .int) (C := RX11) (T := TX11) (N := 13) hx hb hts zuX11_wholeShare_X11 tyX11 tyX11_ok nmX11 hown hK hP hD hS 0 rfl rfl 0 (by decide) (hts (.fieldLink RX11 41 "GatherhouseModel" "thrown" "I") (by decide +kernel)) (fun _ h9 => h9) rfl (by decide +kernel) rfl rfl (Nat.le_of_ble_eq_true rfl) dX11_wholeShare_16 (fun H locs hP hD hS => ?_)
  have hP : va_P D vwCl [(mo, .inr (16, [.int 1, .ref gl, .ref po, .ref pi, .ref bu, .ref pa, .int mt, .int mh, .int 40, .int 0, .null, .int 0, .int 0])), (pi, .inr (4, [.int 0, .ref G.1, .int 0]))] H := hP
  have hD : va_D A [(mo, .inr (16, [.int 1, .ref gl, .ref po, .ref pi, .ref bu, .ref pa, .int mt, .int mh, .int 40, .int 0, .null, .int 0, .int 0])), (pi, .inr (4, [.int 0, .ref G.1, .int 0]))] := hD
  refine lv_iconst (v := 0) hx hb dX11_wholeShare_19 (by decide) ?_
  refine lv_istore_n (lv' := [(1, .int 0), (0, .ref mo)]) hx hb dX11_wholeShare_20 rfl hl (by decide) rfl (fun ls hl => ?_)
  refine lv_aload_n hx hb dX11_wholeShare_21 rfl (lv_at hl 1 rfl) ?_
  refine va_get (D := D) (cl := vwCl) (ci := 16) (v := .ref pi) (C := RX11) (T := TX11) (N := 13) hx hb hts zuX11_wholeShare_X11 hown hK hP 0 rfl rfl 3 (by decide) (hts (.fieldLink RX11 19 "GatherhouseModel" "pieces" "Ljava/util/ArrayList;") (by decide +kernel)) (fun _ h9 => h9) rfl dX11_wholeShare_22 ?_
  have hFc := va_free (wc := [(pi, .inr (4, [.int 0, .ref G.1, .int 0]))]) hD hS hA [1] rfl
  refine va_callr (va_runV (As := []) (rest := []) ⟨hx, hb, hml, hown, hts⟩ (zc_Jx4a65c_iterator_32c93 l D G pi H.size) (cwV 0 hts gzX11_wholeShare_Jx4a65c_iterator_32c93_106 rfl rfl rfl (by decide +kernel) ⟨(Nat.le_of_ble_eq_true rfl), (Nat.le_of_ble_eq_true rfl)⟩) ⟨p_RW_blind, va_recv hK hP (ci := 4) (q0 := 1) rfl rfl, (p_RW_at (tc := []) (wc := [(pi, .inr (4, [.int 0, .ref G.1, .int 0]))]) hP hK hD hS hA hT hZ [1] [] rfl rfl (by decide) rfl [.ref pi])⟩ rfl rfl hl.1 rfl (lv_room (Nat.le_of_ble_eq_true rfl)) dX11_wholeShare_25 ⟨(Nat.le_of_ble_eq_true rfl), (Nat.le_of_ble_eq_true rfl)⟩) hS (fun q _ h => hFc q h) hFc (fun u r_548 t H locs ht hvm w_549 hB hz1 hk1 hS => ?_)
  obtain ⟨hP, hD, hK⟩ := q_join (D := D) (wc := [(pi, .inr (4, [.int 0, .ref G.1, .int 0]))]) (wr := [(mo, .inr (16, [.int 1, .ref gl, .ref po, .ref pi, .ref bu, .ref pa, .int mt, .int mh, .int 40, .int 0, .null, .int 0, .int 0]))]) (w1 := [(pi, .inr (4, [.int 0, .ref G.1, .int 0])), (r_548, .inr (3, [.int 0, .int (-1), .int 0, .ref pi]))]) (tyr := []) (ty1 := []) hP hD hK [1] [0] [] rfl rfl (by decide) (by decide) rfl hFc hk1 ht hvm hB
  have hP : va_P D vwCl [(mo, .inr (16, [.int 1, .ref gl, .ref po, .ref pi, .ref bu, .ref pa, .int mt, .int mh, .int 40, .int 0, .null, .int 0, .int 0])), (pi, .inr (4, [.int 0, .ref G.1, .int 0])), (r_548, .inr (3, [.int 0, .int (-1), .int 0, .ref pi]))] H := hP
  have hD : va_D A [(mo, .inr (16, [.int 1, .ref gl, .ref po, .ref pi, .ref bu, .ref pa, .int mt, .int mh, .int 40, .int 0, .null, .int 0, .int 0])), (pi, .inr (4, [.int 0, .ref G.1, .int 0])), (r_548, .inr (3, [.int 0, .int (-1), .int 0, .ref pi]))] := hD
  have hK : va_K D vwCl [] s := hK
  refine W.widen (k := 1) (n := 4) (Nat.le_of_ble_eq_true rfl) (Nat.le_of_ble_eq_true rfl) ?_
  refine lv_astore_n (lv' := [(2, .ref r_548), (1, .int 0), (0, .ref mo)]) hx hb dX11_wholeShare_28 rfl hl (by decide) rfl (fun ls hl => ?_)
  refine lv_aload_n hx hb dX11_wholeShare_29 rfl (lv_at hl 0 rfl) ?_
  refine va_csFi (va_runF (As := []) (rest := []) (hK.1 3 (RJx35411, TJx35411, 4) rfl).2 ⟨hx, hb, hml, hown, hts⟩ (zc_Jx35411_hasNext_aae02 l D G r_548 pi) (va_cwF 0 hts gzX11_wholeShare_Jx35411_hasNext_aae02_110 rfl rfl rfl (hT.2.2.2.2.2.2.1 (_, _, _) (List.mem_of_getElem? (i := 0) rfl)) (by decide +kernel) ⟨(Nat.le_of_ble_eq_true rfl), (Nat.le_of_ble_eq_true rfl)⟩) ⟨p_RO_blind, va_recv hK hP (ci := 3) (q0 := 2) rfl rfl, (p_RO_at (tc := []) (wc := [(r_548, .inr (3, [.int 0, .int (-1), .int 0, .ref pi])), (pi, .inr (4, [.int 0, .ref G.1, .int 0]))]) hP hK hT [2, 1] [] rfl rfl [.ref r_548])⟩ rfl rfl hl.1 rfl (lv_room (Nat.le_of_ble_eq_true rfl)) dX11_wholeShare_30 ⟨(Nat.le_of_ble_eq_true rfl), (Nat.le_of_ble_eq_true rfl)⟩) (fun r_550 w_551 => ?_)
  obtain rfl := w_551
  refine lv_if_eq (tgt := 68) hx hb dX11_wholeShare_35 (by decide) (fun _ => ?_) (fun cc => absurd (by decide) cc)
  refine lv_aload_n hx hb dX11_wholeShare_68 rfl (lv_at hl 2 rfl) ?_
  refine va_get (D := D) (cl := vwCl) (ci := 16) (v := .int 1) (C := RX11) (T := TX11) (N := 13) hx hb hts zuX11_wholeShare_X11 hown hK hP 0 rfl rfl 0 (by decide) (hts (.fieldLink RX11 41 "GatherhouseModel" "thrown" "I") (by decide +kernel)) (fun _ h9 => h9) rfl dX11_wholeShare_69 ?_
  refine lv_if_le (tgt := 79) hx hb dX11_wholeShare_72 (by decide) (fun cc => absurd cc (by decide)) (fun _ => ?_)
  refine lv_fconst0 hx hb dX11_wholeShare_75 ?_
  refine lv_goto (tgt := 90) hx hb dX11_wholeShare_76 (by decide) ?_
  exact W.fret (v := FP.fconst0) hx hb hr (fun t ht hW => ⟨⟨FP.fconst0, (), rfl, rfl, q_RW_mk hP hK hD [0, 1] [] rfl rfl (by decide) rfl ht hW.alike⟩, hS.F ht⟩) hS.2.2 dX11_wholeShare_90
theorem dX11_meanMass_0 : decode cX11_meanMass 0 = .ok (.aload_n 0, 1) := by decide +kernel
theorem dX11_meanMass_1 : decode cX11_meanMass 1 = .ok (.aload_n 0, 1) := by decide +kernel
theorem dX11_meanMass_2 : decode cX11_meanMass 2 = .ok (.getfield 19, 3) := by decide +kernel
theorem dX11_meanMass_5 : decode cX11_meanMass 5 = .ok (.invokevirtual 327, 3) := by decide +kernel
theorem dX11_meanMass_8 : decode cX11_meanMass 8 = .ok (.ifCond .eq 7, 3) := by decide +kernel
theorem dX11_meanMass_11 : decode cX11_meanMass 11 = .ok (.iconst 1, 1) := by decide +kernel
theorem dX11_meanMass_12 : decode cX11_meanMass 12 = .ok (.goto 4, 3) := by decide +kernel
theorem dX11_meanMass_16 : decode cX11_meanMass 16 = .ok (.putfield 41, 3) := by decide +kernel
theorem dX11_meanMass_19 : decode cX11_meanMass 19 = .ok (.lconst 0, 1) := by decide +kernel
theorem dX11_meanMass_20 : decode cX11_meanMass 20 = .ok (.lstore_n 1, 1) := by decide +kernel
theorem dX11_meanMass_21 : decode cX11_meanMass 21 = .ok (.aload_n 0, 1) := by decide +kernel
theorem dX11_meanMass_22 : decode cX11_meanMass 22 = .ok (.getfield 19, 3) := by decide +kernel
theorem dX11_meanMass_25 : decode cX11_meanMass 25 = .ok (.invokevirtual 106, 3) := by decide +kernel
theorem dX11_meanMass_28 : decode cX11_meanMass 28 = .ok (.astore_n 3, 1) := by decide +kernel
theorem dX11_meanMass_29 : decode cX11_meanMass 29 = .ok (.aload_n 3, 1) := by decide +kernel
theorem dX11_meanMass_30 : decode cX11_meanMass 30 = .ok (.invokeinterface 110 1, 5) := by decide +kernel
theorem dX11_meanMass_35 : decode cX11_meanMass 35 = .ok (.ifCond .eq 26, 3) := by decide +kernel
theorem dX11_meanMass_61 : decode cX11_meanMass 61 = .ok (.aload_n 0, 1) := by decide +kernel
theorem dX11_meanMass_62 : decode cX11_meanMass 62 = .ok (.getfield 41, 3) := by decide +kernel
theorem dX11_meanMass_65 : decode cX11_meanMass 65 = .ok (.ifCond .le 7, 3) := by decide +kernel
theorem dX11_meanMass_68 : decode cX11_meanMass 68 = .ok (.dconst 0, 1) := by decide +kernel
theorem dX11_meanMass_69 : decode cX11_meanMass 69 = .ok (.goto 14, 3) := by decide +kernel
theorem dX11_meanMass_83 : decode cX11_meanMass 83 = .ok (.dreturn, 1) := by decide +kernel
def wzEX11_meanMass : List Cond := [.code yX11_meanMass cX11_meanMass 5 (some .double), .fieldLink RX11 19 "GatherhouseModel" "pieces" "Ljava/util/ArrayList;", .methodLink RX11 327 yJx4a65c_isEmpty_aae02, .instanceMethod yJx4a65c_isEmpty_aae02, .selects RJx4a65c yJx4a65c_isEmpty_aae02 yJx4a65c_isEmpty_aae02, .initialized RJx4a65c, .code yJx4a65c_isEmpty_aae02 cJx4a65c_isEmpty_aae02 1 (some .boolean), .fieldLink RJx4a65c 48 "java/util/ArrayList" "size" "I", .fieldLink RX11 41 "GatherhouseModel" "thrown" "I", .methodLink RX11 106 yJx4a65c_iterator_32c93, .instanceMethod yJx4a65c_iterator_32c93, .selects RJx4a65c yJx4a65c_iterator_32c93 yJx4a65c_iterator_32c93, .code yJx4a65c_iterator_32c93 cJx4a65c_iterator_32c93 1 (some (.object "java/util/Iterator")), .classLink RJx4a65c 267 RJx35411, .instantiable RJx35411 4, .initialized RJx35411, .code yJx35411_init_45d68 cJx35411_init_45d68 2 none, .fieldLink RJx35411 1 "java/util/ArrayList$Itr" "this$0" "Ljava/util/ArrayList;", .methodLink RJx35411 7 objectInit, .instanceMethod objectInit, .code objectInit ⟨#[0xb1]⟩ 1 none, .fieldLink RJx35411 13 "java/util/ArrayList$Itr" "lastRet" "I", .sameField "java/util/ArrayList" "java/util/AbstractList" "modCount" "I", .fieldLink RJx35411 17 "java/util/ArrayList" "modCount" "I", .fieldLink RJx35411 22 "java/util/ArrayList$Itr" "expectedModCount" "I", .instanceMethod yJx35411_init_45d68, .methodLink RJx4a65c 269 yJx35411_init_45d68, .methodLink RX11 110 ⟨"java/util/Iterator", "hasNext", "()Z"⟩, .selects RJx35411 ⟨"java/util/Iterator", "hasNext", "()Z"⟩ yJx35411_hasNext_aae02, .instanceMethod yJx35411_hasNext_aae02, .code yJx35411_hasNext_aae02 cJx35411_hasNext_aae02 1 (some .boolean), .fieldLink RJx35411 25 "java/util/ArrayList$Itr" "cursor" "I"]
def wzX11_meanMass : List Cond := wzEX11_meanMass ++ (u_ws RX11 TX11 13 ++ (u_ws RJx4a65c TJx4a65c 3 ++ (u_ws RJx35411 TJx35411 4)))
theorem zgEX11_meanMass : wzEX11_meanMass.all goodWord = true := by decide +kernel
theorem zuX11_meanMass_X11 : ∀ w ∈ u_ws RX11 TX11 13, w ∈ wzX11_meanMass := (fun _ h => (List.mem_append_right _ (List.mem_append_left _ h)))
theorem zuX11_meanMass_Jx4a65c : ∀ w ∈ u_ws RJx4a65c TJx4a65c 3, w ∈ wzX11_meanMass := (fun _ h => (List.mem_append_right _ (List.mem_append_right _ (List.mem_append_left _ h))))
theorem zuX11_meanMass_Jx35411 : ∀ w ∈ u_ws RJx35411 TJx35411 4, w ∈ wzX11_meanMass := (fun _ h => (List.mem_append_right _ (List.mem_append_right _ (List.mem_append_right _ h))))
theorem gzX11_meanMass_Jx4a65c_isEmpty_aae02_327 : GoodIn wzX11_meanMass (wsV RX11 327 RJx4a65c yJx4a65c_isEmpty_aae02 wzJx4a65c_isEmpty_aae02) := (goodIn_app (z_lift (goodIn_r _ [2, 3, 4, 5] rfl (by decide +kernel))) (goodIn_app (z_lift (goodIn_r wzEJx4a65c_isEmpty_aae02 [6, 7] rfl zgEJx4a65c_isEmpty_aae02)) (goodIn_sub (fun _ h => (List.mem_append_right _ (List.mem_append_right _ (List.mem_append_left _ h)))) zgU_Jx4a65c)))
theorem gzX11_meanMass_Jx4a65c_iterator_32c93_106 : GoodIn wzX11_meanMass (wsV RX11 106 RJx4a65c yJx4a65c_iterator_32c93 wzJx4a65c_iterator_32c93) := (goodIn_app (z_lift (goodIn_r _ [9, 10, 11, 5] rfl (by decide +kernel))) (goodIn_app (z_lift (goodIn_r wzEJx4a65c_iterator_32c93 [12, 13, 14, 15, 16, 17, 18, 19, 20, 21, 22, 23, 24, 25, 26] rfl zgEJx4a65c_iterator_32c93)) (goodIn_app (goodIn_sub (fun _ h => (List.mem_append_right _ (List.mem_append_right _ (List.mem_append_right _ h)))) zgU_Jx35411) (goodIn_sub (fun _ h => (List.mem_append_right _ (List.mem_append_right _ (List.mem_append_left _ h)))) zgU_Jx4a65c))))
theorem gzX11_meanMass_Jx35411_hasNext_aae02_110 : GoodIn wzX11_meanMass (va_wsF RX11 110 RJx35411 ⟨"java/util/Iterator", "hasNext", "()Z"⟩ yJx35411_hasNext_aae02 wzJx35411_hasNext_aae02) := (goodIn_app (z_lift (goodIn_r _ [27, 28, 29, 15] rfl (by decide +kernel))) (goodIn_app (z_lift (goodIn_r wzEJx35411_hasNext_aae02 [30, 31, 17] rfl zgEJx35411_hasNext_aae02)) (goodIn_app (goodIn_sub (fun _ h => (List.mem_append_right _ (List.mem_append_right _ (List.mem_append_right _ h)))) zgU_Jx35411) (goodIn_sub (fun _ h => (List.mem_append_right _ (List.mem_append_right _ (List.mem_append_left _ h)))) zgU_Jx4a65c))))
set_option maxHeartbeats 4000000 in
set_option maxRecDepth 100000 in
theorem zc_X11_meanMass (l : Launch) (D : va_G) (G : Nat × Nat × Nat) (mo : Nat) (gl : Nat) (po : Nat) (pi : Nat) (bu : Nat) (pa : Nat) (th : Int32) (mh : Int32) (mt : Int32) (sz : Nat) : Met l yX11_meanMass wzX11_meanMass ({ frames := 3, cells := 1, slots := 4, locals := 53 }) (va_Pc [.ref mo] (p_RW D G [] [(mo, .inr (16, [.int th, .ref gl, .ref po, .ref pi, .ref bu, .ref pa, .int mt, .int mh, .int 40, .int 0, .null, .int 0, .int 0])), (pi, .inr (4, [.int 0, .ref G.1, .int 0]))] sz)) (va_Qd (fun (r : UInt64) (u : Unit) => r = FP.dconst0) (fun (u : Unit) (t : State) => q_RW D [] [(mo, .inr (16, [.int 1, .ref gl, .ref po, .ref pi, .ref bu, .ref pa, .int mt, .int mh, .int 40, .int 0, .null, .int 0, .int 0])), (pi, .inr (4, [.int 0, .ref G.1, .int 0]))] (va_A [(mo, .inr (16, [.int th, .ref gl, .ref po, .ref pi, .ref bu, .ref pa, .int mt, .int mh, .int 40, .int 0, .null, .int 0, .int 0])), (pi, .inr (4, [.int 0, .ref G.1, .int 0]))] sz) t) (va_A [(mo, .inr (16, [.int th, .ref gl, .ref po, .ref pi, .ref bu, .ref pa, .int mt, .int mh, .int 40, .int 0, .null, .int 0, .int 0])), (pi, .inr (4, [.int 0, .ref G.1, .int 0]))] sz)) 1 4 (va_A [(mo, .inr (16, [.int th, .ref gl, .ref po, .ref pi, .ref bu, .ref pa, .int mt, .int mh, .int 40, .int 0, .null, .int 0, .int 0])), (pi, .inr (4, [.int 0, .ref G.1, .int 0]))] sz) := by
  refine Met.ofW (cc := cX11_meanMass) (maxL := 5) (ret := (some .double)) (by decide) rfl ?_
  intro p e s m args below meth c s₁ B hml hv
  obtain ⟨rfl, hsz, hP, hK, hD0, hT, hZ⟩ := hv
  have hx := B.exec
  have hb := B.bytes
  have hr := B.returns
  have hts := atoms_spec (ws := wzX11_meanMass) B.pre
  have hown : s.vm.findClass RX11 = some m.cls := findClass_of_methodNamed B.named
  have hlocks := B.notSynchronized
  subst hsz
  have hD := hD0.self (sz := s.heap.size)
  generalize hAe : va_A [(mo, .inr (16, [.int th, .ref gl, .ref po, .ref pi, .ref bu, .ref pa, .int mt, .int mh, .int 40, .int 0, .null, .int 0, .int 0])), (pi, .inr (4, [.int 0, .ref G.1, .int 0]))] s.heap.size = A at hD hZ ⊢
  have hA : ∀ q : Nat, s.heap.size ≤ q → A q := fun q h => by rw [← hAe]; exact Or.inr h
  have hS : va_S A s.heap s.heap [] := va_S.rf
  have hl := lv_entry ([.ref mo]) (n := 5) (Nat.le_of_ble_eq_true rfl)
  rw [lg_entry_eq]
  generalize (lg_sl ([.ref mo]) ++ List.replicate (5 - (lg_sl ([.ref mo])).length) Slot.unset).toArray = ls at hl ⊢
  have hl : lv_has ls 5 [(0, .ref mo)] := hl
  refine lv_aload_n hx hb dX11_meanMass_0 rfl (lv_at hl 0 rfl) ?_
  refine lv_aload_n hx hb dX11_meanMass_1 rfl (lv_at hl 0 rfl) ?_
  refine va_get (D := D) (cl := vwCl) (ci := 16) (v := .ref pi) (C := RX11) (T := TX11) (N := 13) hx hb hts zuX11_meanMass_X11 hown hK hP 0 rfl rfl 3 (by decide) (hts (.fieldLink RX11 19 "GatherhouseModel" "pieces" "Ljava/util/ArrayList;") (by decide +kernel)) (fun _ h9 => h9) rfl dX11_meanMass_2 ?_
  refine vp_callSi (va_runV (As := []) (rest := [.ref mo]) ⟨hx, hb, hml, hown, hts⟩ (zc_Jx4a65c_isEmpty_aae02 l D G pi) (cwV 0 hts gzX11_meanMass_Jx4a65c_isEmpty_aae02_327 rfl rfl rfl (by decide +kernel) ⟨(Nat.le_of_ble_eq_true rfl), (Nat.le_of_ble_eq_true rfl)⟩) ⟨p_RO_blind, va_recv hK hP (ci := 4) (q0 := 1) rfl rfl, (p_RO_at (tc := []) (wc := [(pi, .inr (4, [.int 0, .ref G.1, .int 0]))]) hP hK hT [1] [] rfl rfl [.ref pi])⟩ rfl rfl hl.1 rfl (lv_room (Nat.le_of_ble_eq_true rfl)) dX11_meanMass_5 ⟨(Nat.le_of_ble_eq_true rfl), (Nat.le_of_ble_eq_true rfl)⟩).run (fun r_552 w_553 => ?_)
  obtain rfl := w_553
  refine lv_if_eq (tgt := 15) hx hb dX11_meanMass_8 (by decide) (fun cc => absurd cc (by decide)) (fun _ => ?_)
  refine lv_iconst (v := 1) hx hb dX11_meanMass_11 (by decide) ?_
  refine lv_goto (tgt := 16) hx hb dX11_meanMass_12 (by decide) ?_
  refine va_put (D := D) (cl := vwCl) (ci := 16) (v := .int 1) (ty := .int) (C := RX11) (T := TX11) (N := 13) hx hb hts zuX11_meanMass_X11 tyX11 tyX11_ok nmX11 hown hK hP hD hS 0 rfl rfl 0 (by decide) (hts (.fieldLink RX11 41 "GatherhouseModel" "thrown" "I") (by decide +kernel)) (fun _ h9 => h9) rfl (by decide +kernel) rfl rfl (Nat.le_of_ble_eq_true rfl) dX11_meanMass_16 (fun H locs hP hD hS => ?_)
  have hP : va_P D vwCl [(mo, .inr (16, [.int 1, .ref gl, .ref po, .ref pi, .ref bu, .ref pa, .int mt, .int mh, .int 40, .int 0, .null, .int 0, .int 0])), (pi, .inr (4, [.int 0, .ref G.1, .int 0]))] H := hP
  have hD : va_D A [(mo, .inr (16, [.int 1, .ref gl, .ref po, .ref pi, .ref bu, .ref pa, .int mt, .int mh, .int 40, .int 0, .null, .int 0, .int 0])), (pi, .inr (4, [.int 0, .ref G.1, .int 0]))] := hD
  refine lv_lconst (v := 0) hx hb dX11_meanMass_19 (by decide) ?_
  refine lv_lstore_n (lv' := [(1, .long 0), (0, .ref mo)]) hx hb dX11_meanMass_20 rfl hl (by decide) rfl (fun ls hl => ?_)
  refine lv_aload_n hx hb dX11_meanMass_21 rfl (lv_at hl 1 rfl) ?_
  refine va_get (D := D) (cl := vwCl) (ci := 16) (v := .ref pi) (C := RX11) (T := TX11) (N := 13) hx hb hts zuX11_meanMass_X11 hown hK hP 0 rfl rfl 3 (by decide) (hts (.fieldLink RX11 19 "GatherhouseModel" "pieces" "Ljava/util/ArrayList;") (by decide +kernel)) (fun _ h9 => h9) rfl dX11_meanMass_22 ?_
  have hFc := va_free (wc := [(pi, .inr (4, [.int 0, .ref G.1, .int 0]))]) hD hS hA [1] rfl
  refine va_callr (va_runV (As := []) (rest := []) ⟨hx, hb, hml, hown, hts⟩ (zc_Jx4a65c_iterator_32c93 l D G pi H.size) (cwV 0 hts gzX11_meanMass_Jx4a65c_iterator_32c93_106 rfl rfl rfl (by decide +kernel) ⟨(Nat.le_of_ble_eq_true rfl), (Nat.le_of_ble_eq_true rfl)⟩) ⟨p_RW_blind, va_recv hK hP (ci := 4) (q0 := 1) rfl rfl, (p_RW_at (tc := []) (wc := [(pi, .inr (4, [.int 0, .ref G.1, .int 0]))]) hP hK hD hS hA hT hZ [1] [] rfl rfl (by decide) rfl [.ref pi])⟩ rfl rfl hl.1 rfl (lv_room (Nat.le_of_ble_eq_true rfl)) dX11_meanMass_25 ⟨(Nat.le_of_ble_eq_true rfl), (Nat.le_of_ble_eq_true rfl)⟩) hS (fun q _ h => hFc q h) hFc (fun u r_554 t H locs ht hvm w_555 hB hz1 hk1 hS => ?_)
  obtain ⟨hP, hD, hK⟩ := q_join (D := D) (wc := [(pi, .inr (4, [.int 0, .ref G.1, .int 0]))]) (wr := [(mo, .inr (16, [.int 1, .ref gl, .ref po, .ref pi, .ref bu, .ref pa, .int mt, .int mh, .int 40, .int 0, .null, .int 0, .int 0]))]) (w1 := [(pi, .inr (4, [.int 0, .ref G.1, .int 0])), (r_554, .inr (3, [.int 0, .int (-1), .int 0, .ref pi]))]) (tyr := []) (ty1 := []) hP hD hK [1] [0] [] rfl rfl (by decide) (by decide) rfl hFc hk1 ht hvm hB
  have hP : va_P D vwCl [(mo, .inr (16, [.int 1, .ref gl, .ref po, .ref pi, .ref bu, .ref pa, .int mt, .int mh, .int 40, .int 0, .null, .int 0, .int 0])), (pi, .inr (4, [.int 0, .ref G.1, .int 0])), (r_554, .inr (3, [.int 0, .int (-1), .int 0, .ref pi]))] H := hP
  have hD : va_D A [(mo, .inr (16, [.int 1, .ref gl, .ref po, .ref pi, .ref bu, .ref pa, .int mt, .int mh, .int 40, .int 0, .null, .int 0, .int 0])), (pi, .inr (4, [.int 0, .ref G.1, .int 0])), (r_554, .inr (3, [.int 0, .int (-1), .int 0, .ref pi]))] := hD
  have hK : va_K D vwCl [] s := hK
  refine W.widen (k := 1) (n := 4) (Nat.le_of_ble_eq_true rfl) (Nat.le_of_ble_eq_true rfl) ?_
  refine lv_astore_n (lv' := [(3, .ref r_554), (1, .long 0), (0, .ref mo)]) hx hb dX11_meanMass_28 rfl hl (by decide) rfl (fun ls hl => ?_)
  refine lv_aload_n hx hb dX11_meanMass_29 rfl (lv_at hl 0 rfl) ?_
  refine va_csFi (va_runF (As := []) (rest := []) (hK.1 3 (RJx35411, TJx35411, 4) rfl).2 ⟨hx, hb, hml, hown, hts⟩ (zc_Jx35411_hasNext_aae02 l D G r_554 pi) (va_cwF 0 hts gzX11_meanMass_Jx35411_hasNext_aae02_110 rfl rfl rfl (hT.2.2.2.2.2.2.1 (_, _, _) (List.mem_of_getElem? (i := 0) rfl)) (by decide +kernel) ⟨(Nat.le_of_ble_eq_true rfl), (Nat.le_of_ble_eq_true rfl)⟩) ⟨p_RO_blind, va_recv hK hP (ci := 3) (q0 := 2) rfl rfl, (p_RO_at (tc := []) (wc := [(r_554, .inr (3, [.int 0, .int (-1), .int 0, .ref pi])), (pi, .inr (4, [.int 0, .ref G.1, .int 0]))]) hP hK hT [2, 1] [] rfl rfl [.ref r_554])⟩ rfl rfl hl.1 rfl (lv_room (Nat.le_of_ble_eq_true rfl)) dX11_meanMass_30 ⟨(Nat.le_of_ble_eq_true rfl), (Nat.le_of_ble_eq_true rfl)⟩) (fun r_556 w_557 => ?_)
  obtain rfl := w_557
  refine lv_if_eq (tgt := 61) hx hb dX11_meanMass_35 (by decide) (fun _ => ?_) (fun cc => absurd (by decide) cc)
  refine lv_aload_n hx hb dX11_meanMass_61 rfl (lv_at hl 2 rfl) ?_
  refine va_get (D := D) (cl := vwCl) (ci := 16) (v := .int 1) (C := RX11) (T := TX11) (N := 13) hx hb hts zuX11_meanMass_X11 hown hK hP 0 rfl rfl 0 (by decide) (hts (.fieldLink RX11 41 "GatherhouseModel" "thrown" "I") (by decide +kernel)) (fun _ h9 => h9) rfl dX11_meanMass_62 ?_
  refine lv_if_le (tgt := 72) hx hb dX11_meanMass_65 (by decide) (fun cc => absurd cc (by decide)) (fun _ => ?_)
  refine lv_dconst0 hx hb dX11_meanMass_68 ?_
  refine lv_goto (tgt := 83) hx hb dX11_meanMass_69 (by decide) ?_
  exact W.dret (v := FP.dconst0) hx hb hr (fun t ht hW => ⟨⟨FP.dconst0, (), rfl, rfl, q_RW_mk hP hK hD [0, 1] [] rfl rfl (by decide) rfl ht hW.alike⟩, hS.F ht⟩) hS.2.2 dX11_meanMass_83
theorem dX11_drop_0 : decode cX11_drop 0 = .ok (.aload_n 0, 1) := by decide +kernel
theorem dX11_drop_1 : decode cX11_drop 1 = .ok (.iload_n 1, 1) := by decide +kernel
theorem dX11_drop_2 : decode cX11_drop 2 = .ok (.bipush 10, 2) := by decide +kernel
theorem dX11_drop_4 : decode cX11_drop 4 = .ok (.sipush 200, 3) := by decide +kernel
theorem dX11_drop_7 : decode cX11_drop 7 = .ok (.invokestatic 47, 3) := by decide +kernel
theorem dX11_drop_10 : decode cX11_drop 10 = .ok (.ifCond .eq 7, 3) := by decide +kernel
theorem dX11_drop_13 : decode cX11_drop 13 = .ok (.iconst 0, 1) := by decide +kernel
theorem dX11_drop_14 : decode cX11_drop 14 = .ok (.goto 4, 3) := by decide +kernel
theorem dX11_drop_18 : decode cX11_drop 18 = .ok (.putfield 41, 3) := by decide +kernel
theorem dX11_drop_21 : decode cX11_drop 21 = .ok (.aload_n 0, 1) := by decide +kernel
theorem dX11_drop_22 : decode cX11_drop 22 = .ok (.getfield 41, 3) := by decide +kernel
theorem dX11_drop_25 : decode cX11_drop 25 = .ok (.ifCond .le 5, 3) := by decide +kernel
theorem dX11_drop_30 : decode cX11_drop 30 = .ok (.aload_n 0, 1) := by decide +kernel
theorem dX11_drop_31 : decode cX11_drop 31 = .ok (.getfield 37, 3) := by decide +kernel
theorem dX11_drop_34 : decode cX11_drop 34 = .ok (.istore_n 2, 1) := by decide +kernel
theorem dX11_drop_35 : decode cX11_drop 35 = .ok (.aload_n 0, 1) := by decide +kernel
theorem dX11_drop_36 : decode cX11_drop 36 = .ok (.iload_n 1, 1) := by decide +kernel
theorem dX11_drop_37 : decode cX11_drop 37 = .ok (.putfield 37, 3) := by decide +kernel
theorem dX11_drop_40 : decode cX11_drop 40 = .ok (.iload_n 2, 1) := by decide +kernel
theorem dX11_drop_41 : decode cX11_drop 41 = .ok (.ireturn, 1) := by decide +kernel
theorem dX11_drop_17 : decode cX11_drop 17 = .ok (.iconst 1, 1) := by decide +kernel
theorem dX11_drop_28 : decode cX11_drop 28 = .ok (.iconst 0, 1) := by decide +kernel
theorem dX11_drop_29 : decode cX11_drop 29 = .ok (.ireturn, 1) := by decide +kernel
def wzEX11_drop : List Cond := [.code yX11_drop cX11_drop 3 (some .int), .methodLink RX11 47 yX11_in, .static yX11_in, .initialized RX11, .code yX11_in cX11_in 3 (some .boolean), .fieldLink RX11 41 "GatherhouseModel" "thrown" "I", .fieldLink RX11 37 "GatherhouseModel" "drop" "I"]
def wzX11_drop : List Cond := wzEX11_drop ++ (u_ws RX11 TX11 13)
theorem zgEX11_drop : wzEX11_drop.all goodWord = true := by decide +kernel
theorem zuX11_drop_X11 : ∀ w ∈ u_ws RX11 TX11 13, w ∈ wzX11_drop := (fun _ h => (List.mem_append_right _ h))
theorem gzX11_drop_X11_in_47 : GoodIn wzX11_drop (va_wsS RX11 47 yX11_in wzX11_in) := (goodIn_app (z_lift (goodIn_r _ [1, 2, 3] rfl (by decide +kernel))) (goodIn_app (z_lift (goodIn_r wzEX11_in [4] rfl zgEX11_in)) z_gnil))
set_option maxHeartbeats 4000000 in
set_option maxRecDepth 100000 in
theorem zc_X11_drop (l : Launch) (D : va_G) (G : Nat × Nat × Nat) (mo : Nat) (gl : Nat) (po : Nat) (pi : Nat) (bu : Nat) (pa : Nat) (th : Int32) (mh : Int32) (mt : Int32) (ii : Int32) (sz : Nat) : Met l yX11_drop wzX11_drop ({ frames := 1, cells := 0, slots := 0, locals := 22 }) (va_Pc [.ref mo, .int ii] (p_RW D G [] [(mo, .inr (16, [.int th, .ref gl, .ref po, .ref pi, .ref bu, .ref pa, .int mt, .int mh, .int 40, .int 0, .null, .int 0, .int 0]))] sz)) (va_Qi (fun (r : Int32) (u : Int32 × Int32) => match u with | (u1, u2) => (inR ii 10 200 ∧ r = 40 ∧ u1 = 0 ∧ u2 = ii) ∨ (¬ inR ii 10 200 ∧ r = 0 ∧ u1 = 1 ∧ u2 = 40)) (fun (u : Int32 × Int32) (t : State) => match u with | (u1, u2) => q_RW D [] [(mo, .inr (16, [.int u1, .ref gl, .ref po, .ref pi, .ref bu, .ref pa, .int mt, .int mh, .int u2, .int 0, .null, .int 0, .int 0]))] (va_A [(mo, .inr (16, [.int th, .ref gl, .ref po, .ref pi, .ref bu, .ref pa, .int mt, .int mh, .int 40, .int 0, .null, .int 0, .int 0]))] sz) t) (va_A [(mo, .inr (16, [.int th, .ref gl, .ref po, .ref pi, .ref bu, .ref pa, .int mt, .int mh, .int 40, .int 0, .null, .int 0, .int 0]))] sz)) 0 0 (va_A [(mo, .inr (16, [.int th, .ref gl, .ref po, .ref pi, .ref bu, .ref pa, .int mt, .int mh, .int 40, .int 0, .null, .int 0, .int 0]))] sz) := by
  refine Met.ofW (cc := cX11_drop) (maxL := 3) (ret := (some .int)) (by decide) rfl ?_
  intro p e s m args below meth c s₁ B hml hv
  obtain ⟨rfl, hsz, hP, hK, hD0, hT, hZ⟩ := hv
  have hx := B.exec
  have hb := B.bytes
  have hr := B.returns
  have hts := atoms_spec (ws := wzX11_drop) B.pre
  have hown : s.vm.findClass RX11 = some m.cls := findClass_of_methodNamed B.named
  have hlocks := B.notSynchronized
  subst hsz
  have hD := hD0.self (sz := s.heap.size)
  generalize hAe : va_A [(mo, .inr (16, [.int th, .ref gl, .ref po, .ref pi, .ref bu, .ref pa, .int mt, .int mh, .int 40, .int 0, .null, .int 0, .int 0]))] s.heap.size = A at hD hZ ⊢
  have hA : ∀ q : Nat, s.heap.size ≤ q → A q := fun q h => by rw [← hAe]; exact Or.inr h
  have hS : va_S A s.heap s.heap [] := va_S.rf
  have hl := lv_entry ([.ref mo, .int ii]) (n := 3) (Nat.le_of_ble_eq_true rfl)
  rw [lg_entry_eq]
  generalize (lg_sl ([.ref mo, .int ii]) ++ List.replicate (3 - (lg_sl ([.ref mo, .int ii])).length) Slot.unset).toArray = ls at hl ⊢
  have hl : lv_has ls 3 [(0, .ref mo), (1, .int ii)] := hl
  refine lv_aload_n hx hb dX11_drop_0 rfl (lv_at hl 0 rfl) ?_
  refine lv_iload_n hx hb dX11_drop_1 rfl (lv_at hl 1 rfl) ?_
  refine lv_bipush (v := 10) hx hb dX11_drop_2 (by decide) ?_
  refine lv_sipush (v := 200) hx hb dX11_drop_4 (by decide) ?_
  refine vp_callSi (va_runS (As := [.int ii, .int 10, .int 200]) (rest := [.ref mo]) ⟨hx, hb, hml, hown, hts⟩ (zc_X11_in l D G ii 10 200) (cwS 3 hts gzX11_drop_X11_in_47 rfl rfl rfl (by decide +kernel) ⟨(Nat.le_of_ble_eq_true rfl), (Nat.le_of_ble_eq_true rfl)⟩) ⟨p_RO_blind, (p_RO_at (tc := []) (wc := []) hP hK hT [] [] rfl rfl [.int ii, .int 10, .int 200])⟩ rfl rfl hl.1 rfl (lv_room (Nat.le_of_ble_eq_true rfl)) dX11_drop_7 ⟨(Nat.le_of_ble_eq_true rfl), (Nat.le_of_ble_eq_true rfl)⟩).run (fun r_558 w_559 => ?_)
  rcases w_559 with ⟨c_560, rfl⟩ | ⟨c_561, rfl⟩
  · refine lv_if_eq (tgt := 17) hx hb dX11_drop_10 (by decide) (fun cc => absurd cc (by decide)) (fun _ => ?_)
    refine lv_iconst (v := 0) hx hb dX11_drop_13 (by decide) ?_
    refine lv_goto (tgt := 18) hx hb dX11_drop_14 (by decide) ?_
    refine va_put (D := D) (cl := vwCl) (ci := 16) (v := .int 0) (ty := .int) (C := RX11) (T := TX11) (N := 13) hx hb hts zuX11_drop_X11 tyX11 tyX11_ok nmX11 hown hK hP hD hS 0 rfl rfl 0 (by decide) (hts (.fieldLink RX11 41 "GatherhouseModel" "thrown" "I") (by decide +kernel)) (fun _ h9 => h9) rfl (by decide +kernel) rfl rfl (Nat.le_of_ble_eq_true rfl) dX11_drop_18 (fun H locs hP hD hS => ?_)
    have hP : va_P D vwCl [(mo, .inr (16, [.int 0, .ref gl, .ref po, .ref pi, .ref bu, .ref pa, .int mt, .int mh, .int 40, .int 0, .null, .int 0, .int 0]))] H := hP
    have hD : va_D A [(mo, .inr (16, [.int 0, .ref gl, .ref po, .ref pi, .ref bu, .ref pa, .int mt, .int mh, .int 40, .int 0, .null, .int 0, .int 0]))] := hD
    refine lv_aload_n hx hb dX11_drop_21 rfl (lv_at hl 0 rfl) ?_
    refine va_get (D := D) (cl := vwCl) (ci := 16) (v := .int 0) (C := RX11) (T := TX11) (N := 13) hx hb hts zuX11_drop_X11 hown hK hP 0 rfl rfl 0 (by decide) (hts (.fieldLink RX11 41 "GatherhouseModel" "thrown" "I") (by decide +kernel)) (fun _ h9 => h9) rfl dX11_drop_22 ?_
    refine lv_if_le (tgt := 30) hx hb dX11_drop_25 (by decide) (fun _ => ?_) (fun cc => absurd (by decide) cc)
    refine lv_aload_n hx hb dX11_drop_30 rfl (lv_at hl 0 rfl) ?_
    refine va_get (D := D) (cl := vwCl) (ci := 16) (v := .int 40) (C := RX11) (T := TX11) (N := 13) hx hb hts zuX11_drop_X11 hown hK hP 0 rfl rfl 8 (by decide) (hts (.fieldLink RX11 37 "GatherhouseModel" "drop" "I") (by decide +kernel)) (fun _ h9 => h9) rfl dX11_drop_31 ?_
    refine lv_istore_n (lv' := [(2, .int 40), (0, .ref mo), (1, .int ii)]) hx hb dX11_drop_34 rfl hl (by decide) rfl (fun ls hl => ?_)
    refine lv_aload_n hx hb dX11_drop_35 rfl (lv_at hl 1 rfl) ?_
    refine lv_iload_n hx hb dX11_drop_36 rfl (lv_at hl 2 rfl) ?_
    refine va_put (D := D) (cl := vwCl) (ci := 16) (v := .int ii) (ty := .int) (C := RX11) (T := TX11) (N := 13) hx hb hts zuX11_drop_X11 tyX11 tyX11_ok nmX11 hown hK hP hD hS 0 rfl rfl 8 (by decide) (hts (.fieldLink RX11 37 "GatherhouseModel" "drop" "I") (by decide +kernel)) (fun _ h9 => h9) rfl (by decide +kernel) rfl rfl (Nat.le_of_ble_eq_true rfl) dX11_drop_37 (fun H locs hP hD hS => ?_)
    have hP : va_P D vwCl [(mo, .inr (16, [.int 0, .ref gl, .ref po, .ref pi, .ref bu, .ref pa, .int mt, .int mh, .int ii, .int 0, .null, .int 0, .int 0]))] H := hP
    have hD : va_D A [(mo, .inr (16, [.int 0, .ref gl, .ref po, .ref pi, .ref bu, .ref pa, .int mt, .int mh, .int ii, .int 0, .null, .int 0, .int 0]))] := hD
    refine lv_iload_n hx hb dX11_drop_40 rfl (lv_at hl 0 rfl) ?_
    exact W.iret (v := 40) hx hb hr (fun t ht hW => ⟨⟨40, (0, ii), rfl, (Or.inl (⟨(by first | assumption | exact inR_1 (by assumption) (by assumption) | exact inR_2 (by assumption) (by assumption) | exact inR_3 (by assumption) | exact inR_4 (by assumption) | exact inR_5 (by assumption) | exact ⟨by assumption, by assumption, by assumption, by assumption⟩ | exact ⟨by assumption, by assumption, by assumption⟩ | exact (fun q => absurd q.1 (by assumption)) | exact (fun q => absurd q.2.1 (by assumption)) | exact (fun q => absurd q.2.2 (by assumption)) | exact (fun q => absurd q.2.2.1 (by assumption)) | exact (fun q => absurd q.2.2.2 (by assumption)) | exact isRole_no (by assumption) (by assumption) (by assumption) (by assumption) | exact isRole_nb (by assumption) (by assumption) (by assumption) (by assumption) | exact isRole_out (by assumption) | exact enc_use (by assumption) (by assumption) (by assumption) | exact enc_103 (by assumption) | exact enc_103 (Eq.symm (by assumption)) | exact enc_115 (Eq.symm (by assumption)) | exact enc_102 (Eq.symm (by assumption)) | exact enc_98 (Eq.symm (by assumption)) | exact isRole_nc (by assumption) (by assumption) (by assumption) (by assumption) | exact enc_115 (by assumption) | exact enc_102 (by assumption) | exact enc_98 (by assumption) | exact Or.inr (by assumption) | rfl | exact Or.inl (by assumption) | exact Or.inr (Or.inl (by assumption)) | exact Or.inr (Or.inr (Or.inl (by assumption))) | exact Or.inr (Or.inr (Or.inr (by assumption))) | decide), rfl, (by first | rfl | assumption), (by first | rfl | assumption)⟩)), q_RW_mk hP hK hD [0] [] rfl rfl (by decide) rfl ht hW.alike⟩, hS.F ht⟩) hS.2.2 dX11_drop_41
  · refine lv_if_eq (tgt := 17) hx hb dX11_drop_10 (by decide) (fun _ => ?_) (fun cc => absurd (by decide) cc)
    refine lv_iconst (v := 1) hx hb dX11_drop_17 (by decide) ?_
    refine va_put (D := D) (cl := vwCl) (ci := 16) (v := .int 1) (ty := .int) (C := RX11) (T := TX11) (N := 13) hx hb hts zuX11_drop_X11 tyX11 tyX11_ok nmX11 hown hK hP hD hS 0 rfl rfl 0 (by decide) (hts (.fieldLink RX11 41 "GatherhouseModel" "thrown" "I") (by decide +kernel)) (fun _ h9 => h9) rfl (by decide +kernel) rfl rfl (Nat.le_of_ble_eq_true rfl) dX11_drop_18 (fun H locs hP hD hS => ?_)
    have hP : va_P D vwCl [(mo, .inr (16, [.int 1, .ref gl, .ref po, .ref pi, .ref bu, .ref pa, .int mt, .int mh, .int 40, .int 0, .null, .int 0, .int 0]))] H := hP
    have hD : va_D A [(mo, .inr (16, [.int 1, .ref gl, .ref po, .ref pi, .ref bu, .ref pa, .int mt, .int mh, .int 40, .int 0, .null, .int 0, .int 0]))] := hD
    refine lv_aload_n hx hb dX11_drop_21 rfl (lv_at hl 0 rfl) ?_
    refine va_get (D := D) (cl := vwCl) (ci := 16) (v := .int 1) (C := RX11) (T := TX11) (N := 13) hx hb hts zuX11_drop_X11 hown hK hP 0 rfl rfl 0 (by decide) (hts (.fieldLink RX11 41 "GatherhouseModel" "thrown" "I") (by decide +kernel)) (fun _ h9 => h9) rfl dX11_drop_22 ?_
    refine lv_if_le (tgt := 30) hx hb dX11_drop_25 (by decide) (fun cc => absurd cc (by decide)) (fun _ => ?_)
    refine lv_iconst (v := 0) hx hb dX11_drop_28 (by decide) ?_
    exact W.iret (v := 0) hx hb hr (fun t ht hW => ⟨⟨0, (1, 40), rfl, (Or.inr (⟨(by first | assumption | exact inR_1 (by assumption) (by assumption) | exact inR_2 (by assumption) (by assumption) | exact inR_3 (by assumption) | exact inR_4 (by assumption) | exact inR_5 (by assumption) | exact ⟨by assumption, by assumption, by assumption, by assumption⟩ | exact ⟨by assumption, by assumption, by assumption⟩ | exact (fun q => absurd q.1 (by assumption)) | exact (fun q => absurd q.2.1 (by assumption)) | exact (fun q => absurd q.2.2 (by assumption)) | exact (fun q => absurd q.2.2.1 (by assumption)) | exact (fun q => absurd q.2.2.2 (by assumption)) | exact isRole_no (by assumption) (by assumption) (by assumption) (by assumption) | exact isRole_nb (by assumption) (by assumption) (by assumption) (by assumption) | exact isRole_out (by assumption) | exact enc_use (by assumption) (by assumption) (by assumption) | exact enc_103 (by assumption) | exact enc_103 (Eq.symm (by assumption)) | exact enc_115 (Eq.symm (by assumption)) | exact enc_102 (Eq.symm (by assumption)) | exact enc_98 (Eq.symm (by assumption)) | exact isRole_nc (by assumption) (by assumption) (by assumption) (by assumption) | exact enc_115 (by assumption) | exact enc_102 (by assumption) | exact enc_98 (by assumption) | exact Or.inr (by assumption) | rfl | exact Or.inl (by assumption) | exact Or.inr (Or.inl (by assumption)) | exact Or.inr (Or.inr (Or.inl (by assumption))) | exact Or.inr (Or.inr (Or.inr (by assumption))) | decide), rfl, (by first | rfl | assumption), (by first | rfl | assumption)⟩)), q_RW_mk hP hK hD [0] [] rfl rfl (by decide) rfl ht hW.alike⟩, hS.F ht⟩) hS.2.2 dX11_drop_29
theorem dX11_noRole_0 : decode cX11_noRole 0 = .ok (.aload_n 0, 1) := by decide +kernel
theorem dX11_noRole_1 : decode cX11_noRole 1 = .ok (.ldc 22, 2) := by decide +kernel
theorem dX11_noRole_3 : decode cX11_noRole 3 = .ok (.iload_n 1, 1) := by decide +kernel
theorem dX11_noRole_4 : decode cX11_noRole 4 = .ok (.invokevirtual 102, 3) := by decide +kernel
theorem dX11_noRole_7 : decode cX11_noRole 7 = .ok (.ifCond .lt 7, 3) := by decide +kernel
theorem dX11_noRole_10 : decode cX11_noRole 10 = .ok (.iconst 0, 1) := by decide +kernel
theorem dX11_noRole_11 : decode cX11_noRole 11 = .ok (.goto 4, 3) := by decide +kernel
theorem dX11_noRole_15 : decode cX11_noRole 15 = .ok (.putfield 41, 3) := by decide +kernel
theorem dX11_noRole_18 : decode cX11_noRole 18 = .ok (.aload_n 0, 1) := by decide +kernel
theorem dX11_noRole_19 : decode cX11_noRole 19 = .ok (.getfield 41, 3) := by decide +kernel
theorem dX11_noRole_22 : decode cX11_noRole 22 = .ok (.ifCond .le 7, 3) := by decide +kernel
theorem dX11_noRole_29 : decode cX11_noRole 29 = .ok (.iconst 0, 1) := by decide +kernel
theorem dX11_noRole_30 : decode cX11_noRole 30 = .ok (.ireturn, 1) := by decide +kernel
theorem dX11_noRole_14 : decode cX11_noRole 14 = .ok (.iconst 1, 1) := by decide +kernel
theorem dX11_noRole_25 : decode cX11_noRole 25 = .ok (.iconst 1, 1) := by decide +kernel
theorem dX11_noRole_26 : decode cX11_noRole 26 = .ok (.goto 4, 3) := by decide +kernel
def wzEX11_noRole : List Cond := [.code yX11_noRole cX11_noRole 2 (some .boolean), .methodLink RX11 102 yJ0_indexOf_0f7a4, .instanceMethod yJ0_indexOf_0f7a4, .selects RJ0 yJ0_indexOf_0f7a4 yJ0_indexOf_0f7a4, .initialized RJ0, .code yJ0_indexOf_0f7a4 cJ0_indexOf_0f7a4 2 (some .int), .methodLink RJ0 633 yJ0_indexOf_7cf53, .instanceMethod yJ0_indexOf_7cf53, .selects RJ0 yJ0_indexOf_7cf53 yJ0_indexOf_7cf53, .code yJ0_indexOf_7cf53 cJ0_indexOf_7cf53 3 (some .int), .methodLink RJ0 492 yJ0_isLatin1_aae02, .instanceMethod yJ0_isLatin1_aae02, .selects RJ0 yJ0_isLatin1_aae02 yJ0_isLatin1_aae02, .code yJ0_isLatin1_aae02 cJ0_isLatin1_aae02 1 (some .boolean), .fieldLink RJ0 38 "java/lang/String" "COMPACT_STRINGS" "Z", .fieldLink RJ0 15 "java/lang/String" "coder" "B", .fieldLink RJ0 9 "java/lang/String" "value" "[B", .methodLink RJ0 505 yJ0_length_8abf5, .instanceMethod yJ0_length_8abf5, .selects RJ0 yJ0_length_8abf5 yJ0_length_8abf5, .code yJ0_length_8abf5 cJ0_length_8abf5 1 (some .int), .methodLink RJ0 335 yJ0_coder_7d493, .instanceMethod yJ0_coder_7d493, .selects RJ0 yJ0_coder_7d493 yJ0_coder_7d493, .code yJ0_coder_7d493 cJ0_coder_7d493 1 (some .byte), .methodLink RJ0 637 yJ1_indexOf_4cfef, .static yJ1_indexOf_4cfef, .initialized RJ1, .code yJ1_indexOf_4cfef cJ1_indexOf_4cfef 4 (some .int), .methodLink RJ1 88 yJ1_canEncode_9a6ad, .static yJ1_canEncode_9a6ad, .code yJ1_canEncode_9a6ad cJ1_canEncode_9a6ad 1 (some .boolean), .methodLink RJ1 92 Lib.Math.max.name, .static Lib.Math.max.name, .initialized "java/lang/Math", .code Lib.Math.max.name Lib.Math.max.code 2 (some .int), .methodLink RJ1 38 Lib.Math.min.name, .static Lib.Math.min.name, .code Lib.Math.min.name Lib.Math.min.code 2 (some .int), .methodLink RJ1 95 yJ1_indexOfChar_4cfef, .static yJ1_indexOfChar_4cfef, .code yJ1_indexOfChar_4cfef cJ1_indexOfChar_4cfef 6 (some .int), .fieldLink RX11 41 "GatherhouseModel" "thrown" "I"]
def wzX11_noRole : List Cond := wzEX11_noRole ++ (u_ws RX11 TX11 13)
theorem zgEX11_noRole : wzEX11_noRole.all goodWord = true := by decide +kernel
theorem zuX11_noRole_X11 : ∀ w ∈ u_ws RX11 TX11 13, w ∈ wzX11_noRole := (fun _ h => (List.mem_append_right _ h))
theorem gzX11_noRole_J0_indexOf_0f7a4_102 : GoodIn wzX11_noRole (wsV RX11 102 RJ0 yJ0_indexOf_0f7a4 wzJ0_indexOf_0f7a4) := (goodIn_app (z_lift (goodIn_r _ [1, 2, 3, 4] rfl (by decide +kernel))) (goodIn_app (z_lift (goodIn_r wzEJ0_indexOf_0f7a4 [5, 6, 7, 8, 4, 9, 10, 11, 12, 13, 14, 15, 16, 17, 18, 19, 20, 21, 22, 23, 24, 25, 26, 27, 28, 29, 30, 31, 32, 33, 34, 35, 36, 37, 38, 39, 40, 41] rfl zgEJ0_indexOf_0f7a4)) z_gnil))
set_option maxHeartbeats 4000000 in
set_option maxRecDepth 100000 in
theorem zc_X11_noRole (l : Launch) (D : va_G) (G : Nat × Nat × Nat) (mo : Nat) (gl : Nat) (po : Nat) (pi : Nat) (bu : Nat) (pa : Nat) (th : Int32) (mh : Int32) (mt : Int32) (ch : Int32) (sz : Nat) : Met l yX11_noRole wzX11_noRole ({ frames := 4, cells := 0, slots := 0, locals := 91 }) (va_Pc [.ref mo, .int ch] (p_RW D G [] [(mo, .inr (16, [.int th, .ref gl, .ref po, .ref pi, .ref bu, .ref pa, .int mt, .int mh, .int 40, .int 0, .null, .int 0, .int 0]))] sz)) (va_Qi (fun (r : Int32) (u : Int32) => match u with | u1 => (isRole ch ∧ r = 0 ∧ u1 = 0) ∨ (¬ isRole ch ∧ r = 1 ∧ u1 = 1)) (fun (u : Int32) (t : State) => match u with | u1 => q_RW D [] [(mo, .inr (16, [.int u1, .ref gl, .ref po, .ref pi, .ref bu, .ref pa, .int mt, .int mh, .int 40, .int 0, .null, .int 0, .int 0]))] (va_A [(mo, .inr (16, [.int th, .ref gl, .ref po, .ref pi, .ref bu, .ref pa, .int mt, .int mh, .int 40, .int 0, .null, .int 0, .int 0]))] sz) t) (va_A [(mo, .inr (16, [.int th, .ref gl, .ref po, .ref pi, .ref bu, .ref pa, .int mt, .int mh, .int 40, .int 0, .null, .int 0, .int 0]))] sz)) 0 0 (va_A [(mo, .inr (16, [.int th, .ref gl, .ref po, .ref pi, .ref bu, .ref pa, .int mt, .int mh, .int 40, .int 0, .null, .int 0, .int 0]))] sz) := by
  refine Met.ofW (cc := cX11_noRole) (maxL := 2) (ret := (some .boolean)) (by decide) rfl ?_
  intro p e s m args below meth c s₁ B hml hv
  obtain ⟨rfl, hsz, hP, hK, hD0, hT, hZ⟩ := hv
  have hx := B.exec
  have hb := B.bytes
  have hr := B.returns
  have hts := atoms_spec (ws := wzX11_noRole) B.pre
  have hown : s.vm.findClass RX11 = some m.cls := findClass_of_methodNamed B.named
  have hlocks := B.notSynchronized
  subst hsz
  have hD := hD0.self (sz := s.heap.size)
  generalize hAe : va_A [(mo, .inr (16, [.int th, .ref gl, .ref po, .ref pi, .ref bu, .ref pa, .int mt, .int mh, .int 40, .int 0, .null, .int 0, .int 0]))] s.heap.size = A at hD hZ ⊢
  have hA : ∀ q : Nat, s.heap.size ≤ q → A q := fun q h => by rw [← hAe]; exact Or.inr h
  have hS : va_S A s.heap s.heap [] := va_S.rf
  have hl := lv_entry ([.ref mo, .int ch]) (n := 2) (Nat.le_of_ble_eq_true rfl)
  rw [lg_entry_eq]
  generalize (lg_sl ([.ref mo, .int ch]) ++ List.replicate (2 - (lg_sl ([.ref mo, .int ch])).length) Slot.unset).toArray = ls at hl ⊢
  have hl : lv_has ls 2 [(0, .ref mo), (1, .int ch)] := hl
  refine lv_aload_n hx hb dX11_noRole_0 rfl (lv_at hl 0 rfl) ?_
  refine va_ldcS hx hb hown hT.2.2.2.2.2.2.2.2 dX11_noRole_1 ?_
  refine lv_iload_n hx hb dX11_noRole_3 rfl (lv_at hl 1 rfl) ?_
  have hFc := va_free (wc := []) hD hS hA [] rfl
  refine va_calli (va_runV (As := [.int ch]) (rest := [.ref mo]) ⟨hx, hb, hml, hown, hts⟩ (zc_J0_indexOf_0f7a4 l D G ch s.heap.size) (cwV 1 hts gzX11_noRole_J0_indexOf_0f7a4_102 rfl rfl rfl (by decide +kernel) ⟨(Nat.le_of_ble_eq_true rfl), (Nat.le_of_ble_eq_true rfl)⟩) ⟨p_RW_blind, vk_recv hZ.2.2.2.2.2 (i := 0) (by decide) hS, (p_RW_at (tc := []) (wc := []) hP hK hD hS hA hT hZ [] [] rfl rfl (by decide) rfl [.ref G.2.1, .int ch])⟩ rfl rfl hl.1 rfl (lv_room (Nat.le_of_ble_eq_true rfl)) dX11_noRole_4 ⟨(Nat.le_of_ble_eq_true rfl), (Nat.le_of_ble_eq_true rfl)⟩) hS (fun q _ h => hFc q h) hFc (fun r_562 u t H locs ht hvm w_563 hB hz1 hk1 hS => ?_)
  obtain ⟨hP, hD, hK⟩ := q_join (D := D) (wc := []) (wr := [(mo, .inr (16, [.int th, .ref gl, .ref po, .ref pi, .ref bu, .ref pa, .int mt, .int mh, .int 40, .int 0, .null, .int 0, .int 0]))]) (w1 := []) (tyr := []) (ty1 := []) hP hD hK [] [0] [] rfl rfl (by decide) (by decide) rfl hFc hk1 ht hvm hB
  have hP : va_P D vwCl [(mo, .inr (16, [.int th, .ref gl, .ref po, .ref pi, .ref bu, .ref pa, .int mt, .int mh, .int 40, .int 0, .null, .int 0, .int 0]))] H := hP
  have hD : va_D A [(mo, .inr (16, [.int th, .ref gl, .ref po, .ref pi, .ref bu, .ref pa, .int mt, .int mh, .int 40, .int 0, .null, .int 0, .int 0]))] := hD
  have hK : va_K D vwCl [] s := hK
  rcases w_563 with ⟨c_564, rfl⟩ | ⟨c_565, rfl⟩ | ⟨c_566, rfl⟩ | ⟨c_567, rfl⟩ | ⟨c_568, rfl⟩
  · refine lv_if_lt (tgt := 14) hx hb dX11_noRole_7 (by decide) (fun cc => absurd cc (by decide)) (fun _ => ?_)
    refine lv_iconst (v := 0) hx hb dX11_noRole_10 (by decide) ?_
    refine lv_goto (tgt := 15) hx hb dX11_noRole_11 (by decide) ?_
    refine va_put (D := D) (cl := vwCl) (ci := 16) (v := .int 0) (ty := .int) (C := RX11) (T := TX11) (N := 13) hx hb hts zuX11_noRole_X11 tyX11 tyX11_ok nmX11 hown hK hP hD hS 0 rfl rfl 0 (by decide) (hts (.fieldLink RX11 41 "GatherhouseModel" "thrown" "I") (by decide +kernel)) (fun _ h9 => h9) rfl (by decide +kernel) rfl rfl (Nat.le_of_ble_eq_true rfl) dX11_noRole_15 (fun H locs hP hD hS => ?_)
    have hP : va_P D vwCl [(mo, .inr (16, [.int 0, .ref gl, .ref po, .ref pi, .ref bu, .ref pa, .int mt, .int mh, .int 40, .int 0, .null, .int 0, .int 0]))] H := hP
    have hD : va_D A [(mo, .inr (16, [.int 0, .ref gl, .ref po, .ref pi, .ref bu, .ref pa, .int mt, .int mh, .int 40, .int 0, .null, .int 0, .int 0]))] := hD
    refine lv_aload_n hx hb dX11_noRole_18 rfl (lv_at hl 0 rfl) ?_
    refine va_get (D := D) (cl := vwCl) (ci := 16) (v := .int 0) (C := RX11) (T := TX11) (N := 13) hx hb hts zuX11_noRole_X11 hown hK hP 0 rfl rfl 0 (by decide) (hts (.fieldLink RX11 41 "GatherhouseModel" "thrown" "I") (by decide +kernel)) (fun _ h9 => h9) rfl dX11_noRole_19 ?_
    refine lv_if_le (tgt := 29) hx hb dX11_noRole_22 (by decide) (fun _ => ?_) (fun cc => absurd (by decide) cc)
    refine lv_iconst (v := 0) hx hb dX11_noRole_29 (by decide) ?_
    exact W.zret (v := 0) hx hb hr rfl (fun t ht hW => ⟨⟨0, 0, rfl, (Or.inl (⟨(by first | assumption | exact inR_1 (by assumption) (by assumption) | exact inR_2 (by assumption) (by assumption) | exact inR_3 (by assumption) | exact inR_4 (by assumption) | exact inR_5 (by assumption) | exact ⟨by assumption, by assumption, by assumption, by assumption⟩ | exact ⟨by assumption, by assumption, by assumption⟩ | exact (fun q => absurd q.1 (by assumption)) | exact (fun q => absurd q.2.1 (by assumption)) | exact (fun q => absurd q.2.2 (by assumption)) | exact (fun q => absurd q.2.2.1 (by assumption)) | exact (fun q => absurd q.2.2.2 (by assumption)) | exact isRole_no (by assumption) (by assumption) (by assumption) (by assumption) | exact isRole_nb (by assumption) (by assumption) (by assumption) (by assumption) | exact isRole_out (by assumption) | exact enc_use (by assumption) (by assumption) (by assumption) | exact enc_103 (by assumption) | exact enc_103 (Eq.symm (by assumption)) | exact enc_115 (Eq.symm (by assumption)) | exact enc_102 (Eq.symm (by assumption)) | exact enc_98 (Eq.symm (by assumption)) | exact isRole_nc (by assumption) (by assumption) (by assumption) (by assumption) | exact enc_115 (by assumption) | exact enc_102 (by assumption) | exact enc_98 (by assumption) | exact Or.inr (by assumption) | rfl | exact Or.inl (by assumption) | exact Or.inr (Or.inl (by assumption)) | exact Or.inr (Or.inr (Or.inl (by assumption))) | exact Or.inr (Or.inr (Or.inr (by assumption))) | decide), rfl, (by first | rfl | assumption)⟩)), q_RW_mk hP hK hD [0] [] rfl rfl (by decide) rfl ht hW.alike⟩, hS.F ht⟩) hS.2.2 dX11_noRole_30
  · refine lv_if_lt (tgt := 14) hx hb dX11_noRole_7 (by decide) (fun cc => absurd cc (by decide)) (fun _ => ?_)
    refine lv_iconst (v := 0) hx hb dX11_noRole_10 (by decide) ?_
    refine lv_goto (tgt := 15) hx hb dX11_noRole_11 (by decide) ?_
    refine va_put (D := D) (cl := vwCl) (ci := 16) (v := .int 0) (ty := .int) (C := RX11) (T := TX11) (N := 13) hx hb hts zuX11_noRole_X11 tyX11 tyX11_ok nmX11 hown hK hP hD hS 0 rfl rfl 0 (by decide) (hts (.fieldLink RX11 41 "GatherhouseModel" "thrown" "I") (by decide +kernel)) (fun _ h9 => h9) rfl (by decide +kernel) rfl rfl (Nat.le_of_ble_eq_true rfl) dX11_noRole_15 (fun H locs hP hD hS => ?_)
    have hP : va_P D vwCl [(mo, .inr (16, [.int 0, .ref gl, .ref po, .ref pi, .ref bu, .ref pa, .int mt, .int mh, .int 40, .int 0, .null, .int 0, .int 0]))] H := hP
    have hD : va_D A [(mo, .inr (16, [.int 0, .ref gl, .ref po, .ref pi, .ref bu, .ref pa, .int mt, .int mh, .int 40, .int 0, .null, .int 0, .int 0]))] := hD
    refine lv_aload_n hx hb dX11_noRole_18 rfl (lv_at hl 0 rfl) ?_
    refine va_get (D := D) (cl := vwCl) (ci := 16) (v := .int 0) (C := RX11) (T := TX11) (N := 13) hx hb hts zuX11_noRole_X11 hown hK hP 0 rfl rfl 0 (by decide) (hts (.fieldLink RX11 41 "GatherhouseModel" "thrown" "I") (by decide +kernel)) (fun _ h9 => h9) rfl dX11_noRole_19 ?_
    refine lv_if_le (tgt := 29) hx hb dX11_noRole_22 (by decide) (fun _ => ?_) (fun cc => absurd (by decide) cc)
    refine lv_iconst (v := 0) hx hb dX11_noRole_29 (by decide) ?_
    exact W.zret (v := 0) hx hb hr rfl (fun t ht hW => ⟨⟨0, 0, rfl, (Or.inl (⟨(by first | assumption | exact inR_1 (by assumption) (by assumption) | exact inR_2 (by assumption) (by assumption) | exact inR_3 (by assumption) | exact inR_4 (by assumption) | exact inR_5 (by assumption) | exact ⟨by assumption, by assumption, by assumption, by assumption⟩ | exact ⟨by assumption, by assumption, by assumption⟩ | exact (fun q => absurd q.1 (by assumption)) | exact (fun q => absurd q.2.1 (by assumption)) | exact (fun q => absurd q.2.2 (by assumption)) | exact (fun q => absurd q.2.2.1 (by assumption)) | exact (fun q => absurd q.2.2.2 (by assumption)) | exact isRole_no (by assumption) (by assumption) (by assumption) (by assumption) | exact isRole_nb (by assumption) (by assumption) (by assumption) (by assumption) | exact isRole_out (by assumption) | exact enc_use (by assumption) (by assumption) (by assumption) | exact enc_103 (by assumption) | exact enc_103 (Eq.symm (by assumption)) | exact enc_115 (Eq.symm (by assumption)) | exact enc_102 (Eq.symm (by assumption)) | exact enc_98 (Eq.symm (by assumption)) | exact isRole_nc (by assumption) (by assumption) (by assumption) (by assumption) | exact enc_115 (by assumption) | exact enc_102 (by assumption) | exact enc_98 (by assumption) | exact Or.inr (by assumption) | rfl | exact Or.inl (by assumption) | exact Or.inr (Or.inl (by assumption)) | exact Or.inr (Or.inr (Or.inl (by assumption))) | exact Or.inr (Or.inr (Or.inr (by assumption))) | decide), rfl, (by first | rfl | assumption)⟩)), q_RW_mk hP hK hD [0] [] rfl rfl (by decide) rfl ht hW.alike⟩, hS.F ht⟩) hS.2.2 dX11_noRole_30
  · refine lv_if_lt (tgt := 14) hx hb dX11_noRole_7 (by decide) (fun cc => absurd cc (by decide)) (fun _ => ?_)
    refine lv_iconst (v := 0) hx hb dX11_noRole_10 (by decide) ?_
    refine lv_goto (tgt := 15) hx hb dX11_noRole_11 (by decide) ?_
    refine va_put (D := D) (cl := vwCl) (ci := 16) (v := .int 0) (ty := .int) (C := RX11) (T := TX11) (N := 13) hx hb hts zuX11_noRole_X11 tyX11 tyX11_ok nmX11 hown hK hP hD hS 0 rfl rfl 0 (by decide) (hts (.fieldLink RX11 41 "GatherhouseModel" "thrown" "I") (by decide +kernel)) (fun _ h9 => h9) rfl (by decide +kernel) rfl rfl (Nat.le_of_ble_eq_true rfl) dX11_noRole_15 (fun H locs hP hD hS => ?_)
    have hP : va_P D vwCl [(mo, .inr (16, [.int 0, .ref gl, .ref po, .ref pi, .ref bu, .ref pa, .int mt, .int mh, .int 40, .int 0, .null, .int 0, .int 0]))] H := hP
    have hD : va_D A [(mo, .inr (16, [.int 0, .ref gl, .ref po, .ref pi, .ref bu, .ref pa, .int mt, .int mh, .int 40, .int 0, .null, .int 0, .int 0]))] := hD
    refine lv_aload_n hx hb dX11_noRole_18 rfl (lv_at hl 0 rfl) ?_
    refine va_get (D := D) (cl := vwCl) (ci := 16) (v := .int 0) (C := RX11) (T := TX11) (N := 13) hx hb hts zuX11_noRole_X11 hown hK hP 0 rfl rfl 0 (by decide) (hts (.fieldLink RX11 41 "GatherhouseModel" "thrown" "I") (by decide +kernel)) (fun _ h9 => h9) rfl dX11_noRole_19 ?_
    refine lv_if_le (tgt := 29) hx hb dX11_noRole_22 (by decide) (fun _ => ?_) (fun cc => absurd (by decide) cc)
    refine lv_iconst (v := 0) hx hb dX11_noRole_29 (by decide) ?_
    exact W.zret (v := 0) hx hb hr rfl (fun t ht hW => ⟨⟨0, 0, rfl, (Or.inl (⟨(by first | assumption | exact inR_1 (by assumption) (by assumption) | exact inR_2 (by assumption) (by assumption) | exact inR_3 (by assumption) | exact inR_4 (by assumption) | exact inR_5 (by assumption) | exact ⟨by assumption, by assumption, by assumption, by assumption⟩ | exact ⟨by assumption, by assumption, by assumption⟩ | exact (fun q => absurd q.1 (by assumption)) | exact (fun q => absurd q.2.1 (by assumption)) | exact (fun q => absurd q.2.2 (by assumption)) | exact (fun q => absurd q.2.2.1 (by assumption)) | exact (fun q => absurd q.2.2.2 (by assumption)) | exact isRole_no (by assumption) (by assumption) (by assumption) (by assumption) | exact isRole_nb (by assumption) (by assumption) (by assumption) (by assumption) | exact isRole_out (by assumption) | exact enc_use (by assumption) (by assumption) (by assumption) | exact enc_103 (by assumption) | exact enc_103 (Eq.symm (by assumption)) | exact enc_115 (Eq.symm (by assumption)) | exact enc_102 (Eq.symm (by assumption)) | exact enc_98 (Eq.symm (by assumption)) | exact isRole_nc (by assumption) (by assumption) (by assumption) (by assumption) | exact enc_115 (by assumption) | exact enc_102 (by assumption) | exact enc_98 (by assumption) | exact Or.inr (by assumption) | rfl | exact Or.inl (by assumption) | exact Or.inr (Or.inl (by assumption)) | exact Or.inr (Or.inr (Or.inl (by assumption))) | exact Or.inr (Or.inr (Or.inr (by assumption))) | decide), rfl, (by first | rfl | assumption)⟩)), q_RW_mk hP hK hD [0] [] rfl rfl (by decide) rfl ht hW.alike⟩, hS.F ht⟩) hS.2.2 dX11_noRole_30
  · refine lv_if_lt (tgt := 14) hx hb dX11_noRole_7 (by decide) (fun cc => absurd cc (by decide)) (fun _ => ?_)
    refine lv_iconst (v := 0) hx hb dX11_noRole_10 (by decide) ?_
    refine lv_goto (tgt := 15) hx hb dX11_noRole_11 (by decide) ?_
    refine va_put (D := D) (cl := vwCl) (ci := 16) (v := .int 0) (ty := .int) (C := RX11) (T := TX11) (N := 13) hx hb hts zuX11_noRole_X11 tyX11 tyX11_ok nmX11 hown hK hP hD hS 0 rfl rfl 0 (by decide) (hts (.fieldLink RX11 41 "GatherhouseModel" "thrown" "I") (by decide +kernel)) (fun _ h9 => h9) rfl (by decide +kernel) rfl rfl (Nat.le_of_ble_eq_true rfl) dX11_noRole_15 (fun H locs hP hD hS => ?_)
    have hP : va_P D vwCl [(mo, .inr (16, [.int 0, .ref gl, .ref po, .ref pi, .ref bu, .ref pa, .int mt, .int mh, .int 40, .int 0, .null, .int 0, .int 0]))] H := hP
    have hD : va_D A [(mo, .inr (16, [.int 0, .ref gl, .ref po, .ref pi, .ref bu, .ref pa, .int mt, .int mh, .int 40, .int 0, .null, .int 0, .int 0]))] := hD
    refine lv_aload_n hx hb dX11_noRole_18 rfl (lv_at hl 0 rfl) ?_
    refine va_get (D := D) (cl := vwCl) (ci := 16) (v := .int 0) (C := RX11) (T := TX11) (N := 13) hx hb hts zuX11_noRole_X11 hown hK hP 0 rfl rfl 0 (by decide) (hts (.fieldLink RX11 41 "GatherhouseModel" "thrown" "I") (by decide +kernel)) (fun _ h9 => h9) rfl dX11_noRole_19 ?_
    refine lv_if_le (tgt := 29) hx hb dX11_noRole_22 (by decide) (fun _ => ?_) (fun cc => absurd (by decide) cc)
    refine lv_iconst (v := 0) hx hb dX11_noRole_29 (by decide) ?_
    exact W.zret (v := 0) hx hb hr rfl (fun t ht hW => ⟨⟨0, 0, rfl, (Or.inl (⟨(by first | assumption | exact inR_1 (by assumption) (by assumption) | exact inR_2 (by assumption) (by assumption) | exact inR_3 (by assumption) | exact inR_4 (by assumption) | exact inR_5 (by assumption) | exact ⟨by assumption, by assumption, by assumption, by assumption⟩ | exact ⟨by assumption, by assumption, by assumption⟩ | exact (fun q => absurd q.1 (by assumption)) | exact (fun q => absurd q.2.1 (by assumption)) | exact (fun q => absurd q.2.2 (by assumption)) | exact (fun q => absurd q.2.2.1 (by assumption)) | exact (fun q => absurd q.2.2.2 (by assumption)) | exact isRole_no (by assumption) (by assumption) (by assumption) (by assumption) | exact isRole_nb (by assumption) (by assumption) (by assumption) (by assumption) | exact isRole_out (by assumption) | exact enc_use (by assumption) (by assumption) (by assumption) | exact enc_103 (by assumption) | exact enc_103 (Eq.symm (by assumption)) | exact enc_115 (Eq.symm (by assumption)) | exact enc_102 (Eq.symm (by assumption)) | exact enc_98 (Eq.symm (by assumption)) | exact isRole_nc (by assumption) (by assumption) (by assumption) (by assumption) | exact enc_115 (by assumption) | exact enc_102 (by assumption) | exact enc_98 (by assumption) | exact Or.inr (by assumption) | rfl | exact Or.inl (by assumption) | exact Or.inr (Or.inl (by assumption)) | exact Or.inr (Or.inr (Or.inl (by assumption))) | exact Or.inr (Or.inr (Or.inr (by assumption))) | decide), rfl, (by first | rfl | assumption)⟩)), q_RW_mk hP hK hD [0] [] rfl rfl (by decide) rfl ht hW.alike⟩, hS.F ht⟩) hS.2.2 dX11_noRole_30
  · refine lv_if_lt (tgt := 14) hx hb dX11_noRole_7 (by decide) (fun _ => ?_) (fun cc => absurd (by decide) cc)
    refine lv_iconst (v := 1) hx hb dX11_noRole_14 (by decide) ?_
    refine va_put (D := D) (cl := vwCl) (ci := 16) (v := .int 1) (ty := .int) (C := RX11) (T := TX11) (N := 13) hx hb hts zuX11_noRole_X11 tyX11 tyX11_ok nmX11 hown hK hP hD hS 0 rfl rfl 0 (by decide) (hts (.fieldLink RX11 41 "GatherhouseModel" "thrown" "I") (by decide +kernel)) (fun _ h9 => h9) rfl (by decide +kernel) rfl rfl (Nat.le_of_ble_eq_true rfl) dX11_noRole_15 (fun H locs hP hD hS => ?_)
    have hP : va_P D vwCl [(mo, .inr (16, [.int 1, .ref gl, .ref po, .ref pi, .ref bu, .ref pa, .int mt, .int mh, .int 40, .int 0, .null, .int 0, .int 0]))] H := hP
    have hD : va_D A [(mo, .inr (16, [.int 1, .ref gl, .ref po, .ref pi, .ref bu, .ref pa, .int mt, .int mh, .int 40, .int 0, .null, .int 0, .int 0]))] := hD
    refine lv_aload_n hx hb dX11_noRole_18 rfl (lv_at hl 0 rfl) ?_
    refine va_get (D := D) (cl := vwCl) (ci := 16) (v := .int 1) (C := RX11) (T := TX11) (N := 13) hx hb hts zuX11_noRole_X11 hown hK hP 0 rfl rfl 0 (by decide) (hts (.fieldLink RX11 41 "GatherhouseModel" "thrown" "I") (by decide +kernel)) (fun _ h9 => h9) rfl dX11_noRole_19 ?_
    refine lv_if_le (tgt := 29) hx hb dX11_noRole_22 (by decide) (fun cc => absurd cc (by decide)) (fun _ => ?_)
    refine lv_iconst (v := 1) hx hb dX11_noRole_25 (by decide) ?_
    refine lv_goto (tgt := 30) hx hb dX11_noRole_26 (by decide) ?_
    exact W.zret (v := 1) hx hb hr rfl (fun t ht hW => ⟨⟨1, 1, rfl, (Or.inr (⟨(by first | assumption | exact inR_1 (by assumption) (by assumption) | exact inR_2 (by assumption) (by assumption) | exact inR_3 (by assumption) | exact inR_4 (by assumption) | exact inR_5 (by assumption) | exact ⟨by assumption, by assumption, by assumption, by assumption⟩ | exact ⟨by assumption, by assumption, by assumption⟩ | exact (fun q => absurd q.1 (by assumption)) | exact (fun q => absurd q.2.1 (by assumption)) | exact (fun q => absurd q.2.2 (by assumption)) | exact (fun q => absurd q.2.2.1 (by assumption)) | exact (fun q => absurd q.2.2.2 (by assumption)) | exact isRole_no (by assumption) (by assumption) (by assumption) (by assumption) | exact isRole_nb (by assumption) (by assumption) (by assumption) (by assumption) | exact isRole_out (by assumption) | exact enc_use (by assumption) (by assumption) (by assumption) | exact enc_103 (by assumption) | exact enc_103 (Eq.symm (by assumption)) | exact enc_115 (Eq.symm (by assumption)) | exact enc_102 (Eq.symm (by assumption)) | exact enc_98 (Eq.symm (by assumption)) | exact isRole_nc (by assumption) (by assumption) (by assumption) (by assumption) | exact enc_115 (by assumption) | exact enc_102 (by assumption) | exact enc_98 (by assumption) | exact Or.inr (by assumption) | rfl | exact Or.inl (by assumption) | exact Or.inr (Or.inl (by assumption)) | exact Or.inr (Or.inr (Or.inl (by assumption))) | exact Or.inr (Or.inr (Or.inr (by assumption))) | decide), rfl, (by first | rfl | assumption)⟩)), q_RW_mk hP hK hD [0] [] rfl rfl (by decide) rfl ht hW.alike⟩, hS.F ht⟩) hS.2.2 dX11_noRole_30
theorem dX11_busy_0 : decode cX11_busy 0 = .ok (.aload_n 0, 1) := by decide +kernel
theorem dX11_busy_1 : decode cX11_busy 1 = .ok (.iload_n 1, 1) := by decide +kernel
theorem dX11_busy_2 : decode cX11_busy 2 = .ok (.invokevirtual 202, 3) := by decide +kernel
theorem dX11_busy_5 : decode cX11_busy 5 = .ok (.ifCond .eq 7, 3) := by decide +kernel
theorem dX11_busy_12 : decode cX11_busy 12 = .ok (.aload_n 0, 1) := by decide +kernel
theorem dX11_busy_13 : decode cX11_busy 13 = .ok (.getfield 30, 3) := by decide +kernel
theorem dX11_busy_16 : decode cX11_busy 16 = .ok (.ldc 22, 2) := by decide +kernel
theorem dX11_busy_18 : decode cX11_busy 18 = .ok (.iload_n 1, 1) := by decide +kernel
theorem dX11_busy_19 : decode cX11_busy 19 = .ok (.invokevirtual 102, 3) := by decide +kernel
theorem dX11_busy_22 : decode cX11_busy 22 = .ok (.iaload, 1) := by decide +kernel
theorem dX11_busy_23 : decode cX11_busy 23 = .ok (.ireturn, 1) := by decide +kernel
theorem dX11_busy_8 : decode cX11_busy 8 = .ok (.iconst 0, 1) := by decide +kernel
theorem dX11_busy_9 : decode cX11_busy 9 = .ok (.goto 14, 3) := by decide +kernel
def wzEX11_busy : List Cond := [.code yX11_busy cX11_busy 2 (some .int), .methodLink RX11 202 yX11_noRole, .instanceMethod yX11_noRole, .selects RX11 yX11_noRole yX11_noRole, .initialized RX11, .code yX11_noRole cX11_noRole 2 (some .boolean), .methodLink RX11 102 yJ0_indexOf_0f7a4, .instanceMethod yJ0_indexOf_0f7a4, .selects RJ0 yJ0_indexOf_0f7a4 yJ0_indexOf_0f7a4, .initialized RJ0, .code yJ0_indexOf_0f7a4 cJ0_indexOf_0f7a4 2 (some .int), .methodLink RJ0 633 yJ0_indexOf_7cf53, .instanceMethod yJ0_indexOf_7cf53, .selects RJ0 yJ0_indexOf_7cf53 yJ0_indexOf_7cf53, .code yJ0_indexOf_7cf53 cJ0_indexOf_7cf53 3 (some .int), .methodLink RJ0 492 yJ0_isLatin1_aae02, .instanceMethod yJ0_isLatin1_aae02, .selects RJ0 yJ0_isLatin1_aae02 yJ0_isLatin1_aae02, .code yJ0_isLatin1_aae02 cJ0_isLatin1_aae02 1 (some .boolean), .fieldLink RJ0 38 "java/lang/String" "COMPACT_STRINGS" "Z", .fieldLink RJ0 15 "java/lang/String" "coder" "B", .fieldLink RJ0 9 "java/lang/String" "value" "[B", .methodLink RJ0 505 yJ0_length_8abf5, .instanceMethod yJ0_length_8abf5, .selects RJ0 yJ0_length_8abf5 yJ0_length_8abf5, .code yJ0_length_8abf5 cJ0_length_8abf5 1 (some .int), .methodLink RJ0 335 yJ0_coder_7d493, .instanceMethod yJ0_coder_7d493, .selects RJ0 yJ0_coder_7d493 yJ0_coder_7d493, .code yJ0_coder_7d493 cJ0_coder_7d493 1 (some .byte), .methodLink RJ0 637 yJ1_indexOf_4cfef, .static yJ1_indexOf_4cfef, .initialized RJ1, .code yJ1_indexOf_4cfef cJ1_indexOf_4cfef 4 (some .int), .methodLink RJ1 88 yJ1_canEncode_9a6ad, .static yJ1_canEncode_9a6ad, .code yJ1_canEncode_9a6ad cJ1_canEncode_9a6ad 1 (some .boolean), .methodLink RJ1 92 Lib.Math.max.name, .static Lib.Math.max.name, .initialized "java/lang/Math", .code Lib.Math.max.name Lib.Math.max.code 2 (some .int), .methodLink RJ1 38 Lib.Math.min.name, .static Lib.Math.min.name, .code Lib.Math.min.name Lib.Math.min.code 2 (some .int), .methodLink RJ1 95 yJ1_indexOfChar_4cfef, .static yJ1_indexOfChar_4cfef, .code yJ1_indexOfChar_4cfef cJ1_indexOfChar_4cfef 6 (some .int), .fieldLink RX11 41 "GatherhouseModel" "thrown" "I", .fieldLink RX11 30 "GatherhouseModel" "busy" "[I"]
def wzX11_busy : List Cond := wzEX11_busy ++ (u_ws RX11 TX11 13)
theorem zgEX11_busy : wzEX11_busy.all goodWord = true := by decide +kernel
theorem zuX11_busy_X11 : ∀ w ∈ u_ws RX11 TX11 13, w ∈ wzX11_busy := (fun _ h => (List.mem_append_right _ h))
theorem gzX11_busy_X11_noRole_202 : GoodIn wzX11_busy (wsV RX11 202 RX11 yX11_noRole wzX11_noRole) := (goodIn_app (z_lift (goodIn_r _ [1, 2, 3, 4] rfl (by decide +kernel))) (goodIn_app (z_lift (goodIn_r wzEX11_noRole [5, 6, 7, 8, 9, 10, 11, 12, 13, 14, 15, 16, 17, 18, 19, 20, 21, 22, 23, 24, 25, 26, 27, 28, 29, 30, 31, 32, 33, 34, 35, 36, 37, 38, 39, 40, 41, 42, 43, 44, 45, 46, 47] rfl zgEX11_noRole)) (goodIn_sub (fun _ h => (List.mem_append_right _ h)) zgU_X11)))
theorem gzX11_busy_J0_indexOf_0f7a4_102 : GoodIn wzX11_busy (wsV RX11 102 RJ0 yJ0_indexOf_0f7a4 wzJ0_indexOf_0f7a4) := (goodIn_app (z_lift (goodIn_r _ [6, 7, 8, 9] rfl (by decide +kernel))) (goodIn_app (z_lift (goodIn_r wzEJ0_indexOf_0f7a4 [10, 11, 12, 13, 9, 14, 15, 16, 17, 18, 19, 20, 21, 22, 23, 24, 25, 26, 27, 28, 29, 30, 31, 32, 33, 34, 35, 36, 37, 38, 39, 40, 41, 42, 43, 44, 45, 46] rfl zgEJ0_indexOf_0f7a4)) z_gnil))
set_option maxHeartbeats 4000000 in
set_option maxRecDepth 100000 in
theorem zc_X11_busy (l : Launch) (D : va_G) (G : Nat × Nat × Nat) (mo : Nat) (gl : Nat) (po : Nat) (pi : Nat) (bu : Nat) (pa : Nat) (th : Int32) (mh : Int32) (mt : Int32) (ch : Int32) (ci : ClassId) (sz : Nat) : Met l yX11_busy wzX11_busy ({ frames := 5, cells := 0, slots := 0, locals := 112 }) (va_Pc [.ref mo, .int ch] (p_RW D G [(ci, .int)] [(mo, .inr (16, [.int th, .ref gl, .ref po, .ref pi, .ref bu, .ref pa, .int mt, .int mh, .int 40, .int 0, .null, .int 0, .int 0])), (bu, .inl (ci, 4, .inl (fun _ => 0)))] sz)) (va_Qi (fun (r : Int32) (u : Int32) => match u with | u1 => (isRole ch ∧ r = 0 ∧ u1 = 0) ∨ (¬ isRole ch ∧ r = 0 ∧ u1 = 1)) (fun (u : Int32) (t : State) => match u with | u1 => q_RW D [(ci, .int)] [(mo, .inr (16, [.int u1, .ref gl, .ref po, .ref pi, .ref bu, .ref pa, .int mt, .int mh, .int 40, .int 0, .null, .int 0, .int 0]))] (va_A [(mo, .inr (16, [.int th, .ref gl, .ref po, .ref pi, .ref bu, .ref pa, .int mt, .int mh, .int 40, .int 0, .null, .int 0, .int 0])), (bu, .inl (ci, 4, .inl (fun _ => 0)))] sz) t) (va_A [(mo, .inr (16, [.int th, .ref gl, .ref po, .ref pi, .ref bu, .ref pa, .int mt, .int mh, .int 40, .int 0, .null, .int 0, .int 0])), (bu, .inl (ci, 4, .inl (fun _ => 0)))] sz)) 0 0 (va_A [(mo, .inr (16, [.int th, .ref gl, .ref po, .ref pi, .ref bu, .ref pa, .int mt, .int mh, .int 40, .int 0, .null, .int 0, .int 0])), (bu, .inl (ci, 4, .inl (fun _ => 0)))] sz) := by
  refine Met.ofW (cc := cX11_busy) (maxL := 2) (ret := (some .int)) (by decide) rfl ?_
  intro p e s m args below meth c s₁ B hml hv
  obtain ⟨rfl, hsz, hP, hK, hD0, hT, hZ⟩ := hv
  have hx := B.exec
  have hb := B.bytes
  have hr := B.returns
  have hts := atoms_spec (ws := wzX11_busy) B.pre
  have hown : s.vm.findClass RX11 = some m.cls := findClass_of_methodNamed B.named
  have hlocks := B.notSynchronized
  subst hsz
  have hD := hD0.self (sz := s.heap.size)
  generalize hAe : va_A [(mo, .inr (16, [.int th, .ref gl, .ref po, .ref pi, .ref bu, .ref pa, .int mt, .int mh, .int 40, .int 0, .null, .int 0, .int 0])), (bu, .inl (ci, 4, .inl (fun _ => 0)))] s.heap.size = A at hD hZ ⊢
  have hA : ∀ q : Nat, s.heap.size ≤ q → A q := fun q h => by rw [← hAe]; exact Or.inr h
  have hS : va_S A s.heap s.heap [] := va_S.rf
  have hl := lv_entry ([.ref mo, .int ch]) (n := 2) (Nat.le_of_ble_eq_true rfl)
  rw [lg_entry_eq]
  generalize (lg_sl ([.ref mo, .int ch]) ++ List.replicate (2 - (lg_sl ([.ref mo, .int ch])).length) Slot.unset).toArray = ls at hl ⊢
  have hl : lv_has ls 2 [(0, .ref mo), (1, .int ch)] := hl
  refine lv_aload_n hx hb dX11_busy_0 rfl (lv_at hl 0 rfl) ?_
  refine lv_iload_n hx hb dX11_busy_1 rfl (lv_at hl 1 rfl) ?_
  have hFc := va_free (wc := [(mo, .inr (16, [.int th, .ref gl, .ref po, .ref pi, .ref bu, .ref pa, .int mt, .int mh, .int 40, .int 0, .null, .int 0, .int 0]))]) hD hS hA [0] rfl
  refine va_calli (va_runV (As := [.int ch]) (rest := []) ⟨hx, hb, hml, hown, hts⟩ (zc_X11_noRole l D G mo gl po pi bu pa th mh mt ch s.heap.size) (cwV 1 hts gzX11_busy_X11_noRole_202 rfl rfl rfl (by decide +kernel) ⟨(Nat.le_of_ble_eq_true rfl), (Nat.le_of_ble_eq_true rfl)⟩) ⟨p_RW_blind, va_recv hK hP (ci := 16) (q0 := 0) rfl rfl, (p_RW_at (tc := []) (wc := [(mo, .inr (16, [.int th, .ref gl, .ref po, .ref pi, .ref bu, .ref pa, .int mt, .int mh, .int 40, .int 0, .null, .int 0, .int 0]))]) hP hK hD hS hA hT hZ [0] [] rfl rfl (by decide) rfl [.ref mo, .int ch])⟩ rfl rfl hl.1 rfl (lv_room (Nat.le_of_ble_eq_true rfl)) dX11_busy_2 ⟨(Nat.le_of_ble_eq_true rfl), (Nat.le_of_ble_eq_true rfl)⟩) hS (fun q _ h => hFc q h) hFc (fun r_569 u t H locs ht hvm w_570 hB hz1 hk1 hS => ?_)
  obtain ⟨u_571, rfl⟩ : ∃ z, z = u := ⟨_, rfl⟩
  obtain ⟨hP, hD, hK⟩ := q_join (D := D) (wc := [(mo, .inr (16, [.int th, .ref gl, .ref po, .ref pi, .ref bu, .ref pa, .int mt, .int mh, .int 40, .int 0, .null, .int 0, .int 0]))]) (wr := [(bu, .inl (ci, 4, .inl (fun _ => 0)))]) (w1 := [(mo, .inr (16, [.int u_571, .ref gl, .ref po, .ref pi, .ref bu, .ref pa, .int mt, .int mh, .int 40, .int 0, .null, .int 0, .int 0]))]) (tyr := [(ci, .int)]) (ty1 := []) hP hD hK [0] [1] [0] rfl rfl (by decide) (by decide) rfl hFc hk1 ht hvm hB
  have hP : va_P D vwCl [(bu, .inl (ci, 4, .inl (fun _ => 0))), (mo, .inr (16, [.int u_571, .ref gl, .ref po, .ref pi, .ref bu, .ref pa, .int mt, .int mh, .int 40, .int 0, .null, .int 0, .int 0]))] H := hP
  have hD : va_D A [(bu, .inl (ci, 4, .inl (fun _ => 0))), (mo, .inr (16, [.int u_571, .ref gl, .ref po, .ref pi, .ref bu, .ref pa, .int mt, .int mh, .int 40, .int 0, .null, .int 0, .int 0]))] := hD
  have hK : va_K D vwCl [(ci, .int)] s := hK
  rcases w_570 with ⟨c_572, rfl, rfl⟩ | ⟨c_573, rfl, rfl⟩
  · refine lv_if_eq (tgt := 12) hx hb dX11_busy_5 (by decide) (fun _ => ?_) (fun cc => absurd (by decide) cc)
    refine lv_aload_n hx hb dX11_busy_12 rfl (lv_at hl 0 rfl) ?_
    refine va_get (D := D) (cl := vwCl) (ci := 16) (v := .ref bu) (C := RX11) (T := TX11) (N := 13) hx hb hts zuX11_busy_X11 hown hK hP 1 rfl rfl 4 (by decide) (hts (.fieldLink RX11 30 "GatherhouseModel" "busy" "[I") (by decide +kernel)) (fun _ h9 => h9) rfl dX11_busy_13 ?_
    refine va_ldcS hx hb hown hT.2.2.2.2.2.2.2.2 dX11_busy_16 ?_
    refine lv_iload_n hx hb dX11_busy_18 rfl (lv_at hl 1 rfl) ?_
    have hFc := va_free (wc := []) hD hS hA [] rfl
    refine va_calli (va_runV (As := [.int ch]) (rest := [.ref bu]) ⟨hx, hb, hml, hown, hts⟩ (zc_J0_indexOf_0f7a4 l D G ch H.size) (cwV 1 hts gzX11_busy_J0_indexOf_0f7a4_102 rfl rfl rfl (by decide +kernel) ⟨(Nat.le_of_ble_eq_true rfl), (Nat.le_of_ble_eq_true rfl)⟩) ⟨p_RW_blind, vk_recv hZ.2.2.2.2.2 (i := 0) (by decide) hS, (p_RW_at (tc := []) (wc := []) hP hK hD hS hA hT hZ [] [] rfl rfl (by decide) rfl [.ref G.2.1, .int ch])⟩ rfl rfl hl.1 rfl (lv_room (Nat.le_of_ble_eq_true rfl)) dX11_busy_19 ⟨(Nat.le_of_ble_eq_true rfl), (Nat.le_of_ble_eq_true rfl)⟩) hS (fun q _ h => hFc q h) hFc (fun r_574 u t H locs ht hvm w_575 hB hz1 hk1 hS => ?_)
    obtain ⟨hP, hD, hK⟩ := q_join (D := D) (wc := []) (wr := [(bu, .inl (ci, 4, .inl (fun _ => 0))), (mo, .inr (16, [.int 0, .ref gl, .ref po, .ref pi, .ref bu, .ref pa, .int mt, .int mh, .int 40, .int 0, .null, .int 0, .int 0]))]) (w1 := []) (tyr := [(ci, .int)]) (ty1 := []) hP hD hK [] [0, 1] [0] rfl rfl (by decide) (by decide) rfl hFc hk1 ht hvm hB
    have hP : va_P D vwCl [(bu, .inl (ci, 4, .inl (fun _ => 0))), (mo, .inr (16, [.int 0, .ref gl, .ref po, .ref pi, .ref bu, .ref pa, .int mt, .int mh, .int 40, .int 0, .null, .int 0, .int 0]))] H := hP
    have hD : va_D A [(bu, .inl (ci, 4, .inl (fun _ => 0))), (mo, .inr (16, [.int 0, .ref gl, .ref po, .ref pi, .ref bu, .ref pa, .int mt, .int mh, .int 40, .int 0, .null, .int 0, .int 0]))] := hD
    have hK : va_K D vwCl [(ci, .int)] s := hK
    rcases w_575 with ⟨c_576, rfl⟩ | ⟨c_577, rfl⟩ | ⟨c_578, rfl⟩ | ⟨c_579, rfl⟩ | ⟨c_580, rfl⟩
    · refine va_iald (D := D) (cl := vwCl) hx hb hK hP 0 0 rfl rfl (vp_in_nI (n := 0) (N := 4) (by decide) (by decide)) dX11_busy_22 ?_
      refine W.eq (g2 := F0 m 23 ls [.int 0]) rfl ?_
      exact W.iret (v := 0) hx hb hr (fun t ht hW => ⟨⟨0, 0, rfl, (by first | exact Or.inl (⟨(by first | assumption | exact inR_1 (by assumption) (by assumption) | exact inR_2 (by assumption) (by assumption) | exact inR_3 (by assumption) | exact inR_4 (by assumption) | exact inR_5 (by assumption) | exact ⟨by assumption, by assumption, by assumption, by assumption⟩ | exact ⟨by assumption, by assumption, by assumption⟩ | exact (fun q => absurd q.1 (by assumption)) | exact (fun q => absurd q.2.1 (by assumption)) | exact (fun q => absurd q.2.2 (by assumption)) | exact (fun q => absurd q.2.2.1 (by assumption)) | exact (fun q => absurd q.2.2.2 (by assumption)) | exact isRole_no (by assumption) (by assumption) (by assumption) (by assumption) | exact isRole_nb (by assumption) (by assumption) (by assumption) (by assumption) | exact isRole_out (by assumption) | exact enc_use (by assumption) (by assumption) (by assumption) | exact enc_103 (by assumption) | exact enc_103 (Eq.symm (by assumption)) | exact enc_115 (Eq.symm (by assumption)) | exact enc_102 (Eq.symm (by assumption)) | exact enc_98 (Eq.symm (by assumption)) | exact isRole_nc (by assumption) (by assumption) (by assumption) (by assumption) | exact enc_115 (by assumption) | exact enc_102 (by assumption) | exact enc_98 (by assumption) | exact Or.inr (by assumption) | rfl | exact Or.inl (by assumption) | exact Or.inr (Or.inl (by assumption)) | exact Or.inr (Or.inr (Or.inl (by assumption))) | exact Or.inr (Or.inr (Or.inr (by assumption))) | decide), rfl, (by first | rfl | assumption)⟩) | exact Or.inr (⟨(by first | assumption | exact inR_1 (by assumption) (by assumption) | exact inR_2 (by assumption) (by assumption) | exact inR_3 (by assumption) | exact inR_4 (by assumption) | exact inR_5 (by assumption) | exact ⟨by assumption, by assumption, by assumption, by assumption⟩ | exact ⟨by assumption, by assumption, by assumption⟩ | exact (fun q => absurd q.1 (by assumption)) | exact (fun q => absurd q.2.1 (by assumption)) | exact (fun q => absurd q.2.2 (by assumption)) | exact (fun q => absurd q.2.2.1 (by assumption)) | exact (fun q => absurd q.2.2.2 (by assumption)) | exact isRole_no (by assumption) (by assumption) (by assumption) (by assumption) | exact isRole_nb (by assumption) (by assumption) (by assumption) (by assumption) | exact isRole_out (by assumption) | exact enc_use (by assumption) (by assumption) (by assumption) | exact enc_103 (by assumption) | exact enc_103 (Eq.symm (by assumption)) | exact enc_115 (Eq.symm (by assumption)) | exact enc_102 (Eq.symm (by assumption)) | exact enc_98 (Eq.symm (by assumption)) | exact isRole_nc (by assumption) (by assumption) (by assumption) (by assumption) | exact enc_115 (by assumption) | exact enc_102 (by assumption) | exact enc_98 (by assumption) | exact Or.inr (by assumption) | rfl | exact Or.inl (by assumption) | exact Or.inr (Or.inl (by assumption)) | exact Or.inr (Or.inr (Or.inl (by assumption))) | exact Or.inr (Or.inr (Or.inr (by assumption))) | decide), rfl, (by first | rfl | assumption)⟩)), q_RW_mk hP hK hD [1] [0] rfl rfl (by decide) rfl ht hW.alike⟩, hS.F ht⟩) hS.2.2 dX11_busy_23
    · refine va_iald (D := D) (cl := vwCl) hx hb hK hP 0 0 rfl rfl (vp_in_nI (n := 1) (N := 4) (by decide) (by decide)) dX11_busy_22 ?_
      refine W.eq (g2 := F0 m 23 ls [.int 0]) rfl ?_
      exact W.iret (v := 0) hx hb hr (fun t ht hW => ⟨⟨0, 0, rfl, (by first | exact Or.inl (⟨(by first | assumption | exact inR_1 (by assumption) (by assumption) | exact inR_2 (by assumption) (by assumption) | exact inR_3 (by assumption) | exact inR_4 (by assumption) | exact inR_5 (by assumption) | exact ⟨by assumption, by assumption, by assumption, by assumption⟩ | exact ⟨by assumption, by assumption, by assumption⟩ | exact (fun q => absurd q.1 (by assumption)) | exact (fun q => absurd q.2.1 (by assumption)) | exact (fun q => absurd q.2.2 (by assumption)) | exact (fun q => absurd q.2.2.1 (by assumption)) | exact (fun q => absurd q.2.2.2 (by assumption)) | exact isRole_no (by assumption) (by assumption) (by assumption) (by assumption) | exact isRole_nb (by assumption) (by assumption) (by assumption) (by assumption) | exact isRole_out (by assumption) | exact enc_use (by assumption) (by assumption) (by assumption) | exact enc_103 (by assumption) | exact enc_103 (Eq.symm (by assumption)) | exact enc_115 (Eq.symm (by assumption)) | exact enc_102 (Eq.symm (by assumption)) | exact enc_98 (Eq.symm (by assumption)) | exact isRole_nc (by assumption) (by assumption) (by assumption) (by assumption) | exact enc_115 (by assumption) | exact enc_102 (by assumption) | exact enc_98 (by assumption) | exact Or.inr (by assumption) | rfl | exact Or.inl (by assumption) | exact Or.inr (Or.inl (by assumption)) | exact Or.inr (Or.inr (Or.inl (by assumption))) | exact Or.inr (Or.inr (Or.inr (by assumption))) | decide), rfl, (by first | rfl | assumption)⟩) | exact Or.inr (⟨(by first | assumption | exact inR_1 (by assumption) (by assumption) | exact inR_2 (by assumption) (by assumption) | exact inR_3 (by assumption) | exact inR_4 (by assumption) | exact inR_5 (by assumption) | exact ⟨by assumption, by assumption, by assumption, by assumption⟩ | exact ⟨by assumption, by assumption, by assumption⟩ | exact (fun q => absurd q.1 (by assumption)) | exact (fun q => absurd q.2.1 (by assumption)) | exact (fun q => absurd q.2.2 (by assumption)) | exact (fun q => absurd q.2.2.1 (by assumption)) | exact (fun q => absurd q.2.2.2 (by assumption)) | exact isRole_no (by assumption) (by assumption) (by assumption) (by assumption) | exact isRole_nb (by assumption) (by assumption) (by assumption) (by assumption) | exact isRole_out (by assumption) | exact enc_use (by assumption) (by assumption) (by assumption) | exact enc_103 (by assumption) | exact enc_103 (Eq.symm (by assumption)) | exact enc_115 (Eq.symm (by assumption)) | exact enc_102 (Eq.symm (by assumption)) | exact enc_98 (Eq.symm (by assumption)) | exact isRole_nc (by assumption) (by assumption) (by assumption) (by assumption) | exact enc_115 (by assumption) | exact enc_102 (by assumption) | exact enc_98 (by assumption) | exact Or.inr (by assumption) | rfl | exact Or.inl (by assumption) | exact Or.inr (Or.inl (by assumption)) | exact Or.inr (Or.inr (Or.inl (by assumption))) | exact Or.inr (Or.inr (Or.inr (by assumption))) | decide), rfl, (by first | rfl | assumption)⟩)), q_RW_mk hP hK hD [1] [0] rfl rfl (by decide) rfl ht hW.alike⟩, hS.F ht⟩) hS.2.2 dX11_busy_23
    · refine va_iald (D := D) (cl := vwCl) hx hb hK hP 0 0 rfl rfl (vp_in_nI (n := 2) (N := 4) (by decide) (by decide)) dX11_busy_22 ?_
      refine W.eq (g2 := F0 m 23 ls [.int 0]) rfl ?_
      exact W.iret (v := 0) hx hb hr (fun t ht hW => ⟨⟨0, 0, rfl, (by first | exact Or.inl (⟨(by first | assumption | exact inR_1 (by assumption) (by assumption) | exact inR_2 (by assumption) (by assumption) | exact inR_3 (by assumption) | exact inR_4 (by assumption) | exact inR_5 (by assumption) | exact ⟨by assumption, by assumption, by assumption, by assumption⟩ | exact ⟨by assumption, by assumption, by assumption⟩ | exact (fun q => absurd q.1 (by assumption)) | exact (fun q => absurd q.2.1 (by assumption)) | exact (fun q => absurd q.2.2 (by assumption)) | exact (fun q => absurd q.2.2.1 (by assumption)) | exact (fun q => absurd q.2.2.2 (by assumption)) | exact isRole_no (by assumption) (by assumption) (by assumption) (by assumption) | exact isRole_nb (by assumption) (by assumption) (by assumption) (by assumption) | exact isRole_out (by assumption) | exact enc_use (by assumption) (by assumption) (by assumption) | exact enc_103 (by assumption) | exact enc_103 (Eq.symm (by assumption)) | exact enc_115 (Eq.symm (by assumption)) | exact enc_102 (Eq.symm (by assumption)) | exact enc_98 (Eq.symm (by assumption)) | exact isRole_nc (by assumption) (by assumption) (by assumption) (by assumption) | exact enc_115 (by assumption) | exact enc_102 (by assumption) | exact enc_98 (by assumption) | exact Or.inr (by assumption) | rfl | exact Or.inl (by assumption) | exact Or.inr (Or.inl (by assumption)) | exact Or.inr (Or.inr (Or.inl (by assumption))) | exact Or.inr (Or.inr (Or.inr (by assumption))) | decide), rfl, (by first | rfl | assumption)⟩) | exact Or.inr (⟨(by first | assumption | exact inR_1 (by assumption) (by assumption) | exact inR_2 (by assumption) (by assumption) | exact inR_3 (by assumption) | exact inR_4 (by assumption) | exact inR_5 (by assumption) | exact ⟨by assumption, by assumption, by assumption, by assumption⟩ | exact ⟨by assumption, by assumption, by assumption⟩ | exact (fun q => absurd q.1 (by assumption)) | exact (fun q => absurd q.2.1 (by assumption)) | exact (fun q => absurd q.2.2 (by assumption)) | exact (fun q => absurd q.2.2.1 (by assumption)) | exact (fun q => absurd q.2.2.2 (by assumption)) | exact isRole_no (by assumption) (by assumption) (by assumption) (by assumption) | exact isRole_nb (by assumption) (by assumption) (by assumption) (by assumption) | exact isRole_out (by assumption) | exact enc_use (by assumption) (by assumption) (by assumption) | exact enc_103 (by assumption) | exact enc_103 (Eq.symm (by assumption)) | exact enc_115 (Eq.symm (by assumption)) | exact enc_102 (Eq.symm (by assumption)) | exact enc_98 (Eq.symm (by assumption)) | exact isRole_nc (by assumption) (by assumption) (by assumption) (by assumption) | exact enc_115 (by assumption) | exact enc_102 (by assumption) | exact enc_98 (by assumption) | exact Or.inr (by assumption) | rfl | exact Or.inl (by assumption) | exact Or.inr (Or.inl (by assumption)) | exact Or.inr (Or.inr (Or.inl (by assumption))) | exact Or.inr (Or.inr (Or.inr (by assumption))) | decide), rfl, (by first | rfl | assumption)⟩)), q_RW_mk hP hK hD [1] [0] rfl rfl (by decide) rfl ht hW.alike⟩, hS.F ht⟩) hS.2.2 dX11_busy_23
    · refine va_iald (D := D) (cl := vwCl) hx hb hK hP 0 0 rfl rfl (vp_in_nI (n := 3) (N := 4) (by decide) (by decide)) dX11_busy_22 ?_
      refine W.eq (g2 := F0 m 23 ls [.int 0]) rfl ?_
      exact W.iret (v := 0) hx hb hr (fun t ht hW => ⟨⟨0, 0, rfl, (by first | exact Or.inl (⟨(by first | assumption | exact inR_1 (by assumption) (by assumption) | exact inR_2 (by assumption) (by assumption) | exact inR_3 (by assumption) | exact inR_4 (by assumption) | exact inR_5 (by assumption) | exact ⟨by assumption, by assumption, by assumption, by assumption⟩ | exact ⟨by assumption, by assumption, by assumption⟩ | exact (fun q => absurd q.1 (by assumption)) | exact (fun q => absurd q.2.1 (by assumption)) | exact (fun q => absurd q.2.2 (by assumption)) | exact (fun q => absurd q.2.2.1 (by assumption)) | exact (fun q => absurd q.2.2.2 (by assumption)) | exact isRole_no (by assumption) (by assumption) (by assumption) (by assumption) | exact isRole_nb (by assumption) (by assumption) (by assumption) (by assumption) | exact isRole_out (by assumption) | exact enc_use (by assumption) (by assumption) (by assumption) | exact enc_103 (by assumption) | exact enc_103 (Eq.symm (by assumption)) | exact enc_115 (Eq.symm (by assumption)) | exact enc_102 (Eq.symm (by assumption)) | exact enc_98 (Eq.symm (by assumption)) | exact isRole_nc (by assumption) (by assumption) (by assumption) (by assumption) | exact enc_115 (by assumption) | exact enc_102 (by assumption) | exact enc_98 (by assumption) | exact Or.inr (by assumption) | rfl | exact Or.inl (by assumption) | exact Or.inr (Or.inl (by assumption)) | exact Or.inr (Or.inr (Or.inl (by assumption))) | exact Or.inr (Or.inr (Or.inr (by assumption))) | decide), rfl, (by first | rfl | assumption)⟩) | exact Or.inr (⟨(by first | assumption | exact inR_1 (by assumption) (by assumption) | exact inR_2 (by assumption) (by assumption) | exact inR_3 (by assumption) | exact inR_4 (by assumption) | exact inR_5 (by assumption) | exact ⟨by assumption, by assumption, by assumption, by assumption⟩ | exact ⟨by assumption, by assumption, by assumption⟩ | exact (fun q => absurd q.1 (by assumption)) | exact (fun q => absurd q.2.1 (by assumption)) | exact (fun q => absurd q.2.2 (by assumption)) | exact (fun q => absurd q.2.2.1 (by assumption)) | exact (fun q => absurd q.2.2.2 (by assumption)) | exact isRole_no (by assumption) (by assumption) (by assumption) (by assumption) | exact isRole_nb (by assumption) (by assumption) (by assumption) (by assumption) | exact isRole_out (by assumption) | exact enc_use (by assumption) (by assumption) (by assumption) | exact enc_103 (by assumption) | exact enc_103 (Eq.symm (by assumption)) | exact enc_115 (Eq.symm (by assumption)) | exact enc_102 (Eq.symm (by assumption)) | exact enc_98 (Eq.symm (by assumption)) | exact isRole_nc (by assumption) (by assumption) (by assumption) (by assumption) | exact enc_115 (by assumption) | exact enc_102 (by assumption) | exact enc_98 (by assumption) | exact Or.inr (by assumption) | rfl | exact Or.inl (by assumption) | exact Or.inr (Or.inl (by assumption)) | exact Or.inr (Or.inr (Or.inl (by assumption))) | exact Or.inr (Or.inr (Or.inr (by assumption))) | decide), rfl, (by first | rfl | assumption)⟩)), q_RW_mk hP hK hD [1] [0] rfl rfl (by decide) rfl ht hW.alike⟩, hS.F ht⟩) hS.2.2 dX11_busy_23
    · exact absurd c_572 c_580
  · refine lv_if_eq (tgt := 12) hx hb dX11_busy_5 (by decide) (fun cc => absurd cc (by decide)) (fun _ => ?_)
    refine lv_iconst (v := 0) hx hb dX11_busy_8 (by decide) ?_
    refine lv_goto (tgt := 23) hx hb dX11_busy_9 (by decide) ?_
    exact W.iret (v := 0) hx hb hr (fun t ht hW => ⟨⟨0, 1, rfl, (by first | exact Or.inl (⟨(by first | assumption | exact inR_1 (by assumption) (by assumption) | exact inR_2 (by assumption) (by assumption) | exact inR_3 (by assumption) | exact inR_4 (by assumption) | exact inR_5 (by assumption) | exact ⟨by assumption, by assumption, by assumption, by assumption⟩ | exact ⟨by assumption, by assumption, by assumption⟩ | exact (fun q => absurd q.1 (by assumption)) | exact (fun q => absurd q.2.1 (by assumption)) | exact (fun q => absurd q.2.2 (by assumption)) | exact (fun q => absurd q.2.2.1 (by assumption)) | exact (fun q => absurd q.2.2.2 (by assumption)) | exact isRole_no (by assumption) (by assumption) (by assumption) (by assumption) | exact isRole_nb (by assumption) (by assumption) (by assumption) (by assumption) | exact isRole_out (by assumption) | exact enc_use (by assumption) (by assumption) (by assumption) | exact enc_103 (by assumption) | exact enc_103 (Eq.symm (by assumption)) | exact enc_115 (Eq.symm (by assumption)) | exact enc_102 (Eq.symm (by assumption)) | exact enc_98 (Eq.symm (by assumption)) | exact isRole_nc (by assumption) (by assumption) (by assumption) (by assumption) | exact enc_115 (by assumption) | exact enc_102 (by assumption) | exact enc_98 (by assumption) | exact Or.inr (by assumption) | rfl | exact Or.inl (by assumption) | exact Or.inr (Or.inl (by assumption)) | exact Or.inr (Or.inr (Or.inl (by assumption))) | exact Or.inr (Or.inr (Or.inr (by assumption))) | decide), rfl, (by first | rfl | assumption)⟩) | exact Or.inr (⟨(by first | assumption | exact inR_1 (by assumption) (by assumption) | exact inR_2 (by assumption) (by assumption) | exact inR_3 (by assumption) | exact inR_4 (by assumption) | exact inR_5 (by assumption) | exact ⟨by assumption, by assumption, by assumption, by assumption⟩ | exact ⟨by assumption, by assumption, by assumption⟩ | exact (fun q => absurd q.1 (by assumption)) | exact (fun q => absurd q.2.1 (by assumption)) | exact (fun q => absurd q.2.2 (by assumption)) | exact (fun q => absurd q.2.2.1 (by assumption)) | exact (fun q => absurd q.2.2.2 (by assumption)) | exact isRole_no (by assumption) (by assumption) (by assumption) (by assumption) | exact isRole_nb (by assumption) (by assumption) (by assumption) (by assumption) | exact isRole_out (by assumption) | exact enc_use (by assumption) (by assumption) (by assumption) | exact enc_103 (by assumption) | exact enc_103 (Eq.symm (by assumption)) | exact enc_115 (Eq.symm (by assumption)) | exact enc_102 (Eq.symm (by assumption)) | exact enc_98 (Eq.symm (by assumption)) | exact isRole_nc (by assumption) (by assumption) (by assumption) (by assumption) | exact enc_115 (by assumption) | exact enc_102 (by assumption) | exact enc_98 (by assumption) | exact Or.inr (by assumption) | rfl | exact Or.inl (by assumption) | exact Or.inr (Or.inl (by assumption)) | exact Or.inr (Or.inr (Or.inl (by assumption))) | exact Or.inr (Or.inr (Or.inr (by assumption))) | decide), rfl, (by first | rfl | assumption)⟩)), q_RW_mk hP hK hD [1] [0] rfl rfl (by decide) rfl ht hW.alike⟩, hS.F ht⟩) hS.2.2 dX11_busy_23
theorem dX11_pay_0 : decode cX11_pay 0 = .ok (.aload_n 0, 1) := by decide +kernel
theorem dX11_pay_1 : decode cX11_pay 1 = .ok (.iload_n 1, 1) := by decide +kernel
theorem dX11_pay_2 : decode cX11_pay 2 = .ok (.invokevirtual 202, 3) := by decide +kernel
theorem dX11_pay_5 : decode cX11_pay 5 = .ok (.ifCond .eq 7, 3) := by decide +kernel
theorem dX11_pay_12 : decode cX11_pay 12 = .ok (.aload_n 0, 1) := by decide +kernel
theorem dX11_pay_13 : decode cX11_pay 13 = .ok (.getfield 34, 3) := by decide +kernel
theorem dX11_pay_16 : decode cX11_pay 16 = .ok (.ldc 22, 2) := by decide +kernel
theorem dX11_pay_18 : decode cX11_pay 18 = .ok (.iload_n 1, 1) := by decide +kernel
theorem dX11_pay_19 : decode cX11_pay 19 = .ok (.invokevirtual 102, 3) := by decide +kernel
theorem dX11_pay_22 : decode cX11_pay 22 = .ok (.iaload, 1) := by decide +kernel
theorem dX11_pay_23 : decode cX11_pay 23 = .ok (.ireturn, 1) := by decide +kernel
theorem dX11_pay_8 : decode cX11_pay 8 = .ok (.iconst 0, 1) := by decide +kernel
theorem dX11_pay_9 : decode cX11_pay 9 = .ok (.goto 14, 3) := by decide +kernel
def wzEX11_pay : List Cond := [.code yX11_pay cX11_pay 2 (some .int), .methodLink RX11 202 yX11_noRole, .instanceMethod yX11_noRole, .selects RX11 yX11_noRole yX11_noRole, .initialized RX11, .code yX11_noRole cX11_noRole 2 (some .boolean), .methodLink RX11 102 yJ0_indexOf_0f7a4, .instanceMethod yJ0_indexOf_0f7a4, .selects RJ0 yJ0_indexOf_0f7a4 yJ0_indexOf_0f7a4, .initialized RJ0, .code yJ0_indexOf_0f7a4 cJ0_indexOf_0f7a4 2 (some .int), .methodLink RJ0 633 yJ0_indexOf_7cf53, .instanceMethod yJ0_indexOf_7cf53, .selects RJ0 yJ0_indexOf_7cf53 yJ0_indexOf_7cf53, .code yJ0_indexOf_7cf53 cJ0_indexOf_7cf53 3 (some .int), .methodLink RJ0 492 yJ0_isLatin1_aae02, .instanceMethod yJ0_isLatin1_aae02, .selects RJ0 yJ0_isLatin1_aae02 yJ0_isLatin1_aae02, .code yJ0_isLatin1_aae02 cJ0_isLatin1_aae02 1 (some .boolean), .fieldLink RJ0 38 "java/lang/String" "COMPACT_STRINGS" "Z", .fieldLink RJ0 15 "java/lang/String" "coder" "B", .fieldLink RJ0 9 "java/lang/String" "value" "[B", .methodLink RJ0 505 yJ0_length_8abf5, .instanceMethod yJ0_length_8abf5, .selects RJ0 yJ0_length_8abf5 yJ0_length_8abf5, .code yJ0_length_8abf5 cJ0_length_8abf5 1 (some .int), .methodLink RJ0 335 yJ0_coder_7d493, .instanceMethod yJ0_coder_7d493, .selects RJ0 yJ0_coder_7d493 yJ0_coder_7d493, .code yJ0_coder_7d493 cJ0_coder_7d493 1 (some .byte), .methodLink RJ0 637 yJ1_indexOf_4cfef, .static yJ1_indexOf_4cfef, .initialized RJ1, .code yJ1_indexOf_4cfef cJ1_indexOf_4cfef 4 (some .int), .methodLink RJ1 88 yJ1_canEncode_9a6ad, .static yJ1_canEncode_9a6ad, .code yJ1_canEncode_9a6ad cJ1_canEncode_9a6ad 1 (some .boolean), .methodLink RJ1 92 Lib.Math.max.name, .static Lib.Math.max.name, .initialized "java/lang/Math", .code Lib.Math.max.name Lib.Math.max.code 2 (some .int), .methodLink RJ1 38 Lib.Math.min.name, .static Lib.Math.min.name, .code Lib.Math.min.name Lib.Math.min.code 2 (some .int), .methodLink RJ1 95 yJ1_indexOfChar_4cfef, .static yJ1_indexOfChar_4cfef, .code yJ1_indexOfChar_4cfef cJ1_indexOfChar_4cfef 6 (some .int), .fieldLink RX11 41 "GatherhouseModel" "thrown" "I", .fieldLink RX11 34 "GatherhouseModel" "pay" "[I"]
def wzX11_pay : List Cond := wzEX11_pay ++ (u_ws RX11 TX11 13)
theorem zgEX11_pay : wzEX11_pay.all goodWord = true := by decide +kernel
theorem zuX11_pay_X11 : ∀ w ∈ u_ws RX11 TX11 13, w ∈ wzX11_pay := (fun _ h => (List.mem_append_right _ h))
theorem gzX11_pay_X11_noRole_202 : GoodIn wzX11_pay (wsV RX11 202 RX11 yX11_noRole wzX11_noRole) := (goodIn_app (z_lift (goodIn_r _ [1, 2, 3, 4] rfl (by decide +kernel))) (goodIn_app (z_lift (goodIn_r wzEX11_noRole [5, 6, 7, 8, 9, 10, 11, 12, 13, 14, 15, 16, 17, 18, 19, 20, 21, 22, 23, 24, 25, 26, 27, 28, 29, 30, 31, 32, 33, 34, 35, 36, 37, 38, 39, 40, 41, 42, 43, 44, 45, 46, 47] rfl zgEX11_noRole)) (goodIn_sub (fun _ h => (List.mem_append_right _ h)) zgU_X11)))
theorem gzX11_pay_J0_indexOf_0f7a4_102 : GoodIn wzX11_pay (wsV RX11 102 RJ0 yJ0_indexOf_0f7a4 wzJ0_indexOf_0f7a4) := (goodIn_app (z_lift (goodIn_r _ [6, 7, 8, 9] rfl (by decide +kernel))) (goodIn_app (z_lift (goodIn_r wzEJ0_indexOf_0f7a4 [10, 11, 12, 13, 9, 14, 15, 16, 17, 18, 19, 20, 21, 22, 23, 24, 25, 26, 27, 28, 29, 30, 31, 32, 33, 34, 35, 36, 37, 38, 39, 40, 41, 42, 43, 44, 45, 46] rfl zgEJ0_indexOf_0f7a4)) z_gnil))
set_option maxHeartbeats 4000000 in
set_option maxRecDepth 100000 in
theorem zc_X11_pay (l : Launch) (D : va_G) (G : Nat × Nat × Nat) (mo : Nat) (gl : Nat) (po : Nat) (pi : Nat) (bu : Nat) (pa : Nat) (th : Int32) (mh : Int32) (mt : Int32) (ch : Int32) (ci : ClassId) (sz : Nat) : Met l yX11_pay wzX11_pay ({ frames := 5, cells := 0, slots := 0, locals := 112 }) (va_Pc [.ref mo, .int ch] (p_RW D G [(ci, .int)] [(mo, .inr (16, [.int th, .ref gl, .ref po, .ref pi, .ref bu, .ref pa, .int mt, .int mh, .int 40, .int 0, .null, .int 0, .int 0])), (pa, .inl (ci, 4, .inl (fun _ => 0)))] sz)) (va_Qi (fun (r : Int32) (u : Int32) => match u with | u1 => (isRole ch ∧ r = 0 ∧ u1 = 0) ∨ (¬ isRole ch ∧ r = 0 ∧ u1 = 1)) (fun (u : Int32) (t : State) => match u with | u1 => q_RW D [(ci, .int)] [(mo, .inr (16, [.int u1, .ref gl, .ref po, .ref pi, .ref bu, .ref pa, .int mt, .int mh, .int 40, .int 0, .null, .int 0, .int 0]))] (va_A [(mo, .inr (16, [.int th, .ref gl, .ref po, .ref pi, .ref bu, .ref pa, .int mt, .int mh, .int 40, .int 0, .null, .int 0, .int 0])), (pa, .inl (ci, 4, .inl (fun _ => 0)))] sz) t) (va_A [(mo, .inr (16, [.int th, .ref gl, .ref po, .ref pi, .ref bu, .ref pa, .int mt, .int mh, .int 40, .int 0, .null, .int 0, .int 0])), (pa, .inl (ci, 4, .inl (fun _ => 0)))] sz)) 0 0 (va_A [(mo, .inr (16, [.int th, .ref gl, .ref po, .ref pi, .ref bu, .ref pa, .int mt, .int mh, .int 40, .int 0, .null, .int 0, .int 0])), (pa, .inl (ci, 4, .inl (fun _ => 0)))] sz) := by
  refine Met.ofW (cc := cX11_pay) (maxL := 2) (ret := (some .int)) (by decide) rfl ?_
  intro p e s m args below meth c s₁ B hml hv
  obtain ⟨rfl, hsz, hP, hK, hD0, hT, hZ⟩ := hv
  have hx := B.exec
  have hb := B.bytes
  have hr := B.returns
  have hts := atoms_spec (ws := wzX11_pay) B.pre
  have hown : s.vm.findClass RX11 = some m.cls := findClass_of_methodNamed B.named
  have hlocks := B.notSynchronized
  subst hsz
  have hD := hD0.self (sz := s.heap.size)
  generalize hAe : va_A [(mo, .inr (16, [.int th, .ref gl, .ref po, .ref pi, .ref bu, .ref pa, .int mt, .int mh, .int 40, .int 0, .null, .int 0, .int 0])), (pa, .inl (ci, 4, .inl (fun _ => 0)))] s.heap.size = A at hD hZ ⊢
  have hA : ∀ q : Nat, s.heap.size ≤ q → A q := fun q h => by rw [← hAe]; exact Or.inr h
  have hS : va_S A s.heap s.heap [] := va_S.rf
  have hl := lv_entry ([.ref mo, .int ch]) (n := 2) (Nat.le_of_ble_eq_true rfl)
  rw [lg_entry_eq]
  generalize (lg_sl ([.ref mo, .int ch]) ++ List.replicate (2 - (lg_sl ([.ref mo, .int ch])).length) Slot.unset).toArray = ls at hl ⊢
  have hl : lv_has ls 2 [(0, .ref mo), (1, .int ch)] := hl
  refine lv_aload_n hx hb dX11_pay_0 rfl (lv_at hl 0 rfl) ?_
  refine lv_iload_n hx hb dX11_pay_1 rfl (lv_at hl 1 rfl) ?_
  have hFc := va_free (wc := [(mo, .inr (16, [.int th, .ref gl, .ref po, .ref pi, .ref bu, .ref pa, .int mt, .int mh, .int 40, .int 0, .null, .int 0, .int 0]))]) hD hS hA [0] rfl
  refine va_calli (va_runV (As := [.int ch]) (rest := []) ⟨hx, hb, hml, hown, hts⟩ (zc_X11_noRole l D G mo gl po pi bu pa th mh mt ch s.heap.size) (cwV 1 hts gzX11_pay_X11_noRole_202 rfl rfl rfl (by decide +kernel) ⟨(Nat.le_of_ble_eq_true rfl), (Nat.le_of_ble_eq_true rfl)⟩) ⟨p_RW_blind, va_recv hK hP (ci := 16) (q0 := 0) rfl rfl, (p_RW_at (tc := []) (wc := [(mo, .inr (16, [.int th, .ref gl, .ref po, .ref pi, .ref bu, .ref pa, .int mt, .int mh, .int 40, .int 0, .null, .int 0, .int 0]))]) hP hK hD hS hA hT hZ [0] [] rfl rfl (by decide) rfl [.ref mo, .int ch])⟩ rfl rfl hl.1 rfl (lv_room (Nat.le_of_ble_eq_true rfl)) dX11_pay_2 ⟨(Nat.le_of_ble_eq_true rfl), (Nat.le_of_ble_eq_true rfl)⟩) hS (fun q _ h => hFc q h) hFc (fun r_581 u t H locs ht hvm w_582 hB hz1 hk1 hS => ?_)
  obtain ⟨u_583, rfl⟩ : ∃ z, z = u := ⟨_, rfl⟩
  obtain ⟨hP, hD, hK⟩ := q_join (D := D) (wc := [(mo, .inr (16, [.int th, .ref gl, .ref po, .ref pi, .ref bu, .ref pa, .int mt, .int mh, .int 40, .int 0, .null, .int 0, .int 0]))]) (wr := [(pa, .inl (ci, 4, .inl (fun _ => 0)))]) (w1 := [(mo, .inr (16, [.int u_583, .ref gl, .ref po, .ref pi, .ref bu, .ref pa, .int mt, .int mh, .int 40, .int 0, .null, .int 0, .int 0]))]) (tyr := [(ci, .int)]) (ty1 := []) hP hD hK [0] [1] [0] rfl rfl (by decide) (by decide) rfl hFc hk1 ht hvm hB
  have hP : va_P D vwCl [(pa, .inl (ci, 4, .inl (fun _ => 0))), (mo, .inr (16, [.int u_583, .ref gl, .ref po, .ref pi, .ref bu, .ref pa, .int mt, .int mh, .int 40, .int 0, .null, .int 0, .int 0]))] H := hP
  have hD : va_D A [(pa, .inl (ci, 4, .inl (fun _ => 0))), (mo, .inr (16, [.int u_583, .ref gl, .ref po, .ref pi, .ref bu, .ref pa, .int mt, .int mh, .int 40, .int 0, .null, .int 0, .int 0]))] := hD
  have hK : va_K D vwCl [(ci, .int)] s := hK
  rcases w_582 with ⟨c_584, rfl, rfl⟩ | ⟨c_585, rfl, rfl⟩
  · refine lv_if_eq (tgt := 12) hx hb dX11_pay_5 (by decide) (fun _ => ?_) (fun cc => absurd (by decide) cc)
    refine lv_aload_n hx hb dX11_pay_12 rfl (lv_at hl 0 rfl) ?_
    refine va_get (D := D) (cl := vwCl) (ci := 16) (v := .ref pa) (C := RX11) (T := TX11) (N := 13) hx hb hts zuX11_pay_X11 hown hK hP 1 rfl rfl 5 (by decide) (hts (.fieldLink RX11 34 "GatherhouseModel" "pay" "[I") (by decide +kernel)) (fun _ h9 => h9) rfl dX11_pay_13 ?_
    refine va_ldcS hx hb hown hT.2.2.2.2.2.2.2.2 dX11_pay_16 ?_
    refine lv_iload_n hx hb dX11_pay_18 rfl (lv_at hl 1 rfl) ?_
    have hFc := va_free (wc := []) hD hS hA [] rfl
    refine va_calli (va_runV (As := [.int ch]) (rest := [.ref pa]) ⟨hx, hb, hml, hown, hts⟩ (zc_J0_indexOf_0f7a4 l D G ch H.size) (cwV 1 hts gzX11_pay_J0_indexOf_0f7a4_102 rfl rfl rfl (by decide +kernel) ⟨(Nat.le_of_ble_eq_true rfl), (Nat.le_of_ble_eq_true rfl)⟩) ⟨p_RW_blind, vk_recv hZ.2.2.2.2.2 (i := 0) (by decide) hS, (p_RW_at (tc := []) (wc := []) hP hK hD hS hA hT hZ [] [] rfl rfl (by decide) rfl [.ref G.2.1, .int ch])⟩ rfl rfl hl.1 rfl (lv_room (Nat.le_of_ble_eq_true rfl)) dX11_pay_19 ⟨(Nat.le_of_ble_eq_true rfl), (Nat.le_of_ble_eq_true rfl)⟩) hS (fun q _ h => hFc q h) hFc (fun r_586 u t H locs ht hvm w_587 hB hz1 hk1 hS => ?_)
    obtain ⟨hP, hD, hK⟩ := q_join (D := D) (wc := []) (wr := [(pa, .inl (ci, 4, .inl (fun _ => 0))), (mo, .inr (16, [.int 0, .ref gl, .ref po, .ref pi, .ref bu, .ref pa, .int mt, .int mh, .int 40, .int 0, .null, .int 0, .int 0]))]) (w1 := []) (tyr := [(ci, .int)]) (ty1 := []) hP hD hK [] [0, 1] [0] rfl rfl (by decide) (by decide) rfl hFc hk1 ht hvm hB
    have hP : va_P D vwCl [(pa, .inl (ci, 4, .inl (fun _ => 0))), (mo, .inr (16, [.int 0, .ref gl, .ref po, .ref pi, .ref bu, .ref pa, .int mt, .int mh, .int 40, .int 0, .null, .int 0, .int 0]))] H := hP
    have hD : va_D A [(pa, .inl (ci, 4, .inl (fun _ => 0))), (mo, .inr (16, [.int 0, .ref gl, .ref po, .ref pi, .ref bu, .ref pa, .int mt, .int mh, .int 40, .int 0, .null, .int 0, .int 0]))] := hD
    have hK : va_K D vwCl [(ci, .int)] s := hK
    rcases w_587 with ⟨c_588, rfl⟩ | ⟨c_589, rfl⟩ | ⟨c_590, rfl⟩ | ⟨c_591, rfl⟩ | ⟨c_592, rfl⟩
    · refine va_iald (D := D) (cl := vwCl) hx hb hK hP 0 0 rfl rfl (vp_in_nI (n := 0) (N := 4) (by decide) (by decide)) dX11_pay_22 ?_
      refine W.eq (g2 := F0 m 23 ls [.int 0]) rfl ?_
      exact W.iret (v := 0) hx hb hr (fun t ht hW => ⟨⟨0, 0, rfl, (by first | exact Or.inl (⟨(by first | assumption | exact inR_1 (by assumption) (by assumption) | exact inR_2 (by assumption) (by assumption) | exact inR_3 (by assumption) | exact inR_4 (by assumption) | exact inR_5 (by assumption) | exact ⟨by assumption, by assumption, by assumption, by assumption⟩ | exact ⟨by assumption, by assumption, by assumption⟩ | exact (fun q => absurd q.1 (by assumption)) | exact (fun q => absurd q.2.1 (by assumption)) | exact (fun q => absurd q.2.2 (by assumption)) | exact (fun q => absurd q.2.2.1 (by assumption)) | exact (fun q => absurd q.2.2.2 (by assumption)) | exact isRole_no (by assumption) (by assumption) (by assumption) (by assumption) | exact isRole_nb (by assumption) (by assumption) (by assumption) (by assumption) | exact isRole_out (by assumption) | exact enc_use (by assumption) (by assumption) (by assumption) | exact enc_103 (by assumption) | exact enc_103 (Eq.symm (by assumption)) | exact enc_115 (Eq.symm (by assumption)) | exact enc_102 (Eq.symm (by assumption)) | exact enc_98 (Eq.symm (by assumption)) | exact isRole_nc (by assumption) (by assumption) (by assumption) (by assumption) | exact enc_115 (by assumption) | exact enc_102 (by assumption) | exact enc_98 (by assumption) | exact Or.inr (by assumption) | rfl | exact Or.inl (by assumption) | exact Or.inr (Or.inl (by assumption)) | exact Or.inr (Or.inr (Or.inl (by assumption))) | exact Or.inr (Or.inr (Or.inr (by assumption))) | decide), rfl, (by first | rfl | assumption)⟩) | exact Or.inr (⟨(by first | assumption | exact inR_1 (by assumption) (by assumption) | exact inR_2 (by assumption) (by assumption) | exact inR_3 (by assumption) | exact inR_4 (by assumption) | exact inR_5 (by assumption) | exact ⟨by assumption, by assumption, by assumption, by assumption⟩ | exact ⟨by assumption, by assumption, by assumption⟩ | exact (fun q => absurd q.1 (by assumption)) | exact (fun q => absurd q.2.1 (by assumption)) | exact (fun q => absurd q.2.2 (by assumption)) | exact (fun q => absurd q.2.2.1 (by assumption)) | exact (fun q => absurd q.2.2.2 (by assumption)) | exact isRole_no (by assumption) (by assumption) (by assumption) (by assumption) | exact isRole_nb (by assumption) (by assumption) (by assumption) (by assumption) | exact isRole_out (by assumption) | exact enc_use (by assumption) (by assumption) (by assumption) | exact enc_103 (by assumption) | exact enc_103 (Eq.symm (by assumption)) | exact enc_115 (Eq.symm (by assumption)) | exact enc_102 (Eq.symm (by assumption)) | exact enc_98 (Eq.symm (by assumption)) | exact isRole_nc (by assumption) (by assumption) (by assumption) (by assumption) | exact enc_115 (by assumption) | exact enc_102 (by assumption) | exact enc_98 (by assumption) | exact Or.inr (by assumption) | rfl | exact Or.inl (by assumption) | exact Or.inr (Or.inl (by assumption)) | exact Or.inr (Or.inr (Or.inl (by assumption))) | exact Or.inr (Or.inr (Or.inr (by assumption))) | decide), rfl, (by first | rfl | assumption)⟩)), q_RW_mk hP hK hD [1] [0] rfl rfl (by decide) rfl ht hW.alike⟩, hS.F ht⟩) hS.2.2 dX11_pay_23
    · refine va_iald (D := D) (cl := vwCl) hx hb hK hP 0 0 rfl rfl (vp_in_nI (n := 1) (N := 4) (by decide) (by decide)) dX11_pay_22 ?_
      refine W.eq (g2 := F0 m 23 ls [.int 0]) rfl ?_
      exact W.iret (v := 0) hx hb hr (fun t ht hW => ⟨⟨0, 0, rfl, (by first | exact Or.inl (⟨(by first | assumption | exact inR_1 (by assumption) (by assumption) | exact inR_2 (by assumption) (by assumption) | exact inR_3 (by assumption) | exact inR_4 (by assumption) | exact inR_5 (by assumption) | exact ⟨by assumption, by assumption, by assumption, by assumption⟩ | exact ⟨by assumption, by assumption, by assumption⟩ | exact (fun q => absurd q.1 (by assumption)) | exact (fun q => absurd q.2.1 (by assumption)) | exact (fun q => absurd q.2.2 (by assumption)) | exact (fun q => absurd q.2.2.1 (by assumption)) | exact (fun q => absurd q.2.2.2 (by assumption)) | exact isRole_no (by assumption) (by assumption) (by assumption) (by assumption) | exact isRole_nb (by assumption) (by assumption) (by assumption) (by assumption) | exact isRole_out (by assumption) | exact enc_use (by assumption) (by assumption) (by assumption) | exact enc_103 (by assumption) | exact enc_103 (Eq.symm (by assumption)) | exact enc_115 (Eq.symm (by assumption)) | exact enc_102 (Eq.symm (by assumption)) | exact enc_98 (Eq.symm (by assumption)) | exact isRole_nc (by assumption) (by assumption) (by assumption) (by assumption) | exact enc_115 (by assumption) | exact enc_102 (by assumption) | exact enc_98 (by assumption) | exact Or.inr (by assumption) | rfl | exact Or.inl (by assumption) | exact Or.inr (Or.inl (by assumption)) | exact Or.inr (Or.inr (Or.inl (by assumption))) | exact Or.inr (Or.inr (Or.inr (by assumption))) | decide), rfl, (by first | rfl | assumption)⟩) | exact Or.inr (⟨(by first | assumption | exact inR_1 (by assumption) (by assumption) | exact inR_2 (by assumption) (by assumption) | exact inR_3 (by assumption) | exact inR_4 (by assumption) | exact inR_5 (by assumption) | exact ⟨by assumption, by assumption, by assumption, by assumption⟩ | exact ⟨by assumption, by assumption, by assumption⟩ | exact (fun q => absurd q.1 (by assumption)) | exact (fun q => absurd q.2.1 (by assumption)) | exact (fun q => absurd q.2.2 (by assumption)) | exact (fun q => absurd q.2.2.1 (by assumption)) | exact (fun q => absurd q.2.2.2 (by assumption)) | exact isRole_no (by assumption) (by assumption) (by assumption) (by assumption) | exact isRole_nb (by assumption) (by assumption) (by assumption) (by assumption) | exact isRole_out (by assumption) | exact enc_use (by assumption) (by assumption) (by assumption) | exact enc_103 (by assumption) | exact enc_103 (Eq.symm (by assumption)) | exact enc_115 (Eq.symm (by assumption)) | exact enc_102 (Eq.symm (by assumption)) | exact enc_98 (Eq.symm (by assumption)) | exact isRole_nc (by assumption) (by assumption) (by assumption) (by assumption) | exact enc_115 (by assumption) | exact enc_102 (by assumption) | exact enc_98 (by assumption) | exact Or.inr (by assumption) | rfl | exact Or.inl (by assumption) | exact Or.inr (Or.inl (by assumption)) | exact Or.inr (Or.inr (Or.inl (by assumption))) | exact Or.inr (Or.inr (Or.inr (by assumption))) | decide), rfl, (by first | rfl | assumption)⟩)), q_RW_mk hP hK hD [1] [0] rfl rfl (by decide) rfl ht hW.alike⟩, hS.F ht⟩) hS.2.2 dX11_pay_23
    · refine va_iald (D := D) (cl := vwCl) hx hb hK hP 0 0 rfl rfl (vp_in_nI (n := 2) (N := 4) (by decide) (by decide)) dX11_pay_22 ?_
      refine W.eq (g2 := F0 m 23 ls [.int 0]) rfl ?_
      exact W.iret (v := 0) hx hb hr (fun t ht hW => ⟨⟨0, 0, rfl, (by first | exact Or.inl (⟨(by first | assumption | exact inR_1 (by assumption) (by assumption) | exact inR_2 (by assumption) (by assumption) | exact inR_3 (by assumption) | exact inR_4 (by assumption) | exact inR_5 (by assumption) | exact ⟨by assumption, by assumption, by assumption, by assumption⟩ | exact ⟨by assumption, by assumption, by assumption⟩ | exact (fun q => absurd q.1 (by assumption)) | exact (fun q => absurd q.2.1 (by assumption)) | exact (fun q => absurd q.2.2 (by assumption)) | exact (fun q => absurd q.2.2.1 (by assumption)) | exact (fun q => absurd q.2.2.2 (by assumption)) | exact isRole_no (by assumption) (by assumption) (by assumption) (by assumption) | exact isRole_nb (by assumption) (by assumption) (by assumption) (by assumption) | exact isRole_out (by assumption) | exact enc_use (by assumption) (by assumption) (by assumption) | exact enc_103 (by assumption) | exact enc_103 (Eq.symm (by assumption)) | exact enc_115 (Eq.symm (by assumption)) | exact enc_102 (Eq.symm (by assumption)) | exact enc_98 (Eq.symm (by assumption)) | exact isRole_nc (by assumption) (by assumption) (by assumption) (by assumption) | exact enc_115 (by assumption) | exact enc_102 (by assumption) | exact enc_98 (by assumption) | exact Or.inr (by assumption) | rfl | exact Or.inl (by assumption) | exact Or.inr (Or.inl (by assumption)) | exact Or.inr (Or.inr (Or.inl (by assumption))) | exact Or.inr (Or.inr (Or.inr (by assumption))) | decide), rfl, (by first | rfl | assumption)⟩) | exact Or.inr (⟨(by first | assumption | exact inR_1 (by assumption) (by assumption) | exact inR_2 (by assumption) (by assumption) | exact inR_3 (by assumption) | exact inR_4 (by assumption) | exact inR_5 (by assumption) | exact ⟨by assumption, by assumption, by assumption, by assumption⟩ | exact ⟨by assumption, by assumption, by assumption⟩ | exact (fun q => absurd q.1 (by assumption)) | exact (fun q => absurd q.2.1 (by assumption)) | exact (fun q => absurd q.2.2 (by assumption)) | exact (fun q => absurd q.2.2.1 (by assumption)) | exact (fun q => absurd q.2.2.2 (by assumption)) | exact isRole_no (by assumption) (by assumption) (by assumption) (by assumption) | exact isRole_nb (by assumption) (by assumption) (by assumption) (by assumption) | exact isRole_out (by assumption) | exact enc_use (by assumption) (by assumption) (by assumption) | exact enc_103 (by assumption) | exact enc_103 (Eq.symm (by assumption)) | exact enc_115 (Eq.symm (by assumption)) | exact enc_102 (Eq.symm (by assumption)) | exact enc_98 (Eq.symm (by assumption)) | exact isRole_nc (by assumption) (by assumption) (by assumption) (by assumption) | exact enc_115 (by assumption) | exact enc_102 (by assumption) | exact enc_98 (by assumption) | exact Or.inr (by assumption) | rfl | exact Or.inl (by assumption) | exact Or.inr (Or.inl (by assumption)) | exact Or.inr (Or.inr (Or.inl (by assumption))) | exact Or.inr (Or.inr (Or.inr (by assumption))) | decide), rfl, (by first | rfl | assumption)⟩)), q_RW_mk hP hK hD [1] [0] rfl rfl (by decide) rfl ht hW.alike⟩, hS.F ht⟩) hS.2.2 dX11_pay_23
    · refine va_iald (D := D) (cl := vwCl) hx hb hK hP 0 0 rfl rfl (vp_in_nI (n := 3) (N := 4) (by decide) (by decide)) dX11_pay_22 ?_
      refine W.eq (g2 := F0 m 23 ls [.int 0]) rfl ?_
      exact W.iret (v := 0) hx hb hr (fun t ht hW => ⟨⟨0, 0, rfl, (by first | exact Or.inl (⟨(by first | assumption | exact inR_1 (by assumption) (by assumption) | exact inR_2 (by assumption) (by assumption) | exact inR_3 (by assumption) | exact inR_4 (by assumption) | exact inR_5 (by assumption) | exact ⟨by assumption, by assumption, by assumption, by assumption⟩ | exact ⟨by assumption, by assumption, by assumption⟩ | exact (fun q => absurd q.1 (by assumption)) | exact (fun q => absurd q.2.1 (by assumption)) | exact (fun q => absurd q.2.2 (by assumption)) | exact (fun q => absurd q.2.2.1 (by assumption)) | exact (fun q => absurd q.2.2.2 (by assumption)) | exact isRole_no (by assumption) (by assumption) (by assumption) (by assumption) | exact isRole_nb (by assumption) (by assumption) (by assumption) (by assumption) | exact isRole_out (by assumption) | exact enc_use (by assumption) (by assumption) (by assumption) | exact enc_103 (by assumption) | exact enc_103 (Eq.symm (by assumption)) | exact enc_115 (Eq.symm (by assumption)) | exact enc_102 (Eq.symm (by assumption)) | exact enc_98 (Eq.symm (by assumption)) | exact isRole_nc (by assumption) (by assumption) (by assumption) (by assumption) | exact enc_115 (by assumption) | exact enc_102 (by assumption) | exact enc_98 (by assumption) | exact Or.inr (by assumption) | rfl | exact Or.inl (by assumption) | exact Or.inr (Or.inl (by assumption)) | exact Or.inr (Or.inr (Or.inl (by assumption))) | exact Or.inr (Or.inr (Or.inr (by assumption))) | decide), rfl, (by first | rfl | assumption)⟩) | exact Or.inr (⟨(by first | assumption | exact inR_1 (by assumption) (by assumption) | exact inR_2 (by assumption) (by assumption) | exact inR_3 (by assumption) | exact inR_4 (by assumption) | exact inR_5 (by assumption) | exact ⟨by assumption, by assumption, by assumption, by assumption⟩ | exact ⟨by assumption, by assumption, by assumption⟩ | exact (fun q => absurd q.1 (by assumption)) | exact (fun q => absurd q.2.1 (by assumption)) | exact (fun q => absurd q.2.2 (by assumption)) | exact (fun q => absurd q.2.2.1 (by assumption)) | exact (fun q => absurd q.2.2.2 (by assumption)) | exact isRole_no (by assumption) (by assumption) (by assumption) (by assumption) | exact isRole_nb (by assumption) (by assumption) (by assumption) (by assumption) | exact isRole_out (by assumption) | exact enc_use (by assumption) (by assumption) (by assumption) | exact enc_103 (by assumption) | exact enc_103 (Eq.symm (by assumption)) | exact enc_115 (Eq.symm (by assumption)) | exact enc_102 (Eq.symm (by assumption)) | exact enc_98 (Eq.symm (by assumption)) | exact isRole_nc (by assumption) (by assumption) (by assumption) (by assumption) | exact enc_115 (by assumption) | exact enc_102 (by assumption) | exact enc_98 (by assumption) | exact Or.inr (by assumption) | rfl | exact Or.inl (by assumption) | exact Or.inr (Or.inl (by assumption)) | exact Or.inr (Or.inr (Or.inl (by assumption))) | exact Or.inr (Or.inr (Or.inr (by assumption))) | decide), rfl, (by first | rfl | assumption)⟩)), q_RW_mk hP hK hD [1] [0] rfl rfl (by decide) rfl ht hW.alike⟩, hS.F ht⟩) hS.2.2 dX11_pay_23
    · exact absurd c_584 c_592
  · refine lv_if_eq (tgt := 12) hx hb dX11_pay_5 (by decide) (fun cc => absurd cc (by decide)) (fun _ => ?_)
    refine lv_iconst (v := 0) hx hb dX11_pay_8 (by decide) ?_
    refine lv_goto (tgt := 23) hx hb dX11_pay_9 (by decide) ?_
    exact W.iret (v := 0) hx hb hr (fun t ht hW => ⟨⟨0, 1, rfl, (by first | exact Or.inl (⟨(by first | assumption | exact inR_1 (by assumption) (by assumption) | exact inR_2 (by assumption) (by assumption) | exact inR_3 (by assumption) | exact inR_4 (by assumption) | exact inR_5 (by assumption) | exact ⟨by assumption, by assumption, by assumption, by assumption⟩ | exact ⟨by assumption, by assumption, by assumption⟩ | exact (fun q => absurd q.1 (by assumption)) | exact (fun q => absurd q.2.1 (by assumption)) | exact (fun q => absurd q.2.2 (by assumption)) | exact (fun q => absurd q.2.2.1 (by assumption)) | exact (fun q => absurd q.2.2.2 (by assumption)) | exact isRole_no (by assumption) (by assumption) (by assumption) (by assumption) | exact isRole_nb (by assumption) (by assumption) (by assumption) (by assumption) | exact isRole_out (by assumption) | exact enc_use (by assumption) (by assumption) (by assumption) | exact enc_103 (by assumption) | exact enc_103 (Eq.symm (by assumption)) | exact enc_115 (Eq.symm (by assumption)) | exact enc_102 (Eq.symm (by assumption)) | exact enc_98 (Eq.symm (by assumption)) | exact isRole_nc (by assumption) (by assumption) (by assumption) (by assumption) | exact enc_115 (by assumption) | exact enc_102 (by assumption) | exact enc_98 (by assumption) | exact Or.inr (by assumption) | rfl | exact Or.inl (by assumption) | exact Or.inr (Or.inl (by assumption)) | exact Or.inr (Or.inr (Or.inl (by assumption))) | exact Or.inr (Or.inr (Or.inr (by assumption))) | decide), rfl, (by first | rfl | assumption)⟩) | exact Or.inr (⟨(by first | assumption | exact inR_1 (by assumption) (by assumption) | exact inR_2 (by assumption) (by assumption) | exact inR_3 (by assumption) | exact inR_4 (by assumption) | exact inR_5 (by assumption) | exact ⟨by assumption, by assumption, by assumption, by assumption⟩ | exact ⟨by assumption, by assumption, by assumption⟩ | exact (fun q => absurd q.1 (by assumption)) | exact (fun q => absurd q.2.1 (by assumption)) | exact (fun q => absurd q.2.2 (by assumption)) | exact (fun q => absurd q.2.2.1 (by assumption)) | exact (fun q => absurd q.2.2.2 (by assumption)) | exact isRole_no (by assumption) (by assumption) (by assumption) (by assumption) | exact isRole_nb (by assumption) (by assumption) (by assumption) (by assumption) | exact isRole_out (by assumption) | exact enc_use (by assumption) (by assumption) (by assumption) | exact enc_103 (by assumption) | exact enc_103 (Eq.symm (by assumption)) | exact enc_115 (Eq.symm (by assumption)) | exact enc_102 (Eq.symm (by assumption)) | exact enc_98 (Eq.symm (by assumption)) | exact isRole_nc (by assumption) (by assumption) (by assumption) (by assumption) | exact enc_115 (by assumption) | exact enc_102 (by assumption) | exact enc_98 (by assumption) | exact Or.inr (by assumption) | rfl | exact Or.inl (by assumption) | exact Or.inr (Or.inl (by assumption)) | exact Or.inr (Or.inr (Or.inl (by assumption))) | exact Or.inr (Or.inr (Or.inr (by assumption))) | decide), rfl, (by first | rfl | assumption)⟩)), q_RW_mk hP hK hD [1] [0] rfl rfl (by decide) rfl ht hW.alike⟩, hS.F ht⟩) hS.2.2 dX11_pay_23
theorem dX11_init_0 : decode cX11_init 0 = .ok (.aload_n 0, 1) := by decide +kernel
theorem dX11_init_1 : decode cX11_init 1 = .ok (.invokespecial 1, 3) := by decide +kernel
theorem dX11_init_4 : decode cX11_init 4 = .ok (.aload_n 0, 1) := by decide +kernel
theorem dX11_init_5 : decode cX11_init 5 = .ok (.new 7, 3) := by decide +kernel
theorem dX11_init_8 : decode cX11_init 8 = .ok (.dup, 1) := by decide +kernel
theorem dX11_init_9 : decode cX11_init 9 = .ok (.invokespecial 9, 3) := by decide +kernel
theorem dX11_init_12 : decode cX11_init 12 = .ok (.putfield 10, 3) := by decide +kernel
theorem dX11_init_15 : decode cX11_init 15 = .ok (.aload_n 0, 1) := by decide +kernel
theorem dX11_init_16 : decode cX11_init 16 = .ok (.new 7, 3) := by decide +kernel
theorem dX11_init_19 : decode cX11_init 19 = .ok (.dup, 1) := by decide +kernel
theorem dX11_init_20 : decode cX11_init 20 = .ok (.invokespecial 9, 3) := by decide +kernel
theorem dX11_init_23 : decode cX11_init 23 = .ok (.putfield 16, 3) := by decide +kernel
theorem dX11_init_26 : decode cX11_init 26 = .ok (.aload_n 0, 1) := by decide +kernel
theorem dX11_init_27 : decode cX11_init 27 = .ok (.new 7, 3) := by decide +kernel
theorem dX11_init_30 : decode cX11_init 30 = .ok (.dup, 1) := by decide +kernel
theorem dX11_init_31 : decode cX11_init 31 = .ok (.invokespecial 9, 3) := by decide +kernel
theorem dX11_init_34 : decode cX11_init 34 = .ok (.putfield 19, 3) := by decide +kernel
theorem dX11_init_37 : decode cX11_init 37 = .ok (.aload_n 0, 1) := by decide +kernel
theorem dX11_init_38 : decode cX11_init 38 = .ok (.ldc 22, 2) := by decide +kernel
theorem dX11_init_40 : decode cX11_init 40 = .ok (.invokevirtual 24, 3) := by decide +kernel
theorem dX11_init_43 : decode cX11_init 43 = .ok (.newarray .int, 2) := by decide +kernel
theorem dX11_init_45 : decode cX11_init 45 = .ok (.putfield 30, 3) := by decide +kernel
theorem dX11_init_48 : decode cX11_init 48 = .ok (.aload_n 0, 1) := by decide +kernel
theorem dX11_init_49 : decode cX11_init 49 = .ok (.ldc 22, 2) := by decide +kernel
theorem dX11_init_51 : decode cX11_init 51 = .ok (.invokevirtual 24, 3) := by decide +kernel
theorem dX11_init_54 : decode cX11_init 54 = .ok (.newarray .int, 2) := by decide +kernel
theorem dX11_init_56 : decode cX11_init 56 = .ok (.putfield 34, 3) := by decide +kernel
theorem dX11_init_59 : decode cX11_init 59 = .ok (.aload_n 0, 1) := by decide +kernel
theorem dX11_init_60 : decode cX11_init 60 = .ok (.bipush 40, 2) := by decide +kernel
theorem dX11_init_62 : decode cX11_init 62 = .ok (.putfield 37, 3) := by decide +kernel
theorem dX11_init_65 : decode cX11_init 65 = .ok (.aload_n 0, 1) := by decide +kernel
theorem dX11_init_66 : decode cX11_init 66 = .ok (.iconst 0, 1) := by decide +kernel
theorem dX11_init_67 : decode cX11_init 67 = .ok (.putfield 41, 3) := by decide +kernel
theorem dX11_init_70 : decode cX11_init 70 = .ok (.return_, 1) := by decide +kernel
def wzEX11_init : List Cond := [.code yX11_init cX11_init 1 none, .methodLink RX11 1 objectInit, .instanceMethod objectInit, .code objectInit ⟨#[0xb1]⟩ 1 none, .classLink RX11 7 RJx4a65c, .instantiable RJx4a65c 3, .initialized RJx4a65c, .code yJx4a65c_init_da8c8 cJx4a65c_init_da8c8 1 none, .code yJxc12de_init_da8c8 cJxc12de_init_da8c8 1 none, .code yJxa1e45_init_da8c8 cJxa1e45_init_da8c8 1 none, .methodLink RJxa1e45 1 objectInit, .initialized RJxa1e45, .instanceMethod yJxa1e45_init_da8c8, .methodLink RJxc12de 1 yJxa1e45_init_da8c8, .fieldLink RJxc12de 7 "java/util/AbstractList" "modCount" "I", .initialized RJxc12de, .instanceMethod yJxc12de_init_da8c8, .methodLink RJx4a65c 1 yJxc12de_init_da8c8, .fieldLink RJx4a65c 39 "java/util/ArrayList" "DEFAULTCAPACITY_EMPTY_ELEMENTDATA" "[Ljava/lang/Object;", .fieldLink RJx4a65c 9 "java/util/ArrayList" "elementData" "[Ljava/lang/Object;", .instanceMethod yJx4a65c_init_da8c8, .methodLink RX11 9 yJx4a65c_init_da8c8, .fieldLink RX11 10 "GatherhouseModel" "glasses" "Ljava/util/ArrayList;", .fieldLink RX11 16 "GatherhouseModel" "pots" "Ljava/util/ArrayList;", .fieldLink RX11 19 "GatherhouseModel" "pieces" "Ljava/util/ArrayList;", .methodLink RX11 24 yJ0_length_8abf5, .instanceMethod yJ0_length_8abf5, .selects RJ0 yJ0_length_8abf5 yJ0_length_8abf5, .initialized RJ0, .code yJ0_length_8abf5 cJ0_length_8abf5 1 (some .int), .fieldLink RJ0 9 "java/lang/String" "value" "[B", .methodLink RJ0 335 yJ0_coder_7d493, .instanceMethod yJ0_coder_7d493, .selects RJ0 yJ0_coder_7d493 yJ0_coder_7d493, .code yJ0_coder_7d493 cJ0_coder_7d493 1 (some .byte), .fieldLink RJ0 38 "java/lang/String" "COMPACT_STRINGS" "Z", .fieldLink RJ0 15 "java/lang/String" "coder" "B", .arrayClass .int, .fieldLink RX11 30 "GatherhouseModel" "busy" "[I", .fieldLink RX11 34 "GatherhouseModel" "pay" "[I", .fieldLink RX11 37 "GatherhouseModel" "drop" "I", .fieldLink RX11 41 "GatherhouseModel" "thrown" "I"]
def wzX11_init : List Cond := wzEX11_init ++ (u_ws RJx4a65c TJx4a65c 3 ++ (u_ws RX11 TX11 13))
theorem zgEX11_init : wzEX11_init.all goodWord = true := by decide +kernel
theorem zuX11_init_Jx4a65c : ∀ w ∈ u_ws RJx4a65c TJx4a65c 3, w ∈ wzX11_init := (fun _ h => (List.mem_append_right _ (List.mem_append_left _ h)))
theorem zuX11_init_X11 : ∀ w ∈ u_ws RX11 TX11 13, w ∈ wzX11_init := (fun _ h => (List.mem_append_right _ (List.mem_append_right _ h)))
theorem gzX11_init_Jx4a65c_init_da8c8_9 : GoodIn wzX11_init (wzJx4a65c_init_da8c8) := (goodIn_app (z_lift (goodIn_r wzEJx4a65c_init_da8c8 [7, 8, 9, 10, 2, 3, 11, 12, 13, 14, 15, 16, 17, 18, 19] rfl zgEJx4a65c_init_da8c8)) (goodIn_sub (fun _ h => (List.mem_append_right _ (List.mem_append_left _ h))) zgU_Jx4a65c))
theorem gzX11_init_J0_length_8abf5_24 : GoodIn wzX11_init (wsV RX11 24 RJ0 yJ0_length_8abf5 wzJ0_length_8abf5) := (goodIn_app (z_lift (goodIn_r _ [25, 26, 27, 28] rfl (by decide +kernel))) (goodIn_app (z_lift (goodIn_r wzEJ0_length_8abf5 [29, 30, 31, 32, 33, 28, 34, 35, 36] rfl zgEJ0_length_8abf5)) z_gnil))
set_option maxHeartbeats 4000000 in
set_option maxRecDepth 100000 in
theorem zc_X11_init (l : Launch) (D : va_G) (G : Nat × Nat × Nat) (mo : Nat) (sz : Nat) : Met l yX11_init wzX11_init ({ frames := 4, cells := 5, slots := 17, locals := 72 }) (va_Pc [.ref mo] (p_RW D G [] [(mo, .inr (16, [.int 0, .null, .null, .null, .null, .null, .int 0, .int 0, .int 0, .int 0, .null, .int 0, .int 0]))] sz)) (va_Qv (fun (u : Unit) => True) (fun (u : Unit) (t : State) => ∃ (gl : Nat) (po : Nat) (pi : Nat) (bu : Nat) (pa : Nat) (ci : ClassId) (cj : ClassId), q_RW D [(ci, .int), (cj, .int)] [(mo, .inr (16, [.int 0, .ref gl, .ref po, .ref pi, .ref bu, .ref pa, .int 0, .int 0, .int 40, .int 0, .null, .int 0, .int 0])), (gl, .inr (4, [.int 0, .ref G.1, .int 0])), (po, .inr (4, [.int 0, .ref G.1, .int 0])), (pi, .inr (4, [.int 0, .ref G.1, .int 0])), (bu, .inl (ci, 4, .inl (fun _ => 0))), (pa, .inl (cj, 4, .inl (fun _ => 0)))] (va_A [(mo, .inr (16, [.int 0, .null, .null, .null, .null, .null, .int 0, .int 0, .int 0, .int 0, .null, .int 0, .int 0]))] sz) t) (va_A [(mo, .inr (16, [.int 0, .null, .null, .null, .null, .null, .int 0, .int 0, .int 0, .int 0, .null, .int 0, .int 0]))] sz)) 5 17 (va_A [(mo, .inr (16, [.int 0, .null, .null, .null, .null, .null, .int 0, .int 0, .int 0, .int 0, .null, .int 0, .int 0]))] sz) := by
  refine Met.ofW (cc := cX11_init) (maxL := 1) (ret := none) (by decide) rfl ?_
  intro p e s m args below meth c s₁ B hml hv
  obtain ⟨rfl, hsz, hP, hK, hD0, hT, hZ⟩ := hv
  have hx := B.exec
  have hb := B.bytes
  have hr := B.returns
  have hts := atoms_spec (ws := wzX11_init) B.pre
  have hown : s.vm.findClass RX11 = some m.cls := findClass_of_methodNamed B.named
  have hlocks := B.notSynchronized
  have hin : meth.name = "<init>" := (name_of_methodNamed B.named B.method).1
  subst hsz
  have hD := hD0.self (sz := s.heap.size)
  generalize hAe : va_A [(mo, .inr (16, [.int 0, .null, .null, .null, .null, .null, .int 0, .int 0, .int 0, .int 0, .null, .int 0, .int 0]))] s.heap.size = A at hD hZ ⊢
  have hA : ∀ q : Nat, s.heap.size ≤ q → A q := fun q h => by rw [← hAe]; exact Or.inr h
  have hS : va_S A s.heap s.heap [] := va_S.rf
  have hl := lv_entry ([.ref mo]) (n := 1) (Nat.le_of_ble_eq_true rfl)
  rw [lg_entry_eq]
  generalize (lg_sl ([.ref mo]) ++ List.replicate (1 - (lg_sl ([.ref mo])).length) Slot.unset).toArray = ls at hl ⊢
  have hl : lv_has ls 1 [(0, .ref mo)] := hl
  refine lv_aload_n hx hb dX11_init_0 rfl (lv_at hl 0 rfl) ?_
  refine W.objInit hx hb hown (hts (.methodLink RX11 1 objectInit) (by decide +kernel)) (hts (.instanceMethod objectInit) (by decide +kernel)) (hts (.code objectInit ⟨#[0xb1]⟩ 1 none) (by decide +kernel)) rfl (by rw [hml]; exact hl.1) rfl dX11_init_1 (Nat.le_of_ble_eq_true rfl) (Nat.le_of_ble_eq_true rfl) ?_
  refine W.eq (g2 := F0 m 4 ls []) rfl ?_
  refine lv_aload_n hx hb dX11_init_4 rfl (lv_at hl 0 rfl) ?_
  refine va_new (D := D) (cl := vwCl) (ci := 4) (fs := [.int 0, .null, .int 0]) (C := RJx4a65c) (T := TJx4a65c) (N := 3) hx hb hts zuX11_init_Jx4a65c tyJx4a65c tyJx4a65c_ok hown (hts (.classLink RX11 7 RJx4a65c) (by decide +kernel)) (hts (.instantiable RJx4a65c 3) (by decide +kernel)) (hts (.initialized RJx4a65c) (by decide +kernel)) hK hP hD hS hA rfl (fun j hj => by rcases (show j = 0 ∨ j = 1 ∨ j = 2 by omega) with rfl | rfl | rfl <;> rfl) (Nat.le_of_ble_eq_true rfl) (Nat.le_of_ble_eq_true rfl) dX11_init_5 (fun o_593 H hP hD hS => ?_)
  have hP : va_P D vwCl [(mo, .inr (16, [.int 0, .null, .null, .null, .null, .null, .int 0, .int 0, .int 0, .int 0, .null, .int 0, .int 0])), (o_593, .inr (4, [.int 0, .null, .int 0]))] H := hP
  have hD : va_D A [(mo, .inr (16, [.int 0, .null, .null, .null, .null, .null, .int 0, .int 0, .int 0, .int 0, .null, .int 0, .int 0])), (o_593, .inr (4, [.int 0, .null, .int 0]))] := hD
  refine W.widen (k := 1) (n := 3) (Nat.le_of_ble_eq_true rfl) (Nat.le_of_ble_eq_true rfl) ?_
  refine lv_dup hx hb dX11_init_8 rfl ?_
  have hFc := va_free (wc := [(o_593, .inr (4, [.int 0, .null, .int 0]))]) hD hS hA [1] rfl
  refine va_callv (va_runI (As := []) (rest := [.ref o_593, .ref mo]) ⟨hx, hb, hml, hown, hts⟩ (zc_Jx4a65c_init_da8c8 l D G o_593 H.size) (cwI 0 hts gzX11_init_Jx4a65c_init_da8c8_9 rfl rfl rfl (hts (.initialized RJx4a65c) (by decide +kernel)) (hts (.methodLink RX11 9 yJx4a65c_init_da8c8) (by decide +kernel)) (hts (.instanceMethod yJx4a65c_init_da8c8) (by decide +kernel)) rfl (by decide +kernel) ⟨(Nat.le_of_ble_eq_true rfl), (Nat.le_of_ble_eq_true rfl)⟩) ⟨p_RW_blind, (p_RW_at (tc := []) (wc := [(o_593, .inr (4, [.int 0, .null, .int 0]))]) hP hK hD hS hA hT hZ [1] [] rfl rfl (by decide) rfl [.ref o_593])⟩ rfl rfl hl.1 rfl (lv_room (Nat.le_of_ble_eq_true rfl)) dX11_init_9 ⟨(Nat.le_of_ble_eq_true rfl), (Nat.le_of_ble_eq_true rfl)⟩) hS (fun q _ h => hFc q h) hFc (fun u t H locs ht hvm w_595 hB hz1 hk1 hS => ?_)
  obtain ⟨hP, hD, hK⟩ := q_join (D := D) (wc := [(o_593, .inr (4, [.int 0, .null, .int 0]))]) (wr := [(mo, .inr (16, [.int 0, .null, .null, .null, .null, .null, .int 0, .int 0, .int 0, .int 0, .null, .int 0, .int 0]))]) (w1 := [(o_593, .inr (4, [.int 0, .ref G.1, .int 0]))]) (tyr := []) (ty1 := []) hP hD hK [1] [0] [] rfl rfl (by decide) (by decide) rfl hFc hk1 ht hvm hB
  have hP : va_P D vwCl [(mo, .inr (16, [.int 0, .null, .null, .null, .null, .null, .int 0, .int 0, .int 0, .int 0, .null, .int 0, .int 0])), (o_593, .inr (4, [.int 0, .ref G.1, .int 0]))] H := hP
  have hD : va_D A [(mo, .inr (16, [.int 0, .null, .null, .null, .null, .null, .int 0, .int 0, .int 0, .int 0, .null, .int 0, .int 0])), (o_593, .inr (4, [.int 0, .ref G.1, .int 0]))] := hD
  have hK : va_K D vwCl [] s := hK
  refine va_putF (D := D) (cl := vwCl) (ci := 16) (v := .ref o_593) (ty := (.object "java/util/ArrayList")) (C := RX11) (T := TX11) (N := 13) hx hb hts zuX11_init_X11 tyX11 tyX11_ok nmX11 hown hK hP hD hS 0 rfl rfl 1 (by decide) (hts (.fieldLink RX11 10 "GatherhouseModel" "glasses" "Ljava/util/ArrayList;") (by decide +kernel)) (fun _ h9 => h9) rfl hin rfl (by decide +kernel) rfl rfl (Nat.le_of_ble_eq_true rfl) dX11_init_12 (fun H locs hP hD hS => ?_)
  have hP : va_P D vwCl [(mo, .inr (16, [.int 0, .ref o_593, .null, .null, .null, .null, .int 0, .int 0, .int 0, .int 0, .null, .int 0, .int 0])), (o_593, .inr (4, [.int 0, .ref G.1, .int 0]))] H := hP
  have hD : va_D A [(mo, .inr (16, [.int 0, .ref o_593, .null, .null, .null, .null, .int 0, .int 0, .int 0, .int 0, .null, .int 0, .int 0])), (o_593, .inr (4, [.int 0, .ref G.1, .int 0]))] := hD
  refine lv_aload_n hx hb dX11_init_15 rfl (lv_at hl 0 rfl) ?_
  refine va_new (D := D) (cl := vwCl) (ci := 4) (fs := [.int 0, .null, .int 0]) (C := RJx4a65c) (T := TJx4a65c) (N := 3) hx hb hts zuX11_init_Jx4a65c tyJx4a65c tyJx4a65c_ok hown (hts (.classLink RX11 7 RJx4a65c) (by decide +kernel)) (hts (.instantiable RJx4a65c 3) (by decide +kernel)) (hts (.initialized RJx4a65c) (by decide +kernel)) hK hP hD hS hA rfl (fun j hj => by rcases (show j = 0 ∨ j = 1 ∨ j = 2 by omega) with rfl | rfl | rfl <;> rfl) (Nat.le_of_ble_eq_true rfl) (Nat.le_of_ble_eq_true rfl) dX11_init_16 (fun o_596 H hP hD hS => ?_)
  have hP : va_P D vwCl [(mo, .inr (16, [.int 0, .ref o_593, .null, .null, .null, .null, .int 0, .int 0, .int 0, .int 0, .null, .int 0, .int 0])), (o_593, .inr (4, [.int 0, .ref G.1, .int 0])), (o_596, .inr (4, [.int 0, .null, .int 0]))] H := hP
  have hD : va_D A [(mo, .inr (16, [.int 0, .ref o_593, .null, .null, .null, .null, .int 0, .int 0, .int 0, .int 0, .null, .int 0, .int 0])), (o_593, .inr (4, [.int 0, .ref G.1, .int 0])), (o_596, .inr (4, [.int 0, .null, .int 0]))] := hD
  refine W.widen (k := 2) (n := 6) (Nat.le_of_ble_eq_true rfl) (Nat.le_of_ble_eq_true rfl) ?_
  refine lv_dup hx hb dX11_init_19 rfl ?_
  have hFc := va_free (wc := [(o_596, .inr (4, [.int 0, .null, .int 0]))]) hD hS hA [2] rfl
  refine va_callv (va_runI (As := []) (rest := [.ref o_596, .ref mo]) ⟨hx, hb, hml, hown, hts⟩ (zc_Jx4a65c_init_da8c8 l D G o_596 H.size) (cwI 0 hts gzX11_init_Jx4a65c_init_da8c8_9 rfl rfl rfl (hts (.initialized RJx4a65c) (by decide +kernel)) (hts (.methodLink RX11 9 yJx4a65c_init_da8c8) (by decide +kernel)) (hts (.instanceMethod yJx4a65c_init_da8c8) (by decide +kernel)) rfl (by decide +kernel) ⟨(Nat.le_of_ble_eq_true rfl), (Nat.le_of_ble_eq_true rfl)⟩) ⟨p_RW_blind, (p_RW_at (tc := []) (wc := [(o_596, .inr (4, [.int 0, .null, .int 0]))]) hP hK hD hS hA hT hZ [2] [] rfl rfl (by decide) rfl [.ref o_596])⟩ rfl rfl hl.1 rfl (lv_room (Nat.le_of_ble_eq_true rfl)) dX11_init_20 ⟨(Nat.le_of_ble_eq_true rfl), (Nat.le_of_ble_eq_true rfl)⟩) hS (fun q _ h => hFc q h) hFc (fun u t H locs ht hvm w_598 hB hz1 hk1 hS => ?_)
  obtain ⟨hP, hD, hK⟩ := q_join (D := D) (wc := [(o_596, .inr (4, [.int 0, .null, .int 0]))]) (wr := [(mo, .inr (16, [.int 0, .ref o_593, .null, .null, .null, .null, .int 0, .int 0, .int 0, .int 0, .null, .int 0, .int 0])), (o_593, .inr (4, [.int 0, .ref G.1, .int 0]))]) (w1 := [(o_596, .inr (4, [.int 0, .ref G.1, .int 0]))]) (tyr := []) (ty1 := []) hP hD hK [2] [0, 1] [] rfl rfl (by decide) (by decide) rfl hFc hk1 ht hvm hB
  have hP : va_P D vwCl [(mo, .inr (16, [.int 0, .ref o_593, .null, .null, .null, .null, .int 0, .int 0, .int 0, .int 0, .null, .int 0, .int 0])), (o_593, .inr (4, [.int 0, .ref G.1, .int 0])), (o_596, .inr (4, [.int 0, .ref G.1, .int 0]))] H := hP
  have hD : va_D A [(mo, .inr (16, [.int 0, .ref o_593, .null, .null, .null, .null, .int 0, .int 0, .int 0, .int 0, .null, .int 0, .int 0])), (o_593, .inr (4, [.int 0, .ref G.1, .int 0])), (o_596, .inr (4, [.int 0, .ref G.1, .int 0]))] := hD
  have hK : va_K D vwCl [] s := hK
  refine va_putF (D := D) (cl := vwCl) (ci := 16) (v := .ref o_596) (ty := (.object "java/util/ArrayList")) (C := RX11) (T := TX11) (N := 13) hx hb hts zuX11_init_X11 tyX11 tyX11_ok nmX11 hown hK hP hD hS 0 rfl rfl 2 (by decide) (hts (.fieldLink RX11 16 "GatherhouseModel" "pots" "Ljava/util/ArrayList;") (by decide +kernel)) (fun _ h9 => h9) rfl hin rfl (by decide +kernel) rfl rfl (Nat.le_of_ble_eq_true rfl) dX11_init_23 (fun H locs hP hD hS => ?_)
  have hP : va_P D vwCl [(mo, .inr (16, [.int 0, .ref o_593, .ref o_596, .null, .null, .null, .int 0, .int 0, .int 0, .int 0, .null, .int 0, .int 0])), (o_593, .inr (4, [.int 0, .ref G.1, .int 0])), (o_596, .inr (4, [.int 0, .ref G.1, .int 0]))] H := hP
  have hD : va_D A [(mo, .inr (16, [.int 0, .ref o_593, .ref o_596, .null, .null, .null, .int 0, .int 0, .int 0, .int 0, .null, .int 0, .int 0])), (o_593, .inr (4, [.int 0, .ref G.1, .int 0])), (o_596, .inr (4, [.int 0, .ref G.1, .int 0]))] := hD
  refine lv_aload_n hx hb dX11_init_26 rfl (lv_at hl 0 rfl) ?_
  refine va_new (D := D) (cl := vwCl) (ci := 4) (fs := [.int 0, .null, .int 0]) (C := RJx4a65c) (T := TJx4a65c) (N := 3) hx hb hts zuX11_init_Jx4a65c tyJx4a65c tyJx4a65c_ok hown (hts (.classLink RX11 7 RJx4a65c) (by decide +kernel)) (hts (.instantiable RJx4a65c 3) (by decide +kernel)) (hts (.initialized RJx4a65c) (by decide +kernel)) hK hP hD hS hA rfl (fun j hj => by rcases (show j = 0 ∨ j = 1 ∨ j = 2 by omega) with rfl | rfl | rfl <;> rfl) (Nat.le_of_ble_eq_true rfl) (Nat.le_of_ble_eq_true rfl) dX11_init_27 (fun o_599 H hP hD hS => ?_)
  have hP : va_P D vwCl [(mo, .inr (16, [.int 0, .ref o_593, .ref o_596, .null, .null, .null, .int 0, .int 0, .int 0, .int 0, .null, .int 0, .int 0])), (o_593, .inr (4, [.int 0, .ref G.1, .int 0])), (o_596, .inr (4, [.int 0, .ref G.1, .int 0])), (o_599, .inr (4, [.int 0, .null, .int 0]))] H := hP
  have hD : va_D A [(mo, .inr (16, [.int 0, .ref o_593, .ref o_596, .null, .null, .null, .int 0, .int 0, .int 0, .int 0, .null, .int 0, .int 0])), (o_593, .inr (4, [.int 0, .ref G.1, .int 0])), (o_596, .inr (4, [.int 0, .ref G.1, .int 0])), (o_599, .inr (4, [.int 0, .null, .int 0]))] := hD
  refine W.widen (k := 3) (n := 9) (Nat.le_of_ble_eq_true rfl) (Nat.le_of_ble_eq_true rfl) ?_
  refine lv_dup hx hb dX11_init_30 rfl ?_
  have hFc := va_free (wc := [(o_599, .inr (4, [.int 0, .null, .int 0]))]) hD hS hA [3] rfl
  refine va_callv (va_runI (As := []) (rest := [.ref o_599, .ref mo]) ⟨hx, hb, hml, hown, hts⟩ (zc_Jx4a65c_init_da8c8 l D G o_599 H.size) (cwI 0 hts gzX11_init_Jx4a65c_init_da8c8_9 rfl rfl rfl (hts (.initialized RJx4a65c) (by decide +kernel)) (hts (.methodLink RX11 9 yJx4a65c_init_da8c8) (by decide +kernel)) (hts (.instanceMethod yJx4a65c_init_da8c8) (by decide +kernel)) rfl (by decide +kernel) ⟨(Nat.le_of_ble_eq_true rfl), (Nat.le_of_ble_eq_true rfl)⟩) ⟨p_RW_blind, (p_RW_at (tc := []) (wc := [(o_599, .inr (4, [.int 0, .null, .int 0]))]) hP hK hD hS hA hT hZ [3] [] rfl rfl (by decide) rfl [.ref o_599])⟩ rfl rfl hl.1 rfl (lv_room (Nat.le_of_ble_eq_true rfl)) dX11_init_31 ⟨(Nat.le_of_ble_eq_true rfl), (Nat.le_of_ble_eq_true rfl)⟩) hS (fun q _ h => hFc q h) hFc (fun u t H locs ht hvm w_601 hB hz1 hk1 hS => ?_)
  obtain ⟨hP, hD, hK⟩ := q_join (D := D) (wc := [(o_599, .inr (4, [.int 0, .null, .int 0]))]) (wr := [(mo, .inr (16, [.int 0, .ref o_593, .ref o_596, .null, .null, .null, .int 0, .int 0, .int 0, .int 0, .null, .int 0, .int 0])), (o_593, .inr (4, [.int 0, .ref G.1, .int 0])), (o_596, .inr (4, [.int 0, .ref G.1, .int 0]))]) (w1 := [(o_599, .inr (4, [.int 0, .ref G.1, .int 0]))]) (tyr := []) (ty1 := []) hP hD hK [3] [0, 1, 2] [] rfl rfl (by decide) (by decide) rfl hFc hk1 ht hvm hB
  have hP : va_P D vwCl [(mo, .inr (16, [.int 0, .ref o_593, .ref o_596, .null, .null, .null, .int 0, .int 0, .int 0, .int 0, .null, .int 0, .int 0])), (o_593, .inr (4, [.int 0, .ref G.1, .int 0])), (o_596, .inr (4, [.int 0, .ref G.1, .int 0])), (o_599, .inr (4, [.int 0, .ref G.1, .int 0]))] H := hP
  have hD : va_D A [(mo, .inr (16, [.int 0, .ref o_593, .ref o_596, .null, .null, .null, .int 0, .int 0, .int 0, .int 0, .null, .int 0, .int 0])), (o_593, .inr (4, [.int 0, .ref G.1, .int 0])), (o_596, .inr (4, [.int 0, .ref G.1, .int 0])), (o_599, .inr (4, [.int 0, .ref G.1, .int 0]))] := hD
  have hK : va_K D vwCl [] s := hK
  refine va_putF (D := D) (cl := vwCl) (ci := 16) (v := .ref o_599) (ty := (.object "java/util/ArrayList")) (C := RX11) (T := TX11) (N := 13) hx hb hts zuX11_init_X11 tyX11 tyX11_ok nmX11 hown hK hP hD hS 0 rfl rfl 3 (by decide) (hts (.fieldLink RX11 19 "GatherhouseModel" "pieces" "Ljava/util/ArrayList;") (by decide +kernel)) (fun _ h9 => h9) rfl hin rfl (by decide +kernel) rfl rfl (Nat.le_of_ble_eq_true rfl) dX11_init_34 (fun H locs hP hD hS => ?_)
  have hP : va_P D vwCl [(mo, .inr (16, [.int 0, .ref o_593, .ref o_596, .ref o_599, .null, .null, .int 0, .int 0, .int 0, .int 0, .null, .int 0, .int 0])), (o_593, .inr (4, [.int 0, .ref G.1, .int 0])), (o_596, .inr (4, [.int 0, .ref G.1, .int 0])), (o_599, .inr (4, [.int 0, .ref G.1, .int 0]))] H := hP
  have hD : va_D A [(mo, .inr (16, [.int 0, .ref o_593, .ref o_596, .ref o_599, .null, .null, .int 0, .int 0, .int 0, .int 0, .null, .int 0, .int 0])), (o_593, .inr (4, [.int 0, .ref G.1, .int 0])), (o_596, .inr (4, [.int 0, .ref G.1, .int 0])), (o_599, .inr (4, [.int 0, .ref G.1, .int 0]))] := hD
  refine lv_aload_n hx hb dX11_init_37 rfl (lv_at hl 0 rfl) ?_
  refine va_ldcS hx hb hown hT.2.2.2.2.2.2.2.2 dX11_init_38 ?_
  have hFc := va_free (wc := []) hD hS hA [] rfl
  refine va_calli (va_runV (As := []) (rest := [.ref mo]) ⟨hx, hb, hml, hown, hts⟩ (zc_J0_length_8abf5 l D G H.size) (cwV 0 hts gzX11_init_J0_length_8abf5_24 rfl rfl rfl (by decide +kernel) ⟨(Nat.le_of_ble_eq_true rfl), (Nat.le_of_ble_eq_true rfl)⟩) ⟨p_RW_blind, vk_recv hZ.2.2.2.2.2 (i := 0) (by decide) hS, (p_RW_at (tc := []) (wc := []) hP hK hD hS hA hT hZ [] [] rfl rfl (by decide) rfl [.ref G.2.1])⟩ rfl rfl hl.1 rfl (lv_room (Nat.le_of_ble_eq_true rfl)) dX11_init_40 ⟨(Nat.le_of_ble_eq_true rfl), (Nat.le_of_ble_eq_true rfl)⟩) hS (fun q _ h => hFc q h) hFc (fun r_602 u t H locs ht hvm w_603 hB hz1 hk1 hS => ?_)
  obtain ⟨hP, hD, hK⟩ := q_join (D := D) (wc := []) (wr := [(mo, .inr (16, [.int 0, .ref o_593, .ref o_596, .ref o_599, .null, .null, .int 0, .int 0, .int 0, .int 0, .null, .int 0, .int 0])), (o_593, .inr (4, [.int 0, .ref G.1, .int 0])), (o_596, .inr (4, [.int 0, .ref G.1, .int 0])), (o_599, .inr (4, [.int 0, .ref G.1, .int 0]))]) (w1 := []) (tyr := []) (ty1 := []) hP hD hK [] [0, 1, 2, 3] [] rfl rfl (by decide) (by decide) rfl hFc hk1 ht hvm hB
  have hP : va_P D vwCl [(mo, .inr (16, [.int 0, .ref o_593, .ref o_596, .ref o_599, .null, .null, .int 0, .int 0, .int 0, .int 0, .null, .int 0, .int 0])), (o_593, .inr (4, [.int 0, .ref G.1, .int 0])), (o_596, .inr (4, [.int 0, .ref G.1, .int 0])), (o_599, .inr (4, [.int 0, .ref G.1, .int 0]))] H := hP
  have hD : va_D A [(mo, .inr (16, [.int 0, .ref o_593, .ref o_596, .ref o_599, .null, .null, .int 0, .int 0, .int 0, .int 0, .null, .int 0, .int 0])), (o_593, .inr (4, [.int 0, .ref G.1, .int 0])), (o_596, .inr (4, [.int 0, .ref G.1, .int 0])), (o_599, .inr (4, [.int 0, .ref G.1, .int 0]))] := hD
  have hK : va_K D vwCl [] s := hK
  obtain rfl := w_603
  refine va_newa (D := D) (cl := vwCl) (atype := .int) (ty := .int) (N' := 4) (a0 := (4, .inl (fun _ => 0))) hx hb (hts (.arrayClass .int) (by decide +kernel)) rfl hK hP hD hS hA (fun _ => rfl) (by decide) (by decide) (by decide) (Nat.le_of_ble_eq_true rfl) (Nat.le_of_ble_eq_true rfl) dX11_init_43 (fun o_604 cA_605 H hK hP hD hS => ?_)
  have hP : va_P D vwCl [(mo, .inr (16, [.int 0, .ref o_593, .ref o_596, .ref o_599, .null, .null, .int 0, .int 0, .int 0, .int 0, .null, .int 0, .int 0])), (o_593, .inr (4, [.int 0, .ref G.1, .int 0])), (o_596, .inr (4, [.int 0, .ref G.1, .int 0])), (o_599, .inr (4, [.int 0, .ref G.1, .int 0])), (o_604, .inl (cA_605, 4, .inl (fun _ => 0)))] H := hP
  have hD : va_D A [(mo, .inr (16, [.int 0, .ref o_593, .ref o_596, .ref o_599, .null, .null, .int 0, .int 0, .int 0, .int 0, .null, .int 0, .int 0])), (o_593, .inr (4, [.int 0, .ref G.1, .int 0])), (o_596, .inr (4, [.int 0, .ref G.1, .int 0])), (o_599, .inr (4, [.int 0, .ref G.1, .int 0])), (o_604, .inl (cA_605, 4, .inl (fun _ => 0)))] := hD
  have hK : va_K D vwCl [(cA_605, .int)] s := hK
  refine W.widen (k := 4) (n := 13) (Nat.le_of_ble_eq_true rfl) (Nat.le_of_ble_eq_true rfl) ?_
  refine va_putF (D := D) (cl := vwCl) (ci := 16) (v := .ref o_604) (ty := (.array .int)) (C := RX11) (T := TX11) (N := 13) hx hb hts zuX11_init_X11 tyX11 tyX11_ok nmX11 hown hK hP hD hS 0 rfl rfl 4 (by decide) (hts (.fieldLink RX11 30 "GatherhouseModel" "busy" "[I") (by decide +kernel)) (fun _ h9 => h9) rfl hin rfl (by decide +kernel) rfl rfl (Nat.le_of_ble_eq_true rfl) dX11_init_45 (fun H locs hP hD hS => ?_)
  have hP : va_P D vwCl [(mo, .inr (16, [.int 0, .ref o_593, .ref o_596, .ref o_599, .ref o_604, .null, .int 0, .int 0, .int 0, .int 0, .null, .int 0, .int 0])), (o_593, .inr (4, [.int 0, .ref G.1, .int 0])), (o_596, .inr (4, [.int 0, .ref G.1, .int 0])), (o_599, .inr (4, [.int 0, .ref G.1, .int 0])), (o_604, .inl (cA_605, 4, .inl (fun _ => 0)))] H := hP
  have hD : va_D A [(mo, .inr (16, [.int 0, .ref o_593, .ref o_596, .ref o_599, .ref o_604, .null, .int 0, .int 0, .int 0, .int 0, .null, .int 0, .int 0])), (o_593, .inr (4, [.int 0, .ref G.1, .int 0])), (o_596, .inr (4, [.int 0, .ref G.1, .int 0])), (o_599, .inr (4, [.int 0, .ref G.1, .int 0])), (o_604, .inl (cA_605, 4, .inl (fun _ => 0)))] := hD
  refine lv_aload_n hx hb dX11_init_48 rfl (lv_at hl 0 rfl) ?_
  refine va_ldcS hx hb hown hT.2.2.2.2.2.2.2.2 dX11_init_49 ?_
  have hFc := va_free (wc := []) hD hS hA [] rfl
  refine va_calli (va_runV (As := []) (rest := [.ref mo]) ⟨hx, hb, hml, hown, hts⟩ (zc_J0_length_8abf5 l D G H.size) (cwV 0 hts gzX11_init_J0_length_8abf5_24 rfl rfl rfl (by decide +kernel) ⟨(Nat.le_of_ble_eq_true rfl), (Nat.le_of_ble_eq_true rfl)⟩) ⟨p_RW_blind, vk_recv hZ.2.2.2.2.2 (i := 0) (by decide) hS, (p_RW_at (tc := []) (wc := []) hP hK hD hS hA hT hZ [] [] rfl rfl (by decide) rfl [.ref G.2.1])⟩ rfl rfl hl.1 rfl (lv_room (Nat.le_of_ble_eq_true rfl)) dX11_init_51 ⟨(Nat.le_of_ble_eq_true rfl), (Nat.le_of_ble_eq_true rfl)⟩) hS (fun q _ h => hFc q h) hFc (fun r_606 u t H locs ht hvm w_607 hB hz1 hk1 hS => ?_)
  obtain ⟨hP, hD, hK⟩ := q_join (D := D) (wc := []) (wr := [(mo, .inr (16, [.int 0, .ref o_593, .ref o_596, .ref o_599, .ref o_604, .null, .int 0, .int 0, .int 0, .int 0, .null, .int 0, .int 0])), (o_593, .inr (4, [.int 0, .ref G.1, .int 0])), (o_596, .inr (4, [.int 0, .ref G.1, .int 0])), (o_599, .inr (4, [.int 0, .ref G.1, .int 0])), (o_604, .inl (cA_605, 4, .inl (fun _ => 0)))]) (w1 := []) (tyr := [(cA_605, .int)]) (ty1 := []) hP hD hK [] [0, 1, 2, 3, 4] [0] rfl rfl (by decide) (by decide) rfl hFc hk1 ht hvm hB
  have hP : va_P D vwCl [(mo, .inr (16, [.int 0, .ref o_593, .ref o_596, .ref o_599, .ref o_604, .null, .int 0, .int 0, .int 0, .int 0, .null, .int 0, .int 0])), (o_593, .inr (4, [.int 0, .ref G.1, .int 0])), (o_596, .inr (4, [.int 0, .ref G.1, .int 0])), (o_599, .inr (4, [.int 0, .ref G.1, .int 0])), (o_604, .inl (cA_605, 4, .inl (fun _ => 0)))] H := hP
  have hD : va_D A [(mo, .inr (16, [.int 0, .ref o_593, .ref o_596, .ref o_599, .ref o_604, .null, .int 0, .int 0, .int 0, .int 0, .null, .int 0, .int 0])), (o_593, .inr (4, [.int 0, .ref G.1, .int 0])), (o_596, .inr (4, [.int 0, .ref G.1, .int 0])), (o_599, .inr (4, [.int 0, .ref G.1, .int 0])), (o_604, .inl (cA_605, 4, .inl (fun _ => 0)))] := hD
  have hK : va_K D vwCl [(cA_605, .int)] s := hK
  obtain rfl := w_607
  refine va_newa (D := D) (cl := vwCl) (atype := .int) (ty := .int) (N' := 4) (a0 := (4, .inl (fun _ => 0))) hx hb (hts (.arrayClass .int) (by decide +kernel)) rfl hK hP hD hS hA (fun _ => rfl) (by decide) (by decide) (by decide) (Nat.le_of_ble_eq_true rfl) (Nat.le_of_ble_eq_true rfl) dX11_init_54 (fun o_608 cA_609 H hK hP hD hS => ?_)
  have hP : va_P D vwCl [(mo, .inr (16, [.int 0, .ref o_593, .ref o_596, .ref o_599, .ref o_604, .null, .int 0, .int 0, .int 0, .int 0, .null, .int 0, .int 0])), (o_593, .inr (4, [.int 0, .ref G.1, .int 0])), (o_596, .inr (4, [.int 0, .ref G.1, .int 0])), (o_599, .inr (4, [.int 0, .ref G.1, .int 0])), (o_604, .inl (cA_605, 4, .inl (fun _ => 0))), (o_608, .inl (cA_609, 4, .inl (fun _ => 0)))] H := hP
  have hD : va_D A [(mo, .inr (16, [.int 0, .ref o_593, .ref o_596, .ref o_599, .ref o_604, .null, .int 0, .int 0, .int 0, .int 0, .null, .int 0, .int 0])), (o_593, .inr (4, [.int 0, .ref G.1, .int 0])), (o_596, .inr (4, [.int 0, .ref G.1, .int 0])), (o_599, .inr (4, [.int 0, .ref G.1, .int 0])), (o_604, .inl (cA_605, 4, .inl (fun _ => 0))), (o_608, .inl (cA_609, 4, .inl (fun _ => 0)))] := hD
  have hK : va_K D vwCl [(cA_605, .int), (cA_609, .int)] s := hK
  refine W.widen (k := 5) (n := 17) (Nat.le_of_ble_eq_true rfl) (Nat.le_of_ble_eq_true rfl) ?_
  refine va_putF (D := D) (cl := vwCl) (ci := 16) (v := .ref o_608) (ty := (.array .int)) (C := RX11) (T := TX11) (N := 13) hx hb hts zuX11_init_X11 tyX11 tyX11_ok nmX11 hown hK hP hD hS 0 rfl rfl 5 (by decide) (hts (.fieldLink RX11 34 "GatherhouseModel" "pay" "[I") (by decide +kernel)) (fun _ h9 => h9) rfl hin rfl (by decide +kernel) rfl rfl (Nat.le_of_ble_eq_true rfl) dX11_init_56 (fun H locs hP hD hS => ?_)
  have hP : va_P D vwCl [(mo, .inr (16, [.int 0, .ref o_593, .ref o_596, .ref o_599, .ref o_604, .ref o_608, .int 0, .int 0, .int 0, .int 0, .null, .int 0, .int 0])), (o_593, .inr (4, [.int 0, .ref G.1, .int 0])), (o_596, .inr (4, [.int 0, .ref G.1, .int 0])), (o_599, .inr (4, [.int 0, .ref G.1, .int 0])), (o_604, .inl (cA_605, 4, .inl (fun _ => 0))), (o_608, .inl (cA_609, 4, .inl (fun _ => 0)))] H := hP
  have hD : va_D A [(mo, .inr (16, [.int 0, .ref o_593, .ref o_596, .ref o_599, .ref o_604, .ref o_608, .int 0, .int 0, .int 0, .int 0, .null, .int 0, .int 0])), (o_593, .inr (4, [.int 0, .ref G.1, .int 0])), (o_596, .inr (4, [.int 0, .ref G.1, .int 0])), (o_599, .inr (4, [.int 0, .ref G.1, .int 0])), (o_604, .inl (cA_605, 4, .inl (fun _ => 0))), (o_608, .inl (cA_609, 4, .inl (fun _ => 0)))] := hD
  refine lv_aload_n hx hb dX11_init_59 rfl (lv_at hl 0 rfl) ?_
  refine lv_bipush (v := 40) hx hb dX11_init_60 (by decide) ?_
  refine va_put (D := D) (cl := vwCl) (ci := 16) (v := .int 40) (ty := .int) (C := RX11) (T := TX11) (N := 13) hx hb hts zuX11_init_X11 tyX11 tyX11_ok nmX11 hown hK hP hD hS 0 rfl rfl 8 (by decide) (hts (.fieldLink RX11 37 "GatherhouseModel" "drop" "I") (by decide +kernel)) (fun _ h9 => h9) rfl (by decide +kernel) rfl rfl (Nat.le_of_ble_eq_true rfl) dX11_init_62 (fun H locs hP hD hS => ?_)
  have hP : va_P D vwCl [(mo, .inr (16, [.int 0, .ref o_593, .ref o_596, .ref o_599, .ref o_604, .ref o_608, .int 0, .int 0, .int 40, .int 0, .null, .int 0, .int 0])), (o_593, .inr (4, [.int 0, .ref G.1, .int 0])), (o_596, .inr (4, [.int 0, .ref G.1, .int 0])), (o_599, .inr (4, [.int 0, .ref G.1, .int 0])), (o_604, .inl (cA_605, 4, .inl (fun _ => 0))), (o_608, .inl (cA_609, 4, .inl (fun _ => 0)))] H := hP
  have hD : va_D A [(mo, .inr (16, [.int 0, .ref o_593, .ref o_596, .ref o_599, .ref o_604, .ref o_608, .int 0, .int 0, .int 40, .int 0, .null, .int 0, .int 0])), (o_593, .inr (4, [.int 0, .ref G.1, .int 0])), (o_596, .inr (4, [.int 0, .ref G.1, .int 0])), (o_599, .inr (4, [.int 0, .ref G.1, .int 0])), (o_604, .inl (cA_605, 4, .inl (fun _ => 0))), (o_608, .inl (cA_609, 4, .inl (fun _ => 0)))] := hD
  refine lv_aload_n hx hb dX11_init_65 rfl (lv_at hl 0 rfl) ?_
  refine lv_iconst (v := 0) hx hb dX11_init_66 (by decide) ?_
  refine va_put (D := D) (cl := vwCl) (ci := 16) (v := .int 0) (ty := .int) (C := RX11) (T := TX11) (N := 13) hx hb hts zuX11_init_X11 tyX11 tyX11_ok nmX11 hown hK hP hD hS 0 rfl rfl 0 (by decide) (hts (.fieldLink RX11 41 "GatherhouseModel" "thrown" "I") (by decide +kernel)) (fun _ h9 => h9) rfl (by decide +kernel) rfl rfl (Nat.le_of_ble_eq_true rfl) dX11_init_67 (fun H locs hP hD hS => ?_)
  have hP : va_P D vwCl [(mo, .inr (16, [.int 0, .ref o_593, .ref o_596, .ref o_599, .ref o_604, .ref o_608, .int 0, .int 0, .int 40, .int 0, .null, .int 0, .int 0])), (o_593, .inr (4, [.int 0, .ref G.1, .int 0])), (o_596, .inr (4, [.int 0, .ref G.1, .int 0])), (o_599, .inr (4, [.int 0, .ref G.1, .int 0])), (o_604, .inl (cA_605, 4, .inl (fun _ => 0))), (o_608, .inl (cA_609, 4, .inl (fun _ => 0)))] H := hP
  have hD : va_D A [(mo, .inr (16, [.int 0, .ref o_593, .ref o_596, .ref o_599, .ref o_604, .ref o_608, .int 0, .int 0, .int 40, .int 0, .null, .int 0, .int 0])), (o_593, .inr (4, [.int 0, .ref G.1, .int 0])), (o_596, .inr (4, [.int 0, .ref G.1, .int 0])), (o_599, .inr (4, [.int 0, .ref G.1, .int 0])), (o_604, .inl (cA_605, 4, .inl (fun _ => 0))), (o_608, .inl (cA_609, 4, .inl (fun _ => 0)))] := hD
  exact W.vret hx hb hr (fun t ht hW => ⟨⟨(), rfl, trivial, ⟨o_593, o_596, o_599, o_604, o_608, cA_605, cA_609, q_RW_mk hP hK hD [0, 1, 2, 3, 4, 5] [0, 1] rfl rfl (by decide) rfl ht hW.alike⟩⟩, hS.F ht⟩) hS.2.2 dX11_init_70
theorem dX11_letGo_0 : decode cX11_letGo 0 = .ok (.iconst 0, 1) := by decide +kernel
theorem dX11_letGo_1 : decode cX11_letGo 1 = .ok (.istore_n 3, 1) := by decide +kernel
theorem dX11_letGo_2 : decode cX11_letGo 2 = .ok (.iconst 0, 1) := by decide +kernel
theorem dX11_letGo_3 : decode cX11_letGo 3 = .ok (.istore 4, 2) := by decide +kernel
theorem dX11_letGo_5 : decode cX11_letGo 5 = .ok (.iconst 0, 1) := by decide +kernel
theorem dX11_letGo_6 : decode cX11_letGo 6 = .ok (.istore 5, 2) := by decide +kernel
theorem dX11_letGo_8 : decode cX11_letGo 8 = .ok (.iload 5, 2) := by decide +kernel
theorem dX11_letGo_10 : decode cX11_letGo 10 = .ok (.iload_n 1, 1) := by decide +kernel
theorem dX11_letGo_11 : decode cX11_letGo 11 = .ok (.if_icmp .ge 62, 3) := by decide +kernel
theorem dX11_letGo_14 : decode cX11_letGo 14 = .ok (.aload_n 0, 1) := by decide +kernel
theorem dX11_letGo_15 : decode cX11_letGo 15 = .ok (.invokevirtual 165, 3) := by decide +kernel
theorem dX11_letGo_18 : decode cX11_letGo 18 = .ok (.iload_n 3, 1) := by decide +kernel
theorem dX11_letGo_19 : decode cX11_letGo 19 = .ok (.aload_n 0, 1) := by decide +kernel
theorem dX11_letGo_20 : decode cX11_letGo 20 = .ok (.invokevirtual 168, 3) := by decide +kernel
theorem dX11_letGo_23 : decode cX11_letGo 23 = .ok (.iadd, 1) := by decide +kernel
theorem dX11_letGo_24 : decode cX11_letGo 24 = .ok (.istore_n 3, 1) := by decide +kernel
theorem dX11_letGo_25 : decode cX11_letGo 25 = .ok (.aload_n 0, 1) := by decide +kernel
theorem dX11_letGo_26 : decode cX11_letGo 26 = .ok (.dup, 1) := by decide +kernel
theorem dX11_letGo_27 : decode cX11_letGo 27 = .ok (.getfield 140, 3) := by decide +kernel
theorem dX11_letGo_30 : decode cX11_letGo 30 = .ok (.iconst 1, 1) := by decide +kernel
theorem dX11_letGo_31 : decode cX11_letGo 31 = .ok (.iadd, 1) := by decide +kernel
theorem dX11_letGo_32 : decode cX11_letGo 32 = .ok (.putfield 140, 3) := by decide +kernel
theorem dX11_letGo_35 : decode cX11_letGo 35 = .ok (.iload 4, 2) := by decide +kernel
theorem dX11_letGo_37 : decode cX11_letGo 37 = .ok (.aload_n 0, 1) := by decide +kernel
theorem dX11_letGo_38 : decode cX11_letGo 38 = .ok (.getfield 140, 3) := by decide +kernel
theorem dX11_letGo_41 : decode cX11_letGo 41 = .ok (.bipush 24, 2) := by decide +kernel
theorem dX11_letGo_43 : decode cX11_letGo 43 = .ok (.irem, 1) := by decide +kernel
theorem dX11_letGo_44 : decode cX11_letGo 44 = .ok (.ifCond .ne 19, 3) := by decide +kernel
theorem dX11_letGo_63 : decode cX11_letGo 63 = .ok (.iconst 0, 1) := by decide +kernel
theorem dX11_letGo_64 : decode cX11_letGo 64 = .ok (.iadd, 1) := by decide +kernel
theorem dX11_letGo_65 : decode cX11_letGo 65 = .ok (.istore 4, 2) := by decide +kernel
theorem dX11_letGo_67 : decode cX11_letGo 67 = .ok (.iinc 5 1, 3) := by decide +kernel
theorem dX11_letGo_70 : decode cX11_letGo 70 = .ok (.goto (-62), 3) := by decide +kernel
theorem dX11_letGo_47 : decode cX11_letGo 47 = .ok (.aload_n 0, 1) := by decide +kernel
theorem dX11_letGo_48 : decode cX11_letGo 48 = .ok (.aload_n 0, 1) := by decide +kernel
theorem dX11_letGo_49 : decode cX11_letGo 49 = .ok (.getfield 140, 3) := by decide +kernel
theorem dX11_letGo_52 : decode cX11_letGo 52 = .ok (.bipush 24, 2) := by decide +kernel
theorem dX11_letGo_54 : decode cX11_letGo 54 = .ok (.idiv, 1) := by decide +kernel
theorem dX11_letGo_55 : decode cX11_letGo 55 = .ok (.iconst 1, 1) := by decide +kernel
theorem dX11_letGo_56 : decode cX11_letGo 56 = .ok (.isub, 1) := by decide +kernel
theorem dX11_letGo_57 : decode cX11_letGo 57 = .ok (.invokevirtual 171, 3) := by decide +kernel
theorem dX11_letGo_60 : decode cX11_letGo 60 = .ok (.goto 4, 3) := by decide +kernel
theorem dX11_letGo_73 : decode cX11_letGo 73 = .ok (.iload_n 2, 1) := by decide +kernel
theorem dX11_letGo_74 : decode cX11_letGo 74 = .ok (.ifCond .eq 8, 3) := by decide +kernel
theorem dX11_letGo_82 : decode cX11_letGo 82 = .ok (.iload_n 3, 1) := by decide +kernel
theorem dX11_letGo_83 : decode cX11_letGo 83 = .ok (.ireturn, 1) := by decide +kernel
theorem dX11_letGo_77 : decode cX11_letGo 77 = .ok (.iload 4, 2) := by decide +kernel
theorem dX11_letGo_79 : decode cX11_letGo 79 = .ok (.goto 4, 3) := by decide +kernel
def wzEX11_letGo : List Cond := [.code yX11_letGo cX11_letGo 6 (some .int), .methodLink RX11 165 yX11_restPots, .instanceMethod yX11_restPots, .selects RX11 yX11_restPots yX11_restPots, .initialized RX11, .code yX11_restPots cX11_restPots 3 none, .fieldLink RX11 16 "GatherhouseModel" "pots" "Ljava/util/ArrayList;", .methodLink RX11 106 yJx4a65c_iterator_32c93, .instanceMethod yJx4a65c_iterator_32c93, .selects RJx4a65c yJx4a65c_iterator_32c93 yJx4a65c_iterator_32c93, .initialized RJx4a65c, .code yJx4a65c_iterator_32c93 cJx4a65c_iterator_32c93 1 (some (.object "java/util/Iterator")), .classLink RJx4a65c 267 RJx35411, .instantiable RJx35411 4, .initialized RJx35411, .code yJx35411_init_45d68 cJx35411_init_45d68 2 none, .fieldLink RJx35411 1 "java/util/ArrayList$Itr" "this$0" "Ljava/util/ArrayList;", .methodLink RJx35411 7 objectInit, .instanceMethod objectInit, .code objectInit ⟨#[0xb1]⟩ 1 none, .fieldLink RJx35411 13 "java/util/ArrayList$Itr" "lastRet" "I", .sameField "java/util/ArrayList" "java/util/AbstractList" "modCount" "I", .fieldLink RJx35411 17 "java/util/ArrayList" "modCount" "I", .fieldLink RJx35411 22 "java/util/ArrayList$Itr" "expectedModCount" "I", .instanceMethod yJx35411_init_45d68, .methodLink RJx4a65c 269 yJx35411_init_45d68, .methodLink RX11 110 ⟨"java/util/Iterator", "hasNext", "()Z"⟩, .selects RJx35411 ⟨"java/util/Iterator", "hasNext", "()Z"⟩ yJx35411_hasNext_aae02, .instanceMethod yJx35411_hasNext_aae02, .code yJx35411_hasNext_aae02 cJx35411_hasNext_aae02 1 (some .boolean), .fieldLink RJx35411 25 "java/util/ArrayList$Itr" "cursor" "I", .methodLink RX11 168 yX11_cool, .instanceMethod yX11_cool, .selects RX11 yX11_cool yX11_cool, .code yX11_cool cX11_cool 4 (some .int), .fieldLink RX11 19 "GatherhouseModel" "pieces" "Ljava/util/ArrayList;", .fieldLink RX11 140 "GatherhouseModel" "hours" "I", .methodLink RX11 171 yX11_breaks, .instanceMethod yX11_breaks, .selects RX11 yX11_breaks yX11_breaks, .code yX11_breaks cX11_breaks 6 (some .int)]
def wzX11_letGo : List Cond := wzEX11_letGo ++ (u_ws RX11 TX11 13 ++ (u_ws RJx35411 TJx35411 4 ++ (u_ws RJx4a65c TJx4a65c 3)))
theorem zgEX11_letGo : wzEX11_letGo.all goodWord = true := by decide +kernel
theorem zuX11_letGo_X11 : ∀ w ∈ u_ws RX11 TX11 13, w ∈ wzX11_letGo := (fun _ h => (List.mem_append_right _ (List.mem_append_left _ h)))
theorem zuX11_letGo_Jx35411 : ∀ w ∈ u_ws RJx35411 TJx35411 4, w ∈ wzX11_letGo := (fun _ h => (List.mem_append_right _ (List.mem_append_right _ (List.mem_append_left _ h))))
theorem zuX11_letGo_Jx4a65c : ∀ w ∈ u_ws RJx4a65c TJx4a65c 3, w ∈ wzX11_letGo := (fun _ h => (List.mem_append_right _ (List.mem_append_right _ (List.mem_append_right _ h))))
theorem gzX11_letGo_X11_restPots_165 : GoodIn wzX11_letGo (wsV RX11 165 RX11 yX11_restPots wzX11_restPots) := (goodIn_app (z_lift (goodIn_r _ [1, 2, 3, 4] rfl (by decide +kernel))) (goodIn_app (z_lift (goodIn_r wzEX11_restPots [5, 6, 7, 8, 9, 10, 11, 12, 13, 14, 15, 16, 17, 18, 19, 20, 21, 22, 23, 24, 25, 26, 27, 28, 29, 30] rfl zgEX11_restPots)) (goodIn_app (goodIn_sub (fun _ h => (List.mem_append_right _ (List.mem_append_left _ h))) zgU_X11) (goodIn_app (goodIn_sub (fun _ h => (List.mem_append_right _ (List.mem_append_right _ (List.mem_append_left _ h)))) zgU_Jx35411) (goodIn_sub (fun _ h => (List.mem_append_right _ (List.mem_append_right _ (List.mem_append_right _ h)))) zgU_Jx4a65c)))))
theorem gzX11_letGo_X11_cool_168 : GoodIn wzX11_letGo (wsV RX11 168 RX11 yX11_cool wzX11_cool) := (goodIn_app (z_lift (goodIn_r _ [31, 32, 33, 4] rfl (by decide +kernel))) (goodIn_app (z_lift (goodIn_r wzEX11_cool [34, 35, 7, 8, 9, 10, 11, 12, 13, 14, 15, 16, 17, 18, 19, 20, 21, 22, 23, 24, 25, 26, 27, 28, 29, 30] rfl zgEX11_cool)) (goodIn_app (goodIn_sub (fun _ h => (List.mem_append_right _ (List.mem_append_left _ h))) zgU_X11) (goodIn_app (goodIn_sub (fun _ h => (List.mem_append_right _ (List.mem_append_right _ (List.mem_append_left _ h)))) zgU_Jx35411) (goodIn_sub (fun _ h => (List.mem_append_right _ (List.mem_append_right _ (List.mem_append_right _ h)))) zgU_Jx4a65c)))))
theorem gzX11_letGo_X11_breaks_171 : GoodIn wzX11_letGo (wsV RX11 171 RX11 yX11_breaks wzX11_breaks) := (goodIn_app (z_lift (goodIn_r _ [37, 38, 39, 4] rfl (by decide +kernel))) (goodIn_app (z_lift (goodIn_r wzEX11_breaks [40, 35, 7, 8, 9, 10, 11, 12, 13, 14, 15, 16, 17, 18, 19, 20, 21, 22, 23, 24, 25, 26, 27, 28, 29, 30] rfl zgEX11_breaks)) (goodIn_app (goodIn_sub (fun _ h => (List.mem_append_right _ (List.mem_append_left _ h))) zgU_X11) (goodIn_app (goodIn_sub (fun _ h => (List.mem_append_right _ (List.mem_append_right _ (List.mem_append_left _ h)))) zgU_Jx35411) (goodIn_sub (fun _ h => (List.mem_append_right _ (List.mem_append_right _ (List.mem_append_right _ h)))) zgU_Jx4a65c)))))
set_option maxHeartbeats 4000000 in
set_option maxRecDepth 100000 in
theorem zc_X11_letGo (l : Launch) (D : va_G) (G : Nat × Nat × Nat) (mo : Nat) (gl : Nat) (po : Nat) (pi : Nat) (bu : Nat) (pa : Nat) (th : Int32) (mh : Int32) (mt : Int32) (n : Nat) (fl : Int32) (sz : Nat) (hn : n ≤ 1440) : Met l yX11_letGo wzX11_letGo ({ frames := 4, cells := 4320, slots := 17280, locals := 78 }) (va_Pc [.ref mo, .int (nI n), .int fl] (p_RW D G [] [(mo, .inr (16, [.int th, .ref gl, .ref po, .ref pi, .ref bu, .ref pa, .int mt, .int mh, .int 40, .int 0, .null, .int 0, .int 0])), (po, .inr (4, [.int 0, .ref G.1, .int 0])), (pi, .inr (4, [.int 0, .ref G.1, .int 0]))] sz)) (va_Qi (fun (r : Int32) (u : Int32) => match u with | hv => r = 0) (fun (u : Int32) (t : State) => match u with | hv => q_RW D [] [(mo, .inr (16, [.int th, .ref gl, .ref po, .ref pi, .ref bu, .ref pa, .int mt, .int hv, .int 40, .int 0, .null, .int 0, .int 0])), (po, .inr (4, [.int 0, .ref G.1, .int 0])), (pi, .inr (4, [.int 0, .ref G.1, .int 0]))] (va_A [(mo, .inr (16, [.int th, .ref gl, .ref po, .ref pi, .ref bu, .ref pa, .int mt, .int mh, .int 40, .int 0, .null, .int 0, .int 0])), (po, .inr (4, [.int 0, .ref G.1, .int 0])), (pi, .inr (4, [.int 0, .ref G.1, .int 0]))] sz) t) (va_A [(mo, .inr (16, [.int th, .ref gl, .ref po, .ref pi, .ref bu, .ref pa, .int mt, .int mh, .int 40, .int 0, .null, .int 0, .int 0])), (po, .inr (4, [.int 0, .ref G.1, .int 0])), (pi, .inr (4, [.int 0, .ref G.1, .int 0]))] sz)) 4320 17280 (va_A [(mo, .inr (16, [.int th, .ref gl, .ref po, .ref pi, .ref bu, .ref pa, .int mt, .int mh, .int 40, .int 0, .null, .int 0, .int 0])), (po, .inr (4, [.int 0, .ref G.1, .int 0])), (pi, .inr (4, [.int 0, .ref G.1, .int 0]))] sz) := by
  refine Met.ofW (cc := cX11_letGo) (maxL := 6) (ret := (some .int)) (by decide) rfl ?_
  intro p e s m args below meth c s₁ B hml hv
  obtain ⟨rfl, hsz, hP, hK, hD0, hT, hZ⟩ := hv
  have hx := B.exec
  have hb := B.bytes
  have hr := B.returns
  have hts := atoms_spec (ws := wzX11_letGo) B.pre
  have hown : s.vm.findClass RX11 = some m.cls := findClass_of_methodNamed B.named
  have hlocks := B.notSynchronized
  subst hsz
  have hD := hD0.self (sz := s.heap.size)
  generalize hAe : va_A [(mo, .inr (16, [.int th, .ref gl, .ref po, .ref pi, .ref bu, .ref pa, .int mt, .int mh, .int 40, .int 0, .null, .int 0, .int 0])), (po, .inr (4, [.int 0, .ref G.1, .int 0])), (pi, .inr (4, [.int 0, .ref G.1, .int 0]))] s.heap.size = A at hD hZ ⊢
  have hA : ∀ q : Nat, s.heap.size ≤ q → A q := fun q h => by rw [← hAe]; exact Or.inr h
  have hS : va_S A s.heap s.heap [] := va_S.rf
  have hl := lv_entry ([.ref mo, .int (nI n), .int fl]) (n := 6) (Nat.le_of_ble_eq_true rfl)
  rw [lg_entry_eq]
  generalize (lg_sl ([.ref mo, .int (nI n), .int fl]) ++ List.replicate (6 - (lg_sl ([.ref mo, .int (nI n), .int fl])).length) Slot.unset).toArray = ls at hl ⊢
  have hl : lv_has ls 6 [(0, .ref mo), (1, .int (nI n)), (2, .int fl)] := hl
  refine lv_iconst (v := 0) hx hb dX11_letGo_0 (by decide) ?_
  refine lv_istore_n (lv' := [(3, .int 0), (0, .ref mo), (1, .int (nI n)), (2, .int fl)]) hx hb dX11_letGo_1 rfl hl (by decide) rfl (fun ls hl => ?_)
  refine lv_iconst (v := 0) hx hb dX11_letGo_2 (by decide) ?_
  refine lv_istore (lv' := [(4, .int 0), (3, .int 0), (0, .ref mo), (1, .int (nI n)), (2, .int fl)]) hx hb dX11_letGo_3 hl (by decide) rfl (fun ls hl => ?_)
  refine lv_iconst (v := 0) hx hb dX11_letGo_5 (by decide) ?_
  refine lv_istore (lv' := [(5, .int 0), (4, .int 0), (3, .int 0), (0, .ref mo), (1, .int (nI n)), (2, .int fl)]) hx hb dX11_letGo_6 hl (by decide) rfl (fun ls hl => ?_)
  refine z_loop (fun (k : Nat) (hv : Int32) (H : Heap) (locs : List Loc) (ls : Array Slot) => va_P D vwCl [(mo, .inr (16, [.int th, .ref gl, .ref po, .ref pi, .ref bu, .ref pa, .int mt, .int hv, .int 40, .int 0, .null, .int 0, .int 0])), (po, .inr (4, [.int 0, .ref G.1, .int 0])), (pi, .inr (4, [.int 0, .ref G.1, .int 0]))] H ∧ va_D A [(mo, .inr (16, [.int th, .ref gl, .ref po, .ref pi, .ref bu, .ref pa, .int mt, .int hv, .int 40, .int 0, .null, .int 0, .int 0])), (po, .inr (4, [.int 0, .ref G.1, .int 0])), (pi, .inr (4, [.int 0, .ref G.1, .int 0]))] ∧ va_S A s.heap H locs ∧ lv_has ls 6 [(5, .int (nI k)), (4, .int 0), (3, .int 0), (0, .ref mo), (1, .int (nI n)), (2, .int fl)]) (fun (k : Nat) (H : Heap) (locs : List Loc) (ls : Array Slot) => W p l e _ s m _ below meth c H locs (0 + 3 * k) (0 + 12 * k) _ (F0 m 8 ls [])) (n) ?_ ?_ (n) 0 (by omega) mh s.heap _ ls ⟨hP, hD, hS, hl⟩
  · intro k hk ih hv H locs ls hp
    obtain ⟨hP, hD, hS, hl⟩ := hp
    refine lv_iload hx hb dX11_letGo_8 (lv_at hl 0 rfl) ?_
    refine lv_iload_n hx hb dX11_letGo_10 rfl (lv_at hl 4 rfl) ?_
    refine lv_icmp_ge (tgt := 73) hx hb dX11_letGo_11 (by decide) (fun cc => absurd cc (nI_ge hk (by omega))) (fun _ => ?_)
    refine lv_aload_n hx hb dX11_letGo_14 rfl (lv_at hl 3 rfl) ?_
    have hFc := va_free (wc := [(mo, .inr (16, [.int th, .ref gl, .ref po, .ref pi, .ref bu, .ref pa, .int mt, .int hv, .int 40, .int 0, .null, .int 0, .int 0])), (po, .inr (4, [.int 0, .ref G.1, .int 0]))]) hD hS hA [0, 1] rfl
    refine va_callv (va_runV (As := []) (rest := []) ⟨hx, hb, hml, hown, hts⟩ (zc_X11_restPots l D G mo gl po pi bu pa th hv mt H.size) (cwV 0 hts gzX11_letGo_X11_restPots_165 rfl rfl rfl (by decide +kernel) ⟨(Nat.le_of_ble_eq_true rfl), (Nat.le_of_ble_eq_true rfl)⟩) ⟨p_RW_blind, va_recv hK hP (ci := 16) (q0 := 0) rfl rfl, (p_RW_at (tc := []) (wc := [(mo, .inr (16, [.int th, .ref gl, .ref po, .ref pi, .ref bu, .ref pa, .int mt, .int hv, .int 40, .int 0, .null, .int 0, .int 0])), (po, .inr (4, [.int 0, .ref G.1, .int 0]))]) hP hK hD hS hA hT hZ [0, 1] [] rfl rfl (by decide) rfl [.ref mo])⟩ rfl rfl hl.1 rfl (lv_room (Nat.le_of_ble_eq_true rfl)) dX11_letGo_15 ⟨by show 0 + 3 * k + 1 ≤ 4320; omega, by show 0 + 12 * k + 4 ≤ 17280; omega⟩) hS (fun q _ h => hFc q h) hFc (fun u t H locs ht hvm w_611 hB hz1 hk1 hS => ?_)
    obtain ⟨hP, hD, hK⟩ := q_join (D := D) (wc := [(mo, .inr (16, [.int th, .ref gl, .ref po, .ref pi, .ref bu, .ref pa, .int mt, .int hv, .int 40, .int 0, .null, .int 0, .int 0])), (po, .inr (4, [.int 0, .ref G.1, .int 0]))]) (wr := [(pi, .inr (4, [.int 0, .ref G.1, .int 0]))]) (w1 := [(mo, .inr (16, [.int th, .ref gl, .ref po, .ref pi, .ref bu, .ref pa, .int mt, .int hv, .int 40, .int 0, .null, .int 0, .int 0])), (po, .inr (4, [.int 0, .ref G.1, .int 0]))]) (tyr := []) (ty1 := []) hP hD hK [0, 1] [2] [] rfl rfl (by decide) (by decide) rfl hFc hk1 ht hvm hB
    have hP : va_P D vwCl [(pi, .inr (4, [.int 0, .ref G.1, .int 0])), (mo, .inr (16, [.int th, .ref gl, .ref po, .ref pi, .ref bu, .ref pa, .int mt, .int hv, .int 40, .int 0, .null, .int 0, .int 0])), (po, .inr (4, [.int 0, .ref G.1, .int 0]))] H := hP
    have hD : va_D A [(pi, .inr (4, [.int 0, .ref G.1, .int 0])), (mo, .inr (16, [.int th, .ref gl, .ref po, .ref pi, .ref bu, .ref pa, .int mt, .int hv, .int 40, .int 0, .null, .int 0, .int 0])), (po, .inr (4, [.int 0, .ref G.1, .int 0]))] := hD
    have hK : va_K D vwCl [] s := hK
    refine W.widen (k := 0 + 3 * k + 1) (n := 0 + 12 * k + 4) (by omega) (by omega) ?_
    refine lv_iload_n hx hb dX11_letGo_18 rfl (lv_at hl 2 rfl) ?_
    refine lv_aload_n hx hb dX11_letGo_19 rfl (lv_at hl 3 rfl) ?_
    have hFc := va_free (wc := [(mo, .inr (16, [.int th, .ref gl, .ref po, .ref pi, .ref bu, .ref pa, .int mt, .int hv, .int 40, .int 0, .null, .int 0, .int 0])), (pi, .inr (4, [.int 0, .ref G.1, .int 0]))]) hD hS hA [1, 0] rfl
    refine va_calli (va_runV (As := []) (rest := [.int 0]) ⟨hx, hb, hml, hown, hts⟩ (zc_X11_cool l D G mo gl po pi bu pa th hv mt H.size) (cwV 0 hts gzX11_letGo_X11_cool_168 rfl rfl rfl (by decide +kernel) ⟨(Nat.le_of_ble_eq_true rfl), (Nat.le_of_ble_eq_true rfl)⟩) ⟨p_RW_blind, va_recv hK hP (ci := 16) (q0 := 1) rfl rfl, (p_RW_at (tc := []) (wc := [(mo, .inr (16, [.int th, .ref gl, .ref po, .ref pi, .ref bu, .ref pa, .int mt, .int hv, .int 40, .int 0, .null, .int 0, .int 0])), (pi, .inr (4, [.int 0, .ref G.1, .int 0]))]) hP hK hD hS hA hT hZ [1, 0] [] rfl rfl (by decide) rfl [.ref mo])⟩ rfl rfl hl.1 rfl (lv_room (Nat.le_of_ble_eq_true rfl)) dX11_letGo_20 ⟨by show 0 + 3 * k + 1 + 1 ≤ 4320; omega, by show 0 + 12 * k + 4 + 4 ≤ 17280; omega⟩) hS (fun q _ h => hFc q h) hFc (fun r_612 u t H locs ht hvm w_613 hB hz1 hk1 hS => ?_)
    obtain ⟨hP, hD, hK⟩ := q_join (D := D) (wc := [(mo, .inr (16, [.int th, .ref gl, .ref po, .ref pi, .ref bu, .ref pa, .int mt, .int hv, .int 40, .int 0, .null, .int 0, .int 0])), (pi, .inr (4, [.int 0, .ref G.1, .int 0]))]) (wr := [(po, .inr (4, [.int 0, .ref G.1, .int 0]))]) (w1 := [(mo, .inr (16, [.int th, .ref gl, .ref po, .ref pi, .ref bu, .ref pa, .int mt, .int hv, .int 40, .int 0, .null, .int 0, .int 0])), (pi, .inr (4, [.int 0, .ref G.1, .int 0]))]) (tyr := []) (ty1 := []) hP hD hK [1, 0] [2] [] rfl rfl (by decide) (by decide) rfl hFc hk1 ht hvm hB
    have hP : va_P D vwCl [(po, .inr (4, [.int 0, .ref G.1, .int 0])), (mo, .inr (16, [.int th, .ref gl, .ref po, .ref pi, .ref bu, .ref pa, .int mt, .int hv, .int 40, .int 0, .null, .int 0, .int 0])), (pi, .inr (4, [.int 0, .ref G.1, .int 0]))] H := hP
    have hD : va_D A [(po, .inr (4, [.int 0, .ref G.1, .int 0])), (mo, .inr (16, [.int th, .ref gl, .ref po, .ref pi, .ref bu, .ref pa, .int mt, .int hv, .int 40, .int 0, .null, .int 0, .int 0])), (pi, .inr (4, [.int 0, .ref G.1, .int 0]))] := hD
    have hK : va_K D vwCl [] s := hK
    refine W.widen (k := 0 + 3 * k + 1 + 1) (n := 0 + 12 * k + 4 + 4) (by omega) (by omega) ?_
    obtain rfl := w_613
    refine lv_iadd hx hb dX11_letGo_23 ?_
    refine lv_topi (fun y_614 ey_614 => ?_)
    have ey_614 : y_614 = 0 := ey_614.trans (by decide +kernel)
    subst ey_614
    refine lv_istore_n (lv' := [(3, .int 0), (5, .int (nI k)), (4, .int 0), (0, .ref mo), (1, .int (nI n)), (2, .int fl)]) hx hb dX11_letGo_24 rfl hl (by decide) rfl (fun ls hl => ?_)
    refine lv_aload_n hx hb dX11_letGo_25 rfl (lv_at hl 3 rfl) ?_
    refine lv_dup hx hb dX11_letGo_26 rfl ?_
    refine va_get (D := D) (cl := vwCl) (ci := 16) (v := .int hv) (C := RX11) (T := TX11) (N := 13) hx hb hts zuX11_letGo_X11 hown hK hP 1 rfl rfl 7 (by decide) (hts (.fieldLink RX11 140 "GatherhouseModel" "hours" "I") (by decide +kernel)) (fun _ h9 => h9) rfl dX11_letGo_27 ?_
    refine lv_iconst (v := 1) hx hb dX11_letGo_30 (by decide) ?_
    refine lv_iadd hx hb dX11_letGo_31 ?_
    refine va_put (D := D) (cl := vwCl) (ci := 16) (v := .int (hv + 1)) (ty := .int) (C := RX11) (T := TX11) (N := 13) hx hb hts zuX11_letGo_X11 tyX11 tyX11_ok nmX11 hown hK hP hD hS 1 rfl rfl 7 (by decide) (hts (.fieldLink RX11 140 "GatherhouseModel" "hours" "I") (by decide +kernel)) (fun _ h9 => h9) rfl (by decide +kernel) rfl rfl (Nat.le_of_ble_eq_true rfl) dX11_letGo_32 (fun H locs hP hD hS => ?_)
    have hP : va_P D vwCl [(po, .inr (4, [.int 0, .ref G.1, .int 0])), (mo, .inr (16, [.int th, .ref gl, .ref po, .ref pi, .ref bu, .ref pa, .int mt, .int (hv + 1), .int 40, .int 0, .null, .int 0, .int 0])), (pi, .inr (4, [.int 0, .ref G.1, .int 0]))] H := hP
    have hD : va_D A [(po, .inr (4, [.int 0, .ref G.1, .int 0])), (mo, .inr (16, [.int th, .ref gl, .ref po, .ref pi, .ref bu, .ref pa, .int mt, .int (hv + 1), .int 40, .int 0, .null, .int 0, .int 0])), (pi, .inr (4, [.int 0, .ref G.1, .int 0]))] := hD
    refine lv_iload hx hb dX11_letGo_35 (lv_at hl 2 rfl) ?_
    refine lv_aload_n hx hb dX11_letGo_37 rfl (lv_at hl 3 rfl) ?_
    refine va_get (D := D) (cl := vwCl) (ci := 16) (v := .int (hv + 1)) (C := RX11) (T := TX11) (N := 13) hx hb hts zuX11_letGo_X11 hown hK hP 1 rfl rfl 7 (by decide) (hts (.fieldLink RX11 140 "GatherhouseModel" "hours" "I") (by decide +kernel)) (fun _ h9 => h9) rfl dX11_letGo_38 ?_
    refine lv_bipush (v := 24) hx hb dX11_letGo_41 (by decide) ?_
    refine lv_irem hx hb dX11_letGo_43 (by decide) ?_
    refine lv_if_ne (tgt := 63) hx hb dX11_letGo_44 (by decide) (fun c_615 => ?_) (fun c_615 => ?_)
    · refine lv_iconst (v := 0) hx hb dX11_letGo_63 (by decide) ?_
      refine lv_iadd hx hb dX11_letGo_64 ?_
      refine lv_topi (fun y_616 ey_616 => ?_)
      have ey_616 : y_616 = 0 := ey_616.trans (by decide +kernel)
      subst ey_616
      refine lv_istore (lv' := [(4, .int 0), (3, .int 0), (5, .int (nI k)), (0, .ref mo), (1, .int (nI n)), (2, .int fl)]) hx hb dX11_letGo_65 hl (by decide) rfl (fun ls hl => ?_)
      refine lv_iinc (v := nI (k + 1)) (lv' := [(5, .int (nI (k + 1))), (4, .int 0), (3, .int 0), (0, .ref mo), (1, .int (nI n)), (2, .int fl)]) hx hb dX11_letGo_67 hl (k := 2) rfl (show nI k + Int32.ofInt 1 = nI (k + 1) from nI_1 k) (by decide) rfl (fun ls hl => ?_)
      refine lv_goto (tgt := 8) hx hb dX11_letGo_70 (by decide) ?_
      have hP := hP.sub (ws' := [(mo, .inr (16, [.int th, .ref gl, .ref po, .ref pi, .ref bu, .ref pa, .int mt, .int (hv + 1), .int 40, .int 0, .null, .int 0, .int 0])), (po, .inr (4, [.int 0, .ref G.1, .int 0])), (pi, .inr (4, [.int 0, .ref G.1, .int 0]))]) [1, 0, 2] rfl
      have hD := hD.sub (ws' := [(mo, .inr (16, [.int th, .ref gl, .ref po, .ref pi, .ref bu, .ref pa, .int mt, .int (hv + 1), .int 40, .int 0, .null, .int 0, .int 0])), (po, .inr (4, [.int 0, .ref G.1, .int 0])), (pi, .inr (4, [.int 0, .ref G.1, .int 0]))]) [1, 0, 2] (by decide) rfl
      refine W.widen (k := 0 + 3 * (k + 1)) (n := 0 + 12 * (k + 1)) (by omega) (by omega) ?_
      exact ih (hv + 1) _ _ _ ⟨hP, hD, hS, lv_sub hl [0, 1, 2, 3, 4, 5] rfl⟩
    · refine lv_aload_n hx hb dX11_letGo_47 rfl (lv_at hl 3 rfl) ?_
      refine lv_aload_n hx hb dX11_letGo_48 rfl (lv_at hl 3 rfl) ?_
      refine va_get (D := D) (cl := vwCl) (ci := 16) (v := .int (hv + 1)) (C := RX11) (T := TX11) (N := 13) hx hb hts zuX11_letGo_X11 hown hK hP 1 rfl rfl 7 (by decide) (hts (.fieldLink RX11 140 "GatherhouseModel" "hours" "I") (by decide +kernel)) (fun _ h9 => h9) rfl dX11_letGo_49 ?_
      refine lv_bipush (v := 24) hx hb dX11_letGo_52 (by decide) ?_
      refine lv_idiv hx hb dX11_letGo_54 (by decide) ?_
      refine lv_iconst (v := 1) hx hb dX11_letGo_55 (by decide) ?_
      refine lv_isub hx hb dX11_letGo_56 ?_
      have hFc := va_free (wc := [(mo, .inr (16, [.int th, .ref gl, .ref po, .ref pi, .ref bu, .ref pa, .int mt, .int (hv + 1), .int 40, .int 0, .null, .int 0, .int 0])), (pi, .inr (4, [.int 0, .ref G.1, .int 0]))]) hD hS hA [1, 2] rfl
      refine va_calli (va_runV (As := [.int (((hv + 1) / 24) - 1)]) (rest := [.int 0]) ⟨hx, hb, hml, hown, hts⟩ (zc_X11_breaks l D G mo gl po pi bu pa th (hv + 1) mt (((hv + 1) / 24) - 1) H.size) (cwV 1 hts gzX11_letGo_X11_breaks_171 rfl rfl rfl (by decide +kernel) ⟨(Nat.le_of_ble_eq_true rfl), (Nat.le_of_ble_eq_true rfl)⟩) ⟨p_RW_blind, va_recv hK hP (ci := 16) (q0 := 1) rfl rfl, (p_RW_at (tc := []) (wc := [(mo, .inr (16, [.int th, .ref gl, .ref po, .ref pi, .ref bu, .ref pa, .int mt, .int (hv + 1), .int 40, .int 0, .null, .int 0, .int 0])), (pi, .inr (4, [.int 0, .ref G.1, .int 0]))]) hP hK hD hS hA hT hZ [1, 2] [] rfl rfl (by decide) rfl [.ref mo, .int (((hv + 1) / 24) - 1)])⟩ rfl rfl hl.1 rfl (lv_room (Nat.le_of_ble_eq_true rfl)) dX11_letGo_57 ⟨by show 0 + 3 * k + 1 + 1 + 1 ≤ 4320; omega, by show 0 + 12 * k + 4 + 4 + 4 ≤ 17280; omega⟩) hS (fun q _ h => hFc q h) hFc (fun r_617 u t H locs ht hvm w_618 hB hz1 hk1 hS => ?_)
      obtain ⟨hP, hD, hK⟩ := q_join (D := D) (wc := [(mo, .inr (16, [.int th, .ref gl, .ref po, .ref pi, .ref bu, .ref pa, .int mt, .int (hv + 1), .int 40, .int 0, .null, .int 0, .int 0])), (pi, .inr (4, [.int 0, .ref G.1, .int 0]))]) (wr := [(po, .inr (4, [.int 0, .ref G.1, .int 0]))]) (w1 := [(mo, .inr (16, [.int th, .ref gl, .ref po, .ref pi, .ref bu, .ref pa, .int mt, .int (hv + 1), .int 40, .int 0, .null, .int 0, .int 0])), (pi, .inr (4, [.int 0, .ref G.1, .int 0]))]) (tyr := []) (ty1 := []) hP hD hK [1, 2] [0] [] rfl rfl (by decide) (by decide) rfl hFc hk1 ht hvm hB
      have hP : va_P D vwCl [(po, .inr (4, [.int 0, .ref G.1, .int 0])), (mo, .inr (16, [.int th, .ref gl, .ref po, .ref pi, .ref bu, .ref pa, .int mt, .int (hv + 1), .int 40, .int 0, .null, .int 0, .int 0])), (pi, .inr (4, [.int 0, .ref G.1, .int 0]))] H := hP
      have hD : va_D A [(po, .inr (4, [.int 0, .ref G.1, .int 0])), (mo, .inr (16, [.int th, .ref gl, .ref po, .ref pi, .ref bu, .ref pa, .int mt, .int (hv + 1), .int 40, .int 0, .null, .int 0, .int 0])), (pi, .inr (4, [.int 0, .ref G.1, .int 0]))] := hD
      have hK : va_K D vwCl [] s := hK
      refine W.widen (k := 0 + 3 * k + 1 + 1 + 1) (n := 0 + 12 * k + 4 + 4 + 4) (by omega) (by omega) ?_
      obtain rfl := w_618
      refine lv_goto (tgt := 64) hx hb dX11_letGo_60 (by decide) ?_
      refine lv_iadd hx hb dX11_letGo_64 ?_
      refine lv_topi (fun y_619 ey_619 => ?_)
      have ey_619 : y_619 = 0 := ey_619.trans (by decide +kernel)
      subst ey_619
      refine lv_istore (lv' := [(4, .int 0), (3, .int 0), (5, .int (nI k)), (0, .ref mo), (1, .int (nI n)), (2, .int fl)]) hx hb dX11_letGo_65 hl (by decide) rfl (fun ls hl => ?_)
      refine lv_iinc (v := nI (k + 1)) (lv' := [(5, .int (nI (k + 1))), (4, .int 0), (3, .int 0), (0, .ref mo), (1, .int (nI n)), (2, .int fl)]) hx hb dX11_letGo_67 hl (k := 2) rfl (show nI k + Int32.ofInt 1 = nI (k + 1) from nI_1 k) (by decide) rfl (fun ls hl => ?_)
      refine lv_goto (tgt := 8) hx hb dX11_letGo_70 (by decide) ?_
      have hP := hP.sub (ws' := [(mo, .inr (16, [.int th, .ref gl, .ref po, .ref pi, .ref bu, .ref pa, .int mt, .int (hv + 1), .int 40, .int 0, .null, .int 0, .int 0])), (po, .inr (4, [.int 0, .ref G.1, .int 0])), (pi, .inr (4, [.int 0, .ref G.1, .int 0]))]) [1, 0, 2] rfl
      have hD := hD.sub (ws' := [(mo, .inr (16, [.int th, .ref gl, .ref po, .ref pi, .ref bu, .ref pa, .int mt, .int (hv + 1), .int 40, .int 0, .null, .int 0, .int 0])), (po, .inr (4, [.int 0, .ref G.1, .int 0])), (pi, .inr (4, [.int 0, .ref G.1, .int 0]))]) [1, 0, 2] (by decide) rfl
      refine W.widen (k := 0 + 3 * (k + 1)) (n := 0 + 12 * (k + 1)) (by omega) (by omega) ?_
      exact ih (hv + 1) _ _ _ ⟨hP, hD, hS, lv_sub hl [0, 1, 2, 3, 4, 5] rfl⟩
  · intro hv H locs ls hp
    obtain ⟨hP, hD, hS, hl⟩ := hp
    refine lv_iload hx hb dX11_letGo_8 (lv_at hl 0 rfl) ?_
    refine lv_iload_n hx hb dX11_letGo_10 rfl (lv_at hl 4 rfl) ?_
    refine lv_icmp_ge (tgt := 73) hx hb dX11_letGo_11 (by decide) (fun _ => ?_) (fun cc => absurd (nI_le (Nat.le_refl _) (by omega)) cc)
    refine lv_iload_n hx hb dX11_letGo_73 rfl (lv_at hl 5 rfl) ?_
    refine lv_if_eq (tgt := 82) hx hb dX11_letGo_74 (by decide) (fun c_620 => ?_) (fun c_620 => ?_)
    · refine lv_iload_n hx hb dX11_letGo_82 rfl (lv_at hl 2 rfl) ?_
      refine W.widen (k := 4320) (n := 17280) (by omega) (by omega) ?_
      exact W.iret (v := 0) hx hb hr (fun t ht hW => ⟨⟨0, hv, rfl, rfl, q_RW_mk hP hK hD [0, 1, 2] [] rfl rfl (by decide) rfl ht hW.alike⟩, hS.F ht⟩) hS.2.2 dX11_letGo_83
    · refine lv_iload hx hb dX11_letGo_77 (lv_at hl 1 rfl) ?_
      refine lv_goto (tgt := 83) hx hb dX11_letGo_79 (by decide) ?_
      refine W.widen (k := 4320) (n := 17280) (by omega) (by omega) ?_
      exact W.iret (v := 0) hx hb hr (fun t ht hW => ⟨⟨0, hv, rfl, rfl, q_RW_mk hP hK hD [0, 1, 2] [] rfl rfl (by decide) rfl ht hW.alike⟩, hS.F ht⟩) hS.2.2 dX11_letGo_83
theorem dX11_hours_0 : decode cX11_hours 0 = .ok (.aload_n 0, 1) := by decide +kernel
theorem dX11_hours_1 : decode cX11_hours 1 = .ok (.aload_n 0, 1) := by decide +kernel
theorem dX11_hours_2 : decode cX11_hours 2 = .ok (.iload_n 1, 1) := by decide +kernel
theorem dX11_hours_3 : decode cX11_hours 3 = .ok (.sipush 240, 3) := by decide +kernel
theorem dX11_hours_6 : decode cX11_hours 6 = .ok (.invokevirtual 174, 3) := by decide +kernel
theorem dX11_hours_9 : decode cX11_hours 9 = .ok (.putfield 41, 3) := by decide +kernel
theorem dX11_hours_12 : decode cX11_hours 12 = .ok (.aload_n 0, 1) := by decide +kernel
theorem dX11_hours_13 : decode cX11_hours 13 = .ok (.getfield 41, 3) := by decide +kernel
theorem dX11_hours_16 : decode cX11_hours 16 = .ok (.ifCond .le 7, 3) := by decide +kernel
theorem dX11_hours_23 : decode cX11_hours 23 = .ok (.aload_n 0, 1) := by decide +kernel
theorem dX11_hours_24 : decode cX11_hours 24 = .ok (.iload_n 1, 1) := by decide +kernel
theorem dX11_hours_25 : decode cX11_hours 25 = .ok (.iconst 0, 1) := by decide +kernel
theorem dX11_hours_26 : decode cX11_hours 26 = .ok (.invokevirtual 177, 3) := by decide +kernel
theorem dX11_hours_29 : decode cX11_hours 29 = .ok (.ireturn, 1) := by decide +kernel
theorem dX11_hours_19 : decode cX11_hours 19 = .ok (.iconst 0, 1) := by decide +kernel
theorem dX11_hours_20 : decode cX11_hours 20 = .ok (.goto 9, 3) := by decide +kernel
def wzEX11_hours : List Cond := [.code yX11_hours cX11_hours 2 (some .int), .methodLink RX11 174 yX11_whyNot, .instanceMethod yX11_whyNot, .selects RX11 yX11_whyNot yX11_whyNot, .initialized RX11, .code yX11_whyNot cX11_whyNot 7 (some .int), .methodLink RX11 47 yX11_in, .static yX11_in, .code yX11_in cX11_in 3 (some .boolean), .fieldLink RX11 19 "GatherhouseModel" "pieces" "Ljava/util/ArrayList;", .methodLink RX11 106 yJx4a65c_iterator_32c93, .instanceMethod yJx4a65c_iterator_32c93, .selects RJx4a65c yJx4a65c_iterator_32c93 yJx4a65c_iterator_32c93, .initialized RJx4a65c, .code yJx4a65c_iterator_32c93 cJx4a65c_iterator_32c93 1 (some (.object "java/util/Iterator")), .classLink RJx4a65c 267 RJx35411, .instantiable RJx35411 4, .initialized RJx35411, .code yJx35411_init_45d68 cJx35411_init_45d68 2 none, .fieldLink RJx35411 1 "java/util/ArrayList$Itr" "this$0" "Ljava/util/ArrayList;", .methodLink RJx35411 7 objectInit, .instanceMethod objectInit, .code objectInit ⟨#[0xb1]⟩ 1 none, .fieldLink RJx35411 13 "java/util/ArrayList$Itr" "lastRet" "I", .sameField "java/util/ArrayList" "java/util/AbstractList" "modCount" "I", .fieldLink RJx35411 17 "java/util/ArrayList" "modCount" "I", .fieldLink RJx35411 22 "java/util/ArrayList$Itr" "expectedModCount" "I", .instanceMethod yJx35411_init_45d68, .methodLink RJx4a65c 269 yJx35411_init_45d68, .methodLink RX11 110 ⟨"java/util/Iterator", "hasNext", "()Z"⟩, .selects RJx35411 ⟨"java/util/Iterator", "hasNext", "()Z"⟩ yJx35411_hasNext_aae02, .instanceMethod yJx35411_hasNext_aae02, .code yJx35411_hasNext_aae02 cJx35411_hasNext_aae02 1 (some .boolean), .fieldLink RJx35411 25 "java/util/ArrayList$Itr" "cursor" "I", .fieldLink RX11 30 "GatherhouseModel" "busy" "[I", .fieldLink RX11 41 "GatherhouseModel" "thrown" "I", .methodLink RX11 177 yX11_letGo, .instanceMethod yX11_letGo, .selects RX11 yX11_letGo yX11_letGo, .code yX11_letGo cX11_letGo 6 (some .int), .methodLink RX11 165 yX11_restPots, .instanceMethod yX11_restPots, .selects RX11 yX11_restPots yX11_restPots, .code yX11_restPots cX11_restPots 3 none, .fieldLink RX11 16 "GatherhouseModel" "pots" "Ljava/util/ArrayList;", .methodLink RX11 168 yX11_cool, .instanceMethod yX11_cool, .selects RX11 yX11_cool yX11_cool, .code yX11_cool cX11_cool 4 (some .int), .fieldLink RX11 140 "GatherhouseModel" "hours" "I", .methodLink RX11 171 yX11_breaks, .instanceMethod yX11_breaks, .selects RX11 yX11_breaks yX11_breaks, .code yX11_breaks cX11_breaks 6 (some .int)]
def wzX11_hours : List Cond := wzEX11_hours ++ (u_ws RX11 TX11 13 ++ (u_ws RJx35411 TJx35411 4 ++ (u_ws RJx4a65c TJx4a65c 3)))
theorem zgEX11_hours : wzEX11_hours.all goodWord = true := by decide +kernel
theorem zuX11_hours_X11 : ∀ w ∈ u_ws RX11 TX11 13, w ∈ wzX11_hours := (fun _ h => (List.mem_append_right _ (List.mem_append_left _ h)))
theorem zuX11_hours_Jx35411 : ∀ w ∈ u_ws RJx35411 TJx35411 4, w ∈ wzX11_hours := (fun _ h => (List.mem_append_right _ (List.mem_append_right _ (List.mem_append_left _ h))))
theorem zuX11_hours_Jx4a65c : ∀ w ∈ u_ws RJx4a65c TJx4a65c 3, w ∈ wzX11_hours := (fun _ h => (List.mem_append_right _ (List.mem_append_right _ (List.mem_append_right _ h))))
theorem gzX11_hours_X11_whyNot_174 : GoodIn wzX11_hours (wsV RX11 174 RX11 yX11_whyNot wzX11_whyNot) := (goodIn_app (z_lift (goodIn_r _ [1, 2, 3, 4] rfl (by decide +kernel))) (goodIn_app (z_lift (goodIn_r wzEX11_whyNot [5, 6, 7, 4, 8, 9, 10, 11, 12, 13, 14, 15, 16, 17, 18, 19, 20, 21, 22, 23, 24, 25, 26, 27, 28, 29, 30, 31, 32, 33, 34] rfl zgEX11_whyNot)) (goodIn_app (goodIn_sub (fun _ h => (List.mem_append_right _ (List.mem_append_left _ h))) zgU_X11) (goodIn_app (goodIn_sub (fun _ h => (List.mem_append_right _ (List.mem_append_right _ (List.mem_append_left _ h)))) zgU_Jx35411) (goodIn_sub (fun _ h => (List.mem_append_right _ (List.mem_append_right _ (List.mem_append_right _ h)))) zgU_Jx4a65c)))))
theorem gzX11_hours_X11_letGo_177 : GoodIn wzX11_hours (wsV RX11 177 RX11 yX11_letGo wzX11_letGo) := (goodIn_app (z_lift (goodIn_r _ [36, 37, 38, 4] rfl (by decide +kernel))) (goodIn_app (z_lift (goodIn_r wzEX11_letGo [39, 40, 41, 42, 4, 43, 44, 10, 11, 12, 13, 14, 15, 16, 17, 18, 19, 20, 21, 22, 23, 24, 25, 26, 27, 28, 29, 30, 31, 32, 33, 45, 46, 47, 48, 9, 49, 50, 51, 52, 53] rfl zgEX11_letGo)) (goodIn_app (goodIn_sub (fun _ h => (List.mem_append_right _ (List.mem_append_left _ h))) zgU_X11) (goodIn_app (goodIn_sub (fun _ h => (List.mem_append_right _ (List.mem_append_right _ (List.mem_append_left _ h)))) zgU_Jx35411) (goodIn_sub (fun _ h => (List.mem_append_right _ (List.mem_append_right _ (List.mem_append_right _ h)))) zgU_Jx4a65c)))))
set_option maxHeartbeats 4000000 in
set_option maxRecDepth 100000 in
theorem zc_X11_hours (l : Launch) (D : va_G) (G : Nat × Nat × Nat) (mo : Nat) (gl : Nat) (po : Nat) (pi : Nat) (bu : Nat) (pa : Nat) (th : Int32) (mh : Int32) (mt : Int32) (ci : ClassId) (ii : Int32) (sz : Nat) : Met l yX11_hours wzX11_hours ({ frames := 5, cells := 4321, slots := 17284, locals := 103 }) (va_Pc [.ref mo, .int ii] (p_RW D G [(ci, .int)] [(mo, .inr (16, [.int th, .ref gl, .ref po, .ref pi, .ref bu, .ref pa, .int mt, .int mh, .int 40, .int 0, .null, .int 0, .int 0])), (po, .inr (4, [.int 0, .ref G.1, .int 0])), (pi, .inr (4, [.int 0, .ref G.1, .int 0])), (bu, .inl (ci, 4, .inl (fun _ => 0)))] sz)) (va_Qi (fun (r : Int32) (u : Int32 × Int32) => match u with | (u1, hv) => (inR ii 1 240 ∧ r = 0 ∧ u1 = 0) ∨ (¬ inR ii 1 240 ∧ r = 0 ∧ u1 = 1)) (fun (u : Int32 × Int32) (t : State) => match u with | (u1, hv) => q_RW D [(ci, .int)] [(mo, .inr (16, [.int u1, .ref gl, .ref po, .ref pi, .ref bu, .ref pa, .int mt, .int hv, .int 40, .int 0, .null, .int 0, .int 0]))] (va_A [(mo, .inr (16, [.int th, .ref gl, .ref po, .ref pi, .ref bu, .ref pa, .int mt, .int mh, .int 40, .int 0, .null, .int 0, .int 0])), (po, .inr (4, [.int 0, .ref G.1, .int 0])), (pi, .inr (4, [.int 0, .ref G.1, .int 0])), (bu, .inl (ci, 4, .inl (fun _ => 0)))] sz) t) (va_A [(mo, .inr (16, [.int th, .ref gl, .ref po, .ref pi, .ref bu, .ref pa, .int mt, .int mh, .int 40, .int 0, .null, .int 0, .int 0])), (po, .inr (4, [.int 0, .ref G.1, .int 0])), (pi, .inr (4, [.int 0, .ref G.1, .int 0])), (bu, .inl (ci, 4, .inl (fun _ => 0)))] sz)) 4321 17284 (va_A [(mo, .inr (16, [.int th, .ref gl, .ref po, .ref pi, .ref bu, .ref pa, .int mt, .int mh, .int 40, .int 0, .null, .int 0, .int 0])), (po, .inr (4, [.int 0, .ref G.1, .int 0])), (pi, .inr (4, [.int 0, .ref G.1, .int 0])), (bu, .inl (ci, 4, .inl (fun _ => 0)))] sz) := by
  refine Met.ofW (cc := cX11_hours) (maxL := 2) (ret := (some .int)) (by decide) rfl ?_
  intro p e s m args below meth c s₁ B hml hv
  obtain ⟨rfl, hsz, hP, hK, hD0, hT, hZ⟩ := hv
  have hx := B.exec
  have hb := B.bytes
  have hr := B.returns
  have hts := atoms_spec (ws := wzX11_hours) B.pre
  have hown : s.vm.findClass RX11 = some m.cls := findClass_of_methodNamed B.named
  have hlocks := B.notSynchronized
  subst hsz
  have hD := hD0.self (sz := s.heap.size)
  generalize hAe : va_A [(mo, .inr (16, [.int th, .ref gl, .ref po, .ref pi, .ref bu, .ref pa, .int mt, .int mh, .int 40, .int 0, .null, .int 0, .int 0])), (po, .inr (4, [.int 0, .ref G.1, .int 0])), (pi, .inr (4, [.int 0, .ref G.1, .int 0])), (bu, .inl (ci, 4, .inl (fun _ => 0)))] s.heap.size = A at hD hZ ⊢
  have hA : ∀ q : Nat, s.heap.size ≤ q → A q := fun q h => by rw [← hAe]; exact Or.inr h
  have hS : va_S A s.heap s.heap [] := va_S.rf
  have hl := lv_entry ([.ref mo, .int ii]) (n := 2) (Nat.le_of_ble_eq_true rfl)
  rw [lg_entry_eq]
  generalize (lg_sl ([.ref mo, .int ii]) ++ List.replicate (2 - (lg_sl ([.ref mo, .int ii])).length) Slot.unset).toArray = ls at hl ⊢
  have hl : lv_has ls 2 [(0, .ref mo), (1, .int ii)] := hl
  refine lv_aload_n hx hb dX11_hours_0 rfl (lv_at hl 0 rfl) ?_
  refine lv_aload_n hx hb dX11_hours_1 rfl (lv_at hl 0 rfl) ?_
  refine lv_iload_n hx hb dX11_hours_2 rfl (lv_at hl 1 rfl) ?_
  refine lv_sipush (v := 240) hx hb dX11_hours_3 (by decide) ?_
  have hFc := va_free (wc := [(mo, .inr (16, [.int th, .ref gl, .ref po, .ref pi, .ref bu, .ref pa, .int mt, .int mh, .int 40, .int 0, .null, .int 0, .int 0])), (pi, .inr (4, [.int 0, .ref G.1, .int 0])), (bu, .inl (ci, 4, .inl (fun _ => 0)))]) hD hS hA [0, 2, 3] rfl
  refine va_calli (va_runV (As := [.int ii, .int 240]) (rest := [.ref mo]) ⟨hx, hb, hml, hown, hts⟩ (zc_X11_whyNot l D G mo gl po pi bu pa th mh mt ci ii 240 s.heap.size) (cwV 2 hts gzX11_hours_X11_whyNot_174 rfl rfl rfl (by decide +kernel) ⟨(Nat.le_of_ble_eq_true rfl), (Nat.le_of_ble_eq_true rfl)⟩) ⟨p_RW_blind, va_recv hK hP (ci := 16) (q0 := 0) rfl rfl, (p_RW_at (tc := [(ci, .int)]) (wc := [(mo, .inr (16, [.int th, .ref gl, .ref po, .ref pi, .ref bu, .ref pa, .int mt, .int mh, .int 40, .int 0, .null, .int 0, .int 0])), (pi, .inr (4, [.int 0, .ref G.1, .int 0])), (bu, .inl (ci, 4, .inl (fun _ => 0)))]) hP hK hD hS hA hT hZ [0, 2, 3] [0] rfl rfl (by decide) rfl [.ref mo, .int ii, .int 240])⟩ rfl rfl hl.1 rfl (lv_room (Nat.le_of_ble_eq_true rfl)) dX11_hours_6 ⟨(Nat.le_of_ble_eq_true rfl), (Nat.le_of_ble_eq_true rfl)⟩) hS (fun q _ h => hFc q h) hFc (fun r_621 u t H locs ht hvm w_622 hB hz1 hk1 hS => ?_)
  obtain ⟨hP, hD, hK⟩ := q_join (D := D) (wc := [(mo, .inr (16, [.int th, .ref gl, .ref po, .ref pi, .ref bu, .ref pa, .int mt, .int mh, .int 40, .int 0, .null, .int 0, .int 0])), (pi, .inr (4, [.int 0, .ref G.1, .int 0])), (bu, .inl (ci, 4, .inl (fun _ => 0)))]) (wr := [(po, .inr (4, [.int 0, .ref G.1, .int 0]))]) (w1 := [(mo, .inr (16, [.int th, .ref gl, .ref po, .ref pi, .ref bu, .ref pa, .int mt, .int mh, .int 40, .int 0, .null, .int 0, .int 0])), (pi, .inr (4, [.int 0, .ref G.1, .int 0])), (bu, .inl (ci, 4, .inl (fun _ => 0)))]) (tyr := []) (ty1 := [(ci, .int)]) hP hD hK [0, 2, 3] [1] [] rfl rfl (by decide) (by decide) rfl hFc hk1 ht hvm hB
  have hP : va_P D vwCl [(po, .inr (4, [.int 0, .ref G.1, .int 0])), (mo, .inr (16, [.int th, .ref gl, .ref po, .ref pi, .ref bu, .ref pa, .int mt, .int mh, .int 40, .int 0, .null, .int 0, .int 0])), (pi, .inr (4, [.int 0, .ref G.1, .int 0])), (bu, .inl (ci, 4, .inl (fun _ => 0)))] H := hP
  have hD : va_D A [(po, .inr (4, [.int 0, .ref G.1, .int 0])), (mo, .inr (16, [.int th, .ref gl, .ref po, .ref pi, .ref bu, .ref pa, .int mt, .int mh, .int 40, .int 0, .null, .int 0, .int 0])), (pi, .inr (4, [.int 0, .ref G.1, .int 0])), (bu, .inl (ci, 4, .inl (fun _ => 0)))] := hD
  have hK : va_K D vwCl [(ci, .int)] s := hK
  refine W.widen (k := 1) (n := 4) (Nat.le_of_ble_eq_true rfl) (Nat.le_of_ble_eq_true rfl) ?_
  rcases w_622 with ⟨c_623, rfl⟩ | ⟨c_624, rfl⟩
  · refine va_put (D := D) (cl := vwCl) (ci := 16) (v := .int 0) (ty := .int) (C := RX11) (T := TX11) (N := 13) hx hb hts zuX11_hours_X11 tyX11 tyX11_ok nmX11 hown hK hP hD hS 1 rfl rfl 0 (by decide) (hts (.fieldLink RX11 41 "GatherhouseModel" "thrown" "I") (by decide +kernel)) (fun _ h9 => h9) rfl (by decide +kernel) rfl rfl (Nat.le_of_ble_eq_true rfl) dX11_hours_9 (fun H locs hP hD hS => ?_)
    have hP : va_P D vwCl [(po, .inr (4, [.int 0, .ref G.1, .int 0])), (mo, .inr (16, [.int 0, .ref gl, .ref po, .ref pi, .ref bu, .ref pa, .int mt, .int mh, .int 40, .int 0, .null, .int 0, .int 0])), (pi, .inr (4, [.int 0, .ref G.1, .int 0])), (bu, .inl (ci, 4, .inl (fun _ => 0)))] H := hP
    have hD : va_D A [(po, .inr (4, [.int 0, .ref G.1, .int 0])), (mo, .inr (16, [.int 0, .ref gl, .ref po, .ref pi, .ref bu, .ref pa, .int mt, .int mh, .int 40, .int 0, .null, .int 0, .int 0])), (pi, .inr (4, [.int 0, .ref G.1, .int 0])), (bu, .inl (ci, 4, .inl (fun _ => 0)))] := hD
    refine lv_aload_n hx hb dX11_hours_12 rfl (lv_at hl 0 rfl) ?_
    refine va_get (D := D) (cl := vwCl) (ci := 16) (v := .int 0) (C := RX11) (T := TX11) (N := 13) hx hb hts zuX11_hours_X11 hown hK hP 1 rfl rfl 0 (by decide) (hts (.fieldLink RX11 41 "GatherhouseModel" "thrown" "I") (by decide +kernel)) (fun _ h9 => h9) rfl dX11_hours_13 ?_
    refine lv_if_le (tgt := 23) hx hb dX11_hours_16 (by decide) (fun _ => ?_) (fun cc => absurd (by decide) cc)
    obtain ⟨n, hn, rfl⟩ := inR_n (h := 240) (by decide) c_623
    refine lv_aload_n hx hb dX11_hours_23 rfl (lv_at hl 0 rfl) ?_
    refine lv_iload_n hx hb dX11_hours_24 rfl (lv_at hl 1 rfl) ?_
    refine lv_iconst (v := 0) hx hb dX11_hours_25 (by decide) ?_
    have hFc := va_free (wc := [(mo, .inr (16, [.int 0, .ref gl, .ref po, .ref pi, .ref bu, .ref pa, .int mt, .int mh, .int 40, .int 0, .null, .int 0, .int 0])), (po, .inr (4, [.int 0, .ref G.1, .int 0])), (pi, .inr (4, [.int 0, .ref G.1, .int 0]))]) hD hS hA [1, 0, 2] rfl
    refine va_calli (va_runV (As := [.int (nI n), .int 0]) (rest := []) ⟨hx, hb, hml, hown, hts⟩ (zc_X11_letGo l D G mo gl po pi bu pa 0 mh mt n 0 H.size (by omega)) (cwV 2 hts gzX11_hours_X11_letGo_177 rfl rfl rfl (by decide +kernel) ⟨(Nat.le_of_ble_eq_true rfl), (Nat.le_of_ble_eq_true rfl)⟩) ⟨p_RW_blind, va_recv hK hP (ci := 16) (q0 := 1) rfl rfl, (p_RW_at (tc := []) (wc := [(mo, .inr (16, [.int 0, .ref gl, .ref po, .ref pi, .ref bu, .ref pa, .int mt, .int mh, .int 40, .int 0, .null, .int 0, .int 0])), (po, .inr (4, [.int 0, .ref G.1, .int 0])), (pi, .inr (4, [.int 0, .ref G.1, .int 0]))]) hP hK hD hS hA hT hZ [1, 0, 2] [] rfl rfl (by decide) rfl [.ref mo, .int (nI n), .int 0])⟩ rfl rfl hl.1 rfl (lv_room (Nat.le_of_ble_eq_true rfl)) dX11_hours_26 ⟨(Nat.le_of_ble_eq_true rfl), (Nat.le_of_ble_eq_true rfl)⟩) hS (fun q _ h => hFc q h) hFc (fun r_625 u t H locs ht hvm w_626 hB hz1 hk1 hS => ?_)
    obtain ⟨u_627, rfl⟩ : ∃ z, z = u := ⟨_, rfl⟩
    obtain ⟨hP, hD, hK⟩ := q_join (D := D) (wc := [(mo, .inr (16, [.int 0, .ref gl, .ref po, .ref pi, .ref bu, .ref pa, .int mt, .int mh, .int 40, .int 0, .null, .int 0, .int 0])), (po, .inr (4, [.int 0, .ref G.1, .int 0])), (pi, .inr (4, [.int 0, .ref G.1, .int 0]))]) (wr := [(bu, .inl (ci, 4, .inl (fun _ => 0)))]) (w1 := [(mo, .inr (16, [.int 0, .ref gl, .ref po, .ref pi, .ref bu, .ref pa, .int mt, .int u_627, .int 40, .int 0, .null, .int 0, .int 0])), (po, .inr (4, [.int 0, .ref G.1, .int 0])), (pi, .inr (4, [.int 0, .ref G.1, .int 0]))]) (tyr := [(ci, .int)]) (ty1 := []) hP hD hK [1, 0, 2] [3] [0] rfl rfl (by decide) (by decide) rfl hFc hk1 ht hvm hB
    have hP : va_P D vwCl [(bu, .inl (ci, 4, .inl (fun _ => 0))), (mo, .inr (16, [.int 0, .ref gl, .ref po, .ref pi, .ref bu, .ref pa, .int mt, .int u_627, .int 40, .int 0, .null, .int 0, .int 0])), (po, .inr (4, [.int 0, .ref G.1, .int 0])), (pi, .inr (4, [.int 0, .ref G.1, .int 0]))] H := hP
    have hD : va_D A [(bu, .inl (ci, 4, .inl (fun _ => 0))), (mo, .inr (16, [.int 0, .ref gl, .ref po, .ref pi, .ref bu, .ref pa, .int mt, .int u_627, .int 40, .int 0, .null, .int 0, .int 0])), (po, .inr (4, [.int 0, .ref G.1, .int 0])), (pi, .inr (4, [.int 0, .ref G.1, .int 0]))] := hD
    have hK : va_K D vwCl [(ci, .int)] s := hK
    refine W.widen (k := 4321) (n := 17284) (Nat.le_of_ble_eq_true rfl) (Nat.le_of_ble_eq_true rfl) ?_
    obtain rfl := w_626
    exact W.iret (v := 0) hx hb hr (fun t ht hW => ⟨⟨0, (0, u_627), rfl, (by first | exact Or.inl (⟨(by first | assumption | exact inR_1 (by assumption) (by assumption) | exact inR_2 (by assumption) (by assumption) | exact inR_3 (by assumption) | exact inR_4 (by assumption) | exact inR_5 (by assumption) | exact ⟨by assumption, by assumption, by assumption, by assumption⟩ | exact ⟨by assumption, by assumption, by assumption⟩ | exact (fun q => absurd q.1 (by assumption)) | exact (fun q => absurd q.2.1 (by assumption)) | exact (fun q => absurd q.2.2 (by assumption)) | exact (fun q => absurd q.2.2.1 (by assumption)) | exact (fun q => absurd q.2.2.2 (by assumption)) | exact isRole_no (by assumption) (by assumption) (by assumption) (by assumption) | exact isRole_nb (by assumption) (by assumption) (by assumption) (by assumption) | exact isRole_out (by assumption) | exact enc_use (by assumption) (by assumption) (by assumption) | exact enc_103 (by assumption) | exact enc_103 (Eq.symm (by assumption)) | exact enc_115 (Eq.symm (by assumption)) | exact enc_102 (Eq.symm (by assumption)) | exact enc_98 (Eq.symm (by assumption)) | exact isRole_nc (by assumption) (by assumption) (by assumption) (by assumption) | exact enc_115 (by assumption) | exact enc_102 (by assumption) | exact enc_98 (by assumption) | exact Or.inr (by assumption) | rfl | exact Or.inl (by assumption) | exact Or.inr (Or.inl (by assumption)) | exact Or.inr (Or.inr (Or.inl (by assumption))) | exact Or.inr (Or.inr (Or.inr (by assumption))) | decide), rfl, (by first | rfl | assumption)⟩) | exact Or.inr (⟨(by first | assumption | exact inR_1 (by assumption) (by assumption) | exact inR_2 (by assumption) (by assumption) | exact inR_3 (by assumption) | exact inR_4 (by assumption) | exact inR_5 (by assumption) | exact ⟨by assumption, by assumption, by assumption, by assumption⟩ | exact ⟨by assumption, by assumption, by assumption⟩ | exact (fun q => absurd q.1 (by assumption)) | exact (fun q => absurd q.2.1 (by assumption)) | exact (fun q => absurd q.2.2 (by assumption)) | exact (fun q => absurd q.2.2.1 (by assumption)) | exact (fun q => absurd q.2.2.2 (by assumption)) | exact isRole_no (by assumption) (by assumption) (by assumption) (by assumption) | exact isRole_nb (by assumption) (by assumption) (by assumption) (by assumption) | exact isRole_out (by assumption) | exact enc_use (by assumption) (by assumption) (by assumption) | exact enc_103 (by assumption) | exact enc_103 (Eq.symm (by assumption)) | exact enc_115 (Eq.symm (by assumption)) | exact enc_102 (Eq.symm (by assumption)) | exact enc_98 (Eq.symm (by assumption)) | exact isRole_nc (by assumption) (by assumption) (by assumption) (by assumption) | exact enc_115 (by assumption) | exact enc_102 (by assumption) | exact enc_98 (by assumption) | exact Or.inr (by assumption) | rfl | exact Or.inl (by assumption) | exact Or.inr (Or.inl (by assumption)) | exact Or.inr (Or.inr (Or.inl (by assumption))) | exact Or.inr (Or.inr (Or.inr (by assumption))) | decide), rfl, (by first | rfl | assumption)⟩)), q_RW_mk hP hK hD [1] [0] rfl rfl (by decide) rfl ht hW.alike⟩, hS.F ht⟩) hS.2.2 dX11_hours_29
  · refine va_put (D := D) (cl := vwCl) (ci := 16) (v := .int 1) (ty := .int) (C := RX11) (T := TX11) (N := 13) hx hb hts zuX11_hours_X11 tyX11 tyX11_ok nmX11 hown hK hP hD hS 1 rfl rfl 0 (by decide) (hts (.fieldLink RX11 41 "GatherhouseModel" "thrown" "I") (by decide +kernel)) (fun _ h9 => h9) rfl (by decide +kernel) rfl rfl (Nat.le_of_ble_eq_true rfl) dX11_hours_9 (fun H locs hP hD hS => ?_)
    have hP : va_P D vwCl [(po, .inr (4, [.int 0, .ref G.1, .int 0])), (mo, .inr (16, [.int 1, .ref gl, .ref po, .ref pi, .ref bu, .ref pa, .int mt, .int mh, .int 40, .int 0, .null, .int 0, .int 0])), (pi, .inr (4, [.int 0, .ref G.1, .int 0])), (bu, .inl (ci, 4, .inl (fun _ => 0)))] H := hP
    have hD : va_D A [(po, .inr (4, [.int 0, .ref G.1, .int 0])), (mo, .inr (16, [.int 1, .ref gl, .ref po, .ref pi, .ref bu, .ref pa, .int mt, .int mh, .int 40, .int 0, .null, .int 0, .int 0])), (pi, .inr (4, [.int 0, .ref G.1, .int 0])), (bu, .inl (ci, 4, .inl (fun _ => 0)))] := hD
    refine lv_aload_n hx hb dX11_hours_12 rfl (lv_at hl 0 rfl) ?_
    refine va_get (D := D) (cl := vwCl) (ci := 16) (v := .int 1) (C := RX11) (T := TX11) (N := 13) hx hb hts zuX11_hours_X11 hown hK hP 1 rfl rfl 0 (by decide) (hts (.fieldLink RX11 41 "GatherhouseModel" "thrown" "I") (by decide +kernel)) (fun _ h9 => h9) rfl dX11_hours_13 ?_
    refine lv_if_le (tgt := 23) hx hb dX11_hours_16 (by decide) (fun cc => absurd cc (by decide)) (fun _ => ?_)
    refine lv_iconst (v := 0) hx hb dX11_hours_19 (by decide) ?_
    refine lv_goto (tgt := 29) hx hb dX11_hours_20 (by decide) ?_
    refine W.widen (k := 4321) (n := 17284) (Nat.le_of_ble_eq_true rfl) (Nat.le_of_ble_eq_true rfl) ?_
    exact W.iret (v := 0) hx hb hr (fun t ht hW => ⟨⟨0, (1, mh), rfl, (by first | exact Or.inl (⟨(by first | assumption | exact inR_1 (by assumption) (by assumption) | exact inR_2 (by assumption) (by assumption) | exact inR_3 (by assumption) | exact inR_4 (by assumption) | exact inR_5 (by assumption) | exact ⟨by assumption, by assumption, by assumption, by assumption⟩ | exact ⟨by assumption, by assumption, by assumption⟩ | exact (fun q => absurd q.1 (by assumption)) | exact (fun q => absurd q.2.1 (by assumption)) | exact (fun q => absurd q.2.2 (by assumption)) | exact (fun q => absurd q.2.2.1 (by assumption)) | exact (fun q => absurd q.2.2.2 (by assumption)) | exact isRole_no (by assumption) (by assumption) (by assumption) (by assumption) | exact isRole_nb (by assumption) (by assumption) (by assumption) (by assumption) | exact isRole_out (by assumption) | exact enc_use (by assumption) (by assumption) (by assumption) | exact enc_103 (by assumption) | exact enc_103 (Eq.symm (by assumption)) | exact enc_115 (Eq.symm (by assumption)) | exact enc_102 (Eq.symm (by assumption)) | exact enc_98 (Eq.symm (by assumption)) | exact isRole_nc (by assumption) (by assumption) (by assumption) (by assumption) | exact enc_115 (by assumption) | exact enc_102 (by assumption) | exact enc_98 (by assumption) | exact Or.inr (by assumption) | rfl | exact Or.inl (by assumption) | exact Or.inr (Or.inl (by assumption)) | exact Or.inr (Or.inr (Or.inl (by assumption))) | exact Or.inr (Or.inr (Or.inr (by assumption))) | decide), rfl, (by first | rfl | assumption)⟩) | exact Or.inr (⟨(by first | assumption | exact inR_1 (by assumption) (by assumption) | exact inR_2 (by assumption) (by assumption) | exact inR_3 (by assumption) | exact inR_4 (by assumption) | exact inR_5 (by assumption) | exact ⟨by assumption, by assumption, by assumption, by assumption⟩ | exact ⟨by assumption, by assumption, by assumption⟩ | exact (fun q => absurd q.1 (by assumption)) | exact (fun q => absurd q.2.1 (by assumption)) | exact (fun q => absurd q.2.2 (by assumption)) | exact (fun q => absurd q.2.2.1 (by assumption)) | exact (fun q => absurd q.2.2.2 (by assumption)) | exact isRole_no (by assumption) (by assumption) (by assumption) (by assumption) | exact isRole_nb (by assumption) (by assumption) (by assumption) (by assumption) | exact isRole_out (by assumption) | exact enc_use (by assumption) (by assumption) (by assumption) | exact enc_103 (by assumption) | exact enc_103 (Eq.symm (by assumption)) | exact enc_115 (Eq.symm (by assumption)) | exact enc_102 (Eq.symm (by assumption)) | exact enc_98 (Eq.symm (by assumption)) | exact isRole_nc (by assumption) (by assumption) (by assumption) (by assumption) | exact enc_115 (by assumption) | exact enc_102 (by assumption) | exact enc_98 (by assumption) | exact Or.inr (by assumption) | rfl | exact Or.inl (by assumption) | exact Or.inr (Or.inl (by assumption)) | exact Or.inr (Or.inr (Or.inl (by assumption))) | exact Or.inr (Or.inr (Or.inr (by assumption))) | decide), rfl, (by first | rfl | assumption)⟩)), q_RW_mk hP hK hD [1] [0] rfl rfl (by decide) rfl ht hW.alike⟩, hS.F ht⟩) hS.2.2 dX11_hours_29
theorem dX11_days_0 : decode cX11_days 0 = .ok (.aload_n 0, 1) := by decide +kernel
theorem dX11_days_1 : decode cX11_days 1 = .ok (.aload_n 0, 1) := by decide +kernel
theorem dX11_days_2 : decode cX11_days 2 = .ok (.iload_n 1, 1) := by decide +kernel
theorem dX11_days_3 : decode cX11_days 3 = .ok (.bipush 60, 2) := by decide +kernel
theorem dX11_days_5 : decode cX11_days 5 = .ok (.invokevirtual 174, 3) := by decide +kernel
theorem dX11_days_8 : decode cX11_days 8 = .ok (.putfield 41, 3) := by decide +kernel
theorem dX11_days_11 : decode cX11_days 11 = .ok (.aload_n 0, 1) := by decide +kernel
theorem dX11_days_12 : decode cX11_days 12 = .ok (.getfield 41, 3) := by decide +kernel
theorem dX11_days_15 : decode cX11_days 15 = .ok (.ifCond .le 7, 3) := by decide +kernel
theorem dX11_days_22 : decode cX11_days 22 = .ok (.aload_n 0, 1) := by decide +kernel
theorem dX11_days_23 : decode cX11_days 23 = .ok (.bipush 24, 2) := by decide +kernel
theorem dX11_days_25 : decode cX11_days 25 = .ok (.iload_n 1, 1) := by decide +kernel
theorem dX11_days_26 : decode cX11_days 26 = .ok (.imul, 1) := by decide +kernel
theorem dX11_days_27 : decode cX11_days 27 = .ok (.iconst 1, 1) := by decide +kernel
theorem dX11_days_28 : decode cX11_days 28 = .ok (.invokevirtual 177, 3) := by decide +kernel
theorem dX11_days_31 : decode cX11_days 31 = .ok (.ireturn, 1) := by decide +kernel
theorem dX11_days_18 : decode cX11_days 18 = .ok (.iconst 0, 1) := by decide +kernel
theorem dX11_days_19 : decode cX11_days 19 = .ok (.goto 12, 3) := by decide +kernel
def wzEX11_days : List Cond := [.code yX11_days cX11_days 2 (some .int), .methodLink RX11 174 yX11_whyNot, .instanceMethod yX11_whyNot, .selects RX11 yX11_whyNot yX11_whyNot, .initialized RX11, .code yX11_whyNot cX11_whyNot 7 (some .int), .methodLink RX11 47 yX11_in, .static yX11_in, .code yX11_in cX11_in 3 (some .boolean), .fieldLink RX11 19 "GatherhouseModel" "pieces" "Ljava/util/ArrayList;", .methodLink RX11 106 yJx4a65c_iterator_32c93, .instanceMethod yJx4a65c_iterator_32c93, .selects RJx4a65c yJx4a65c_iterator_32c93 yJx4a65c_iterator_32c93, .initialized RJx4a65c, .code yJx4a65c_iterator_32c93 cJx4a65c_iterator_32c93 1 (some (.object "java/util/Iterator")), .classLink RJx4a65c 267 RJx35411, .instantiable RJx35411 4, .initialized RJx35411, .code yJx35411_init_45d68 cJx35411_init_45d68 2 none, .fieldLink RJx35411 1 "java/util/ArrayList$Itr" "this$0" "Ljava/util/ArrayList;", .methodLink RJx35411 7 objectInit, .instanceMethod objectInit, .code objectInit ⟨#[0xb1]⟩ 1 none, .fieldLink RJx35411 13 "java/util/ArrayList$Itr" "lastRet" "I", .sameField "java/util/ArrayList" "java/util/AbstractList" "modCount" "I", .fieldLink RJx35411 17 "java/util/ArrayList" "modCount" "I", .fieldLink RJx35411 22 "java/util/ArrayList$Itr" "expectedModCount" "I", .instanceMethod yJx35411_init_45d68, .methodLink RJx4a65c 269 yJx35411_init_45d68, .methodLink RX11 110 ⟨"java/util/Iterator", "hasNext", "()Z"⟩, .selects RJx35411 ⟨"java/util/Iterator", "hasNext", "()Z"⟩ yJx35411_hasNext_aae02, .instanceMethod yJx35411_hasNext_aae02, .code yJx35411_hasNext_aae02 cJx35411_hasNext_aae02 1 (some .boolean), .fieldLink RJx35411 25 "java/util/ArrayList$Itr" "cursor" "I", .fieldLink RX11 30 "GatherhouseModel" "busy" "[I", .fieldLink RX11 41 "GatherhouseModel" "thrown" "I", .methodLink RX11 177 yX11_letGo, .instanceMethod yX11_letGo, .selects RX11 yX11_letGo yX11_letGo, .code yX11_letGo cX11_letGo 6 (some .int), .methodLink RX11 165 yX11_restPots, .instanceMethod yX11_restPots, .selects RX11 yX11_restPots yX11_restPots, .code yX11_restPots cX11_restPots 3 none, .fieldLink RX11 16 "GatherhouseModel" "pots" "Ljava/util/ArrayList;", .methodLink RX11 168 yX11_cool, .instanceMethod yX11_cool, .selects RX11 yX11_cool yX11_cool, .code yX11_cool cX11_cool 4 (some .int), .fieldLink RX11 140 "GatherhouseModel" "hours" "I", .methodLink RX11 171 yX11_breaks, .instanceMethod yX11_breaks, .selects RX11 yX11_breaks yX11_breaks, .code yX11_breaks cX11_breaks 6 (some .int)]
def wzX11_days : List Cond := wzEX11_days ++ (u_ws RX11 TX11 13 ++ (u_ws RJx35411 TJx35411 4 ++ (u_ws RJx4a65c TJx4a65c 3)))
theorem zgEX11_days : wzEX11_days.all goodWord = true := by decide +kernel
theorem zuX11_days_X11 : ∀ w ∈ u_ws RX11 TX11 13, w ∈ wzX11_days := (fun _ h => (List.mem_append_right _ (List.mem_append_left _ h)))
theorem zuX11_days_Jx35411 : ∀ w ∈ u_ws RJx35411 TJx35411 4, w ∈ wzX11_days := (fun _ h => (List.mem_append_right _ (List.mem_append_right _ (List.mem_append_left _ h))))
theorem zuX11_days_Jx4a65c : ∀ w ∈ u_ws RJx4a65c TJx4a65c 3, w ∈ wzX11_days := (fun _ h => (List.mem_append_right _ (List.mem_append_right _ (List.mem_append_right _ h))))
theorem gzX11_days_X11_whyNot_174 : GoodIn wzX11_days (wsV RX11 174 RX11 yX11_whyNot wzX11_whyNot) := (goodIn_app (z_lift (goodIn_r _ [1, 2, 3, 4] rfl (by decide +kernel))) (goodIn_app (z_lift (goodIn_r wzEX11_whyNot [5, 6, 7, 4, 8, 9, 10, 11, 12, 13, 14, 15, 16, 17, 18, 19, 20, 21, 22, 23, 24, 25, 26, 27, 28, 29, 30, 31, 32, 33, 34] rfl zgEX11_whyNot)) (goodIn_app (goodIn_sub (fun _ h => (List.mem_append_right _ (List.mem_append_left _ h))) zgU_X11) (goodIn_app (goodIn_sub (fun _ h => (List.mem_append_right _ (List.mem_append_right _ (List.mem_append_left _ h)))) zgU_Jx35411) (goodIn_sub (fun _ h => (List.mem_append_right _ (List.mem_append_right _ (List.mem_append_right _ h)))) zgU_Jx4a65c)))))
theorem gzX11_days_X11_letGo_177 : GoodIn wzX11_days (wsV RX11 177 RX11 yX11_letGo wzX11_letGo) := (goodIn_app (z_lift (goodIn_r _ [36, 37, 38, 4] rfl (by decide +kernel))) (goodIn_app (z_lift (goodIn_r wzEX11_letGo [39, 40, 41, 42, 4, 43, 44, 10, 11, 12, 13, 14, 15, 16, 17, 18, 19, 20, 21, 22, 23, 24, 25, 26, 27, 28, 29, 30, 31, 32, 33, 45, 46, 47, 48, 9, 49, 50, 51, 52, 53] rfl zgEX11_letGo)) (goodIn_app (goodIn_sub (fun _ h => (List.mem_append_right _ (List.mem_append_left _ h))) zgU_X11) (goodIn_app (goodIn_sub (fun _ h => (List.mem_append_right _ (List.mem_append_right _ (List.mem_append_left _ h)))) zgU_Jx35411) (goodIn_sub (fun _ h => (List.mem_append_right _ (List.mem_append_right _ (List.mem_append_right _ h)))) zgU_Jx4a65c)))))
set_option maxHeartbeats 4000000 in
set_option maxRecDepth 100000 in
theorem zc_X11_days (l : Launch) (D : va_G) (G : Nat × Nat × Nat) (mo : Nat) (gl : Nat) (po : Nat) (pi : Nat) (bu : Nat) (pa : Nat) (th : Int32) (mh : Int32) (mt : Int32) (ci : ClassId) (ii : Int32) (sz : Nat) : Met l yX11_days wzX11_days ({ frames := 5, cells := 4321, slots := 17284, locals := 103 }) (va_Pc [.ref mo, .int ii] (p_RW D G [(ci, .int)] [(mo, .inr (16, [.int th, .ref gl, .ref po, .ref pi, .ref bu, .ref pa, .int mt, .int mh, .int 40, .int 0, .null, .int 0, .int 0])), (po, .inr (4, [.int 0, .ref G.1, .int 0])), (pi, .inr (4, [.int 0, .ref G.1, .int 0])), (bu, .inl (ci, 4, .inl (fun _ => 0)))] sz)) (va_Qi (fun (r : Int32) (u : Int32 × Int32) => match u with | (u1, hv) => (inR ii 1 60 ∧ r = 0 ∧ u1 = 0) ∨ (¬ inR ii 1 60 ∧ r = 0 ∧ u1 = 1)) (fun (u : Int32 × Int32) (t : State) => match u with | (u1, hv) => q_RW D [(ci, .int)] [(mo, .inr (16, [.int u1, .ref gl, .ref po, .ref pi, .ref bu, .ref pa, .int mt, .int hv, .int 40, .int 0, .null, .int 0, .int 0]))] (va_A [(mo, .inr (16, [.int th, .ref gl, .ref po, .ref pi, .ref bu, .ref pa, .int mt, .int mh, .int 40, .int 0, .null, .int 0, .int 0])), (po, .inr (4, [.int 0, .ref G.1, .int 0])), (pi, .inr (4, [.int 0, .ref G.1, .int 0])), (bu, .inl (ci, 4, .inl (fun _ => 0)))] sz) t) (va_A [(mo, .inr (16, [.int th, .ref gl, .ref po, .ref pi, .ref bu, .ref pa, .int mt, .int mh, .int 40, .int 0, .null, .int 0, .int 0])), (po, .inr (4, [.int 0, .ref G.1, .int 0])), (pi, .inr (4, [.int 0, .ref G.1, .int 0])), (bu, .inl (ci, 4, .inl (fun _ => 0)))] sz)) 4321 17284 (va_A [(mo, .inr (16, [.int th, .ref gl, .ref po, .ref pi, .ref bu, .ref pa, .int mt, .int mh, .int 40, .int 0, .null, .int 0, .int 0])), (po, .inr (4, [.int 0, .ref G.1, .int 0])), (pi, .inr (4, [.int 0, .ref G.1, .int 0])), (bu, .inl (ci, 4, .inl (fun _ => 0)))] sz) := by
  refine Met.ofW (cc := cX11_days) (maxL := 2) (ret := (some .int)) (by decide) rfl ?_
  intro p e s m args below meth c s₁ B hml hv
  obtain ⟨rfl, hsz, hP, hK, hD0, hT, hZ⟩ := hv
  have hx := B.exec
  have hb := B.bytes
  have hr := B.returns
  have hts := atoms_spec (ws := wzX11_days) B.pre
  have hown : s.vm.findClass RX11 = some m.cls := findClass_of_methodNamed B.named
  have hlocks := B.notSynchronized
  subst hsz
  have hD := hD0.self (sz := s.heap.size)
  generalize hAe : va_A [(mo, .inr (16, [.int th, .ref gl, .ref po, .ref pi, .ref bu, .ref pa, .int mt, .int mh, .int 40, .int 0, .null, .int 0, .int 0])), (po, .inr (4, [.int 0, .ref G.1, .int 0])), (pi, .inr (4, [.int 0, .ref G.1, .int 0])), (bu, .inl (ci, 4, .inl (fun _ => 0)))] s.heap.size = A at hD hZ ⊢
  have hA : ∀ q : Nat, s.heap.size ≤ q → A q := fun q h => by rw [← hAe]; exact Or.inr h
  have hS : va_S A s.heap s.heap [] := va_S.rf
  have hl := lv_entry ([.ref mo, .int ii]) (n := 2) (Nat.le_of_ble_eq_true rfl)
  rw [lg_entry_eq]
  generalize (lg_sl ([.ref mo, .int ii]) ++ List.replicate (2 - (lg_sl ([.ref mo, .int ii])).length) Slot.unset).toArray = ls at hl ⊢
  have hl : lv_has ls 2 [(0, .ref mo), (1, .int ii)] := hl
  refine lv_aload_n hx hb dX11_days_0 rfl (lv_at hl 0 rfl) ?_
  refine lv_aload_n hx hb dX11_days_1 rfl (lv_at hl 0 rfl) ?_
  refine lv_iload_n hx hb dX11_days_2 rfl (lv_at hl 1 rfl) ?_
  refine lv_bipush (v := 60) hx hb dX11_days_3 (by decide) ?_
  have hFc := va_free (wc := [(mo, .inr (16, [.int th, .ref gl, .ref po, .ref pi, .ref bu, .ref pa, .int mt, .int mh, .int 40, .int 0, .null, .int 0, .int 0])), (pi, .inr (4, [.int 0, .ref G.1, .int 0])), (bu, .inl (ci, 4, .inl (fun _ => 0)))]) hD hS hA [0, 2, 3] rfl
  refine va_calli (va_runV (As := [.int ii, .int 60]) (rest := [.ref mo]) ⟨hx, hb, hml, hown, hts⟩ (zc_X11_whyNot l D G mo gl po pi bu pa th mh mt ci ii 60 s.heap.size) (cwV 2 hts gzX11_days_X11_whyNot_174 rfl rfl rfl (by decide +kernel) ⟨(Nat.le_of_ble_eq_true rfl), (Nat.le_of_ble_eq_true rfl)⟩) ⟨p_RW_blind, va_recv hK hP (ci := 16) (q0 := 0) rfl rfl, (p_RW_at (tc := [(ci, .int)]) (wc := [(mo, .inr (16, [.int th, .ref gl, .ref po, .ref pi, .ref bu, .ref pa, .int mt, .int mh, .int 40, .int 0, .null, .int 0, .int 0])), (pi, .inr (4, [.int 0, .ref G.1, .int 0])), (bu, .inl (ci, 4, .inl (fun _ => 0)))]) hP hK hD hS hA hT hZ [0, 2, 3] [0] rfl rfl (by decide) rfl [.ref mo, .int ii, .int 60])⟩ rfl rfl hl.1 rfl (lv_room (Nat.le_of_ble_eq_true rfl)) dX11_days_5 ⟨(Nat.le_of_ble_eq_true rfl), (Nat.le_of_ble_eq_true rfl)⟩) hS (fun q _ h => hFc q h) hFc (fun r_628 u t H locs ht hvm w_629 hB hz1 hk1 hS => ?_)
  obtain ⟨hP, hD, hK⟩ := q_join (D := D) (wc := [(mo, .inr (16, [.int th, .ref gl, .ref po, .ref pi, .ref bu, .ref pa, .int mt, .int mh, .int 40, .int 0, .null, .int 0, .int 0])), (pi, .inr (4, [.int 0, .ref G.1, .int 0])), (bu, .inl (ci, 4, .inl (fun _ => 0)))]) (wr := [(po, .inr (4, [.int 0, .ref G.1, .int 0]))]) (w1 := [(mo, .inr (16, [.int th, .ref gl, .ref po, .ref pi, .ref bu, .ref pa, .int mt, .int mh, .int 40, .int 0, .null, .int 0, .int 0])), (pi, .inr (4, [.int 0, .ref G.1, .int 0])), (bu, .inl (ci, 4, .inl (fun _ => 0)))]) (tyr := []) (ty1 := [(ci, .int)]) hP hD hK [0, 2, 3] [1] [] rfl rfl (by decide) (by decide) rfl hFc hk1 ht hvm hB
  have hP : va_P D vwCl [(po, .inr (4, [.int 0, .ref G.1, .int 0])), (mo, .inr (16, [.int th, .ref gl, .ref po, .ref pi, .ref bu, .ref pa, .int mt, .int mh, .int 40, .int 0, .null, .int 0, .int 0])), (pi, .inr (4, [.int 0, .ref G.1, .int 0])), (bu, .inl (ci, 4, .inl (fun _ => 0)))] H := hP
  have hD : va_D A [(po, .inr (4, [.int 0, .ref G.1, .int 0])), (mo, .inr (16, [.int th, .ref gl, .ref po, .ref pi, .ref bu, .ref pa, .int mt, .int mh, .int 40, .int 0, .null, .int 0, .int 0])), (pi, .inr (4, [.int 0, .ref G.1, .int 0])), (bu, .inl (ci, 4, .inl (fun _ => 0)))] := hD
  have hK : va_K D vwCl [(ci, .int)] s := hK
  refine W.widen (k := 1) (n := 4) (Nat.le_of_ble_eq_true rfl) (Nat.le_of_ble_eq_true rfl) ?_
  rcases w_629 with ⟨c_630, rfl⟩ | ⟨c_631, rfl⟩
  · refine va_put (D := D) (cl := vwCl) (ci := 16) (v := .int 0) (ty := .int) (C := RX11) (T := TX11) (N := 13) hx hb hts zuX11_days_X11 tyX11 tyX11_ok nmX11 hown hK hP hD hS 1 rfl rfl 0 (by decide) (hts (.fieldLink RX11 41 "GatherhouseModel" "thrown" "I") (by decide +kernel)) (fun _ h9 => h9) rfl (by decide +kernel) rfl rfl (Nat.le_of_ble_eq_true rfl) dX11_days_8 (fun H locs hP hD hS => ?_)
    have hP : va_P D vwCl [(po, .inr (4, [.int 0, .ref G.1, .int 0])), (mo, .inr (16, [.int 0, .ref gl, .ref po, .ref pi, .ref bu, .ref pa, .int mt, .int mh, .int 40, .int 0, .null, .int 0, .int 0])), (pi, .inr (4, [.int 0, .ref G.1, .int 0])), (bu, .inl (ci, 4, .inl (fun _ => 0)))] H := hP
    have hD : va_D A [(po, .inr (4, [.int 0, .ref G.1, .int 0])), (mo, .inr (16, [.int 0, .ref gl, .ref po, .ref pi, .ref bu, .ref pa, .int mt, .int mh, .int 40, .int 0, .null, .int 0, .int 0])), (pi, .inr (4, [.int 0, .ref G.1, .int 0])), (bu, .inl (ci, 4, .inl (fun _ => 0)))] := hD
    refine lv_aload_n hx hb dX11_days_11 rfl (lv_at hl 0 rfl) ?_
    refine va_get (D := D) (cl := vwCl) (ci := 16) (v := .int 0) (C := RX11) (T := TX11) (N := 13) hx hb hts zuX11_days_X11 hown hK hP 1 rfl rfl 0 (by decide) (hts (.fieldLink RX11 41 "GatherhouseModel" "thrown" "I") (by decide +kernel)) (fun _ h9 => h9) rfl dX11_days_12 ?_
    refine lv_if_le (tgt := 22) hx hb dX11_days_15 (by decide) (fun _ => ?_) (fun cc => absurd (by decide) cc)
    obtain ⟨n, hn, rfl⟩ := inR_n (h := 60) (by decide) c_630
    refine lv_aload_n hx hb dX11_days_22 rfl (lv_at hl 0 rfl) ?_
    refine lv_bipush (v := 24) hx hb dX11_days_23 (by decide) ?_
    refine lv_iload_n hx hb dX11_days_25 rfl (lv_at hl 1 rfl) ?_
    refine lv_imul hx hb dX11_days_26 ?_
    refine lv_topi (fun y_632 ey_632 => ?_)
    have ey_632 : y_632 = nI (24 * n) := ey_632.trans (pk_mul 24 n)
    subst ey_632
    refine lv_iconst (v := 1) hx hb dX11_days_27 (by decide) ?_
    have hFc := va_free (wc := [(mo, .inr (16, [.int 0, .ref gl, .ref po, .ref pi, .ref bu, .ref pa, .int mt, .int mh, .int 40, .int 0, .null, .int 0, .int 0])), (po, .inr (4, [.int 0, .ref G.1, .int 0])), (pi, .inr (4, [.int 0, .ref G.1, .int 0]))]) hD hS hA [1, 0, 2] rfl
    refine va_calli (va_runV (As := [.int (nI (24 * n)), .int 1]) (rest := []) ⟨hx, hb, hml, hown, hts⟩ (zc_X11_letGo l D G mo gl po pi bu pa 0 mh mt (24 * n) 1 H.size (by omega)) (cwV 2 hts gzX11_days_X11_letGo_177 rfl rfl rfl (by decide +kernel) ⟨(Nat.le_of_ble_eq_true rfl), (Nat.le_of_ble_eq_true rfl)⟩) ⟨p_RW_blind, va_recv hK hP (ci := 16) (q0 := 1) rfl rfl, (p_RW_at (tc := []) (wc := [(mo, .inr (16, [.int 0, .ref gl, .ref po, .ref pi, .ref bu, .ref pa, .int mt, .int mh, .int 40, .int 0, .null, .int 0, .int 0])), (po, .inr (4, [.int 0, .ref G.1, .int 0])), (pi, .inr (4, [.int 0, .ref G.1, .int 0]))]) hP hK hD hS hA hT hZ [1, 0, 2] [] rfl rfl (by decide) rfl [.ref mo, .int (nI (24 * n)), .int 1])⟩ rfl rfl hl.1 rfl (lv_room (Nat.le_of_ble_eq_true rfl)) dX11_days_28 ⟨(Nat.le_of_ble_eq_true rfl), (Nat.le_of_ble_eq_true rfl)⟩) hS (fun q _ h => hFc q h) hFc (fun r_633 u t H locs ht hvm w_634 hB hz1 hk1 hS => ?_)
    obtain ⟨u_635, rfl⟩ : ∃ z, z = u := ⟨_, rfl⟩
    obtain ⟨hP, hD, hK⟩ := q_join (D := D) (wc := [(mo, .inr (16, [.int 0, .ref gl, .ref po, .ref pi, .ref bu, .ref pa, .int mt, .int mh, .int 40, .int 0, .null, .int 0, .int 0])), (po, .inr (4, [.int 0, .ref G.1, .int 0])), (pi, .inr (4, [.int 0, .ref G.1, .int 0]))]) (wr := [(bu, .inl (ci, 4, .inl (fun _ => 0)))]) (w1 := [(mo, .inr (16, [.int 0, .ref gl, .ref po, .ref pi, .ref bu, .ref pa, .int mt, .int u_635, .int 40, .int 0, .null, .int 0, .int 0])), (po, .inr (4, [.int 0, .ref G.1, .int 0])), (pi, .inr (4, [.int 0, .ref G.1, .int 0]))]) (tyr := [(ci, .int)]) (ty1 := []) hP hD hK [1, 0, 2] [3] [0] rfl rfl (by decide) (by decide) rfl hFc hk1 ht hvm hB
    have hP : va_P D vwCl [(bu, .inl (ci, 4, .inl (fun _ => 0))), (mo, .inr (16, [.int 0, .ref gl, .ref po, .ref pi, .ref bu, .ref pa, .int mt, .int u_635, .int 40, .int 0, .null, .int 0, .int 0])), (po, .inr (4, [.int 0, .ref G.1, .int 0])), (pi, .inr (4, [.int 0, .ref G.1, .int 0]))] H := hP
    have hD : va_D A [(bu, .inl (ci, 4, .inl (fun _ => 0))), (mo, .inr (16, [.int 0, .ref gl, .ref po, .ref pi, .ref bu, .ref pa, .int mt, .int u_635, .int 40, .int 0, .null, .int 0, .int 0])), (po, .inr (4, [.int 0, .ref G.1, .int 0])), (pi, .inr (4, [.int 0, .ref G.1, .int 0]))] := hD
    have hK : va_K D vwCl [(ci, .int)] s := hK
    refine W.widen (k := 4321) (n := 17284) (Nat.le_of_ble_eq_true rfl) (Nat.le_of_ble_eq_true rfl) ?_
    obtain rfl := w_634
    exact W.iret (v := 0) hx hb hr (fun t ht hW => ⟨⟨0, (0, u_635), rfl, (by first | exact Or.inl (⟨(by first | assumption | exact inR_1 (by assumption) (by assumption) | exact inR_2 (by assumption) (by assumption) | exact inR_3 (by assumption) | exact inR_4 (by assumption) | exact inR_5 (by assumption) | exact ⟨by assumption, by assumption, by assumption, by assumption⟩ | exact ⟨by assumption, by assumption, by assumption⟩ | exact (fun q => absurd q.1 (by assumption)) | exact (fun q => absurd q.2.1 (by assumption)) | exact (fun q => absurd q.2.2 (by assumption)) | exact (fun q => absurd q.2.2.1 (by assumption)) | exact (fun q => absurd q.2.2.2 (by assumption)) | exact isRole_no (by assumption) (by assumption) (by assumption) (by assumption) | exact isRole_nb (by assumption) (by assumption) (by assumption) (by assumption) | exact isRole_out (by assumption) | exact enc_use (by assumption) (by assumption) (by assumption) | exact enc_103 (by assumption) | exact enc_103 (Eq.symm (by assumption)) | exact enc_115 (Eq.symm (by assumption)) | exact enc_102 (Eq.symm (by assumption)) | exact enc_98 (Eq.symm (by assumption)) | exact isRole_nc (by assumption) (by assumption) (by assumption) (by assumption) | exact enc_115 (by assumption) | exact enc_102 (by assumption) | exact enc_98 (by assumption) | exact Or.inr (by assumption) | rfl | exact Or.inl (by assumption) | exact Or.inr (Or.inl (by assumption)) | exact Or.inr (Or.inr (Or.inl (by assumption))) | exact Or.inr (Or.inr (Or.inr (by assumption))) | decide), rfl, (by first | rfl | assumption)⟩) | exact Or.inr (⟨(by first | assumption | exact inR_1 (by assumption) (by assumption) | exact inR_2 (by assumption) (by assumption) | exact inR_3 (by assumption) | exact inR_4 (by assumption) | exact inR_5 (by assumption) | exact ⟨by assumption, by assumption, by assumption, by assumption⟩ | exact ⟨by assumption, by assumption, by assumption⟩ | exact (fun q => absurd q.1 (by assumption)) | exact (fun q => absurd q.2.1 (by assumption)) | exact (fun q => absurd q.2.2 (by assumption)) | exact (fun q => absurd q.2.2.1 (by assumption)) | exact (fun q => absurd q.2.2.2 (by assumption)) | exact isRole_no (by assumption) (by assumption) (by assumption) (by assumption) | exact isRole_nb (by assumption) (by assumption) (by assumption) (by assumption) | exact isRole_out (by assumption) | exact enc_use (by assumption) (by assumption) (by assumption) | exact enc_103 (by assumption) | exact enc_103 (Eq.symm (by assumption)) | exact enc_115 (Eq.symm (by assumption)) | exact enc_102 (Eq.symm (by assumption)) | exact enc_98 (Eq.symm (by assumption)) | exact isRole_nc (by assumption) (by assumption) (by assumption) (by assumption) | exact enc_115 (by assumption) | exact enc_102 (by assumption) | exact enc_98 (by assumption) | exact Or.inr (by assumption) | rfl | exact Or.inl (by assumption) | exact Or.inr (Or.inl (by assumption)) | exact Or.inr (Or.inr (Or.inl (by assumption))) | exact Or.inr (Or.inr (Or.inr (by assumption))) | decide), rfl, (by first | rfl | assumption)⟩)), q_RW_mk hP hK hD [1] [0] rfl rfl (by decide) rfl ht hW.alike⟩, hS.F ht⟩) hS.2.2 dX11_days_31
  · refine va_put (D := D) (cl := vwCl) (ci := 16) (v := .int 1) (ty := .int) (C := RX11) (T := TX11) (N := 13) hx hb hts zuX11_days_X11 tyX11 tyX11_ok nmX11 hown hK hP hD hS 1 rfl rfl 0 (by decide) (hts (.fieldLink RX11 41 "GatherhouseModel" "thrown" "I") (by decide +kernel)) (fun _ h9 => h9) rfl (by decide +kernel) rfl rfl (Nat.le_of_ble_eq_true rfl) dX11_days_8 (fun H locs hP hD hS => ?_)
    have hP : va_P D vwCl [(po, .inr (4, [.int 0, .ref G.1, .int 0])), (mo, .inr (16, [.int 1, .ref gl, .ref po, .ref pi, .ref bu, .ref pa, .int mt, .int mh, .int 40, .int 0, .null, .int 0, .int 0])), (pi, .inr (4, [.int 0, .ref G.1, .int 0])), (bu, .inl (ci, 4, .inl (fun _ => 0)))] H := hP
    have hD : va_D A [(po, .inr (4, [.int 0, .ref G.1, .int 0])), (mo, .inr (16, [.int 1, .ref gl, .ref po, .ref pi, .ref bu, .ref pa, .int mt, .int mh, .int 40, .int 0, .null, .int 0, .int 0])), (pi, .inr (4, [.int 0, .ref G.1, .int 0])), (bu, .inl (ci, 4, .inl (fun _ => 0)))] := hD
    refine lv_aload_n hx hb dX11_days_11 rfl (lv_at hl 0 rfl) ?_
    refine va_get (D := D) (cl := vwCl) (ci := 16) (v := .int 1) (C := RX11) (T := TX11) (N := 13) hx hb hts zuX11_days_X11 hown hK hP 1 rfl rfl 0 (by decide) (hts (.fieldLink RX11 41 "GatherhouseModel" "thrown" "I") (by decide +kernel)) (fun _ h9 => h9) rfl dX11_days_12 ?_
    refine lv_if_le (tgt := 22) hx hb dX11_days_15 (by decide) (fun cc => absurd cc (by decide)) (fun _ => ?_)
    refine lv_iconst (v := 0) hx hb dX11_days_18 (by decide) ?_
    refine lv_goto (tgt := 31) hx hb dX11_days_19 (by decide) ?_
    refine W.widen (k := 4321) (n := 17284) (Nat.le_of_ble_eq_true rfl) (Nat.le_of_ble_eq_true rfl) ?_
    exact W.iret (v := 0) hx hb hr (fun t ht hW => ⟨⟨0, (1, mh), rfl, (by first | exact Or.inl (⟨(by first | assumption | exact inR_1 (by assumption) (by assumption) | exact inR_2 (by assumption) (by assumption) | exact inR_3 (by assumption) | exact inR_4 (by assumption) | exact inR_5 (by assumption) | exact ⟨by assumption, by assumption, by assumption, by assumption⟩ | exact ⟨by assumption, by assumption, by assumption⟩ | exact (fun q => absurd q.1 (by assumption)) | exact (fun q => absurd q.2.1 (by assumption)) | exact (fun q => absurd q.2.2 (by assumption)) | exact (fun q => absurd q.2.2.1 (by assumption)) | exact (fun q => absurd q.2.2.2 (by assumption)) | exact isRole_no (by assumption) (by assumption) (by assumption) (by assumption) | exact isRole_nb (by assumption) (by assumption) (by assumption) (by assumption) | exact isRole_out (by assumption) | exact enc_use (by assumption) (by assumption) (by assumption) | exact enc_103 (by assumption) | exact enc_103 (Eq.symm (by assumption)) | exact enc_115 (Eq.symm (by assumption)) | exact enc_102 (Eq.symm (by assumption)) | exact enc_98 (Eq.symm (by assumption)) | exact isRole_nc (by assumption) (by assumption) (by assumption) (by assumption) | exact enc_115 (by assumption) | exact enc_102 (by assumption) | exact enc_98 (by assumption) | exact Or.inr (by assumption) | rfl | exact Or.inl (by assumption) | exact Or.inr (Or.inl (by assumption)) | exact Or.inr (Or.inr (Or.inl (by assumption))) | exact Or.inr (Or.inr (Or.inr (by assumption))) | decide), rfl, (by first | rfl | assumption)⟩) | exact Or.inr (⟨(by first | assumption | exact inR_1 (by assumption) (by assumption) | exact inR_2 (by assumption) (by assumption) | exact inR_3 (by assumption) | exact inR_4 (by assumption) | exact inR_5 (by assumption) | exact ⟨by assumption, by assumption, by assumption, by assumption⟩ | exact ⟨by assumption, by assumption, by assumption⟩ | exact (fun q => absurd q.1 (by assumption)) | exact (fun q => absurd q.2.1 (by assumption)) | exact (fun q => absurd q.2.2 (by assumption)) | exact (fun q => absurd q.2.2.1 (by assumption)) | exact (fun q => absurd q.2.2.2 (by assumption)) | exact isRole_no (by assumption) (by assumption) (by assumption) (by assumption) | exact isRole_nb (by assumption) (by assumption) (by assumption) (by assumption) | exact isRole_out (by assumption) | exact enc_use (by assumption) (by assumption) (by assumption) | exact enc_103 (by assumption) | exact enc_103 (Eq.symm (by assumption)) | exact enc_115 (Eq.symm (by assumption)) | exact enc_102 (Eq.symm (by assumption)) | exact enc_98 (Eq.symm (by assumption)) | exact isRole_nc (by assumption) (by assumption) (by assumption) (by assumption) | exact enc_115 (by assumption) | exact enc_102 (by assumption) | exact enc_98 (by assumption) | exact Or.inr (by assumption) | rfl | exact Or.inl (by assumption) | exact Or.inr (Or.inl (by assumption)) | exact Or.inr (Or.inr (Or.inl (by assumption))) | exact Or.inr (Or.inr (Or.inr (by assumption))) | decide), rfl, (by first | rfl | assumption)⟩)), q_RW_mk hP hK hD [1] [0] rfl rfl (by decide) rfl ht hW.alike⟩, hS.F ht⟩) hS.2.2 dX11_days_31
theorem dX11_pass_0 : decode cX11_pass 0 = .ok (.aload_n 0, 1) := by decide +kernel
theorem dX11_pass_1 : decode cX11_pass 1 = .ok (.iload_n 1, 1) := by decide +kernel
theorem dX11_pass_2 : decode cX11_pass 2 = .ok (.iconst 1, 1) := by decide +kernel
theorem dX11_pass_3 : decode cX11_pass 3 = .ok (.sipush 600, 3) := by decide +kernel
theorem dX11_pass_6 : decode cX11_pass 6 = .ok (.invokestatic 47, 3) := by decide +kernel
theorem dX11_pass_9 : decode cX11_pass 9 = .ok (.ifCond .eq 7, 3) := by decide +kernel
theorem dX11_pass_12 : decode cX11_pass 12 = .ok (.iconst 0, 1) := by decide +kernel
theorem dX11_pass_13 : decode cX11_pass 13 = .ok (.goto 4, 3) := by decide +kernel
theorem dX11_pass_17 : decode cX11_pass 17 = .ok (.putfield 41, 3) := by decide +kernel
theorem dX11_pass_20 : decode cX11_pass 20 = .ok (.iconst 0, 1) := by decide +kernel
theorem dX11_pass_21 : decode cX11_pass 21 = .ok (.istore_n 2, 1) := by decide +kernel
theorem dX11_pass_22 : decode cX11_pass 22 = .ok (.iconst 0, 1) := by decide +kernel
theorem dX11_pass_23 : decode cX11_pass 23 = .ok (.istore_n 3, 1) := by decide +kernel
theorem dX11_pass_24 : decode cX11_pass 24 = .ok (.iload_n 3, 1) := by decide +kernel
theorem dX11_pass_25 : decode cX11_pass 25 = .ok (.iload_n 1, 1) := by decide +kernel
theorem dX11_pass_26 : decode cX11_pass 26 = .ok (.if_icmp .ge 23, 3) := by decide +kernel
theorem dX11_pass_29 : decode cX11_pass 29 = .ok (.aload_n 0, 1) := by decide +kernel
theorem dX11_pass_30 : decode cX11_pass 30 = .ok (.getfield 41, 3) := by decide +kernel
theorem dX11_pass_33 : decode cX11_pass 33 = .ok (.ifCond .ne 16, 3) := by decide +kernel
theorem dX11_pass_36 : decode cX11_pass 36 = .ok (.iload_n 2, 1) := by decide +kernel
theorem dX11_pass_37 : decode cX11_pass 37 = .ok (.aload_n 0, 1) := by decide +kernel
theorem dX11_pass_38 : decode cX11_pass 38 = .ok (.invokevirtual 199, 3) := by decide +kernel
theorem dX11_pass_41 : decode cX11_pass 41 = .ok (.iadd, 1) := by decide +kernel
theorem dX11_pass_42 : decode cX11_pass 42 = .ok (.istore_n 2, 1) := by decide +kernel
theorem dX11_pass_43 : decode cX11_pass 43 = .ok (.iinc 3 1, 3) := by decide +kernel
theorem dX11_pass_46 : decode cX11_pass 46 = .ok (.goto (-22), 3) := by decide +kernel
theorem dX11_pass_49 : decode cX11_pass 49 = .ok (.iload_n 2, 1) := by decide +kernel
theorem dX11_pass_50 : decode cX11_pass 50 = .ok (.ireturn, 1) := by decide +kernel
theorem dX11_pass_16 : decode cX11_pass 16 = .ok (.iconst 1, 1) := by decide +kernel
def wzEX11_pass : List Cond := [.code yX11_pass cX11_pass 4 (some .int), .methodLink RX11 47 yX11_in, .static yX11_in, .initialized RX11, .code yX11_in cX11_in 3 (some .boolean), .fieldLink RX11 41 "GatherhouseModel" "thrown" "I", .methodLink RX11 199 yX11_second, .instanceMethod yX11_second, .selects RX11 yX11_second yX11_second, .code yX11_second cX11_second 4 (some .int), .fieldLink RX11 187 "GatherhouseModel" "time" "I", .fieldLink RX11 19 "GatherhouseModel" "pieces" "Ljava/util/ArrayList;", .methodLink RX11 106 yJx4a65c_iterator_32c93, .instanceMethod yJx4a65c_iterator_32c93, .selects RJx4a65c yJx4a65c_iterator_32c93 yJx4a65c_iterator_32c93, .initialized RJx4a65c, .code yJx4a65c_iterator_32c93 cJx4a65c_iterator_32c93 1 (some (.object "java/util/Iterator")), .classLink RJx4a65c 267 RJx35411, .instantiable RJx35411 4, .initialized RJx35411, .code yJx35411_init_45d68 cJx35411_init_45d68 2 none, .fieldLink RJx35411 1 "java/util/ArrayList$Itr" "this$0" "Ljava/util/ArrayList;", .methodLink RJx35411 7 objectInit, .instanceMethod objectInit, .code objectInit ⟨#[0xb1]⟩ 1 none, .fieldLink RJx35411 13 "java/util/ArrayList$Itr" "lastRet" "I", .sameField "java/util/ArrayList" "java/util/AbstractList" "modCount" "I", .fieldLink RJx35411 17 "java/util/ArrayList" "modCount" "I", .fieldLink RJx35411 22 "java/util/ArrayList$Itr" "expectedModCount" "I", .instanceMethod yJx35411_init_45d68, .methodLink RJx4a65c 269 yJx35411_init_45d68, .methodLink RX11 110 ⟨"java/util/Iterator", "hasNext", "()Z"⟩, .selects RJx35411 ⟨"java/util/Iterator", "hasNext", "()Z"⟩ yJx35411_hasNext_aae02, .instanceMethod yJx35411_hasNext_aae02, .code yJx35411_hasNext_aae02 cJx35411_hasNext_aae02 1 (some .boolean), .fieldLink RJx35411 25 "java/util/ArrayList$Itr" "cursor" "I", .fieldLink RX11 30 "GatherhouseModel" "busy" "[I", .methodLink RX11 120 Lib.Math.max.name, .static Lib.Math.max.name, .initialized "java/lang/Math", .code Lib.Math.max.name Lib.Math.max.code 2 (some .int)]
def wzX11_pass : List Cond := wzEX11_pass ++ (u_ws RX11 TX11 13 ++ (u_ws RJx35411 TJx35411 4 ++ (u_ws RJx4a65c TJx4a65c 3)))
theorem zgEX11_pass : wzEX11_pass.all goodWord = true := by decide +kernel
theorem zuX11_pass_X11 : ∀ w ∈ u_ws RX11 TX11 13, w ∈ wzX11_pass := (fun _ h => (List.mem_append_right _ (List.mem_append_left _ h)))
theorem zuX11_pass_Jx35411 : ∀ w ∈ u_ws RJx35411 TJx35411 4, w ∈ wzX11_pass := (fun _ h => (List.mem_append_right _ (List.mem_append_right _ (List.mem_append_left _ h))))
theorem zuX11_pass_Jx4a65c : ∀ w ∈ u_ws RJx4a65c TJx4a65c 3, w ∈ wzX11_pass := (fun _ h => (List.mem_append_right _ (List.mem_append_right _ (List.mem_append_right _ h))))
theorem gzX11_pass_X11_in_47 : GoodIn wzX11_pass (va_wsS RX11 47 yX11_in wzX11_in) := (goodIn_app (z_lift (goodIn_r _ [1, 2, 3] rfl (by decide +kernel))) (goodIn_app (z_lift (goodIn_r wzEX11_in [4] rfl zgEX11_in)) z_gnil))
theorem gzX11_pass_X11_second_199 : GoodIn wzX11_pass (wsV RX11 199 RX11 yX11_second wzX11_second) := (goodIn_app (z_lift (goodIn_r _ [6, 7, 8, 3] rfl (by decide +kernel))) (goodIn_app (z_lift (goodIn_r wzEX11_second [9, 10, 11, 12, 13, 14, 15, 16, 17, 18, 19, 20, 21, 22, 23, 24, 25, 26, 27, 28, 29, 30, 31, 32, 33, 34, 35, 36, 37, 38, 39, 40] rfl zgEX11_second)) (goodIn_app (goodIn_sub (fun _ h => (List.mem_append_right _ (List.mem_append_left _ h))) zgU_X11) (goodIn_app (goodIn_sub (fun _ h => (List.mem_append_right _ (List.mem_append_right _ (List.mem_append_left _ h)))) zgU_Jx35411) (goodIn_sub (fun _ h => (List.mem_append_right _ (List.mem_append_right _ (List.mem_append_right _ h)))) zgU_Jx4a65c)))))
set_option maxHeartbeats 4000000 in
set_option maxRecDepth 100000 in
theorem zc_X11_pass (l : Launch) (D : va_G) (G : Nat × Nat × Nat) (mo : Nat) (gl : Nat) (po : Nat) (pi : Nat) (bu : Nat) (pa : Nat) (th : Int32) (mh : Int32) (mt : Int32) (ci : ClassId) (ii : Int32) (sz : Nat) : Met l yX11_pass wzX11_pass ({ frames := 4, cells := 600, slots := 2400, locals := 76 }) (va_Pc [.ref mo, .int ii] (p_RW D G [(ci, .int)] [(mo, .inr (16, [.int th, .ref gl, .ref po, .ref pi, .ref bu, .ref pa, .int mt, .int mh, .int 40, .int 0, .null, .int 0, .int 0])), (pi, .inr (4, [.int 0, .ref G.1, .int 0])), (bu, .inl (ci, 4, .inl (fun _ => 0)))] sz)) (va_Qi (fun (r : Int32) (u : Int32 × Int32) => match u with | (u1, hv) => (inR ii 1 600 ∧ r = 0 ∧ u1 = 0) ∨ (¬ inR ii 1 600 ∧ r = 0 ∧ u1 = 1)) (fun (u : Int32 × Int32) (t : State) => match u with | (u1, hv) => q_RW D [(ci, .int)] [(mo, .inr (16, [.int u1, .ref gl, .ref po, .ref pi, .ref bu, .ref pa, .int hv, .int mh, .int 40, .int 0, .null, .int 0, .int 0]))] (va_A [(mo, .inr (16, [.int th, .ref gl, .ref po, .ref pi, .ref bu, .ref pa, .int mt, .int mh, .int 40, .int 0, .null, .int 0, .int 0])), (pi, .inr (4, [.int 0, .ref G.1, .int 0])), (bu, .inl (ci, 4, .inl (fun _ => 0)))] sz) t) (va_A [(mo, .inr (16, [.int th, .ref gl, .ref po, .ref pi, .ref bu, .ref pa, .int mt, .int mh, .int 40, .int 0, .null, .int 0, .int 0])), (pi, .inr (4, [.int 0, .ref G.1, .int 0])), (bu, .inl (ci, 4, .inl (fun _ => 0)))] sz)) 600 2400 (va_A [(mo, .inr (16, [.int th, .ref gl, .ref po, .ref pi, .ref bu, .ref pa, .int mt, .int mh, .int 40, .int 0, .null, .int 0, .int 0])), (pi, .inr (4, [.int 0, .ref G.1, .int 0])), (bu, .inl (ci, 4, .inl (fun _ => 0)))] sz) := by
  refine Met.ofW (cc := cX11_pass) (maxL := 4) (ret := (some .int)) (by decide) rfl ?_
  intro p e s m args below meth c s₁ B hml hv
  obtain ⟨rfl, hsz, hP, hK, hD0, hT, hZ⟩ := hv
  have hx := B.exec
  have hb := B.bytes
  have hr := B.returns
  have hts := atoms_spec (ws := wzX11_pass) B.pre
  have hown : s.vm.findClass RX11 = some m.cls := findClass_of_methodNamed B.named
  have hlocks := B.notSynchronized
  subst hsz
  have hD := hD0.self (sz := s.heap.size)
  generalize hAe : va_A [(mo, .inr (16, [.int th, .ref gl, .ref po, .ref pi, .ref bu, .ref pa, .int mt, .int mh, .int 40, .int 0, .null, .int 0, .int 0])), (pi, .inr (4, [.int 0, .ref G.1, .int 0])), (bu, .inl (ci, 4, .inl (fun _ => 0)))] s.heap.size = A at hD hZ ⊢
  have hA : ∀ q : Nat, s.heap.size ≤ q → A q := fun q h => by rw [← hAe]; exact Or.inr h
  have hS : va_S A s.heap s.heap [] := va_S.rf
  have hl := lv_entry ([.ref mo, .int ii]) (n := 4) (Nat.le_of_ble_eq_true rfl)
  rw [lg_entry_eq]
  generalize (lg_sl ([.ref mo, .int ii]) ++ List.replicate (4 - (lg_sl ([.ref mo, .int ii])).length) Slot.unset).toArray = ls at hl ⊢
  have hl : lv_has ls 4 [(0, .ref mo), (1, .int ii)] := hl
  refine lv_aload_n hx hb dX11_pass_0 rfl (lv_at hl 0 rfl) ?_
  refine lv_iload_n hx hb dX11_pass_1 rfl (lv_at hl 1 rfl) ?_
  refine lv_iconst (v := 1) hx hb dX11_pass_2 (by decide) ?_
  refine lv_sipush (v := 600) hx hb dX11_pass_3 (by decide) ?_
  refine vp_callSi (va_runS (As := [.int ii, .int 1, .int 600]) (rest := [.ref mo]) ⟨hx, hb, hml, hown, hts⟩ (zc_X11_in l D G ii 1 600) (cwS 3 hts gzX11_pass_X11_in_47 rfl rfl rfl (by decide +kernel) ⟨(Nat.le_of_ble_eq_true rfl), (Nat.le_of_ble_eq_true rfl)⟩) ⟨p_RO_blind, (p_RO_at (tc := []) (wc := []) hP hK hT [] [] rfl rfl [.int ii, .int 1, .int 600])⟩ rfl rfl hl.1 rfl (lv_room (Nat.le_of_ble_eq_true rfl)) dX11_pass_6 ⟨(Nat.le_of_ble_eq_true rfl), (Nat.le_of_ble_eq_true rfl)⟩).run (fun r_636 w_637 => ?_)
  rcases w_637 with ⟨c_638, rfl⟩ | ⟨c_639, rfl⟩
  · refine lv_if_eq (tgt := 16) hx hb dX11_pass_9 (by decide) (fun cc => absurd cc (by decide)) (fun _ => ?_)
    refine lv_iconst (v := 0) hx hb dX11_pass_12 (by decide) ?_
    refine lv_goto (tgt := 17) hx hb dX11_pass_13 (by decide) ?_
    refine va_put (D := D) (cl := vwCl) (ci := 16) (v := .int 0) (ty := .int) (C := RX11) (T := TX11) (N := 13) hx hb hts zuX11_pass_X11 tyX11 tyX11_ok nmX11 hown hK hP hD hS 0 rfl rfl 0 (by decide) (hts (.fieldLink RX11 41 "GatherhouseModel" "thrown" "I") (by decide +kernel)) (fun _ h9 => h9) rfl (by decide +kernel) rfl rfl (Nat.le_of_ble_eq_true rfl) dX11_pass_17 (fun H locs hP hD hS => ?_)
    have hP : va_P D vwCl [(mo, .inr (16, [.int 0, .ref gl, .ref po, .ref pi, .ref bu, .ref pa, .int mt, .int mh, .int 40, .int 0, .null, .int 0, .int 0])), (pi, .inr (4, [.int 0, .ref G.1, .int 0])), (bu, .inl (ci, 4, .inl (fun _ => 0)))] H := hP
    have hD : va_D A [(mo, .inr (16, [.int 0, .ref gl, .ref po, .ref pi, .ref bu, .ref pa, .int mt, .int mh, .int 40, .int 0, .null, .int 0, .int 0])), (pi, .inr (4, [.int 0, .ref G.1, .int 0])), (bu, .inl (ci, 4, .inl (fun _ => 0)))] := hD
    refine lv_iconst (v := 0) hx hb dX11_pass_20 (by decide) ?_
    refine lv_istore_n (lv' := [(2, .int 0), (0, .ref mo), (1, .int ii)]) hx hb dX11_pass_21 rfl hl (by decide) rfl (fun ls hl => ?_)
    obtain ⟨n, hn, rfl⟩ := inR_n (h := 600) (by decide) c_638
    refine lv_iconst (v := 0) hx hb dX11_pass_22 (by decide) ?_
    refine lv_istore_n (lv' := [(3, .int 0), (2, .int 0), (0, .ref mo), (1, .int (nI n))]) hx hb dX11_pass_23 rfl hl (by decide) rfl (fun ls hl => ?_)
    refine z_loop (fun (k : Nat) (hv : Int32) (H : Heap) (locs : List Loc) (ls : Array Slot) => va_P D vwCl [(mo, .inr (16, [.int 0, .ref gl, .ref po, .ref pi, .ref bu, .ref pa, .int hv, .int mh, .int 40, .int 0, .null, .int 0, .int 0])), (pi, .inr (4, [.int 0, .ref G.1, .int 0])), (bu, .inl (ci, 4, .inl (fun _ => 0)))] H ∧ va_D A [(mo, .inr (16, [.int 0, .ref gl, .ref po, .ref pi, .ref bu, .ref pa, .int hv, .int mh, .int 40, .int 0, .null, .int 0, .int 0])), (pi, .inr (4, [.int 0, .ref G.1, .int 0])), (bu, .inl (ci, 4, .inl (fun _ => 0)))] ∧ va_S A s.heap H locs ∧ lv_has ls 4 [(3, .int (nI k)), (2, .int 0), (0, .ref mo), (1, .int (nI n))]) (fun (k : Nat) (H : Heap) (locs : List Loc) (ls : Array Slot) => W p l e _ s m _ below meth c H locs (0 + 1 * k) (0 + 4 * k) _ (F0 m 24 ls [])) (n) ?_ ?_ (n) 0 (by omega) mt H _ ls ⟨hP, hD, hS, hl⟩
    · intro k hk ih hv H locs ls hp
      obtain ⟨hP, hD, hS, hl⟩ := hp
      refine lv_iload_n hx hb dX11_pass_24 rfl (lv_at hl 0 rfl) ?_
      refine lv_iload_n hx hb dX11_pass_25 rfl (lv_at hl 3 rfl) ?_
      refine lv_icmp_ge (tgt := 49) hx hb dX11_pass_26 (by decide) (fun cc => absurd cc (nI_ge hk (by omega))) (fun _ => ?_)
      refine lv_aload_n hx hb dX11_pass_29 rfl (lv_at hl 2 rfl) ?_
      refine va_get (D := D) (cl := vwCl) (ci := 16) (v := .int 0) (C := RX11) (T := TX11) (N := 13) hx hb hts zuX11_pass_X11 hown hK hP 0 rfl rfl 0 (by decide) (hts (.fieldLink RX11 41 "GatherhouseModel" "thrown" "I") (by decide +kernel)) (fun _ h9 => h9) rfl dX11_pass_30 ?_
      refine lv_if_ne (tgt := 49) hx hb dX11_pass_33 (by decide) (fun cc => absurd (by decide) cc) (fun _ => ?_)
      refine lv_iload_n hx hb dX11_pass_36 rfl (lv_at hl 1 rfl) ?_
      refine lv_aload_n hx hb dX11_pass_37 rfl (lv_at hl 2 rfl) ?_
      have hFc := va_free (wc := [(mo, .inr (16, [.int 0, .ref gl, .ref po, .ref pi, .ref bu, .ref pa, .int hv, .int mh, .int 40, .int 0, .null, .int 0, .int 0])), (pi, .inr (4, [.int 0, .ref G.1, .int 0])), (bu, .inl (ci, 4, .inl (fun _ => 0)))]) hD hS hA [0, 1, 2] rfl
      refine va_calli (va_runV (As := []) (rest := [.int 0]) ⟨hx, hb, hml, hown, hts⟩ (zc_X11_second l D G mo gl po pi bu pa 0 mh hv ci H.size) (cwV 0 hts gzX11_pass_X11_second_199 rfl rfl rfl (by decide +kernel) ⟨(Nat.le_of_ble_eq_true rfl), (Nat.le_of_ble_eq_true rfl)⟩) ⟨p_RW_blind, va_recv hK hP (ci := 16) (q0 := 0) rfl rfl, (p_RW_at (tc := [(ci, .int)]) (wc := [(mo, .inr (16, [.int 0, .ref gl, .ref po, .ref pi, .ref bu, .ref pa, .int hv, .int mh, .int 40, .int 0, .null, .int 0, .int 0])), (pi, .inr (4, [.int 0, .ref G.1, .int 0])), (bu, .inl (ci, 4, .inl (fun _ => 0)))]) hP hK hD hS hA hT hZ [0, 1, 2] [0] rfl rfl (by decide) rfl [.ref mo])⟩ rfl rfl hl.1 rfl (lv_room (Nat.le_of_ble_eq_true rfl)) dX11_pass_38 ⟨by show 0 + 1 * k + 1 ≤ 600; omega, by show 0 + 4 * k + 4 ≤ 2400; omega⟩) hS (fun q _ h => hFc q h) hFc (fun r_640 u t H locs ht hvm w_641 hB hz1 hk1 hS => ?_)
      obtain ⟨hP, hD, hK⟩ := q_join (D := D) (wc := [(mo, .inr (16, [.int 0, .ref gl, .ref po, .ref pi, .ref bu, .ref pa, .int hv, .int mh, .int 40, .int 0, .null, .int 0, .int 0])), (pi, .inr (4, [.int 0, .ref G.1, .int 0])), (bu, .inl (ci, 4, .inl (fun _ => 0)))]) (wr := []) (w1 := [(mo, .inr (16, [.int 0, .ref gl, .ref po, .ref pi, .ref bu, .ref pa, .int (hv + 1), .int mh, .int 40, .int 0, .null, .int 0, .int 0])), (pi, .inr (4, [.int 0, .ref G.1, .int 0])), (bu, .inl (ci, 4, .inl (fun _ => 0)))]) (tyr := []) (ty1 := [(ci, .int)]) hP hD hK [0, 1, 2] [] [] rfl rfl (by decide) (by decide) rfl hFc hk1 ht hvm hB
      have hP : va_P D vwCl [(mo, .inr (16, [.int 0, .ref gl, .ref po, .ref pi, .ref bu, .ref pa, .int (hv + 1), .int mh, .int 40, .int 0, .null, .int 0, .int 0])), (pi, .inr (4, [.int 0, .ref G.1, .int 0])), (bu, .inl (ci, 4, .inl (fun _ => 0)))] H := hP
      have hD : va_D A [(mo, .inr (16, [.int 0, .ref gl, .ref po, .ref pi, .ref bu, .ref pa, .int (hv + 1), .int mh, .int 40, .int 0, .null, .int 0, .int 0])), (pi, .inr (4, [.int 0, .ref G.1, .int 0])), (bu, .inl (ci, 4, .inl (fun _ => 0)))] := hD
      have hK : va_K D vwCl [(ci, .int)] s := hK
      refine W.widen (k := 0 + 1 * k + 1) (n := 0 + 4 * k + 4) (by omega) (by omega) ?_
      obtain rfl := w_641
      refine lv_iadd hx hb dX11_pass_41 ?_
      refine lv_topi (fun y_642 ey_642 => ?_)
      have ey_642 : y_642 = 0 := ey_642.trans (by decide +kernel)
      subst ey_642
      refine lv_istore_n (lv' := [(2, .int 0), (3, .int (nI k)), (0, .ref mo), (1, .int (nI n))]) hx hb dX11_pass_42 rfl hl (by decide) rfl (fun ls hl => ?_)
      refine lv_iinc (v := nI (k + 1)) (lv' := [(3, .int (nI (k + 1))), (2, .int 0), (0, .ref mo), (1, .int (nI n))]) hx hb dX11_pass_43 hl (k := 1) rfl (show nI k + Int32.ofInt 1 = nI (k + 1) from nI_1 k) (by decide) rfl (fun ls hl => ?_)
      refine lv_goto (tgt := 24) hx hb dX11_pass_46 (by decide) ?_
      refine W.widen (k := 0 + 1 * (k + 1)) (n := 0 + 4 * (k + 1)) (by omega) (by omega) ?_
      exact ih (hv + 1) _ _ _ ⟨hP, hD, hS, lv_sub hl [0, 1, 2, 3] rfl⟩
    · intro hv H locs ls hp
      obtain ⟨hP, hD, hS, hl⟩ := hp
      refine lv_iload_n hx hb dX11_pass_24 rfl (lv_at hl 0 rfl) ?_
      refine lv_iload_n hx hb dX11_pass_25 rfl (lv_at hl 3 rfl) ?_
      refine lv_icmp_ge (tgt := 49) hx hb dX11_pass_26 (by decide) (fun _ => ?_) (fun cc => absurd (nI_le (Nat.le_refl _) (by omega)) cc)
      refine lv_iload_n hx hb dX11_pass_49 rfl (lv_at hl 1 rfl) ?_
      refine W.widen (k := 600) (n := 2400) (by omega) (by omega) ?_
      exact W.iret (v := 0) hx hb hr (fun t ht hW => ⟨⟨0, (0, hv), rfl, (by first | exact Or.inl (⟨(by first | assumption | exact inR_1 (by assumption) (by assumption) | exact inR_2 (by assumption) (by assumption) | exact inR_3 (by assumption) | exact inR_4 (by assumption) | exact inR_5 (by assumption) | exact ⟨by assumption, by assumption, by assumption, by assumption⟩ | exact ⟨by assumption, by assumption, by assumption⟩ | exact (fun q => absurd q.1 (by assumption)) | exact (fun q => absurd q.2.1 (by assumption)) | exact (fun q => absurd q.2.2 (by assumption)) | exact (fun q => absurd q.2.2.1 (by assumption)) | exact (fun q => absurd q.2.2.2 (by assumption)) | exact isRole_no (by assumption) (by assumption) (by assumption) (by assumption) | exact isRole_nb (by assumption) (by assumption) (by assumption) (by assumption) | exact isRole_out (by assumption) | exact enc_use (by assumption) (by assumption) (by assumption) | exact enc_103 (by assumption) | exact enc_103 (Eq.symm (by assumption)) | exact enc_115 (Eq.symm (by assumption)) | exact enc_102 (Eq.symm (by assumption)) | exact enc_98 (Eq.symm (by assumption)) | exact isRole_nc (by assumption) (by assumption) (by assumption) (by assumption) | exact enc_115 (by assumption) | exact enc_102 (by assumption) | exact enc_98 (by assumption) | exact Or.inr (by assumption) | rfl | exact Or.inl (by assumption) | exact Or.inr (Or.inl (by assumption)) | exact Or.inr (Or.inr (Or.inl (by assumption))) | exact Or.inr (Or.inr (Or.inr (by assumption))) | decide), rfl, (by first | rfl | assumption)⟩) | exact Or.inr (⟨(by first | assumption | exact inR_1 (by assumption) (by assumption) | exact inR_2 (by assumption) (by assumption) | exact inR_3 (by assumption) | exact inR_4 (by assumption) | exact inR_5 (by assumption) | exact ⟨by assumption, by assumption, by assumption, by assumption⟩ | exact ⟨by assumption, by assumption, by assumption⟩ | exact (fun q => absurd q.1 (by assumption)) | exact (fun q => absurd q.2.1 (by assumption)) | exact (fun q => absurd q.2.2 (by assumption)) | exact (fun q => absurd q.2.2.1 (by assumption)) | exact (fun q => absurd q.2.2.2 (by assumption)) | exact isRole_no (by assumption) (by assumption) (by assumption) (by assumption) | exact isRole_nb (by assumption) (by assumption) (by assumption) (by assumption) | exact isRole_out (by assumption) | exact enc_use (by assumption) (by assumption) (by assumption) | exact enc_103 (by assumption) | exact enc_103 (Eq.symm (by assumption)) | exact enc_115 (Eq.symm (by assumption)) | exact enc_102 (Eq.symm (by assumption)) | exact enc_98 (Eq.symm (by assumption)) | exact isRole_nc (by assumption) (by assumption) (by assumption) (by assumption) | exact enc_115 (by assumption) | exact enc_102 (by assumption) | exact enc_98 (by assumption) | exact Or.inr (by assumption) | rfl | exact Or.inl (by assumption) | exact Or.inr (Or.inl (by assumption)) | exact Or.inr (Or.inr (Or.inl (by assumption))) | exact Or.inr (Or.inr (Or.inr (by assumption))) | decide), rfl, (by first | rfl | assumption)⟩)), q_RW_mk hP hK hD [0] [0] rfl rfl (by decide) rfl ht hW.alike⟩, hS.F ht⟩) hS.2.2 dX11_pass_50
  · refine lv_if_eq (tgt := 16) hx hb dX11_pass_9 (by decide) (fun _ => ?_) (fun cc => absurd (by decide) cc)
    refine lv_iconst (v := 1) hx hb dX11_pass_16 (by decide) ?_
    refine va_put (D := D) (cl := vwCl) (ci := 16) (v := .int 1) (ty := .int) (C := RX11) (T := TX11) (N := 13) hx hb hts zuX11_pass_X11 tyX11 tyX11_ok nmX11 hown hK hP hD hS 0 rfl rfl 0 (by decide) (hts (.fieldLink RX11 41 "GatherhouseModel" "thrown" "I") (by decide +kernel)) (fun _ h9 => h9) rfl (by decide +kernel) rfl rfl (Nat.le_of_ble_eq_true rfl) dX11_pass_17 (fun H locs hP hD hS => ?_)
    have hP : va_P D vwCl [(mo, .inr (16, [.int 1, .ref gl, .ref po, .ref pi, .ref bu, .ref pa, .int mt, .int mh, .int 40, .int 0, .null, .int 0, .int 0])), (pi, .inr (4, [.int 0, .ref G.1, .int 0])), (bu, .inl (ci, 4, .inl (fun _ => 0)))] H := hP
    have hD : va_D A [(mo, .inr (16, [.int 1, .ref gl, .ref po, .ref pi, .ref bu, .ref pa, .int mt, .int mh, .int 40, .int 0, .null, .int 0, .int 0])), (pi, .inr (4, [.int 0, .ref G.1, .int 0])), (bu, .inl (ci, 4, .inl (fun _ => 0)))] := hD
    refine lv_iconst (v := 0) hx hb dX11_pass_20 (by decide) ?_
    refine lv_istore_n (lv' := [(2, .int 0), (0, .ref mo), (1, .int ii)]) hx hb dX11_pass_21 rfl hl (by decide) rfl (fun ls hl => ?_)
    refine lv_iconst (v := 0) hx hb dX11_pass_22 (by decide) ?_
    refine lv_istore_n (lv' := [(3, .int 0), (2, .int 0), (0, .ref mo), (1, .int ii)]) hx hb dX11_pass_23 rfl hl (by decide) rfl (fun ls hl => ?_)
    refine lv_iload_n hx hb dX11_pass_24 rfl (lv_at hl 0 rfl) ?_
    refine lv_iload_n hx hb dX11_pass_25 rfl (lv_at hl 3 rfl) ?_
    refine lv_icmp_ge (tgt := 49) hx hb dX11_pass_26 (by decide) (fun c_643 => ?_) (fun c_643 => ?_)
    · refine lv_iload_n hx hb dX11_pass_49 rfl (lv_at hl 1 rfl) ?_
      refine W.widen (k := 600) (n := 2400) (Nat.le_of_ble_eq_true rfl) (Nat.le_of_ble_eq_true rfl) ?_
      exact W.iret (v := 0) hx hb hr (fun t ht hW => ⟨⟨0, (1, mt), rfl, (by first | exact Or.inl (⟨(by first | assumption | exact inR_1 (by assumption) (by assumption) | exact inR_2 (by assumption) (by assumption) | exact inR_3 (by assumption) | exact inR_4 (by assumption) | exact inR_5 (by assumption) | exact ⟨by assumption, by assumption, by assumption, by assumption⟩ | exact ⟨by assumption, by assumption, by assumption⟩ | exact (fun q => absurd q.1 (by assumption)) | exact (fun q => absurd q.2.1 (by assumption)) | exact (fun q => absurd q.2.2 (by assumption)) | exact (fun q => absurd q.2.2.1 (by assumption)) | exact (fun q => absurd q.2.2.2 (by assumption)) | exact isRole_no (by assumption) (by assumption) (by assumption) (by assumption) | exact isRole_nb (by assumption) (by assumption) (by assumption) (by assumption) | exact isRole_out (by assumption) | exact enc_use (by assumption) (by assumption) (by assumption) | exact enc_103 (by assumption) | exact enc_103 (Eq.symm (by assumption)) | exact enc_115 (Eq.symm (by assumption)) | exact enc_102 (Eq.symm (by assumption)) | exact enc_98 (Eq.symm (by assumption)) | exact isRole_nc (by assumption) (by assumption) (by assumption) (by assumption) | exact enc_115 (by assumption) | exact enc_102 (by assumption) | exact enc_98 (by assumption) | exact Or.inr (by assumption) | rfl | exact Or.inl (by assumption) | exact Or.inr (Or.inl (by assumption)) | exact Or.inr (Or.inr (Or.inl (by assumption))) | exact Or.inr (Or.inr (Or.inr (by assumption))) | decide), rfl, (by first | rfl | assumption)⟩) | exact Or.inr (⟨(by first | assumption | exact inR_1 (by assumption) (by assumption) | exact inR_2 (by assumption) (by assumption) | exact inR_3 (by assumption) | exact inR_4 (by assumption) | exact inR_5 (by assumption) | exact ⟨by assumption, by assumption, by assumption, by assumption⟩ | exact ⟨by assumption, by assumption, by assumption⟩ | exact (fun q => absurd q.1 (by assumption)) | exact (fun q => absurd q.2.1 (by assumption)) | exact (fun q => absurd q.2.2 (by assumption)) | exact (fun q => absurd q.2.2.1 (by assumption)) | exact (fun q => absurd q.2.2.2 (by assumption)) | exact isRole_no (by assumption) (by assumption) (by assumption) (by assumption) | exact isRole_nb (by assumption) (by assumption) (by assumption) (by assumption) | exact isRole_out (by assumption) | exact enc_use (by assumption) (by assumption) (by assumption) | exact enc_103 (by assumption) | exact enc_103 (Eq.symm (by assumption)) | exact enc_115 (Eq.symm (by assumption)) | exact enc_102 (Eq.symm (by assumption)) | exact enc_98 (Eq.symm (by assumption)) | exact isRole_nc (by assumption) (by assumption) (by assumption) (by assumption) | exact enc_115 (by assumption) | exact enc_102 (by assumption) | exact enc_98 (by assumption) | exact Or.inr (by assumption) | rfl | exact Or.inl (by assumption) | exact Or.inr (Or.inl (by assumption)) | exact Or.inr (Or.inr (Or.inl (by assumption))) | exact Or.inr (Or.inr (Or.inr (by assumption))) | decide), rfl, (by first | rfl | assumption)⟩)), q_RW_mk hP hK hD [0] [0] rfl rfl (by decide) rfl ht hW.alike⟩, hS.F ht⟩) hS.2.2 dX11_pass_50
    · refine lv_aload_n hx hb dX11_pass_29 rfl (lv_at hl 2 rfl) ?_
      refine va_get (D := D) (cl := vwCl) (ci := 16) (v := .int 1) (C := RX11) (T := TX11) (N := 13) hx hb hts zuX11_pass_X11 hown hK hP 0 rfl rfl 0 (by decide) (hts (.fieldLink RX11 41 "GatherhouseModel" "thrown" "I") (by decide +kernel)) (fun _ h9 => h9) rfl dX11_pass_30 ?_
      refine lv_if_ne (tgt := 49) hx hb dX11_pass_33 (by decide) (fun _ => ?_) (fun cc => absurd cc (by decide))
      refine lv_iload_n hx hb dX11_pass_49 rfl (lv_at hl 1 rfl) ?_
      refine W.widen (k := 600) (n := 2400) (Nat.le_of_ble_eq_true rfl) (Nat.le_of_ble_eq_true rfl) ?_
      exact W.iret (v := 0) hx hb hr (fun t ht hW => ⟨⟨0, (1, mt), rfl, (by first | exact Or.inl (⟨(by first | assumption | exact inR_1 (by assumption) (by assumption) | exact inR_2 (by assumption) (by assumption) | exact inR_3 (by assumption) | exact inR_4 (by assumption) | exact inR_5 (by assumption) | exact ⟨by assumption, by assumption, by assumption, by assumption⟩ | exact ⟨by assumption, by assumption, by assumption⟩ | exact (fun q => absurd q.1 (by assumption)) | exact (fun q => absurd q.2.1 (by assumption)) | exact (fun q => absurd q.2.2 (by assumption)) | exact (fun q => absurd q.2.2.1 (by assumption)) | exact (fun q => absurd q.2.2.2 (by assumption)) | exact isRole_no (by assumption) (by assumption) (by assumption) (by assumption) | exact isRole_nb (by assumption) (by assumption) (by assumption) (by assumption) | exact isRole_out (by assumption) | exact enc_use (by assumption) (by assumption) (by assumption) | exact enc_103 (by assumption) | exact enc_103 (Eq.symm (by assumption)) | exact enc_115 (Eq.symm (by assumption)) | exact enc_102 (Eq.symm (by assumption)) | exact enc_98 (Eq.symm (by assumption)) | exact isRole_nc (by assumption) (by assumption) (by assumption) (by assumption) | exact enc_115 (by assumption) | exact enc_102 (by assumption) | exact enc_98 (by assumption) | exact Or.inr (by assumption) | rfl | exact Or.inl (by assumption) | exact Or.inr (Or.inl (by assumption)) | exact Or.inr (Or.inr (Or.inl (by assumption))) | exact Or.inr (Or.inr (Or.inr (by assumption))) | decide), rfl, (by first | rfl | assumption)⟩) | exact Or.inr (⟨(by first | assumption | exact inR_1 (by assumption) (by assumption) | exact inR_2 (by assumption) (by assumption) | exact inR_3 (by assumption) | exact inR_4 (by assumption) | exact inR_5 (by assumption) | exact ⟨by assumption, by assumption, by assumption, by assumption⟩ | exact ⟨by assumption, by assumption, by assumption⟩ | exact (fun q => absurd q.1 (by assumption)) | exact (fun q => absurd q.2.1 (by assumption)) | exact (fun q => absurd q.2.2 (by assumption)) | exact (fun q => absurd q.2.2.1 (by assumption)) | exact (fun q => absurd q.2.2.2 (by assumption)) | exact isRole_no (by assumption) (by assumption) (by assumption) (by assumption) | exact isRole_nb (by assumption) (by assumption) (by assumption) (by assumption) | exact isRole_out (by assumption) | exact enc_use (by assumption) (by assumption) (by assumption) | exact enc_103 (by assumption) | exact enc_103 (Eq.symm (by assumption)) | exact enc_115 (Eq.symm (by assumption)) | exact enc_102 (Eq.symm (by assumption)) | exact enc_98 (Eq.symm (by assumption)) | exact isRole_nc (by assumption) (by assumption) (by assumption) (by assumption) | exact enc_115 (by assumption) | exact enc_102 (by assumption) | exact enc_98 (by assumption) | exact Or.inr (by assumption) | rfl | exact Or.inl (by assumption) | exact Or.inr (Or.inl (by assumption)) | exact Or.inr (Or.inr (Or.inl (by assumption))) | exact Or.inr (Or.inr (Or.inr (by assumption))) | decide), rfl, (by first | rfl | assumption)⟩)), q_RW_mk hP hK hD [0] [0] rfl rfl (by decide) rfl ht hW.alike⟩, hS.F ht⟩) hS.2.2 dX11_pass_50
theorem dX11_choose_0 : decode cX11_choose 0 = .ok (.iload 4, 2) := by decide +kernel
theorem dX11_choose_2 : decode cX11_choose 2 = .ok (.aload_n 3, 1) := by decide +kernel
theorem dX11_choose_3 : decode cX11_choose 3 = .ok (.arraylength, 1) := by decide +kernel
theorem dX11_choose_4 : decode cX11_choose 4 = .ok (.if_icmp .ne 176, 3) := by decide +kernel
theorem dX11_choose_180 : decode cX11_choose 180 = .ok (.iload_n 2, 1) := by decide +kernel
theorem dX11_choose_181 : decode cX11_choose 181 = .ok (.istore 5, 2) := by decide +kernel
theorem dX11_choose_183 : decode cX11_choose 183 = .ok (.iload 5, 2) := by decide +kernel
theorem dX11_choose_185 : decode cX11_choose 185 = .ok (.aload_n 1, 1) := by decide +kernel
theorem dX11_choose_186 : decode cX11_choose 186 = .ok (.invokevirtual 44, 3) := by decide +kernel
theorem dX11_choose_189 : decode cX11_choose 189 = .ok (.if_icmp .ge 39, 3) := by decide +kernel
theorem dX11_choose_228 : decode cX11_choose 228 = .ok (.return_, 1) := by decide +kernel
def wzEX11_choose : List Cond := [.code yX11_choose cX11_choose 12 none, .methodLink RX11 44 yJx4a65c_size_8abf5, .instanceMethod yJx4a65c_size_8abf5, .selects RJx4a65c yJx4a65c_size_8abf5 yJx4a65c_size_8abf5, .initialized RJx4a65c, .code yJx4a65c_size_8abf5 cJx4a65c_size_8abf5 1 (some .int), .fieldLink RJx4a65c 48 "java/util/ArrayList" "size" "I"]
def wzX11_choose : List Cond := wzEX11_choose ++ (u_ws RJx4a65c TJx4a65c 3)
theorem zgEX11_choose : wzEX11_choose.all goodWord = true := by decide +kernel
theorem zuX11_choose_Jx4a65c : ∀ w ∈ u_ws RJx4a65c TJx4a65c 3, w ∈ wzX11_choose := (fun _ h => (List.mem_append_right _ h))
theorem gzX11_choose_Jx4a65c_size_8abf5_44 : GoodIn wzX11_choose (wsV RX11 44 RJx4a65c yJx4a65c_size_8abf5 wzJx4a65c_size_8abf5) := (goodIn_app (z_lift (goodIn_r _ [1, 2, 3, 4] rfl (by decide +kernel))) (goodIn_app (z_lift (goodIn_r wzEJx4a65c_size_8abf5 [5, 6] rfl zgEJx4a65c_size_8abf5)) (goodIn_sub (fun _ h => (List.mem_append_right _ h)) zgU_Jx4a65c)))
set_option maxHeartbeats 4000000 in
set_option maxRecDepth 100000 in
theorem zc_X11_choose (l : Launch) (D : va_G) (G : Nat × Nat × Nat) (mo : Nat) (du : Nat) (ar : Nat) (nn : Nat) (cr : ClassId) (sz : Nat) (h2 : 2 ≤ nn) (h6 : nn ≤ 6) : Met l yX11_choose wzX11_choose ({ frames := 1, cells := 0, slots := 0, locals := 20 }) (va_Pc [.ref mo, .ref du, .int 0, .ref ar, .int 0] (p_RW D G [(cr, .int)] [(du, .inr (4, [.int 0, .ref G.1, .int 0])), (ar, .inl (cr, nn, .inl (fun _ => 0)))] sz)) (va_Qv (fun (u : Unit) => True) (fun (u : Unit) (t : State) => q_RW D [(cr, .int)] [(du, .inr (4, [.int 0, .ref G.1, .int 0]))] (va_A [(du, .inr (4, [.int 0, .ref G.1, .int 0])), (ar, .inl (cr, nn, .inl (fun _ => 0)))] sz) t) (va_A [(du, .inr (4, [.int 0, .ref G.1, .int 0])), (ar, .inl (cr, nn, .inl (fun _ => 0)))] sz)) 0 0 (va_A [(du, .inr (4, [.int 0, .ref G.1, .int 0])), (ar, .inl (cr, nn, .inl (fun _ => 0)))] sz) := by
  refine Met.ofW (cc := cX11_choose) (maxL := 12) (ret := none) (by decide) rfl ?_
  intro p e s m args below meth c s₁ B hml hv
  obtain ⟨rfl, hsz, hP, hK, hD0, hT, hZ⟩ := hv
  have hx := B.exec
  have hb := B.bytes
  have hr := B.returns
  have hts := atoms_spec (ws := wzX11_choose) B.pre
  have hown : s.vm.findClass RX11 = some m.cls := findClass_of_methodNamed B.named
  have hlocks := B.notSynchronized
  subst hsz
  have hD := hD0.self (sz := s.heap.size)
  generalize hAe : va_A [(du, .inr (4, [.int 0, .ref G.1, .int 0])), (ar, .inl (cr, nn, .inl (fun _ => 0)))] s.heap.size = A at hD hZ ⊢
  have hA : ∀ q : Nat, s.heap.size ≤ q → A q := fun q h => by rw [← hAe]; exact Or.inr h
  have hS : va_S A s.heap s.heap [] := va_S.rf
  have hl := lv_entry ([.ref mo, .ref du, .int 0, .ref ar, .int 0]) (n := 12) (Nat.le_of_ble_eq_true rfl)
  rw [lg_entry_eq]
  generalize (lg_sl ([.ref mo, .ref du, .int 0, .ref ar, .int 0]) ++ List.replicate (12 - (lg_sl ([.ref mo, .ref du, .int 0, .ref ar, .int 0])).length) Slot.unset).toArray = ls at hl ⊢
  have hl : lv_has ls 12 [(0, .ref mo), (1, .ref du), (2, .int 0), (3, .ref ar), (4, .int 0)] := hl
  refine lv_iload hx hb dX11_choose_0 (lv_at hl 4 rfl) ?_
  refine lv_aload_n hx hb dX11_choose_2 rfl (lv_at hl 3 rfl) ?_
  refine va_alen (D := D) (cl := vwCl) hx hb hK hP 1 0 rfl rfl rfl dX11_choose_3 ?_
  refine lv_icmp_ne (tgt := 180) hx hb dX11_choose_4 (by decide) (fun _ => ?_) (fun cc => absurd cc (fun e => nI_ne0 (n := nn) (by omega) (by omega) e.symm))
  refine lv_iload_n hx hb dX11_choose_180 rfl (lv_at hl 2 rfl) ?_
  refine lv_istore (lv' := [(5, .int 0), (0, .ref mo), (1, .ref du), (2, .int 0), (3, .ref ar), (4, .int 0)]) hx hb dX11_choose_181 hl (by decide) rfl (fun ls hl => ?_)
  refine lv_iload hx hb dX11_choose_183 (lv_at hl 0 rfl) ?_
  refine lv_aload_n hx hb dX11_choose_185 rfl (lv_at hl 2 rfl) ?_
  refine vp_callSi (va_runV (As := []) (rest := [.int 0]) ⟨hx, hb, hml, hown, hts⟩ (zc_Jx4a65c_size_8abf5 l D G du G.1 0 0) (cwV 0 hts gzX11_choose_Jx4a65c_size_8abf5_44 rfl rfl rfl (by decide +kernel) ⟨(Nat.le_of_ble_eq_true rfl), (Nat.le_of_ble_eq_true rfl)⟩) ⟨p_RO_blind, va_recv hK hP (ci := 4) (q0 := 0) rfl rfl, (p_RO_at (tc := []) (wc := [(du, .inr (4, [.int 0, .ref G.1, .int 0]))]) hP hK hT [0] [] rfl rfl [.ref du])⟩ rfl rfl hl.1 rfl (lv_room (Nat.le_of_ble_eq_true rfl)) dX11_choose_186 ⟨(Nat.le_of_ble_eq_true rfl), (Nat.le_of_ble_eq_true rfl)⟩).run (fun r_644 w_645 => ?_)
  obtain rfl := w_645
  refine lv_icmp_ge (tgt := 228) hx hb dX11_choose_189 (by decide) (fun _ => ?_) (fun cc => absurd (by decide) cc)
  exact W.vret hx hb hr (fun t ht hW => ⟨⟨(), rfl, trivial, q_RW_mk hP hK hD [0] [0] rfl rfl (by decide) rfl ht hW.alike⟩, hS.F ht⟩) hS.2.2 dX11_choose_228
theorem dX11_set_0 : decode cX11_set 0 = .ok (.aload_n 0, 1) := by decide +kernel
theorem dX11_set_1 : decode cX11_set 1 = .ok (.iload_n 1, 1) := by decide +kernel
theorem dX11_set_2 : decode cX11_set 2 = .ok (.iconst 2, 1) := by decide +kernel
theorem dX11_set_3 : decode cX11_set 3 = .ok (.bipush 6, 2) := by decide +kernel
theorem dX11_set_5 : decode cX11_set 5 = .ok (.invokestatic 47, 3) := by decide +kernel
theorem dX11_set_8 : decode cX11_set 8 = .ok (.ifCond .eq 27, 3) := by decide +kernel
theorem dX11_set_11 : decode cX11_set 11 = .ok (.iload_n 2, 1) := by decide +kernel
theorem dX11_set_12 : decode cX11_set 12 = .ok (.iconst 1, 1) := by decide +kernel
theorem dX11_set_13 : decode cX11_set 13 = .ok (.bipush 8, 2) := by decide +kernel
theorem dX11_set_15 : decode cX11_set 15 = .ok (.invokestatic 47, 3) := by decide +kernel
theorem dX11_set_18 : decode cX11_set 18 = .ok (.ifCond .eq 17, 3) := by decide +kernel
theorem dX11_set_21 : decode cX11_set 21 = .ok (.iload_n 3, 1) := by decide +kernel
theorem dX11_set_22 : decode cX11_set 22 = .ok (.iconst 0, 1) := by decide +kernel
theorem dX11_set_23 : decode cX11_set 23 = .ok (.bipush 99, 2) := by decide +kernel
theorem dX11_set_25 : decode cX11_set 25 = .ok (.invokestatic 47, 3) := by decide +kernel
theorem dX11_set_28 : decode cX11_set 28 = .ok (.ifCond .eq 7, 3) := by decide +kernel
theorem dX11_set_31 : decode cX11_set 31 = .ok (.iconst 0, 1) := by decide +kernel
theorem dX11_set_32 : decode cX11_set 32 = .ok (.goto 4, 3) := by decide +kernel
theorem dX11_set_36 : decode cX11_set 36 = .ok (.putfield 41, 3) := by decide +kernel
theorem dX11_set_39 : decode cX11_set 39 = .ok (.aload_n 0, 1) := by decide +kernel
theorem dX11_set_40 : decode cX11_set 40 = .ok (.getfield 41, 3) := by decide +kernel
theorem dX11_set_43 : decode cX11_set 43 = .ok (.ifCond .le 5, 3) := by decide +kernel
theorem dX11_set_48 : decode cX11_set 48 = .ok (.new 7, 3) := by decide +kernel
theorem dX11_set_51 : decode cX11_set 51 = .ok (.dup, 1) := by decide +kernel
theorem dX11_set_52 : decode cX11_set 52 = .ok (.invokespecial 9, 3) := by decide +kernel
theorem dX11_set_55 : decode cX11_set 55 = .ok (.astore 4, 2) := by decide +kernel
theorem dX11_set_57 : decode cX11_set 57 = .ok (.iconst 0, 1) := by decide +kernel
theorem dX11_set_58 : decode cX11_set 58 = .ok (.istore 5, 2) := by decide +kernel
theorem dX11_set_60 : decode cX11_set 60 = .ok (.iload 5, 2) := by decide +kernel
theorem dX11_set_62 : decode cX11_set 62 = .ok (.aload_n 0, 1) := by decide +kernel
theorem dX11_set_63 : decode cX11_set 63 = .ok (.getfield 19, 3) := by decide +kernel
theorem dX11_set_66 : decode cX11_set 66 = .ok (.invokevirtual 44, 3) := by decide +kernel
theorem dX11_set_69 : decode cX11_set 69 = .ok (.if_icmp .ge 64, 3) := by decide +kernel
theorem dX11_set_133 : decode cX11_set 133 = .ok (.aload_n 0, 1) := by decide +kernel
theorem dX11_set_134 : decode cX11_set 134 = .ok (.aconst_null, 1) := by decide +kernel
theorem dX11_set_135 : decode cX11_set 135 = .ok (.putfield 289, 3) := by decide +kernel
theorem dX11_set_138 : decode cX11_set 138 = .ok (.aload_n 0, 1) := by decide +kernel
theorem dX11_set_139 : decode cX11_set 139 = .ok (.aload 4, 2) := by decide +kernel
theorem dX11_set_141 : decode cX11_set 141 = .ok (.iconst 0, 1) := by decide +kernel
theorem dX11_set_142 : decode cX11_set 142 = .ok (.iload_n 1, 1) := by decide +kernel
theorem dX11_set_143 : decode cX11_set 143 = .ok (.newarray .int, 2) := by decide +kernel
theorem dX11_set_145 : decode cX11_set 145 = .ok (.iconst 0, 1) := by decide +kernel
theorem dX11_set_146 : decode cX11_set 146 = .ok (.invokevirtual 306, 3) := by decide +kernel
theorem dX11_set_149 : decode cX11_set 149 = .ok (.aload_n 0, 1) := by decide +kernel
theorem dX11_set_150 : decode cX11_set 150 = .ok (.aload_n 0, 1) := by decide +kernel
theorem dX11_set_151 : decode cX11_set 151 = .ok (.getfield 289, 3) := by decide +kernel
theorem dX11_set_154 : decode cX11_set 154 = .ok (.ifnonnull 7, 3) := by decide +kernel
theorem dX11_set_157 : decode cX11_set 157 = .ok (.iconst 2, 1) := by decide +kernel
theorem dX11_set_158 : decode cX11_set 158 = .ok (.goto 16, 3) := by decide +kernel
theorem dX11_set_174 : decode cX11_set 174 = .ok (.putfield 41, 3) := by decide +kernel
theorem dX11_set_177 : decode cX11_set 177 = .ok (.aload_n 0, 1) := by decide +kernel
theorem dX11_set_178 : decode cX11_set 178 = .ok (.getfield 41, 3) := by decide +kernel
theorem dX11_set_181 : decode cX11_set 181 = .ok (.ifCond .le 5, 3) := by decide +kernel
theorem dX11_set_184 : decode cX11_set 184 = .ok (.iconst 0, 1) := by decide +kernel
theorem dX11_set_185 : decode cX11_set 185 = .ok (.ireturn, 1) := by decide +kernel
theorem dX11_set_35 : decode cX11_set 35 = .ok (.iconst 1, 1) := by decide +kernel
theorem dX11_set_46 : decode cX11_set 46 = .ok (.iconst 0, 1) := by decide +kernel
theorem dX11_set_47 : decode cX11_set 47 = .ok (.ireturn, 1) := by decide +kernel
def wzEX11_set : List Cond := [.code yX11_set cX11_set 9 (some .int), .methodLink RX11 47 yX11_in, .static yX11_in, .initialized RX11, .code yX11_in cX11_in 3 (some .boolean), .fieldLink RX11 41 "GatherhouseModel" "thrown" "I", .classLink RX11 7 RJx4a65c, .instantiable RJx4a65c 3, .initialized RJx4a65c, .code yJx4a65c_init_da8c8 cJx4a65c_init_da8c8 1 none, .code yJxc12de_init_da8c8 cJxc12de_init_da8c8 1 none, .code yJxa1e45_init_da8c8 cJxa1e45_init_da8c8 1 none, .methodLink RJxa1e45 1 objectInit, .instanceMethod objectInit, .code objectInit ⟨#[0xb1]⟩ 1 none, .initialized RJxa1e45, .instanceMethod yJxa1e45_init_da8c8, .methodLink RJxc12de 1 yJxa1e45_init_da8c8, .fieldLink RJxc12de 7 "java/util/AbstractList" "modCount" "I", .initialized RJxc12de, .instanceMethod yJxc12de_init_da8c8, .methodLink RJx4a65c 1 yJxc12de_init_da8c8, .fieldLink RJx4a65c 39 "java/util/ArrayList" "DEFAULTCAPACITY_EMPTY_ELEMENTDATA" "[Ljava/lang/Object;", .fieldLink RJx4a65c 9 "java/util/ArrayList" "elementData" "[Ljava/lang/Object;", .instanceMethod yJx4a65c_init_da8c8, .methodLink RX11 9 yJx4a65c_init_da8c8, .fieldLink RX11 19 "GatherhouseModel" "pieces" "Ljava/util/ArrayList;", .methodLink RX11 44 yJx4a65c_size_8abf5, .instanceMethod yJx4a65c_size_8abf5, .selects RJx4a65c yJx4a65c_size_8abf5 yJx4a65c_size_8abf5, .code yJx4a65c_size_8abf5 cJx4a65c_size_8abf5 1 (some .int), .fieldLink RJx4a65c 48 "java/util/ArrayList" "size" "I", .fieldLink RX11 289 "GatherhouseModel" "best" "[I", .arrayClass .int, .methodLink RX11 306 yX11_choose, .instanceMethod yX11_choose, .selects RX11 yX11_choose yX11_choose, .code yX11_choose cX11_choose 12 none]
def wzX11_set : List Cond := wzEX11_set ++ (u_ws RX11 TX11 13 ++ (u_ws RJx4a65c TJx4a65c 3))
theorem zgEX11_set : wzEX11_set.all goodWord = true := by decide +kernel
theorem zuX11_set_X11 : ∀ w ∈ u_ws RX11 TX11 13, w ∈ wzX11_set := (fun _ h => (List.mem_append_right _ (List.mem_append_left _ h)))
theorem zuX11_set_Jx4a65c : ∀ w ∈ u_ws RJx4a65c TJx4a65c 3, w ∈ wzX11_set := (fun _ h => (List.mem_append_right _ (List.mem_append_right _ h)))
theorem gzX11_set_X11_in_47 : GoodIn wzX11_set (va_wsS RX11 47 yX11_in wzX11_in) := (goodIn_app (z_lift (goodIn_r _ [1, 2, 3] rfl (by decide +kernel))) (goodIn_app (z_lift (goodIn_r wzEX11_in [4] rfl zgEX11_in)) z_gnil))
theorem gzX11_set_Jx4a65c_init_da8c8_9 : GoodIn wzX11_set (wzJx4a65c_init_da8c8) := (goodIn_app (z_lift (goodIn_r wzEJx4a65c_init_da8c8 [9, 10, 11, 12, 13, 14, 15, 16, 17, 18, 19, 20, 21, 22, 23] rfl zgEJx4a65c_init_da8c8)) (goodIn_sub (fun _ h => (List.mem_append_right _ (List.mem_append_right _ h))) zgU_Jx4a65c))
theorem gzX11_set_Jx4a65c_size_8abf5_44 : GoodIn wzX11_set (wsV RX11 44 RJx4a65c yJx4a65c_size_8abf5 wzJx4a65c_size_8abf5) := (goodIn_app (z_lift (goodIn_r _ [27, 28, 29, 8] rfl (by decide +kernel))) (goodIn_app (z_lift (goodIn_r wzEJx4a65c_size_8abf5 [30, 31] rfl zgEJx4a65c_size_8abf5)) (goodIn_sub (fun _ h => (List.mem_append_right _ (List.mem_append_right _ h))) zgU_Jx4a65c)))
theorem gzX11_set_X11_choose_306 : GoodIn wzX11_set (wsV RX11 306 RX11 yX11_choose wzX11_choose) := (goodIn_app (z_lift (goodIn_r _ [34, 35, 36, 3] rfl (by decide +kernel))) (goodIn_app (z_lift (goodIn_r wzEX11_choose [37, 27, 28, 29, 8, 30, 31] rfl zgEX11_choose)) (goodIn_sub (fun _ h => (List.mem_append_right _ (List.mem_append_right _ h))) zgU_Jx4a65c)))
set_option maxHeartbeats 4000000 in
set_option maxRecDepth 100000 in
theorem zc_X11_set (l : Launch) (D : va_G) (G : Nat × Nat × Nat) (mo : Nat) (gl : Nat) (po : Nat) (pi : Nat) (bu : Nat) (pa : Nat) (th : Int32) (mh : Int32) (mt : Int32) (ii : Int32) (jj : Int32) (kk : Int32) (sz : Nat) : Met l yX11_set wzX11_set ({ frames := 4, cells := 2, slots := 9, locals := 72 }) (va_Pc [.ref mo, .int ii, .int jj, .int kk] (p_RW D G [] [(mo, .inr (16, [.int th, .ref gl, .ref po, .ref pi, .ref bu, .ref pa, .int mt, .int mh, .int 40, .int 0, .null, .int 0, .int 0])), (pi, .inr (4, [.int 0, .ref G.1, .int 0]))] sz)) (va_Qi (fun (r : Int32) (u : Int32) => match u with | u1 => (sOK ii jj kk ∧ r = 0 ∧ u1 = 2) ∨ (¬ sOK ii jj kk ∧ r = 0 ∧ u1 = 1)) (fun (u : Int32) (t : State) => match u with | u1 => q_RW D [] [(mo, .inr (16, [.int u1, .ref gl, .ref po, .ref pi, .ref bu, .ref pa, .int mt, .int mh, .int 40, .int 0, .null, .int 0, .int 0]))] (va_A [(mo, .inr (16, [.int th, .ref gl, .ref po, .ref pi, .ref bu, .ref pa, .int mt, .int mh, .int 40, .int 0, .null, .int 0, .int 0])), (pi, .inr (4, [.int 0, .ref G.1, .int 0]))] sz) t) (va_A [(mo, .inr (16, [.int th, .ref gl, .ref po, .ref pi, .ref bu, .ref pa, .int mt, .int mh, .int 40, .int 0, .null, .int 0, .int 0])), (pi, .inr (4, [.int 0, .ref G.1, .int 0]))] sz)) 2 9 (va_A [(mo, .inr (16, [.int th, .ref gl, .ref po, .ref pi, .ref bu, .ref pa, .int mt, .int mh, .int 40, .int 0, .null, .int 0, .int 0])), (pi, .inr (4, [.int 0, .ref G.1, .int 0]))] sz) := by
  refine Met.ofW (cc := cX11_set) (maxL := 9) (ret := (some .int)) (by decide) rfl ?_
  intro p e s m args below meth c s₁ B hml hv
  obtain ⟨rfl, hsz, hP, hK, hD0, hT, hZ⟩ := hv
  have hx := B.exec
  have hb := B.bytes
  have hr := B.returns
  have hts := atoms_spec (ws := wzX11_set) B.pre
  have hown : s.vm.findClass RX11 = some m.cls := findClass_of_methodNamed B.named
  have hlocks := B.notSynchronized
  subst hsz
  have hD := hD0.self (sz := s.heap.size)
  generalize hAe : va_A [(mo, .inr (16, [.int th, .ref gl, .ref po, .ref pi, .ref bu, .ref pa, .int mt, .int mh, .int 40, .int 0, .null, .int 0, .int 0])), (pi, .inr (4, [.int 0, .ref G.1, .int 0]))] s.heap.size = A at hD hZ ⊢
  have hA : ∀ q : Nat, s.heap.size ≤ q → A q := fun q h => by rw [← hAe]; exact Or.inr h
  have hS : va_S A s.heap s.heap [] := va_S.rf
  have hl := lv_entry ([.ref mo, .int ii, .int jj, .int kk]) (n := 9) (Nat.le_of_ble_eq_true rfl)
  rw [lg_entry_eq]
  generalize (lg_sl ([.ref mo, .int ii, .int jj, .int kk]) ++ List.replicate (9 - (lg_sl ([.ref mo, .int ii, .int jj, .int kk])).length) Slot.unset).toArray = ls at hl ⊢
  have hl : lv_has ls 9 [(0, .ref mo), (1, .int ii), (2, .int jj), (3, .int kk)] := hl
  refine lv_aload_n hx hb dX11_set_0 rfl (lv_at hl 0 rfl) ?_
  refine lv_iload_n hx hb dX11_set_1 rfl (lv_at hl 1 rfl) ?_
  refine lv_iconst (v := 2) hx hb dX11_set_2 (by decide) ?_
  refine lv_bipush (v := 6) hx hb dX11_set_3 (by decide) ?_
  refine vp_callSi (va_runS (As := [.int ii, .int 2, .int 6]) (rest := [.ref mo]) ⟨hx, hb, hml, hown, hts⟩ (zc_X11_in l D G ii 2 6) (cwS 3 hts gzX11_set_X11_in_47 rfl rfl rfl (by decide +kernel) ⟨(Nat.le_of_ble_eq_true rfl), (Nat.le_of_ble_eq_true rfl)⟩) ⟨p_RO_blind, (p_RO_at (tc := []) (wc := []) hP hK hT [] [] rfl rfl [.int ii, .int 2, .int 6])⟩ rfl rfl hl.1 rfl (lv_room (Nat.le_of_ble_eq_true rfl)) dX11_set_5 ⟨(Nat.le_of_ble_eq_true rfl), (Nat.le_of_ble_eq_true rfl)⟩).run (fun r_646 w_647 => ?_)
  rcases w_647 with ⟨c_648, rfl⟩ | ⟨c_649, rfl⟩
  · refine lv_if_eq (tgt := 35) hx hb dX11_set_8 (by decide) (fun cc => absurd cc (by decide)) (fun _ => ?_)
    refine lv_iload_n hx hb dX11_set_11 rfl (lv_at hl 2 rfl) ?_
    refine lv_iconst (v := 1) hx hb dX11_set_12 (by decide) ?_
    refine lv_bipush (v := 8) hx hb dX11_set_13 (by decide) ?_
    refine vp_callSi (va_runS (As := [.int jj, .int 1, .int 8]) (rest := [.ref mo]) ⟨hx, hb, hml, hown, hts⟩ (zc_X11_in l D G jj 1 8) (cwS 3 hts gzX11_set_X11_in_47 rfl rfl rfl (by decide +kernel) ⟨(Nat.le_of_ble_eq_true rfl), (Nat.le_of_ble_eq_true rfl)⟩) ⟨p_RO_blind, (p_RO_at (tc := []) (wc := []) hP hK hT [] [] rfl rfl [.int jj, .int 1, .int 8])⟩ rfl rfl hl.1 rfl (lv_room (Nat.le_of_ble_eq_true rfl)) dX11_set_15 ⟨(Nat.le_of_ble_eq_true rfl), (Nat.le_of_ble_eq_true rfl)⟩).run (fun r_650 w_651 => ?_)
    rcases w_651 with ⟨c_652, rfl⟩ | ⟨c_653, rfl⟩
    · refine lv_if_eq (tgt := 35) hx hb dX11_set_18 (by decide) (fun cc => absurd cc (by decide)) (fun _ => ?_)
      refine lv_iload_n hx hb dX11_set_21 rfl (lv_at hl 3 rfl) ?_
      refine lv_iconst (v := 0) hx hb dX11_set_22 (by decide) ?_
      refine lv_bipush (v := 99) hx hb dX11_set_23 (by decide) ?_
      refine vp_callSi (va_runS (As := [.int kk, .int 0, .int 99]) (rest := [.ref mo]) ⟨hx, hb, hml, hown, hts⟩ (zc_X11_in l D G kk 0 99) (cwS 3 hts gzX11_set_X11_in_47 rfl rfl rfl (by decide +kernel) ⟨(Nat.le_of_ble_eq_true rfl), (Nat.le_of_ble_eq_true rfl)⟩) ⟨p_RO_blind, (p_RO_at (tc := []) (wc := []) hP hK hT [] [] rfl rfl [.int kk, .int 0, .int 99])⟩ rfl rfl hl.1 rfl (lv_room (Nat.le_of_ble_eq_true rfl)) dX11_set_25 ⟨(Nat.le_of_ble_eq_true rfl), (Nat.le_of_ble_eq_true rfl)⟩).run (fun r_654 w_655 => ?_)
      rcases w_655 with ⟨c_656, rfl⟩ | ⟨c_657, rfl⟩
      · refine lv_if_eq (tgt := 35) hx hb dX11_set_28 (by decide) (fun cc => absurd cc (by decide)) (fun _ => ?_)
        refine lv_iconst (v := 0) hx hb dX11_set_31 (by decide) ?_
        refine lv_goto (tgt := 36) hx hb dX11_set_32 (by decide) ?_
        refine va_put (D := D) (cl := vwCl) (ci := 16) (v := .int 0) (ty := .int) (C := RX11) (T := TX11) (N := 13) hx hb hts zuX11_set_X11 tyX11 tyX11_ok nmX11 hown hK hP hD hS 0 rfl rfl 0 (by decide) (hts (.fieldLink RX11 41 "GatherhouseModel" "thrown" "I") (by decide +kernel)) (fun _ h9 => h9) rfl (by decide +kernel) rfl rfl (Nat.le_of_ble_eq_true rfl) dX11_set_36 (fun H locs hP hD hS => ?_)
        have hP : va_P D vwCl [(mo, .inr (16, [.int 0, .ref gl, .ref po, .ref pi, .ref bu, .ref pa, .int mt, .int mh, .int 40, .int 0, .null, .int 0, .int 0])), (pi, .inr (4, [.int 0, .ref G.1, .int 0]))] H := hP
        have hD : va_D A [(mo, .inr (16, [.int 0, .ref gl, .ref po, .ref pi, .ref bu, .ref pa, .int mt, .int mh, .int 40, .int 0, .null, .int 0, .int 0])), (pi, .inr (4, [.int 0, .ref G.1, .int 0]))] := hD
        refine lv_aload_n hx hb dX11_set_39 rfl (lv_at hl 0 rfl) ?_
        refine va_get (D := D) (cl := vwCl) (ci := 16) (v := .int 0) (C := RX11) (T := TX11) (N := 13) hx hb hts zuX11_set_X11 hown hK hP 0 rfl rfl 0 (by decide) (hts (.fieldLink RX11 41 "GatherhouseModel" "thrown" "I") (by decide +kernel)) (fun _ h9 => h9) rfl dX11_set_40 ?_
        refine lv_if_le (tgt := 48) hx hb dX11_set_43 (by decide) (fun _ => ?_) (fun cc => absurd (by decide) cc)
        refine va_new (D := D) (cl := vwCl) (ci := 4) (fs := [.int 0, .null, .int 0]) (C := RJx4a65c) (T := TJx4a65c) (N := 3) hx hb hts zuX11_set_Jx4a65c tyJx4a65c tyJx4a65c_ok hown (hts (.classLink RX11 7 RJx4a65c) (by decide +kernel)) (hts (.instantiable RJx4a65c 3) (by decide +kernel)) (hts (.initialized RJx4a65c) (by decide +kernel)) hK hP hD hS hA rfl (fun j hj => by rcases (show j = 0 ∨ j = 1 ∨ j = 2 by omega) with rfl | rfl | rfl <;> rfl) (Nat.le_of_ble_eq_true rfl) (Nat.le_of_ble_eq_true rfl) dX11_set_48 (fun o_658 H hP hD hS => ?_)
        have hP : va_P D vwCl [(mo, .inr (16, [.int 0, .ref gl, .ref po, .ref pi, .ref bu, .ref pa, .int mt, .int mh, .int 40, .int 0, .null, .int 0, .int 0])), (pi, .inr (4, [.int 0, .ref G.1, .int 0])), (o_658, .inr (4, [.int 0, .null, .int 0]))] H := hP
        have hD : va_D A [(mo, .inr (16, [.int 0, .ref gl, .ref po, .ref pi, .ref bu, .ref pa, .int mt, .int mh, .int 40, .int 0, .null, .int 0, .int 0])), (pi, .inr (4, [.int 0, .ref G.1, .int 0])), (o_658, .inr (4, [.int 0, .null, .int 0]))] := hD
        refine W.widen (k := 1) (n := 3) (Nat.le_of_ble_eq_true rfl) (Nat.le_of_ble_eq_true rfl) ?_
        refine lv_dup hx hb dX11_set_51 rfl ?_
        have hFc := va_free (wc := [(o_658, .inr (4, [.int 0, .null, .int 0]))]) hD hS hA [2] rfl
        refine va_callv (va_runI (As := []) (rest := [.ref o_658]) ⟨hx, hb, hml, hown, hts⟩ (zc_Jx4a65c_init_da8c8 l D G o_658 H.size) (cwI 0 hts gzX11_set_Jx4a65c_init_da8c8_9 rfl rfl rfl (hts (.initialized RJx4a65c) (by decide +kernel)) (hts (.methodLink RX11 9 yJx4a65c_init_da8c8) (by decide +kernel)) (hts (.instanceMethod yJx4a65c_init_da8c8) (by decide +kernel)) rfl (by decide +kernel) ⟨(Nat.le_of_ble_eq_true rfl), (Nat.le_of_ble_eq_true rfl)⟩) ⟨p_RW_blind, (p_RW_at (tc := []) (wc := [(o_658, .inr (4, [.int 0, .null, .int 0]))]) hP hK hD hS hA hT hZ [2] [] rfl rfl (by decide) rfl [.ref o_658])⟩ rfl rfl hl.1 rfl (lv_room (Nat.le_of_ble_eq_true rfl)) dX11_set_52 ⟨(Nat.le_of_ble_eq_true rfl), (Nat.le_of_ble_eq_true rfl)⟩) hS (fun q _ h => hFc q h) hFc (fun u t H locs ht hvm w_660 hB hz1 hk1 hS => ?_)
        obtain ⟨hP, hD, hK⟩ := q_join (D := D) (wc := [(o_658, .inr (4, [.int 0, .null, .int 0]))]) (wr := [(mo, .inr (16, [.int 0, .ref gl, .ref po, .ref pi, .ref bu, .ref pa, .int mt, .int mh, .int 40, .int 0, .null, .int 0, .int 0])), (pi, .inr (4, [.int 0, .ref G.1, .int 0]))]) (w1 := [(o_658, .inr (4, [.int 0, .ref G.1, .int 0]))]) (tyr := []) (ty1 := []) hP hD hK [2] [0, 1] [] rfl rfl (by decide) (by decide) rfl hFc hk1 ht hvm hB
        have hP : va_P D vwCl [(mo, .inr (16, [.int 0, .ref gl, .ref po, .ref pi, .ref bu, .ref pa, .int mt, .int mh, .int 40, .int 0, .null, .int 0, .int 0])), (pi, .inr (4, [.int 0, .ref G.1, .int 0])), (o_658, .inr (4, [.int 0, .ref G.1, .int 0]))] H := hP
        have hD : va_D A [(mo, .inr (16, [.int 0, .ref gl, .ref po, .ref pi, .ref bu, .ref pa, .int mt, .int mh, .int 40, .int 0, .null, .int 0, .int 0])), (pi, .inr (4, [.int 0, .ref G.1, .int 0])), (o_658, .inr (4, [.int 0, .ref G.1, .int 0]))] := hD
        have hK : va_K D vwCl [] s := hK
        refine lv_astore (lv' := [(4, .ref o_658), (0, .ref mo), (1, .int ii), (2, .int jj), (3, .int kk)]) hx hb dX11_set_55 hl (by decide) rfl (fun ls hl => ?_)
        refine lv_iconst (v := 0) hx hb dX11_set_57 (by decide) ?_
        refine lv_istore (lv' := [(5, .int 0), (4, .ref o_658), (0, .ref mo), (1, .int ii), (2, .int jj), (3, .int kk)]) hx hb dX11_set_58 hl (by decide) rfl (fun ls hl => ?_)
        refine lv_iload hx hb dX11_set_60 (lv_at hl 0 rfl) ?_
        refine lv_aload_n hx hb dX11_set_62 rfl (lv_at hl 2 rfl) ?_
        refine va_get (D := D) (cl := vwCl) (ci := 16) (v := .ref pi) (C := RX11) (T := TX11) (N := 13) hx hb hts zuX11_set_X11 hown hK hP 0 rfl rfl 3 (by decide) (hts (.fieldLink RX11 19 "GatherhouseModel" "pieces" "Ljava/util/ArrayList;") (by decide +kernel)) (fun _ h9 => h9) rfl dX11_set_63 ?_
        refine vp_callSi (va_runV (As := []) (rest := [.int 0]) ⟨hx, hb, hml, hown, hts⟩ (zc_Jx4a65c_size_8abf5 l D G pi G.1 0 0) (cwV 0 hts gzX11_set_Jx4a65c_size_8abf5_44 rfl rfl rfl (by decide +kernel) ⟨(Nat.le_of_ble_eq_true rfl), (Nat.le_of_ble_eq_true rfl)⟩) ⟨p_RO_blind, va_recv hK hP (ci := 4) (q0 := 1) rfl rfl, (p_RO_at (tc := []) (wc := [(pi, .inr (4, [.int 0, .ref G.1, .int 0]))]) hP hK hT [1] [] rfl rfl [.ref pi])⟩ rfl rfl hl.1 rfl (lv_room (Nat.le_of_ble_eq_true rfl)) dX11_set_66 ⟨(Nat.le_of_ble_eq_true rfl), (Nat.le_of_ble_eq_true rfl)⟩).run (fun r_661 w_662 => ?_)
        obtain rfl := w_662
        refine lv_icmp_ge (tgt := 133) hx hb dX11_set_69 (by decide) (fun _ => ?_) (fun cc => absurd (by decide) cc)
        refine lv_aload_n hx hb dX11_set_133 rfl (lv_at hl 2 rfl) ?_
        refine lv_null hx hb dX11_set_134 ?_
        refine va_put (D := D) (cl := vwCl) (ci := 16) (v := .null) (ty := (.array .int)) (C := RX11) (T := TX11) (N := 13) hx hb hts zuX11_set_X11 tyX11 tyX11_ok nmX11 hown hK hP hD hS 0 rfl rfl 10 (by decide) (hts (.fieldLink RX11 289 "GatherhouseModel" "best" "[I") (by decide +kernel)) (fun _ h9 => h9) rfl (by decide +kernel) rfl rfl (Nat.le_of_ble_eq_true rfl) dX11_set_135 (fun H locs hP hD hS => ?_)
        have hP : va_P D vwCl [(mo, .inr (16, [.int 0, .ref gl, .ref po, .ref pi, .ref bu, .ref pa, .int mt, .int mh, .int 40, .int 0, .null, .int 0, .int 0])), (pi, .inr (4, [.int 0, .ref G.1, .int 0])), (o_658, .inr (4, [.int 0, .ref G.1, .int 0]))] H := hP
        have hD : va_D A [(mo, .inr (16, [.int 0, .ref gl, .ref po, .ref pi, .ref bu, .ref pa, .int mt, .int mh, .int 40, .int 0, .null, .int 0, .int 0])), (pi, .inr (4, [.int 0, .ref G.1, .int 0])), (o_658, .inr (4, [.int 0, .ref G.1, .int 0]))] := hD
        refine lv_aload_n hx hb dX11_set_138 rfl (lv_at hl 2 rfl) ?_
        refine lv_aload hx hb dX11_set_139 (lv_at hl 1 rfl) ?_
        refine lv_iconst (v := 0) hx hb dX11_set_141 (by decide) ?_
        obtain ⟨nn, h2, h6, rfl⟩ := inR_26 c_648
        refine lv_iload_n hx hb dX11_set_142 rfl (lv_at hl 3 rfl) ?_
        refine va_newa (D := D) (cl := vwCl) (atype := .int) (ty := .int) (N' := nn) (a0 := (nn, .inl (fun _ => 0))) hx hb (hts (.arrayClass .int) (by decide +kernel)) rfl hK hP hD hS hA (fun _ => rfl) (nI_pos (by omega)) (nI_clamp (by omega)) (by show nn * 4 ≤ 536870912; omega) (Nat.le_of_ble_eq_true rfl) (by show 3 + nn ≤ 9; omega) dX11_set_143 (fun o_663 cA_664 H hK hP hD hS => ?_)
        have hP : va_P D vwCl [(mo, .inr (16, [.int 0, .ref gl, .ref po, .ref pi, .ref bu, .ref pa, .int mt, .int mh, .int 40, .int 0, .null, .int 0, .int 0])), (pi, .inr (4, [.int 0, .ref G.1, .int 0])), (o_658, .inr (4, [.int 0, .ref G.1, .int 0])), (o_663, .inl (cA_664, nn, .inl (fun _ => 0)))] H := hP
        have hD : va_D A [(mo, .inr (16, [.int 0, .ref gl, .ref po, .ref pi, .ref bu, .ref pa, .int mt, .int mh, .int 40, .int 0, .null, .int 0, .int 0])), (pi, .inr (4, [.int 0, .ref G.1, .int 0])), (o_658, .inr (4, [.int 0, .ref G.1, .int 0])), (o_663, .inl (cA_664, nn, .inl (fun _ => 0)))] := hD
        have hK : va_K D vwCl [(cA_664, .int)] s := hK
        refine W.widen (k := 2) (n := 9) (by omega) (by omega) ?_
        refine lv_iconst (v := 0) hx hb dX11_set_145 (by decide) ?_
        have hFc := va_free (wc := [(o_658, .inr (4, [.int 0, .ref G.1, .int 0])), (o_663, .inl (cA_664, nn, .inl (fun _ => 0)))]) hD hS hA [2, 3] rfl
        refine va_callv (va_runV (As := [.ref o_658, .int 0, .ref o_663, .int 0]) (rest := []) ⟨hx, hb, hml, hown, hts⟩ (zc_X11_choose l D G mo o_658 o_663 nn cA_664 H.size (by omega) (by omega)) (cwV 4 hts gzX11_set_X11_choose_306 rfl rfl rfl (by decide +kernel) ⟨(Nat.le_of_ble_eq_true rfl), (Nat.le_of_ble_eq_true rfl)⟩) ⟨p_RW_blind, va_recv hK hP (ci := 16) (q0 := 0) rfl rfl, (p_RW_at (tc := [(cA_664, .int)]) (wc := [(o_658, .inr (4, [.int 0, .ref G.1, .int 0])), (o_663, .inl (cA_664, nn, .inl (fun _ => 0)))]) hP hK hD hS hA hT hZ [2, 3] [0] rfl rfl (by decide) rfl [.ref mo, .ref o_658, .int 0, .ref o_663, .int 0])⟩ rfl rfl hl.1 rfl (lv_room (Nat.le_of_ble_eq_true rfl)) dX11_set_146 ⟨(Nat.le_of_ble_eq_true rfl), (Nat.le_of_ble_eq_true rfl)⟩) hS (fun q _ h => hFc q h) hFc (fun u t H locs ht hvm w_666 hB hz1 hk1 hS => ?_)
        obtain ⟨hP, hD, hK⟩ := q_join (D := D) (wc := [(o_658, .inr (4, [.int 0, .ref G.1, .int 0])), (o_663, .inl (cA_664, nn, .inl (fun _ => 0)))]) (wr := [(mo, .inr (16, [.int 0, .ref gl, .ref po, .ref pi, .ref bu, .ref pa, .int mt, .int mh, .int 40, .int 0, .null, .int 0, .int 0])), (pi, .inr (4, [.int 0, .ref G.1, .int 0]))]) (w1 := [(o_658, .inr (4, [.int 0, .ref G.1, .int 0]))]) (tyr := []) (ty1 := [(cA_664, .int)]) hP hD hK [2, 3] [0, 1] [] rfl rfl (by decide) (by decide) rfl hFc hk1 ht hvm hB
        have hP : va_P D vwCl [(mo, .inr (16, [.int 0, .ref gl, .ref po, .ref pi, .ref bu, .ref pa, .int mt, .int mh, .int 40, .int 0, .null, .int 0, .int 0])), (pi, .inr (4, [.int 0, .ref G.1, .int 0])), (o_658, .inr (4, [.int 0, .ref G.1, .int 0]))] H := hP
        have hD : va_D A [(mo, .inr (16, [.int 0, .ref gl, .ref po, .ref pi, .ref bu, .ref pa, .int mt, .int mh, .int 40, .int 0, .null, .int 0, .int 0])), (pi, .inr (4, [.int 0, .ref G.1, .int 0])), (o_658, .inr (4, [.int 0, .ref G.1, .int 0]))] := hD
        have hK : va_K D vwCl [(cA_664, .int)] s := hK
        refine lv_aload_n hx hb dX11_set_149 rfl (lv_at hl 2 rfl) ?_
        refine lv_aload_n hx hb dX11_set_150 rfl (lv_at hl 2 rfl) ?_
        refine va_get (D := D) (cl := vwCl) (ci := 16) (v := .null) (C := RX11) (T := TX11) (N := 13) hx hb hts zuX11_set_X11 hown hK hP 0 rfl rfl 10 (by decide) (hts (.fieldLink RX11 289 "GatherhouseModel" "best" "[I") (by decide +kernel)) (fun _ h9 => h9) rfl dX11_set_151 ?_
        refine lv_ifnonnullN hx hb dX11_set_154 ?_
        refine lv_iconst (v := 2) hx hb dX11_set_157 (by decide) ?_
        refine lv_goto (tgt := 174) hx hb dX11_set_158 (by decide) ?_
        refine va_put (D := D) (cl := vwCl) (ci := 16) (v := .int 2) (ty := .int) (C := RX11) (T := TX11) (N := 13) hx hb hts zuX11_set_X11 tyX11 tyX11_ok nmX11 hown hK hP hD hS 0 rfl rfl 0 (by decide) (hts (.fieldLink RX11 41 "GatherhouseModel" "thrown" "I") (by decide +kernel)) (fun _ h9 => h9) rfl (by decide +kernel) rfl rfl (Nat.le_of_ble_eq_true rfl) dX11_set_174 (fun H locs hP hD hS => ?_)
        have hP : va_P D vwCl [(mo, .inr (16, [.int 2, .ref gl, .ref po, .ref pi, .ref bu, .ref pa, .int mt, .int mh, .int 40, .int 0, .null, .int 0, .int 0])), (pi, .inr (4, [.int 0, .ref G.1, .int 0])), (o_658, .inr (4, [.int 0, .ref G.1, .int 0]))] H := hP
        have hD : va_D A [(mo, .inr (16, [.int 2, .ref gl, .ref po, .ref pi, .ref bu, .ref pa, .int mt, .int mh, .int 40, .int 0, .null, .int 0, .int 0])), (pi, .inr (4, [.int 0, .ref G.1, .int 0])), (o_658, .inr (4, [.int 0, .ref G.1, .int 0]))] := hD
        refine lv_aload_n hx hb dX11_set_177 rfl (lv_at hl 2 rfl) ?_
        refine va_get (D := D) (cl := vwCl) (ci := 16) (v := .int 2) (C := RX11) (T := TX11) (N := 13) hx hb hts zuX11_set_X11 hown hK hP 0 rfl rfl 0 (by decide) (hts (.fieldLink RX11 41 "GatherhouseModel" "thrown" "I") (by decide +kernel)) (fun _ h9 => h9) rfl dX11_set_178 ?_
        refine lv_if_le (tgt := 186) hx hb dX11_set_181 (by decide) (fun cc => absurd cc (by decide)) (fun _ => ?_)
        refine lv_iconst (v := 0) hx hb dX11_set_184 (by decide) ?_
        exact W.iret (v := 0) hx hb hr (fun t ht hW => ⟨⟨0, 2, rfl, (by first | exact Or.inl (⟨(by first | assumption | exact inR_1 (by assumption) (by assumption) | exact inR_2 (by assumption) (by assumption) | exact inR_3 (by assumption) | exact inR_4 (by assumption) | exact inR_5 (by assumption) | exact ⟨by assumption, by assumption, by assumption, by assumption⟩ | exact ⟨by assumption, by assumption, by assumption⟩ | exact (fun q => absurd q.1 (by assumption)) | exact (fun q => absurd q.2.1 (by assumption)) | exact (fun q => absurd q.2.2 (by assumption)) | exact (fun q => absurd q.2.2.1 (by assumption)) | exact (fun q => absurd q.2.2.2 (by assumption)) | exact isRole_no (by assumption) (by assumption) (by assumption) (by assumption) | exact isRole_nb (by assumption) (by assumption) (by assumption) (by assumption) | exact isRole_out (by assumption) | exact enc_use (by assumption) (by assumption) (by assumption) | exact enc_103 (by assumption) | exact enc_103 (Eq.symm (by assumption)) | exact enc_115 (Eq.symm (by assumption)) | exact enc_102 (Eq.symm (by assumption)) | exact enc_98 (Eq.symm (by assumption)) | exact isRole_nc (by assumption) (by assumption) (by assumption) (by assumption) | exact enc_115 (by assumption) | exact enc_102 (by assumption) | exact enc_98 (by assumption) | exact Or.inr (by assumption) | rfl | exact Or.inl (by assumption) | exact Or.inr (Or.inl (by assumption)) | exact Or.inr (Or.inr (Or.inl (by assumption))) | exact Or.inr (Or.inr (Or.inr (by assumption))) | decide), rfl, (by first | rfl | assumption)⟩) | exact Or.inr (⟨(by first | assumption | exact inR_1 (by assumption) (by assumption) | exact inR_2 (by assumption) (by assumption) | exact inR_3 (by assumption) | exact inR_4 (by assumption) | exact inR_5 (by assumption) | exact ⟨by assumption, by assumption, by assumption, by assumption⟩ | exact ⟨by assumption, by assumption, by assumption⟩ | exact (fun q => absurd q.1 (by assumption)) | exact (fun q => absurd q.2.1 (by assumption)) | exact (fun q => absurd q.2.2 (by assumption)) | exact (fun q => absurd q.2.2.1 (by assumption)) | exact (fun q => absurd q.2.2.2 (by assumption)) | exact isRole_no (by assumption) (by assumption) (by assumption) (by assumption) | exact isRole_nb (by assumption) (by assumption) (by assumption) (by assumption) | exact isRole_out (by assumption) | exact enc_use (by assumption) (by assumption) (by assumption) | exact enc_103 (by assumption) | exact enc_103 (Eq.symm (by assumption)) | exact enc_115 (Eq.symm (by assumption)) | exact enc_102 (Eq.symm (by assumption)) | exact enc_98 (Eq.symm (by assumption)) | exact isRole_nc (by assumption) (by assumption) (by assumption) (by assumption) | exact enc_115 (by assumption) | exact enc_102 (by assumption) | exact enc_98 (by assumption) | exact Or.inr (by assumption) | rfl | exact Or.inl (by assumption) | exact Or.inr (Or.inl (by assumption)) | exact Or.inr (Or.inr (Or.inl (by assumption))) | exact Or.inr (Or.inr (Or.inr (by assumption))) | decide), rfl, (by first | rfl | assumption)⟩)), q_RW_mk hP hK hD [0] [] rfl rfl (by decide) rfl ht hW.alike⟩, hS.F ht⟩) hS.2.2 dX11_set_185
      · refine lv_if_eq (tgt := 35) hx hb dX11_set_28 (by decide) (fun _ => ?_) (fun cc => absurd (by decide) cc)
        refine lv_iconst (v := 1) hx hb dX11_set_35 (by decide) ?_
        refine va_put (D := D) (cl := vwCl) (ci := 16) (v := .int 1) (ty := .int) (C := RX11) (T := TX11) (N := 13) hx hb hts zuX11_set_X11 tyX11 tyX11_ok nmX11 hown hK hP hD hS 0 rfl rfl 0 (by decide) (hts (.fieldLink RX11 41 "GatherhouseModel" "thrown" "I") (by decide +kernel)) (fun _ h9 => h9) rfl (by decide +kernel) rfl rfl (Nat.le_of_ble_eq_true rfl) dX11_set_36 (fun H locs hP hD hS => ?_)
        have hP : va_P D vwCl [(mo, .inr (16, [.int 1, .ref gl, .ref po, .ref pi, .ref bu, .ref pa, .int mt, .int mh, .int 40, .int 0, .null, .int 0, .int 0])), (pi, .inr (4, [.int 0, .ref G.1, .int 0]))] H := hP
        have hD : va_D A [(mo, .inr (16, [.int 1, .ref gl, .ref po, .ref pi, .ref bu, .ref pa, .int mt, .int mh, .int 40, .int 0, .null, .int 0, .int 0])), (pi, .inr (4, [.int 0, .ref G.1, .int 0]))] := hD
        refine lv_aload_n hx hb dX11_set_39 rfl (lv_at hl 0 rfl) ?_
        refine va_get (D := D) (cl := vwCl) (ci := 16) (v := .int 1) (C := RX11) (T := TX11) (N := 13) hx hb hts zuX11_set_X11 hown hK hP 0 rfl rfl 0 (by decide) (hts (.fieldLink RX11 41 "GatherhouseModel" "thrown" "I") (by decide +kernel)) (fun _ h9 => h9) rfl dX11_set_40 ?_
        refine lv_if_le (tgt := 48) hx hb dX11_set_43 (by decide) (fun cc => absurd cc (by decide)) (fun _ => ?_)
        refine lv_iconst (v := 0) hx hb dX11_set_46 (by decide) ?_
        refine W.widen (k := 2) (n := 9) (Nat.le_of_ble_eq_true rfl) (Nat.le_of_ble_eq_true rfl) ?_
        exact W.iret (v := 0) hx hb hr (fun t ht hW => ⟨⟨0, 1, rfl, (by first | exact Or.inl (⟨(by first | assumption | exact inR_1 (by assumption) (by assumption) | exact inR_2 (by assumption) (by assumption) | exact inR_3 (by assumption) | exact inR_4 (by assumption) | exact inR_5 (by assumption) | exact ⟨by assumption, by assumption, by assumption, by assumption⟩ | exact ⟨by assumption, by assumption, by assumption⟩ | exact (fun q => absurd q.1 (by assumption)) | exact (fun q => absurd q.2.1 (by assumption)) | exact (fun q => absurd q.2.2 (by assumption)) | exact (fun q => absurd q.2.2.1 (by assumption)) | exact (fun q => absurd q.2.2.2 (by assumption)) | exact isRole_no (by assumption) (by assumption) (by assumption) (by assumption) | exact isRole_nb (by assumption) (by assumption) (by assumption) (by assumption) | exact isRole_out (by assumption) | exact enc_use (by assumption) (by assumption) (by assumption) | exact enc_103 (by assumption) | exact enc_103 (Eq.symm (by assumption)) | exact enc_115 (Eq.symm (by assumption)) | exact enc_102 (Eq.symm (by assumption)) | exact enc_98 (Eq.symm (by assumption)) | exact isRole_nc (by assumption) (by assumption) (by assumption) (by assumption) | exact enc_115 (by assumption) | exact enc_102 (by assumption) | exact enc_98 (by assumption) | exact Or.inr (by assumption) | rfl | exact Or.inl (by assumption) | exact Or.inr (Or.inl (by assumption)) | exact Or.inr (Or.inr (Or.inl (by assumption))) | exact Or.inr (Or.inr (Or.inr (by assumption))) | decide), rfl, (by first | rfl | assumption)⟩) | exact Or.inr (⟨(by first | assumption | exact inR_1 (by assumption) (by assumption) | exact inR_2 (by assumption) (by assumption) | exact inR_3 (by assumption) | exact inR_4 (by assumption) | exact inR_5 (by assumption) | exact ⟨by assumption, by assumption, by assumption, by assumption⟩ | exact ⟨by assumption, by assumption, by assumption⟩ | exact (fun q => absurd q.1 (by assumption)) | exact (fun q => absurd q.2.1 (by assumption)) | exact (fun q => absurd q.2.2 (by assumption)) | exact (fun q => absurd q.2.2.1 (by assumption)) | exact (fun q => absurd q.2.2.2 (by assumption)) | exact isRole_no (by assumption) (by assumption) (by assumption) (by assumption) | exact isRole_nb (by assumption) (by assumption) (by assumption) (by assumption) | exact isRole_out (by assumption) | exact enc_use (by assumption) (by assumption) (by assumption) | exact enc_103 (by assumption) | exact enc_103 (Eq.symm (by assumption)) | exact enc_115 (Eq.symm (by assumption)) | exact enc_102 (Eq.symm (by assumption)) | exact enc_98 (Eq.symm (by assumption)) | exact isRole_nc (by assumption) (by assumption) (by assumption) (by assumption) | exact enc_115 (by assumption) | exact enc_102 (by assumption) | exact enc_98 (by assumption) | exact Or.inr (by assumption) | rfl | exact Or.inl (by assumption) | exact Or.inr (Or.inl (by assumption)) | exact Or.inr (Or.inr (Or.inl (by assumption))) | exact Or.inr (Or.inr (Or.inr (by assumption))) | decide), rfl, (by first | rfl | assumption)⟩)), q_RW_mk hP hK hD [0] [] rfl rfl (by decide) rfl ht hW.alike⟩, hS.F ht⟩) hS.2.2 dX11_set_47
    · refine lv_if_eq (tgt := 35) hx hb dX11_set_18 (by decide) (fun _ => ?_) (fun cc => absurd (by decide) cc)
      refine lv_iconst (v := 1) hx hb dX11_set_35 (by decide) ?_
      refine va_put (D := D) (cl := vwCl) (ci := 16) (v := .int 1) (ty := .int) (C := RX11) (T := TX11) (N := 13) hx hb hts zuX11_set_X11 tyX11 tyX11_ok nmX11 hown hK hP hD hS 0 rfl rfl 0 (by decide) (hts (.fieldLink RX11 41 "GatherhouseModel" "thrown" "I") (by decide +kernel)) (fun _ h9 => h9) rfl (by decide +kernel) rfl rfl (Nat.le_of_ble_eq_true rfl) dX11_set_36 (fun H locs hP hD hS => ?_)
      have hP : va_P D vwCl [(mo, .inr (16, [.int 1, .ref gl, .ref po, .ref pi, .ref bu, .ref pa, .int mt, .int mh, .int 40, .int 0, .null, .int 0, .int 0])), (pi, .inr (4, [.int 0, .ref G.1, .int 0]))] H := hP
      have hD : va_D A [(mo, .inr (16, [.int 1, .ref gl, .ref po, .ref pi, .ref bu, .ref pa, .int mt, .int mh, .int 40, .int 0, .null, .int 0, .int 0])), (pi, .inr (4, [.int 0, .ref G.1, .int 0]))] := hD
      refine lv_aload_n hx hb dX11_set_39 rfl (lv_at hl 0 rfl) ?_
      refine va_get (D := D) (cl := vwCl) (ci := 16) (v := .int 1) (C := RX11) (T := TX11) (N := 13) hx hb hts zuX11_set_X11 hown hK hP 0 rfl rfl 0 (by decide) (hts (.fieldLink RX11 41 "GatherhouseModel" "thrown" "I") (by decide +kernel)) (fun _ h9 => h9) rfl dX11_set_40 ?_
      refine lv_if_le (tgt := 48) hx hb dX11_set_43 (by decide) (fun cc => absurd cc (by decide)) (fun _ => ?_)
      refine lv_iconst (v := 0) hx hb dX11_set_46 (by decide) ?_
      refine W.widen (k := 2) (n := 9) (Nat.le_of_ble_eq_true rfl) (Nat.le_of_ble_eq_true rfl) ?_
      exact W.iret (v := 0) hx hb hr (fun t ht hW => ⟨⟨0, 1, rfl, (by first | exact Or.inl (⟨(by first | assumption | exact inR_1 (by assumption) (by assumption) | exact inR_2 (by assumption) (by assumption) | exact inR_3 (by assumption) | exact inR_4 (by assumption) | exact inR_5 (by assumption) | exact ⟨by assumption, by assumption, by assumption, by assumption⟩ | exact ⟨by assumption, by assumption, by assumption⟩ | exact (fun q => absurd q.1 (by assumption)) | exact (fun q => absurd q.2.1 (by assumption)) | exact (fun q => absurd q.2.2 (by assumption)) | exact (fun q => absurd q.2.2.1 (by assumption)) | exact (fun q => absurd q.2.2.2 (by assumption)) | exact isRole_no (by assumption) (by assumption) (by assumption) (by assumption) | exact isRole_nb (by assumption) (by assumption) (by assumption) (by assumption) | exact isRole_out (by assumption) | exact enc_use (by assumption) (by assumption) (by assumption) | exact enc_103 (by assumption) | exact enc_103 (Eq.symm (by assumption)) | exact enc_115 (Eq.symm (by assumption)) | exact enc_102 (Eq.symm (by assumption)) | exact enc_98 (Eq.symm (by assumption)) | exact isRole_nc (by assumption) (by assumption) (by assumption) (by assumption) | exact enc_115 (by assumption) | exact enc_102 (by assumption) | exact enc_98 (by assumption) | exact Or.inr (by assumption) | rfl | exact Or.inl (by assumption) | exact Or.inr (Or.inl (by assumption)) | exact Or.inr (Or.inr (Or.inl (by assumption))) | exact Or.inr (Or.inr (Or.inr (by assumption))) | decide), rfl, (by first | rfl | assumption)⟩) | exact Or.inr (⟨(by first | assumption | exact inR_1 (by assumption) (by assumption) | exact inR_2 (by assumption) (by assumption) | exact inR_3 (by assumption) | exact inR_4 (by assumption) | exact inR_5 (by assumption) | exact ⟨by assumption, by assumption, by assumption, by assumption⟩ | exact ⟨by assumption, by assumption, by assumption⟩ | exact (fun q => absurd q.1 (by assumption)) | exact (fun q => absurd q.2.1 (by assumption)) | exact (fun q => absurd q.2.2 (by assumption)) | exact (fun q => absurd q.2.2.1 (by assumption)) | exact (fun q => absurd q.2.2.2 (by assumption)) | exact isRole_no (by assumption) (by assumption) (by assumption) (by assumption) | exact isRole_nb (by assumption) (by assumption) (by assumption) (by assumption) | exact isRole_out (by assumption) | exact enc_use (by assumption) (by assumption) (by assumption) | exact enc_103 (by assumption) | exact enc_103 (Eq.symm (by assumption)) | exact enc_115 (Eq.symm (by assumption)) | exact enc_102 (Eq.symm (by assumption)) | exact enc_98 (Eq.symm (by assumption)) | exact isRole_nc (by assumption) (by assumption) (by assumption) (by assumption) | exact enc_115 (by assumption) | exact enc_102 (by assumption) | exact enc_98 (by assumption) | exact Or.inr (by assumption) | rfl | exact Or.inl (by assumption) | exact Or.inr (Or.inl (by assumption)) | exact Or.inr (Or.inr (Or.inl (by assumption))) | exact Or.inr (Or.inr (Or.inr (by assumption))) | decide), rfl, (by first | rfl | assumption)⟩)), q_RW_mk hP hK hD [0] [] rfl rfl (by decide) rfl ht hW.alike⟩, hS.F ht⟩) hS.2.2 dX11_set_47
  · refine lv_if_eq (tgt := 35) hx hb dX11_set_8 (by decide) (fun _ => ?_) (fun cc => absurd (by decide) cc)
    refine lv_iconst (v := 1) hx hb dX11_set_35 (by decide) ?_
    refine va_put (D := D) (cl := vwCl) (ci := 16) (v := .int 1) (ty := .int) (C := RX11) (T := TX11) (N := 13) hx hb hts zuX11_set_X11 tyX11 tyX11_ok nmX11 hown hK hP hD hS 0 rfl rfl 0 (by decide) (hts (.fieldLink RX11 41 "GatherhouseModel" "thrown" "I") (by decide +kernel)) (fun _ h9 => h9) rfl (by decide +kernel) rfl rfl (Nat.le_of_ble_eq_true rfl) dX11_set_36 (fun H locs hP hD hS => ?_)
    have hP : va_P D vwCl [(mo, .inr (16, [.int 1, .ref gl, .ref po, .ref pi, .ref bu, .ref pa, .int mt, .int mh, .int 40, .int 0, .null, .int 0, .int 0])), (pi, .inr (4, [.int 0, .ref G.1, .int 0]))] H := hP
    have hD : va_D A [(mo, .inr (16, [.int 1, .ref gl, .ref po, .ref pi, .ref bu, .ref pa, .int mt, .int mh, .int 40, .int 0, .null, .int 0, .int 0])), (pi, .inr (4, [.int 0, .ref G.1, .int 0]))] := hD
    refine lv_aload_n hx hb dX11_set_39 rfl (lv_at hl 0 rfl) ?_
    refine va_get (D := D) (cl := vwCl) (ci := 16) (v := .int 1) (C := RX11) (T := TX11) (N := 13) hx hb hts zuX11_set_X11 hown hK hP 0 rfl rfl 0 (by decide) (hts (.fieldLink RX11 41 "GatherhouseModel" "thrown" "I") (by decide +kernel)) (fun _ h9 => h9) rfl dX11_set_40 ?_
    refine lv_if_le (tgt := 48) hx hb dX11_set_43 (by decide) (fun cc => absurd cc (by decide)) (fun _ => ?_)
    refine lv_iconst (v := 0) hx hb dX11_set_46 (by decide) ?_
    refine W.widen (k := 2) (n := 9) (Nat.le_of_ble_eq_true rfl) (Nat.le_of_ble_eq_true rfl) ?_
    exact W.iret (v := 0) hx hb hr (fun t ht hW => ⟨⟨0, 1, rfl, (by first | exact Or.inl (⟨(by first | assumption | exact inR_1 (by assumption) (by assumption) | exact inR_2 (by assumption) (by assumption) | exact inR_3 (by assumption) | exact inR_4 (by assumption) | exact inR_5 (by assumption) | exact ⟨by assumption, by assumption, by assumption, by assumption⟩ | exact ⟨by assumption, by assumption, by assumption⟩ | exact (fun q => absurd q.1 (by assumption)) | exact (fun q => absurd q.2.1 (by assumption)) | exact (fun q => absurd q.2.2 (by assumption)) | exact (fun q => absurd q.2.2.1 (by assumption)) | exact (fun q => absurd q.2.2.2 (by assumption)) | exact isRole_no (by assumption) (by assumption) (by assumption) (by assumption) | exact isRole_nb (by assumption) (by assumption) (by assumption) (by assumption) | exact isRole_out (by assumption) | exact enc_use (by assumption) (by assumption) (by assumption) | exact enc_103 (by assumption) | exact enc_103 (Eq.symm (by assumption)) | exact enc_115 (Eq.symm (by assumption)) | exact enc_102 (Eq.symm (by assumption)) | exact enc_98 (Eq.symm (by assumption)) | exact isRole_nc (by assumption) (by assumption) (by assumption) (by assumption) | exact enc_115 (by assumption) | exact enc_102 (by assumption) | exact enc_98 (by assumption) | exact Or.inr (by assumption) | rfl | exact Or.inl (by assumption) | exact Or.inr (Or.inl (by assumption)) | exact Or.inr (Or.inr (Or.inl (by assumption))) | exact Or.inr (Or.inr (Or.inr (by assumption))) | decide), rfl, (by first | rfl | assumption)⟩) | exact Or.inr (⟨(by first | assumption | exact inR_1 (by assumption) (by assumption) | exact inR_2 (by assumption) (by assumption) | exact inR_3 (by assumption) | exact inR_4 (by assumption) | exact inR_5 (by assumption) | exact ⟨by assumption, by assumption, by assumption, by assumption⟩ | exact ⟨by assumption, by assumption, by assumption⟩ | exact (fun q => absurd q.1 (by assumption)) | exact (fun q => absurd q.2.1 (by assumption)) | exact (fun q => absurd q.2.2 (by assumption)) | exact (fun q => absurd q.2.2.1 (by assumption)) | exact (fun q => absurd q.2.2.2 (by assumption)) | exact isRole_no (by assumption) (by assumption) (by assumption) (by assumption) | exact isRole_nb (by assumption) (by assumption) (by assumption) (by assumption) | exact isRole_out (by assumption) | exact enc_use (by assumption) (by assumption) (by assumption) | exact enc_103 (by assumption) | exact enc_103 (Eq.symm (by assumption)) | exact enc_115 (Eq.symm (by assumption)) | exact enc_102 (Eq.symm (by assumption)) | exact enc_98 (Eq.symm (by assumption)) | exact isRole_nc (by assumption) (by assumption) (by assumption) (by assumption) | exact enc_115 (by assumption) | exact enc_102 (by assumption) | exact enc_98 (by assumption) | exact Or.inr (by assumption) | rfl | exact Or.inl (by assumption) | exact Or.inr (Or.inl (by assumption)) | exact Or.inr (Or.inr (Or.inl (by assumption))) | exact Or.inr (Or.inr (Or.inr (by assumption))) | decide), rfl, (by first | rfl | assumption)⟩)), q_RW_mk hP hK hD [0] [] rfl rfl (by decide) rfl ht hW.alike⟩, hS.F ht⟩) hS.2.2 dX11_set_47
theorem zgU_X7 : (u_ws RX7 TX7 4).all goodWord = true := by decide +kernel
theorem dX11_glass_0 : decode cX11_glass 0 = .ok (.iload_n 1, 1) := by decide +kernel
theorem dX11_glass_1 : decode cX11_glass 1 = .ok (.sipush 600, 3) := by decide +kernel
theorem dX11_glass_4 : decode cX11_glass 4 = .ok (.sipush 1100, 3) := by decide +kernel
theorem dX11_glass_7 : decode cX11_glass 7 = .ok (.invokestatic 47, 3) := by decide +kernel
theorem dX11_glass_10 : decode cX11_glass 10 = .ok (.ifCond .eq 41, 3) := by decide +kernel
theorem dX11_glass_13 : decode cX11_glass 13 = .ok (.iload_n 2, 1) := by decide +kernel
theorem dX11_glass_14 : decode cX11_glass 14 = .ok (.iload_n 1, 1) := by decide +kernel
theorem dX11_glass_15 : decode cX11_glass 15 = .ok (.sipush 1100, 3) := by decide +kernel
theorem dX11_glass_18 : decode cX11_glass 18 = .ok (.invokestatic 47, 3) := by decide +kernel
theorem dX11_glass_21 : decode cX11_glass 21 = .ok (.ifCond .eq 30, 3) := by decide +kernel
theorem dX11_glass_24 : decode cX11_glass 24 = .ok (.iload_n 3, 1) := by decide +kernel
theorem dX11_glass_25 : decode cX11_glass 25 = .ok (.bipush 50, 2) := by decide +kernel
theorem dX11_glass_27 : decode cX11_glass 27 = .ok (.sipush 150, 3) := by decide +kernel
theorem dX11_glass_30 : decode cX11_glass 30 = .ok (.invokestatic 47, 3) := by decide +kernel
theorem dX11_glass_33 : decode cX11_glass 33 = .ok (.ifCond .eq 18, 3) := by decide +kernel
theorem dX11_glass_36 : decode cX11_glass 36 = .ok (.iload 4, 2) := by decide +kernel
theorem dX11_glass_38 : decode cX11_glass 38 = .ok (.iconst 0, 1) := by decide +kernel
theorem dX11_glass_39 : decode cX11_glass 39 = .ok (.bipush 9, 2) := by decide +kernel
theorem dX11_glass_41 : decode cX11_glass 41 = .ok (.invokestatic 47, 3) := by decide +kernel
theorem dX11_glass_44 : decode cX11_glass 44 = .ok (.ifCond .eq 7, 3) := by decide +kernel
theorem dX11_glass_47 : decode cX11_glass 47 = .ok (.iconst 1, 1) := by decide +kernel
theorem dX11_glass_48 : decode cX11_glass 48 = .ok (.goto 4, 3) := by decide +kernel
theorem dX11_glass_52 : decode cX11_glass 52 = .ok (.istore 5, 2) := by decide +kernel
theorem dX11_glass_54 : decode cX11_glass 54 = .ok (.aload_n 0, 1) := by decide +kernel
theorem dX11_glass_55 : decode cX11_glass 55 = .ok (.iload 5, 2) := by decide +kernel
theorem dX11_glass_57 : decode cX11_glass 57 = .ok (.ifCond .ne 7, 3) := by decide +kernel
theorem dX11_glass_64 : decode cX11_glass 64 = .ok (.aload_n 0, 1) := by decide +kernel
theorem dX11_glass_65 : decode cX11_glass 65 = .ok (.getfield 10, 3) := by decide +kernel
theorem dX11_glass_68 : decode cX11_glass 68 = .ok (.invokevirtual 44, 3) := by decide +kernel
theorem dX11_glass_71 : decode cX11_glass 71 = .ok (.bipush 6, 2) := by decide +kernel
theorem dX11_glass_73 : decode cX11_glass 73 = .ok (.if_icmp .ne 7, 3) := by decide +kernel
theorem dX11_glass_80 : decode cX11_glass 80 = .ok (.iconst 0, 1) := by decide +kernel
theorem dX11_glass_81 : decode cX11_glass 81 = .ok (.putfield 41, 3) := by decide +kernel
theorem dX11_glass_84 : decode cX11_glass 84 = .ok (.aload_n 0, 1) := by decide +kernel
theorem dX11_glass_85 : decode cX11_glass 85 = .ok (.getfield 41, 3) := by decide +kernel
theorem dX11_glass_88 : decode cX11_glass 88 = .ok (.ifCond .le 5, 3) := by decide +kernel
theorem dX11_glass_93 : decode cX11_glass 93 = .ok (.aload_n 0, 1) := by decide +kernel
theorem dX11_glass_94 : decode cX11_glass 94 = .ok (.getfield 10, 3) := by decide +kernel
theorem dX11_glass_97 : decode cX11_glass 97 = .ok (.new 64, 3) := by decide +kernel
theorem dX11_glass_100 : decode cX11_glass 100 = .ok (.dup, 1) := by decide +kernel
theorem dX11_glass_101 : decode cX11_glass 101 = .ok (.iload_n 1, 1) := by decide +kernel
theorem dX11_glass_102 : decode cX11_glass 102 = .ok (.iload_n 2, 1) := by decide +kernel
theorem dX11_glass_103 : decode cX11_glass 103 = .ok (.iload_n 3, 1) := by decide +kernel
theorem dX11_glass_104 : decode cX11_glass 104 = .ok (.iload 4, 2) := by decide +kernel
theorem dX11_glass_106 : decode cX11_glass 106 = .ok (.invokespecial 66, 3) := by decide +kernel
theorem dX11_glass_109 : decode cX11_glass 109 = .ok (.invokevirtual 69, 3) := by decide +kernel
theorem dX11_glass_112 : decode cX11_glass 112 = .ok (.pop, 1) := by decide +kernel
theorem dX11_glass_113 : decode cX11_glass 113 = .ok (.aload_n 0, 1) := by decide +kernel
theorem dX11_glass_114 : decode cX11_glass 114 = .ok (.getfield 10, 3) := by decide +kernel
theorem dX11_glass_117 : decode cX11_glass 117 = .ok (.invokevirtual 44, 3) := by decide +kernel
theorem dX11_glass_120 : decode cX11_glass 120 = .ok (.iconst 1, 1) := by decide +kernel
theorem dX11_glass_121 : decode cX11_glass 121 = .ok (.isub, 1) := by decide +kernel
theorem dX11_glass_122 : decode cX11_glass 122 = .ok (.ireturn, 1) := by decide +kernel
theorem dX11_glass_51 : decode cX11_glass 51 = .ok (.iconst 0, 1) := by decide +kernel
theorem dX11_glass_60 : decode cX11_glass 60 = .ok (.iconst 1, 1) := by decide +kernel
theorem dX11_glass_61 : decode cX11_glass 61 = .ok (.goto 20, 3) := by decide +kernel
theorem dX11_glass_91 : decode cX11_glass 91 = .ok (.iconst 0, 1) := by decide +kernel
theorem dX11_glass_92 : decode cX11_glass 92 = .ok (.ireturn, 1) := by decide +kernel
def wzEX11_glass : List Cond := [.code yX11_glass cX11_glass 6 (some .int), .methodLink RX11 47 yX11_in, .static yX11_in, .initialized RX11, .code yX11_in cX11_in 3 (some .boolean), .fieldLink RX11 10 "GatherhouseModel" "glasses" "Ljava/util/ArrayList;", .methodLink RX11 44 yJx4a65c_size_8abf5, .instanceMethod yJx4a65c_size_8abf5, .selects RJx4a65c yJx4a65c_size_8abf5 yJx4a65c_size_8abf5, .initialized RJx4a65c, .code yJx4a65c_size_8abf5 cJx4a65c_size_8abf5 1 (some .int), .fieldLink RJx4a65c 48 "java/util/ArrayList" "size" "I", .fieldLink RX11 41 "GatherhouseModel" "thrown" "I", .classLink RX11 64 RX7, .instantiable RX7 4, .initialized RX7, .code yX7_init cX7_init 5 none, .methodLink RX7 1 objectInit, .instanceMethod objectInit, .code objectInit ⟨#[0xb1]⟩ 1 none, .fieldLink RX7 7 "GatherhouseModel$Glass" "low" "I", .fieldLink RX7 13 "GatherhouseModel$Glass" "high" "I", .fieldLink RX7 16 "GatherhouseModel$Glass" "expansion" "I", .fieldLink RX7 19 "GatherhouseModel$Glass" "colour" "I", .instanceMethod yX7_init, .methodLink RX11 66 yX7_init, .methodLink RX11 69 yJx4a65c_add_9ea2d, .instanceMethod yJx4a65c_add_9ea2d, .selects RJx4a65c yJx4a65c_add_9ea2d yJx4a65c_add_9ea2d, .code yJx4a65c_add_9ea2d cJx4a65c_add_9ea2d 2 (some .boolean), .sameField "java/util/ArrayList" "java/util/AbstractList" "modCount" "I", .fieldLink RJx4a65c 63 "java/util/ArrayList" "modCount" "I", .fieldLink RJx4a65c 9 "java/util/ArrayList" "elementData" "[Ljava/lang/Object;", .methodLink RJx4a65c 131 yJx4a65c_add_72be8, .instanceMethod yJx4a65c_add_72be8, .selects RJx4a65c yJx4a65c_add_72be8 yJx4a65c_add_72be8, .code yJx4a65c_add_72be8 cJx4a65c_add_72be8 4 none, .methodLink RJx4a65c 129 yJx4a65c_grow_d5877, .instanceMethod yJx4a65c_grow_d5877, .selects RJx4a65c yJx4a65c_grow_d5877 yJx4a65c_grow_d5877, .code yJx4a65c_grow_d5877 cJx4a65c_grow_d5877 1 (some (.array (.object "java/lang/Object"))), .methodLink RJx4a65c 69 yJx4a65c_grow_92f84, .instanceMethod yJx4a65c_grow_92f84, .selects RJx4a65c yJx4a65c_grow_92f84 yJx4a65c_grow_92f84, .code yJx4a65c_grow_92f84 cJx4a65c_grow_92f84 4 (some (.array (.object "java/lang/Object"))), .fieldLink RJx4a65c 39 "java/util/ArrayList" "DEFAULTCAPACITY_EMPTY_ELEMENTDATA" "[Ljava/lang/Object;", .methodLink RJx4a65c 79 Lib.Math.max.name, .static Lib.Math.max.name, .initialized "java/lang/Math", .code Lib.Math.max.name Lib.Math.max.code 2 (some .int), .classLink RJx4a65c 7 "java/lang/Object"]
def wzX11_glass : List Cond := wzEX11_glass ++ (u_ws RX11 TX11 13 ++ (u_ws RJx4a65c TJx4a65c 3 ++ (u_ws RX7 TX7 4)))
theorem zgEX11_glass : wzEX11_glass.all goodWord = true := by decide +kernel
theorem zuX11_glass_X11 : ∀ w ∈ u_ws RX11 TX11 13, w ∈ wzX11_glass := (fun _ h => (List.mem_append_right _ (List.mem_append_left _ h)))
theorem zuX11_glass_Jx4a65c : ∀ w ∈ u_ws RJx4a65c TJx4a65c 3, w ∈ wzX11_glass := (fun _ h => (List.mem_append_right _ (List.mem_append_right _ (List.mem_append_left _ h))))
theorem zuX11_glass_X7 : ∀ w ∈ u_ws RX7 TX7 4, w ∈ wzX11_glass := (fun _ h => (List.mem_append_right _ (List.mem_append_right _ (List.mem_append_right _ h))))
theorem gzX11_glass_X11_in_47 : GoodIn wzX11_glass (va_wsS RX11 47 yX11_in wzX11_in) := (goodIn_app (z_lift (goodIn_r _ [1, 2, 3] rfl (by decide +kernel))) (goodIn_app (z_lift (goodIn_r wzEX11_in [4] rfl zgEX11_in)) z_gnil))
theorem gzX11_glass_Jx4a65c_size_8abf5_44 : GoodIn wzX11_glass (wsV RX11 44 RJx4a65c yJx4a65c_size_8abf5 wzJx4a65c_size_8abf5) := (goodIn_app (z_lift (goodIn_r _ [6, 7, 8, 9] rfl (by decide +kernel))) (goodIn_app (z_lift (goodIn_r wzEJx4a65c_size_8abf5 [10, 11] rfl zgEJx4a65c_size_8abf5)) (goodIn_sub (fun _ h => (List.mem_append_right _ (List.mem_append_right _ (List.mem_append_left _ h)))) zgU_Jx4a65c)))
theorem gzX11_glass_X7_init_66 : GoodIn wzX11_glass (wzX7_init) := (goodIn_app (z_lift (goodIn_r wzEX7_init [16, 17, 18, 19, 20, 21, 22, 23] rfl zgEX7_init)) (goodIn_sub (fun _ h => (List.mem_append_right _ (List.mem_append_right _ (List.mem_append_right _ h)))) zgU_X7))
theorem gzX11_glass_Jx4a65c_add_9ea2d_69 : GoodIn wzX11_glass (wsV RX11 69 RJx4a65c yJx4a65c_add_9ea2d wzJx4a65c_add_9ea2d) := (goodIn_app (z_lift (goodIn_r _ [26, 27, 28, 9] rfl (by decide +kernel))) (goodIn_app (z_lift (goodIn_r wzEJx4a65c_add_9ea2d [29, 30, 31, 32, 11, 33, 34, 35, 9, 36, 37, 38, 39, 40, 41, 42, 43, 44, 45, 46, 47, 48, 49, 50] rfl zgEJx4a65c_add_9ea2d)) (goodIn_sub (fun _ h => (List.mem_append_right _ (List.mem_append_right _ (List.mem_append_left _ h)))) zgU_Jx4a65c)))
set_option maxHeartbeats 4000000 in
set_option maxRecDepth 100000 in
theorem zc_X11_glass (l : Launch) (D : va_G) (G : Nat × Nat × Nat) (mo : Nat) (gl : Nat) (po : Nat) (pi : Nat) (bu : Nat) (pa : Nat) (th : Int32) (mh : Int32) (mt : Int32) (lo : Int32) (hi : Int32) (xe : Int32) (co : Int32) (sz : Nat) : Met l yX11_glass wzX11_glass ({ frames := 5, cells := 2, slots := 14, locals := 109 }) (va_Pc [.ref mo, .int lo, .int hi, .int xe, .int co] (p_RW D G [] [(mo, .inr (16, [.int th, .ref gl, .ref po, .ref pi, .ref bu, .ref pa, .int mt, .int mh, .int 40, .int 0, .null, .int 0, .int 0])), (gl, .inr (4, [.int 0, .ref G.1, .int 0]))] sz)) (va_Qi (fun (r : Int32) (u : Int32) => match u with | u1 => (gOK lo hi xe co ∧ r = 0 ∧ u1 = 0) ∨ (¬ gOK lo hi xe co ∧ r = 0 ∧ u1 = 1)) (fun (u : Int32) (t : State) => match u with | u1 => q_RW D [] [(mo, .inr (16, [.int u1, .ref gl, .ref po, .ref pi, .ref bu, .ref pa, .int mt, .int mh, .int 40, .int 0, .null, .int 0, .int 0]))] (va_A [(mo, .inr (16, [.int th, .ref gl, .ref po, .ref pi, .ref bu, .ref pa, .int mt, .int mh, .int 40, .int 0, .null, .int 0, .int 0])), (gl, .inr (4, [.int 0, .ref G.1, .int 0]))] sz) t) (va_A [(mo, .inr (16, [.int th, .ref gl, .ref po, .ref pi, .ref bu, .ref pa, .int mt, .int mh, .int 40, .int 0, .null, .int 0, .int 0])), (gl, .inr (4, [.int 0, .ref G.1, .int 0]))] sz)) 2 14 (va_A [(mo, .inr (16, [.int th, .ref gl, .ref po, .ref pi, .ref bu, .ref pa, .int mt, .int mh, .int 40, .int 0, .null, .int 0, .int 0])), (gl, .inr (4, [.int 0, .ref G.1, .int 0]))] sz) := by
  refine Met.ofW (cc := cX11_glass) (maxL := 6) (ret := (some .int)) (by decide) rfl ?_
  intro p e s m args below meth c s₁ B hml hv
  obtain ⟨rfl, hsz, hP, hK, hD0, hT, hZ⟩ := hv
  have hx := B.exec
  have hb := B.bytes
  have hr := B.returns
  have hts := atoms_spec (ws := wzX11_glass) B.pre
  have hown : s.vm.findClass RX11 = some m.cls := findClass_of_methodNamed B.named
  have hlocks := B.notSynchronized
  subst hsz
  have hD := hD0.self (sz := s.heap.size)
  generalize hAe : va_A [(mo, .inr (16, [.int th, .ref gl, .ref po, .ref pi, .ref bu, .ref pa, .int mt, .int mh, .int 40, .int 0, .null, .int 0, .int 0])), (gl, .inr (4, [.int 0, .ref G.1, .int 0]))] s.heap.size = A at hD hZ ⊢
  have hA : ∀ q : Nat, s.heap.size ≤ q → A q := fun q h => by rw [← hAe]; exact Or.inr h
  have hS : va_S A s.heap s.heap [] := va_S.rf
  have hl := lv_entry ([.ref mo, .int lo, .int hi, .int xe, .int co]) (n := 6) (Nat.le_of_ble_eq_true rfl)
  rw [lg_entry_eq]
  generalize (lg_sl ([.ref mo, .int lo, .int hi, .int xe, .int co]) ++ List.replicate (6 - (lg_sl ([.ref mo, .int lo, .int hi, .int xe, .int co])).length) Slot.unset).toArray = ls at hl ⊢
  have hl : lv_has ls 6 [(0, .ref mo), (1, .int lo), (2, .int hi), (3, .int xe), (4, .int co)] := hl
  refine lv_iload_n hx hb dX11_glass_0 rfl (lv_at hl 1 rfl) ?_
  refine lv_sipush (v := 600) hx hb dX11_glass_1 (by decide) ?_
  refine lv_sipush (v := 1100) hx hb dX11_glass_4 (by decide) ?_
  refine vp_callSi (va_runS (As := [.int lo, .int 600, .int 1100]) (rest := []) ⟨hx, hb, hml, hown, hts⟩ (zc_X11_in l D G lo 600 1100) (cwS 3 hts gzX11_glass_X11_in_47 rfl rfl rfl (by decide +kernel) ⟨(Nat.le_of_ble_eq_true rfl), (Nat.le_of_ble_eq_true rfl)⟩) ⟨p_RO_blind, (p_RO_at (tc := []) (wc := []) hP hK hT [] [] rfl rfl [.int lo, .int 600, .int 1100])⟩ rfl rfl hl.1 rfl (lv_room (Nat.le_of_ble_eq_true rfl)) dX11_glass_7 ⟨(Nat.le_of_ble_eq_true rfl), (Nat.le_of_ble_eq_true rfl)⟩).run (fun r_682 w_683 => ?_)
  rcases w_683 with ⟨c_684, rfl⟩ | ⟨c_685, rfl⟩
  · refine lv_if_eq (tgt := 51) hx hb dX11_glass_10 (by decide) (fun cc => absurd cc (by decide)) (fun _ => ?_)
    refine lv_iload_n hx hb dX11_glass_13 rfl (lv_at hl 2 rfl) ?_
    refine lv_iload_n hx hb dX11_glass_14 rfl (lv_at hl 1 rfl) ?_
    refine lv_sipush (v := 1100) hx hb dX11_glass_15 (by decide) ?_
    refine vp_callSi (va_runS (As := [.int hi, .int lo, .int 1100]) (rest := []) ⟨hx, hb, hml, hown, hts⟩ (zc_X11_in l D G hi lo 1100) (cwS 3 hts gzX11_glass_X11_in_47 rfl rfl rfl (by decide +kernel) ⟨(Nat.le_of_ble_eq_true rfl), (Nat.le_of_ble_eq_true rfl)⟩) ⟨p_RO_blind, (p_RO_at (tc := []) (wc := []) hP hK hT [] [] rfl rfl [.int hi, .int lo, .int 1100])⟩ rfl rfl hl.1 rfl (lv_room (Nat.le_of_ble_eq_true rfl)) dX11_glass_18 ⟨(Nat.le_of_ble_eq_true rfl), (Nat.le_of_ble_eq_true rfl)⟩).run (fun r_686 w_687 => ?_)
    rcases w_687 with ⟨c_688, rfl⟩ | ⟨c_689, rfl⟩
    · refine lv_if_eq (tgt := 51) hx hb dX11_glass_21 (by decide) (fun cc => absurd cc (by decide)) (fun _ => ?_)
      refine lv_iload_n hx hb dX11_glass_24 rfl (lv_at hl 3 rfl) ?_
      refine lv_bipush (v := 50) hx hb dX11_glass_25 (by decide) ?_
      refine lv_sipush (v := 150) hx hb dX11_glass_27 (by decide) ?_
      refine vp_callSi (va_runS (As := [.int xe, .int 50, .int 150]) (rest := []) ⟨hx, hb, hml, hown, hts⟩ (zc_X11_in l D G xe 50 150) (cwS 3 hts gzX11_glass_X11_in_47 rfl rfl rfl (by decide +kernel) ⟨(Nat.le_of_ble_eq_true rfl), (Nat.le_of_ble_eq_true rfl)⟩) ⟨p_RO_blind, (p_RO_at (tc := []) (wc := []) hP hK hT [] [] rfl rfl [.int xe, .int 50, .int 150])⟩ rfl rfl hl.1 rfl (lv_room (Nat.le_of_ble_eq_true rfl)) dX11_glass_30 ⟨(Nat.le_of_ble_eq_true rfl), (Nat.le_of_ble_eq_true rfl)⟩).run (fun r_690 w_691 => ?_)
      rcases w_691 with ⟨c_692, rfl⟩ | ⟨c_693, rfl⟩
      · refine lv_if_eq (tgt := 51) hx hb dX11_glass_33 (by decide) (fun cc => absurd cc (by decide)) (fun _ => ?_)
        refine lv_iload hx hb dX11_glass_36 (lv_at hl 4 rfl) ?_
        refine lv_iconst (v := 0) hx hb dX11_glass_38 (by decide) ?_
        refine lv_bipush (v := 9) hx hb dX11_glass_39 (by decide) ?_
        refine vp_callSi (va_runS (As := [.int co, .int 0, .int 9]) (rest := []) ⟨hx, hb, hml, hown, hts⟩ (zc_X11_in l D G co 0 9) (cwS 3 hts gzX11_glass_X11_in_47 rfl rfl rfl (by decide +kernel) ⟨(Nat.le_of_ble_eq_true rfl), (Nat.le_of_ble_eq_true rfl)⟩) ⟨p_RO_blind, (p_RO_at (tc := []) (wc := []) hP hK hT [] [] rfl rfl [.int co, .int 0, .int 9])⟩ rfl rfl hl.1 rfl (lv_room (Nat.le_of_ble_eq_true rfl)) dX11_glass_41 ⟨(Nat.le_of_ble_eq_true rfl), (Nat.le_of_ble_eq_true rfl)⟩).run (fun r_694 w_695 => ?_)
        rcases w_695 with ⟨c_696, rfl⟩ | ⟨c_697, rfl⟩
        · refine lv_if_eq (tgt := 51) hx hb dX11_glass_44 (by decide) (fun cc => absurd cc (by decide)) (fun _ => ?_)
          refine lv_iconst (v := 1) hx hb dX11_glass_47 (by decide) ?_
          refine lv_goto (tgt := 52) hx hb dX11_glass_48 (by decide) ?_
          refine lv_istore (lv' := [(5, .int 1), (0, .ref mo), (1, .int lo), (2, .int hi), (3, .int xe), (4, .int co)]) hx hb dX11_glass_52 hl (by decide) rfl (fun ls hl => ?_)
          refine lv_aload_n hx hb dX11_glass_54 rfl (lv_at hl 1 rfl) ?_
          refine lv_iload hx hb dX11_glass_55 (lv_at hl 0 rfl) ?_
          refine lv_if_ne (tgt := 64) hx hb dX11_glass_57 (by decide) (fun _ => ?_) (fun cc => absurd cc (by decide))
          refine lv_aload_n hx hb dX11_glass_64 rfl (lv_at hl 1 rfl) ?_
          refine va_get (D := D) (cl := vwCl) (ci := 16) (v := .ref gl) (C := RX11) (T := TX11) (N := 13) hx hb hts zuX11_glass_X11 hown hK hP 0 rfl rfl 1 (by decide) (hts (.fieldLink RX11 10 "GatherhouseModel" "glasses" "Ljava/util/ArrayList;") (by decide +kernel)) (fun _ h9 => h9) rfl dX11_glass_65 ?_
          refine vp_callSi (va_runV (As := []) (rest := [.ref mo]) ⟨hx, hb, hml, hown, hts⟩ (zc_Jx4a65c_size_8abf5 l D G gl G.1 0 0) (cwV 0 hts gzX11_glass_Jx4a65c_size_8abf5_44 rfl rfl rfl (by decide +kernel) ⟨(Nat.le_of_ble_eq_true rfl), (Nat.le_of_ble_eq_true rfl)⟩) ⟨p_RO_blind, va_recv hK hP (ci := 4) (q0 := 1) rfl rfl, (p_RO_at (tc := []) (wc := [(gl, .inr (4, [.int 0, .ref G.1, .int 0]))]) hP hK hT [1] [] rfl rfl [.ref gl])⟩ rfl rfl hl.1 rfl (lv_room (Nat.le_of_ble_eq_true rfl)) dX11_glass_68 ⟨(Nat.le_of_ble_eq_true rfl), (Nat.le_of_ble_eq_true rfl)⟩).run (fun r_698 w_699 => ?_)
          obtain rfl := w_699
          refine lv_bipush (v := 6) hx hb dX11_glass_71 (by decide) ?_
          refine lv_icmp_ne (tgt := 80) hx hb dX11_glass_73 (by decide) (fun _ => ?_) (fun cc => absurd cc (by decide))
          refine lv_iconst (v := 0) hx hb dX11_glass_80 (by decide) ?_
          refine va_put (D := D) (cl := vwCl) (ci := 16) (v := .int 0) (ty := .int) (C := RX11) (T := TX11) (N := 13) hx hb hts zuX11_glass_X11 tyX11 tyX11_ok nmX11 hown hK hP hD hS 0 rfl rfl 0 (by decide) (hts (.fieldLink RX11 41 "GatherhouseModel" "thrown" "I") (by decide +kernel)) (fun _ h9 => h9) rfl (by decide +kernel) rfl rfl (Nat.le_of_ble_eq_true rfl) dX11_glass_81 (fun H locs hP hD hS => ?_)
          have hP : va_P D vwCl [(mo, .inr (16, [.int 0, .ref gl, .ref po, .ref pi, .ref bu, .ref pa, .int mt, .int mh, .int 40, .int 0, .null, .int 0, .int 0])), (gl, .inr (4, [.int 0, .ref G.1, .int 0]))] H := hP
          have hD : va_D A [(mo, .inr (16, [.int 0, .ref gl, .ref po, .ref pi, .ref bu, .ref pa, .int mt, .int mh, .int 40, .int 0, .null, .int 0, .int 0])), (gl, .inr (4, [.int 0, .ref G.1, .int 0]))] := hD
          refine lv_aload_n hx hb dX11_glass_84 rfl (lv_at hl 1 rfl) ?_
          refine va_get (D := D) (cl := vwCl) (ci := 16) (v := .int 0) (C := RX11) (T := TX11) (N := 13) hx hb hts zuX11_glass_X11 hown hK hP 0 rfl rfl 0 (by decide) (hts (.fieldLink RX11 41 "GatherhouseModel" "thrown" "I") (by decide +kernel)) (fun _ h9 => h9) rfl dX11_glass_85 ?_
          refine lv_if_le (tgt := 93) hx hb dX11_glass_88 (by decide) (fun _ => ?_) (fun cc => absurd (by decide) cc)
          refine lv_aload_n hx hb dX11_glass_93 rfl (lv_at hl 1 rfl) ?_
          refine va_get (D := D) (cl := vwCl) (ci := 16) (v := .ref gl) (C := RX11) (T := TX11) (N := 13) hx hb hts zuX11_glass_X11 hown hK hP 0 rfl rfl 1 (by decide) (hts (.fieldLink RX11 10 "GatherhouseModel" "glasses" "Ljava/util/ArrayList;") (by decide +kernel)) (fun _ h9 => h9) rfl dX11_glass_94 ?_
          refine va_new (D := D) (cl := vwCl) (ci := 12) (fs := [.int 0, .int 0, .int 0, .int 0]) (C := RX7) (T := TX7) (N := 4) hx hb hts zuX11_glass_X7 tyX7 tyX7_ok hown (hts (.classLink RX11 64 RX7) (by decide +kernel)) (hts (.instantiable RX7 4) (by decide +kernel)) (hts (.initialized RX7) (by decide +kernel)) hK hP hD hS hA rfl (fun j hj => by rcases (show j = 0 ∨ j = 1 ∨ j = 2 ∨ j = 3 by omega) with rfl | rfl | rfl | rfl <;> rfl) (Nat.le_of_ble_eq_true rfl) (Nat.le_of_ble_eq_true rfl) dX11_glass_97 (fun o_700 H hP hD hS => ?_)
          have hP : va_P D vwCl [(mo, .inr (16, [.int 0, .ref gl, .ref po, .ref pi, .ref bu, .ref pa, .int mt, .int mh, .int 40, .int 0, .null, .int 0, .int 0])), (gl, .inr (4, [.int 0, .ref G.1, .int 0])), (o_700, .inr (12, [.int 0, .int 0, .int 0, .int 0]))] H := hP
          have hD : va_D A [(mo, .inr (16, [.int 0, .ref gl, .ref po, .ref pi, .ref bu, .ref pa, .int mt, .int mh, .int 40, .int 0, .null, .int 0, .int 0])), (gl, .inr (4, [.int 0, .ref G.1, .int 0])), (o_700, .inr (12, [.int 0, .int 0, .int 0, .int 0]))] := hD
          refine W.widen (k := 1) (n := 4) (Nat.le_of_ble_eq_true rfl) (Nat.le_of_ble_eq_true rfl) ?_
          refine lv_dup hx hb dX11_glass_100 rfl ?_
          refine lv_iload_n hx hb dX11_glass_101 rfl (lv_at hl 2 rfl) ?_
          refine lv_iload_n hx hb dX11_glass_102 rfl (lv_at hl 3 rfl) ?_
          refine lv_iload_n hx hb dX11_glass_103 rfl (lv_at hl 4 rfl) ?_
          refine lv_iload hx hb dX11_glass_104 (lv_at hl 5 rfl) ?_
          have hFc := va_free (wc := [(o_700, .inr (12, [.int 0, .int 0, .int 0, .int 0]))]) hD hS hA [2] rfl
          refine va_callv (va_runI (As := [.int lo, .int hi, .int xe, .int co]) (rest := [.ref o_700, .ref gl]) ⟨hx, hb, hml, hown, hts⟩ (zc_X7_init l D G o_700 lo hi xe co H.size) (cwI 4 hts gzX11_glass_X7_init_66 rfl rfl rfl (hts (.initialized RX7) (by decide +kernel)) (hts (.methodLink RX11 66 yX7_init) (by decide +kernel)) (hts (.instanceMethod yX7_init) (by decide +kernel)) rfl (by decide +kernel) ⟨(Nat.le_of_ble_eq_true rfl), (Nat.le_of_ble_eq_true rfl)⟩) ⟨p_RW_blind, (p_RW_at (tc := []) (wc := [(o_700, .inr (12, [.int 0, .int 0, .int 0, .int 0]))]) hP hK hD hS hA hT hZ [2] [] rfl rfl (by decide) rfl [.ref o_700, .int lo, .int hi, .int xe, .int co])⟩ rfl rfl hl.1 rfl (lv_room (Nat.le_of_ble_eq_true rfl)) dX11_glass_106 ⟨(Nat.le_of_ble_eq_true rfl), (Nat.le_of_ble_eq_true rfl)⟩) hS (fun q _ h => hFc q h) hFc (fun u t H locs ht hvm w_702 hB hz1 hk1 hS => ?_)
          obtain ⟨hP, hD, hK⟩ := q_join (D := D) (wc := [(o_700, .inr (12, [.int 0, .int 0, .int 0, .int 0]))]) (wr := [(mo, .inr (16, [.int 0, .ref gl, .ref po, .ref pi, .ref bu, .ref pa, .int mt, .int mh, .int 40, .int 0, .null, .int 0, .int 0])), (gl, .inr (4, [.int 0, .ref G.1, .int 0]))]) (w1 := [(o_700, .inr (12, [.int lo, .int hi, .int xe, .int co]))]) (tyr := []) (ty1 := []) hP hD hK [2] [0, 1] [] rfl rfl (by decide) (by decide) rfl hFc hk1 ht hvm hB
          have hP : va_P D vwCl [(mo, .inr (16, [.int 0, .ref gl, .ref po, .ref pi, .ref bu, .ref pa, .int mt, .int mh, .int 40, .int 0, .null, .int 0, .int 0])), (gl, .inr (4, [.int 0, .ref G.1, .int 0])), (o_700, .inr (12, [.int lo, .int hi, .int xe, .int co]))] H := hP
          have hD : va_D A [(mo, .inr (16, [.int 0, .ref gl, .ref po, .ref pi, .ref bu, .ref pa, .int mt, .int mh, .int 40, .int 0, .null, .int 0, .int 0])), (gl, .inr (4, [.int 0, .ref G.1, .int 0])), (o_700, .inr (12, [.int lo, .int hi, .int xe, .int co]))] := hD
          have hK : va_K D vwCl [] s := hK
          have hFc := va_free (wc := [(gl, .inr (4, [.int 0, .ref G.1, .int 0])), (o_700, .inr (12, [.int lo, .int hi, .int xe, .int co]))]) hD hS hA [1, 2] rfl
          refine va_calli (va_runV (As := [.ref o_700]) (rest := []) ⟨hx, hb, hml, hown, hts⟩ (zc_Jx4a65c_add_9ea2d l D G gl o_700 lo hi xe co H.size) (cwV 1 hts gzX11_glass_Jx4a65c_add_9ea2d_69 rfl rfl rfl (by decide +kernel) ⟨(Nat.le_of_ble_eq_true rfl), (Nat.le_of_ble_eq_true rfl)⟩) ⟨p_RW_blind, va_recv hK hP (ci := 4) (q0 := 1) rfl rfl, (p_RW_at (tc := []) (wc := [(gl, .inr (4, [.int 0, .ref G.1, .int 0])), (o_700, .inr (12, [.int lo, .int hi, .int xe, .int co]))]) hP hK hD hS hA hT hZ [1, 2] [] rfl rfl (by decide) rfl [.ref gl, .ref o_700])⟩ rfl rfl hl.1 rfl (lv_room (Nat.le_of_ble_eq_true rfl)) dX11_glass_109 ⟨(Nat.le_of_ble_eq_true rfl), (Nat.le_of_ble_eq_true rfl)⟩) hS (fun q _ h => hFc q h) hFc (fun r_703 u t H locs ht hvm w_704 hB hz1 hk1 hS => ?_)
          obtain ⟨v_705, hB⟩ := hB
          obtain ⟨hP, hD, hK⟩ := q_join (D := D) (wc := [(gl, .inr (4, [.int 0, .ref G.1, .int 0])), (o_700, .inr (12, [.int lo, .int hi, .int xe, .int co]))]) (wr := [(mo, .inr (16, [.int 0, .ref gl, .ref po, .ref pi, .ref bu, .ref pa, .int mt, .int mh, .int 40, .int 0, .null, .int 0, .int 0]))]) (w1 := [(gl, .inr (4, [.int 1, .ref v_705, .int 1]))]) (tyr := []) (ty1 := []) hP hD hK [1, 2] [0] [] rfl rfl (by decide) (by decide) rfl hFc hk1 ht hvm hB
          have hP : va_P D vwCl [(mo, .inr (16, [.int 0, .ref gl, .ref po, .ref pi, .ref bu, .ref pa, .int mt, .int mh, .int 40, .int 0, .null, .int 0, .int 0])), (gl, .inr (4, [.int 1, .ref v_705, .int 1]))] H := hP
          have hD : va_D A [(mo, .inr (16, [.int 0, .ref gl, .ref po, .ref pi, .ref bu, .ref pa, .int mt, .int mh, .int 40, .int 0, .null, .int 0, .int 0])), (gl, .inr (4, [.int 1, .ref v_705, .int 1]))] := hD
          have hK : va_K D vwCl [] s := hK
          refine W.widen (k := 2) (n := 14) (Nat.le_of_ble_eq_true rfl) (Nat.le_of_ble_eq_true rfl) ?_
          obtain rfl := w_704
          refine lv_pop hx hb dX11_glass_112 rfl ?_
          refine lv_aload_n hx hb dX11_glass_113 rfl (lv_at hl 1 rfl) ?_
          refine va_get (D := D) (cl := vwCl) (ci := 16) (v := .ref gl) (C := RX11) (T := TX11) (N := 13) hx hb hts zuX11_glass_X11 hown hK hP 0 rfl rfl 1 (by decide) (hts (.fieldLink RX11 10 "GatherhouseModel" "glasses" "Ljava/util/ArrayList;") (by decide +kernel)) (fun _ h9 => h9) rfl dX11_glass_114 ?_
          refine vp_callSi (va_runV (As := []) (rest := []) ⟨hx, hb, hml, hown, hts⟩ (zc_Jx4a65c_size_8abf5 l D G gl v_705 1 1) (cwV 0 hts gzX11_glass_Jx4a65c_size_8abf5_44 rfl rfl rfl (by decide +kernel) ⟨(Nat.le_of_ble_eq_true rfl), (Nat.le_of_ble_eq_true rfl)⟩) ⟨p_RO_blind, va_recv hK hP (ci := 4) (q0 := 1) rfl rfl, (p_RO_at (tc := []) (wc := [(gl, .inr (4, [.int 1, .ref v_705, .int 1]))]) hP hK hT [1] [] rfl rfl [.ref gl])⟩ rfl rfl hl.1 rfl (lv_room (Nat.le_of_ble_eq_true rfl)) dX11_glass_117 ⟨(Nat.le_of_ble_eq_true rfl), (Nat.le_of_ble_eq_true rfl)⟩).run (fun r_706 w_707 => ?_)
          obtain rfl := w_707
          refine lv_iconst (v := 1) hx hb dX11_glass_120 (by decide) ?_
          refine lv_isub hx hb dX11_glass_121 ?_
          refine lv_topi (fun y_708 ey_708 => ?_)
          have ey_708 : y_708 = 0 := ey_708.trans (by decide +kernel)
          subst ey_708
          exact W.iret (v := 0) hx hb hr (fun t ht hW => ⟨⟨0, 0, rfl, (by first | exact Or.inl (⟨(by first | assumption | exact inR_1 (by assumption) (by assumption) | exact inR_2 (by assumption) (by assumption) | exact inR_3 (by assumption) | exact inR_4 (by assumption) | exact inR_5 (by assumption) | exact ⟨by assumption, by assumption, by assumption, by assumption⟩ | exact ⟨by assumption, by assumption, by assumption⟩ | exact (fun q => absurd q.1 (by assumption)) | exact (fun q => absurd q.2.1 (by assumption)) | exact (fun q => absurd q.2.2 (by assumption)) | exact (fun q => absurd q.2.2.1 (by assumption)) | exact (fun q => absurd q.2.2.2 (by assumption)) | exact isRole_no (by assumption) (by assumption) (by assumption) (by assumption) | exact isRole_nb (by assumption) (by assumption) (by assumption) (by assumption) | exact isRole_out (by assumption) | exact enc_use (by assumption) (by assumption) (by assumption) | exact enc_103 (by assumption) | exact enc_103 (Eq.symm (by assumption)) | exact enc_115 (Eq.symm (by assumption)) | exact enc_102 (Eq.symm (by assumption)) | exact enc_98 (Eq.symm (by assumption)) | exact isRole_nc (by assumption) (by assumption) (by assumption) (by assumption) | exact enc_115 (by assumption) | exact enc_102 (by assumption) | exact enc_98 (by assumption) | exact Or.inr (by assumption) | rfl | exact Or.inl (by assumption) | exact Or.inr (Or.inl (by assumption)) | exact Or.inr (Or.inr (Or.inl (by assumption))) | exact Or.inr (Or.inr (Or.inr (by assumption))) | decide), rfl, (by first | rfl | assumption)⟩) | exact Or.inr (⟨(by first | assumption | exact inR_1 (by assumption) (by assumption) | exact inR_2 (by assumption) (by assumption) | exact inR_3 (by assumption) | exact inR_4 (by assumption) | exact inR_5 (by assumption) | exact ⟨by assumption, by assumption, by assumption, by assumption⟩ | exact ⟨by assumption, by assumption, by assumption⟩ | exact (fun q => absurd q.1 (by assumption)) | exact (fun q => absurd q.2.1 (by assumption)) | exact (fun q => absurd q.2.2 (by assumption)) | exact (fun q => absurd q.2.2.1 (by assumption)) | exact (fun q => absurd q.2.2.2 (by assumption)) | exact isRole_no (by assumption) (by assumption) (by assumption) (by assumption) | exact isRole_nb (by assumption) (by assumption) (by assumption) (by assumption) | exact isRole_out (by assumption) | exact enc_use (by assumption) (by assumption) (by assumption) | exact enc_103 (by assumption) | exact enc_103 (Eq.symm (by assumption)) | exact enc_115 (Eq.symm (by assumption)) | exact enc_102 (Eq.symm (by assumption)) | exact enc_98 (Eq.symm (by assumption)) | exact isRole_nc (by assumption) (by assumption) (by assumption) (by assumption) | exact enc_115 (by assumption) | exact enc_102 (by assumption) | exact enc_98 (by assumption) | exact Or.inr (by assumption) | rfl | exact Or.inl (by assumption) | exact Or.inr (Or.inl (by assumption)) | exact Or.inr (Or.inr (Or.inl (by assumption))) | exact Or.inr (Or.inr (Or.inr (by assumption))) | decide), rfl, (by first | rfl | assumption)⟩)), q_RW_mk hP hK hD [0] [] rfl rfl (by decide) rfl ht hW.alike⟩, hS.F ht⟩) hS.2.2 dX11_glass_122
        · refine lv_if_eq (tgt := 51) hx hb dX11_glass_44 (by decide) (fun _ => ?_) (fun cc => absurd (by decide) cc)
          refine lv_iconst (v := 0) hx hb dX11_glass_51 (by decide) ?_
          refine lv_istore (lv' := [(5, .int 0), (0, .ref mo), (1, .int lo), (2, .int hi), (3, .int xe), (4, .int co)]) hx hb dX11_glass_52 hl (by decide) rfl (fun ls hl => ?_)
          refine lv_aload_n hx hb dX11_glass_54 rfl (lv_at hl 1 rfl) ?_
          refine lv_iload hx hb dX11_glass_55 (lv_at hl 0 rfl) ?_
          refine lv_if_ne (tgt := 64) hx hb dX11_glass_57 (by decide) (fun cc => absurd (by decide) cc) (fun _ => ?_)
          refine lv_iconst (v := 1) hx hb dX11_glass_60 (by decide) ?_
          refine lv_goto (tgt := 81) hx hb dX11_glass_61 (by decide) ?_
          refine va_put (D := D) (cl := vwCl) (ci := 16) (v := .int 1) (ty := .int) (C := RX11) (T := TX11) (N := 13) hx hb hts zuX11_glass_X11 tyX11 tyX11_ok nmX11 hown hK hP hD hS 0 rfl rfl 0 (by decide) (hts (.fieldLink RX11 41 "GatherhouseModel" "thrown" "I") (by decide +kernel)) (fun _ h9 => h9) rfl (by decide +kernel) rfl rfl (Nat.le_of_ble_eq_true rfl) dX11_glass_81 (fun H locs hP hD hS => ?_)
          have hP : va_P D vwCl [(mo, .inr (16, [.int 1, .ref gl, .ref po, .ref pi, .ref bu, .ref pa, .int mt, .int mh, .int 40, .int 0, .null, .int 0, .int 0])), (gl, .inr (4, [.int 0, .ref G.1, .int 0]))] H := hP
          have hD : va_D A [(mo, .inr (16, [.int 1, .ref gl, .ref po, .ref pi, .ref bu, .ref pa, .int mt, .int mh, .int 40, .int 0, .null, .int 0, .int 0])), (gl, .inr (4, [.int 0, .ref G.1, .int 0]))] := hD
          refine lv_aload_n hx hb dX11_glass_84 rfl (lv_at hl 1 rfl) ?_
          refine va_get (D := D) (cl := vwCl) (ci := 16) (v := .int 1) (C := RX11) (T := TX11) (N := 13) hx hb hts zuX11_glass_X11 hown hK hP 0 rfl rfl 0 (by decide) (hts (.fieldLink RX11 41 "GatherhouseModel" "thrown" "I") (by decide +kernel)) (fun _ h9 => h9) rfl dX11_glass_85 ?_
          refine lv_if_le (tgt := 93) hx hb dX11_glass_88 (by decide) (fun cc => absurd cc (by decide)) (fun _ => ?_)
          refine lv_iconst (v := 0) hx hb dX11_glass_91 (by decide) ?_
          refine W.widen (k := 2) (n := 14) (Nat.le_of_ble_eq_true rfl) (Nat.le_of_ble_eq_true rfl) ?_
          exact W.iret (v := 0) hx hb hr (fun t ht hW => ⟨⟨0, 1, rfl, (by first | exact Or.inl (⟨(by first | assumption | exact inR_1 (by assumption) (by assumption) | exact inR_2 (by assumption) (by assumption) | exact inR_3 (by assumption) | exact inR_4 (by assumption) | exact inR_5 (by assumption) | exact ⟨by assumption, by assumption, by assumption, by assumption⟩ | exact ⟨by assumption, by assumption, by assumption⟩ | exact (fun q => absurd q.1 (by assumption)) | exact (fun q => absurd q.2.1 (by assumption)) | exact (fun q => absurd q.2.2 (by assumption)) | exact (fun q => absurd q.2.2.1 (by assumption)) | exact (fun q => absurd q.2.2.2 (by assumption)) | exact isRole_no (by assumption) (by assumption) (by assumption) (by assumption) | exact isRole_nb (by assumption) (by assumption) (by assumption) (by assumption) | exact isRole_out (by assumption) | exact enc_use (by assumption) (by assumption) (by assumption) | exact enc_103 (by assumption) | exact enc_103 (Eq.symm (by assumption)) | exact enc_115 (Eq.symm (by assumption)) | exact enc_102 (Eq.symm (by assumption)) | exact enc_98 (Eq.symm (by assumption)) | exact isRole_nc (by assumption) (by assumption) (by assumption) (by assumption) | exact enc_115 (by assumption) | exact enc_102 (by assumption) | exact enc_98 (by assumption) | exact Or.inr (by assumption) | rfl | exact Or.inl (by assumption) | exact Or.inr (Or.inl (by assumption)) | exact Or.inr (Or.inr (Or.inl (by assumption))) | exact Or.inr (Or.inr (Or.inr (by assumption))) | decide), rfl, (by first | rfl | assumption)⟩) | exact Or.inr (⟨(by first | assumption | exact inR_1 (by assumption) (by assumption) | exact inR_2 (by assumption) (by assumption) | exact inR_3 (by assumption) | exact inR_4 (by assumption) | exact inR_5 (by assumption) | exact ⟨by assumption, by assumption, by assumption, by assumption⟩ | exact ⟨by assumption, by assumption, by assumption⟩ | exact (fun q => absurd q.1 (by assumption)) | exact (fun q => absurd q.2.1 (by assumption)) | exact (fun q => absurd q.2.2 (by assumption)) | exact (fun q => absurd q.2.2.1 (by assumption)) | exact (fun q => absurd q.2.2.2 (by assumption)) | exact isRole_no (by assumption) (by assumption) (by assumption) (by assumption) | exact isRole_nb (by assumption) (by assumption) (by assumption) (by assumption) | exact isRole_out (by assumption) | exact enc_use (by assumption) (by assumption) (by assumption) | exact enc_103 (by assumption) | exact enc_103 (Eq.symm (by assumption)) | exact enc_115 (Eq.symm (by assumption)) | exact enc_102 (Eq.symm (by assumption)) | exact enc_98 (Eq.symm (by assumption)) | exact isRole_nc (by assumption) (by assumption) (by assumption) (by assumption) | exact enc_115 (by assumption) | exact enc_102 (by assumption) | exact enc_98 (by assumption) | exact Or.inr (by assumption) | rfl | exact Or.inl (by assumption) | exact Or.inr (Or.inl (by assumption)) | exact Or.inr (Or.inr (Or.inl (by assumption))) | exact Or.inr (Or.inr (Or.inr (by assumption))) | decide), rfl, (by first | rfl | assumption)⟩)), q_RW_mk hP hK hD [0] [] rfl rfl (by decide) rfl ht hW.alike⟩, hS.F ht⟩) hS.2.2 dX11_glass_92
      · refine lv_if_eq (tgt := 51) hx hb dX11_glass_33 (by decide) (fun _ => ?_) (fun cc => absurd (by decide) cc)
        refine lv_iconst (v := 0) hx hb dX11_glass_51 (by decide) ?_
        refine lv_istore (lv' := [(5, .int 0), (0, .ref mo), (1, .int lo), (2, .int hi), (3, .int xe), (4, .int co)]) hx hb dX11_glass_52 hl (by decide) rfl (fun ls hl => ?_)
        refine lv_aload_n hx hb dX11_glass_54 rfl (lv_at hl 1 rfl) ?_
        refine lv_iload hx hb dX11_glass_55 (lv_at hl 0 rfl) ?_
        refine lv_if_ne (tgt := 64) hx hb dX11_glass_57 (by decide) (fun cc => absurd (by decide) cc) (fun _ => ?_)
        refine lv_iconst (v := 1) hx hb dX11_glass_60 (by decide) ?_
        refine lv_goto (tgt := 81) hx hb dX11_glass_61 (by decide) ?_
        refine va_put (D := D) (cl := vwCl) (ci := 16) (v := .int 1) (ty := .int) (C := RX11) (T := TX11) (N := 13) hx hb hts zuX11_glass_X11 tyX11 tyX11_ok nmX11 hown hK hP hD hS 0 rfl rfl 0 (by decide) (hts (.fieldLink RX11 41 "GatherhouseModel" "thrown" "I") (by decide +kernel)) (fun _ h9 => h9) rfl (by decide +kernel) rfl rfl (Nat.le_of_ble_eq_true rfl) dX11_glass_81 (fun H locs hP hD hS => ?_)
        have hP : va_P D vwCl [(mo, .inr (16, [.int 1, .ref gl, .ref po, .ref pi, .ref bu, .ref pa, .int mt, .int mh, .int 40, .int 0, .null, .int 0, .int 0])), (gl, .inr (4, [.int 0, .ref G.1, .int 0]))] H := hP
        have hD : va_D A [(mo, .inr (16, [.int 1, .ref gl, .ref po, .ref pi, .ref bu, .ref pa, .int mt, .int mh, .int 40, .int 0, .null, .int 0, .int 0])), (gl, .inr (4, [.int 0, .ref G.1, .int 0]))] := hD
        refine lv_aload_n hx hb dX11_glass_84 rfl (lv_at hl 1 rfl) ?_
        refine va_get (D := D) (cl := vwCl) (ci := 16) (v := .int 1) (C := RX11) (T := TX11) (N := 13) hx hb hts zuX11_glass_X11 hown hK hP 0 rfl rfl 0 (by decide) (hts (.fieldLink RX11 41 "GatherhouseModel" "thrown" "I") (by decide +kernel)) (fun _ h9 => h9) rfl dX11_glass_85 ?_
        refine lv_if_le (tgt := 93) hx hb dX11_glass_88 (by decide) (fun cc => absurd cc (by decide)) (fun _ => ?_)
        refine lv_iconst (v := 0) hx hb dX11_glass_91 (by decide) ?_
        refine W.widen (k := 2) (n := 14) (Nat.le_of_ble_eq_true rfl) (Nat.le_of_ble_eq_true rfl) ?_
        exact W.iret (v := 0) hx hb hr (fun t ht hW => ⟨⟨0, 1, rfl, (by first | exact Or.inl (⟨(by first | assumption | exact inR_1 (by assumption) (by assumption) | exact inR_2 (by assumption) (by assumption) | exact inR_3 (by assumption) | exact inR_4 (by assumption) | exact inR_5 (by assumption) | exact ⟨by assumption, by assumption, by assumption, by assumption⟩ | exact ⟨by assumption, by assumption, by assumption⟩ | exact (fun q => absurd q.1 (by assumption)) | exact (fun q => absurd q.2.1 (by assumption)) | exact (fun q => absurd q.2.2 (by assumption)) | exact (fun q => absurd q.2.2.1 (by assumption)) | exact (fun q => absurd q.2.2.2 (by assumption)) | exact isRole_no (by assumption) (by assumption) (by assumption) (by assumption) | exact isRole_nb (by assumption) (by assumption) (by assumption) (by assumption) | exact isRole_out (by assumption) | exact enc_use (by assumption) (by assumption) (by assumption) | exact enc_103 (by assumption) | exact enc_103 (Eq.symm (by assumption)) | exact enc_115 (Eq.symm (by assumption)) | exact enc_102 (Eq.symm (by assumption)) | exact enc_98 (Eq.symm (by assumption)) | exact isRole_nc (by assumption) (by assumption) (by assumption) (by assumption) | exact enc_115 (by assumption) | exact enc_102 (by assumption) | exact enc_98 (by assumption) | exact Or.inr (by assumption) | rfl | exact Or.inl (by assumption) | exact Or.inr (Or.inl (by assumption)) | exact Or.inr (Or.inr (Or.inl (by assumption))) | exact Or.inr (Or.inr (Or.inr (by assumption))) | decide), rfl, (by first | rfl | assumption)⟩) | exact Or.inr (⟨(by first | assumption | exact inR_1 (by assumption) (by assumption) | exact inR_2 (by assumption) (by assumption) | exact inR_3 (by assumption) | exact inR_4 (by assumption) | exact inR_5 (by assumption) | exact ⟨by assumption, by assumption, by assumption, by assumption⟩ | exact ⟨by assumption, by assumption, by assumption⟩ | exact (fun q => absurd q.1 (by assumption)) | exact (fun q => absurd q.2.1 (by assumption)) | exact (fun q => absurd q.2.2 (by assumption)) | exact (fun q => absurd q.2.2.1 (by assumption)) | exact (fun q => absurd q.2.2.2 (by assumption)) | exact isRole_no (by assumption) (by assumption) (by assumption) (by assumption) | exact isRole_nb (by assumption) (by assumption) (by assumption) (by assumption) | exact isRole_out (by assumption) | exact enc_use (by assumption) (by assumption) (by assumption) | exact enc_103 (by assumption) | exact enc_103 (Eq.symm (by assumption)) | exact enc_115 (Eq.symm (by assumption)) | exact enc_102 (Eq.symm (by assumption)) | exact enc_98 (Eq.symm (by assumption)) | exact isRole_nc (by assumption) (by assumption) (by assumption) (by assumption) | exact enc_115 (by assumption) | exact enc_102 (by assumption) | exact enc_98 (by assumption) | exact Or.inr (by assumption) | rfl | exact Or.inl (by assumption) | exact Or.inr (Or.inl (by assumption)) | exact Or.inr (Or.inr (Or.inl (by assumption))) | exact Or.inr (Or.inr (Or.inr (by assumption))) | decide), rfl, (by first | rfl | assumption)⟩)), q_RW_mk hP hK hD [0] [] rfl rfl (by decide) rfl ht hW.alike⟩, hS.F ht⟩) hS.2.2 dX11_glass_92
    · refine lv_if_eq (tgt := 51) hx hb dX11_glass_21 (by decide) (fun _ => ?_) (fun cc => absurd (by decide) cc)
      refine lv_iconst (v := 0) hx hb dX11_glass_51 (by decide) ?_
      refine lv_istore (lv' := [(5, .int 0), (0, .ref mo), (1, .int lo), (2, .int hi), (3, .int xe), (4, .int co)]) hx hb dX11_glass_52 hl (by decide) rfl (fun ls hl => ?_)
      refine lv_aload_n hx hb dX11_glass_54 rfl (lv_at hl 1 rfl) ?_
      refine lv_iload hx hb dX11_glass_55 (lv_at hl 0 rfl) ?_
      refine lv_if_ne (tgt := 64) hx hb dX11_glass_57 (by decide) (fun cc => absurd (by decide) cc) (fun _ => ?_)
      refine lv_iconst (v := 1) hx hb dX11_glass_60 (by decide) ?_
      refine lv_goto (tgt := 81) hx hb dX11_glass_61 (by decide) ?_
      refine va_put (D := D) (cl := vwCl) (ci := 16) (v := .int 1) (ty := .int) (C := RX11) (T := TX11) (N := 13) hx hb hts zuX11_glass_X11 tyX11 tyX11_ok nmX11 hown hK hP hD hS 0 rfl rfl 0 (by decide) (hts (.fieldLink RX11 41 "GatherhouseModel" "thrown" "I") (by decide +kernel)) (fun _ h9 => h9) rfl (by decide +kernel) rfl rfl (Nat.le_of_ble_eq_true rfl) dX11_glass_81 (fun H locs hP hD hS => ?_)
      have hP : va_P D vwCl [(mo, .inr (16, [.int 1, .ref gl, .ref po, .ref pi, .ref bu, .ref pa, .int mt, .int mh, .int 40, .int 0, .null, .int 0, .int 0])), (gl, .inr (4, [.int 0, .ref G.1, .int 0]))] H := hP
      have hD : va_D A [(mo, .inr (16, [.int 1, .ref gl, .ref po, .ref pi, .ref bu, .ref pa, .int mt, .int mh, .int 40, .int 0, .null, .int 0, .int 0])), (gl, .inr (4, [.int 0, .ref G.1, .int 0]))] := hD
      refine lv_aload_n hx hb dX11_glass_84 rfl (lv_at hl 1 rfl) ?_
      refine va_get (D := D) (cl := vwCl) (ci := 16) (v := .int 1) (C := RX11) (T := TX11) (N := 13) hx hb hts zuX11_glass_X11 hown hK hP 0 rfl rfl 0 (by decide) (hts (.fieldLink RX11 41 "GatherhouseModel" "thrown" "I") (by decide +kernel)) (fun _ h9 => h9) rfl dX11_glass_85 ?_
      refine lv_if_le (tgt := 93) hx hb dX11_glass_88 (by decide) (fun cc => absurd cc (by decide)) (fun _ => ?_)
      refine lv_iconst (v := 0) hx hb dX11_glass_91 (by decide) ?_
      refine W.widen (k := 2) (n := 14) (Nat.le_of_ble_eq_true rfl) (Nat.le_of_ble_eq_true rfl) ?_
      exact W.iret (v := 0) hx hb hr (fun t ht hW => ⟨⟨0, 1, rfl, (by first | exact Or.inl (⟨(by first | assumption | exact inR_1 (by assumption) (by assumption) | exact inR_2 (by assumption) (by assumption) | exact inR_3 (by assumption) | exact inR_4 (by assumption) | exact inR_5 (by assumption) | exact ⟨by assumption, by assumption, by assumption, by assumption⟩ | exact ⟨by assumption, by assumption, by assumption⟩ | exact (fun q => absurd q.1 (by assumption)) | exact (fun q => absurd q.2.1 (by assumption)) | exact (fun q => absurd q.2.2 (by assumption)) | exact (fun q => absurd q.2.2.1 (by assumption)) | exact (fun q => absurd q.2.2.2 (by assumption)) | exact isRole_no (by assumption) (by assumption) (by assumption) (by assumption) | exact isRole_nb (by assumption) (by assumption) (by assumption) (by assumption) | exact isRole_out (by assumption) | exact enc_use (by assumption) (by assumption) (by assumption) | exact enc_103 (by assumption) | exact enc_103 (Eq.symm (by assumption)) | exact enc_115 (Eq.symm (by assumption)) | exact enc_102 (Eq.symm (by assumption)) | exact enc_98 (Eq.symm (by assumption)) | exact isRole_nc (by assumption) (by assumption) (by assumption) (by assumption) | exact enc_115 (by assumption) | exact enc_102 (by assumption) | exact enc_98 (by assumption) | exact Or.inr (by assumption) | rfl | exact Or.inl (by assumption) | exact Or.inr (Or.inl (by assumption)) | exact Or.inr (Or.inr (Or.inl (by assumption))) | exact Or.inr (Or.inr (Or.inr (by assumption))) | decide), rfl, (by first | rfl | assumption)⟩) | exact Or.inr (⟨(by first | assumption | exact inR_1 (by assumption) (by assumption) | exact inR_2 (by assumption) (by assumption) | exact inR_3 (by assumption) | exact inR_4 (by assumption) | exact inR_5 (by assumption) | exact ⟨by assumption, by assumption, by assumption, by assumption⟩ | exact ⟨by assumption, by assumption, by assumption⟩ | exact (fun q => absurd q.1 (by assumption)) | exact (fun q => absurd q.2.1 (by assumption)) | exact (fun q => absurd q.2.2 (by assumption)) | exact (fun q => absurd q.2.2.1 (by assumption)) | exact (fun q => absurd q.2.2.2 (by assumption)) | exact isRole_no (by assumption) (by assumption) (by assumption) (by assumption) | exact isRole_nb (by assumption) (by assumption) (by assumption) (by assumption) | exact isRole_out (by assumption) | exact enc_use (by assumption) (by assumption) (by assumption) | exact enc_103 (by assumption) | exact enc_103 (Eq.symm (by assumption)) | exact enc_115 (Eq.symm (by assumption)) | exact enc_102 (Eq.symm (by assumption)) | exact enc_98 (Eq.symm (by assumption)) | exact isRole_nc (by assumption) (by assumption) (by assumption) (by assumption) | exact enc_115 (by assumption) | exact enc_102 (by assumption) | exact enc_98 (by assumption) | exact Or.inr (by assumption) | rfl | exact Or.inl (by assumption) | exact Or.inr (Or.inl (by assumption)) | exact Or.inr (Or.inr (Or.inl (by assumption))) | exact Or.inr (Or.inr (Or.inr (by assumption))) | decide), rfl, (by first | rfl | assumption)⟩)), q_RW_mk hP hK hD [0] [] rfl rfl (by decide) rfl ht hW.alike⟩, hS.F ht⟩) hS.2.2 dX11_glass_92
  · refine lv_if_eq (tgt := 51) hx hb dX11_glass_10 (by decide) (fun _ => ?_) (fun cc => absurd (by decide) cc)
    refine lv_iconst (v := 0) hx hb dX11_glass_51 (by decide) ?_
    refine lv_istore (lv' := [(5, .int 0), (0, .ref mo), (1, .int lo), (2, .int hi), (3, .int xe), (4, .int co)]) hx hb dX11_glass_52 hl (by decide) rfl (fun ls hl => ?_)
    refine lv_aload_n hx hb dX11_glass_54 rfl (lv_at hl 1 rfl) ?_
    refine lv_iload hx hb dX11_glass_55 (lv_at hl 0 rfl) ?_
    refine lv_if_ne (tgt := 64) hx hb dX11_glass_57 (by decide) (fun cc => absurd (by decide) cc) (fun _ => ?_)
    refine lv_iconst (v := 1) hx hb dX11_glass_60 (by decide) ?_
    refine lv_goto (tgt := 81) hx hb dX11_glass_61 (by decide) ?_
    refine va_put (D := D) (cl := vwCl) (ci := 16) (v := .int 1) (ty := .int) (C := RX11) (T := TX11) (N := 13) hx hb hts zuX11_glass_X11 tyX11 tyX11_ok nmX11 hown hK hP hD hS 0 rfl rfl 0 (by decide) (hts (.fieldLink RX11 41 "GatherhouseModel" "thrown" "I") (by decide +kernel)) (fun _ h9 => h9) rfl (by decide +kernel) rfl rfl (Nat.le_of_ble_eq_true rfl) dX11_glass_81 (fun H locs hP hD hS => ?_)
    have hP : va_P D vwCl [(mo, .inr (16, [.int 1, .ref gl, .ref po, .ref pi, .ref bu, .ref pa, .int mt, .int mh, .int 40, .int 0, .null, .int 0, .int 0])), (gl, .inr (4, [.int 0, .ref G.1, .int 0]))] H := hP
    have hD : va_D A [(mo, .inr (16, [.int 1, .ref gl, .ref po, .ref pi, .ref bu, .ref pa, .int mt, .int mh, .int 40, .int 0, .null, .int 0, .int 0])), (gl, .inr (4, [.int 0, .ref G.1, .int 0]))] := hD
    refine lv_aload_n hx hb dX11_glass_84 rfl (lv_at hl 1 rfl) ?_
    refine va_get (D := D) (cl := vwCl) (ci := 16) (v := .int 1) (C := RX11) (T := TX11) (N := 13) hx hb hts zuX11_glass_X11 hown hK hP 0 rfl rfl 0 (by decide) (hts (.fieldLink RX11 41 "GatherhouseModel" "thrown" "I") (by decide +kernel)) (fun _ h9 => h9) rfl dX11_glass_85 ?_
    refine lv_if_le (tgt := 93) hx hb dX11_glass_88 (by decide) (fun cc => absurd cc (by decide)) (fun _ => ?_)
    refine lv_iconst (v := 0) hx hb dX11_glass_91 (by decide) ?_
    refine W.widen (k := 2) (n := 14) (Nat.le_of_ble_eq_true rfl) (Nat.le_of_ble_eq_true rfl) ?_
    exact W.iret (v := 0) hx hb hr (fun t ht hW => ⟨⟨0, 1, rfl, (by first | exact Or.inl (⟨(by first | assumption | exact inR_1 (by assumption) (by assumption) | exact inR_2 (by assumption) (by assumption) | exact inR_3 (by assumption) | exact inR_4 (by assumption) | exact inR_5 (by assumption) | exact ⟨by assumption, by assumption, by assumption, by assumption⟩ | exact ⟨by assumption, by assumption, by assumption⟩ | exact (fun q => absurd q.1 (by assumption)) | exact (fun q => absurd q.2.1 (by assumption)) | exact (fun q => absurd q.2.2 (by assumption)) | exact (fun q => absurd q.2.2.1 (by assumption)) | exact (fun q => absurd q.2.2.2 (by assumption)) | exact isRole_no (by assumption) (by assumption) (by assumption) (by assumption) | exact isRole_nb (by assumption) (by assumption) (by assumption) (by assumption) | exact isRole_out (by assumption) | exact enc_use (by assumption) (by assumption) (by assumption) | exact enc_103 (by assumption) | exact enc_103 (Eq.symm (by assumption)) | exact enc_115 (Eq.symm (by assumption)) | exact enc_102 (Eq.symm (by assumption)) | exact enc_98 (Eq.symm (by assumption)) | exact isRole_nc (by assumption) (by assumption) (by assumption) (by assumption) | exact enc_115 (by assumption) | exact enc_102 (by assumption) | exact enc_98 (by assumption) | exact Or.inr (by assumption) | rfl | exact Or.inl (by assumption) | exact Or.inr (Or.inl (by assumption)) | exact Or.inr (Or.inr (Or.inl (by assumption))) | exact Or.inr (Or.inr (Or.inr (by assumption))) | decide), rfl, (by first | rfl | assumption)⟩) | exact Or.inr (⟨(by first | assumption | exact inR_1 (by assumption) (by assumption) | exact inR_2 (by assumption) (by assumption) | exact inR_3 (by assumption) | exact inR_4 (by assumption) | exact inR_5 (by assumption) | exact ⟨by assumption, by assumption, by assumption, by assumption⟩ | exact ⟨by assumption, by assumption, by assumption⟩ | exact (fun q => absurd q.1 (by assumption)) | exact (fun q => absurd q.2.1 (by assumption)) | exact (fun q => absurd q.2.2 (by assumption)) | exact (fun q => absurd q.2.2.1 (by assumption)) | exact (fun q => absurd q.2.2.2 (by assumption)) | exact isRole_no (by assumption) (by assumption) (by assumption) (by assumption) | exact isRole_nb (by assumption) (by assumption) (by assumption) (by assumption) | exact isRole_out (by assumption) | exact enc_use (by assumption) (by assumption) (by assumption) | exact enc_103 (by assumption) | exact enc_103 (Eq.symm (by assumption)) | exact enc_115 (Eq.symm (by assumption)) | exact enc_102 (Eq.symm (by assumption)) | exact enc_98 (Eq.symm (by assumption)) | exact isRole_nc (by assumption) (by assumption) (by assumption) (by assumption) | exact enc_115 (by assumption) | exact enc_102 (by assumption) | exact enc_98 (by assumption) | exact Or.inr (by assumption) | rfl | exact Or.inl (by assumption) | exact Or.inr (Or.inl (by assumption)) | exact Or.inr (Or.inr (Or.inl (by assumption))) | exact Or.inr (Or.inr (Or.inr (by assumption))) | decide), rfl, (by first | rfl | assumption)⟩)), q_RW_mk hP hK hD [0] [] rfl rfl (by decide) rfl ht hW.alike⟩, hS.F ht⟩) hS.2.2 dX11_glass_92
