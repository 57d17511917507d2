theorem dX11_in_0 : decode cX11_in 0 = .ok (.iload_n 0, 1) := by decide +kernel
theorem dX11_in_1 : decode cX11_in 1 = .ok (.iload_n 1, 1) := by decide +kernel
theorem dX11_in_2 : decode cX11_in 2 = .ok (.if_icmp .lt 12, 3) := by decide +kernel
theorem dX11_in_14 : decode cX11_in 14 = .ok (.iconst 0, 1) := by decide +kernel
theorem dX11_in_15 : decode cX11_in 15 = .ok (.ireturn, 1) := by decide +kernel
theorem dX11_in_5 : decode cX11_in 5 = .ok (.iload_n 0, 1) := by decide +kernel
theorem dX11_in_6 : decode cX11_in 6 = .ok (.iload_n 2, 1) := by decide +kernel
theorem dX11_in_7 : decode cX11_in 7 = .ok (.if_icmp .gt 7, 3) := by decide +kernel
theorem dX11_in_10 : decode cX11_in 10 = .ok (.iconst 1, 1) := by decide +kernel
theorem dX11_in_11 : decode cX11_in 11 = .ok (.goto 4, 3) := by decide +kernel
set_option maxHeartbeats 4000000 in
set_option maxRecDepth 100000 in
theorem zc_X11_in (l : Launch) (D : va_G) (v : Int32) (lo : Int32) (hi : Int32) : Met l yX11_in wsX11_in ({ frames := 0, cells := 0, slots := 0, locals := 0 }) (va_Pc [.int v, .int lo, .int hi] (p_RO D [] [])) (vp_Si (fun r => (inR v lo hi ∧ r = 1) ∨ (¬ inR v lo hi ∧ r = 0))) 0 0 (fun _ => False) := by
  refine Met.ofW (cc := cX11_in) (maxL := 3) (ret := (some .boolean)) (by decide) rfl ?_
  intro p e s m args below meth c s₁ B hml hv
  obtain ⟨rfl, hP, hK, hT⟩ := hv
  have hx := B.exec
  have hb := B.bytes
  have hr := B.returns
  have hts := atoms_spec (ws := wsX11_in) B.pre
  have hown : s.vm.findClass RX11 = some m.cls := findClass_of_methodNamed B.named
  have hlocks := B.notSynchronized
  have hl := lv_entry ([.int v, .int lo, .int hi]) (n := 3) (Nat.le_of_ble_eq_true rfl)
  rw [lg_entry_eq]
  generalize (lg_sl ([.int v, .int lo, .int hi]) ++ List.replicate (3 - (lg_sl ([.int v, .int lo, .int hi])).length) Slot.unset).toArray = ls at hl ⊢
  have hl : lv_has ls 3 [(0, .int v), (1, .int lo), (2, .int hi)] := hl
  refine lv_iload_n hx hb dX11_in_0 rfl (lv_at hl 0 rfl) ?_
  refine lv_iload_n hx hb dX11_in_1 rfl (lv_at hl 1 rfl) ?_
  refine lv_icmp_lt (tgt := 14) hx hb dX11_in_2 (by decide) (fun c_1 => ?_) (fun c_1 => ?_)
  · refine lv_iconst (v := 0) hx hb dX11_in_14 (by decide) ?_
    exact W.zret (v := 0) hx hb hr rfl (fun t ht hW => ⟨0, rfl, (Or.inr (⟨(by first | assumption | exact inR_1 (by assumption) (by assumption) | exact inR_2 (by assumption) (by assumption) | exact inR_3 (by assumption) | exact inR_4 (by assumption) | exact inR_5 (by assumption) | decide), rfl⟩)), ht⟩) (fun q h => by cases h) dX11_in_15
  · refine lv_iload_n hx hb dX11_in_5 rfl (lv_at hl 0 rfl) ?_
    refine lv_iload_n hx hb dX11_in_6 rfl (lv_at hl 2 rfl) ?_
    refine lv_icmp_gt (tgt := 14) hx hb dX11_in_7 (by decide) (fun c_2 => ?_) (fun c_2 => ?_)
    · refine lv_iconst (v := 0) hx hb dX11_in_14 (by decide) ?_
      exact W.zret (v := 0) hx hb hr rfl (fun t ht hW => ⟨0, rfl, (Or.inr (⟨(by first | assumption | exact inR_1 (by assumption) (by assumption) | exact inR_2 (by assumption) (by assumption) | exact inR_3 (by assumption) | exact inR_4 (by assumption) | exact inR_5 (by assumption) | decide), rfl⟩)), ht⟩) (fun q h => by cases h) dX11_in_15
    · refine lv_iconst (v := 1) hx hb dX11_in_10 (by decide) ?_
      refine lv_goto (tgt := 15) hx hb dX11_in_11 (by decide) ?_
      exact W.zret (v := 1) hx hb hr rfl (fun t ht hW => ⟨1, rfl, (Or.inl (⟨(by first | assumption | exact inR_1 (by assumption) (by assumption) | exact inR_2 (by assumption) (by assumption) | exact inR_3 (by assumption) | exact inR_4 (by assumption) | exact inR_5 (by assumption) | decide), rfl⟩)), ht⟩) (fun q h => by cases h) dX11_in_15
theorem dJx4a65c_size_8abf5_0 : decode cJx4a65c_size_8abf5 0 = .ok (.aload_n 0, 1) := by decide +kernel
theorem dJx4a65c_size_8abf5_1 : decode cJx4a65c_size_8abf5 1 = .ok (.getfield 48, 3) := by decide +kernel
theorem dJx4a65c_size_8abf5_4 : decode cJx4a65c_size_8abf5 4 = .ok (.ireturn, 1) := by decide +kernel
set_option maxHeartbeats 4000000 in
set_option maxRecDepth 100000 in
theorem zc_Jx4a65c_size_8abf5 (l : Launch) (D : va_G) (li : Nat) (ed : Nat) : Met l yJx4a65c_size_8abf5 wsJx4a65c_size_8abf5 ({ frames := 0, cells := 0, slots := 0, locals := 0 }) (va_Pc [.ref li] (p_RO D [] [(li, .inr (4, [.int 0, .ref ed, .int 0]))])) (vp_Si (fun r => r = 0)) 0 0 (fun _ => False) := by
  refine Met.ofW (cc := cJx4a65c_size_8abf5) (maxL := 1) (ret := (some .int)) (by decide) rfl ?_
  intro p e s m args below meth c s₁ B hml hv
  obtain ⟨rfl, hP, hK, hT⟩ := hv
  have hx := B.exec
  have hb := B.bytes
  have hr := B.returns
  have hts := atoms_spec (ws := wsJx4a65c_size_8abf5) B.pre
  have hown : s.vm.findClass RJx4a65c = some m.cls := findClass_of_methodNamed B.named
  have hlocks := B.notSynchronized
  have hl := lv_entry ([.ref li]) (n := 1) (Nat.le_of_ble_eq_true rfl)
  rw [lg_entry_eq]
  generalize (lg_sl ([.ref li]) ++ List.replicate (1 - (lg_sl ([.ref li])).length) Slot.unset).toArray = ls at hl ⊢
  have hl : lv_has ls 1 [(0, .ref li)] := hl
  refine lv_aload_n hx hb dJx4a65c_size_8abf5_0 rfl (lv_at hl 0 rfl) ?_
  refine va_get (D := D) (cl := vwCl) (ci := 4) (v := .int 0) (C := RJx4a65c) (T := TJx4a65c) (N := 3) hx hb hts (by decide +kernel) hown hK hP 0 rfl rfl 2 (by decide) (hts (.fieldLink RJx4a65c 48 "java/util/ArrayList" "size" "I") (by decide +kernel)) (fun _ h9 => h9) rfl dJx4a65c_size_8abf5_1 ?_
  exact W.iret (v := 0) hx hb hr (fun t ht hW => ⟨0, rfl, rfl, ht⟩) (fun q h => by cases h) dJx4a65c_size_8abf5_4
theorem dX11_thrown_0 : decode cX11_thrown 0 = .ok (.aload_n 0, 1) := by decide +kernel
theorem dX11_thrown_1 : decode cX11_thrown 1 = .ok (.getfield 41, 3) := by decide +kernel
theorem dX11_thrown_4 : decode cX11_thrown 4 = .ok (.ireturn, 1) := by decide +kernel
set_option maxHeartbeats 4000000 in
set_option maxRecDepth 100000 in
theorem zc_X11_thrown (l : Launch) (D : va_G) (mo : Nat) (gl : Nat) (po : Nat) (pi : Nat) (bu : Nat) (pa : Nat) (th : Int32) (mh : Int32) (mt : Int32) : Met l yX11_thrown wsX11_thrown ({ frames := 0, cells := 0, slots := 0, locals := 0 }) (va_Pc [.ref mo] (p_RO D [] [(mo, .inr (16, [.int th, .ref gl, .ref po, .ref pi, .ref bu, .ref pa, .int mt, .int mh, .int 40, .int 0, .null, .int 0, .int 0]))])) (vp_Si (fun r => r = th)) 0 0 (fun _ => False) := by
  refine Met.ofW (cc := cX11_thrown) (maxL := 1) (ret := (some .int)) (by decide) rfl ?_
  intro p e s m args below meth c s₁ B hml hv
  obtain ⟨rfl, hP, hK, hT⟩ := hv
  have hx := B.exec
  have hb := B.bytes
  have hr := B.returns
  have hts := atoms_spec (ws := wsX11_thrown) B.pre
  have hown : s.vm.findClass RX11 = some m.cls := findClass_of_methodNamed B.named
  have hlocks := B.notSynchronized
  have hl := lv_entry ([.ref mo]) (n := 1) (Nat.le_of_ble_eq_true rfl)
  rw [lg_entry_eq]
  generalize (lg_sl ([.ref mo]) ++ List.replicate (1 - (lg_sl ([.ref mo])).length) Slot.unset).toArray = ls at hl ⊢
  have hl : lv_has ls 1 [(0, .ref mo)] := hl
  refine lv_aload_n hx hb dX11_thrown_0 rfl (lv_at hl 0 rfl) ?_
  refine va_get (D := D) (cl := vwCl) (ci := 16) (v := .int th) (C := RX11) (T := TX11) (N := 13) hx hb hts (by decide +kernel) hown hK hP 0 rfl rfl 0 (by decide) (hts (.fieldLink RX11 41 "GatherhouseModel" "thrown" "I") (by decide +kernel)) (fun _ h9 => h9) rfl dX11_thrown_1 ?_
  exact W.iret (v := th) hx hb hr (fun t ht hW => ⟨th, rfl, rfl, ht⟩) (fun q h => by cases h) dX11_thrown_4
theorem dX11_noPiece_0 : decode cX11_noPiece 0 = .ok (.aload_n 0, 1) := by decide +kernel
theorem dX11_noPiece_1 : decode cX11_noPiece 1 = .ok (.iload_n 1, 1) := by decide +kernel
theorem dX11_noPiece_2 : decode cX11_noPiece 2 = .ok (.iconst 0, 1) := by decide +kernel
theorem dX11_noPiece_3 : decode cX11_noPiece 3 = .ok (.aload_n 0, 1) := by decide +kernel
theorem dX11_noPiece_4 : decode cX11_noPiece 4 = .ok (.getfield 19, 3) := by decide +kernel
set_option maxRecDepth 20000 in
theorem ggX11_noPiece_Jx4a65c_size_8abf5 : GoodIn wsX11_noPiece wsJx4a65c_size_8abf5 := goodIn_r _ [7, 8, 26, 27, 28] (by decide +kernel) (by decide +kernel)
set_option maxRecDepth 20000 in
theorem gX11_noPiece_Jx4a65c_size_8abf5 : GoodIn wsX11_noPiece (wsV RX11 44 RJx4a65c yJx4a65c_size_8abf5 wsJx4a65c_size_8abf5) := goodIn_app (goodIn_of _ (by decide +kernel)) ggX11_noPiece_Jx4a65c_size_8abf5
theorem dX11_noPiece_7 : decode cX11_noPiece 7 = .ok (.invokevirtual 44, 3) := by decide +kernel
theorem dX11_noPiece_10 : decode cX11_noPiece 10 = .ok (.iconst 1, 1) := by decide +kernel
theorem dX11_noPiece_11 : decode cX11_noPiece 11 = .ok (.isub, 1) := by decide +kernel
set_option maxRecDepth 20000 in
theorem ggX11_noPiece_X11_in : GoodIn wsX11_noPiece wsX11_in := goodIn_r _ [12] (by decide +kernel) (by decide +kernel)
set_option maxRecDepth 20000 in
theorem gX11_noPiece_X11_in : GoodIn wsX11_noPiece (va_wsS RX11 47 yX11_in wsX11_in) := goodIn_app (goodIn_of _ (by decide +kernel)) ggX11_noPiece_X11_in
theorem dX11_noPiece_12 : decode cX11_noPiece 12 = .ok (.invokestatic 47, 3) := by decide +kernel
theorem dX11_noPiece_15 : decode cX11_noPiece 15 = .ok (.ifCond .eq 7, 3) := by decide +kernel
theorem dX11_noPiece_22 : decode cX11_noPiece 22 = .ok (.iconst 1, 1) := by decide +kernel
theorem dX11_noPiece_23 : decode cX11_noPiece 23 = .ok (.putfield 41, 3) := by decide +kernel
theorem dX11_noPiece_26 : decode cX11_noPiece 26 = .ok (.aload_n 0, 1) := by decide +kernel
theorem dX11_noPiece_27 : decode cX11_noPiece 27 = .ok (.getfield 41, 3) := by decide +kernel
theorem dX11_noPiece_30 : decode cX11_noPiece 30 = .ok (.ifCond .le 7, 3) := by decide +kernel
theorem dX11_noPiece_33 : decode cX11_noPiece 33 = .ok (.iconst 1, 1) := by decide +kernel
theorem dX11_noPiece_34 : decode cX11_noPiece 34 = .ok (.goto 4, 3) := by decide +kernel
theorem dX11_noPiece_38 : decode cX11_noPiece 38 = .ok (.ireturn, 1) := by decide +kernel
set_option maxHeartbeats 4000000 in
set_option maxRecDepth 100000 in
theorem zc_X11_noPiece (l : Launch) (D : va_G) (mo : Nat) (gl : Nat) (po : Nat) (pi : Nat) (bu : Nat) (pa : Nat) (th : Int32) (mh : Int32) (mt : Int32) (ed : Nat) (ii : Int32) (sz : Nat) : Met l yX11_noPiece wsX11_noPiece ({ frames := 1, cells := 0, slots := 0, locals := 22 }) (va_Pc [.ref mo, .int ii] (p_RW D [] [(mo, .inr (16, [.int th, .ref gl, .ref po, .ref pi, .ref bu, .ref pa, .int mt, .int mh, .int 40, .int 0, .null, .int 0, .int 0])), (pi, .inr (4, [.int 0, .ref ed, .int 0]))] sz)) (va_Qi (fun (r : Int32) (u : Unit) => r = 1) (fun (u : Unit) (t : State) => q_RW D [] [(mo, .inr (16, [.int 1, .ref gl, .ref po, .ref pi, .ref bu, .ref pa, .int mt, .int mh, .int 40, .int 0, .null, .int 0, .int 0])), (pi, .inr (4, [.int 0, .ref ed, .int 0]))] (va_A [(mo, .inr (16, [.int th, .ref gl, .ref po, .ref pi, .ref bu, .ref pa, .int mt, .int mh, .int 40, .int 0, .null, .int 0, .int 0])), (pi, .inr (4, [.int 0, .ref ed, .int 0]))] sz) t) (va_A [(mo, .inr (16, [.int th, .ref gl, .ref po, .ref pi, .ref bu, .ref pa, .int mt, .int mh, .int 40, .int 0, .null, .int 0, .int 0])), (pi, .inr (4, [.int 0, .ref ed, .int 0]))] sz)) 0 0 (va_A [(mo, .inr (16, [.int th, .ref gl, .ref po, .ref pi, .ref bu, .ref pa, .int mt, .int mh, .int 40, .int 0, .null, .int 0, .int 0])), (pi, .inr (4, [.int 0, .ref ed, .int 0]))] sz) := by
  refine Met.ofW (cc := cX11_noPiece) (maxL := 2) (ret := (some .boolean)) (by decide) rfl ?_
  intro p e s m args below meth c s₁ B hml hv
  obtain ⟨rfl, hsz, hP, hK, hD0, hT, hZ⟩ := hv
  have hx := B.exec
  have hb := B.bytes
  have hr := B.returns
  have hts := atoms_spec (ws := wsX11_noPiece) B.pre
  have hown : s.vm.findClass RX11 = some m.cls := findClass_of_methodNamed B.named
  have hlocks := B.notSynchronized
  subst hsz
  have hD := hD0.self (sz := s.heap.size)
  generalize hAe : va_A [(mo, .inr (16, [.int th, .ref gl, .ref po, .ref pi, .ref bu, .ref pa, .int mt, .int mh, .int 40, .int 0, .null, .int 0, .int 0])), (pi, .inr (4, [.int 0, .ref ed, .int 0]))] s.heap.size = A at hD hZ ⊢
  have hA : ∀ q : Nat, s.heap.size ≤ q → A q := fun q h => by rw [← hAe]; exact Or.inr h
  have hS : va_S A s.heap s.heap [] := va_S.rf
  have hl := lv_entry ([.ref mo, .int ii]) (n := 2) (Nat.le_of_ble_eq_true rfl)
  rw [lg_entry_eq]
  generalize (lg_sl ([.ref mo, .int ii]) ++ List.replicate (2 - (lg_sl ([.ref mo, .int ii])).length) Slot.unset).toArray = ls at hl ⊢
  have hl : lv_has ls 2 [(0, .ref mo), (1, .int ii)] := hl
  refine lv_aload_n hx hb dX11_noPiece_0 rfl (lv_at hl 0 rfl) ?_
  refine lv_iload_n hx hb dX11_noPiece_1 rfl (lv_at hl 1 rfl) ?_
  refine lv_iconst (v := 0) hx hb dX11_noPiece_2 (by decide) ?_
  refine lv_aload_n hx hb dX11_noPiece_3 rfl (lv_at hl 0 rfl) ?_
  refine va_get (D := D) (cl := vwCl) (ci := 16) (v := .ref pi) (C := RX11) (T := TX11) (N := 13) hx hb hts (by decide +kernel) hown hK hP 0 rfl rfl 3 (by decide) (hts (.fieldLink RX11 19 "GatherhouseModel" "pieces" "Ljava/util/ArrayList;") (by decide +kernel)) (fun _ h9 => h9) rfl dX11_noPiece_4 ?_
  refine vp_callSi (va_runV (As := []) (rest := [.int 0, .int ii, .ref mo]) ⟨hx, hb, hml, hown, hts⟩ (zc_Jx4a65c_size_8abf5 l D pi ed) (cwV 0 hts gX11_noPiece_Jx4a65c_size_8abf5 rfl rfl rfl (by decide +kernel) ⟨(Nat.le_of_ble_eq_true rfl), (Nat.le_of_ble_eq_true rfl)⟩) ⟨p_RO_blind, va_recv hK hP (ci := 4) (q0 := 1) rfl rfl, (p_RO_at (tc := []) (wc := [(pi, .inr (4, [.int 0, .ref ed, .int 0]))]) hP hK hT [1] [] rfl rfl [.ref pi])⟩ rfl rfl hl.1 rfl (lv_room (Nat.le_of_ble_eq_true rfl)) dX11_noPiece_7 ⟨(Nat.le_of_ble_eq_true rfl), (Nat.le_of_ble_eq_true rfl)⟩).run (fun r_3 w_4 => ?_)
  obtain rfl := w_4
  refine lv_iconst (v := 1) hx hb dX11_noPiece_10 (by decide) ?_
  refine lv_isub hx hb dX11_noPiece_11 ?_
  refine lv_topi (fun y_5 ey_5 => ?_)
  have ey_5 : y_5 = (-1) := ey_5.trans (by decide +kernel)
  subst ey_5
  refine vp_callSi (va_runS (As := [.int ii, .int 0, .int (-1)]) (rest := [.ref mo]) ⟨hx, hb, hml, hown, hts⟩ (zc_X11_in l D ii 0 (-1)) (cwS 3 hts gX11_noPiece_X11_in rfl rfl rfl (by decide +kernel) ⟨(Nat.le_of_ble_eq_true rfl), (Nat.le_of_ble_eq_true rfl)⟩) ⟨p_RO_blind, (p_RO_at (tc := []) (wc := []) hP hK hT [] [] rfl rfl [.int ii, .int 0, .int (-1)])⟩ rfl rfl hl.1 rfl (lv_room (Nat.le_of_ble_eq_true rfl)) dX11_noPiece_12 ⟨(Nat.le_of_ble_eq_true rfl), (Nat.le_of_ble_eq_true rfl)⟩).run (fun r_6 w_7 => ?_)
  rcases w_7 with ⟨c_8, rfl⟩ | ⟨c_9, rfl⟩
  · exact absurd c_8 (inR_none _)
  · refine lv_if_eq (tgt := 22) hx hb dX11_noPiece_15 (by decide) (fun _ => ?_) (fun cc => absurd (by decide) cc)
    refine lv_iconst (v := 1) hx hb dX11_noPiece_22 (by decide) ?_
    refine va_put (D := D) (cl := vwCl) (ci := 16) (v := .int 1) (ty := .int) (C := RX11) (T := TX11) (N := 13) hx hb hts (by decide +kernel) tyX11 tyX11_ok nmX11 hown hK hP hD hS 0 rfl rfl 0 (by decide) (hts (.fieldLink RX11 41 "GatherhouseModel" "thrown" "I") (by decide +kernel)) (fun _ h9 => h9) rfl (by decide +kernel) rfl rfl (Nat.le_of_ble_eq_true rfl) dX11_noPiece_23 (fun H locs hP hD hS => ?_)
    have hP : va_P D vwCl [(mo, .inr (16, [.int 1, .ref gl, .ref po, .ref pi, .ref bu, .ref pa, .int mt, .int mh, .int 40, .int 0, .null, .int 0, .int 0])), (pi, .inr (4, [.int 0, .ref ed, .int 0]))] H := hP
    have hD : va_D A [(mo, .inr (16, [.int 1, .ref gl, .ref po, .ref pi, .ref bu, .ref pa, .int mt, .int mh, .int 40, .int 0, .null, .int 0, .int 0])), (pi, .inr (4, [.int 0, .ref ed, .int 0]))] := hD
    refine lv_aload_n hx hb dX11_noPiece_26 rfl (lv_at hl 0 rfl) ?_
    refine va_get (D := D) (cl := vwCl) (ci := 16) (v := .int 1) (C := RX11) (T := TX11) (N := 13) hx hb hts (by decide +kernel) hown hK hP 0 rfl rfl 0 (by decide) (hts (.fieldLink RX11 41 "GatherhouseModel" "thrown" "I") (by decide +kernel)) (fun _ h9 => h9) rfl dX11_noPiece_27 ?_
    refine lv_if_le (tgt := 37) hx hb dX11_noPiece_30 (by decide) (fun cc => absurd cc (by decide)) (fun _ => ?_)
    refine lv_iconst (v := 1) hx hb dX11_noPiece_33 (by decide) ?_
    refine lv_goto (tgt := 38) hx hb dX11_noPiece_34 (by decide) ?_
    exact W.zret (v := 1) hx hb hr rfl (fun t ht hW => ⟨⟨1, (), rfl, rfl, q_RW_mk hP hK hD [0, 1] [] rfl rfl (by decide) rfl ht hW.alike⟩, hS.F ht⟩) hS.2.2 dX11_noPiece_38
theorem dX6_checkRange_0 : decode cX6_checkRange 0 = .ok (.iload_n 0, 1) := by decide +kernel
theorem dX6_checkRange_1 : decode cX6_checkRange 1 = .ok (.iload_n 1, 1) := by decide +kernel
theorem dX6_checkRange_2 : decode cX6_checkRange 2 = .ok (.if_icmp .lt 8, 3) := by decide +kernel
theorem dX6_checkRange_10 : decode cX6_checkRange 10 = .ok (.new 118, 3) := by decide +kernel
theorem dX6_checkRange_13 : decode cX6_checkRange 13 = .ok (.dup, 1) := by decide +kernel
theorem dX6_checkRange_14 : decode cX6_checkRange 14 = .ok (.ldc_w 363, 3) := by decide +kernel
theorem dX6_checkRange_17 : decode cX6_checkRange 17 = .ok (.invokespecial 122, 3) := by decide +kernel
theorem dX6_checkRange_20 : decode cX6_checkRange 20 = .ok (.athrow, 1) := by decide +kernel
theorem zt_X6_checkRange_122 : ∀ w ∈ (vx_atS RX6 122 "java/lang/IllegalArgumentException" ["java/lang/RuntimeException", "java/lang/Exception"]).filter goodWord, w ∈ wsX6_checkRange := by decide +kernel
theorem dX6_checkRange_5 : decode cX6_checkRange 5 = .ok (.iload_n 0, 1) := by decide +kernel
theorem dX6_checkRange_6 : decode cX6_checkRange 6 = .ok (.iload_n 2, 1) := by decide +kernel
theorem dX6_checkRange_7 : decode cX6_checkRange 7 = .ok (.if_icmp .le 14, 3) := by decide +kernel
theorem dX6_checkRange_21 : decode cX6_checkRange 21 = .ok (.return_, 1) := by decide +kernel
set_option maxHeartbeats 4000000 in
set_option maxRecDepth 100000 in
theorem zc_X6_checkRange (l : Launch) (hnt : l.stackTraces = false) (D : va_G) (v : Int32) (lo : Int32) (hi : Int32) (sz : Nat) : vx_Met l yX6_checkRange wsX6_checkRange ({ frames := 6, cells := 1, slots := 6, locals := 82 }) (va_Pc [.int v, .int lo, .int hi] (p_RW D [] [] sz)) (va_Qv (fun (u : Unit) => inR v lo hi) (fun (u : Unit) (t : State) => True) (va_A [] sz)) (vx_X (fun (_ : Unit) => True) (fun E (_ : Unit) (_ : State) => (E = "java/lang/IllegalArgumentException" ∧ (¬ inR v lo hi))) (va_A [] sz)) 1 6 (va_A [] sz) := by
  refine vx_ofW (cc := cX6_checkRange) (maxL := 3) (ret := none) (by decide) rfl ?_
  intro p e s m args below meth c s₁ B hml hxt hv
  obtain ⟨rfl, hsz, hP, hK, hD0, hT, hZ⟩ := hv
  have hx := B.exec
  have hb := B.bytes
  have hr := B.returns
  have hts := atoms_spec (ws := wsX6_checkRange) B.pre
  have hown : s.vm.findClass RX6 = some m.cls := findClass_of_methodNamed B.named
  have hlocks := B.notSynchronized
  subst hsz
  have hD := hD0.self (sz := s.heap.size)
  generalize hAe : va_A [] s.heap.size = A at hD hZ ⊢
  have hA : ∀ q : Nat, s.heap.size ≤ q → A q := fun q h => by rw [← hAe]; exact Or.inr h
  have hS : va_S A s.heap s.heap [] := va_S.rf
  have hl := lv_entry ([.int v, .int lo, .int hi]) (n := 3) (Nat.le_of_ble_eq_true rfl)
  rw [lg_entry_eq]
  generalize (lg_sl ([.int v, .int lo, .int hi]) ++ List.replicate (3 - (lg_sl ([.int v, .int lo, .int hi])).length) Slot.unset).toArray = ls at hl ⊢
  have hl : lv_has ls 3 [(0, .int v), (1, .int lo), (2, .int hi)] := hl
  refine lv_iload_n hx hb dX6_checkRange_0 rfl (lv_at hl 0 rfl) ?_
  refine lv_iload_n hx hb dX6_checkRange_1 rfl (lv_at hl 1 rfl) ?_
  refine lv_icmp_lt (tgt := 10) hx hb dX6_checkRange_2 (by decide) (fun c_10 => ?_) (fun c_10 => ?_)
  · obtain ⟨sa_11, hsa_11⟩ := hT.2.2.2.2.2.1 ("Gatherhouse", 363, "a number is out of range") (by decide +kernel)
    refine vx_throwSW (own := RX6) (cls := "java/lang/IllegalArgumentException") (names := ["java/lang/RuntimeException", "java/lang/Exception"]) (A := A) hx hb hnt hown (by decide +kernel) (by decide +kernel) (hts (.classLink RX6 118 "java/lang/IllegalArgumentException") (by decide +kernel)) (hts (.initialized "java/lang/IllegalArgumentException") (by decide +kernel)) hsa_11 (z_throw (fun w h => hts w (zt_X6_checkRange_122 w h)) (hT.2.2.1 ("java/lang/IllegalArgumentException", "java/lang/IllegalArgumentException") (by decide +kernel)) (by decide +kernel)) (by decide +kernel) hZ.1 hZ.2 hS (by rw [hml]; exact hl.1) dX6_checkRange_10 dX6_checkRange_13 dX6_checkRange_14 dX6_checkRange_17 dX6_checkRange_20 (fun x h => (hxt x h).elim) (Nat.le_of_ble_eq_true rfl) (Nat.le_of_ble_eq_true rfl) (Nat.le_of_ble_eq_true rfl) (Nat.le_of_ble_eq_true rfl) hlocks (fun t hvm hz1 hk1 => ⟨(), trivial, ⟨rfl, (by first | assumption | exact inR_1 (by assumption) (by assumption) | exact inR_2 (by assumption) (by assumption) | exact inR_3 (by assumption) | exact inR_4 (by assumption) | exact inR_5 (by assumption) | decide)⟩, ⟨Nat.le_trans hS.1 hz1, fun q h1 h2 => by rw [hk1 q (Nat.lt_of_lt_of_le h1 hS.1)]; exact hS.2.1 q h1 h2⟩⟩) hS.2.2 (Nat.le_of_ble_eq_true rfl) (Nat.le_of_ble_eq_true rfl)
  · refine lv_iload_n hx hb dX6_checkRange_5 rfl (lv_at hl 0 rfl) ?_
    refine lv_iload_n hx hb dX6_checkRange_6 rfl (lv_at hl 2 rfl) ?_
    refine lv_icmp_le (tgt := 21) hx hb dX6_checkRange_7 (by decide) (fun c_12 => ?_) (fun c_12 => ?_)
    · refine W.widen (k := 1) (n := 6) (Nat.le_of_ble_eq_true rfl) (Nat.le_of_ble_eq_true rfl) ?_
      refine vx_ret ?_
      exact W.vret hx hb hr (fun t ht hW => ⟨⟨(), rfl, (by first | assumption | exact inR_1 (by assumption) (by assumption) | exact inR_2 (by assumption) (by assumption) | exact inR_3 (by assumption) | exact inR_4 (by assumption) | exact inR_5 (by assumption) | decide), trivial⟩, hS.F ht⟩) hS.2.2 dX6_checkRange_21
    · obtain ⟨sa_13, hsa_13⟩ := hT.2.2.2.2.2.1 ("Gatherhouse", 363, "a number is out of range") (by decide +kernel)
      refine vx_throwSW (own := RX6) (cls := "java/lang/IllegalArgumentException") (names := ["java/lang/RuntimeException", "java/lang/Exception"]) (A := A) hx hb hnt hown (by decide +kernel) (by decide +kernel) (hts (.classLink RX6 118 "java/lang/IllegalArgumentException") (by decide +kernel)) (hts (.initialized "java/lang/IllegalArgumentException") (by decide +kernel)) hsa_13 (z_throw (fun w h => hts w (zt_X6_checkRange_122 w h)) (hT.2.2.1 ("java/lang/IllegalArgumentException", "java/lang/IllegalArgumentException") (by decide +kernel)) (by decide +kernel)) (by decide +kernel) hZ.1 hZ.2 hS (by rw [hml]; exact hl.1) dX6_checkRange_10 dX6_checkRange_13 dX6_checkRange_14 dX6_checkRange_17 dX6_checkRange_20 (fun x h => (hxt x h).elim) (Nat.le_of_ble_eq_true rfl) (Nat.le_of_ble_eq_true rfl) (Nat.le_of_ble_eq_true rfl) (Nat.le_of_ble_eq_true rfl) hlocks (fun t hvm hz1 hk1 => ⟨(), trivial, ⟨rfl, (by first | assumption | exact inR_1 (by assumption) (by assumption) | exact inR_2 (by assumption) (by assumption) | exact inR_3 (by assumption) | exact inR_4 (by assumption) | exact inR_5 (by assumption) | decide)⟩, ⟨Nat.le_trans hS.1 hz1, fun q h1 h2 => by rw [hk1 q (Nat.lt_of_lt_of_le h1 hS.1)]; exact hS.2.1 q h1 h2⟩⟩) hS.2.2 (Nat.le_of_ble_eq_true rfl) (Nat.le_of_ble_eq_true rfl)
theorem dX6_findPiece_0 : decode cX6_findPiece 0 = .ok (.iload_n 1, 1) := by decide +kernel
theorem dX6_findPiece_1 : decode cX6_findPiece 1 = .ok (.ifCond .lt 12, 3) := by decide +kernel
theorem dX6_findPiece_13 : decode cX6_findPiece 13 = .ok (.aconst_null, 1) := by decide +kernel
theorem dX6_findPiece_14 : decode cX6_findPiece 14 = .ok (.goto 9, 3) := by decide +kernel
theorem dX6_findPiece_23 : decode cX6_findPiece 23 = .ok (.astore_n 2, 1) := by decide +kernel
theorem dX6_findPiece_24 : decode cX6_findPiece 24 = .ok (.aload_n 2, 1) := by decide +kernel
theorem dX6_findPiece_25 : decode cX6_findPiece 25 = .ok (.ifnonnull 14, 3) := by decide +kernel
theorem dX6_findPiece_28 : decode cX6_findPiece 28 = .ok (.new 365, 3) := by decide +kernel
theorem dX6_findPiece_31 : decode cX6_findPiece 31 = .ok (.dup, 1) := by decide +kernel
theorem dX6_findPiece_32 : decode cX6_findPiece 32 = .ok (.ldc_w 372, 3) := by decide +kernel
theorem dX6_findPiece_35 : decode cX6_findPiece 35 = .ok (.invokespecial 369, 3) := by decide +kernel
theorem dX6_findPiece_38 : decode cX6_findPiece 38 = .ok (.athrow, 1) := by decide +kernel
theorem zt_X6_findPiece_369 : ∀ w ∈ (vx_atS RX6 369 "java/lang/IndexOutOfBoundsException" ["java/lang/RuntimeException", "java/lang/Exception"]).filter goodWord, w ∈ wsX6_findPiece := by decide +kernel
theorem dX6_findPiece_4 : decode cX6_findPiece 4 = .ok (.iload_n 1, 1) := by decide +kernel
theorem dX6_findPiece_5 : decode cX6_findPiece 5 = .ok (.aload_n 0, 1) := by decide +kernel
theorem dX6_findPiece_6 : decode cX6_findPiece 6 = .ok (.getfield 30, 3) := by decide +kernel
theorem dX6_findPiece_9 : decode cX6_findPiece 9 = .ok (.arraylength, 1) := by decide +kernel
theorem dX6_findPiece_10 : decode cX6_findPiece 10 = .ok (.if_icmp .lt 7, 3) := by decide +kernel
theorem dX6_findPiece_17 : decode cX6_findPiece 17 = .ok (.aload_n 0, 1) := by decide +kernel
theorem dX6_findPiece_18 : decode cX6_findPiece 18 = .ok (.getfield 30, 3) := by decide +kernel
theorem dX6_findPiece_21 : decode cX6_findPiece 21 = .ok (.iload_n 1, 1) := by decide +kernel
theorem dX6_findPiece_22 : decode cX6_findPiece 22 = .ok (.aaload, 1) := by decide +kernel
set_option maxHeartbeats 4000000 in
set_option maxRecDepth 100000 in
theorem zc_X6_findPiece (l : Launch) (hnt : l.stackTraces = false) (D : va_G) (xo : Nat) (xg : Nat) (xp : Nat) (xq : Nat) (r1 : Nat) (r2 : Nat) (r3 : Nat) (r4 : Nat) (se : Nat) (ts : Int32) (hq : Int32) (cq : ClassId) (ii : Int32) (sz : Nat) : vx_Met l yX6_findPiece wsX6_findPiece ({ frames := 6, cells := 1, slots := 6, locals := 82 }) (va_Pc [.ref xo, .int ii] (p_RW D [(cq, .object "Gatherhouse$Piece")] [(xo, .inr (11, [.ref xg, .int 0, .ref xp, .int 0, .ref xq, .int 0, .ref r1, .ref r2, .ref r3, .ref r4, .ref se, .int ts, .int hq, .int 40, .int 0, .int 0])), (xq, .inl (cq, 16, .inr (.inr (.inr (.inr (fun _ => none))))))] sz)) (va_Qq (fun (r : Option Nat) (u : Unit) => False) (fun (u : Unit) (t : State) => True) (va_A [(xo, .inr (11, [.ref xg, .int 0, .ref xp, .int 0, .ref xq, .int 0, .ref r1, .ref r2, .ref r3, .ref r4, .ref se, .int ts, .int hq, .int 40, .int 0, .int 0])), (xq, .inl (cq, 16, .inr (.inr (.inr (.inr (fun _ => none))))))] sz)) (vx_X (fun (_ : Unit) => True) (fun E (_ : Unit) (_ : State) => (E = "java/lang/IndexOutOfBoundsException")) (va_A [(xo, .inr (11, [.ref xg, .int 0, .ref xp, .int 0, .ref xq, .int 0, .ref r1, .ref r2, .ref r3, .ref r4, .ref se, .int ts, .int hq, .int 40, .int 0, .int 0])), (xq, .inl (cq, 16, .inr (.inr (.inr (.inr (fun _ => none))))))] sz)) 1 6 (va_A [(xo, .inr (11, [.ref xg, .int 0, .ref xp, .int 0, .ref xq, .int 0, .ref r1, .ref r2, .ref r3, .ref r4, .ref se, .int ts, .int hq, .int 40, .int 0, .int 0])), (xq, .inl (cq, 16, .inr (.inr (.inr (.inr (fun _ => none))))))] sz) := by
  refine vx_ofW (cc := cX6_findPiece) (maxL := 3) (ret := (some (.object "Gatherhouse$Piece"))) (by decide) rfl ?_
  intro p e s m args below meth c s₁ B hml hxt hv
  obtain ⟨rfl, hsz, hP, hK, hD0, hT, hZ⟩ := hv
  have hx := B.exec
  have hb := B.bytes
  have hr := B.returns
  have hts := atoms_spec (ws := wsX6_findPiece) B.pre
  have hown : s.vm.findClass RX6 = some m.cls := findClass_of_methodNamed B.named
  have hlocks := B.notSynchronized
  subst hsz
  have hD := hD0.self (sz := s.heap.size)
  generalize hAe : va_A [(xo, .inr (11, [.ref xg, .int 0, .ref xp, .int 0, .ref xq, .int 0, .ref r1, .ref r2, .ref r3, .ref r4, .ref se, .int ts, .int hq, .int 40, .int 0, .int 0])), (xq, .inl (cq, 16, .inr (.inr (.inr (.inr (fun _ => none))))))] s.heap.size = A at hD hZ ⊢
  have hA : ∀ q : Nat, s.heap.size ≤ q → A q := fun q h => by rw [← hAe]; exact Or.inr h
  have hS : va_S A s.heap s.heap [] := va_S.rf
  have hl := lv_entry ([.ref xo, .int ii]) (n := 3) (Nat.le_of_ble_eq_true rfl)
  rw [lg_entry_eq]
  generalize (lg_sl ([.ref xo, .int ii]) ++ List.replicate (3 - (lg_sl ([.ref xo, .int ii])).length) Slot.unset).toArray = ls at hl ⊢
  have hl : lv_has ls 3 [(0, .ref xo), (1, .int ii)] := hl
  refine lv_iload_n hx hb dX6_findPiece_0 rfl (lv_at hl 1 rfl) ?_
  refine lv_if_lt (tgt := 13) hx hb dX6_findPiece_1 (by decide) (fun c_14 => ?_) (fun c_14 => ?_)
  · refine lv_null hx hb dX6_findPiece_13 ?_
    refine lv_goto (tgt := 23) hx hb dX6_findPiece_14 (by decide) ?_
    refine lv_astore_nN (lv' := [(2, .null), (0, .ref xo), (1, .int ii)]) hx hb dX6_findPiece_23 rfl hl (by decide) rfl (fun ls hl => ?_)
    refine lv_aload_nN hx hb dX6_findPiece_24 rfl (lv_at hl 0 rfl) ?_
    refine lv_ifnonnullN hx hb dX6_findPiece_25 ?_
    obtain ⟨sa_15, hsa_15⟩ := hT.2.2.2.2.2.1 ("Gatherhouse", 372, "no such piece") (by decide +kernel)
    refine vx_throwSW (own := RX6) (cls := "java/lang/IndexOutOfBoundsException") (names := ["java/lang/RuntimeException", "java/lang/Exception"]) (A := A) hx hb hnt hown (by decide +kernel) (by decide +kernel) (hts (.classLink RX6 365 "java/lang/IndexOutOfBoundsException") (by decide +kernel)) (hts (.initialized "java/lang/IndexOutOfBoundsException") (by decide +kernel)) hsa_15 (z_throw (fun w h => hts w (zt_X6_findPiece_369 w h)) (hT.2.2.1 ("java/lang/IndexOutOfBoundsException", "java/lang/IndexOutOfBoundsException") (by decide +kernel)) (by decide +kernel)) (by decide +kernel) hZ.1 hZ.2 hS (by rw [hml]; exact hl.1) dX6_findPiece_28 dX6_findPiece_31 dX6_findPiece_32 dX6_findPiece_35 dX6_findPiece_38 (fun x h => (hxt x h).elim) (Nat.le_of_ble_eq_true rfl) (Nat.le_of_ble_eq_true rfl) (Nat.le_of_ble_eq_true rfl) (Nat.le_of_ble_eq_true rfl) hlocks (fun t hvm hz1 hk1 => ⟨(), trivial, rfl, ⟨Nat.le_trans hS.1 hz1, fun q h1 h2 => by rw [hk1 q (Nat.lt_of_lt_of_le h1 hS.1)]; exact hS.2.1 q h1 h2⟩⟩) hS.2.2 (Nat.le_of_ble_eq_true rfl) (Nat.le_of_ble_eq_true rfl)
  · refine lv_iload_n hx hb dX6_findPiece_4 rfl (lv_at hl 1 rfl) ?_
    refine lv_aload_n hx hb dX6_findPiece_5 rfl (lv_at hl 0 rfl) ?_
    refine va_get (D := D) (cl := vwCl) (ci := 11) (v := .ref xq) (C := RX6) (T := TX6) (N := 16) hx hb hts (by decide +kernel) hown hK hP 0 rfl rfl 4 (by decide) (hts (.fieldLink RX6 30 "Gatherhouse" "pieces" "[LGatherhouse$Piece;") (by decide +kernel)) (fun _ h9 => h9) rfl dX6_findPiece_6 ?_
    refine va_alen (D := D) (cl := vwCl) (v := 16) hx hb hK hP 1 0 rfl rfl (by decide) dX6_findPiece_9 ?_
    refine lv_icmp_lt (tgt := 17) hx hb dX6_findPiece_10 (by decide) (fun c_16 => ?_) (fun c_16 => ?_)
    · refine lv_aload_n hx hb dX6_findPiece_17 rfl (lv_at hl 0 rfl) ?_
      refine va_get (D := D) (cl := vwCl) (ci := 11) (v := .ref xq) (C := RX6) (T := TX6) (N := 16) hx hb hts (by decide +kernel) hown hK hP 0 rfl rfl 4 (by decide) (hts (.fieldLink RX6 30 "Gatherhouse" "pieces" "[LGatherhouse$Piece;") (by decide +kernel)) (fun _ h9 => h9) rfl dX6_findPiece_18 ?_
      refine lv_iload_n hx hb dX6_findPiece_21 rfl (lv_at hl 1 rfl) ?_
      refine va_aldq (D := D) (cl := vwCl) hx hb hK hP 1 0 rfl rfl (z_in c_14 c_16 (by decide)) dX6_findPiece_22 ?_
      refine W.eq (g2 := F0 m 23 ls [.null]) rfl ?_
      refine lv_astore_nN (lv' := [(2, .null), (0, .ref xo), (1, .int ii)]) hx hb dX6_findPiece_23 rfl hl (by decide) rfl (fun ls hl => ?_)
      refine lv_aload_nN hx hb dX6_findPiece_24 rfl (lv_at hl 0 rfl) ?_
      refine lv_ifnonnullN hx hb dX6_findPiece_25 ?_
      obtain ⟨sa_17, hsa_17⟩ := hT.2.2.2.2.2.1 ("Gatherhouse", 372, "no such piece") (by decide +kernel)
      refine vx_throwSW (own := RX6) (cls := "java/lang/IndexOutOfBoundsException") (names := ["java/lang/RuntimeException", "java/lang/Exception"]) (A := A) hx hb hnt hown (by decide +kernel) (by decide +kernel) (hts (.classLink RX6 365 "java/lang/IndexOutOfBoundsException") (by decide +kernel)) (hts (.initialized "java/lang/IndexOutOfBoundsException") (by decide +kernel)) hsa_17 (z_throw (fun w h => hts w (zt_X6_findPiece_369 w h)) (hT.2.2.1 ("java/lang/IndexOutOfBoundsException", "java/lang/IndexOutOfBoundsException") (by decide +kernel)) (by decide +kernel)) (by decide +kernel) hZ.1 hZ.2 hS (by rw [hml]; exact hl.1) dX6_findPiece_28 dX6_findPiece_31 dX6_findPiece_32 dX6_findPiece_35 dX6_findPiece_38 (fun x h => (hxt x h).elim) (Nat.le_of_ble_eq_true rfl) (Nat.le_of_ble_eq_true rfl) (Nat.le_of_ble_eq_true rfl) (Nat.le_of_ble_eq_true rfl) hlocks (fun t hvm hz1 hk1 => ⟨(), trivial, rfl, ⟨Nat.le_trans hS.1 hz1, fun q h1 h2 => by rw [hk1 q (Nat.lt_of_lt_of_le h1 hS.1)]; exact hS.2.1 q h1 h2⟩⟩) hS.2.2 (Nat.le_of_ble_eq_true rfl) (Nat.le_of_ble_eq_true rfl)
    · refine lv_null hx hb dX6_findPiece_13 ?_
      refine lv_goto (tgt := 23) hx hb dX6_findPiece_14 (by decide) ?_
      refine lv_astore_nN (lv' := [(2, .null), (0, .ref xo), (1, .int ii)]) hx hb dX6_findPiece_23 rfl hl (by decide) rfl (fun ls hl => ?_)
      refine lv_aload_nN hx hb dX6_findPiece_24 rfl (lv_at hl 0 rfl) ?_
      refine lv_ifnonnullN hx hb dX6_findPiece_25 ?_
      obtain ⟨sa_18, hsa_18⟩ := hT.2.2.2.2.2.1 ("Gatherhouse", 372, "no such piece") (by decide +kernel)
      refine vx_throwSW (own := RX6) (cls := "java/lang/IndexOutOfBoundsException") (names := ["java/lang/RuntimeException", "java/lang/Exception"]) (A := A) hx hb hnt hown (by decide +kernel) (by decide +kernel) (hts (.classLink RX6 365 "java/lang/IndexOutOfBoundsException") (by decide +kernel)) (hts (.initialized "java/lang/IndexOutOfBoundsException") (by decide +kernel)) hsa_18 (z_throw (fun w h => hts w (zt_X6_findPiece_369 w h)) (hT.2.2.1 ("java/lang/IndexOutOfBoundsException", "java/lang/IndexOutOfBoundsException") (by decide +kernel)) (by decide +kernel)) (by decide +kernel) hZ.1 hZ.2 hS (by rw [hml]; exact hl.1) dX6_findPiece_28 dX6_findPiece_31 dX6_findPiece_32 dX6_findPiece_35 dX6_findPiece_38 (fun x h => (hxt x h).elim) (Nat.le_of_ble_eq_true rfl) (Nat.le_of_ble_eq_true rfl) (Nat.le_of_ble_eq_true rfl) (Nat.le_of_ble_eq_true rfl) hlocks (fun t hvm hz1 hk1 => ⟨(), trivial, rfl, ⟨Nat.le_trans hS.1 hz1, fun q h1 h2 => by rw [hk1 q (Nat.lt_of_lt_of_le h1 hS.1)]; exact hS.2.1 q h1 h2⟩⟩) hS.2.2 (Nat.le_of_ble_eq_true rfl) (Nat.le_of_ble_eq_true rfl)
theorem dX6_mass_0 : decode cX6_mass 0 = .ok (.aload_n 0, 1) := by decide +kernel
theorem dX6_mass_1 : decode cX6_mass 1 = .ok (.iload_n 1, 1) := by decide +kernel
set_option maxRecDepth 20000 in
theorem ggX6_mass_X6_findPiece : GoodIn wsX6_mass wsX6_findPiece := goodIn_ca (goodIn_r _ [5, 6, 7, 8, 14, 15, 16, 17, 18, 19, 20, 21, 22, 23, 24, 25, 26, 27, 28, 29] (by decide +kernel) (by decide +kernel)) (goodIn_sub (fun _ h => List.mem_cons_of_mem _ (List.mem_append_right _ h)) (by decide +kernel))
set_option maxRecDepth 20000 in
theorem gX6_mass_X6_findPiece : GoodIn wsX6_mass (wsV RX6 169 RX6 yX6_findPiece wsX6_findPiece) := goodIn_app (goodIn_of _ (by decide +kernel)) ggX6_mass_X6_findPiece
theorem dX6_mass_2 : decode cX6_mass 2 = .ok (.invokevirtual 169, 3) := by decide +kernel
set_option maxHeartbeats 4000000 in
set_option maxRecDepth 100000 in
theorem zc_X6_mass (l : Launch) (hnt : l.stackTraces = false) (D : va_G) (xo : Nat) (xg : Nat) (xp : Nat) (xq : Nat) (r1 : Nat) (r2 : Nat) (r3 : Nat) (r4 : Nat) (se : Nat) (ts : Int32) (hq : Int32) (cq : ClassId) (ii : Int32) (sz : Nat) : vx_Met l yX6_mass wsX6_mass ({ frames := 7, cells := 1, slots := 6, locals := 104 }) (va_Pc [.ref xo, .int ii] (p_RW D [(cq, .object "Gatherhouse$Piece")] [(xo, .inr (11, [.ref xg, .int 0, .ref xp, .int 0, .ref xq, .int 0, .ref r1, .ref r2, .ref r3, .ref r4, .ref se, .int ts, .int hq, .int 40, .int 0, .int 0])), (xq, .inl (cq, 16, .inr (.inr (.inr (.inr (fun _ => none))))))] sz)) (va_Qi (fun (r : Int32) (u : Unit) => False) (fun (u : Unit) (t : State) => True) (va_A [(xo, .inr (11, [.ref xg, .int 0, .ref xp, .int 0, .ref xq, .int 0, .ref r1, .ref r2, .ref r3, .ref r4, .ref se, .int ts, .int hq, .int 40, .int 0, .int 0])), (xq, .inl (cq, 16, .inr (.inr (.inr (.inr (fun _ => none))))))] sz)) (vx_X (fun (_ : Unit) => True) (fun E (_ : Unit) (_ : State) => (E = "java/lang/IndexOutOfBoundsException")) (va_A [(xo, .inr (11, [.ref xg, .int 0, .ref xp, .int 0, .ref xq, .int 0, .ref r1, .ref r2, .ref r3, .ref r4, .ref se, .int ts, .int hq, .int 40, .int 0, .int 0])), (xq, .inl (cq, 16, .inr (.inr (.inr (.inr (fun _ => none))))))] sz)) 1 6 (va_A [(xo, .inr (11, [.ref xg, .int 0, .ref xp, .int 0, .ref xq, .int 0, .ref r1, .ref r2, .ref r3, .ref r4, .ref se, .int ts, .int hq, .int 40, .int 0, .int 0])), (xq, .inl (cq, 16, .inr (.inr (.inr (.inr (fun _ => none))))))] sz) := by
  refine vx_ofW (cc := cX6_mass) (maxL := 2) (ret := (some .int)) (by decide) rfl ?_
  intro p e s m args below meth c s₁ B hml hxt hv
  obtain ⟨rfl, hsz, hP, hK, hD0, hT, hZ⟩ := hv
  have hx := B.exec
  have hb := B.bytes
  have hr := B.returns
  have hts := atoms_spec (ws := wsX6_mass) B.pre
  have hown : s.vm.findClass RX6 = some m.cls := findClass_of_methodNamed B.named
  have hlocks := B.notSynchronized
  subst hsz
  have hD := hD0.self (sz := s.heap.size)
  generalize hAe : va_A [(xo, .inr (11, [.ref xg, .int 0, .ref xp, .int 0, .ref xq, .int 0, .ref r1, .ref r2, .ref r3, .ref r4, .ref se, .int ts, .int hq, .int 40, .int 0, .int 0])), (xq, .inl (cq, 16, .inr (.inr (.inr (.inr (fun _ => none))))))] s.heap.size = A at hD hZ ⊢
  have hA : ∀ q : Nat, s.heap.size ≤ q → A q := fun q h => by rw [← hAe]; exact Or.inr h
  have hS : va_S A s.heap s.heap [] := va_S.rf
  have hl := lv_entry ([.ref xo, .int ii]) (n := 2) (Nat.le_of_ble_eq_true rfl)
  rw [lg_entry_eq]
  generalize (lg_sl ([.ref xo, .int ii]) ++ List.replicate (2 - (lg_sl ([.ref xo, .int ii])).length) Slot.unset).toArray = ls at hl ⊢
  have hl : lv_has ls 2 [(0, .ref xo), (1, .int ii)] := hl
  refine lv_aload_n hx hb dX6_mass_0 rfl (lv_at hl 0 rfl) ?_
  refine lv_iload_n hx hb dX6_mass_1 rfl (lv_at hl 1 rfl) ?_
  have hFc := va_free (wc := [(xo, .inr (11, [.ref xg, .int 0, .ref xp, .int 0, .ref xq, .int 0, .ref r1, .ref r2, .ref r3, .ref r4, .ref se, .int ts, .int hq, .int 40, .int 0, .int 0])), (xq, .inl (cq, 16, .inr (.inr (.inr (.inr (fun _ => none))))))]) hD hS hA [0, 1] rfl
  refine vx_callq (vx_runV (As := [.int ii]) (rest := []) ⟨hx, hb, hml, hown, hts⟩ (zc_X6_findPiece l hnt D xo xg xp xq r1 r2 r3 r4 se ts hq cq ii H.size) (cwV 1 hts gX6_mass_X6_findPiece rfl rfl rfl (by decide +kernel) ⟨(Nat.le_of_ble_eq_true rfl), (Nat.le_of_ble_eq_true rfl)⟩) ⟨p_RW_blind, va_recv hK hP (ci := 11) (q0 := 0) rfl rfl, (p_RW_at (tc := [(cq, .object "Gatherhouse$Piece")]) (wc := [(xo, .inr (11, [.ref xg, .int 0, .ref xp, .int 0, .ref xq, .int 0, .ref r1, .ref r2, .ref r3, .ref r4, .ref se, .int ts, .int hq, .int 40, .int 0, .int 0])), (xq, .inl (cq, 16, .inr (.inr (.inr (.inr (fun _ => none))))))]) hP hK hD hS hA hT hZ [0, 1] [0] rfl rfl (by decide) rfl [.ref xo, .int ii])⟩ rfl rfl hl.1 rfl (lv_room (Nat.le_of_ble_eq_true rfl)) dX6_mass_2 ⟨(Nat.le_of_ble_eq_true rfl), (Nat.le_of_ble_eq_true rfl)⟩) hS (fun q _ h => hFc q h) hFc (fun q _ h => hFc q h) (fun E ce q9 u t H locs ht hvm hpx hBX hz1 hk1 hS hce hcv hcl => ?_) (fun r_19 u t H locs ht hvm w_20 hB hz1 hk1 hS => ?_)
  · have hBX : (E = "java/lang/IndexOutOfBoundsException") := hBX
    rcases hBX with rfl
    exact vx_out (fun x h => (hxt x h).elim) hlocks hce hcv hcl (fun t ht _ => ⟨(), trivial, rfl, hS.F ht⟩) hS.2.2 (Nat.le_of_ble_eq_true rfl) (Nat.le_of_ble_eq_true rfl)
  · exact w_20.elim
