theorem dX4_init_0 : decode cX4_init 0 = .ok (.aload_n 0, 1) := by decide +kernel
theorem dX4_init_1 : decode cX4_init 1 = .ok (.invokespecial 1, 3) := by decide +kernel
theorem dX4_init_4 : decode cX4_init 4 = .ok (.aload_n 0, 1) := by decide +kernel
theorem dX4_init_5 : decode cX4_init 5 = .ok (.iconst 0, 1) := by decide +kernel
theorem dX4_init_6 : decode cX4_init 6 = .ok (.putfield 7, 3) := by decide +kernel
theorem dX4_init_9 : decode cX4_init 9 = .ok (.aload_n 0, 1) := by decide +kernel
theorem dX4_init_10 : decode cX4_init 10 = .ok (.iconst 0, 1) := by decide +kernel
theorem dX4_init_11 : decode cX4_init 11 = .ok (.putfield 13, 3) := by decide +kernel
theorem dX4_init_14 : decode cX4_init 14 = .ok (.return_, 1) := by decide +kernel
def wzEX4_init : List Cond := [.code yX4_init cX4_init 1 none, .methodLink RX4 1 objectInit, .instanceMethod objectInit, .code objectInit ⟨#[0xb1]⟩ 1 none, .fieldLink RX4 7 "Gatherhouse$Role" "busy" "I", .fieldLink RX4 13 "Gatherhouse$Role" "paid" "I"]
def wzX4_init : List Cond := wzEX4_init ++ (u_ws RX4 TX4 2)
theorem zgEX4_init : wzEX4_init.all goodWord = true := by decide +kernel
theorem zuX4_init_X4 : ∀ w ∈ u_ws RX4 TX4 2, w ∈ wzX4_init := (fun _ h => (List.mem_append_right _ h))
set_option maxHeartbeats 4000000 in
set_option maxRecDepth 100000 in
theorem zc_X4_init (l : Launch) (D : va_G) (G : Nat × Nat × Nat) (ro : Nat) (ba : Int32) (pd : Int32) (sz : Nat) : Met l yX4_init wzX4_init ({ frames := 1, cells := 0, slots := 0, locals := 12 }) (va_Pc [.ref ro] (p_RW D G [] [(ro, .inr (9, [.int ba, .int pd]))] sz)) (va_Qv (fun (u : Unit) => True) (fun (u : Unit) (t : State) => q_RW D [] [(ro, .inr (9, [.int 0, .int 0]))] (va_A [(ro, .inr (9, [.int ba, .int pd]))] sz) t) (va_A [(ro, .inr (9, [.int ba, .int pd]))] sz)) 0 0 (va_A [(ro, .inr (9, [.int ba, .int pd]))] sz) := by
  refine Met.ofW (cc := cX4_init) (maxL := 1) (ret := none) (by decide) rfl ?_
  intro p e s m args below meth c s₁ B hml hv
  obtain ⟨rfl, hsz, hP, hK, hD0, hT, hZ⟩ := hv
  have hx := B.exec
  have hb := B.bytes
  have hr := B.returns
  have hts := atoms_spec (ws := wzX4_init) B.pre
  have hown : s.vm.findClass RX4 = some m.cls := findClass_of_methodNamed B.named
  have hlocks := B.notSynchronized
  have hin : meth.name = "<init>" := (name_of_methodNamed B.named B.method).1
  subst hsz
  have hD := hD0.self (sz := s.heap.size)
  generalize hAe : va_A [(ro, .inr (9, [.int ba, .int pd]))] s.heap.size = A at hD hZ ⊢
  have hA : ∀ q : Nat, s.heap.size ≤ q → A q := fun q h => by rw [← hAe]; exact Or.inr h
  have hS : va_S A s.heap s.heap [] := va_S.rf
  have hl := lv_entry ([.ref ro]) (n := 1) (Nat.le_of_ble_eq_true rfl)
  rw [lg_entry_eq]
  generalize (lg_sl ([.ref ro]) ++ List.replicate (1 - (lg_sl ([.ref ro])).length) Slot.unset).toArray = ls at hl ⊢
  have hl : lv_has ls 1 [(0, .ref ro)] := hl
  refine lv_aload_n hx hb dX4_init_0 rfl (lv_at hl 0 rfl) ?_
  refine W.objInit hx hb hown (hts (.methodLink RX4 1 objectInit) (by decide +kernel)) (hts (.instanceMethod objectInit) (by decide +kernel)) (hts (.code objectInit ⟨#[0xb1]⟩ 1 none) (by decide +kernel)) rfl (by rw [hml]; exact hl.1) rfl dX4_init_1 (Nat.le_of_ble_eq_true rfl) (Nat.le_of_ble_eq_true rfl) ?_
  refine W.eq (g2 := F0 m 4 ls []) rfl ?_
  refine lv_aload_n hx hb dX4_init_4 rfl (lv_at hl 0 rfl) ?_
  refine lv_iconst (v := 0) hx hb dX4_init_5 (by decide) ?_
  refine va_put (D := D) (cl := vwCl) (ci := 9) (v := .int 0) (ty := .int) (C := RX4) (T := TX4) (N := 2) hx hb hts zuX4_init_X4 tyX4 tyX4_ok nmX4 hown hK hP hD hS 0 rfl rfl 0 (by decide) (hts (.fieldLink RX4 7 "Gatherhouse$Role" "busy" "I") (by decide +kernel)) (fun _ h9 => h9) rfl (by decide +kernel) rfl rfl (Nat.le_of_ble_eq_true rfl) dX4_init_6 (fun H locs hP hD hS => ?_)
  have hP : va_P D vwCl [(ro, .inr (9, [.int 0, .int pd]))] H := hP
  have hD : va_D A [(ro, .inr (9, [.int 0, .int pd]))] := hD
  refine lv_aload_n hx hb dX4_init_9 rfl (lv_at hl 0 rfl) ?_
  refine lv_iconst (v := 0) hx hb dX4_init_10 (by decide) ?_
  refine va_put (D := D) (cl := vwCl) (ci := 9) (v := .int 0) (ty := .int) (C := RX4) (T := TX4) (N := 2) hx hb hts zuX4_init_X4 tyX4 tyX4_ok nmX4 hown hK hP hD hS 0 rfl rfl 1 (by decide) (hts (.fieldLink RX4 13 "Gatherhouse$Role" "paid" "I") (by decide +kernel)) (fun _ h9 => h9) rfl (by decide +kernel) rfl rfl (Nat.le_of_ble_eq_true rfl) dX4_init_11 (fun H locs hP hD hS => ?_)
  have hP : va_P D vwCl [(ro, .inr (9, [.int 0, .int 0]))] H := hP
  have hD : va_D A [(ro, .inr (9, [.int 0, .int 0]))] := hD
  exact W.vret hx hb hr (fun t ht hW => ⟨⟨(), rfl, trivial, q_RW_mk hP hK hD [0] [] rfl rfl (by decide) rfl ht hW.alike⟩, hS.F ht⟩) hS.2.2 dX4_init_14
theorem dX5_init_0 : decode cX5_init 0 = .ok (.aload_n 0, 1) := by decide +kernel
theorem dX5_init_1 : decode cX5_init 1 = .ok (.invokespecial 3, 3) := by decide +kernel
theorem dX5_init_4 : decode cX5_init 4 = .ok (.aload_n 0, 1) := by decide +kernel
theorem dX5_init_5 : decode cX5_init 5 = .ok (.bipush 16, 2) := by decide +kernel
theorem dX5_init_7 : decode cX5_init 7 = .ok (.newarray .int, 2) := by decide +kernel
theorem dX5_init_9 : decode cX5_init 9 = .ok (.putfield 9, 3) := by decide +kernel
theorem dX5_init_12 : decode cX5_init 12 = .ok (.aload_n 0, 1) := by decide +kernel
theorem dX5_init_13 : decode cX5_init 13 = .ok (.bipush 16, 2) := by decide +kernel
theorem dX5_init_15 : decode cX5_init 15 = .ok (.newarray .int, 2) := by decide +kernel
theorem dX5_init_17 : decode cX5_init 17 = .ok (.putfield 15, 3) := by decide +kernel
theorem dX5_init_20 : decode cX5_init 20 = .ok (.aload_n 0, 1) := by decide +kernel
theorem dX5_init_21 : decode cX5_init 21 = .ok (.bipush 16, 2) := by decide +kernel
theorem dX5_init_23 : decode cX5_init 23 = .ok (.newarray .int, 2) := by decide +kernel
theorem dX5_init_25 : decode cX5_init 25 = .ok (.putfield 18, 3) := by decide +kernel
theorem dX5_init_28 : decode cX5_init 28 = .ok (.aload_n 0, 1) := by decide +kernel
theorem dX5_init_29 : decode cX5_init 29 = .ok (.iconst 0, 1) := by decide +kernel
theorem dX5_init_30 : decode cX5_init 30 = .ok (.putfield 21, 3) := by decide +kernel
theorem dX5_init_33 : decode cX5_init 33 = .ok (.aload_n 0, 1) := by decide +kernel
theorem dX5_init_34 : decode cX5_init 34 = .ok (.iconst 0, 1) := by decide +kernel
theorem dX5_init_35 : decode cX5_init 35 = .ok (.putfield 25, 3) := by decide +kernel
theorem dX5_init_38 : decode cX5_init 38 = .ok (.aload_n 0, 1) := by decide +kernel
theorem dX5_init_39 : decode cX5_init 39 = .ok (.iconst 0, 1) := by decide +kernel
theorem dX5_init_40 : decode cX5_init 40 = .ok (.putfield 28, 3) := by decide +kernel
theorem dX5_init_43 : decode cX5_init 43 = .ok (.aload_n 0, 1) := by decide +kernel
theorem dX5_init_44 : decode cX5_init 44 = .ok (.iconst 0, 1) := by decide +kernel
theorem dX5_init_45 : decode cX5_init 45 = .ok (.putfield 31, 3) := by decide +kernel
theorem dX5_init_48 : decode cX5_init 48 = .ok (.return_, 1) := by decide +kernel
def wzEX5_init : List Cond := [.code yX5_init cX5_init 1 none, .methodLink RX5 3 objectInit, .instanceMethod objectInit, .code objectInit ⟨#[0xb1]⟩ 1 none, .arrayClass .int, .fieldLink RX5 9 "Gatherhouse$SetSearch" "numbers" "[I", .fieldLink RX5 15 "Gatherhouse$SetSearch" "heights" "[I", .fieldLink RX5 18 "Gatherhouse$SetSearch" "masses" "[I", .fieldLink RX5 21 "Gatherhouse$SetSearch" "size" "I", .fieldLink RX5 25 "Gatherhouse$SetSearch" "bestApart" "I", .fieldLink RX5 28 "Gatherhouse$SetSearch" "bestMass" "I", .fieldLink RX5 31 "Gatherhouse$SetSearch" "bestChoice" "I"]
def wzX5_init : List Cond := wzEX5_init ++ (u_ws RX5 TX5 7)
theorem zgEX5_init : wzEX5_init.all goodWord = true := by decide +kernel
theorem zuX5_init_X5 : ∀ w ∈ u_ws RX5 TX5 7, w ∈ wzX5_init := (fun _ h => (List.mem_append_right _ h))
set_option maxHeartbeats 4000000 in
set_option maxRecDepth 100000 in
theorem zc_X5_init (l : Launch) (D : va_G) (G : Nat × Nat × Nat) (se : Nat) (sz : Nat) : Met l yX5_init wzX5_init ({ frames := 1, cells := 3, slots := 48, locals := 12 }) (va_Pc [.ref se] (p_RW D G [] [(se, .inr (10, [.null, .null, .null, .int 0, .int 0, .int 0, .int 0]))] sz)) (va_Qv (fun (u : Unit) => True) (fun (u : Unit) (t : State) => ∃ (n1 : Nat) (n2 : Nat) (n3 : Nat), q_RW D [] [(se, .inr (10, [.ref n1, .ref n2, .ref n3, .int 0, .int 0, .int 0, .int 0]))] (va_A [(se, .inr (10, [.null, .null, .null, .int 0, .int 0, .int 0, .int 0]))] sz) t) (va_A [(se, .inr (10, [.null, .null, .null, .int 0, .int 0, .int 0, .int 0]))] sz)) 3 48 (va_A [(se, .inr (10, [.null, .null, .null, .int 0, .int 0, .int 0, .int 0]))] sz) := by
  refine Met.ofW (cc := cX5_init) (maxL := 1) (ret := none) (by decide) rfl ?_
  intro p e s m args below meth c s₁ B hml hv
  obtain ⟨rfl, hsz, hP, hK, hD0, hT, hZ⟩ := hv
  have hx := B.exec
  have hb := B.bytes
  have hr := B.returns
  have hts := atoms_spec (ws := wzX5_init) B.pre
  have hown : s.vm.findClass RX5 = some m.cls := findClass_of_methodNamed B.named
  have hlocks := B.notSynchronized
  have hin : meth.name = "<init>" := (name_of_methodNamed B.named B.method).1
  subst hsz
  have hD := hD0.self (sz := s.heap.size)
  generalize hAe : va_A [(se, .inr (10, [.null, .null, .null, .int 0, .int 0, .int 0, .int 0]))] s.heap.size = A at hD hZ ⊢
  have hA : ∀ q : Nat, s.heap.size ≤ q → A q := fun q h => by rw [← hAe]; exact Or.inr h
  have hS : va_S A s.heap s.heap [] := va_S.rf
  have hl := lv_entry ([.ref se]) (n := 1) (Nat.le_of_ble_eq_true rfl)
  rw [lg_entry_eq]
  generalize (lg_sl ([.ref se]) ++ List.replicate (1 - (lg_sl ([.ref se])).length) Slot.unset).toArray = ls at hl ⊢
  have hl : lv_has ls 1 [(0, .ref se)] := hl
  refine lv_aload_n hx hb dX5_init_0 rfl (lv_at hl 0 rfl) ?_
  refine W.objInit hx hb hown (hts (.methodLink RX5 3 objectInit) (by decide +kernel)) (hts (.instanceMethod objectInit) (by decide +kernel)) (hts (.code objectInit ⟨#[0xb1]⟩ 1 none) (by decide +kernel)) rfl (by rw [hml]; exact hl.1) rfl dX5_init_1 (Nat.le_of_ble_eq_true rfl) (Nat.le_of_ble_eq_true rfl) ?_
  refine W.eq (g2 := F0 m 4 ls []) rfl ?_
  refine lv_aload_n hx hb dX5_init_4 rfl (lv_at hl 0 rfl) ?_
  refine lv_bipush (v := 16) hx hb dX5_init_5 (by decide) ?_
  refine va_newa (D := D) (cl := vwCl) (atype := .int) (ty := .int) (N' := 16) (a0 := (16, .inl (fun _ => 0))) hx hb (hts (.arrayClass .int) (by decide +kernel)) rfl hK hP hD hS hA (fun _ => rfl) (by decide) (by decide) (by decide) (Nat.le_of_ble_eq_true rfl) (Nat.le_of_ble_eq_true rfl) dX5_init_7 (fun o_1 cA_2 H hK hP hD hS => ?_)
  have hP : va_P D vwCl [(se, .inr (10, [.null, .null, .null, .int 0, .int 0, .int 0, .int 0])), (o_1, .inl (cA_2, 16, .inl (fun _ => 0)))] H := hP
  have hD : va_D A [(se, .inr (10, [.null, .null, .null, .int 0, .int 0, .int 0, .int 0])), (o_1, .inl (cA_2, 16, .inl (fun _ => 0)))] := hD
  have hK : va_K D vwCl [(cA_2, .int)] s := hK
  refine W.widen (k := 1) (n := 16) (Nat.le_of_ble_eq_true rfl) (Nat.le_of_ble_eq_true rfl) ?_
  refine va_putF (D := D) (cl := vwCl) (ci := 10) (v := .ref o_1) (ty := (.array .int)) (C := RX5) (T := TX5) (N := 7) hx hb hts zuX5_init_X5 tyX5 tyX5_ok nmX5 hown hK hP hD hS 0 rfl rfl 0 (by decide) (hts (.fieldLink RX5 9 "Gatherhouse$SetSearch" "numbers" "[I") (by decide +kernel)) (fun _ h9 => h9) rfl hin rfl (by decide +kernel) rfl rfl (Nat.le_of_ble_eq_true rfl) dX5_init_9 (fun H locs hP hD hS => ?_)
  have hP : va_P D vwCl [(se, .inr (10, [.ref o_1, .null, .null, .int 0, .int 0, .int 0, .int 0])), (o_1, .inl (cA_2, 16, .inl (fun _ => 0)))] H := hP
  have hD : va_D A [(se, .inr (10, [.ref o_1, .null, .null, .int 0, .int 0, .int 0, .int 0])), (o_1, .inl (cA_2, 16, .inl (fun _ => 0)))] := hD
  refine lv_aload_n hx hb dX5_init_12 rfl (lv_at hl 0 rfl) ?_
  refine lv_bipush (v := 16) hx hb dX5_init_13 (by decide) ?_
  refine va_newa (D := D) (cl := vwCl) (atype := .int) (ty := .int) (N' := 16) (a0 := (16, .inl (fun _ => 0))) hx hb (hts (.arrayClass .int) (by decide +kernel)) rfl hK hP hD hS hA (fun _ => rfl) (by decide) (by decide) (by decide) (Nat.le_of_ble_eq_true rfl) (Nat.le_of_ble_eq_true rfl) dX5_init_15 (fun o_3 cA_4 H hK hP hD hS => ?_)
  have hP : va_P D vwCl [(se, .inr (10, [.ref o_1, .null, .null, .int 0, .int 0, .int 0, .int 0])), (o_1, .inl (cA_2, 16, .inl (fun _ => 0))), (o_3, .inl (cA_4, 16, .inl (fun _ => 0)))] H := hP
  have hD : va_D A [(se, .inr (10, [.ref o_1, .null, .null, .int 0, .int 0, .int 0, .int 0])), (o_1, .inl (cA_2, 16, .inl (fun _ => 0))), (o_3, .inl (cA_4, 16, .inl (fun _ => 0)))] := hD
  have hK : va_K D vwCl [(cA_2, .int), (cA_4, .int)] s := hK
  refine W.widen (k := 2) (n := 32) (Nat.le_of_ble_eq_true rfl) (Nat.le_of_ble_eq_true rfl) ?_
  refine va_putF (D := D) (cl := vwCl) (ci := 10) (v := .ref o_3) (ty := (.array .int)) (C := RX5) (T := TX5) (N := 7) hx hb hts zuX5_init_X5 tyX5 tyX5_ok nmX5 hown hK hP hD hS 0 rfl rfl 1 (by decide) (hts (.fieldLink RX5 15 "Gatherhouse$SetSearch" "heights" "[I") (by decide +kernel)) (fun _ h9 => h9) rfl hin rfl (by decide +kernel) rfl rfl (Nat.le_of_ble_eq_true rfl) dX5_init_17 (fun H locs hP hD hS => ?_)
  have hP : va_P D vwCl [(se, .inr (10, [.ref o_1, .ref o_3, .null, .int 0, .int 0, .int 0, .int 0])), (o_1, .inl (cA_2, 16, .inl (fun _ => 0))), (o_3, .inl (cA_4, 16, .inl (fun _ => 0)))] H := hP
  have hD : va_D A [(se, .inr (10, [.ref o_1, .ref o_3, .null, .int 0, .int 0, .int 0, .int 0])), (o_1, .inl (cA_2, 16, .inl (fun _ => 0))), (o_3, .inl (cA_4, 16, .inl (fun _ => 0)))] := hD
  refine lv_aload_n hx hb dX5_init_20 rfl (lv_at hl 0 rfl) ?_
  refine lv_bipush (v := 16) hx hb dX5_init_21 (by decide) ?_
  refine va_newa (D := D) (cl := vwCl) (atype := .int) (ty := .int) (N' := 16) (a0 := (16, .inl (fun _ => 0))) hx hb (hts (.arrayClass .int) (by decide +kernel)) rfl hK hP hD hS hA (fun _ => rfl) (by decide) (by decide) (by decide) (Nat.le_of_ble_eq_true rfl) (Nat.le_of_ble_eq_true rfl) dX5_init_23 (fun o_5 cA_6 H hK hP hD hS => ?_)
  have hP : va_P D vwCl [(se, .inr (10, [.ref o_1, .ref o_3, .null, .int 0, .int 0, .int 0, .int 0])), (o_1, .inl (cA_2, 16, .inl (fun _ => 0))), (o_3, .inl (cA_4, 16, .inl (fun _ => 0))), (o_5, .inl (cA_6, 16, .inl (fun _ => 0)))] H := hP
  have hD : va_D A [(se, .inr (10, [.ref o_1, .ref o_3, .null, .int 0, .int 0, .int 0, .int 0])), (o_1, .inl (cA_2, 16, .inl (fun _ => 0))), (o_3, .inl (cA_4, 16, .inl (fun _ => 0))), (o_5, .inl (cA_6, 16, .inl (fun _ => 0)))] := hD
  have hK : va_K D vwCl [(cA_2, .int), (cA_4, .int), (cA_6, .int)] s := hK
  refine W.widen (k := 3) (n := 48) (Nat.le_of_ble_eq_true rfl) (Nat.le_of_ble_eq_true rfl) ?_
  refine va_putF (D := D) (cl := vwCl) (ci := 10) (v := .ref o_5) (ty := (.array .int)) (C := RX5) (T := TX5) (N := 7) hx hb hts zuX5_init_X5 tyX5 tyX5_ok nmX5 hown hK hP hD hS 0 rfl rfl 2 (by decide) (hts (.fieldLink RX5 18 "Gatherhouse$SetSearch" "masses" "[I") (by decide +kernel)) (fun _ h9 => h9) rfl hin rfl (by decide +kernel) rfl rfl (Nat.le_of_ble_eq_true rfl) dX5_init_25 (fun H locs hP hD hS => ?_)
  have hP : va_P D vwCl [(se, .inr (10, [.ref o_1, .ref o_3, .ref o_5, .int 0, .int 0, .int 0, .int 0])), (o_1, .inl (cA_2, 16, .inl (fun _ => 0))), (o_3, .inl (cA_4, 16, .inl (fun _ => 0))), (o_5, .inl (cA_6, 16, .inl (fun _ => 0)))] H := hP
  have hD : va_D A [(se, .inr (10, [.ref o_1, .ref o_3, .ref o_5, .int 0, .int 0, .int 0, .int 0])), (o_1, .inl (cA_2, 16, .inl (fun _ => 0))), (o_3, .inl (cA_4, 16, .inl (fun _ => 0))), (o_5, .inl (cA_6, 16, .inl (fun _ => 0)))] := hD
  refine lv_aload_n hx hb dX5_init_28 rfl (lv_at hl 0 rfl) ?_
  refine lv_iconst (v := 0) hx hb dX5_init_29 (by decide) ?_
  refine va_put (D := D) (cl := vwCl) (ci := 10) (v := .int 0) (ty := .int) (C := RX5) (T := TX5) (N := 7) hx hb hts zuX5_init_X5 tyX5 tyX5_ok nmX5 hown hK hP hD hS 0 rfl rfl 3 (by decide) (hts (.fieldLink RX5 21 "Gatherhouse$SetSearch" "size" "I") (by decide +kernel)) (fun _ h9 => h9) rfl (by decide +kernel) rfl rfl (Nat.le_of_ble_eq_true rfl) dX5_init_30 (fun H locs hP hD hS => ?_)
  have hP : va_P D vwCl [(se, .inr (10, [.ref o_1, .ref o_3, .ref o_5, .int 0, .int 0, .int 0, .int 0])), (o_1, .inl (cA_2, 16, .inl (fun _ => 0))), (o_3, .inl (cA_4, 16, .inl (fun _ => 0))), (o_5, .inl (cA_6, 16, .inl (fun _ => 0)))] H := hP
  have hD : va_D A [(se, .inr (10, [.ref o_1, .ref o_3, .ref o_5, .int 0, .int 0, .int 0, .int 0])), (o_1, .inl (cA_2, 16, .inl (fun _ => 0))), (o_3, .inl (cA_4, 16, .inl (fun _ => 0))), (o_5, .inl (cA_6, 16, .inl (fun _ => 0)))] := hD
  refine lv_aload_n hx hb dX5_init_33 rfl (lv_at hl 0 rfl) ?_
  refine lv_iconst (v := 0) hx hb dX5_init_34 (by decide) ?_
  refine va_put (D := D) (cl := vwCl) (ci := 10) (v := .int 0) (ty := .int) (C := RX5) (T := TX5) (N := 7) hx hb hts zuX5_init_X5 tyX5 tyX5_ok nmX5 hown hK hP hD hS 0 rfl rfl 4 (by decide) (hts (.fieldLink RX5 25 "Gatherhouse$SetSearch" "bestApart" "I") (by decide +kernel)) (fun _ h9 => h9) rfl (by decide +kernel) rfl rfl (Nat.le_of_ble_eq_true rfl) dX5_init_35 (fun H locs hP hD hS => ?_)
  have hP : va_P D vwCl [(se, .inr (10, [.ref o_1, .ref o_3, .ref o_5, .int 0, .int 0, .int 0, .int 0])), (o_1, .inl (cA_2, 16, .inl (fun _ => 0))), (o_3, .inl (cA_4, 16, .inl (fun _ => 0))), (o_5, .inl (cA_6, 16, .inl (fun _ => 0)))] H := hP
  have hD : va_D A [(se, .inr (10, [.ref o_1, .ref o_3, .ref o_5, .int 0, .int 0, .int 0, .int 0])), (o_1, .inl (cA_2, 16, .inl (fun _ => 0))), (o_3, .inl (cA_4, 16, .inl (fun _ => 0))), (o_5, .inl (cA_6, 16, .inl (fun _ => 0)))] := hD
  refine lv_aload_n hx hb dX5_init_38 rfl (lv_at hl 0 rfl) ?_
  refine lv_iconst (v := 0) hx hb dX5_init_39 (by decide) ?_
  refine va_put (D := D) (cl := vwCl) (ci := 10) (v := .int 0) (ty := .int) (C := RX5) (T := TX5) (N := 7) hx hb hts zuX5_init_X5 tyX5 tyX5_ok nmX5 hown hK hP hD hS 0 rfl rfl 5 (by decide) (hts (.fieldLink RX5 28 "Gatherhouse$SetSearch" "bestMass" "I") (by decide +kernel)) (fun _ h9 => h9) rfl (by decide +kernel) rfl rfl (Nat.le_of_ble_eq_true rfl) dX5_init_40 (fun H locs hP hD hS => ?_)
  have hP : va_P D vwCl [(se, .inr (10, [.ref o_1, .ref o_3, .ref o_5, .int 0, .int 0, .int 0, .int 0])), (o_1, .inl (cA_2, 16, .inl (fun _ => 0))), (o_3, .inl (cA_4, 16, .inl (fun _ => 0))), (o_5, .inl (cA_6, 16, .inl (fun _ => 0)))] H := hP
  have hD : va_D A [(se, .inr (10, [.ref o_1, .ref o_3, .ref o_5, .int 0, .int 0, .int 0, .int 0])), (o_1, .inl (cA_2, 16, .inl (fun _ => 0))), (o_3, .inl (cA_4, 16, .inl (fun _ => 0))), (o_5, .inl (cA_6, 16, .inl (fun _ => 0)))] := hD
  refine lv_aload_n hx hb dX5_init_43 rfl (lv_at hl 0 rfl) ?_
  refine lv_iconst (v := 0) hx hb dX5_init_44 (by decide) ?_
  refine va_put (D := D) (cl := vwCl) (ci := 10) (v := .int 0) (ty := .int) (C := RX5) (T := TX5) (N := 7) hx hb hts zuX5_init_X5 tyX5 tyX5_ok nmX5 hown hK hP hD hS 0 rfl rfl 6 (by decide) (hts (.fieldLink RX5 31 "Gatherhouse$SetSearch" "bestChoice" "I") (by decide +kernel)) (fun _ h9 => h9) rfl (by decide +kernel) rfl rfl (Nat.le_of_ble_eq_true rfl) dX5_init_45 (fun H locs hP hD hS => ?_)
  have hP : va_P D vwCl [(se, .inr (10, [.ref o_1, .ref o_3, .ref o_5, .int 0, .int 0, .int 0, .int 0])), (o_1, .inl (cA_2, 16, .inl (fun _ => 0))), (o_3, .inl (cA_4, 16, .inl (fun _ => 0))), (o_5, .inl (cA_6, 16, .inl (fun _ => 0)))] H := hP
  have hD : va_D A [(se, .inr (10, [.ref o_1, .ref o_3, .ref o_5, .int 0, .int 0, .int 0, .int 0])), (o_1, .inl (cA_2, 16, .inl (fun _ => 0))), (o_3, .inl (cA_4, 16, .inl (fun _ => 0))), (o_5, .inl (cA_6, 16, .inl (fun _ => 0)))] := hD
  exact W.vret hx hb hr (fun t ht hW => ⟨⟨(), rfl, trivial, ⟨o_1, o_3, o_5, q_RW_mk hP hK hD [0] [] rfl rfl (by decide) rfl ht hW.alike⟩⟩, hS.F ht⟩) hS.2.2 dX5_init_48
theorem dX0_init_0 : decode cX0_init 0 = .ok (.aload_n 0, 1) := by decide +kernel
theorem dX0_init_1 : decode cX0_init 1 = .ok (.invokespecial 3, 3) := by decide +kernel
theorem dX0_init_4 : decode cX0_init 4 = .ok (.aload_n 0, 1) := by decide +kernel
theorem dX0_init_5 : decode cX0_init 5 = .ok (.iload_n 1, 1) := by decide +kernel
theorem dX0_init_6 : decode cX0_init 6 = .ok (.putfield 9, 3) := by decide +kernel
theorem dX0_init_9 : decode cX0_init 9 = .ok (.aload_n 0, 1) := by decide +kernel
theorem dX0_init_10 : decode cX0_init 10 = .ok (.iload_n 2, 1) := by decide +kernel
theorem dX0_init_11 : decode cX0_init 11 = .ok (.putfield 15, 3) := by decide +kernel
theorem dX0_init_14 : decode cX0_init 14 = .ok (.aload_n 0, 1) := by decide +kernel
theorem dX0_init_15 : decode cX0_init 15 = .ok (.iload_n 3, 1) := by decide +kernel
theorem dX0_init_16 : decode cX0_init 16 = .ok (.putfield 18, 3) := by decide +kernel
theorem dX0_init_19 : decode cX0_init 19 = .ok (.aload_n 0, 1) := by decide +kernel
theorem dX0_init_20 : decode cX0_init 20 = .ok (.iload 4, 2) := by decide +kernel
theorem dX0_init_22 : decode cX0_init 22 = .ok (.putfield 21, 3) := by decide +kernel
theorem dX0_init_25 : decode cX0_init 25 = .ok (.return_, 1) := by decide +kernel
def wzEX0_init : List Cond := [.code yX0_init cX0_init 5 none, .methodLink RX0 3 objectInit, .instanceMethod objectInit, .code objectInit ⟨#[0xb1]⟩ 1 none, .fieldLink RX0 9 "Gatherhouse$Glass" "low" "I", .fieldLink RX0 15 "Gatherhouse$Glass" "high" "I", .fieldLink RX0 18 "Gatherhouse$Glass" "expansion" "I", .fieldLink RX0 21 "Gatherhouse$Glass" "colour" "I"]
def wzX0_init : List Cond := wzEX0_init ++ (u_ws RX0 TX0 4)
theorem zgEX0_init : wzEX0_init.all goodWord = true := by decide +kernel
theorem zuX0_init_X0 : ∀ w ∈ u_ws RX0 TX0 4, w ∈ wzX0_init := (fun _ h => (List.mem_append_right _ h))
set_option maxHeartbeats 4000000 in
set_option maxRecDepth 100000 in
theorem zc_X0_init (l : Launch) (D : va_G) (G : Nat × Nat × Nat) (go : Nat) (lo : Int32) (hi : Int32) (xe : Int32) (co : Int32) (sz : Nat) : Met l yX0_init wzX0_init ({ frames := 1, cells := 0, slots := 0, locals := 12 }) (va_Pc [.ref go, .int lo, .int hi, .int xe, .int co] (p_RW D G [] [(go, .inr (5, [.int 0, .int 0, .int 0, .int 0]))] sz)) (va_Qv (fun (u : Unit) => True) (fun (u : Unit) (t : State) => q_RW D [] [(go, .inr (5, [.int lo, .int hi, .int xe, .int co]))] (va_A [(go, .inr (5, [.int 0, .int 0, .int 0, .int 0]))] sz) t) (va_A [(go, .inr (5, [.int 0, .int 0, .int 0, .int 0]))] sz)) 0 0 (va_A [(go, .inr (5, [.int 0, .int 0, .int 0, .int 0]))] sz) := by
  refine Met.ofW (cc := cX0_init) (maxL := 5) (ret := none) (by decide) rfl ?_
  intro p e s m args below meth c s₁ B hml hv
  obtain ⟨rfl, hsz, hP, hK, hD0, hT, hZ⟩ := hv
  have hx := B.exec
  have hb := B.bytes
  have hr := B.returns
  have hts := atoms_spec (ws := wzX0_init) B.pre
  have hown : s.vm.findClass RX0 = some m.cls := findClass_of_methodNamed B.named
  have hlocks := B.notSynchronized
  have hin : meth.name = "<init>" := (name_of_methodNamed B.named B.method).1
  subst hsz
  have hD := hD0.self (sz := s.heap.size)
  generalize hAe : va_A [(go, .inr (5, [.int 0, .int 0, .int 0, .int 0]))] s.heap.size = A at hD hZ ⊢
  have hA : ∀ q : Nat, s.heap.size ≤ q → A q := fun q h => by rw [← hAe]; exact Or.inr h
  have hS : va_S A s.heap s.heap [] := va_S.rf
  have hl := lv_entry ([.ref go, .int lo, .int hi, .int xe, .int co]) (n := 5) (Nat.le_of_ble_eq_true rfl)
  rw [lg_entry_eq]
  generalize (lg_sl ([.ref go, .int lo, .int hi, .int xe, .int co]) ++ List.replicate (5 - (lg_sl ([.ref go, .int lo, .int hi, .int xe, .int co])).length) Slot.unset).toArray = ls at hl ⊢
  have hl : lv_has ls 5 [(0, .ref go), (1, .int lo), (2, .int hi), (3, .int xe), (4, .int co)] := hl
  refine lv_aload_n hx hb dX0_init_0 rfl (lv_at hl 0 rfl) ?_
  refine W.objInit hx hb hown (hts (.methodLink RX0 3 objectInit) (by decide +kernel)) (hts (.instanceMethod objectInit) (by decide +kernel)) (hts (.code objectInit ⟨#[0xb1]⟩ 1 none) (by decide +kernel)) rfl (by rw [hml]; exact hl.1) rfl dX0_init_1 (Nat.le_of_ble_eq_true rfl) (Nat.le_of_ble_eq_true rfl) ?_
  refine W.eq (g2 := F0 m 4 ls []) rfl ?_
  refine lv_aload_n hx hb dX0_init_4 rfl (lv_at hl 0 rfl) ?_
  refine lv_iload_n hx hb dX0_init_5 rfl (lv_at hl 1 rfl) ?_
  refine va_putF (D := D) (cl := vwCl) (ci := 5) (v := .int lo) (ty := .int) (C := RX0) (T := TX0) (N := 4) hx hb hts zuX0_init_X0 tyX0 tyX0_ok nmX0 hown hK hP hD hS 0 rfl rfl 0 (by decide) (hts (.fieldLink RX0 9 "Gatherhouse$Glass" "low" "I") (by decide +kernel)) (fun _ h9 => h9) rfl hin rfl (by decide +kernel) rfl rfl (Nat.le_of_ble_eq_true rfl) dX0_init_6 (fun H locs hP hD hS => ?_)
  have hP : va_P D vwCl [(go, .inr (5, [.int lo, .int 0, .int 0, .int 0]))] H := hP
  have hD : va_D A [(go, .inr (5, [.int lo, .int 0, .int 0, .int 0]))] := hD
  refine lv_aload_n hx hb dX0_init_9 rfl (lv_at hl 0 rfl) ?_
  refine lv_iload_n hx hb dX0_init_10 rfl (lv_at hl 2 rfl) ?_
  refine va_putF (D := D) (cl := vwCl) (ci := 5) (v := .int hi) (ty := .int) (C := RX0) (T := TX0) (N := 4) hx hb hts zuX0_init_X0 tyX0 tyX0_ok nmX0 hown hK hP hD hS 0 rfl rfl 1 (by decide) (hts (.fieldLink RX0 15 "Gatherhouse$Glass" "high" "I") (by decide +kernel)) (fun _ h9 => h9) rfl hin rfl (by decide +kernel) rfl rfl (Nat.le_of_ble_eq_true rfl) dX0_init_11 (fun H locs hP hD hS => ?_)
  have hP : va_P D vwCl [(go, .inr (5, [.int lo, .int hi, .int 0, .int 0]))] H := hP
  have hD : va_D A [(go, .inr (5, [.int lo, .int hi, .int 0, .int 0]))] := hD
  refine lv_aload_n hx hb dX0_init_14 rfl (lv_at hl 0 rfl) ?_
  refine lv_iload_n hx hb dX0_init_15 rfl (lv_at hl 3 rfl) ?_
  refine va_putF (D := D) (cl := vwCl) (ci := 5) (v := .int xe) (ty := .int) (C := RX0) (T := TX0) (N := 4) hx hb hts zuX0_init_X0 tyX0 tyX0_ok nmX0 hown hK hP hD hS 0 rfl rfl 2 (by decide) (hts (.fieldLink RX0 18 "Gatherhouse$Glass" "expansion" "I") (by decide +kernel)) (fun _ h9 => h9) rfl hin rfl (by decide +kernel) rfl rfl (Nat.le_of_ble_eq_true rfl) dX0_init_16 (fun H locs hP hD hS => ?_)
  have hP : va_P D vwCl [(go, .inr (5, [.int lo, .int hi, .int xe, .int 0]))] H := hP
  have hD : va_D A [(go, .inr (5, [.int lo, .int hi, .int xe, .int 0]))] := hD
  refine lv_aload_n hx hb dX0_init_19 rfl (lv_at hl 0 rfl) ?_
  refine lv_iload hx hb dX0_init_20 (lv_at hl 4 rfl) ?_
  refine va_putF (D := D) (cl := vwCl) (ci := 5) (v := .int co) (ty := .int) (C := RX0) (T := TX0) (N := 4) hx hb hts zuX0_init_X0 tyX0 tyX0_ok nmX0 hown hK hP hD hS 0 rfl rfl 3 (by decide) (hts (.fieldLink RX0 21 "Gatherhouse$Glass" "colour" "I") (by decide +kernel)) (fun _ h9 => h9) rfl hin rfl (by decide +kernel) rfl rfl (Nat.le_of_ble_eq_true rfl) dX0_init_22 (fun H locs hP hD hS => ?_)
  have hP : va_P D vwCl [(go, .inr (5, [.int lo, .int hi, .int xe, .int co]))] H := hP
  have hD : va_D A [(go, .inr (5, [.int lo, .int hi, .int xe, .int co]))] := hD
  exact W.vret hx hb hr (fun t ht hW => ⟨⟨(), rfl, trivial, q_RW_mk hP hK hD [0] [] rfl rfl (by decide) rfl ht hW.alike⟩, hS.F ht⟩) hS.2.2 dX0_init_25
theorem dX4_isBusy_0 : decode cX4_isBusy 0 = .ok (.aload_n 0, 1) := by decide +kernel
theorem dX4_isBusy_1 : decode cX4_isBusy 1 = .ok (.getfield 7, 3) := by decide +kernel
theorem dX4_isBusy_4 : decode cX4_isBusy 4 = .ok (.ifCond .le 7, 3) := by decide +kernel
theorem dX4_isBusy_11 : decode cX4_isBusy 11 = .ok (.iconst 0, 1) := by decide +kernel
theorem dX4_isBusy_12 : decode cX4_isBusy 12 = .ok (.ireturn, 1) := by decide +kernel
def wzEX4_isBusy : List Cond := [.code yX4_isBusy cX4_isBusy 1 (some .boolean), .fieldLink RX4 7 "Gatherhouse$Role" "busy" "I"]
def wzX4_isBusy : List Cond := wzEX4_isBusy ++ (u_ws RX4 TX4 2)
theorem zgEX4_isBusy : wzEX4_isBusy.all goodWord = true := by decide +kernel
theorem zuX4_isBusy_X4 : ∀ w ∈ u_ws RX4 TX4 2, w ∈ wzX4_isBusy := (fun _ h => (List.mem_append_right _ h))
set_option maxHeartbeats 4000000 in
set_option maxRecDepth 100000 in
theorem zc_X4_isBusy (l : Launch) (D : va_G) (G : Nat × Nat × Nat) (ro : Nat) (pd : Int32) : Met l yX4_isBusy wzX4_isBusy ({ frames := 0, cells := 0, slots := 0, locals := 0 }) (va_Pc [.ref ro] (p_RO D G [] [(ro, .inr (9, [.int 0, .int pd]))])) (vp_Si (fun r => r = 0)) 0 0 (fun _ => False) := by
  refine Met.ofW (cc := cX4_isBusy) (maxL := 1) (ret := (some .boolean)) (by decide) rfl ?_
  intro p e s m args below meth c s₁ B hml hv
  obtain ⟨rfl, hP, hK, hT⟩ := hv
  have hx := B.exec
  have hb := B.bytes
  have hr := B.returns
  have hts := atoms_spec (ws := wzX4_isBusy) B.pre
  have hown : s.vm.findClass RX4 = some m.cls := findClass_of_methodNamed B.named
  have hlocks := B.notSynchronized
  have hl := lv_entry ([.ref ro]) (n := 1) (Nat.le_of_ble_eq_true rfl)
  rw [lg_entry_eq]
  generalize (lg_sl ([.ref ro]) ++ List.replicate (1 - (lg_sl ([.ref ro])).length) Slot.unset).toArray = ls at hl ⊢
  have hl : lv_has ls 1 [(0, .ref ro)] := hl
  refine lv_aload_n hx hb dX4_isBusy_0 rfl (lv_at hl 0 rfl) ?_
  refine va_get (D := D) (cl := vwCl) (ci := 9) (v := .int 0) (C := RX4) (T := TX4) (N := 2) hx hb hts zuX4_isBusy_X4 hown hK hP 0 rfl rfl 0 (by decide) (hts (.fieldLink RX4 7 "Gatherhouse$Role" "busy" "I") (by decide +kernel)) (fun _ h9 => h9) rfl dX4_isBusy_1 ?_
  refine lv_if_le (tgt := 11) hx hb dX4_isBusy_4 (by decide) (fun _ => ?_) (fun cc => absurd (by decide) cc)
  refine lv_iconst (v := 0) hx hb dX4_isBusy_11 (by decide) ?_
  exact W.zret (v := 0) hx hb hr rfl (fun t ht hW => ⟨0, rfl, rfl, ht⟩) (fun q h => by cases h) dX4_isBusy_12
theorem dX4_passSecond_0 : decode cX4_passSecond 0 = .ok (.aload_n 0, 1) := by decide +kernel
theorem dX4_passSecond_1 : decode cX4_passSecond 1 = .ok (.iconst 0, 1) := by decide +kernel
theorem dX4_passSecond_2 : decode cX4_passSecond 2 = .ok (.aload_n 0, 1) := by decide +kernel
theorem dX4_passSecond_3 : decode cX4_passSecond 3 = .ok (.getfield 7, 3) := by decide +kernel
theorem dX4_passSecond_6 : decode cX4_passSecond 6 = .ok (.iconst 1, 1) := by decide +kernel
theorem dX4_passSecond_7 : decode cX4_passSecond 7 = .ok (.isub, 1) := by decide +kernel
theorem dX4_passSecond_8 : decode cX4_passSecond 8 = .ok (.invokestatic 16, 3) := by decide +kernel
theorem dX4_passSecond_11 : decode cX4_passSecond 11 = .ok (.putfield 7, 3) := by decide +kernel
theorem dX4_passSecond_14 : decode cX4_passSecond 14 = .ok (.return_, 1) := by decide +kernel
def wzEX4_passSecond : List Cond := [.code yX4_passSecond cX4_passSecond 1 none, .fieldLink RX4 7 "Gatherhouse$Role" "busy" "I", .methodLink RX4 16 Lib.Math.max.name, .static Lib.Math.max.name, .initialized "java/lang/Math", .code Lib.Math.max.name Lib.Math.max.code 2 (some .int)]
def wzX4_passSecond : List Cond := wzEX4_passSecond ++ (u_ws RX4 TX4 2)
theorem zgEX4_passSecond : wzEX4_passSecond.all goodWord = true := by decide +kernel
theorem zuX4_passSecond_X4 : ∀ w ∈ u_ws RX4 TX4 2, w ∈ wzX4_passSecond := (fun _ h => (List.mem_append_right _ h))
set_option maxHeartbeats 4000000 in
set_option maxRecDepth 100000 in
theorem zc_X4_passSecond (l : Launch) (D : va_G) (G : Nat × Nat × Nat) (ro : Nat) (pd : Int32) (sz : Nat) : Met l yX4_passSecond wzX4_passSecond ({ frames := 1, cells := 0, slots := 0, locals := 22 }) (va_Pc [.ref ro] (p_RW D G [] [(ro, .inr (9, [.int 0, .int pd]))] sz)) (va_Qv (fun (u : Unit) => True) (fun (u : Unit) (t : State) => q_RW D [] [(ro, .inr (9, [.int 0, .int pd]))] (va_A [(ro, .inr (9, [.int 0, .int pd]))] sz) t) (va_A [(ro, .inr (9, [.int 0, .int pd]))] sz)) 0 0 (va_A [(ro, .inr (9, [.int 0, .int pd]))] sz) := by
  refine Met.ofW (cc := cX4_passSecond) (maxL := 1) (ret := none) (by decide) rfl ?_
  intro p e s m args below meth c s₁ B hml hv
  obtain ⟨rfl, hsz, hP, hK, hD0, hT, hZ⟩ := hv
  have hx := B.exec
  have hb := B.bytes
  have hr := B.returns
  have hts := atoms_spec (ws := wzX4_passSecond) B.pre
  have hown : s.vm.findClass RX4 = some m.cls := findClass_of_methodNamed B.named
  have hlocks := B.notSynchronized
  subst hsz
  have hD := hD0.self (sz := s.heap.size)
  generalize hAe : va_A [(ro, .inr (9, [.int 0, .int pd]))] s.heap.size = A at hD hZ ⊢
  have hA : ∀ q : Nat, s.heap.size ≤ q → A q := fun q h => by rw [← hAe]; exact Or.inr h
  have hS : va_S A s.heap s.heap [] := va_S.rf
  have hl := lv_entry ([.ref ro]) (n := 1) (Nat.le_of_ble_eq_true rfl)
  rw [lg_entry_eq]
  generalize (lg_sl ([.ref ro]) ++ List.replicate (1 - (lg_sl ([.ref ro])).length) Slot.unset).toArray = ls at hl ⊢
  have hl : lv_has ls 1 [(0, .ref ro)] := hl
  refine lv_aload_n hx hb dX4_passSecond_0 rfl (lv_at hl 0 rfl) ?_
  refine lv_iconst (v := 0) hx hb dX4_passSecond_1 (by decide) ?_
  refine lv_aload_n hx hb dX4_passSecond_2 rfl (lv_at hl 0 rfl) ?_
  refine va_get (D := D) (cl := vwCl) (ci := 9) (v := .int 0) (C := RX4) (T := TX4) (N := 2) hx hb hts zuX4_passSecond_X4 hown hK hP 0 rfl rfl 0 (by decide) (hts (.fieldLink RX4 7 "Gatherhouse$Role" "busy" "I") (by decide +kernel)) (fun _ h9 => h9) rfl dX4_passSecond_3 ?_
  refine lv_iconst (v := 1) hx hb dX4_passSecond_6 (by decide) ?_
  refine lv_isub hx hb dX4_passSecond_7 ?_
  refine lv_topi (fun y_7 ey_7 => ?_)
  have ey_7 : y_7 = (-1) := ey_7.trans (by decide +kernel)
  subst ey_7
  refine va_mmax hx hb (hml.trans hl.1.symm) hown (hts (.methodLink RX4 16 Lib.Math.max.name) (by decide +kernel)) (hts (.static Lib.Math.max.name) (by decide +kernel)) (hts (.initialized "java/lang/Math") (by decide +kernel)) (hts (.code Lib.Math.max.name Lib.Math.max.code 2 (some .int)) (by decide +kernel)) (Nat.le_of_ble_eq_true rfl) (Nat.le_of_ble_eq_true rfl) (Nat.le_of_ble_eq_true rfl) (Nat.le_of_ble_eq_true rfl) dX4_passSecond_8 ?_
  refine lv_topi (fun y_8 ey_8 => ?_)
  have ey_8 : y_8 = 0 := ey_8.trans (by decide +kernel)
  subst ey_8
  refine va_put (D := D) (cl := vwCl) (ci := 9) (v := .int 0) (ty := .int) (C := RX4) (T := TX4) (N := 2) hx hb hts zuX4_passSecond_X4 tyX4 tyX4_ok nmX4 hown hK hP hD hS 0 rfl rfl 0 (by decide) (hts (.fieldLink RX4 7 "Gatherhouse$Role" "busy" "I") (by decide +kernel)) (fun _ h9 => h9) rfl (by decide +kernel) rfl rfl (Nat.le_of_ble_eq_true rfl) dX4_passSecond_11 (fun H locs hP hD hS => ?_)
  have hP : va_P D vwCl [(ro, .inr (9, [.int 0, .int pd]))] H := hP
  have hD : va_D A [(ro, .inr (9, [.int 0, .int pd]))] := hD
  exact W.vret hx hb hr (fun t ht hW => ⟨⟨(), rfl, trivial, q_RW_mk hP hK hD [0] [] rfl rfl (by decide) rfl ht hW.alike⟩, hS.F ht⟩) hS.2.2 dX4_passSecond_14
theorem dX5_begin_0 : decode cX5_begin 0 = .ok (.aload_n 0, 1) := by decide +kernel
theorem dX5_begin_1 : decode cX5_begin 1 = .ok (.iconst 0, 1) := by decide +kernel
theorem dX5_begin_2 : decode cX5_begin 2 = .ok (.putfield 21, 3) := by decide +kernel
theorem dX5_begin_5 : decode cX5_begin 5 = .ok (.aload_n 0, 1) := by decide +kernel
theorem dX5_begin_6 : decode cX5_begin 6 = .ok (.ldc 36, 2) := by decide +kernel
theorem dX5_begin_8 : decode cX5_begin 8 = .ok (.putfield 25, 3) := by decide +kernel
theorem dX5_begin_11 : decode cX5_begin 11 = .ok (.aload_n 0, 1) := by decide +kernel
theorem dX5_begin_12 : decode cX5_begin 12 = .ok (.ldc 36, 2) := by decide +kernel
theorem dX5_begin_14 : decode cX5_begin 14 = .ok (.putfield 28, 3) := by decide +kernel
theorem dX5_begin_17 : decode cX5_begin 17 = .ok (.aload_n 0, 1) := by decide +kernel
theorem dX5_begin_18 : decode cX5_begin 18 = .ok (.iconst 0, 1) := by decide +kernel
theorem dX5_begin_19 : decode cX5_begin 19 = .ok (.putfield 31, 3) := by decide +kernel
theorem dX5_begin_22 : decode cX5_begin 22 = .ok (.return_, 1) := by decide +kernel
def wzEX5_begin : List Cond := [.code yX5_begin cX5_begin 1 none, .fieldLink RX5 21 "Gatherhouse$SetSearch" "size" "I", .constant RX5 36 (2147483647), .fieldLink RX5 25 "Gatherhouse$SetSearch" "bestApart" "I", .fieldLink RX5 28 "Gatherhouse$SetSearch" "bestMass" "I", .fieldLink RX5 31 "Gatherhouse$SetSearch" "bestChoice" "I"]
def wzX5_begin : List Cond := wzEX5_begin ++ (u_ws RX5 TX5 7)
theorem zgEX5_begin : wzEX5_begin.all goodWord = true := by decide +kernel
theorem zuX5_begin_X5 : ∀ w ∈ u_ws RX5 TX5 7, w ∈ wzX5_begin := (fun _ h => (List.mem_append_right _ h))
set_option maxHeartbeats 4000000 in
set_option maxRecDepth 100000 in
theorem zc_X5_begin (l : Launch) (D : va_G) (G : Nat × Nat × Nat) (se : Nat) (n1 : Nat) (n2 : Nat) (n3 : Nat) (sz : Nat) : Met l yX5_begin wzX5_begin ({ frames := 0, cells := 0, slots := 0, locals := 0 }) (va_Pc [.ref se] (p_RW D G [] [(se, .inr (10, [.ref n1, .ref n2, .ref n3, .int 0, .int 0, .int 0, .int 0]))] sz)) (va_Qv (fun (u : Unit) => True) (fun (u : Unit) (t : State) => q_RW D [] [(se, .inr (10, [.ref n1, .ref n2, .ref n3, .int 0, .int 2147483647, .int 2147483647, .int 0]))] (va_A [(se, .inr (10, [.ref n1, .ref n2, .ref n3, .int 0, .int 0, .int 0, .int 0]))] sz) t) (va_A [(se, .inr (10, [.ref n1, .ref n2, .ref n3, .int 0, .int 0, .int 0, .int 0]))] sz)) 0 0 (va_A [(se, .inr (10, [.ref n1, .ref n2, .ref n3, .int 0, .int 0, .int 0, .int 0]))] sz) := by
  refine Met.ofW (cc := cX5_begin) (maxL := 1) (ret := none) (by decide) rfl ?_
  intro p e s m args below meth c s₁ B hml hv
  obtain ⟨rfl, hsz, hP, hK, hD0, hT, hZ⟩ := hv
  have hx := B.exec
  have hb := B.bytes
  have hr := B.returns
  have hts := atoms_spec (ws := wzX5_begin) B.pre
  have hown : s.vm.findClass RX5 = some m.cls := findClass_of_methodNamed B.named
  have hlocks := B.notSynchronized
  subst hsz
  have hD := hD0.self (sz := s.heap.size)
  generalize hAe : va_A [(se, .inr (10, [.ref n1, .ref n2, .ref n3, .int 0, .int 0, .int 0, .int 0]))] s.heap.size = A at hD hZ ⊢
  have hA : ∀ q : Nat, s.heap.size ≤ q → A q := fun q h => by rw [← hAe]; exact Or.inr h
  have hS : va_S A s.heap s.heap [] := va_S.rf
  have hl := lv_entry ([.ref se]) (n := 1) (Nat.le_of_ble_eq_true rfl)
  rw [lg_entry_eq]
  generalize (lg_sl ([.ref se]) ++ List.replicate (1 - (lg_sl ([.ref se])).length) Slot.unset).toArray = ls at hl ⊢
  have hl : lv_has ls 1 [(0, .ref se)] := hl
  refine lv_aload_n hx hb dX5_begin_0 rfl (lv_at hl 0 rfl) ?_
  refine lv_iconst (v := 0) hx hb dX5_begin_1 (by decide) ?_
  refine va_put (D := D) (cl := vwCl) (ci := 10) (v := .int 0) (ty := .int) (C := RX5) (T := TX5) (N := 7) hx hb hts zuX5_begin_X5 tyX5 tyX5_ok nmX5 hown hK hP hD hS 0 rfl rfl 3 (by decide) (hts (.fieldLink RX5 21 "Gatherhouse$SetSearch" "size" "I") (by decide +kernel)) (fun _ h9 => h9) rfl (by decide +kernel) rfl rfl (Nat.le_of_ble_eq_true rfl) dX5_begin_2 (fun H locs hP hD hS => ?_)
  have hP : va_P D vwCl [(se, .inr (10, [.ref n1, .ref n2, .ref n3, .int 0, .int 0, .int 0, .int 0]))] H := hP
  have hD : va_D A [(se, .inr (10, [.ref n1, .ref n2, .ref n3, .int 0, .int 0, .int 0, .int 0]))] := hD
  refine lv_aload_n hx hb dX5_begin_5 rfl (lv_at hl 0 rfl) ?_
  refine lv_ldc (v := 2147483647) hx hb hown (hts (.constant RX5 36 (2147483647)) (by decide +kernel)) dX5_begin_6 ?_
  refine va_put (D := D) (cl := vwCl) (ci := 10) (v := .int 2147483647) (ty := .int) (C := RX5) (T := TX5) (N := 7) hx hb hts zuX5_begin_X5 tyX5 tyX5_ok nmX5 hown hK hP hD hS 0 rfl rfl 4 (by decide) (hts (.fieldLink RX5 25 "Gatherhouse$SetSearch" "bestApart" "I") (by decide +kernel)) (fun _ h9 => h9) rfl (by decide +kernel) rfl rfl (Nat.le_of_ble_eq_true rfl) dX5_begin_8 (fun H locs hP hD hS => ?_)
  have hP : va_P D vwCl [(se, .inr (10, [.ref n1, .ref n2, .ref n3, .int 0, .int 2147483647, .int 0, .int 0]))] H := hP
  have hD : va_D A [(se, .inr (10, [.ref n1, .ref n2, .ref n3, .int 0, .int 2147483647, .int 0, .int 0]))] := hD
  refine lv_aload_n hx hb dX5_begin_11 rfl (lv_at hl 0 rfl) ?_
  refine lv_ldc (v := 2147483647) hx hb hown (hts (.constant RX5 36 (2147483647)) (by decide +kernel)) dX5_begin_12 ?_
  refine va_put (D := D) (cl := vwCl) (ci := 10) (v := .int 2147483647) (ty := .int) (C := RX5) (T := TX5) (N := 7) hx hb hts zuX5_begin_X5 tyX5 tyX5_ok nmX5 hown hK hP hD hS 0 rfl rfl 5 (by decide) (hts (.fieldLink RX5 28 "Gatherhouse$SetSearch" "bestMass" "I") (by decide +kernel)) (fun _ h9 => h9) rfl (by decide +kernel) rfl rfl (Nat.le_of_ble_eq_true rfl) dX5_begin_14 (fun H locs hP hD hS => ?_)
  have hP : va_P D vwCl [(se, .inr (10, [.ref n1, .ref n2, .ref n3, .int 0, .int 2147483647, .int 2147483647, .int 0]))] H := hP
  have hD : va_D A [(se, .inr (10, [.ref n1, .ref n2, .ref n3, .int 0, .int 2147483647, .int 2147483647, .int 0]))] := hD
  refine lv_aload_n hx hb dX5_begin_17 rfl (lv_at hl 0 rfl) ?_
  refine lv_iconst (v := 0) hx hb dX5_begin_18 (by decide) ?_
  refine va_put (D := D) (cl := vwCl) (ci := 10) (v := .int 0) (ty := .int) (C := RX5) (T := TX5) (N := 7) hx hb hts zuX5_begin_X5 tyX5 tyX5_ok nmX5 hown hK hP hD hS 0 rfl rfl 6 (by decide) (hts (.fieldLink RX5 31 "Gatherhouse$SetSearch" "bestChoice" "I") (by decide +kernel)) (fun _ h9 => h9) rfl (by decide +kernel) rfl rfl (Nat.le_of_ble_eq_true rfl) dX5_begin_19 (fun H locs hP hD hS => ?_)
  have hP : va_P D vwCl [(se, .inr (10, [.ref n1, .ref n2, .ref n3, .int 0, .int 2147483647, .int 2147483647, .int 0]))] H := hP
  have hD : va_D A [(se, .inr (10, [.ref n1, .ref n2, .ref n3, .int 0, .int 2147483647, .int 2147483647, .int 0]))] := hD
  exact W.vret hx hb hr (fun t ht hW => ⟨⟨(), rfl, trivial, q_RW_mk hP hK hD [0] [] rfl rfl (by decide) rfl ht hW.alike⟩, hS.F ht⟩) hS.2.2 dX5_begin_22
theorem dX6_checkRange_0 : decode cX6_checkRange 0 = .ok (.iload_n 0, 1) := by decide +kernel
theorem dX6_checkRange_1 : decode cX6_checkRange 1 = .ok (.iload_n 1, 1) := by decide +kernel
theorem dX6_checkRange_2 : decode cX6_checkRange 2 = .ok (.if_icmp .lt 8, 3) := by decide +kernel
theorem dX6_checkRange_10 : decode cX6_checkRange 10 = .ok (.new 118, 3) := by decide +kernel
theorem dX6_checkRange_13 : decode cX6_checkRange 13 = .ok (.dup, 1) := by decide +kernel
theorem dX6_checkRange_14 : decode cX6_checkRange 14 = .ok (.ldc_w 363, 3) := by decide +kernel
theorem dX6_checkRange_17 : decode cX6_checkRange 17 = .ok (.invokespecial 122, 3) := by decide +kernel
theorem dX6_checkRange_20 : decode cX6_checkRange 20 = .ok (.athrow, 1) := by decide +kernel
theorem dX6_checkRange_5 : decode cX6_checkRange 5 = .ok (.iload_n 0, 1) := by decide +kernel
theorem dX6_checkRange_6 : decode cX6_checkRange 6 = .ok (.iload_n 2, 1) := by decide +kernel
theorem dX6_checkRange_7 : decode cX6_checkRange 7 = .ok (.if_icmp .le 14, 3) := by decide +kernel
theorem dX6_checkRange_21 : decode cX6_checkRange 21 = .ok (.return_, 1) := by decide +kernel
def wzEX6_checkRange : List Cond := [.code yX6_checkRange cX6_checkRange 3 none, .classLink RX6 118 "java/lang/IllegalArgumentException", .initialized "java/lang/IllegalArgumentException"]
def wzX6_checkRange : List Cond := wzEX6_checkRange ++ ((vx_atS RX6 122 "java/lang/IllegalArgumentException" ["java/lang/RuntimeException", "java/lang/Exception"]).filter goodWord)
theorem zgEX6_checkRange : wzEX6_checkRange.all goodWord = true := by decide +kernel
theorem ztX6_checkRange_X6_122 : ∀ w ∈ (vx_atS RX6 122 "java/lang/IllegalArgumentException" ["java/lang/RuntimeException", "java/lang/Exception"]).filter goodWord, w ∈ wzX6_checkRange := (fun _ h => (List.mem_append_right _ h))
set_option maxHeartbeats 4000000 in
set_option maxRecDepth 100000 in
theorem zc_X6_checkRange (l : Launch) (hnt : l.stackTraces = false) (D : va_G) (G : Nat × Nat × Nat) (v : Int32) (lo : Int32) (hi : Int32) (sz : Nat) : vx_Met l yX6_checkRange wzX6_checkRange ({ frames := 6, cells := 1, slots := 6, locals := 82 }) (va_Pc [.int v, .int lo, .int hi] (p_RW D G [] [] sz)) (va_Qv (fun (u : Unit) => inR v lo hi) (fun (u : Unit) (t : State) => True) (va_A [] sz)) (vx_X (fun (_ : Unit) => True) (fun E (_ : Unit) (_ : State) => (E = "java/lang/IllegalArgumentException" ∧ (¬ inR v lo hi))) (va_A [] sz)) 1 6 (va_A [] sz) := by
  refine vx_ofW (cc := cX6_checkRange) (maxL := 3) (ret := none) (by decide) rfl ?_
  intro p e s m args below meth c s₁ B hml hxt hv
  obtain ⟨rfl, hsz, hP, hK, hD0, hT, hZ⟩ := hv
  have hx := B.exec
  have hb := B.bytes
  have hr := B.returns
  have hts := atoms_spec (ws := wzX6_checkRange) B.pre
  have hown : s.vm.findClass RX6 = some m.cls := findClass_of_methodNamed B.named
  have hlocks := B.notSynchronized
  subst hsz
  have hD := hD0.self (sz := s.heap.size)
  generalize hAe : va_A [] s.heap.size = A at hD hZ ⊢
  have hA : ∀ q : Nat, s.heap.size ≤ q → A q := fun q h => by rw [← hAe]; exact Or.inr h
  have hS : va_S A s.heap s.heap [] := va_S.rf
  have hl := lv_entry ([.int v, .int lo, .int hi]) (n := 3) (Nat.le_of_ble_eq_true rfl)
  rw [lg_entry_eq]
  generalize (lg_sl ([.int v, .int lo, .int hi]) ++ List.replicate (3 - (lg_sl ([.int v, .int lo, .int hi])).length) Slot.unset).toArray = ls at hl ⊢
  have hl : lv_has ls 3 [(0, .int v), (1, .int lo), (2, .int hi)] := hl
  refine lv_iload_n hx hb dX6_checkRange_0 rfl (lv_at hl 0 rfl) ?_
  refine lv_iload_n hx hb dX6_checkRange_1 rfl (lv_at hl 1 rfl) ?_
  refine lv_icmp_lt (tgt := 10) hx hb dX6_checkRange_2 (by decide) (fun c_9 => ?_) (fun c_9 => ?_)
  · obtain ⟨sa_10, hsa_10⟩ := hT.2.2.2.2.2.1 ("Gatherhouse", 363, "a number is out of range") (by decide +kernel)
    refine vx_throwSW (own := RX6) (cls := "java/lang/IllegalArgumentException") (names := ["java/lang/RuntimeException", "java/lang/Exception"]) (A := A) hx hb hnt hown (by decide +kernel) (by decide +kernel) (hts (.classLink RX6 118 "java/lang/IllegalArgumentException") (by decide +kernel)) (hts (.initialized "java/lang/IllegalArgumentException") (by decide +kernel)) hsa_10 (z_throw (fun w h => hts w (ztX6_checkRange_X6_122 w h)) (hT.2.2.1 ("java/lang/IllegalArgumentException", "java/lang/IllegalArgumentException") (by decide +kernel)) hT.2.2.2.2.2.2.2.1 (by decide +kernel)) (by decide +kernel) hZ.1 hZ.2.1 hS (hl.1.trans hml.symm) dX6_checkRange_10 dX6_checkRange_13 dX6_checkRange_14 dX6_checkRange_17 dX6_checkRange_20 (fun x h => (hxt x h).elim) (Nat.le_of_ble_eq_true rfl) (Nat.le_of_ble_eq_true rfl) (Nat.le_of_ble_eq_true rfl) (Nat.le_of_ble_eq_true rfl) hlocks (fun t hvm hz1 hk1 => ⟨(), trivial, ⟨rfl, (by first | assumption | exact inR_1 (by assumption) (by assumption) | exact inR_2 (by assumption) (by assumption) | exact inR_3 (by assumption) | exact inR_4 (by assumption) | exact inR_5 (by assumption) | exact ⟨by assumption, by assumption, by assumption, by assumption⟩ | exact ⟨by assumption, by assumption, by assumption⟩ | exact (fun q => absurd q.1 (by assumption)) | exact (fun q => absurd q.2.1 (by assumption)) | exact (fun q => absurd q.2.2 (by assumption)) | exact (fun q => absurd q.2.2.1 (by assumption)) | exact (fun q => absurd q.2.2.2 (by assumption)) | exact isRole_no (by assumption) (by assumption) (by assumption) (by assumption) | exact isRole_nb (by assumption) (by assumption) (by assumption) (by assumption) | exact isRole_out (by assumption) | exact enc_use (by assumption) (by assumption) (by assumption) | exact enc_103 (by assumption) | exact enc_103 (Eq.symm (by assumption)) | exact enc_115 (Eq.symm (by assumption)) | exact enc_102 (Eq.symm (by assumption)) | exact enc_98 (Eq.symm (by assumption)) | exact isRole_nc (by assumption) (by assumption) (by assumption) (by assumption) | exact enc_115 (by assumption) | exact enc_102 (by assumption) | exact enc_98 (by assumption) | exact Or.inr (by assumption) | rfl | exact Or.inl (by assumption) | exact Or.inr (Or.inl (by assumption)) | exact Or.inr (Or.inr (Or.inl (by assumption))) | exact Or.inr (Or.inr (Or.inr (by assumption))) | decide)⟩, ⟨Nat.le_trans hS.1 hz1, fun q h1 h2 => (hk1 q (Nat.lt_of_lt_of_le h1 hS.1)).trans (hS.2.1 q h1 h2)⟩⟩) hS.2.2 (Nat.le_of_ble_eq_true rfl) (Nat.le_of_ble_eq_true rfl)
  · refine lv_iload_n hx hb dX6_checkRange_5 rfl (lv_at hl 0 rfl) ?_
    refine lv_iload_n hx hb dX6_checkRange_6 rfl (lv_at hl 2 rfl) ?_
    refine lv_icmp_le (tgt := 21) hx hb dX6_checkRange_7 (by decide) (fun c_11 => ?_) (fun c_11 => ?_)
    · refine W.widen (k := 1) (n := 6) (Nat.le_of_ble_eq_true rfl) (Nat.le_of_ble_eq_true rfl) ?_
      refine vx_ret ?_
      exact W.vret hx hb hr (fun t ht hW => ⟨⟨(), rfl, (by first | assumption | exact inR_1 (by assumption) (by assumption) | exact inR_2 (by assumption) (by assumption) | exact inR_3 (by assumption) | exact inR_4 (by assumption) | exact inR_5 (by assumption) | exact ⟨by assumption, by assumption, by assumption, by assumption⟩ | exact ⟨by assumption, by assumption, by assumption⟩ | exact (fun q => absurd q.1 (by assumption)) | exact (fun q => absurd q.2.1 (by assumption)) | exact (fun q => absurd q.2.2 (by assumption)) | exact (fun q => absurd q.2.2.1 (by assumption)) | exact (fun q => absurd q.2.2.2 (by assumption)) | exact isRole_no (by assumption) (by assumption) (by assumption) (by assumption) | exact isRole_nb (by assumption) (by assumption) (by assumption) (by assumption) | exact isRole_out (by assumption) | exact enc_use (by assumption) (by assumption) (by assumption) | exact enc_103 (by assumption) | exact enc_103 (Eq.symm (by assumption)) | exact enc_115 (Eq.symm (by assumption)) | exact enc_102 (Eq.symm (by assumption)) | exact enc_98 (Eq.symm (by assumption)) | exact isRole_nc (by assumption) (by assumption) (by assumption) (by assumption) | exact enc_115 (by assumption) | exact enc_102 (by assumption) | exact enc_98 (by assumption) | exact Or.inr (by assumption) | rfl | exact Or.inl (by assumption) | exact Or.inr (Or.inl (by assumption)) | exact Or.inr (Or.inr (Or.inl (by assumption))) | exact Or.inr (Or.inr (Or.inr (by assumption))) | decide), trivial⟩, hS.F ht⟩) hS.2.2 dX6_checkRange_21
    · obtain ⟨sa_12, hsa_12⟩ := hT.2.2.2.2.2.1 ("Gatherhouse", 363, "a number is out of range") (by decide +kernel)
      refine vx_throwSW (own := RX6) (cls := "java/lang/IllegalArgumentException") (names := ["java/lang/RuntimeException", "java/lang/Exception"]) (A := A) hx hb hnt hown (by decide +kernel) (by decide +kernel) (hts (.classLink RX6 118 "java/lang/IllegalArgumentException") (by decide +kernel)) (hts (.initialized "java/lang/IllegalArgumentException") (by decide +kernel)) hsa_12 (z_throw (fun w h => hts w (ztX6_checkRange_X6_122 w h)) (hT.2.2.1 ("java/lang/IllegalArgumentException", "java/lang/IllegalArgumentException") (by decide +kernel)) hT.2.2.2.2.2.2.2.1 (by decide +kernel)) (by decide +kernel) hZ.1 hZ.2.1 hS (hl.1.trans hml.symm) dX6_checkRange_10 dX6_checkRange_13 dX6_checkRange_14 dX6_checkRange_17 dX6_checkRange_20 (fun x h => (hxt x h).elim) (Nat.le_of_ble_eq_true rfl) (Nat.le_of_ble_eq_true rfl) (Nat.le_of_ble_eq_true rfl) (Nat.le_of_ble_eq_true rfl) hlocks (fun t hvm hz1 hk1 => ⟨(), trivial, ⟨rfl, (by first | assumption | exact inR_1 (by assumption) (by assumption) | exact inR_2 (by assumption) (by assumption) | exact inR_3 (by assumption) | exact inR_4 (by assumption) | exact inR_5 (by assumption) | exact ⟨by assumption, by assumption, by assumption, by assumption⟩ | exact ⟨by assumption, by assumption, by assumption⟩ | exact (fun q => absurd q.1 (by assumption)) | exact (fun q => absurd q.2.1 (by assumption)) | exact (fun q => absurd q.2.2 (by assumption)) | exact (fun q => absurd q.2.2.1 (by assumption)) | exact (fun q => absurd q.2.2.2 (by assumption)) | exact isRole_no (by assumption) (by assumption) (by assumption) (by assumption) | exact isRole_nb (by assumption) (by assumption) (by assumption) (by assumption) | exact isRole_out (by assumption) | exact enc_use (by assumption) (by assumption) (by assumption) | exact enc_103 (by assumption) | exact enc_103 (Eq.symm (by assumption)) | exact enc_115 (Eq.symm (by assumption)) | exact enc_102 (Eq.symm (by assumption)) | exact enc_98 (Eq.symm (by assumption)) | exact isRole_nc (by assumption) (by assumption) (by assumption) (by assumption) | exact enc_115 (by assumption) | exact enc_102 (by assumption) | exact enc_98 (by assumption) | exact Or.inr (by assumption) | rfl | exact Or.inl (by assumption) | exact Or.inr (Or.inl (by assumption)) | exact Or.inr (Or.inr (Or.inl (by assumption))) | exact Or.inr (Or.inr (Or.inr (by assumption))) | decide)⟩, ⟨Nat.le_trans hS.1 hz1, fun q h1 h2 => (hk1 q (Nat.lt_of_lt_of_le h1 hS.1)).trans (hS.2.1 q h1 h2)⟩⟩) hS.2.2 (Nat.le_of_ble_eq_true rfl) (Nat.le_of_ble_eq_true rfl)
theorem dX6_findPiece_0 : decode cX6_findPiece 0 = .ok (.iload_n 1, 1) := by decide +kernel
theorem dX6_findPiece_1 : decode cX6_findPiece 1 = .ok (.ifCond .lt 12, 3) := by decide +kernel
theorem dX6_findPiece_13 : decode cX6_findPiece 13 = .ok (.aconst_null, 1) := by decide +kernel
theorem dX6_findPiece_14 : decode cX6_findPiece 14 = .ok (.goto 9, 3) := by decide +kernel
theorem dX6_findPiece_23 : decode cX6_findPiece 23 = .ok (.astore_n 2, 1) := by decide +kernel
theorem dX6_findPiece_24 : decode cX6_findPiece 24 = .ok (.aload_n 2, 1) := by decide +kernel
theorem dX6_findPiece_25 : decode cX6_findPiece 25 = .ok (.ifnonnull 14, 3) := by decide +kernel
theorem dX6_findPiece_28 : decode cX6_findPiece 28 = .ok (.new 365, 3) := by decide +kernel
theorem dX6_findPiece_31 : decode cX6_findPiece 31 = .ok (.dup, 1) := by decide +kernel
theorem dX6_findPiece_32 : decode cX6_findPiece 32 = .ok (.ldc_w 372, 3) := by decide +kernel
theorem dX6_findPiece_35 : decode cX6_findPiece 35 = .ok (.invokespecial 369, 3) := by decide +kernel
theorem dX6_findPiece_38 : decode cX6_findPiece 38 = .ok (.athrow, 1) := by decide +kernel
theorem dX6_findPiece_4 : decode cX6_findPiece 4 = .ok (.iload_n 1, 1) := by decide +kernel
theorem dX6_findPiece_5 : decode cX6_findPiece 5 = .ok (.aload_n 0, 1) := by decide +kernel
theorem dX6_findPiece_6 : decode cX6_findPiece 6 = .ok (.getfield 30, 3) := by decide +kernel
theorem dX6_findPiece_9 : decode cX6_findPiece 9 = .ok (.arraylength, 1) := by decide +kernel
theorem dX6_findPiece_10 : decode cX6_findPiece 10 = .ok (.if_icmp .lt 7, 3) := by decide +kernel
theorem dX6_findPiece_17 : decode cX6_findPiece 17 = .ok (.aload_n 0, 1) := by decide +kernel
theorem dX6_findPiece_18 : decode cX6_findPiece 18 = .ok (.getfield 30, 3) := by decide +kernel
theorem dX6_findPiece_21 : decode cX6_findPiece 21 = .ok (.iload_n 1, 1) := by decide +kernel
theorem dX6_findPiece_22 : decode cX6_findPiece 22 = .ok (.aaload, 1) := by decide +kernel
def wzEX6_findPiece : List Cond := [.code yX6_findPiece cX6_findPiece 3 (some (.object "Gatherhouse$Piece")), .classLink RX6 365 "java/lang/IndexOutOfBoundsException", .initialized "java/lang/IndexOutOfBoundsException", .fieldLink RX6 30 "Gatherhouse" "pieces" "[LGatherhouse$Piece;"]
def wzX6_findPiece : List Cond := wzEX6_findPiece ++ (u_ws RX6 TX6 16 ++ ((vx_atS RX6 369 "java/lang/IndexOutOfBoundsException" ["java/lang/RuntimeException", "java/lang/Exception"]).filter goodWord))
theorem zgEX6_findPiece : wzEX6_findPiece.all goodWord = true := by decide +kernel
theorem zuX6_findPiece_X6 : ∀ w ∈ u_ws RX6 TX6 16, w ∈ wzX6_findPiece := (fun _ h => (List.mem_append_right _ (List.mem_append_left _ h)))
theorem ztX6_findPiece_X6_369 : ∀ w ∈ (vx_atS RX6 369 "java/lang/IndexOutOfBoundsException" ["java/lang/RuntimeException", "java/lang/Exception"]).filter goodWord, w ∈ wzX6_findPiece := (fun _ h => (List.mem_append_right _ (List.mem_append_right _ h)))
set_option maxHeartbeats 4000000 in
set_option maxRecDepth 100000 in
theorem zc_X6_findPiece (l : Launch) (hnt : l.stackTraces = false) (D : va_G) (G : Nat × Nat × Nat) (xo : Nat) (xg : Nat) (xp : Nat) (xq : Nat) (r1 : Nat) (r2 : Nat) (r3 : Nat) (r4 : Nat) (se : Nat) (ts : Int32) (hq : Int32) (cq : ClassId) (ii : Int32) (sz : Nat) : vx_Met l yX6_findPiece wzX6_findPiece ({ frames := 6, cells := 1, slots := 6, locals := 82 }) (va_Pc [.ref xo, .int ii] (p_RW D G [(cq, .object "Gatherhouse$Piece")] [(xo, .inr (11, [.ref xg, .int 0, .ref xp, .int 0, .ref xq, .int 0, .ref r1, .ref r2, .ref r3, .ref r4, .ref se, .int ts, .int hq, .int 40, .int 0, .int 0])), (xq, .inl (cq, 16, .inr (.inr (.inr (.inr (fun _ => none))))))] sz)) (va_Qq (fun (r : Option Nat) (u : Unit) => False) (fun (u : Unit) (t : State) => True) (va_A [(xo, .inr (11, [.ref xg, .int 0, .ref xp, .int 0, .ref xq, .int 0, .ref r1, .ref r2, .ref r3, .ref r4, .ref se, .int ts, .int hq, .int 40, .int 0, .int 0])), (xq, .inl (cq, 16, .inr (.inr (.inr (.inr (fun _ => none))))))] sz)) (vx_X (fun (_ : Unit) => True) (fun E (_ : Unit) (_ : State) => (E = "java/lang/IndexOutOfBoundsException")) (va_A [(xo, .inr (11, [.ref xg, .int 0, .ref xp, .int 0, .ref xq, .int 0, .ref r1, .ref r2, .ref r3, .ref r4, .ref se, .int ts, .int hq, .int 40, .int 0, .int 0])), (xq, .inl (cq, 16, .inr (.inr (.inr (.inr (fun _ => none))))))] sz)) 1 6 (va_A [(xo, .inr (11, [.ref xg, .int 0, .ref xp, .int 0, .ref xq, .int 0, .ref r1, .ref r2, .ref r3, .ref r4, .ref se, .int ts, .int hq, .int 40, .int 0, .int 0])), (xq, .inl (cq, 16, .inr (.inr (.inr (.inr (fun _ => none))))))] sz) := by
  refine vx_ofW (cc := cX6_findPiece) (maxL := 3) (ret := (some (.object "Gatherhouse$Piece"))) (by decide) rfl ?_
  intro p e s m args below meth c s₁ B hml hxt hv
  obtain ⟨rfl, hsz, hP, hK, hD0, hT, hZ⟩ := hv
  have hx := B.exec
  have hb := B.bytes
  have hr := B.returns
  have hts := atoms_spec (ws := wzX6_findPiece) B.pre
  have hown : s.vm.findClass RX6 = some m.cls := findClass_of_methodNamed B.named
  have hlocks := B.notSynchronized
  subst hsz
  have hD := hD0.self (sz := s.heap.size)
  generalize hAe : va_A [(xo, .inr (11, [.ref xg, .int 0, .ref xp, .int 0, .ref xq, .int 0, .ref r1, .ref r2, .ref r3, .ref r4, .ref se, .int ts, .int hq, .int 40, .int 0, .int 0])), (xq, .inl (cq, 16, .inr (.inr (.inr (.inr (fun _ => none))))))] s.heap.size = A at hD hZ ⊢
  have hA : ∀ q : Nat, s.heap.size ≤ q → A q := fun q h => by rw [← hAe]; exact Or.inr h
  have hS : va_S A s.heap s.heap [] := va_S.rf
  have hl := lv_entry ([.ref xo, .int ii]) (n := 3) (Nat.le_of_ble_eq_true rfl)
  rw [lg_entry_eq]
  generalize (lg_sl ([.ref xo, .int ii]) ++ List.replicate (3 - (lg_sl ([.ref xo, .int ii])).length) Slot.unset).toArray = ls at hl ⊢
  have hl : lv_has ls 3 [(0, .ref xo), (1, .int ii)] := hl
  refine lv_iload_n hx hb dX6_findPiece_0 rfl (lv_at hl 1 rfl) ?_
  refine lv_if_lt (tgt := 13) hx hb dX6_findPiece_1 (by decide) (fun c_13 => ?_) (fun c_13 => ?_)
  · refine lv_null hx hb dX6_findPiece_13 ?_
    refine lv_goto (tgt := 23) hx hb dX6_findPiece_14 (by decide) ?_
    refine lv_astore_nN (lv' := [(2, .null), (0, .ref xo), (1, .int ii)]) hx hb dX6_findPiece_23 rfl hl (by decide) rfl (fun ls hl => ?_)
    refine lv_aload_nN hx hb dX6_findPiece_24 rfl (lv_at hl 0 rfl) ?_
    refine lv_ifnonnullN hx hb dX6_findPiece_25 ?_
    obtain ⟨sa_14, hsa_14⟩ := hT.2.2.2.2.2.1 ("Gatherhouse", 372, "no such piece") (by decide +kernel)
    refine vx_throwSW (own := RX6) (cls := "java/lang/IndexOutOfBoundsException") (names := ["java/lang/RuntimeException", "java/lang/Exception"]) (A := A) hx hb hnt hown (by decide +kernel) (by decide +kernel) (hts (.classLink RX6 365 "java/lang/IndexOutOfBoundsException") (by decide +kernel)) (hts (.initialized "java/lang/IndexOutOfBoundsException") (by decide +kernel)) hsa_14 (z_throw (fun w h => hts w (ztX6_findPiece_X6_369 w h)) (hT.2.2.1 ("java/lang/IndexOutOfBoundsException", "java/lang/IndexOutOfBoundsException") (by decide +kernel)) hT.2.2.2.2.2.2.2.1 (by decide +kernel)) (by decide +kernel) hZ.1 hZ.2.1 hS (hl.1.trans hml.symm) dX6_findPiece_28 dX6_findPiece_31 dX6_findPiece_32 dX6_findPiece_35 dX6_findPiece_38 (fun x h => (hxt x h).elim) (Nat.le_of_ble_eq_true rfl) (Nat.le_of_ble_eq_true rfl) (Nat.le_of_ble_eq_true rfl) (Nat.le_of_ble_eq_true rfl) hlocks (fun t hvm hz1 hk1 => ⟨(), trivial, rfl, ⟨Nat.le_trans hS.1 hz1, fun q h1 h2 => (hk1 q (Nat.lt_of_lt_of_le h1 hS.1)).trans (hS.2.1 q h1 h2)⟩⟩) hS.2.2 (Nat.le_of_ble_eq_true rfl) (Nat.le_of_ble_eq_true rfl)
  · refine lv_iload_n hx hb dX6_findPiece_4 rfl (lv_at hl 1 rfl) ?_
    refine lv_aload_n hx hb dX6_findPiece_5 rfl (lv_at hl 0 rfl) ?_
    refine va_get (D := D) (cl := vwCl) (ci := 11) (v := .ref xq) (C := RX6) (T := TX6) (N := 16) hx hb hts zuX6_findPiece_X6 hown hK hP 0 rfl rfl 4 (by decide) (hts (.fieldLink RX6 30 "Gatherhouse" "pieces" "[LGatherhouse$Piece;") (by decide +kernel)) (fun _ h9 => h9) rfl dX6_findPiece_6 ?_
    refine va_alen (D := D) (cl := vwCl) (v := 16) hx hb hK hP 1 0 rfl rfl (by decide) dX6_findPiece_9 ?_
    refine lv_icmp_lt (tgt := 17) hx hb dX6_findPiece_10 (by decide) (fun c_15 => ?_) (fun c_15 => ?_)
    · refine lv_aload_n hx hb dX6_findPiece_17 rfl (lv_at hl 0 rfl) ?_
      refine va_get (D := D) (cl := vwCl) (ci := 11) (v := .ref xq) (C := RX6) (T := TX6) (N := 16) hx hb hts zuX6_findPiece_X6 hown hK hP 0 rfl rfl 4 (by decide) (hts (.fieldLink RX6 30 "Gatherhouse" "pieces" "[LGatherhouse$Piece;") (by decide +kernel)) (fun _ h9 => h9) rfl dX6_findPiece_18 ?_
      refine lv_iload_n hx hb dX6_findPiece_21 rfl (lv_at hl 1 rfl) ?_
      refine va_aldq (D := D) (cl := vwCl) hx hb hK hP 1 0 rfl rfl (z_in c_13 c_15 (by decide)) dX6_findPiece_22 ?_
      refine W.eq (g2 := F0 m 23 ls [.null]) rfl ?_
      refine lv_astore_nN (lv' := [(2, .null), (0, .ref xo), (1, .int ii)]) hx hb dX6_findPiece_23 rfl hl (by decide) rfl (fun ls hl => ?_)
      refine lv_aload_nN hx hb dX6_findPiece_24 rfl (lv_at hl 0 rfl) ?_
      refine lv_ifnonnullN hx hb dX6_findPiece_25 ?_
      obtain ⟨sa_16, hsa_16⟩ := hT.2.2.2.2.2.1 ("Gatherhouse", 372, "no such piece") (by decide +kernel)
      refine vx_throwSW (own := RX6) (cls := "java/lang/IndexOutOfBoundsException") (names := ["java/lang/RuntimeException", "java/lang/Exception"]) (A := A) hx hb hnt hown (by decide +kernel) (by decide +kernel) (hts (.classLink RX6 365 "java/lang/IndexOutOfBoundsException") (by decide +kernel)) (hts (.initialized "java/lang/IndexOutOfBoundsException") (by decide +kernel)) hsa_16 (z_throw (fun w h => hts w (ztX6_findPiece_X6_369 w h)) (hT.2.2.1 ("java/lang/IndexOutOfBoundsException", "java/lang/IndexOutOfBoundsException") (by decide +kernel)) hT.2.2.2.2.2.2.2.1 (by decide +kernel)) (by decide +kernel) hZ.1 hZ.2.1 hS (hl.1.trans hml.symm) dX6_findPiece_28 dX6_findPiece_31 dX6_findPiece_32 dX6_findPiece_35 dX6_findPiece_38 (fun x h => (hxt x h).elim) (Nat.le_of_ble_eq_true rfl) (Nat.le_of_ble_eq_true rfl) (Nat.le_of_ble_eq_true rfl) (Nat.le_of_ble_eq_true rfl) hlocks (fun t hvm hz1 hk1 => ⟨(), trivial, rfl, ⟨Nat.le_trans hS.1 hz1, fun q h1 h2 => (hk1 q (Nat.lt_of_lt_of_le h1 hS.1)).trans (hS.2.1 q h1 h2)⟩⟩) hS.2.2 (Nat.le_of_ble_eq_true rfl) (Nat.le_of_ble_eq_true rfl)
    · refine lv_null hx hb dX6_findPiece_13 ?_
      refine lv_goto (tgt := 23) hx hb dX6_findPiece_14 (by decide) ?_
      refine lv_astore_nN (lv' := [(2, .null), (0, .ref xo), (1, .int ii)]) hx hb dX6_findPiece_23 rfl hl (by decide) rfl (fun ls hl => ?_)
      refine lv_aload_nN hx hb dX6_findPiece_24 rfl (lv_at hl 0 rfl) ?_
      refine lv_ifnonnullN hx hb dX6_findPiece_25 ?_
      obtain ⟨sa_17, hsa_17⟩ := hT.2.2.2.2.2.1 ("Gatherhouse", 372, "no such piece") (by decide +kernel)
      refine vx_throwSW (own := RX6) (cls := "java/lang/IndexOutOfBoundsException") (names := ["java/lang/RuntimeException", "java/lang/Exception"]) (A := A) hx hb hnt hown (by decide +kernel) (by decide +kernel) (hts (.classLink RX6 365 "java/lang/IndexOutOfBoundsException") (by decide +kernel)) (hts (.initialized "java/lang/IndexOutOfBoundsException") (by decide +kernel)) hsa_17 (z_throw (fun w h => hts w (ztX6_findPiece_X6_369 w h)) (hT.2.2.1 ("java/lang/IndexOutOfBoundsException", "java/lang/IndexOutOfBoundsException") (by decide +kernel)) hT.2.2.2.2.2.2.2.1 (by decide +kernel)) (by decide +kernel) hZ.1 hZ.2.1 hS (hl.1.trans hml.symm) dX6_findPiece_28 dX6_findPiece_31 dX6_findPiece_32 dX6_findPiece_35 dX6_findPiece_38 (fun x h => (hxt x h).elim) (Nat.le_of_ble_eq_true rfl) (Nat.le_of_ble_eq_true rfl) (Nat.le_of_ble_eq_true rfl) (Nat.le_of_ble_eq_true rfl) hlocks (fun t hvm hz1 hk1 => ⟨(), trivial, rfl, ⟨Nat.le_trans hS.1 hz1, fun q h1 h2 => (hk1 q (Nat.lt_of_lt_of_le h1 hS.1)).trans (hS.2.1 q h1 h2)⟩⟩) hS.2.2 (Nat.le_of_ble_eq_true rfl) (Nat.le_of_ble_eq_true rfl)
theorem dX6_findPot_0 : decode cX6_findPot 0 = .ok (.iload_n 1, 1) := by decide +kernel
theorem dX6_findPot_1 : decode cX6_findPot 1 = .ok (.ifCond .lt 12, 3) := by decide +kernel
theorem dX6_findPot_13 : decode cX6_findPot 13 = .ok (.aconst_null, 1) := by decide +kernel
theorem dX6_findPot_14 : decode cX6_findPot 14 = .ok (.goto 9, 3) := by decide +kernel
theorem dX6_findPot_23 : decode cX6_findPot 23 = .ok (.astore_n 2, 1) := by decide +kernel
theorem dX6_findPot_24 : decode cX6_findPot 24 = .ok (.aload_n 2, 1) := by decide +kernel
theorem dX6_findPot_25 : decode cX6_findPot 25 = .ok (.ifnonnull 14, 3) := by decide +kernel
theorem dX6_findPot_28 : decode cX6_findPot 28 = .ok (.new 365, 3) := by decide +kernel
theorem dX6_findPot_31 : decode cX6_findPot 31 = .ok (.dup, 1) := by decide +kernel
theorem dX6_findPot_32 : decode cX6_findPot 32 = .ok (.ldc_w 370, 3) := by decide +kernel
theorem dX6_findPot_35 : decode cX6_findPot 35 = .ok (.invokespecial 369, 3) := by decide +kernel
theorem dX6_findPot_38 : decode cX6_findPot 38 = .ok (.athrow, 1) := by decide +kernel
theorem dX6_findPot_4 : decode cX6_findPot 4 = .ok (.iload_n 1, 1) := by decide +kernel
theorem dX6_findPot_5 : decode cX6_findPot 5 = .ok (.aload_n 0, 1) := by decide +kernel
theorem dX6_findPot_6 : decode cX6_findPot 6 = .ok (.getfield 21, 3) := by decide +kernel
theorem dX6_findPot_9 : decode cX6_findPot 9 = .ok (.arraylength, 1) := by decide +kernel
theorem dX6_findPot_10 : decode cX6_findPot 10 = .ok (.if_icmp .lt 7, 3) := by decide +kernel
theorem dX6_findPot_17 : decode cX6_findPot 17 = .ok (.aload_n 0, 1) := by decide +kernel
theorem dX6_findPot_18 : decode cX6_findPot 18 = .ok (.getfield 21, 3) := by decide +kernel
theorem dX6_findPot_21 : decode cX6_findPot 21 = .ok (.iload_n 1, 1) := by decide +kernel
theorem dX6_findPot_22 : decode cX6_findPot 22 = .ok (.aaload, 1) := by decide +kernel
def wzEX6_findPot : List Cond := [.code yX6_findPot cX6_findPot 3 (some (.object "Gatherhouse$Pot")), .classLink RX6 365 "java/lang/IndexOutOfBoundsException", .initialized "java/lang/IndexOutOfBoundsException", .fieldLink RX6 21 "Gatherhouse" "pots" "[LGatherhouse$Pot;"]
def wzX6_findPot : List Cond := wzEX6_findPot ++ (u_ws RX6 TX6 16 ++ ((vx_atS RX6 369 "java/lang/IndexOutOfBoundsException" ["java/lang/RuntimeException", "java/lang/Exception"]).filter goodWord))
theorem zgEX6_findPot : wzEX6_findPot.all goodWord = true := by decide +kernel
theorem zuX6_findPot_X6 : ∀ w ∈ u_ws RX6 TX6 16, w ∈ wzX6_findPot := (fun _ h => (List.mem_append_right _ (List.mem_append_left _ h)))
theorem ztX6_findPot_X6_369 : ∀ w ∈ (vx_atS RX6 369 "java/lang/IndexOutOfBoundsException" ["java/lang/RuntimeException", "java/lang/Exception"]).filter goodWord, w ∈ wzX6_findPot := (fun _ h => (List.mem_append_right _ (List.mem_append_right _ h)))
set_option maxHeartbeats 4000000 in
set_option maxRecDepth 100000 in
theorem zc_X6_findPot (l : Launch) (hnt : l.stackTraces = false) (D : va_G) (G : Nat × Nat × Nat) (xo : Nat) (xg : Nat) (xp : Nat) (xq : Nat) (r1 : Nat) (r2 : Nat) (r3 : Nat) (r4 : Nat) (se : Nat) (ts : Int32) (hq : Int32) (cp : ClassId) (ii : Int32) (sz : Nat) : vx_Met l yX6_findPot wzX6_findPot ({ frames := 6, cells := 1, slots := 6, locals := 82 }) (va_Pc [.ref xo, .int ii] (p_RW D G [(cp, .object "Gatherhouse$Pot")] [(xo, .inr (11, [.ref xg, .int 0, .ref xp, .int 0, .ref xq, .int 0, .ref r1, .ref r2, .ref r3, .ref r4, .ref se, .int ts, .int hq, .int 40, .int 0, .int 0])), (xp, .inl (cp, 4, .inr (.inr (.inr (.inr (fun _ => none))))))] sz)) (va_Qq (fun (r : Option Nat) (u : Unit) => False) (fun (u : Unit) (t : State) => True) (va_A [(xo, .inr (11, [.ref xg, .int 0, .ref xp, .int 0, .ref xq, .int 0, .ref r1, .ref r2, .ref r3, .ref r4, .ref se, .int ts, .int hq, .int 40, .int 0, .int 0])), (xp, .inl (cp, 4, .inr (.inr (.inr (.inr (fun _ => none))))))] sz)) (vx_X (fun (_ : Unit) => True) (fun E (_ : Unit) (_ : State) => (E = "java/lang/IndexOutOfBoundsException")) (va_A [(xo, .inr (11, [.ref xg, .int 0, .ref xp, .int 0, .ref xq, .int 0, .ref r1, .ref r2, .ref r3, .ref r4, .ref se, .int ts, .int hq, .int 40, .int 0, .int 0])), (xp, .inl (cp, 4, .inr (.inr (.inr (.inr (fun _ => none))))))] sz)) 1 6 (va_A [(xo, .inr (11, [.ref xg, .int 0, .ref xp, .int 0, .ref xq, .int 0, .ref r1, .ref r2, .ref r3, .ref r4, .ref se, .int ts, .int hq, .int 40, .int 0, .int 0])), (xp, .inl (cp, 4, .inr (.inr (.inr (.inr (fun _ => none))))))] sz) := by
  refine vx_ofW (cc := cX6_findPot) (maxL := 3) (ret := (some (.object "Gatherhouse$Pot"))) (by decide) rfl ?_
  intro p e s m args below meth c s₁ B hml hxt hv
  obtain ⟨rfl, hsz, hP, hK, hD0, hT, hZ⟩ := hv
  have hx := B.exec
  have hb := B.bytes
  have hr := B.returns
  have hts := atoms_spec (ws := wzX6_findPot) B.pre
  have hown : s.vm.findClass RX6 = some m.cls := findClass_of_methodNamed B.named
  have hlocks := B.notSynchronized
  subst hsz
  have hD := hD0.self (sz := s.heap.size)
  generalize hAe : va_A [(xo, .inr (11, [.ref xg, .int 0, .ref xp, .int 0, .ref xq, .int 0, .ref r1, .ref r2, .ref r3, .ref r4, .ref se, .int ts, .int hq, .int 40, .int 0, .int 0])), (xp, .inl (cp, 4, .inr (.inr (.inr (.inr (fun _ => none))))))] s.heap.size = A at hD hZ ⊢
  have hA : ∀ q : Nat, s.heap.size ≤ q → A q := fun q h => by rw [← hAe]; exact Or.inr h
  have hS : va_S A s.heap s.heap [] := va_S.rf
  have hl := lv_entry ([.ref xo, .int ii]) (n := 3) (Nat.le_of_ble_eq_true rfl)
  rw [lg_entry_eq]
  generalize (lg_sl ([.ref xo, .int ii]) ++ List.replicate (3 - (lg_sl ([.ref xo, .int ii])).length) Slot.unset).toArray = ls at hl ⊢
  have hl : lv_has ls 3 [(0, .ref xo), (1, .int ii)] := hl
  refine lv_iload_n hx hb dX6_findPot_0 rfl (lv_at hl 1 rfl) ?_
  refine lv_if_lt (tgt := 13) hx hb dX6_findPot_1 (by decide) (fun c_18 => ?_) (fun c_18 => ?_)
  · refine lv_null hx hb dX6_findPot_13 ?_
    refine lv_goto (tgt := 23) hx hb dX6_findPot_14 (by decide) ?_
    refine lv_astore_nN (lv' := [(2, .null), (0, .ref xo), (1, .int ii)]) hx hb dX6_findPot_23 rfl hl (by decide) rfl (fun ls hl => ?_)
    refine lv_aload_nN hx hb dX6_findPot_24 rfl (lv_at hl 0 rfl) ?_
    refine lv_ifnonnullN hx hb dX6_findPot_25 ?_
    obtain ⟨sa_19, hsa_19⟩ := hT.2.2.2.2.2.1 ("Gatherhouse", 370, "no such pot") (by decide +kernel)
    refine vx_throwSW (own := RX6) (cls := "java/lang/IndexOutOfBoundsException") (names := ["java/lang/RuntimeException", "java/lang/Exception"]) (A := A) hx hb hnt hown (by decide +kernel) (by decide +kernel) (hts (.classLink RX6 365 "java/lang/IndexOutOfBoundsException") (by decide +kernel)) (hts (.initialized "java/lang/IndexOutOfBoundsException") (by decide +kernel)) hsa_19 (z_throw (fun w h => hts w (ztX6_findPot_X6_369 w h)) (hT.2.2.1 ("java/lang/IndexOutOfBoundsException", "java/lang/IndexOutOfBoundsException") (by decide +kernel)) hT.2.2.2.2.2.2.2.1 (by decide +kernel)) (by decide +kernel) hZ.1 hZ.2.1 hS (hl.1.trans hml.symm) dX6_findPot_28 dX6_findPot_31 dX6_findPot_32 dX6_findPot_35 dX6_findPot_38 (fun x h => (hxt x h).elim) (Nat.le_of_ble_eq_true rfl) (Nat.le_of_ble_eq_true rfl) (Nat.le_of_ble_eq_true rfl) (Nat.le_of_ble_eq_true rfl) hlocks (fun t hvm hz1 hk1 => ⟨(), trivial, rfl, ⟨Nat.le_trans hS.1 hz1, fun q h1 h2 => (hk1 q (Nat.lt_of_lt_of_le h1 hS.1)).trans (hS.2.1 q h1 h2)⟩⟩) hS.2.2 (Nat.le_of_ble_eq_true rfl) (Nat.le_of_ble_eq_true rfl)
  · refine lv_iload_n hx hb dX6_findPot_4 rfl (lv_at hl 1 rfl) ?_
    refine lv_aload_n hx hb dX6_findPot_5 rfl (lv_at hl 0 rfl) ?_
    refine va_get (D := D) (cl := vwCl) (ci := 11) (v := .ref xp) (C := RX6) (T := TX6) (N := 16) hx hb hts zuX6_findPot_X6 hown hK hP 0 rfl rfl 2 (by decide) (hts (.fieldLink RX6 21 "Gatherhouse" "pots" "[LGatherhouse$Pot;") (by decide +kernel)) (fun _ h9 => h9) rfl dX6_findPot_6 ?_
    refine va_alen (D := D) (cl := vwCl) (v := 4) hx hb hK hP 1 0 rfl rfl (by decide) dX6_findPot_9 ?_
    refine lv_icmp_lt (tgt := 17) hx hb dX6_findPot_10 (by decide) (fun c_20 => ?_) (fun c_20 => ?_)
    · refine lv_aload_n hx hb dX6_findPot_17 rfl (lv_at hl 0 rfl) ?_
      refine va_get (D := D) (cl := vwCl) (ci := 11) (v := .ref xp) (C := RX6) (T := TX6) (N := 16) hx hb hts zuX6_findPot_X6 hown hK hP 0 rfl rfl 2 (by decide) (hts (.fieldLink RX6 21 "Gatherhouse" "pots" "[LGatherhouse$Pot;") (by decide +kernel)) (fun _ h9 => h9) rfl dX6_findPot_18 ?_
      refine lv_iload_n hx hb dX6_findPot_21 rfl (lv_at hl 1 rfl) ?_
      refine va_aldq (D := D) (cl := vwCl) hx hb hK hP 1 0 rfl rfl (z_in c_18 c_20 (by decide)) dX6_findPot_22 ?_
      refine W.eq (g2 := F0 m 23 ls [.null]) rfl ?_
      refine lv_astore_nN (lv' := [(2, .null), (0, .ref xo), (1, .int ii)]) hx hb dX6_findPot_23 rfl hl (by decide) rfl (fun ls hl => ?_)
      refine lv_aload_nN hx hb dX6_findPot_24 rfl (lv_at hl 0 rfl) ?_
      refine lv_ifnonnullN hx hb dX6_findPot_25 ?_
      obtain ⟨sa_21, hsa_21⟩ := hT.2.2.2.2.2.1 ("Gatherhouse", 370, "no such pot") (by decide +kernel)
      refine vx_throwSW (own := RX6) (cls := "java/lang/IndexOutOfBoundsException") (names := ["java/lang/RuntimeException", "java/lang/Exception"]) (A := A) hx hb hnt hown (by decide +kernel) (by decide +kernel) (hts (.classLink RX6 365 "java/lang/IndexOutOfBoundsException") (by decide +kernel)) (hts (.initialized "java/lang/IndexOutOfBoundsException") (by decide +kernel)) hsa_21 (z_throw (fun w h => hts w (ztX6_findPot_X6_369 w h)) (hT.2.2.1 ("java/lang/IndexOutOfBoundsException", "java/lang/IndexOutOfBoundsException") (by decide +kernel)) hT.2.2.2.2.2.2.2.1 (by decide +kernel)) (by decide +kernel) hZ.1 hZ.2.1 hS (hl.1.trans hml.symm) dX6_findPot_28 dX6_findPot_31 dX6_findPot_32 dX6_findPot_35 dX6_findPot_38 (fun x h => (hxt x h).elim) (Nat.le_of_ble_eq_true rfl) (Nat.le_of_ble_eq_true rfl) (Nat.le_of_ble_eq_true rfl) (Nat.le_of_ble_eq_true rfl) hlocks (fun t hvm hz1 hk1 => ⟨(), trivial, rfl, ⟨Nat.le_trans hS.1 hz1, fun q h1 h2 => (hk1 q (Nat.lt_of_lt_of_le h1 hS.1)).trans (hS.2.1 q h1 h2)⟩⟩) hS.2.2 (Nat.le_of_ble_eq_true rfl) (Nat.le_of_ble_eq_true rfl)
    · refine lv_null hx hb dX6_findPot_13 ?_
      refine lv_goto (tgt := 23) hx hb dX6_findPot_14 (by decide) ?_
      refine lv_astore_nN (lv' := [(2, .null), (0, .ref xo), (1, .int ii)]) hx hb dX6_findPot_23 rfl hl (by decide) rfl (fun ls hl => ?_)
      refine lv_aload_nN hx hb dX6_findPot_24 rfl (lv_at hl 0 rfl) ?_
      refine lv_ifnonnullN hx hb dX6_findPot_25 ?_
      obtain ⟨sa_22, hsa_22⟩ := hT.2.2.2.2.2.1 ("Gatherhouse", 370, "no such pot") (by decide +kernel)
      refine vx_throwSW (own := RX6) (cls := "java/lang/IndexOutOfBoundsException") (names := ["java/lang/RuntimeException", "java/lang/Exception"]) (A := A) hx hb hnt hown (by decide +kernel) (by decide +kernel) (hts (.classLink RX6 365 "java/lang/IndexOutOfBoundsException") (by decide +kernel)) (hts (.initialized "java/lang/IndexOutOfBoundsException") (by decide +kernel)) hsa_22 (z_throw (fun w h => hts w (ztX6_findPot_X6_369 w h)) (hT.2.2.1 ("java/lang/IndexOutOfBoundsException", "java/lang/IndexOutOfBoundsException") (by decide +kernel)) hT.2.2.2.2.2.2.2.1 (by decide +kernel)) (by decide +kernel) hZ.1 hZ.2.1 hS (hl.1.trans hml.symm) dX6_findPot_28 dX6_findPot_31 dX6_findPot_32 dX6_findPot_35 dX6_findPot_38 (fun x h => (hxt x h).elim) (Nat.le_of_ble_eq_true rfl) (Nat.le_of_ble_eq_true rfl) (Nat.le_of_ble_eq_true rfl) (Nat.le_of_ble_eq_true rfl) hlocks (fun t hvm hz1 hk1 => ⟨(), trivial, rfl, ⟨Nat.le_trans hS.1 hz1, fun q h1 h2 => (hk1 q (Nat.lt_of_lt_of_le h1 hS.1)).trans (hS.2.1 q h1 h2)⟩⟩) hS.2.2 (Nat.le_of_ble_eq_true rfl) (Nat.le_of_ble_eq_true rfl)
theorem dX6_findGlass_0 : decode cX6_findGlass 0 = .ok (.iload_n 1, 1) := by decide +kernel
theorem dX6_findGlass_1 : decode cX6_findGlass 1 = .ok (.ifCond .lt 12, 3) := by decide +kernel
theorem dX6_findGlass_13 : decode cX6_findGlass 13 = .ok (.aconst_null, 1) := by decide +kernel
theorem dX6_findGlass_14 : decode cX6_findGlass 14 = .ok (.goto 9, 3) := by decide +kernel
theorem dX6_findGlass_23 : decode cX6_findGlass 23 = .ok (.astore_n 2, 1) := by decide +kernel
theorem dX6_findGlass_24 : decode cX6_findGlass 24 = .ok (.aload_n 2, 1) := by decide +kernel
theorem dX6_findGlass_25 : decode cX6_findGlass 25 = .ok (.ifnonnull 14, 3) := by decide +kernel
theorem dX6_findGlass_28 : decode cX6_findGlass 28 = .ok (.new 365, 3) := by decide +kernel
theorem dX6_findGlass_31 : decode cX6_findGlass 31 = .ok (.dup, 1) := by decide +kernel
theorem dX6_findGlass_32 : decode cX6_findGlass 32 = .ok (.ldc_w 367, 3) := by decide +kernel
theorem dX6_findGlass_35 : decode cX6_findGlass 35 = .ok (.invokespecial 369, 3) := by decide +kernel
theorem dX6_findGlass_38 : decode cX6_findGlass 38 = .ok (.athrow, 1) := by decide +kernel
theorem dX6_findGlass_4 : decode cX6_findGlass 4 = .ok (.iload_n 1, 1) := by decide +kernel
theorem dX6_findGlass_5 : decode cX6_findGlass 5 = .ok (.aload_n 0, 1) := by decide +kernel
theorem dX6_findGlass_6 : decode cX6_findGlass 6 = .ok (.getfield 11, 3) := by decide +kernel
theorem dX6_findGlass_9 : decode cX6_findGlass 9 = .ok (.arraylength, 1) := by decide +kernel
theorem dX6_findGlass_10 : decode cX6_findGlass 10 = .ok (.if_icmp .lt 7, 3) := by decide +kernel
theorem dX6_findGlass_17 : decode cX6_findGlass 17 = .ok (.aload_n 0, 1) := by decide +kernel
theorem dX6_findGlass_18 : decode cX6_findGlass 18 = .ok (.getfield 11, 3) := by decide +kernel
theorem dX6_findGlass_21 : decode cX6_findGlass 21 = .ok (.iload_n 1, 1) := by decide +kernel
theorem dX6_findGlass_22 : decode cX6_findGlass 22 = .ok (.aaload, 1) := by decide +kernel
def wzEX6_findGlass : List Cond := [.code yX6_findGlass cX6_findGlass 3 (some (.object "Gatherhouse$Glass")), .classLink RX6 365 "java/lang/IndexOutOfBoundsException", .initialized "java/lang/IndexOutOfBoundsException", .fieldLink RX6 11 "Gatherhouse" "glasses" "[LGatherhouse$Glass;"]
def wzX6_findGlass : List Cond := wzEX6_findGlass ++ (u_ws RX6 TX6 16 ++ ((vx_atS RX6 369 "java/lang/IndexOutOfBoundsException" ["java/lang/RuntimeException", "java/lang/Exception"]).filter goodWord))
theorem zgEX6_findGlass : wzEX6_findGlass.all goodWord = true := by decide +kernel
theorem zuX6_findGlass_X6 : ∀ w ∈ u_ws RX6 TX6 16, w ∈ wzX6_findGlass := (fun _ h => (List.mem_append_right _ (List.mem_append_left _ h)))
theorem ztX6_findGlass_X6_369 : ∀ w ∈ (vx_atS RX6 369 "java/lang/IndexOutOfBoundsException" ["java/lang/RuntimeException", "java/lang/Exception"]).filter goodWord, w ∈ wzX6_findGlass := (fun _ h => (List.mem_append_right _ (List.mem_append_right _ h)))
set_option maxHeartbeats 4000000 in
set_option maxRecDepth 100000 in
theorem zc_X6_findGlass (l : Launch) (hnt : l.stackTraces = false) (D : va_G) (G : Nat × Nat × Nat) (xo : Nat) (xg : Nat) (xp : Nat) (xq : Nat) (r1 : Nat) (r2 : Nat) (r3 : Nat) (r4 : Nat) (se : Nat) (ts : Int32) (hq : Int32) (cg : ClassId) (ii : Int32) (sz : Nat) : vx_Met l yX6_findGlass wzX6_findGlass ({ frames := 6, cells := 1, slots := 6, locals := 82 }) (va_Pc [.ref xo, .int ii] (p_RW D G [(cg, .object "Gatherhouse$Glass")] [(xo, .inr (11, [.ref xg, .int 0, .ref xp, .int 0, .ref xq, .int 0, .ref r1, .ref r2, .ref r3, .ref r4, .ref se, .int ts, .int hq, .int 40, .int 0, .int 0])), (xg, .inl (cg, 6, .inr (.inr (.inr (.inr (fun _ => none))))))] sz)) (va_Qq (fun (r : Option Nat) (u : Unit) => False) (fun (u : Unit) (t : State) => True) (va_A [(xo, .inr (11, [.ref xg, .int 0, .ref xp, .int 0, .ref xq, .int 0, .ref r1, .ref r2, .ref r3, .ref r4, .ref se, .int ts, .int hq, .int 40, .int 0, .int 0])), (xg, .inl (cg, 6, .inr (.inr (.inr (.inr (fun _ => none))))))] sz)) (vx_X (fun (_ : Unit) => True) (fun E (_ : Unit) (_ : State) => (E = "java/lang/IndexOutOfBoundsException")) (va_A [(xo, .inr (11, [.ref xg, .int 0, .ref xp, .int 0, .ref xq, .int 0, .ref r1, .ref r2, .ref r3, .ref r4, .ref se, .int ts, .int hq, .int 40, .int 0, .int 0])), (xg, .inl (cg, 6, .inr (.inr (.inr (.inr (fun _ => none))))))] sz)) 1 6 (va_A [(xo, .inr (11, [.ref xg, .int 0, .ref xp, .int 0, .ref xq, .int 0, .ref r1, .ref r2, .ref r3, .ref r4, .ref se, .int ts, .int hq, .int 40, .int 0, .int 0])), (xg, .inl (cg, 6, .inr (.inr (.inr (.inr (fun _ => none))))))] sz) := by
  refine vx_ofW (cc := cX6_findGlass) (maxL := 3) (ret := (some (.object "Gatherhouse$Glass"))) (by decide) rfl ?_
  intro p e s m args below meth c s₁ B hml hxt hv
  obtain ⟨rfl, hsz, hP, hK, hD0, hT, hZ⟩ := hv
  have hx := B.exec
  have hb := B.bytes
  have hr := B.returns
  have hts := atoms_spec (ws := wzX6_findGlass) B.pre
  have hown : s.vm.findClass RX6 = some m.cls := findClass_of_methodNamed B.named
  have hlocks := B.notSynchronized
  subst hsz
  have hD := hD0.self (sz := s.heap.size)
  generalize hAe : va_A [(xo, .inr (11, [.ref xg, .int 0, .ref xp, .int 0, .ref xq, .int 0, .ref r1, .ref r2, .ref r3, .ref r4, .ref se, .int ts, .int hq, .int 40, .int 0, .int 0])), (xg, .inl (cg, 6, .inr (.inr (.inr (.inr (fun _ => none))))))] s.heap.size = A at hD hZ ⊢
  have hA : ∀ q : Nat, s.heap.size ≤ q → A q := fun q h => by rw [← hAe]; exact Or.inr h
  have hS : va_S A s.heap s.heap [] := va_S.rf
  have hl := lv_entry ([.ref xo, .int ii]) (n := 3) (Nat.le_of_ble_eq_true rfl)
  rw [lg_entry_eq]
  generalize (lg_sl ([.ref xo, .int ii]) ++ List.replicate (3 - (lg_sl ([.ref xo, .int ii])).length) Slot.unset).toArray = ls at hl ⊢
  have hl : lv_has ls 3 [(0, .ref xo), (1, .int ii)] := hl
  refine lv_iload_n hx hb dX6_findGlass_0 rfl (lv_at hl 1 rfl) ?_
  refine lv_if_lt (tgt := 13) hx hb dX6_findGlass_1 (by decide) (fun c_23 => ?_) (fun c_23 => ?_)
  · refine lv_null hx hb dX6_findGlass_13 ?_
    refine lv_goto (tgt := 23) hx hb dX6_findGlass_14 (by decide) ?_
    refine lv_astore_nN (lv' := [(2, .null), (0, .ref xo), (1, .int ii)]) hx hb dX6_findGlass_23 rfl hl (by decide) rfl (fun ls hl => ?_)
    refine lv_aload_nN hx hb dX6_findGlass_24 rfl (lv_at hl 0 rfl) ?_
    refine lv_ifnonnullN hx hb dX6_findGlass_25 ?_
    obtain ⟨sa_24, hsa_24⟩ := hT.2.2.2.2.2.1 ("Gatherhouse", 367, "no such glass") (by decide +kernel)
    refine vx_throwSW (own := RX6) (cls := "java/lang/IndexOutOfBoundsException") (names := ["java/lang/RuntimeException", "java/lang/Exception"]) (A := A) hx hb hnt hown (by decide +kernel) (by decide +kernel) (hts (.classLink RX6 365 "java/lang/IndexOutOfBoundsException") (by decide +kernel)) (hts (.initialized "java/lang/IndexOutOfBoundsException") (by decide +kernel)) hsa_24 (z_throw (fun w h => hts w (ztX6_findGlass_X6_369 w h)) (hT.2.2.1 ("java/lang/IndexOutOfBoundsException", "java/lang/IndexOutOfBoundsException") (by decide +kernel)) hT.2.2.2.2.2.2.2.1 (by decide +kernel)) (by decide +kernel) hZ.1 hZ.2.1 hS (hl.1.trans hml.symm) dX6_findGlass_28 dX6_findGlass_31 dX6_findGlass_32 dX6_findGlass_35 dX6_findGlass_38 (fun x h => (hxt x h).elim) (Nat.le_of_ble_eq_true rfl) (Nat.le_of_ble_eq_true rfl) (Nat.le_of_ble_eq_true rfl) (Nat.le_of_ble_eq_true rfl) hlocks (fun t hvm hz1 hk1 => ⟨(), trivial, rfl, ⟨Nat.le_trans hS.1 hz1, fun q h1 h2 => (hk1 q (Nat.lt_of_lt_of_le h1 hS.1)).trans (hS.2.1 q h1 h2)⟩⟩) hS.2.2 (Nat.le_of_ble_eq_true rfl) (Nat.le_of_ble_eq_true rfl)
  · refine lv_iload_n hx hb dX6_findGlass_4 rfl (lv_at hl 1 rfl) ?_
    refine lv_aload_n hx hb dX6_findGlass_5 rfl (lv_at hl 0 rfl) ?_
    refine va_get (D := D) (cl := vwCl) (ci := 11) (v := .ref xg) (C := RX6) (T := TX6) (N := 16) hx hb hts zuX6_findGlass_X6 hown hK hP 0 rfl rfl 0 (by decide) (hts (.fieldLink RX6 11 "Gatherhouse" "glasses" "[LGatherhouse$Glass;") (by decide +kernel)) (fun _ h9 => h9) rfl dX6_findGlass_6 ?_
    refine va_alen (D := D) (cl := vwCl) (v := 6) hx hb hK hP 1 0 rfl rfl (by decide) dX6_findGlass_9 ?_
    refine lv_icmp_lt (tgt := 17) hx hb dX6_findGlass_10 (by decide) (fun c_25 => ?_) (fun c_25 => ?_)
    · refine lv_aload_n hx hb dX6_findGlass_17 rfl (lv_at hl 0 rfl) ?_
      refine va_get (D := D) (cl := vwCl) (ci := 11) (v := .ref xg) (C := RX6) (T := TX6) (N := 16) hx hb hts zuX6_findGlass_X6 hown hK hP 0 rfl rfl 0 (by decide) (hts (.fieldLink RX6 11 "Gatherhouse" "glasses" "[LGatherhouse$Glass;") (by decide +kernel)) (fun _ h9 => h9) rfl dX6_findGlass_18 ?_
      refine lv_iload_n hx hb dX6_findGlass_21 rfl (lv_at hl 1 rfl) ?_
      refine va_aldq (D := D) (cl := vwCl) hx hb hK hP 1 0 rfl rfl (z_in c_23 c_25 (by decide)) dX6_findGlass_22 ?_
      refine W.eq (g2 := F0 m 23 ls [.null]) rfl ?_
      refine lv_astore_nN (lv' := [(2, .null), (0, .ref xo), (1, .int ii)]) hx hb dX6_findGlass_23 rfl hl (by decide) rfl (fun ls hl => ?_)
      refine lv_aload_nN hx hb dX6_findGlass_24 rfl (lv_at hl 0 rfl) ?_
      refine lv_ifnonnullN hx hb dX6_findGlass_25 ?_
      obtain ⟨sa_26, hsa_26⟩ := hT.2.2.2.2.2.1 ("Gatherhouse", 367, "no such glass") (by decide +kernel)
      refine vx_throwSW (own := RX6) (cls := "java/lang/IndexOutOfBoundsException") (names := ["java/lang/RuntimeException", "java/lang/Exception"]) (A := A) hx hb hnt hown (by decide +kernel) (by decide +kernel) (hts (.classLink RX6 365 "java/lang/IndexOutOfBoundsException") (by decide +kernel)) (hts (.initialized "java/lang/IndexOutOfBoundsException") (by decide +kernel)) hsa_26 (z_throw (fun w h => hts w (ztX6_findGlass_X6_369 w h)) (hT.2.2.1 ("java/lang/IndexOutOfBoundsException", "java/lang/IndexOutOfBoundsException") (by decide +kernel)) hT.2.2.2.2.2.2.2.1 (by decide +kernel)) (by decide +kernel) hZ.1 hZ.2.1 hS (hl.1.trans hml.symm) dX6_findGlass_28 dX6_findGlass_31 dX6_findGlass_32 dX6_findGlass_35 dX6_findGlass_38 (fun x h => (hxt x h).elim) (Nat.le_of_ble_eq_true rfl) (Nat.le_of_ble_eq_true rfl) (Nat.le_of_ble_eq_true rfl) (Nat.le_of_ble_eq_true rfl) hlocks (fun t hvm hz1 hk1 => ⟨(), trivial, rfl, ⟨Nat.le_trans hS.1 hz1, fun q h1 h2 => (hk1 q (Nat.lt_of_lt_of_le h1 hS.1)).trans (hS.2.1 q h1 h2)⟩⟩) hS.2.2 (Nat.le_of_ble_eq_true rfl) (Nat.le_of_ble_eq_true rfl)
    · refine lv_null hx hb dX6_findGlass_13 ?_
      refine lv_goto (tgt := 23) hx hb dX6_findGlass_14 (by decide) ?_
      refine lv_astore_nN (lv' := [(2, .null), (0, .ref xo), (1, .int ii)]) hx hb dX6_findGlass_23 rfl hl (by decide) rfl (fun ls hl => ?_)
      refine lv_aload_nN hx hb dX6_findGlass_24 rfl (lv_at hl 0 rfl) ?_
      refine lv_ifnonnullN hx hb dX6_findGlass_25 ?_
      obtain ⟨sa_27, hsa_27⟩ := hT.2.2.2.2.2.1 ("Gatherhouse", 367, "no such glass") (by decide +kernel)
      refine vx_throwSW (own := RX6) (cls := "java/lang/IndexOutOfBoundsException") (names := ["java/lang/RuntimeException", "java/lang/Exception"]) (A := A) hx hb hnt hown (by decide +kernel) (by decide +kernel) (hts (.classLink RX6 365 "java/lang/IndexOutOfBoundsException") (by decide +kernel)) (hts (.initialized "java/lang/IndexOutOfBoundsException") (by decide +kernel)) hsa_27 (z_throw (fun w h => hts w (ztX6_findGlass_X6_369 w h)) (hT.2.2.1 ("java/lang/IndexOutOfBoundsException", "java/lang/IndexOutOfBoundsException") (by decide +kernel)) hT.2.2.2.2.2.2.2.1 (by decide +kernel)) (by decide +kernel) hZ.1 hZ.2.1 hS (hl.1.trans hml.symm) dX6_findGlass_28 dX6_findGlass_31 dX6_findGlass_32 dX6_findGlass_35 dX6_findGlass_38 (fun x h => (hxt x h).elim) (Nat.le_of_ble_eq_true rfl) (Nat.le_of_ble_eq_true rfl) (Nat.le_of_ble_eq_true rfl) (Nat.le_of_ble_eq_true rfl) hlocks (fun t hvm hz1 hk1 => ⟨(), trivial, rfl, ⟨Nat.le_trans hS.1 hz1, fun q h1 h2 => (hk1 q (Nat.lt_of_lt_of_le h1 hS.1)).trans (hS.2.1 q h1 h2)⟩⟩) hS.2.2 (Nat.le_of_ble_eq_true rfl) (Nat.le_of_ble_eq_true rfl)
theorem dX6_countOf_0 : decode cX6_countOf 0 = .ok (.iconst 0, 1) := by decide +kernel
theorem dX6_countOf_1 : decode cX6_countOf 1 = .ok (.istore_n 2, 1) := by decide +kernel
theorem dX6_countOf_2 : decode cX6_countOf 2 = .ok (.aload_n 0, 1) := by decide +kernel
theorem dX6_countOf_3 : decode cX6_countOf 3 = .ok (.getfield 30, 3) := by decide +kernel
theorem dX6_countOf_6 : decode cX6_countOf 6 = .ok (.astore_n 3, 1) := by decide +kernel
theorem dX6_countOf_7 : decode cX6_countOf 7 = .ok (.aload_n 3, 1) := by decide +kernel
theorem dX6_countOf_8 : decode cX6_countOf 8 = .ok (.arraylength, 1) := by decide +kernel
theorem dX6_countOf_9 : decode cX6_countOf 9 = .ok (.istore 4, 2) := by decide +kernel
theorem dX6_countOf_11 : decode cX6_countOf 11 = .ok (.iconst 0, 1) := by decide +kernel
theorem dX6_countOf_12 : decode cX6_countOf 12 = .ok (.istore 5, 2) := by decide +kernel
theorem dX6_countOf_14 : decode cX6_countOf 14 = .ok (.iload 5, 2) := by decide +kernel
theorem dX6_countOf_16 : decode cX6_countOf 16 = .ok (.iload 4, 2) := by decide +kernel
theorem dX6_countOf_18 : decode cX6_countOf 18 = .ok (.if_icmp .ge 32, 3) := by decide +kernel
theorem dX6_countOf_21 : decode cX6_countOf 21 = .ok (.aload_n 3, 1) := by decide +kernel
theorem dX6_countOf_22 : decode cX6_countOf 22 = .ok (.iload 5, 2) := by decide +kernel
theorem dX6_countOf_24 : decode cX6_countOf 24 = .ok (.aaload, 1) := by decide +kernel
theorem dX6_countOf_25 : decode cX6_countOf 25 = .ok (.astore 6, 2) := by decide +kernel
theorem dX6_countOf_27 : decode cX6_countOf 27 = .ok (.aload 6, 2) := by decide +kernel
theorem dX6_countOf_29 : decode cX6_countOf 29 = .ok (.ifnull 15, 3) := by decide +kernel
theorem dX6_countOf_44 : decode cX6_countOf 44 = .ok (.iinc 5 1, 3) := by decide +kernel
theorem dX6_countOf_47 : decode cX6_countOf 47 = .ok (.goto (-33), 3) := by decide +kernel
theorem dX6_countOf_50 : decode cX6_countOf 50 = .ok (.iload_n 2, 1) := by decide +kernel
theorem dX6_countOf_51 : decode cX6_countOf 51 = .ok (.ireturn, 1) := by decide +kernel
def wzEX6_countOf : List Cond := [.code yX6_countOf cX6_countOf 7 (some .int), .fieldLink RX6 30 "Gatherhouse" "pieces" "[LGatherhouse$Piece;"]
def wzX6_countOf : List Cond := wzEX6_countOf ++ (u_ws RX6 TX6 16)
theorem zgEX6_countOf : wzEX6_countOf.all goodWord = true := by decide +kernel
theorem zuX6_countOf_X6 : ∀ w ∈ u_ws RX6 TX6 16, w ∈ wzX6_countOf := (fun _ h => (List.mem_append_right _ h))
set_option maxHeartbeats 4000000 in
set_option maxRecDepth 100000 in
theorem zc_X6_countOf (l : Launch) (D : va_G) (G : Nat × Nat × Nat) (xo : Nat) (xg : Nat) (xp : Nat) (xq : Nat) (r1 : Nat) (r2 : Nat) (r3 : Nat) (r4 : Nat) (se : Nat) (ts : Int32) (hq : Int32) (cq : ClassId) (ch : Int32) : Met l yX6_countOf wzX6_countOf ({ frames := 0, cells := 0, slots := 0, locals := 0 }) (va_Pc [.ref xo, .int ch] (p_RO D G [(cq, .object "Gatherhouse$Piece")] [(xo, .inr (11, [.ref xg, .int 0, .ref xp, .int 0, .ref xq, .int 0, .ref r1, .ref r2, .ref r3, .ref r4, .ref se, .int ts, .int hq, .int 40, .int 0, .int 0])), (xq, .inl (cq, 16, .inr (.inr (.inr (.inr (fun _ => none))))))])) (vp_Si (fun r => r = 0)) 0 0 (fun _ => False) := by
  refine Met.ofW (cc := cX6_countOf) (maxL := 7) (ret := (some .int)) (by decide) rfl ?_
  intro p e s m args below meth c s₁ B hml hv
  obtain ⟨rfl, hP, hK, hT⟩ := hv
  have hx := B.exec
  have hb := B.bytes
  have hr := B.returns
  have hts := atoms_spec (ws := wzX6_countOf) B.pre
  have hown : s.vm.findClass RX6 = some m.cls := findClass_of_methodNamed B.named
  have hlocks := B.notSynchronized
  have hl := lv_entry ([.ref xo, .int ch]) (n := 7) (Nat.le_of_ble_eq_true rfl)
  rw [lg_entry_eq]
  generalize (lg_sl ([.ref xo, .int ch]) ++ List.replicate (7 - (lg_sl ([.ref xo, .int ch])).length) Slot.unset).toArray = ls at hl ⊢
  have hl : lv_has ls 7 [(0, .ref xo), (1, .int ch)] := hl
  refine lv_iconst (v := 0) hx hb dX6_countOf_0 (by decide) ?_
  refine lv_istore_n (lv' := [(2, .int 0), (0, .ref xo), (1, .int ch)]) hx hb dX6_countOf_1 rfl hl (by decide) rfl (fun ls hl => ?_)
  refine lv_aload_n hx hb dX6_countOf_2 rfl (lv_at hl 1 rfl) ?_
  refine va_get (D := D) (cl := vwCl) (ci := 11) (v := .ref xq) (C := RX6) (T := TX6) (N := 16) hx hb hts zuX6_countOf_X6 hown hK hP 0 rfl rfl 4 (by decide) (hts (.fieldLink RX6 30 "Gatherhouse" "pieces" "[LGatherhouse$Piece;") (by decide +kernel)) (fun _ h9 => h9) rfl dX6_countOf_3 ?_
  refine lv_astore_n (lv' := [(3, .ref xq), (2, .int 0), (0, .ref xo), (1, .int ch)]) hx hb dX6_countOf_6 rfl hl (by decide) rfl (fun ls hl => ?_)
  refine lv_aload_n hx hb dX6_countOf_7 rfl (lv_at hl 0 rfl) ?_
  refine va_alen (D := D) (cl := vwCl) (v := 16) hx hb hK hP 1 0 rfl rfl (by decide) dX6_countOf_8 ?_
  refine lv_istore (lv' := [(4, .int 16), (3, .ref xq), (2, .int 0), (0, .ref xo), (1, .int ch)]) hx hb dX6_countOf_9 hl (by decide) rfl (fun ls hl => ?_)
  refine lv_iconst (v := 0) hx hb dX6_countOf_11 (by decide) ?_
  refine lv_istore (lv' := [(5, .int 0), (4, .int 16), (3, .ref xq), (2, .int 0), (0, .ref xo), (1, .int ch)]) hx hb dX6_countOf_12 hl (by decide) rfl (fun ls hl => ?_)
  refine lv_iload hx hb dX6_countOf_14 (lv_at hl 0 rfl) ?_
  refine lv_iload hx hb dX6_countOf_16 (lv_at hl 1 rfl) ?_
  refine lv_icmp_ge (tgt := 50) hx hb dX6_countOf_18 (by decide) (fun cc => absurd cc (by decide)) (fun _ => ?_)
  refine lv_aload_n hx hb dX6_countOf_21 rfl (lv_at hl 2 rfl) ?_
  refine lv_iload hx hb dX6_countOf_22 (lv_at hl 0 rfl) ?_
  refine va_aldq (D := D) (cl := vwCl) hx hb hK hP 1 0 rfl rfl (vp_in_nI (n := 0) (N := 16) (by decide) (by decide)) dX6_countOf_24 ?_
  refine W.eq (g2 := F0 m 25 ls [.null]) rfl ?_
  refine lv_astoreN (lv' := [(6, .null), (5, .int 0), (4, .int 16), (3, .ref xq), (2, .int 0), (0, .ref xo), (1, .int ch)]) hx hb dX6_countOf_25 hl (by decide) rfl (fun ls hl => ?_)
  refine lv_aloadN hx hb dX6_countOf_27 (lv_at hl 0 rfl) ?_
  refine lv_ifnullN (tgt := 44) hx hb dX6_countOf_29 (by decide) ?_
  obtain ⟨x_28, ex_28⟩ : ∃ y : Int32, y = 0 + 1 := ⟨_, rfl⟩
  have ex_28 : x_28 = 1 := ex_28.trans (by decide)
  subst ex_28
  refine lv_iinc (v := 1) (lv' := [(5, .int 1), (6, .null), (4, .int 16), (3, .ref xq), (2, .int 0), (0, .ref xo), (1, .int ch)]) hx hb dX6_countOf_44 hl (k := 1) rfl (by decide) (by decide) rfl (fun ls hl => ?_)
  refine lv_goto (tgt := 14) hx hb dX6_countOf_47 (by decide) ?_
  refine lv_iload hx hb dX6_countOf_14 (lv_at hl 0 rfl) ?_
  refine lv_iload hx hb dX6_countOf_16 (lv_at hl 2 rfl) ?_
  refine lv_icmp_ge (tgt := 50) hx hb dX6_countOf_18 (by decide) (fun cc => absurd cc (by decide)) (fun _ => ?_)
  refine lv_aload_n hx hb dX6_countOf_21 rfl (lv_at hl 3 rfl) ?_
  refine lv_iload hx hb dX6_countOf_22 (lv_at hl 0 rfl) ?_
  refine va_aldq (D := D) (cl := vwCl) hx hb hK hP 1 0 rfl rfl (vp_in_nI (n := 1) (N := 16) (by decide) (by decide)) dX6_countOf_24 ?_
  refine W.eq (g2 := F0 m 25 ls [.null]) rfl ?_
  refine lv_astoreN (lv' := [(6, .null), (5, .int 1), (4, .int 16), (3, .ref xq), (2, .int 0), (0, .ref xo), (1, .int ch)]) hx hb dX6_countOf_25 hl (by decide) rfl (fun ls hl => ?_)
  refine lv_aloadN hx hb dX6_countOf_27 (lv_at hl 0 rfl) ?_
  refine lv_ifnullN (tgt := 44) hx hb dX6_countOf_29 (by decide) ?_
  obtain ⟨x_29, ex_29⟩ : ∃ y : Int32, y = 1 + 1 := ⟨_, rfl⟩
  have ex_29 : x_29 = 2 := ex_29.trans (by decide)
  subst ex_29
  refine lv_iinc (v := 2) (lv' := [(5, .int 2), (6, .null), (4, .int 16), (3, .ref xq), (2, .int 0), (0, .ref xo), (1, .int ch)]) hx hb dX6_countOf_44 hl (k := 1) rfl (by decide) (by decide) rfl (fun ls hl => ?_)
  refine lv_goto (tgt := 14) hx hb dX6_countOf_47 (by decide) ?_
  refine lv_iload hx hb dX6_countOf_14 (lv_at hl 0 rfl) ?_
  refine lv_iload hx hb dX6_countOf_16 (lv_at hl 2 rfl) ?_
  refine lv_icmp_ge (tgt := 50) hx hb dX6_countOf_18 (by decide) (fun cc => absurd cc (by decide)) (fun _ => ?_)
  refine lv_aload_n hx hb dX6_countOf_21 rfl (lv_at hl 3 rfl) ?_
  refine lv_iload hx hb dX6_countOf_22 (lv_at hl 0 rfl) ?_
  refine va_aldq (D := D) (cl := vwCl) hx hb hK hP 1 0 rfl rfl (vp_in_nI (n := 2) (N := 16) (by decide) (by decide)) dX6_countOf_24 ?_
  refine W.eq (g2 := F0 m 25 ls [.null]) rfl ?_
  refine lv_astoreN (lv' := [(6, .null), (5, .int 2), (4, .int 16), (3, .ref xq), (2, .int 0), (0, .ref xo), (1, .int ch)]) hx hb dX6_countOf_25 hl (by decide) rfl (fun ls hl => ?_)
  refine lv_aloadN hx hb dX6_countOf_27 (lv_at hl 0 rfl) ?_
  refine lv_ifnullN (tgt := 44) hx hb dX6_countOf_29 (by decide) ?_
  obtain ⟨x_30, ex_30⟩ : ∃ y : Int32, y = 2 + 1 := ⟨_, rfl⟩
  have ex_30 : x_30 = 3 := ex_30.trans (by decide)
  subst ex_30
  refine lv_iinc (v := 3) (lv' := [(5, .int 3), (6, .null), (4, .int 16), (3, .ref xq), (2, .int 0), (0, .ref xo), (1, .int ch)]) hx hb dX6_countOf_44 hl (k := 1) rfl (by decide) (by decide) rfl (fun ls hl => ?_)
  refine lv_goto (tgt := 14) hx hb dX6_countOf_47 (by decide) ?_
  refine lv_iload hx hb dX6_countOf_14 (lv_at hl 0 rfl) ?_
  refine lv_iload hx hb dX6_countOf_16 (lv_at hl 2 rfl) ?_
  refine lv_icmp_ge (tgt := 50) hx hb dX6_countOf_18 (by decide) (fun cc => absurd cc (by decide)) (fun _ => ?_)
  refine lv_aload_n hx hb dX6_countOf_21 rfl (lv_at hl 3 rfl) ?_
  refine lv_iload hx hb dX6_countOf_22 (lv_at hl 0 rfl) ?_
  refine va_aldq (D := D) (cl := vwCl) hx hb hK hP 1 0 rfl rfl (vp_in_nI (n := 3) (N := 16) (by decide) (by decide)) dX6_countOf_24 ?_
  refine W.eq (g2 := F0 m 25 ls [.null]) rfl ?_
  refine lv_astoreN (lv' := [(6, .null), (5, .int 3), (4, .int 16), (3, .ref xq), (2, .int 0), (0, .ref xo), (1, .int ch)]) hx hb dX6_countOf_25 hl (by decide) rfl (fun ls hl => ?_)
  refine lv_aloadN hx hb dX6_countOf_27 (lv_at hl 0 rfl) ?_
  refine lv_ifnullN (tgt := 44) hx hb dX6_countOf_29 (by decide) ?_
  obtain ⟨x_31, ex_31⟩ : ∃ y : Int32, y = 3 + 1 := ⟨_, rfl⟩
  have ex_31 : x_31 = 4 := ex_31.trans (by decide)
  subst ex_31
  refine lv_iinc (v := 4) (lv' := [(5, .int 4), (6, .null), (4, .int 16), (3, .ref xq), (2, .int 0), (0, .ref xo), (1, .int ch)]) hx hb dX6_countOf_44 hl (k := 1) rfl (by decide) (by decide) rfl (fun ls hl => ?_)
  refine lv_goto (tgt := 14) hx hb dX6_countOf_47 (by decide) ?_
  refine lv_iload hx hb dX6_countOf_14 (lv_at hl 0 rfl) ?_
  refine lv_iload hx hb dX6_countOf_16 (lv_at hl 2 rfl) ?_
  refine lv_icmp_ge (tgt := 50) hx hb dX6_countOf_18 (by decide) (fun cc => absurd cc (by decide)) (fun _ => ?_)
  refine lv_aload_n hx hb dX6_countOf_21 rfl (lv_at hl 3 rfl) ?_
  refine lv_iload hx hb dX6_countOf_22 (lv_at hl 0 rfl) ?_
  refine va_aldq (D := D) (cl := vwCl) hx hb hK hP 1 0 rfl rfl (vp_in_nI (n := 4) (N := 16) (by decide) (by decide)) dX6_countOf_24 ?_
  refine W.eq (g2 := F0 m 25 ls [.null]) rfl ?_
  refine lv_astoreN (lv' := [(6, .null), (5, .int 4), (4, .int 16), (3, .ref xq), (2, .int 0), (0, .ref xo), (1, .int ch)]) hx hb dX6_countOf_25 hl (by decide) rfl (fun ls hl => ?_)
  refine lv_aloadN hx hb dX6_countOf_27 (lv_at hl 0 rfl) ?_
  refine lv_ifnullN (tgt := 44) hx hb dX6_countOf_29 (by decide) ?_
  obtain ⟨x_32, ex_32⟩ : ∃ y : Int32, y = 4 + 1 := ⟨_, rfl⟩
  have ex_32 : x_32 = 5 := ex_32.trans (by decide)
  subst ex_32
  refine lv_iinc (v := 5) (lv' := [(5, .int 5), (6, .null), (4, .int 16), (3, .ref xq), (2, .int 0), (0, .ref xo), (1, .int ch)]) hx hb dX6_countOf_44 hl (k := 1) rfl (by decide) (by decide) rfl (fun ls hl => ?_)
  refine lv_goto (tgt := 14) hx hb dX6_countOf_47 (by decide) ?_
  refine lv_iload hx hb dX6_countOf_14 (lv_at hl 0 rfl) ?_
  refine lv_iload hx hb dX6_countOf_16 (lv_at hl 2 rfl) ?_
  refine lv_icmp_ge (tgt := 50) hx hb dX6_countOf_18 (by decide) (fun cc => absurd cc (by decide)) (fun _ => ?_)
  refine lv_aload_n hx hb dX6_countOf_21 rfl (lv_at hl 3 rfl) ?_
  refine lv_iload hx hb dX6_countOf_22 (lv_at hl 0 rfl) ?_
  refine va_aldq (D := D) (cl := vwCl) hx hb hK hP 1 0 rfl rfl (vp_in_nI (n := 5) (N := 16) (by decide) (by decide)) dX6_countOf_24 ?_
  refine W.eq (g2 := F0 m 25 ls [.null]) rfl ?_
  refine lv_astoreN (lv' := [(6, .null), (5, .int 5), (4, .int 16), (3, .ref xq), (2, .int 0), (0, .ref xo), (1, .int ch)]) hx hb dX6_countOf_25 hl (by decide) rfl (fun ls hl => ?_)
  refine lv_aloadN hx hb dX6_countOf_27 (lv_at hl 0 rfl) ?_
  refine lv_ifnullN (tgt := 44) hx hb dX6_countOf_29 (by decide) ?_
  obtain ⟨x_33, ex_33⟩ : ∃ y : Int32, y = 5 + 1 := ⟨_, rfl⟩
  have ex_33 : x_33 = 6 := ex_33.trans (by decide)
  subst ex_33
  refine lv_iinc (v := 6) (lv' := [(5, .int 6), (6, .null), (4, .int 16), (3, .ref xq), (2, .int 0), (0, .ref xo), (1, .int ch)]) hx hb dX6_countOf_44 hl (k := 1) rfl (by decide) (by decide) rfl (fun ls hl => ?_)
  refine lv_goto (tgt := 14) hx hb dX6_countOf_47 (by decide) ?_
  refine lv_iload hx hb dX6_countOf_14 (lv_at hl 0 rfl) ?_
  refine lv_iload hx hb dX6_countOf_16 (lv_at hl 2 rfl) ?_
  refine lv_icmp_ge (tgt := 50) hx hb dX6_countOf_18 (by decide) (fun cc => absurd cc (by decide)) (fun _ => ?_)
  refine lv_aload_n hx hb dX6_countOf_21 rfl (lv_at hl 3 rfl) ?_
  refine lv_iload hx hb dX6_countOf_22 (lv_at hl 0 rfl) ?_
  refine va_aldq (D := D) (cl := vwCl) hx hb hK hP 1 0 rfl rfl (vp_in_nI (n := 6) (N := 16) (by decide) (by decide)) dX6_countOf_24 ?_
  refine W.eq (g2 := F0 m 25 ls [.null]) rfl ?_
  refine lv_astoreN (lv' := [(6, .null), (5, .int 6), (4, .int 16), (3, .ref xq), (2, .int 0), (0, .ref xo), (1, .int ch)]) hx hb dX6_countOf_25 hl (by decide) rfl (fun ls hl => ?_)
  refine lv_aloadN hx hb dX6_countOf_27 (lv_at hl 0 rfl) ?_
  refine lv_ifnullN (tgt := 44) hx hb dX6_countOf_29 (by decide) ?_
  obtain ⟨x_34, ex_34⟩ : ∃ y : Int32, y = 6 + 1 := ⟨_, rfl⟩
  have ex_34 : x_34 = 7 := ex_34.trans (by decide)
  subst ex_34
  refine lv_iinc (v := 7) (lv' := [(5, .int 7), (6, .null), (4, .int 16), (3, .ref xq), (2, .int 0), (0, .ref xo), (1, .int ch)]) hx hb dX6_countOf_44 hl (k := 1) rfl (by decide) (by decide) rfl (fun ls hl => ?_)
  refine lv_goto (tgt := 14) hx hb dX6_countOf_47 (by decide) ?_
  refine lv_iload hx hb dX6_countOf_14 (lv_at hl 0 rfl) ?_
  refine lv_iload hx hb dX6_countOf_16 (lv_at hl 2 rfl) ?_
  refine lv_icmp_ge (tgt := 50) hx hb dX6_countOf_18 (by decide) (fun cc => absurd cc (by decide)) (fun _ => ?_)
  refine lv_aload_n hx hb dX6_countOf_21 rfl (lv_at hl 3 rfl) ?_
  refine lv_iload hx hb dX6_countOf_22 (lv_at hl 0 rfl) ?_
  refine va_aldq (D := D) (cl := vwCl) hx hb hK hP 1 0 rfl rfl (vp_in_nI (n := 7) (N := 16) (by decide) (by decide)) dX6_countOf_24 ?_
  refine W.eq (g2 := F0 m 25 ls [.null]) rfl ?_
  refine lv_astoreN (lv' := [(6, .null), (5, .int 7), (4, .int 16), (3, .ref xq), (2, .int 0), (0, .ref xo), (1, .int ch)]) hx hb dX6_countOf_25 hl (by decide) rfl (fun ls hl => ?_)
  refine lv_aloadN hx hb dX6_countOf_27 (lv_at hl 0 rfl) ?_
  refine lv_ifnullN (tgt := 44) hx hb dX6_countOf_29 (by decide) ?_
  obtain ⟨x_35, ex_35⟩ : ∃ y : Int32, y = 7 + 1 := ⟨_, rfl⟩
  have ex_35 : x_35 = 8 := ex_35.trans (by decide)
  subst ex_35
  refine lv_iinc (v := 8) (lv' := [(5, .int 8), (6, .null), (4, .int 16), (3, .ref xq), (2, .int 0), (0, .ref xo), (1, .int ch)]) hx hb dX6_countOf_44 hl (k := 1) rfl (by decide) (by decide) rfl (fun ls hl => ?_)
  refine lv_goto (tgt := 14) hx hb dX6_countOf_47 (by decide) ?_
  refine lv_iload hx hb dX6_countOf_14 (lv_at hl 0 rfl) ?_
  refine lv_iload hx hb dX6_countOf_16 (lv_at hl 2 rfl) ?_
  refine lv_icmp_ge (tgt := 50) hx hb dX6_countOf_18 (by decide) (fun cc => absurd cc (by decide)) (fun _ => ?_)
  refine lv_aload_n hx hb dX6_countOf_21 rfl (lv_at hl 3 rfl) ?_
  refine lv_iload hx hb dX6_countOf_22 (lv_at hl 0 rfl) ?_
  refine va_aldq (D := D) (cl := vwCl) hx hb hK hP 1 0 rfl rfl (vp_in_nI (n := 8) (N := 16) (by decide) (by decide)) dX6_countOf_24 ?_
  refine W.eq (g2 := F0 m 25 ls [.null]) rfl ?_
  refine lv_astoreN (lv' := [(6, .null), (5, .int 8), (4, .int 16), (3, .ref xq), (2, .int 0), (0, .ref xo), (1, .int ch)]) hx hb dX6_countOf_25 hl (by decide) rfl (fun ls hl => ?_)
  refine lv_aloadN hx hb dX6_countOf_27 (lv_at hl 0 rfl) ?_
  refine lv_ifnullN (tgt := 44) hx hb dX6_countOf_29 (by decide) ?_
  obtain ⟨x_36, ex_36⟩ : ∃ y : Int32, y = 8 + 1 := ⟨_, rfl⟩
  have ex_36 : x_36 = 9 := ex_36.trans (by decide)
  subst ex_36
  refine lv_iinc (v := 9) (lv' := [(5, .int 9), (6, .null), (4, .int 16), (3, .ref xq), (2, .int 0), (0, .ref xo), (1, .int ch)]) hx hb dX6_countOf_44 hl (k := 1) rfl (by decide) (by decide) rfl (fun ls hl => ?_)
  refine lv_goto (tgt := 14) hx hb dX6_countOf_47 (by decide) ?_
  refine lv_iload hx hb dX6_countOf_14 (lv_at hl 0 rfl) ?_
  refine lv_iload hx hb dX6_countOf_16 (lv_at hl 2 rfl) ?_
  refine lv_icmp_ge (tgt := 50) hx hb dX6_countOf_18 (by decide) (fun cc => absurd cc (by decide)) (fun _ => ?_)
  refine lv_aload_n hx hb dX6_countOf_21 rfl (lv_at hl 3 rfl) ?_
  refine lv_iload hx hb dX6_countOf_22 (lv_at hl 0 rfl) ?_
  refine va_aldq (D := D) (cl := vwCl) hx hb hK hP 1 0 rfl rfl (vp_in_nI (n := 9) (N := 16) (by decide) (by decide)) dX6_countOf_24 ?_
  refine W.eq (g2 := F0 m 25 ls [.null]) rfl ?_
  refine lv_astoreN (lv' := [(6, .null), (5, .int 9), (4, .int 16), (3, .ref xq), (2, .int 0), (0, .ref xo), (1, .int ch)]) hx hb dX6_countOf_25 hl (by decide) rfl (fun ls hl => ?_)
  refine lv_aloadN hx hb dX6_countOf_27 (lv_at hl 0 rfl) ?_
  refine lv_ifnullN (tgt := 44) hx hb dX6_countOf_29 (by decide) ?_
  obtain ⟨x_37, ex_37⟩ : ∃ y : Int32, y = 9 + 1 := ⟨_, rfl⟩
  have ex_37 : x_37 = 10 := ex_37.trans (by decide)
  subst ex_37
  refine lv_iinc (v := 10) (lv' := [(5, .int 10), (6, .null), (4, .int 16), (3, .ref xq), (2, .int 0), (0, .ref xo), (1, .int ch)]) hx hb dX6_countOf_44 hl (k := 1) rfl (by decide) (by decide) rfl (fun ls hl => ?_)
  refine lv_goto (tgt := 14) hx hb dX6_countOf_47 (by decide) ?_
  refine lv_iload hx hb dX6_countOf_14 (lv_at hl 0 rfl) ?_
  refine lv_iload hx hb dX6_countOf_16 (lv_at hl 2 rfl) ?_
  refine lv_icmp_ge (tgt := 50) hx hb dX6_countOf_18 (by decide) (fun cc => absurd cc (by decide)) (fun _ => ?_)
  refine lv_aload_n hx hb dX6_countOf_21 rfl (lv_at hl 3 rfl) ?_
  refine lv_iload hx hb dX6_countOf_22 (lv_at hl 0 rfl) ?_
  refine va_aldq (D := D) (cl := vwCl) hx hb hK hP 1 0 rfl rfl (vp_in_nI (n := 10) (N := 16) (by decide) (by decide)) dX6_countOf_24 ?_
  refine W.eq (g2 := F0 m 25 ls [.null]) rfl ?_
  refine lv_astoreN (lv' := [(6, .null), (5, .int 10), (4, .int 16), (3, .ref xq), (2, .int 0), (0, .ref xo), (1, .int ch)]) hx hb dX6_countOf_25 hl (by decide) rfl (fun ls hl => ?_)
  refine lv_aloadN hx hb dX6_countOf_27 (lv_at hl 0 rfl) ?_
  refine lv_ifnullN (tgt := 44) hx hb dX6_countOf_29 (by decide) ?_
  obtain ⟨x_38, ex_38⟩ : ∃ y : Int32, y = 10 + 1 := ⟨_, rfl⟩
  have ex_38 : x_38 = 11 := ex_38.trans (by decide)
  subst ex_38
  refine lv_iinc (v := 11) (lv' := [(5, .int 11), (6, .null), (4, .int 16), (3, .ref xq), (2, .int 0), (0, .ref xo), (1, .int ch)]) hx hb dX6_countOf_44 hl (k := 1) rfl (by decide) (by decide) rfl (fun ls hl => ?_)
  refine lv_goto (tgt := 14) hx hb dX6_countOf_47 (by decide) ?_
  refine lv_iload hx hb dX6_countOf_14 (lv_at hl 0 rfl) ?_
  refine lv_iload hx hb dX6_countOf_16 (lv_at hl 2 rfl) ?_
  refine lv_icmp_ge (tgt := 50) hx hb dX6_countOf_18 (by decide) (fun cc => absurd cc (by decide)) (fun _ => ?_)
  refine lv_aload_n hx hb dX6_countOf_21 rfl (lv_at hl 3 rfl) ?_
  refine lv_iload hx hb dX6_countOf_22 (lv_at hl 0 rfl) ?_
  refine va_aldq (D := D) (cl := vwCl) hx hb hK hP 1 0 rfl rfl (vp_in_nI (n := 11) (N := 16) (by decide) (by decide)) dX6_countOf_24 ?_
  refine W.eq (g2 := F0 m 25 ls [.null]) rfl ?_
  refine lv_astoreN (lv' := [(6, .null), (5, .int 11), (4, .int 16), (3, .ref xq), (2, .int 0), (0, .ref xo), (1, .int ch)]) hx hb dX6_countOf_25 hl (by decide) rfl (fun ls hl => ?_)
  refine lv_aloadN hx hb dX6_countOf_27 (lv_at hl 0 rfl) ?_
  refine lv_ifnullN (tgt := 44) hx hb dX6_countOf_29 (by decide) ?_
  obtain ⟨x_39, ex_39⟩ : ∃ y : Int32, y = 11 + 1 := ⟨_, rfl⟩
  have ex_39 : x_39 = 12 := ex_39.trans (by decide)
  subst ex_39
  refine lv_iinc (v := 12) (lv' := [(5, .int 12), (6, .null), (4, .int 16), (3, .ref xq), (2, .int 0), (0, .ref xo), (1, .int ch)]) hx hb dX6_countOf_44 hl (k := 1) rfl (by decide) (by decide) rfl (fun ls hl => ?_)
  refine lv_goto (tgt := 14) hx hb dX6_countOf_47 (by decide) ?_
  refine lv_iload hx hb dX6_countOf_14 (lv_at hl 0 rfl) ?_
  refine lv_iload hx hb dX6_countOf_16 (lv_at hl 2 rfl) ?_
  refine lv_icmp_ge (tgt := 50) hx hb dX6_countOf_18 (by decide) (fun cc => absurd cc (by decide)) (fun _ => ?_)
  refine lv_aload_n hx hb dX6_countOf_21 rfl (lv_at hl 3 rfl) ?_
  refine lv_iload hx hb dX6_countOf_22 (lv_at hl 0 rfl) ?_
  refine va_aldq (D := D) (cl := vwCl) hx hb hK hP 1 0 rfl rfl (vp_in_nI (n := 12) (N := 16) (by decide) (by decide)) dX6_countOf_24 ?_
  refine W.eq (g2 := F0 m 25 ls [.null]) rfl ?_
  refine lv_astoreN (lv' := [(6, .null), (5, .int 12), (4, .int 16), (3, .ref xq), (2, .int 0), (0, .ref xo), (1, .int ch)]) hx hb dX6_countOf_25 hl (by decide) rfl (fun ls hl => ?_)
  refine lv_aloadN hx hb dX6_countOf_27 (lv_at hl 0 rfl) ?_
  refine lv_ifnullN (tgt := 44) hx hb dX6_countOf_29 (by decide) ?_
  obtain ⟨x_40, ex_40⟩ : ∃ y : Int32, y = 12 + 1 := ⟨_, rfl⟩
  have ex_40 : x_40 = 13 := ex_40.trans (by decide)
  subst ex_40
  refine lv_iinc (v := 13) (lv' := [(5, .int 13), (6, .null), (4, .int 16), (3, .ref xq), (2, .int 0), (0, .ref xo), (1, .int ch)]) hx hb dX6_countOf_44 hl (k := 1) rfl (by decide) (by decide) rfl (fun ls hl => ?_)
  refine lv_goto (tgt := 14) hx hb dX6_countOf_47 (by decide) ?_
  refine lv_iload hx hb dX6_countOf_14 (lv_at hl 0 rfl) ?_
  refine lv_iload hx hb dX6_countOf_16 (lv_at hl 2 rfl) ?_
  refine lv_icmp_ge (tgt := 50) hx hb dX6_countOf_18 (by decide) (fun cc => absurd cc (by decide)) (fun _ => ?_)
  refine lv_aload_n hx hb dX6_countOf_21 rfl (lv_at hl 3 rfl) ?_
  refine lv_iload hx hb dX6_countOf_22 (lv_at hl 0 rfl) ?_
  refine va_aldq (D := D) (cl := vwCl) hx hb hK hP 1 0 rfl rfl (vp_in_nI (n := 13) (N := 16) (by decide) (by decide)) dX6_countOf_24 ?_
  refine W.eq (g2 := F0 m 25 ls [.null]) rfl ?_
  refine lv_astoreN (lv' := [(6, .null), (5, .int 13), (4, .int 16), (3, .ref xq), (2, .int 0), (0, .ref xo), (1, .int ch)]) hx hb dX6_countOf_25 hl (by decide) rfl (fun ls hl => ?_)
  refine lv_aloadN hx hb dX6_countOf_27 (lv_at hl 0 rfl) ?_
  refine lv_ifnullN (tgt := 44) hx hb dX6_countOf_29 (by decide) ?_
  obtain ⟨x_41, ex_41⟩ : ∃ y : Int32, y = 13 + 1 := ⟨_, rfl⟩
  have ex_41 : x_41 = 14 := ex_41.trans (by decide)
  subst ex_41
  refine lv_iinc (v := 14) (lv' := [(5, .int 14), (6, .null), (4, .int 16), (3, .ref xq), (2, .int 0), (0, .ref xo), (1, .int ch)]) hx hb dX6_countOf_44 hl (k := 1) rfl (by decide) (by decide) rfl (fun ls hl => ?_)
  refine lv_goto (tgt := 14) hx hb dX6_countOf_47 (by decide) ?_
  refine lv_iload hx hb dX6_countOf_14 (lv_at hl 0 rfl) ?_
  refine lv_iload hx hb dX6_countOf_16 (lv_at hl 2 rfl) ?_
  refine lv_icmp_ge (tgt := 50) hx hb dX6_countOf_18 (by decide) (fun cc => absurd cc (by decide)) (fun _ => ?_)
  refine lv_aload_n hx hb dX6_countOf_21 rfl (lv_at hl 3 rfl) ?_
  refine lv_iload hx hb dX6_countOf_22 (lv_at hl 0 rfl) ?_
  refine va_aldq (D := D) (cl := vwCl) hx hb hK hP 1 0 rfl rfl (vp_in_nI (n := 14) (N := 16) (by decide) (by decide)) dX6_countOf_24 ?_
  refine W.eq (g2 := F0 m 25 ls [.null]) rfl ?_
  refine lv_astoreN (lv' := [(6, .null), (5, .int 14), (4, .int 16), (3, .ref xq), (2, .int 0), (0, .ref xo), (1, .int ch)]) hx hb dX6_countOf_25 hl (by decide) rfl (fun ls hl => ?_)
  refine lv_aloadN hx hb dX6_countOf_27 (lv_at hl 0 rfl) ?_
  refine lv_ifnullN (tgt := 44) hx hb dX6_countOf_29 (by decide) ?_
  obtain ⟨x_42, ex_42⟩ : ∃ y : Int32, y = 14 + 1 := ⟨_, rfl⟩
  have ex_42 : x_42 = 15 := ex_42.trans (by decide)
  subst ex_42
  refine lv_iinc (v := 15) (lv' := [(5, .int 15), (6, .null), (4, .int 16), (3, .ref xq), (2, .int 0), (0, .ref xo), (1, .int ch)]) hx hb dX6_countOf_44 hl (k := 1) rfl (by decide) (by decide) rfl (fun ls hl => ?_)
  refine lv_goto (tgt := 14) hx hb dX6_countOf_47 (by decide) ?_
  refine lv_iload hx hb dX6_countOf_14 (lv_at hl 0 rfl) ?_
  refine lv_iload hx hb dX6_countOf_16 (lv_at hl 2 rfl) ?_
  refine lv_icmp_ge (tgt := 50) hx hb dX6_countOf_18 (by decide) (fun cc => absurd cc (by decide)) (fun _ => ?_)
  refine lv_aload_n hx hb dX6_countOf_21 rfl (lv_at hl 3 rfl) ?_
  refine lv_iload hx hb dX6_countOf_22 (lv_at hl 0 rfl) ?_
  refine va_aldq (D := D) (cl := vwCl) hx hb hK hP 1 0 rfl rfl (vp_in_nI (n := 15) (N := 16) (by decide) (by decide)) dX6_countOf_24 ?_
  refine W.eq (g2 := F0 m 25 ls [.null]) rfl ?_
  refine lv_astoreN (lv' := [(6, .null), (5, .int 15), (4, .int 16), (3, .ref xq), (2, .int 0), (0, .ref xo), (1, .int ch)]) hx hb dX6_countOf_25 hl (by decide) rfl (fun ls hl => ?_)
  refine lv_aloadN hx hb dX6_countOf_27 (lv_at hl 0 rfl) ?_
  refine lv_ifnullN (tgt := 44) hx hb dX6_countOf_29 (by decide) ?_
  obtain ⟨x_43, ex_43⟩ : ∃ y : Int32, y = 15 + 1 := ⟨_, rfl⟩
  have ex_43 : x_43 = 16 := ex_43.trans (by decide)
  subst ex_43
  refine lv_iinc (v := 16) (lv' := [(5, .int 16), (6, .null), (4, .int 16), (3, .ref xq), (2, .int 0), (0, .ref xo), (1, .int ch)]) hx hb dX6_countOf_44 hl (k := 1) rfl (by decide) (by decide) rfl (fun ls hl => ?_)
  refine lv_goto (tgt := 14) hx hb dX6_countOf_47 (by decide) ?_
  refine lv_iload hx hb dX6_countOf_14 (lv_at hl 0 rfl) ?_
  refine lv_iload hx hb dX6_countOf_16 (lv_at hl 2 rfl) ?_
  refine lv_icmp_ge (tgt := 50) hx hb dX6_countOf_18 (by decide) (fun _ => ?_) (fun cc => absurd (by decide) cc)
  refine lv_iload_n hx hb dX6_countOf_50 rfl (lv_at hl 4 rfl) ?_
  exact W.iret (v := 0) hx hb hr (fun t ht hW => ⟨0, rfl, rfl, ht⟩) (fun q h => by cases h) dX6_countOf_51
theorem dX6_endDay_0 : decode cX6_endDay 0 = .ok (.aload_n 0, 1) := by decide +kernel
theorem dX6_endDay_1 : decode cX6_endDay 1 = .ok (.getfield 30, 3) := by decide +kernel
theorem dX6_endDay_4 : decode cX6_endDay 4 = .ok (.astore_n 2, 1) := by decide +kernel
theorem dX6_endDay_5 : decode cX6_endDay 5 = .ok (.aload_n 2, 1) := by decide +kernel
theorem dX6_endDay_6 : decode cX6_endDay 6 = .ok (.arraylength, 1) := by decide +kernel
theorem dX6_endDay_7 : decode cX6_endDay 7 = .ok (.istore_n 3, 1) := by decide +kernel
theorem dX6_endDay_8 : decode cX6_endDay 8 = .ok (.iconst 0, 1) := by decide +kernel
theorem dX6_endDay_9 : decode cX6_endDay 9 = .ok (.istore 4, 2) := by decide +kernel
theorem dX6_endDay_11 : decode cX6_endDay 11 = .ok (.iload 4, 2) := by decide +kernel
theorem dX6_endDay_13 : decode cX6_endDay 13 = .ok (.iload_n 3, 1) := by decide +kernel
theorem dX6_endDay_14 : decode cX6_endDay 14 = .ok (.if_icmp .ge 46, 3) := by decide +kernel
theorem dX6_endDay_17 : decode cX6_endDay 17 = .ok (.aload_n 2, 1) := by decide +kernel
theorem dX6_endDay_18 : decode cX6_endDay 18 = .ok (.iload 4, 2) := by decide +kernel
theorem dX6_endDay_20 : decode cX6_endDay 20 = .ok (.aaload, 1) := by decide +kernel
theorem dX6_endDay_21 : decode cX6_endDay 21 = .ok (.astore 5, 2) := by decide +kernel
theorem dX6_endDay_23 : decode cX6_endDay 23 = .ok (.aload 5, 2) := by decide +kernel
theorem dX6_endDay_25 : decode cX6_endDay 25 = .ok (.ifnull 29, 3) := by decide +kernel
theorem dX6_endDay_54 : decode cX6_endDay 54 = .ok (.iinc 4 1, 3) := by decide +kernel
theorem dX6_endDay_57 : decode cX6_endDay 57 = .ok (.goto (-46), 3) := by decide +kernel
theorem dX6_endDay_60 : decode cX6_endDay 60 = .ok (.return_, 1) := by decide +kernel
def wzEX6_endDay : List Cond := [.code yX6_endDay cX6_endDay 6 none, .fieldLink RX6 30 "Gatherhouse" "pieces" "[LGatherhouse$Piece;"]
def wzX6_endDay : List Cond := wzEX6_endDay ++ (u_ws RX6 TX6 16)
theorem zgEX6_endDay : wzEX6_endDay.all goodWord = true := by decide +kernel
theorem zuX6_endDay_X6 : ∀ w ∈ u_ws RX6 TX6 16, w ∈ wzX6_endDay := (fun _ h => (List.mem_append_right _ h))
set_option maxHeartbeats 4000000 in
set_option maxRecDepth 100000 in
theorem zc_X6_endDay (l : Launch) (D : va_G) (G : Nat × Nat × Nat) (xo : Nat) (xg : Nat) (xp : Nat) (xq : Nat) (r1 : Nat) (r2 : Nat) (r3 : Nat) (r4 : Nat) (se : Nat) (ts : Int32) (hq : Int32) (cq : ClassId) (td : Int32) : Met l yX6_endDay wzX6_endDay ({ frames := 0, cells := 0, slots := 0, locals := 0 }) (va_Pc [.ref xo, .int td] (p_RO D G [(cq, .object "Gatherhouse$Piece")] [(xo, .inr (11, [.ref xg, .int 0, .ref xp, .int 0, .ref xq, .int 0, .ref r1, .ref r2, .ref r3, .ref r4, .ref se, .int ts, .int hq, .int 40, .int 0, .int 0])), (xq, .inl (cq, 16, .inr (.inr (.inr (.inr (fun _ => none))))))])) (va_Sv (fun _ => True)) 0 0 (fun _ => False) := by
  refine Met.ofW (cc := cX6_endDay) (maxL := 6) (ret := none) (by decide) rfl ?_
  intro p e s m args below meth c s₁ B hml hv
  obtain ⟨rfl, hP, hK, hT⟩ := hv
  have hx := B.exec
  have hb := B.bytes
  have hr := B.returns
  have hts := atoms_spec (ws := wzX6_endDay) B.pre
  have hown : s.vm.findClass RX6 = some m.cls := findClass_of_methodNamed B.named
  have hlocks := B.notSynchronized
  have hl := lv_entry ([.ref xo, .int td]) (n := 6) (Nat.le_of_ble_eq_true rfl)
  rw [lg_entry_eq]
  generalize (lg_sl ([.ref xo, .int td]) ++ List.replicate (6 - (lg_sl ([.ref xo, .int td])).length) Slot.unset).toArray = ls at hl ⊢
  have hl : lv_has ls 6 [(0, .ref xo), (1, .int td)] := hl
  refine lv_aload_n hx hb dX6_endDay_0 rfl (lv_at hl 0 rfl) ?_
  refine va_get (D := D) (cl := vwCl) (ci := 11) (v := .ref xq) (C := RX6) (T := TX6) (N := 16) hx hb hts zuX6_endDay_X6 hown hK hP 0 rfl rfl 4 (by decide) (hts (.fieldLink RX6 30 "Gatherhouse" "pieces" "[LGatherhouse$Piece;") (by decide +kernel)) (fun _ h9 => h9) rfl dX6_endDay_1 ?_
  refine lv_astore_n (lv' := [(2, .ref xq), (0, .ref xo), (1, .int td)]) hx hb dX6_endDay_4 rfl hl (by decide) rfl (fun ls hl => ?_)
  refine lv_aload_n hx hb dX6_endDay_5 rfl (lv_at hl 0 rfl) ?_
  refine va_alen (D := D) (cl := vwCl) (v := 16) hx hb hK hP 1 0 rfl rfl (by decide) dX6_endDay_6 ?_
  refine lv_istore_n (lv' := [(3, .int 16), (2, .ref xq), (0, .ref xo), (1, .int td)]) hx hb dX6_endDay_7 rfl hl (by decide) rfl (fun ls hl => ?_)
  refine lv_iconst (v := 0) hx hb dX6_endDay_8 (by decide) ?_
  refine lv_istore (lv' := [(4, .int 0), (3, .int 16), (2, .ref xq), (0, .ref xo), (1, .int td)]) hx hb dX6_endDay_9 hl (by decide) rfl (fun ls hl => ?_)
  refine lv_iload hx hb dX6_endDay_11 (lv_at hl 0 rfl) ?_
  refine lv_iload_n hx hb dX6_endDay_13 rfl (lv_at hl 1 rfl) ?_
  refine lv_icmp_ge (tgt := 60) hx hb dX6_endDay_14 (by decide) (fun cc => absurd cc (by decide)) (fun _ => ?_)
  refine lv_aload_n hx hb dX6_endDay_17 rfl (lv_at hl 2 rfl) ?_
  refine lv_iload hx hb dX6_endDay_18 (lv_at hl 0 rfl) ?_
  refine va_aldq (D := D) (cl := vwCl) hx hb hK hP 1 0 rfl rfl (vp_in_nI (n := 0) (N := 16) (by decide) (by decide)) dX6_endDay_20 ?_
  refine W.eq (g2 := F0 m 21 ls [.null]) rfl ?_
  refine lv_astoreN (lv' := [(5, .null), (4, .int 0), (3, .int 16), (2, .ref xq), (0, .ref xo), (1, .int td)]) hx hb dX6_endDay_21 hl (by decide) rfl (fun ls hl => ?_)
  refine lv_aloadN hx hb dX6_endDay_23 (lv_at hl 0 rfl) ?_
  refine lv_ifnullN (tgt := 54) hx hb dX6_endDay_25 (by decide) ?_
  obtain ⟨x_44, ex_44⟩ : ∃ y : Int32, y = 0 + 1 := ⟨_, rfl⟩
  have ex_44 : x_44 = 1 := ex_44.trans (by decide)
  subst ex_44
  refine lv_iinc (v := 1) (lv' := [(4, .int 1), (5, .null), (3, .int 16), (2, .ref xq), (0, .ref xo), (1, .int td)]) hx hb dX6_endDay_54 hl (k := 1) rfl (by decide) (by decide) rfl (fun ls hl => ?_)
  refine lv_goto (tgt := 11) hx hb dX6_endDay_57 (by decide) ?_
  refine lv_iload hx hb dX6_endDay_11 (lv_at hl 0 rfl) ?_
  refine lv_iload_n hx hb dX6_endDay_13 rfl (lv_at hl 2 rfl) ?_
  refine lv_icmp_ge (tgt := 60) hx hb dX6_endDay_14 (by decide) (fun cc => absurd cc (by decide)) (fun _ => ?_)
  refine lv_aload_n hx hb dX6_endDay_17 rfl (lv_at hl 3 rfl) ?_
  refine lv_iload hx hb dX6_endDay_18 (lv_at hl 0 rfl) ?_
  refine va_aldq (D := D) (cl := vwCl) hx hb hK hP 1 0 rfl rfl (vp_in_nI (n := 1) (N := 16) (by decide) (by decide)) dX6_endDay_20 ?_
  refine W.eq (g2 := F0 m 21 ls [.null]) rfl ?_
  refine lv_astoreN (lv' := [(5, .null), (4, .int 1), (3, .int 16), (2, .ref xq), (0, .ref xo), (1, .int td)]) hx hb dX6_endDay_21 hl (by decide) rfl (fun ls hl => ?_)
  refine lv_aloadN hx hb dX6_endDay_23 (lv_at hl 0 rfl) ?_
  refine lv_ifnullN (tgt := 54) hx hb dX6_endDay_25 (by decide) ?_
  obtain ⟨x_45, ex_45⟩ : ∃ y : Int32, y = 1 + 1 := ⟨_, rfl⟩
  have ex_45 : x_45 = 2 := ex_45.trans (by decide)
  subst ex_45
  refine lv_iinc (v := 2) (lv' := [(4, .int 2), (5, .null), (3, .int 16), (2, .ref xq), (0, .ref xo), (1, .int td)]) hx hb dX6_endDay_54 hl (k := 1) rfl (by decide) (by decide) rfl (fun ls hl => ?_)
  refine lv_goto (tgt := 11) hx hb dX6_endDay_57 (by decide) ?_
  refine lv_iload hx hb dX6_endDay_11 (lv_at hl 0 rfl) ?_
  refine lv_iload_n hx hb dX6_endDay_13 rfl (lv_at hl 2 rfl) ?_
  refine lv_icmp_ge (tgt := 60) hx hb dX6_endDay_14 (by decide) (fun cc => absurd cc (by decide)) (fun _ => ?_)
  refine lv_aload_n hx hb dX6_endDay_17 rfl (lv_at hl 3 rfl) ?_
  refine lv_iload hx hb dX6_endDay_18 (lv_at hl 0 rfl) ?_
  refine va_aldq (D := D) (cl := vwCl) hx hb hK hP 1 0 rfl rfl (vp_in_nI (n := 2) (N := 16) (by decide) (by decide)) dX6_endDay_20 ?_
  refine W.eq (g2 := F0 m 21 ls [.null]) rfl ?_
  refine lv_astoreN (lv' := [(5, .null), (4, .int 2), (3, .int 16), (2, .ref xq), (0, .ref xo), (1, .int td)]) hx hb dX6_endDay_21 hl (by decide) rfl (fun ls hl => ?_)
  refine lv_aloadN hx hb dX6_endDay_23 (lv_at hl 0 rfl) ?_
  refine lv_ifnullN (tgt := 54) hx hb dX6_endDay_25 (by decide) ?_
  obtain ⟨x_46, ex_46⟩ : ∃ y : Int32, y = 2 + 1 := ⟨_, rfl⟩
  have ex_46 : x_46 = 3 := ex_46.trans (by decide)
  subst ex_46
  refine lv_iinc (v := 3) (lv' := [(4, .int 3), (5, .null), (3, .int 16), (2, .ref xq), (0, .ref xo), (1, .int td)]) hx hb dX6_endDay_54 hl (k := 1) rfl (by decide) (by decide) rfl (fun ls hl => ?_)
  refine lv_goto (tgt := 11) hx hb dX6_endDay_57 (by decide) ?_
  refine lv_iload hx hb dX6_endDay_11 (lv_at hl 0 rfl) ?_
  refine lv_iload_n hx hb dX6_endDay_13 rfl (lv_at hl 2 rfl) ?_
  refine lv_icmp_ge (tgt := 60) hx hb dX6_endDay_14 (by decide) (fun cc => absurd cc (by decide)) (fun _ => ?_)
  refine lv_aload_n hx hb dX6_endDay_17 rfl (lv_at hl 3 rfl) ?_
  refine lv_iload hx hb dX6_endDay_18 (lv_at hl 0 rfl) ?_
  refine va_aldq (D := D) (cl := vwCl) hx hb hK hP 1 0 rfl rfl (vp_in_nI (n := 3) (N := 16) (by decide) (by decide)) dX6_endDay_20 ?_
  refine W.eq (g2 := F0 m 21 ls [.null]) rfl ?_
  refine lv_astoreN (lv' := [(5, .null), (4, .int 3), (3, .int 16), (2, .ref xq), (0, .ref xo), (1, .int td)]) hx hb dX6_endDay_21 hl (by decide) rfl (fun ls hl => ?_)
  refine lv_aloadN hx hb dX6_endDay_23 (lv_at hl 0 rfl) ?_
  refine lv_ifnullN (tgt := 54) hx hb dX6_endDay_25 (by decide) ?_
  obtain ⟨x_47, ex_47⟩ : ∃ y : Int32, y = 3 + 1 := ⟨_, rfl⟩
  have ex_47 : x_47 = 4 := ex_47.trans (by decide)
  subst ex_47
  refine lv_iinc (v := 4) (lv' := [(4, .int 4), (5, .null), (3, .int 16), (2, .ref xq), (0, .ref xo), (1, .int td)]) hx hb dX6_endDay_54 hl (k := 1) rfl (by decide) (by decide) rfl (fun ls hl => ?_)
  refine lv_goto (tgt := 11) hx hb dX6_endDay_57 (by decide) ?_
  refine lv_iload hx hb dX6_endDay_11 (lv_at hl 0 rfl) ?_
  refine lv_iload_n hx hb dX6_endDay_13 rfl (lv_at hl 2 rfl) ?_
  refine lv_icmp_ge (tgt := 60) hx hb dX6_endDay_14 (by decide) (fun cc => absurd cc (by decide)) (fun _ => ?_)
  refine lv_aload_n hx hb dX6_endDay_17 rfl (lv_at hl 3 rfl) ?_
  refine lv_iload hx hb dX6_endDay_18 (lv_at hl 0 rfl) ?_
  refine va_aldq (D := D) (cl := vwCl) hx hb hK hP 1 0 rfl rfl (vp_in_nI (n := 4) (N := 16) (by decide) (by decide)) dX6_endDay_20 ?_
  refine W.eq (g2 := F0 m 21 ls [.null]) rfl ?_
  refine lv_astoreN (lv' := [(5, .null), (4, .int 4), (3, .int 16), (2, .ref xq), (0, .ref xo), (1, .int td)]) hx hb dX6_endDay_21 hl (by decide) rfl (fun ls hl => ?_)
  refine lv_aloadN hx hb dX6_endDay_23 (lv_at hl 0 rfl) ?_
  refine lv_ifnullN (tgt := 54) hx hb dX6_endDay_25 (by decide) ?_
  obtain ⟨x_48, ex_48⟩ : ∃ y : Int32, y = 4 + 1 := ⟨_, rfl⟩
  have ex_48 : x_48 = 5 := ex_48.trans (by decide)
  subst ex_48
  refine lv_iinc (v := 5) (lv' := [(4, .int 5), (5, .null), (3, .int 16), (2, .ref xq), (0, .ref xo), (1, .int td)]) hx hb dX6_endDay_54 hl (k := 1) rfl (by decide) (by decide) rfl (fun ls hl => ?_)
  refine lv_goto (tgt := 11) hx hb dX6_endDay_57 (by decide) ?_
  refine lv_iload hx hb dX6_endDay_11 (lv_at hl 0 rfl) ?_
  refine lv_iload_n hx hb dX6_endDay_13 rfl (lv_at hl 2 rfl) ?_
  refine lv_icmp_ge (tgt := 60) hx hb dX6_endDay_14 (by decide) (fun cc => absurd cc (by decide)) (fun _ => ?_)
  refine lv_aload_n hx hb dX6_endDay_17 rfl (lv_at hl 3 rfl) ?_
  refine lv_iload hx hb dX6_endDay_18 (lv_at hl 0 rfl) ?_
  refine va_aldq (D := D) (cl := vwCl) hx hb hK hP 1 0 rfl rfl (vp_in_nI (n := 5) (N := 16) (by decide) (by decide)) dX6_endDay_20 ?_
  refine W.eq (g2 := F0 m 21 ls [.null]) rfl ?_
  refine lv_astoreN (lv' := [(5, .null), (4, .int 5), (3, .int 16), (2, .ref xq), (0, .ref xo), (1, .int td)]) hx hb dX6_endDay_21 hl (by decide) rfl (fun ls hl => ?_)
  refine lv_aloadN hx hb dX6_endDay_23 (lv_at hl 0 rfl) ?_
  refine lv_ifnullN (tgt := 54) hx hb dX6_endDay_25 (by decide) ?_
  obtain ⟨x_49, ex_49⟩ : ∃ y : Int32, y = 5 + 1 := ⟨_, rfl⟩
  have ex_49 : x_49 = 6 := ex_49.trans (by decide)
  subst ex_49
  refine lv_iinc (v := 6) (lv' := [(4, .int 6), (5, .null), (3, .int 16), (2, .ref xq), (0, .ref xo), (1, .int td)]) hx hb dX6_endDay_54 hl (k := 1) rfl (by decide) (by decide) rfl (fun ls hl => ?_)
  refine lv_goto (tgt := 11) hx hb dX6_endDay_57 (by decide) ?_
  refine lv_iload hx hb dX6_endDay_11 (lv_at hl 0 rfl) ?_
  refine lv_iload_n hx hb dX6_endDay_13 rfl (lv_at hl 2 rfl) ?_
  refine lv_icmp_ge (tgt := 60) hx hb dX6_endDay_14 (by decide) (fun cc => absurd cc (by decide)) (fun _ => ?_)
  refine lv_aload_n hx hb dX6_endDay_17 rfl (lv_at hl 3 rfl) ?_
  refine lv_iload hx hb dX6_endDay_18 (lv_at hl 0 rfl) ?_
  refine va_aldq (D := D) (cl := vwCl) hx hb hK hP 1 0 rfl rfl (vp_in_nI (n := 6) (N := 16) (by decide) (by decide)) dX6_endDay_20 ?_
  refine W.eq (g2 := F0 m 21 ls [.null]) rfl ?_
  refine lv_astoreN (lv' := [(5, .null), (4, .int 6), (3, .int 16), (2, .ref xq), (0, .ref xo), (1, .int td)]) hx hb dX6_endDay_21 hl (by decide) rfl (fun ls hl => ?_)
  refine lv_aloadN hx hb dX6_endDay_23 (lv_at hl 0 rfl) ?_
  refine lv_ifnullN (tgt := 54) hx hb dX6_endDay_25 (by decide) ?_
  obtain ⟨x_50, ex_50⟩ : ∃ y : Int32, y = 6 + 1 := ⟨_, rfl⟩
  have ex_50 : x_50 = 7 := ex_50.trans (by decide)
  subst ex_50
  refine lv_iinc (v := 7) (lv' := [(4, .int 7), (5, .null), (3, .int 16), (2, .ref xq), (0, .ref xo), (1, .int td)]) hx hb dX6_endDay_54 hl (k := 1) rfl (by decide) (by decide) rfl (fun ls hl => ?_)
  refine lv_goto (tgt := 11) hx hb dX6_endDay_57 (by decide) ?_
  refine lv_iload hx hb dX6_endDay_11 (lv_at hl 0 rfl) ?_
  refine lv_iload_n hx hb dX6_endDay_13 rfl (lv_at hl 2 rfl) ?_
  refine lv_icmp_ge (tgt := 60) hx hb dX6_endDay_14 (by decide) (fun cc => absurd cc (by decide)) (fun _ => ?_)
  refine lv_aload_n hx hb dX6_endDay_17 rfl (lv_at hl 3 rfl) ?_
  refine lv_iload hx hb dX6_endDay_18 (lv_at hl 0 rfl) ?_
  refine va_aldq (D := D) (cl := vwCl) hx hb hK hP 1 0 rfl rfl (vp_in_nI (n := 7) (N := 16) (by decide) (by decide)) dX6_endDay_20 ?_
  refine W.eq (g2 := F0 m 21 ls [.null]) rfl ?_
  refine lv_astoreN (lv' := [(5, .null), (4, .int 7), (3, .int 16), (2, .ref xq), (0, .ref xo), (1, .int td)]) hx hb dX6_endDay_21 hl (by decide) rfl (fun ls hl => ?_)
  refine lv_aloadN hx hb dX6_endDay_23 (lv_at hl 0 rfl) ?_
  refine lv_ifnullN (tgt := 54) hx hb dX6_endDay_25 (by decide) ?_
  obtain ⟨x_51, ex_51⟩ : ∃ y : Int32, y = 7 + 1 := ⟨_, rfl⟩
  have ex_51 : x_51 = 8 := ex_51.trans (by decide)
  subst ex_51
  refine lv_iinc (v := 8) (lv' := [(4, .int 8), (5, .null), (3, .int 16), (2, .ref xq), (0, .ref xo), (1, .int td)]) hx hb dX6_endDay_54 hl (k := 1) rfl (by decide) (by decide) rfl (fun ls hl => ?_)
  refine lv_goto (tgt := 11) hx hb dX6_endDay_57 (by decide) ?_
  refine lv_iload hx hb dX6_endDay_11 (lv_at hl 0 rfl) ?_
  refine lv_iload_n hx hb dX6_endDay_13 rfl (lv_at hl 2 rfl) ?_
  refine lv_icmp_ge (tgt := 60) hx hb dX6_endDay_14 (by decide) (fun cc => absurd cc (by decide)) (fun _ => ?_)
  refine lv_aload_n hx hb dX6_endDay_17 rfl (lv_at hl 3 rfl) ?_
  refine lv_iload hx hb dX6_endDay_18 (lv_at hl 0 rfl) ?_
  refine va_aldq (D := D) (cl := vwCl) hx hb hK hP 1 0 rfl rfl (vp_in_nI (n := 8) (N := 16) (by decide) (by decide)) dX6_endDay_20 ?_
  refine W.eq (g2 := F0 m 21 ls [.null]) rfl ?_
  refine lv_astoreN (lv' := [(5, .null), (4, .int 8), (3, .int 16), (2, .ref xq), (0, .ref xo), (1, .int td)]) hx hb dX6_endDay_21 hl (by decide) rfl (fun ls hl => ?_)
  refine lv_aloadN hx hb dX6_endDay_23 (lv_at hl 0 rfl) ?_
  refine lv_ifnullN (tgt := 54) hx hb dX6_endDay_25 (by decide) ?_
  obtain ⟨x_52, ex_52⟩ : ∃ y : Int32, y = 8 + 1 := ⟨_, rfl⟩
  have ex_52 : x_52 = 9 := ex_52.trans (by decide)
  subst ex_52
  refine lv_iinc (v := 9) (lv' := [(4, .int 9), (5, .null), (3, .int 16), (2, .ref xq), (0, .ref xo), (1, .int td)]) hx hb dX6_endDay_54 hl (k := 1) rfl (by decide) (by decide) rfl (fun ls hl => ?_)
  refine lv_goto (tgt := 11) hx hb dX6_endDay_57 (by decide) ?_
  refine lv_iload hx hb dX6_endDay_11 (lv_at hl 0 rfl) ?_
  refine lv_iload_n hx hb dX6_endDay_13 rfl (lv_at hl 2 rfl) ?_
  refine lv_icmp_ge (tgt := 60) hx hb dX6_endDay_14 (by decide) (fun cc => absurd cc (by decide)) (fun _ => ?_)
  refine lv_aload_n hx hb dX6_endDay_17 rfl (lv_at hl 3 rfl) ?_
  refine lv_iload hx hb dX6_endDay_18 (lv_at hl 0 rfl) ?_
  refine va_aldq (D := D) (cl := vwCl) hx hb hK hP 1 0 rfl rfl (vp_in_nI (n := 9) (N := 16) (by decide) (by decide)) dX6_endDay_20 ?_
  refine W.eq (g2 := F0 m 21 ls [.null]) rfl ?_
  refine lv_astoreN (lv' := [(5, .null), (4, .int 9), (3, .int 16), (2, .ref xq), (0, .ref xo), (1, .int td)]) hx hb dX6_endDay_21 hl (by decide) rfl (fun ls hl => ?_)
  refine lv_aloadN hx hb dX6_endDay_23 (lv_at hl 0 rfl) ?_
  refine lv_ifnullN (tgt := 54) hx hb dX6_endDay_25 (by decide) ?_
  obtain ⟨x_53, ex_53⟩ : ∃ y : Int32, y = 9 + 1 := ⟨_, rfl⟩
  have ex_53 : x_53 = 10 := ex_53.trans (by decide)
  subst ex_53
  refine lv_iinc (v := 10) (lv' := [(4, .int 10), (5, .null), (3, .int 16), (2, .ref xq), (0, .ref xo), (1, .int td)]) hx hb dX6_endDay_54 hl (k := 1) rfl (by decide) (by decide) rfl (fun ls hl => ?_)
  refine lv_goto (tgt := 11) hx hb dX6_endDay_57 (by decide) ?_
  refine lv_iload hx hb dX6_endDay_11 (lv_at hl 0 rfl) ?_
  refine lv_iload_n hx hb dX6_endDay_13 rfl (lv_at hl 2 rfl) ?_
  refine lv_icmp_ge (tgt := 60) hx hb dX6_endDay_14 (by decide) (fun cc => absurd cc (by decide)) (fun _ => ?_)
  refine lv_aload_n hx hb dX6_endDay_17 rfl (lv_at hl 3 rfl) ?_
  refine lv_iload hx hb dX6_endDay_18 (lv_at hl 0 rfl) ?_
  refine va_aldq (D := D) (cl := vwCl) hx hb hK hP 1 0 rfl rfl (vp_in_nI (n := 10) (N := 16) (by decide) (by decide)) dX6_endDay_20 ?_
  refine W.eq (g2 := F0 m 21 ls [.null]) rfl ?_
  refine lv_astoreN (lv' := [(5, .null), (4, .int 10), (3, .int 16), (2, .ref xq), (0, .ref xo), (1, .int td)]) hx hb dX6_endDay_21 hl (by decide) rfl (fun ls hl => ?_)
  refine lv_aloadN hx hb dX6_endDay_23 (lv_at hl 0 rfl) ?_
  refine lv_ifnullN (tgt := 54) hx hb dX6_endDay_25 (by decide) ?_
  obtain ⟨x_54, ex_54⟩ : ∃ y : Int32, y = 10 + 1 := ⟨_, rfl⟩
  have ex_54 : x_54 = 11 := ex_54.trans (by decide)
  subst ex_54
  refine lv_iinc (v := 11) (lv' := [(4, .int 11), (5, .null), (3, .int 16), (2, .ref xq), (0, .ref xo), (1, .int td)]) hx hb dX6_endDay_54 hl (k := 1) rfl (by decide) (by decide) rfl (fun ls hl => ?_)
  refine lv_goto (tgt := 11) hx hb dX6_endDay_57 (by decide) ?_
  refine lv_iload hx hb dX6_endDay_11 (lv_at hl 0 rfl) ?_
  refine lv_iload_n hx hb dX6_endDay_13 rfl (lv_at hl 2 rfl) ?_
  refine lv_icmp_ge (tgt := 60) hx hb dX6_endDay_14 (by decide) (fun cc => absurd cc (by decide)) (fun _ => ?_)
  refine lv_aload_n hx hb dX6_endDay_17 rfl (lv_at hl 3 rfl) ?_
  refine lv_iload hx hb dX6_endDay_18 (lv_at hl 0 rfl) ?_
  refine va_aldq (D := D) (cl := vwCl) hx hb hK hP 1 0 rfl rfl (vp_in_nI (n := 11) (N := 16) (by decide) (by decide)) dX6_endDay_20 ?_
  refine W.eq (g2 := F0 m 21 ls [.null]) rfl ?_
  refine lv_astoreN (lv' := [(5, .null), (4, .int 11), (3, .int 16), (2, .ref xq), (0, .ref xo), (1, .int td)]) hx hb dX6_endDay_21 hl (by decide) rfl (fun ls hl => ?_)
  refine lv_aloadN hx hb dX6_endDay_23 (lv_at hl 0 rfl) ?_
  refine lv_ifnullN (tgt := 54) hx hb dX6_endDay_25 (by decide) ?_
  obtain ⟨x_55, ex_55⟩ : ∃ y : Int32, y = 11 + 1 := ⟨_, rfl⟩
  have ex_55 : x_55 = 12 := ex_55.trans (by decide)
  subst ex_55
  refine lv_iinc (v := 12) (lv' := [(4, .int 12), (5, .null), (3, .int 16), (2, .ref xq), (0, .ref xo), (1, .int td)]) hx hb dX6_endDay_54 hl (k := 1) rfl (by decide) (by decide) rfl (fun ls hl => ?_)
  refine lv_goto (tgt := 11) hx hb dX6_endDay_57 (by decide) ?_
  refine lv_iload hx hb dX6_endDay_11 (lv_at hl 0 rfl) ?_
  refine lv_iload_n hx hb dX6_endDay_13 rfl (lv_at hl 2 rfl) ?_
  refine lv_icmp_ge (tgt := 60) hx hb dX6_endDay_14 (by decide) (fun cc => absurd cc (by decide)) (fun _ => ?_)
  refine lv_aload_n hx hb dX6_endDay_17 rfl (lv_at hl 3 rfl) ?_
  refine lv_iload hx hb dX6_endDay_18 (lv_at hl 0 rfl) ?_
  refine va_aldq (D := D) (cl := vwCl) hx hb hK hP 1 0 rfl rfl (vp_in_nI (n := 12) (N := 16) (by decide) (by decide)) dX6_endDay_20 ?_
  refine W.eq (g2 := F0 m 21 ls [.null]) rfl ?_
  refine lv_astoreN (lv' := [(5, .null), (4, .int 12), (3, .int 16), (2, .ref xq), (0, .ref xo), (1, .int td)]) hx hb dX6_endDay_21 hl (by decide) rfl (fun ls hl => ?_)
  refine lv_aloadN hx hb dX6_endDay_23 (lv_at hl 0 rfl) ?_
  refine lv_ifnullN (tgt := 54) hx hb dX6_endDay_25 (by decide) ?_
  obtain ⟨x_56, ex_56⟩ : ∃ y : Int32, y = 12 + 1 := ⟨_, rfl⟩
  have ex_56 : x_56 = 13 := ex_56.trans (by decide)
  subst ex_56
  refine lv_iinc (v := 13) (lv' := [(4, .int 13), (5, .null), (3, .int 16), (2, .ref xq), (0, .ref xo), (1, .int td)]) hx hb dX6_endDay_54 hl (k := 1) rfl (by decide) (by decide) rfl (fun ls hl => ?_)
  refine lv_goto (tgt := 11) hx hb dX6_endDay_57 (by decide) ?_
  refine lv_iload hx hb dX6_endDay_11 (lv_at hl 0 rfl) ?_
  refine lv_iload_n hx hb dX6_endDay_13 rfl (lv_at hl 2 rfl) ?_
  refine lv_icmp_ge (tgt := 60) hx hb dX6_endDay_14 (by decide) (fun cc => absurd cc (by decide)) (fun _ => ?_)
  refine lv_aload_n hx hb dX6_endDay_17 rfl (lv_at hl 3 rfl) ?_
  refine lv_iload hx hb dX6_endDay_18 (lv_at hl 0 rfl) ?_
  refine va_aldq (D := D) (cl := vwCl) hx hb hK hP 1 0 rfl rfl (vp_in_nI (n := 13) (N := 16) (by decide) (by decide)) dX6_endDay_20 ?_
  refine W.eq (g2 := F0 m 21 ls [.null]) rfl ?_
  refine lv_astoreN (lv' := [(5, .null), (4, .int 13), (3, .int 16), (2, .ref xq), (0, .ref xo), (1, .int td)]) hx hb dX6_endDay_21 hl (by decide) rfl (fun ls hl => ?_)
  refine lv_aloadN hx hb dX6_endDay_23 (lv_at hl 0 rfl) ?_
  refine lv_ifnullN (tgt := 54) hx hb dX6_endDay_25 (by decide) ?_
  obtain ⟨x_57, ex_57⟩ : ∃ y : Int32, y = 13 + 1 := ⟨_, rfl⟩
  have ex_57 : x_57 = 14 := ex_57.trans (by decide)
  subst ex_57
  refine lv_iinc (v := 14) (lv' := [(4, .int 14), (5, .null), (3, .int 16), (2, .ref xq), (0, .ref xo), (1, .int td)]) hx hb dX6_endDay_54 hl (k := 1) rfl (by decide) (by decide) rfl (fun ls hl => ?_)
  refine lv_goto (tgt := 11) hx hb dX6_endDay_57 (by decide) ?_
  refine lv_iload hx hb dX6_endDay_11 (lv_at hl 0 rfl) ?_
  refine lv_iload_n hx hb dX6_endDay_13 rfl (lv_at hl 2 rfl) ?_
  refine lv_icmp_ge (tgt := 60) hx hb dX6_endDay_14 (by decide) (fun cc => absurd cc (by decide)) (fun _ => ?_)
  refine lv_aload_n hx hb dX6_endDay_17 rfl (lv_at hl 3 rfl) ?_
  refine lv_iload hx hb dX6_endDay_18 (lv_at hl 0 rfl) ?_
  refine va_aldq (D := D) (cl := vwCl) hx hb hK hP 1 0 rfl rfl (vp_in_nI (n := 14) (N := 16) (by decide) (by decide)) dX6_endDay_20 ?_
  refine W.eq (g2 := F0 m 21 ls [.null]) rfl ?_
  refine lv_astoreN (lv' := [(5, .null), (4, .int 14), (3, .int 16), (2, .ref xq), (0, .ref xo), (1, .int td)]) hx hb dX6_endDay_21 hl (by decide) rfl (fun ls hl => ?_)
  refine lv_aloadN hx hb dX6_endDay_23 (lv_at hl 0 rfl) ?_
  refine lv_ifnullN (tgt := 54) hx hb dX6_endDay_25 (by decide) ?_
  obtain ⟨x_58, ex_58⟩ : ∃ y : Int32, y = 14 + 1 := ⟨_, rfl⟩
  have ex_58 : x_58 = 15 := ex_58.trans (by decide)
  subst ex_58
  refine lv_iinc (v := 15) (lv' := [(4, .int 15), (5, .null), (3, .int 16), (2, .ref xq), (0, .ref xo), (1, .int td)]) hx hb dX6_endDay_54 hl (k := 1) rfl (by decide) (by decide) rfl (fun ls hl => ?_)
  refine lv_goto (tgt := 11) hx hb dX6_endDay_57 (by decide) ?_
  refine lv_iload hx hb dX6_endDay_11 (lv_at hl 0 rfl) ?_
  refine lv_iload_n hx hb dX6_endDay_13 rfl (lv_at hl 2 rfl) ?_
  refine lv_icmp_ge (tgt := 60) hx hb dX6_endDay_14 (by decide) (fun cc => absurd cc (by decide)) (fun _ => ?_)
  refine lv_aload_n hx hb dX6_endDay_17 rfl (lv_at hl 3 rfl) ?_
  refine lv_iload hx hb dX6_endDay_18 (lv_at hl 0 rfl) ?_
  refine va_aldq (D := D) (cl := vwCl) hx hb hK hP 1 0 rfl rfl (vp_in_nI (n := 15) (N := 16) (by decide) (by decide)) dX6_endDay_20 ?_
  refine W.eq (g2 := F0 m 21 ls [.null]) rfl ?_
  refine lv_astoreN (lv' := [(5, .null), (4, .int 15), (3, .int 16), (2, .ref xq), (0, .ref xo), (1, .int td)]) hx hb dX6_endDay_21 hl (by decide) rfl (fun ls hl => ?_)
  refine lv_aloadN hx hb dX6_endDay_23 (lv_at hl 0 rfl) ?_
  refine lv_ifnullN (tgt := 54) hx hb dX6_endDay_25 (by decide) ?_
  obtain ⟨x_59, ex_59⟩ : ∃ y : Int32, y = 15 + 1 := ⟨_, rfl⟩
  have ex_59 : x_59 = 16 := ex_59.trans (by decide)
  subst ex_59
  refine lv_iinc (v := 16) (lv' := [(4, .int 16), (5, .null), (3, .int 16), (2, .ref xq), (0, .ref xo), (1, .int td)]) hx hb dX6_endDay_54 hl (k := 1) rfl (by decide) (by decide) rfl (fun ls hl => ?_)
  refine lv_goto (tgt := 11) hx hb dX6_endDay_57 (by decide) ?_
  refine lv_iload hx hb dX6_endDay_11 (lv_at hl 0 rfl) ?_
  refine lv_iload_n hx hb dX6_endDay_13 rfl (lv_at hl 2 rfl) ?_
  refine lv_icmp_ge (tgt := 60) hx hb dX6_endDay_14 (by decide) (fun _ => ?_) (fun cc => absurd (by decide) cc)
  exact W.vret hx hb hr (fun t ht hW => ⟨rfl, trivial, ht⟩) (fun q h => by cases h) dX6_endDay_60
theorem zgU_X6 : (u_ws RX6 TX6 16).all goodWord = true := by decide +kernel
theorem zgU_X4 : (u_ws RX4 TX4 2).all goodWord = true := by decide +kernel
theorem dX6_checkTeamRests_0 : decode cX6_checkTeamRests 0 = .ok (.aload_n 0, 1) := by decide +kernel
theorem dX6_checkTeamRests_1 : decode cX6_checkTeamRests 1 = .ok (.bipush 112, 2) := by decide +kernel
theorem dX6_checkTeamRests_3 : decode cX6_checkTeamRests 3 = .ok (.invokevirtual 274, 3) := by decide +kernel
theorem dX6_checkTeamRests_6 : decode cX6_checkTeamRests 6 = .ok (.ifCond .le 14, 3) := by decide +kernel
theorem dX6_checkTeamRests_20 : decode cX6_checkTeamRests 20 = .ok (.aload_n 0, 1) := by decide +kernel
theorem dX6_checkTeamRests_21 : decode cX6_checkTeamRests 21 = .ok (.getfield 40, 3) := by decide +kernel
theorem dX6_checkTeamRests_24 : decode cX6_checkTeamRests 24 = .ok (.invokevirtual 147, 3) := by decide +kernel
theorem dX6_checkTeamRests_27 : decode cX6_checkTeamRests 27 = .ok (.ifCond .ne 33, 3) := by decide +kernel
theorem dX6_checkTeamRests_30 : decode cX6_checkTeamRests 30 = .ok (.aload_n 0, 1) := by decide +kernel
theorem dX6_checkTeamRests_31 : decode cX6_checkTeamRests 31 = .ok (.getfield 44, 3) := by decide +kernel
theorem dX6_checkTeamRests_34 : decode cX6_checkTeamRests 34 = .ok (.invokevirtual 147, 3) := by decide +kernel
theorem dX6_checkTeamRests_37 : decode cX6_checkTeamRests 37 = .ok (.ifCond .ne 23, 3) := by decide +kernel
theorem dX6_checkTeamRests_40 : decode cX6_checkTeamRests 40 = .ok (.aload_n 0, 1) := by decide +kernel
theorem dX6_checkTeamRests_41 : decode cX6_checkTeamRests 41 = .ok (.getfield 47, 3) := by decide +kernel
theorem dX6_checkTeamRests_44 : decode cX6_checkTeamRests 44 = .ok (.invokevirtual 147, 3) := by decide +kernel
theorem dX6_checkTeamRests_47 : decode cX6_checkTeamRests 47 = .ok (.ifCond .ne 13, 3) := by decide +kernel
theorem dX6_checkTeamRests_50 : decode cX6_checkTeamRests 50 = .ok (.aload_n 0, 1) := by decide +kernel
theorem dX6_checkTeamRests_51 : decode cX6_checkTeamRests 51 = .ok (.getfield 50, 3) := by decide +kernel
theorem dX6_checkTeamRests_54 : decode cX6_checkTeamRests 54 = .ok (.invokevirtual 147, 3) := by decide +kernel
theorem dX6_checkTeamRests_57 : decode cX6_checkTeamRests 57 = .ok (.ifCond .eq 14, 3) := by decide +kernel
theorem dX6_checkTeamRests_71 : decode cX6_checkTeamRests 71 = .ok (.return_, 1) := by decide +kernel
def wzEX6_checkTeamRests : List Cond := [.code yX6_checkTeamRests cX6_checkTeamRests 1 none, .methodLink RX6 274 yX6_countOf, .instanceMethod yX6_countOf, .selects RX6 yX6_countOf yX6_countOf, .initialized RX6, .code yX6_countOf cX6_countOf 7 (some .int), .fieldLink RX6 30 "Gatherhouse" "pieces" "[LGatherhouse$Piece;", .fieldLink RX6 40 "Gatherhouse" "gatherer" "LGatherhouse$Role;", .code yX4_isBusy cX4_isBusy 1 (some .boolean), .fieldLink RX4 7 "Gatherhouse$Role" "busy" "I", .initialized RX4, .instanceMethod yX4_isBusy, .selects RX4 yX4_isBusy yX4_isBusy, .fieldLink RX6 44 "Gatherhouse" "servitor" "LGatherhouse$Role;", .fieldLink RX6 47 "Gatherhouse" "gaffer" "LGatherhouse$Role;", .fieldLink RX6 50 "Gatherhouse" "boy" "LGatherhouse$Role;"]
def wzX6_checkTeamRests : List Cond := wzEX6_checkTeamRests ++ (u_ws RX6 TX6 16 ++ (u_ws RX4 TX4 2))
theorem zgEX6_checkTeamRests : wzEX6_checkTeamRests.all goodWord = true := by decide +kernel
theorem zuX6_checkTeamRests_X6 : ∀ w ∈ u_ws RX6 TX6 16, w ∈ wzX6_checkTeamRests := (fun _ h => (List.mem_append_right _ (List.mem_append_left _ h)))
theorem zuX6_checkTeamRests_X4 : ∀ w ∈ u_ws RX4 TX4 2, w ∈ wzX6_checkTeamRests := (fun _ h => (List.mem_append_right _ (List.mem_append_right _ h)))
theorem gzX6_checkTeamRests_X6_countOf_274 : GoodIn wzX6_checkTeamRests (wsV RX6 274 RX6 yX6_countOf wzX6_countOf) := (goodIn_app (z_lift (goodIn_r _ [1, 2, 3, 4] rfl (by decide +kernel))) (goodIn_app (z_lift (goodIn_r wzEX6_countOf [5, 6] rfl zgEX6_countOf)) (goodIn_sub (fun _ h => (List.mem_append_right _ (List.mem_append_left _ h))) zgU_X6)))
theorem gzX6_checkTeamRests_X4_isBusy_147 : GoodIn wzX6_checkTeamRests (wzX4_isBusy) := (goodIn_app (z_lift (goodIn_r wzEX4_isBusy [8, 9] rfl zgEX4_isBusy)) (goodIn_sub (fun _ h => (List.mem_append_right _ (List.mem_append_right _ h))) zgU_X4))
set_option maxHeartbeats 4000000 in
set_option maxRecDepth 100000 in
theorem zc_X6_checkTeamRests (l : Launch) (D : va_G) (G : Nat × Nat × Nat) (xo : Nat) (xg : Nat) (xp : Nat) (xq : Nat) (r1 : Nat) (r2 : Nat) (r3 : Nat) (r4 : Nat) (se : Nat) (ts : Int32) (hq : Int32) (cq : ClassId) : Met l yX6_checkTeamRests wzX6_checkTeamRests ({ frames := 1, cells := 0, slots := 0, locals := 26 }) (va_Pc [.ref xo] (p_RO D G [(cq, .object "Gatherhouse$Piece")] [(xo, .inr (11, [.ref xg, .int 0, .ref xp, .int 0, .ref xq, .int 0, .ref r1, .ref r2, .ref r3, .ref r4, .ref se, .int ts, .int hq, .int 40, .int 0, .int 0])), (xq, .inl (cq, 16, .inr (.inr (.inr (.inr (fun _ => none)))))), (r1, .inr (9, [.int 0, .int 0])), (r2, .inr (9, [.int 0, .int 0])), (r3, .inr (9, [.int 0, .int 0])), (r4, .inr (9, [.int 0, .int 0]))])) (va_Sv (fun _ => True)) 0 0 (fun _ => False) := by
  refine Met.ofW (cc := cX6_checkTeamRests) (maxL := 1) (ret := none) (by decide) rfl ?_
  intro p e s m args below meth c s₁ B hml hv
  obtain ⟨rfl, hP, hK, hT⟩ := hv
  have hx := B.exec
  have hb := B.bytes
  have hr := B.returns
  have hts := atoms_spec (ws := wzX6_checkTeamRests) B.pre
  have hown : s.vm.findClass RX6 = some m.cls := findClass_of_methodNamed B.named
  have hlocks := B.notSynchronized
  have hl := lv_entry ([.ref xo]) (n := 1) (Nat.le_of_ble_eq_true rfl)
  rw [lg_entry_eq]
  generalize (lg_sl ([.ref xo]) ++ List.replicate (1 - (lg_sl ([.ref xo])).length) Slot.unset).toArray = ls at hl ⊢
  have hl : lv_has ls 1 [(0, .ref xo)] := hl
  refine lv_aload_n hx hb dX6_checkTeamRests_0 rfl (lv_at hl 0 rfl) ?_
  refine lv_bipush (v := 112) hx hb dX6_checkTeamRests_1 (by decide) ?_
  refine vp_callSi (va_runV (As := [.int 112]) (rest := []) ⟨hx, hb, hml, hown, hts⟩ (zc_X6_countOf l D G xo xg xp xq r1 r2 r3 r4 se ts hq cq 112) (cwV 1 hts gzX6_checkTeamRests_X6_countOf_274 rfl rfl rfl (by decide +kernel) ⟨(Nat.le_of_ble_eq_true rfl), (Nat.le_of_ble_eq_true rfl)⟩) ⟨p_RO_blind, va_recv hK hP (ci := 11) (q0 := 0) rfl rfl, (p_RO_at (tc := [(cq, .object "Gatherhouse$Piece")]) (wc := [(xo, .inr (11, [.ref xg, .int 0, .ref xp, .int 0, .ref xq, .int 0, .ref r1, .ref r2, .ref r3, .ref r4, .ref se, .int ts, .int hq, .int 40, .int 0, .int 0])), (xq, .inl (cq, 16, .inr (.inr (.inr (.inr (fun _ => none))))))]) hP hK hT [0, 1] [0] rfl rfl [.ref xo, .int 112])⟩ rfl rfl hl.1 rfl (lv_room (Nat.le_of_ble_eq_true rfl)) dX6_checkTeamRests_3 ⟨(Nat.le_of_ble_eq_true rfl), (Nat.le_of_ble_eq_true rfl)⟩).run (fun r_60 w_61 => ?_)
  obtain rfl := w_61
  refine lv_if_le (tgt := 20) hx hb dX6_checkTeamRests_6 (by decide) (fun _ => ?_) (fun cc => absurd (by decide) cc)
  refine lv_aload_n hx hb dX6_checkTeamRests_20 rfl (lv_at hl 0 rfl) ?_
  refine va_get (D := D) (cl := vwCl) (ci := 11) (v := .ref r1) (C := RX6) (T := TX6) (N := 16) hx hb hts zuX6_checkTeamRests_X6 hown hK hP 0 rfl rfl 6 (by decide) (hts (.fieldLink RX6 40 "Gatherhouse" "gatherer" "LGatherhouse$Role;") (by decide +kernel)) (fun _ h9 => h9) rfl dX6_checkTeamRests_21 ?_
  refine vp_callSi (va_runVN (As := []) (rest := []) ⟨hx, hb, hml, hown, hts⟩ (zc_X4_isBusy l D G r1 0) ⟨va_cnB 0 hts gzX6_checkTeamRests_X4_isBusy_147 rfl rfl rfl (hT.1 ("Gatherhouse", 147, ⟨"Gatherhouse$Role", "isBusy", "()Z"⟩, "Gatherhouse") (by decide +kernel)) (hts (.initialized RX4) (by decide +kernel)) (by decide +kernel) ⟨(Nat.le_of_ble_eq_true rfl), (Nat.le_of_ble_eq_true rfl)⟩, (hts (.instanceMethod yX4_isBusy) (by decide +kernel)), (hts (.selects RX4 yX4_isBusy yX4_isBusy) (by decide +kernel))⟩ ⟨p_RO_blind, va_recv hK hP (ci := 9) (q0 := 2) rfl rfl, (p_RO_at (tc := []) (wc := [(r1, .inr (9, [.int 0, .int 0]))]) hP hK hT [2] [] rfl rfl [.ref r1])⟩ rfl rfl hl.1 rfl (lv_room (Nat.le_of_ble_eq_true rfl)) dX6_checkTeamRests_24 ⟨(Nat.le_of_ble_eq_true rfl), (Nat.le_of_ble_eq_true rfl)⟩).run (fun r_62 w_63 => ?_)
  obtain rfl := w_63
  refine lv_if_ne (tgt := 60) hx hb dX6_checkTeamRests_27 (by decide) (fun cc => absurd (by decide) cc) (fun _ => ?_)
  refine lv_aload_n hx hb dX6_checkTeamRests_30 rfl (lv_at hl 0 rfl) ?_
  refine va_get (D := D) (cl := vwCl) (ci := 11) (v := .ref r2) (C := RX6) (T := TX6) (N := 16) hx hb hts zuX6_checkTeamRests_X6 hown hK hP 0 rfl rfl 7 (by decide) (hts (.fieldLink RX6 44 "Gatherhouse" "servitor" "LGatherhouse$Role;") (by decide +kernel)) (fun _ h9 => h9) rfl dX6_checkTeamRests_31 ?_
  refine vp_callSi (va_runVN (As := []) (rest := []) ⟨hx, hb, hml, hown, hts⟩ (zc_X4_isBusy l D G r2 0) ⟨va_cnB 0 hts gzX6_checkTeamRests_X4_isBusy_147 rfl rfl rfl (hT.1 ("Gatherhouse", 147, ⟨"Gatherhouse$Role", "isBusy", "()Z"⟩, "Gatherhouse") (by decide +kernel)) (hts (.initialized RX4) (by decide +kernel)) (by decide +kernel) ⟨(Nat.le_of_ble_eq_true rfl), (Nat.le_of_ble_eq_true rfl)⟩, (hts (.instanceMethod yX4_isBusy) (by decide +kernel)), (hts (.selects RX4 yX4_isBusy yX4_isBusy) (by decide +kernel))⟩ ⟨p_RO_blind, va_recv hK hP (ci := 9) (q0 := 3) rfl rfl, (p_RO_at (tc := []) (wc := [(r2, .inr (9, [.int 0, .int 0]))]) hP hK hT [3] [] rfl rfl [.ref r2])⟩ rfl rfl hl.1 rfl (lv_room (Nat.le_of_ble_eq_true rfl)) dX6_checkTeamRests_34 ⟨(Nat.le_of_ble_eq_true rfl), (Nat.le_of_ble_eq_true rfl)⟩).run (fun r_64 w_65 => ?_)
  obtain rfl := w_65
  refine lv_if_ne (tgt := 60) hx hb dX6_checkTeamRests_37 (by decide) (fun cc => absurd (by decide) cc) (fun _ => ?_)
  refine lv_aload_n hx hb dX6_checkTeamRests_40 rfl (lv_at hl 0 rfl) ?_
  refine va_get (D := D) (cl := vwCl) (ci := 11) (v := .ref r3) (C := RX6) (T := TX6) (N := 16) hx hb hts zuX6_checkTeamRests_X6 hown hK hP 0 rfl rfl 8 (by decide) (hts (.fieldLink RX6 47 "Gatherhouse" "gaffer" "LGatherhouse$Role;") (by decide +kernel)) (fun _ h9 => h9) rfl dX6_checkTeamRests_41 ?_
  refine vp_callSi (va_runVN (As := []) (rest := []) ⟨hx, hb, hml, hown, hts⟩ (zc_X4_isBusy l D G r3 0) ⟨va_cnB 0 hts gzX6_checkTeamRests_X4_isBusy_147 rfl rfl rfl (hT.1 ("Gatherhouse", 147, ⟨"Gatherhouse$Role", "isBusy", "()Z"⟩, "Gatherhouse") (by decide +kernel)) (hts (.initialized RX4) (by decide +kernel)) (by decide +kernel) ⟨(Nat.le_of_ble_eq_true rfl), (Nat.le_of_ble_eq_true rfl)⟩, (hts (.instanceMethod yX4_isBusy) (by decide +kernel)), (hts (.selects RX4 yX4_isBusy yX4_isBusy) (by decide +kernel))⟩ ⟨p_RO_blind, va_recv hK hP (ci := 9) (q0 := 4) rfl rfl, (p_RO_at (tc := []) (wc := [(r3, .inr (9, [.int 0, .int 0]))]) hP hK hT [4] [] rfl rfl [.ref r3])⟩ rfl rfl hl.1 rfl (lv_room (Nat.le_of_ble_eq_true rfl)) dX6_checkTeamRests_44 ⟨(Nat.le_of_ble_eq_true rfl), (Nat.le_of_ble_eq_true rfl)⟩).run (fun r_66 w_67 => ?_)
  obtain rfl := w_67
  refine lv_if_ne (tgt := 60) hx hb dX6_checkTeamRests_47 (by decide) (fun cc => absurd (by decide) cc) (fun _ => ?_)
  refine lv_aload_n hx hb dX6_checkTeamRests_50 rfl (lv_at hl 0 rfl) ?_
  refine va_get (D := D) (cl := vwCl) (ci := 11) (v := .ref r4) (C := RX6) (T := TX6) (N := 16) hx hb hts zuX6_checkTeamRests_X6 hown hK hP 0 rfl rfl 9 (by decide) (hts (.fieldLink RX6 50 "Gatherhouse" "boy" "LGatherhouse$Role;") (by decide +kernel)) (fun _ h9 => h9) rfl dX6_checkTeamRests_51 ?_
  refine vp_callSi (va_runVN (As := []) (rest := []) ⟨hx, hb, hml, hown, hts⟩ (zc_X4_isBusy l D G r4 0) ⟨va_cnB 0 hts gzX6_checkTeamRests_X4_isBusy_147 rfl rfl rfl (hT.1 ("Gatherhouse", 147, ⟨"Gatherhouse$Role", "isBusy", "()Z"⟩, "Gatherhouse") (by decide +kernel)) (hts (.initialized RX4) (by decide +kernel)) (by decide +kernel) ⟨(Nat.le_of_ble_eq_true rfl), (Nat.le_of_ble_eq_true rfl)⟩, (hts (.instanceMethod yX4_isBusy) (by decide +kernel)), (hts (.selects RX4 yX4_isBusy yX4_isBusy) (by decide +kernel))⟩ ⟨p_RO_blind, va_recv hK hP (ci := 9) (q0 := 5) rfl rfl, (p_RO_at (tc := []) (wc := [(r4, .inr (9, [.int 0, .int 0]))]) hP hK hT [5] [] rfl rfl [.ref r4])⟩ rfl rfl hl.1 rfl (lv_room (Nat.le_of_ble_eq_true rfl)) dX6_checkTeamRests_54 ⟨(Nat.le_of_ble_eq_true rfl), (Nat.le_of_ble_eq_true rfl)⟩).run (fun r_68 w_69 => ?_)
  obtain rfl := w_69
  refine lv_if_eq (tgt := 71) hx hb dX6_checkTeamRests_57 (by decide) (fun _ => ?_) (fun cc => absurd (by decide) cc)
  exact W.vret hx hb hr (fun t ht hW => ⟨rfl, trivial, ht⟩) (fun q h => by cases h) dX6_checkTeamRests_71
theorem dX6_passHour_0 : decode cX6_passHour 0 = .ok (.aload_n 0, 1) := by decide +kernel
theorem dX6_passHour_1 : decode cX6_passHour 1 = .ok (.getfield 63, 3) := by decide +kernel
theorem dX6_passHour_4 : decode cX6_passHour 4 = .ok (.bipush 24, 2) := by decide +kernel
theorem dX6_passHour_6 : decode cX6_passHour 6 = .ok (.idiv, 1) := by decide +kernel
theorem dX6_passHour_7 : decode cX6_passHour 7 = .ok (.istore_n 1, 1) := by decide +kernel
theorem dX6_passHour_8 : decode cX6_passHour 8 = .ok (.aload_n 0, 1) := by decide +kernel
theorem dX6_passHour_9 : decode cX6_passHour 9 = .ok (.dup, 1) := by decide +kernel
theorem dX6_passHour_10 : decode cX6_passHour 10 = .ok (.getfield 63, 3) := by decide +kernel
theorem dX6_passHour_13 : decode cX6_passHour 13 = .ok (.iconst 1, 1) := by decide +kernel
theorem dX6_passHour_14 : decode cX6_passHour 14 = .ok (.iadd, 1) := by decide +kernel
theorem dX6_passHour_15 : decode cX6_passHour 15 = .ok (.putfield 63, 3) := by decide +kernel
theorem dX6_passHour_18 : decode cX6_passHour 18 = .ok (.aload_n 0, 1) := by decide +kernel
theorem dX6_passHour_19 : decode cX6_passHour 19 = .ok (.getfield 21, 3) := by decide +kernel
theorem dX6_passHour_22 : decode cX6_passHour 22 = .ok (.astore_n 2, 1) := by decide +kernel
theorem dX6_passHour_23 : decode cX6_passHour 23 = .ok (.aload_n 2, 1) := by decide +kernel
theorem dX6_passHour_24 : decode cX6_passHour 24 = .ok (.arraylength, 1) := by decide +kernel
theorem dX6_passHour_25 : decode cX6_passHour 25 = .ok (.istore_n 3, 1) := by decide +kernel
theorem dX6_passHour_26 : decode cX6_passHour 26 = .ok (.iconst 0, 1) := by decide +kernel
theorem dX6_passHour_27 : decode cX6_passHour 27 = .ok (.istore 4, 2) := by decide +kernel
theorem dX6_passHour_29 : decode cX6_passHour 29 = .ok (.iload 4, 2) := by decide +kernel
theorem dX6_passHour_31 : decode cX6_passHour 31 = .ok (.iload_n 3, 1) := by decide +kernel
theorem dX6_passHour_32 : decode cX6_passHour 32 = .ok (.if_icmp .ge 25, 3) := by decide +kernel
theorem dX6_passHour_35 : decode cX6_passHour 35 = .ok (.aload_n 2, 1) := by decide +kernel
theorem dX6_passHour_36 : decode cX6_passHour 36 = .ok (.iload 4, 2) := by decide +kernel
theorem dX6_passHour_38 : decode cX6_passHour 38 = .ok (.aaload, 1) := by decide +kernel
theorem dX6_passHour_39 : decode cX6_passHour 39 = .ok (.astore 5, 2) := by decide +kernel
theorem dX6_passHour_41 : decode cX6_passHour 41 = .ok (.aload 5, 2) := by decide +kernel
theorem dX6_passHour_43 : decode cX6_passHour 43 = .ok (.ifnull 8, 3) := by decide +kernel
theorem dX6_passHour_51 : decode cX6_passHour 51 = .ok (.iinc 4 1, 3) := by decide +kernel
theorem dX6_passHour_54 : decode cX6_passHour 54 = .ok (.goto (-25), 3) := by decide +kernel
theorem dX6_passHour_57 : decode cX6_passHour 57 = .ok (.iconst 0, 1) := by decide +kernel
theorem dX6_passHour_58 : decode cX6_passHour 58 = .ok (.istore_n 2, 1) := by decide +kernel
theorem dX6_passHour_59 : decode cX6_passHour 59 = .ok (.aload_n 0, 1) := by decide +kernel
theorem dX6_passHour_60 : decode cX6_passHour 60 = .ok (.getfield 30, 3) := by decide +kernel
theorem dX6_passHour_63 : decode cX6_passHour 63 = .ok (.astore_n 3, 1) := by decide +kernel
theorem dX6_passHour_64 : decode cX6_passHour 64 = .ok (.aload_n 3, 1) := by decide +kernel
theorem dX6_passHour_65 : decode cX6_passHour 65 = .ok (.arraylength, 1) := by decide +kernel
theorem dX6_passHour_66 : decode cX6_passHour 66 = .ok (.istore 4, 2) := by decide +kernel
theorem dX6_passHour_68 : decode cX6_passHour 68 = .ok (.iconst 0, 1) := by decide +kernel
theorem dX6_passHour_69 : decode cX6_passHour 69 = .ok (.istore 5, 2) := by decide +kernel
theorem dX6_passHour_71 : decode cX6_passHour 71 = .ok (.iload 5, 2) := by decide +kernel
theorem dX6_passHour_73 : decode cX6_passHour 73 = .ok (.iload 4, 2) := by decide +kernel
theorem dX6_passHour_75 : decode cX6_passHour 75 = .ok (.if_icmp .ge 56, 3) := by decide +kernel
theorem dX6_passHour_78 : decode cX6_passHour 78 = .ok (.aload_n 3, 1) := by decide +kernel
theorem dX6_passHour_79 : decode cX6_passHour 79 = .ok (.iload 5, 2) := by decide +kernel
theorem dX6_passHour_81 : decode cX6_passHour 81 = .ok (.aaload, 1) := by decide +kernel
theorem dX6_passHour_82 : decode cX6_passHour 82 = .ok (.astore 6, 2) := by decide +kernel
theorem dX6_passHour_84 : decode cX6_passHour 84 = .ok (.aload 6, 2) := by decide +kernel
theorem dX6_passHour_86 : decode cX6_passHour 86 = .ok (.ifnull 39, 3) := by decide +kernel
theorem dX6_passHour_125 : decode cX6_passHour 125 = .ok (.iinc 5 1, 3) := by decide +kernel
theorem dX6_passHour_128 : decode cX6_passHour 128 = .ok (.goto (-57), 3) := by decide +kernel
theorem dX6_passHour_131 : decode cX6_passHour 131 = .ok (.aload_n 0, 1) := by decide +kernel
theorem dX6_passHour_132 : decode cX6_passHour 132 = .ok (.getfield 63, 3) := by decide +kernel
theorem dX6_passHour_135 : decode cX6_passHour 135 = .ok (.bipush 24, 2) := by decide +kernel
theorem dX6_passHour_137 : decode cX6_passHour 137 = .ok (.irem, 1) := by decide +kernel
theorem dX6_passHour_138 : decode cX6_passHour 138 = .ok (.ifCond .ne 8, 3) := by decide +kernel
theorem dX6_passHour_146 : decode cX6_passHour 146 = .ok (.iload_n 2, 1) := by decide +kernel
theorem dX6_passHour_147 : decode cX6_passHour 147 = .ok (.ireturn, 1) := by decide +kernel
theorem dX6_passHour_141 : decode cX6_passHour 141 = .ok (.aload_n 0, 1) := by decide +kernel
theorem dX6_passHour_142 : decode cX6_passHour 142 = .ok (.iload_n 1, 1) := by decide +kernel
theorem dX6_passHour_143 : decode cX6_passHour 143 = .ok (.invokevirtual 405, 3) := by decide +kernel
def wzEX6_passHour : List Cond := [.code yX6_passHour cX6_passHour 7 (some .int), .fieldLink RX6 63 "Gatherhouse" "hoursGone" "I", .fieldLink RX6 21 "Gatherhouse" "pots" "[LGatherhouse$Pot;", .fieldLink RX6 30 "Gatherhouse" "pieces" "[LGatherhouse$Piece;", .methodLink RX6 405 yX6_endDay, .instanceMethod yX6_endDay, .selects RX6 yX6_endDay yX6_endDay, .initialized RX6, .code yX6_endDay cX6_endDay 6 none]
def wzX6_passHour : List Cond := wzEX6_passHour ++ (u_ws RX6 TX6 16)
theorem zgEX6_passHour : wzEX6_passHour.all goodWord = true := by decide +kernel
theorem zuX6_passHour_X6 : ∀ w ∈ u_ws RX6 TX6 16, w ∈ wzX6_passHour := (fun _ h => (List.mem_append_right _ h))
theorem gzX6_passHour_X6_endDay_405 : GoodIn wzX6_passHour (wsV RX6 405 RX6 yX6_endDay wzX6_endDay) := (goodIn_app (z_lift (goodIn_r _ [4, 5, 6, 7] rfl (by decide +kernel))) (goodIn_app (z_lift (goodIn_r wzEX6_endDay [8, 3] rfl zgEX6_endDay)) (goodIn_sub (fun _ h => (List.mem_append_right _ h)) zgU_X6)))
set_option maxHeartbeats 4000000 in
set_option maxRecDepth 100000 in
theorem zc_X6_passHour (l : Launch) (D : va_G) (G : Nat × Nat × Nat) (xo : Nat) (xg : Nat) (xp : Nat) (xq : Nat) (r1 : Nat) (r2 : Nat) (r3 : Nat) (r4 : Nat) (se : Nat) (ts : Int32) (hq : Int32) (cp : ClassId) (cq : ClassId) (sz : Nat) : Met l yX6_passHour wzX6_passHour ({ frames := 1, cells := 0, slots := 0, locals := 25 }) (va_Pc [.ref xo] (p_RW D G [(cp, .object "Gatherhouse$Pot"), (cq, .object "Gatherhouse$Piece")] [(xo, .inr (11, [.ref xg, .int 0, .ref xp, .int 0, .ref xq, .int 0, .ref r1, .ref r2, .ref r3, .ref r4, .ref se, .int ts, .int hq, .int 40, .int 0, .int 0])), (xp, .inl (cp, 4, .inr (.inr (.inr (.inr (fun _ => none)))))), (xq, .inl (cq, 16, .inr (.inr (.inr (.inr (fun _ => none))))))] sz)) (va_Qi (fun (r : Int32) (u : Unit) => r = 0) (fun (u : Unit) (t : State) => q_RW D [(cp, .object "Gatherhouse$Pot"), (cq, .object "Gatherhouse$Piece")] [(xo, .inr (11, [.ref xg, .int 0, .ref xp, .int 0, .ref xq, .int 0, .ref r1, .ref r2, .ref r3, .ref r4, .ref se, .int ts, .int (hq + 1), .int 40, .int 0, .int 0])), (xp, .inl (cp, 4, .inr (.inr (.inr (.inr (fun _ => none)))))), (xq, .inl (cq, 16, .inr (.inr (.inr (.inr (fun _ => none))))))] (va_A [(xo, .inr (11, [.ref xg, .int 0, .ref xp, .int 0, .ref xq, .int 0, .ref r1, .ref r2, .ref r3, .ref r4, .ref se, .int ts, .int hq, .int 40, .int 0, .int 0])), (xp, .inl (cp, 4, .inr (.inr (.inr (.inr (fun _ => none)))))), (xq, .inl (cq, 16, .inr (.inr (.inr (.inr (fun _ => none))))))] sz) t) (va_A [(xo, .inr (11, [.ref xg, .int 0, .ref xp, .int 0, .ref xq, .int 0, .ref r1, .ref r2, .ref r3, .ref r4, .ref se, .int ts, .int hq, .int 40, .int 0, .int 0])), (xp, .inl (cp, 4, .inr (.inr (.inr (.inr (fun _ => none)))))), (xq, .inl (cq, 16, .inr (.inr (.inr (.inr (fun _ => none))))))] sz)) 0 0 (va_A [(xo, .inr (11, [.ref xg, .int 0, .ref xp, .int 0, .ref xq, .int 0, .ref r1, .ref r2, .ref r3, .ref r4, .ref se, .int ts, .int hq, .int 40, .int 0, .int 0])), (xp, .inl (cp, 4, .inr (.inr (.inr (.inr (fun _ => none)))))), (xq, .inl (cq, 16, .inr (.inr (.inr (.inr (fun _ => none))))))] sz) := by
  refine Met.ofW (cc := cX6_passHour) (maxL := 7) (ret := (some .int)) (by decide) rfl ?_
  intro p e s m args below meth c s₁ B hml hv
  obtain ⟨rfl, hsz, hP, hK, hD0, hT, hZ⟩ := hv
  have hx := B.exec
  have hb := B.bytes
  have hr := B.returns
  have hts := atoms_spec (ws := wzX6_passHour) B.pre
  have hown : s.vm.findClass RX6 = some m.cls := findClass_of_methodNamed B.named
  have hlocks := B.notSynchronized
  subst hsz
  have hD := hD0.self (sz := s.heap.size)
  generalize hAe : va_A [(xo, .inr (11, [.ref xg, .int 0, .ref xp, .int 0, .ref xq, .int 0, .ref r1, .ref r2, .ref r3, .ref r4, .ref se, .int ts, .int hq, .int 40, .int 0, .int 0])), (xp, .inl (cp, 4, .inr (.inr (.inr (.inr (fun _ => none)))))), (xq, .inl (cq, 16, .inr (.inr (.inr (.inr (fun _ => none))))))] s.heap.size = A at hD hZ ⊢
  have hA : ∀ q : Nat, s.heap.size ≤ q → A q := fun q h => by rw [← hAe]; exact Or.inr h
  have hS : va_S A s.heap s.heap [] := va_S.rf
  have hl := lv_entry ([.ref xo]) (n := 7) (Nat.le_of_ble_eq_true rfl)
  rw [lg_entry_eq]
  generalize (lg_sl ([.ref xo]) ++ List.replicate (7 - (lg_sl ([.ref xo])).length) Slot.unset).toArray = ls at hl ⊢
  have hl : lv_has ls 7 [(0, .ref xo)] := hl
  refine lv_aload_n hx hb dX6_passHour_0 rfl (lv_at hl 0 rfl) ?_
  refine va_get (D := D) (cl := vwCl) (ci := 11) (v := .int hq) (C := RX6) (T := TX6) (N := 16) hx hb hts zuX6_passHour_X6 hown hK hP 0 rfl rfl 12 (by decide) (hts (.fieldLink RX6 63 "Gatherhouse" "hoursGone" "I") (by decide +kernel)) (fun _ h9 => h9) rfl dX6_passHour_1 ?_
  refine lv_bipush (v := 24) hx hb dX6_passHour_4 (by decide) ?_
  refine lv_idiv hx hb dX6_passHour_6 (by decide) ?_
  refine lv_istore_n (lv' := [(1, .int (hq / 24)), (0, .ref xo)]) hx hb dX6_passHour_7 rfl hl (by decide) rfl (fun ls hl => ?_)
  refine lv_aload_n hx hb dX6_passHour_8 rfl (lv_at hl 1 rfl) ?_
  refine lv_dup hx hb dX6_passHour_9 rfl ?_
  refine va_get (D := D) (cl := vwCl) (ci := 11) (v := .int hq) (C := RX6) (T := TX6) (N := 16) hx hb hts zuX6_passHour_X6 hown hK hP 0 rfl rfl 12 (by decide) (hts (.fieldLink RX6 63 "Gatherhouse" "hoursGone" "I") (by decide +kernel)) (fun _ h9 => h9) rfl dX6_passHour_10 ?_
  refine lv_iconst (v := 1) hx hb dX6_passHour_13 (by decide) ?_
  refine lv_iadd hx hb dX6_passHour_14 ?_
  refine va_put (D := D) (cl := vwCl) (ci := 11) (v := .int (hq + 1)) (ty := .int) (C := RX6) (T := TX6) (N := 16) hx hb hts zuX6_passHour_X6 tyX6 tyX6_ok nmX6 hown hK hP hD hS 0 rfl rfl 12 (by decide) (hts (.fieldLink RX6 63 "Gatherhouse" "hoursGone" "I") (by decide +kernel)) (fun _ h9 => h9) rfl (by decide +kernel) rfl rfl (Nat.le_of_ble_eq_true rfl) dX6_passHour_15 (fun H locs hP hD hS => ?_)
  have hP : va_P D vwCl [(xo, .inr (11, [.ref xg, .int 0, .ref xp, .int 0, .ref xq, .int 0, .ref r1, .ref r2, .ref r3, .ref r4, .ref se, .int ts, .int (hq + 1), .int 40, .int 0, .int 0])), (xp, .inl (cp, 4, .inr (.inr (.inr (.inr (fun _ => none)))))), (xq, .inl (cq, 16, .inr (.inr (.inr (.inr (fun _ => none))))))] H := hP
  have hD : va_D A [(xo, .inr (11, [.ref xg, .int 0, .ref xp, .int 0, .ref xq, .int 0, .ref r1, .ref r2, .ref r3, .ref r4, .ref se, .int ts, .int (hq + 1), .int 40, .int 0, .int 0])), (xp, .inl (cp, 4, .inr (.inr (.inr (.inr (fun _ => none)))))), (xq, .inl (cq, 16, .inr (.inr (.inr (.inr (fun _ => none))))))] := hD
  refine lv_aload_n hx hb dX6_passHour_18 rfl (lv_at hl 1 rfl) ?_
  refine va_get (D := D) (cl := vwCl) (ci := 11) (v := .ref xp) (C := RX6) (T := TX6) (N := 16) hx hb hts zuX6_passHour_X6 hown hK hP 0 rfl rfl 2 (by decide) (hts (.fieldLink RX6 21 "Gatherhouse" "pots" "[LGatherhouse$Pot;") (by decide +kernel)) (fun _ h9 => h9) rfl dX6_passHour_19 ?_
  refine lv_astore_n (lv' := [(2, .ref xp), (1, .int (hq / 24)), (0, .ref xo)]) hx hb dX6_passHour_22 rfl hl (by decide) rfl (fun ls hl => ?_)
  refine lv_aload_n hx hb dX6_passHour_23 rfl (lv_at hl 0 rfl) ?_
  refine va_alen (D := D) (cl := vwCl) (v := 4) hx hb hK hP 1 0 rfl rfl (by decide) dX6_passHour_24 ?_
  refine lv_istore_n (lv' := [(3, .int 4), (2, .ref xp), (1, .int (hq / 24)), (0, .ref xo)]) hx hb dX6_passHour_25 rfl hl (by decide) rfl (fun ls hl => ?_)
  refine lv_iconst (v := 0) hx hb dX6_passHour_26 (by decide) ?_
  refine lv_istore (lv' := [(4, .int 0), (3, .int 4), (2, .ref xp), (1, .int (hq / 24)), (0, .ref xo)]) hx hb dX6_passHour_27 hl (by decide) rfl (fun ls hl => ?_)
  refine lv_iload hx hb dX6_passHour_29 (lv_at hl 0 rfl) ?_
  refine lv_iload_n hx hb dX6_passHour_31 rfl (lv_at hl 1 rfl) ?_
  refine lv_icmp_ge (tgt := 57) hx hb dX6_passHour_32 (by decide) (fun cc => absurd cc (by decide)) (fun _ => ?_)
  refine lv_aload_n hx hb dX6_passHour_35 rfl (lv_at hl 2 rfl) ?_
  refine lv_iload hx hb dX6_passHour_36 (lv_at hl 0 rfl) ?_
  refine va_aldq (D := D) (cl := vwCl) hx hb hK hP 1 0 rfl rfl (vp_in_nI (n := 0) (N := 4) (by decide) (by decide)) dX6_passHour_38 ?_
  refine W.eq (g2 := F0 m 39 ls [.null]) rfl ?_
  refine lv_astoreN (lv' := [(5, .null), (4, .int 0), (3, .int 4), (2, .ref xp), (1, .int (hq / 24)), (0, .ref xo)]) hx hb dX6_passHour_39 hl (by decide) rfl (fun ls hl => ?_)
  refine lv_aloadN hx hb dX6_passHour_41 (lv_at hl 0 rfl) ?_
  refine lv_ifnullN (tgt := 51) hx hb dX6_passHour_43 (by decide) ?_
  obtain ⟨x_70, ex_70⟩ : ∃ y : Int32, y = 0 + 1 := ⟨_, rfl⟩
  have ex_70 : x_70 = 1 := ex_70.trans (by decide)
  subst ex_70
  refine lv_iinc (v := 1) (lv' := [(4, .int 1), (5, .null), (3, .int 4), (2, .ref xp), (1, .int (hq / 24)), (0, .ref xo)]) hx hb dX6_passHour_51 hl (k := 1) rfl (by decide) (by decide) rfl (fun ls hl => ?_)
  refine lv_goto (tgt := 29) hx hb dX6_passHour_54 (by decide) ?_
  refine lv_iload hx hb dX6_passHour_29 (lv_at hl 0 rfl) ?_
  refine lv_iload_n hx hb dX6_passHour_31 rfl (lv_at hl 2 rfl) ?_
  refine lv_icmp_ge (tgt := 57) hx hb dX6_passHour_32 (by decide) (fun cc => absurd cc (by decide)) (fun _ => ?_)
  refine lv_aload_n hx hb dX6_passHour_35 rfl (lv_at hl 3 rfl) ?_
  refine lv_iload hx hb dX6_passHour_36 (lv_at hl 0 rfl) ?_
  refine va_aldq (D := D) (cl := vwCl) hx hb hK hP 1 0 rfl rfl (vp_in_nI (n := 1) (N := 4) (by decide) (by decide)) dX6_passHour_38 ?_
  refine W.eq (g2 := F0 m 39 ls [.null]) rfl ?_
  refine lv_astoreN (lv' := [(5, .null), (4, .int 1), (3, .int 4), (2, .ref xp), (1, .int (hq / 24)), (0, .ref xo)]) hx hb dX6_passHour_39 hl (by decide) rfl (fun ls hl => ?_)
  refine lv_aloadN hx hb dX6_passHour_41 (lv_at hl 0 rfl) ?_
  refine lv_ifnullN (tgt := 51) hx hb dX6_passHour_43 (by decide) ?_
  obtain ⟨x_71, ex_71⟩ : ∃ y : Int32, y = 1 + 1 := ⟨_, rfl⟩
  have ex_71 : x_71 = 2 := ex_71.trans (by decide)
  subst ex_71
  refine lv_iinc (v := 2) (lv' := [(4, .int 2), (5, .null), (3, .int 4), (2, .ref xp), (1, .int (hq / 24)), (0, .ref xo)]) hx hb dX6_passHour_51 hl (k := 1) rfl (by decide) (by decide) rfl (fun ls hl => ?_)
  refine lv_goto (tgt := 29) hx hb dX6_passHour_54 (by decide) ?_
  refine lv_iload hx hb dX6_passHour_29 (lv_at hl 0 rfl) ?_
  refine lv_iload_n hx hb dX6_passHour_31 rfl (lv_at hl 2 rfl) ?_
  refine lv_icmp_ge (tgt := 57) hx hb dX6_passHour_32 (by decide) (fun cc => absurd cc (by decide)) (fun _ => ?_)
  refine lv_aload_n hx hb dX6_passHour_35 rfl (lv_at hl 3 rfl) ?_
  refine lv_iload hx hb dX6_passHour_36 (lv_at hl 0 rfl) ?_
  refine va_aldq (D := D) (cl := vwCl) hx hb hK hP 1 0 rfl rfl (vp_in_nI (n := 2) (N := 4) (by decide) (by decide)) dX6_passHour_38 ?_
  refine W.eq (g2 := F0 m 39 ls [.null]) rfl ?_
  refine lv_astoreN (lv' := [(5, .null), (4, .int 2), (3, .int 4), (2, .ref xp), (1, .int (hq / 24)), (0, .ref xo)]) hx hb dX6_passHour_39 hl (by decide) rfl (fun ls hl => ?_)
  refine lv_aloadN hx hb dX6_passHour_41 (lv_at hl 0 rfl) ?_
  refine lv_ifnullN (tgt := 51) hx hb dX6_passHour_43 (by decide) ?_
  obtain ⟨x_72, ex_72⟩ : ∃ y : Int32, y = 2 + 1 := ⟨_, rfl⟩
  have ex_72 : x_72 = 3 := ex_72.trans (by decide)
  subst ex_72
  refine lv_iinc (v := 3) (lv' := [(4, .int 3), (5, .null), (3, .int 4), (2, .ref xp), (1, .int (hq / 24)), (0, .ref xo)]) hx hb dX6_passHour_51 hl (k := 1) rfl (by decide) (by decide) rfl (fun ls hl => ?_)
  refine lv_goto (tgt := 29) hx hb dX6_passHour_54 (by decide) ?_
  refine lv_iload hx hb dX6_passHour_29 (lv_at hl 0 rfl) ?_
  refine lv_iload_n hx hb dX6_passHour_31 rfl (lv_at hl 2 rfl) ?_
  refine lv_icmp_ge (tgt := 57) hx hb dX6_passHour_32 (by decide) (fun cc => absurd cc (by decide)) (fun _ => ?_)
  refine lv_aload_n hx hb dX6_passHour_35 rfl (lv_at hl 3 rfl) ?_
  refine lv_iload hx hb dX6_passHour_36 (lv_at hl 0 rfl) ?_
  refine va_aldq (D := D) (cl := vwCl) hx hb hK hP 1 0 rfl rfl (vp_in_nI (n := 3) (N := 4) (by decide) (by decide)) dX6_passHour_38 ?_
  refine W.eq (g2 := F0 m 39 ls [.null]) rfl ?_
  refine lv_astoreN (lv' := [(5, .null), (4, .int 3), (3, .int 4), (2, .ref xp), (1, .int (hq / 24)), (0, .ref xo)]) hx hb dX6_passHour_39 hl (by decide) rfl (fun ls hl => ?_)
  refine lv_aloadN hx hb dX6_passHour_41 (lv_at hl 0 rfl) ?_
  refine lv_ifnullN (tgt := 51) hx hb dX6_passHour_43 (by decide) ?_
  obtain ⟨x_73, ex_73⟩ : ∃ y : Int32, y = 3 + 1 := ⟨_, rfl⟩
  have ex_73 : x_73 = 4 := ex_73.trans (by decide)
  subst ex_73
  refine lv_iinc (v := 4) (lv' := [(4, .int 4), (5, .null), (3, .int 4), (2, .ref xp), (1, .int (hq / 24)), (0, .ref xo)]) hx hb dX6_passHour_51 hl (k := 1) rfl (by decide) (by decide) rfl (fun ls hl => ?_)
  refine lv_goto (tgt := 29) hx hb dX6_passHour_54 (by decide) ?_
  refine lv_iload hx hb dX6_passHour_29 (lv_at hl 0 rfl) ?_
  refine lv_iload_n hx hb dX6_passHour_31 rfl (lv_at hl 2 rfl) ?_
  refine lv_icmp_ge (tgt := 57) hx hb dX6_passHour_32 (by decide) (fun _ => ?_) (fun cc => absurd (by decide) cc)
  refine lv_iconst (v := 0) hx hb dX6_passHour_57 (by decide) ?_
  refine lv_istore_n (lv' := [(2, .int 0), (4, .int 4), (5, .null), (3, .int 4), (1, .int (hq / 24)), (0, .ref xo)]) hx hb dX6_passHour_58 rfl hl (by decide) rfl (fun ls hl => ?_)
  refine lv_aload_n hx hb dX6_passHour_59 rfl (lv_at hl 5 rfl) ?_
  refine va_get (D := D) (cl := vwCl) (ci := 11) (v := .ref xq) (C := RX6) (T := TX6) (N := 16) hx hb hts zuX6_passHour_X6 hown hK hP 0 rfl rfl 4 (by decide) (hts (.fieldLink RX6 30 "Gatherhouse" "pieces" "[LGatherhouse$Piece;") (by decide +kernel)) (fun _ h9 => h9) rfl dX6_passHour_60 ?_
  refine lv_astore_n (lv' := [(3, .ref xq), (2, .int 0), (4, .int 4), (5, .null), (1, .int (hq / 24)), (0, .ref xo)]) hx hb dX6_passHour_63 rfl hl (by decide) rfl (fun ls hl => ?_)
  refine lv_aload_n hx hb dX6_passHour_64 rfl (lv_at hl 0 rfl) ?_
  refine va_alen (D := D) (cl := vwCl) (v := 16) hx hb hK hP 2 1 rfl rfl (by decide) dX6_passHour_65 ?_
  refine lv_istore (lv' := [(4, .int 16), (3, .ref xq), (2, .int 0), (5, .null), (1, .int (hq / 24)), (0, .ref xo)]) hx hb dX6_passHour_66 hl (by decide) rfl (fun ls hl => ?_)
  refine lv_iconst (v := 0) hx hb dX6_passHour_68 (by decide) ?_
  refine lv_istore (lv' := [(5, .int 0), (4, .int 16), (3, .ref xq), (2, .int 0), (1, .int (hq / 24)), (0, .ref xo)]) hx hb dX6_passHour_69 hl (by decide) rfl (fun ls hl => ?_)
  refine lv_iload hx hb dX6_passHour_71 (lv_at hl 0 rfl) ?_
  refine lv_iload hx hb dX6_passHour_73 (lv_at hl 1 rfl) ?_
  refine lv_icmp_ge (tgt := 131) hx hb dX6_passHour_75 (by decide) (fun cc => absurd cc (by decide)) (fun _ => ?_)
  refine lv_aload_n hx hb dX6_passHour_78 rfl (lv_at hl 2 rfl) ?_
  refine lv_iload hx hb dX6_passHour_79 (lv_at hl 0 rfl) ?_
  refine va_aldq (D := D) (cl := vwCl) hx hb hK hP 2 1 rfl rfl (vp_in_nI (n := 0) (N := 16) (by decide) (by decide)) dX6_passHour_81 ?_
  refine W.eq (g2 := F0 m 82 ls [.null]) rfl ?_
  refine lv_astoreN (lv' := [(6, .null), (5, .int 0), (4, .int 16), (3, .ref xq), (2, .int 0), (1, .int (hq / 24)), (0, .ref xo)]) hx hb dX6_passHour_82 hl (by decide) rfl (fun ls hl => ?_)
  refine lv_aloadN hx hb dX6_passHour_84 (lv_at hl 0 rfl) ?_
  refine lv_ifnullN (tgt := 125) hx hb dX6_passHour_86 (by decide) ?_
  obtain ⟨x_74, ex_74⟩ : ∃ y : Int32, y = 0 + 1 := ⟨_, rfl⟩
  have ex_74 : x_74 = 1 := ex_74.trans (by decide)
  subst ex_74
  refine lv_iinc (v := 1) (lv' := [(5, .int 1), (6, .null), (4, .int 16), (3, .ref xq), (2, .int 0), (1, .int (hq / 24)), (0, .ref xo)]) hx hb dX6_passHour_125 hl (k := 1) rfl (by decide) (by decide) rfl (fun ls hl => ?_)
  refine lv_goto (tgt := 71) hx hb dX6_passHour_128 (by decide) ?_
  refine lv_iload hx hb dX6_passHour_71 (lv_at hl 0 rfl) ?_
  refine lv_iload hx hb dX6_passHour_73 (lv_at hl 2 rfl) ?_
  refine lv_icmp_ge (tgt := 131) hx hb dX6_passHour_75 (by decide) (fun cc => absurd cc (by decide)) (fun _ => ?_)
  refine lv_aload_n hx hb dX6_passHour_78 rfl (lv_at hl 3 rfl) ?_
  refine lv_iload hx hb dX6_passHour_79 (lv_at hl 0 rfl) ?_
  refine va_aldq (D := D) (cl := vwCl) hx hb hK hP 2 1 rfl rfl (vp_in_nI (n := 1) (N := 16) (by decide) (by decide)) dX6_passHour_81 ?_
  refine W.eq (g2 := F0 m 82 ls [.null]) rfl ?_
  refine lv_astoreN (lv' := [(6, .null), (5, .int 1), (4, .int 16), (3, .ref xq), (2, .int 0), (1, .int (hq / 24)), (0, .ref xo)]) hx hb dX6_passHour_82 hl (by decide) rfl (fun ls hl => ?_)
  refine lv_aloadN hx hb dX6_passHour_84 (lv_at hl 0 rfl) ?_
  refine lv_ifnullN (tgt := 125) hx hb dX6_passHour_86 (by decide) ?_
  obtain ⟨x_75, ex_75⟩ : ∃ y : Int32, y = 1 + 1 := ⟨_, rfl⟩
  have ex_75 : x_75 = 2 := ex_75.trans (by decide)
  subst ex_75
  refine lv_iinc (v := 2) (lv' := [(5, .int 2), (6, .null), (4, .int 16), (3, .ref xq), (2, .int 0), (1, .int (hq / 24)), (0, .ref xo)]) hx hb dX6_passHour_125 hl (k := 1) rfl (by decide) (by decide) rfl (fun ls hl => ?_)
  refine lv_goto (tgt := 71) hx hb dX6_passHour_128 (by decide) ?_
  refine lv_iload hx hb dX6_passHour_71 (lv_at hl 0 rfl) ?_
  refine lv_iload hx hb dX6_passHour_73 (lv_at hl 2 rfl) ?_
  refine lv_icmp_ge (tgt := 131) hx hb dX6_passHour_75 (by decide) (fun cc => absurd cc (by decide)) (fun _ => ?_)
  refine lv_aload_n hx hb dX6_passHour_78 rfl (lv_at hl 3 rfl) ?_
  refine lv_iload hx hb dX6_passHour_79 (lv_at hl 0 rfl) ?_
  refine va_aldq (D := D) (cl := vwCl) hx hb hK hP 2 1 rfl rfl (vp_in_nI (n := 2) (N := 16) (by decide) (by decide)) dX6_passHour_81 ?_
  refine W.eq (g2 := F0 m 82 ls [.null]) rfl ?_
  refine lv_astoreN (lv' := [(6, .null), (5, .int 2), (4, .int 16), (3, .ref xq), (2, .int 0), (1, .int (hq / 24)), (0, .ref xo)]) hx hb dX6_passHour_82 hl (by decide) rfl (fun ls hl => ?_)
  refine lv_aloadN hx hb dX6_passHour_84 (lv_at hl 0 rfl) ?_
  refine lv_ifnullN (tgt := 125) hx hb dX6_passHour_86 (by decide) ?_
  obtain ⟨x_76, ex_76⟩ : ∃ y : Int32, y = 2 + 1 := ⟨_, rfl⟩
  have ex_76 : x_76 = 3 := ex_76.trans (by decide)
  subst ex_76
  refine lv_iinc (v := 3) (lv' := [(5, .int 3), (6, .null), (4, .int 16), (3, .ref xq), (2, .int 0), (1, .int (hq / 24)), (0, .ref xo)]) hx hb dX6_passHour_125 hl (k := 1) rfl (by decide) (by decide) rfl (fun ls hl => ?_)
  refine lv_goto (tgt := 71) hx hb dX6_passHour_128 (by decide) ?_
  refine lv_iload hx hb dX6_passHour_71 (lv_at hl 0 rfl) ?_
  refine lv_iload hx hb dX6_passHour_73 (lv_at hl 2 rfl) ?_
  refine lv_icmp_ge (tgt := 131) hx hb dX6_passHour_75 (by decide) (fun cc => absurd cc (by decide)) (fun _ => ?_)
  refine lv_aload_n hx hb dX6_passHour_78 rfl (lv_at hl 3 rfl) ?_
  refine lv_iload hx hb dX6_passHour_79 (lv_at hl 0 rfl) ?_
  refine va_aldq (D := D) (cl := vwCl) hx hb hK hP 2 1 rfl rfl (vp_in_nI (n := 3) (N := 16) (by decide) (by decide)) dX6_passHour_81 ?_
  refine W.eq (g2 := F0 m 82 ls [.null]) rfl ?_
  refine lv_astoreN (lv' := [(6, .null), (5, .int 3), (4, .int 16), (3, .ref xq), (2, .int 0), (1, .int (hq / 24)), (0, .ref xo)]) hx hb dX6_passHour_82 hl (by decide) rfl (fun ls hl => ?_)
  refine lv_aloadN hx hb dX6_passHour_84 (lv_at hl 0 rfl) ?_
  refine lv_ifnullN (tgt := 125) hx hb dX6_passHour_86 (by decide) ?_
  obtain ⟨x_77, ex_77⟩ : ∃ y : Int32, y = 3 + 1 := ⟨_, rfl⟩
  have ex_77 : x_77 = 4 := ex_77.trans (by decide)
  subst ex_77
  refine lv_iinc (v := 4) (lv' := [(5, .int 4), (6, .null), (4, .int 16), (3, .ref xq), (2, .int 0), (1, .int (hq / 24)), (0, .ref xo)]) hx hb dX6_passHour_125 hl (k := 1) rfl (by decide) (by decide) rfl (fun ls hl => ?_)
  refine lv_goto (tgt := 71) hx hb dX6_passHour_128 (by decide) ?_
  refine lv_iload hx hb dX6_passHour_71 (lv_at hl 0 rfl) ?_
  refine lv_iload hx hb dX6_passHour_73 (lv_at hl 2 rfl) ?_
  refine lv_icmp_ge (tgt := 131) hx hb dX6_passHour_75 (by decide) (fun cc => absurd cc (by decide)) (fun _ => ?_)
  refine lv_aload_n hx hb dX6_passHour_78 rfl (lv_at hl 3 rfl) ?_
  refine lv_iload hx hb dX6_passHour_79 (lv_at hl 0 rfl) ?_
  refine va_aldq (D := D) (cl := vwCl) hx hb hK hP 2 1 rfl rfl (vp_in_nI (n := 4) (N := 16) (by decide) (by decide)) dX6_passHour_81 ?_
  refine W.eq (g2 := F0 m 82 ls [.null]) rfl ?_
  refine lv_astoreN (lv' := [(6, .null), (5, .int 4), (4, .int 16), (3, .ref xq), (2, .int 0), (1, .int (hq / 24)), (0, .ref xo)]) hx hb dX6_passHour_82 hl (by decide) rfl (fun ls hl => ?_)
  refine lv_aloadN hx hb dX6_passHour_84 (lv_at hl 0 rfl) ?_
  refine lv_ifnullN (tgt := 125) hx hb dX6_passHour_86 (by decide) ?_
  obtain ⟨x_78, ex_78⟩ : ∃ y : Int32, y = 4 + 1 := ⟨_, rfl⟩
  have ex_78 : x_78 = 5 := ex_78.trans (by decide)
  subst ex_78
  refine lv_iinc (v := 5) (lv' := [(5, .int 5), (6, .null), (4, .int 16), (3, .ref xq), (2, .int 0), (1, .int (hq / 24)), (0, .ref xo)]) hx hb dX6_passHour_125 hl (k := 1) rfl (by decide) (by decide) rfl (fun ls hl => ?_)
  refine lv_goto (tgt := 71) hx hb dX6_passHour_128 (by decide) ?_
  refine lv_iload hx hb dX6_passHour_71 (lv_at hl 0 rfl) ?_
  refine lv_iload hx hb dX6_passHour_73 (lv_at hl 2 rfl) ?_
  refine lv_icmp_ge (tgt := 131) hx hb dX6_passHour_75 (by decide) (fun cc => absurd cc (by decide)) (fun _ => ?_)
  refine lv_aload_n hx hb dX6_passHour_78 rfl (lv_at hl 3 rfl) ?_
  refine lv_iload hx hb dX6_passHour_79 (lv_at hl 0 rfl) ?_
  refine va_aldq (D := D) (cl := vwCl) hx hb hK hP 2 1 rfl rfl (vp_in_nI (n := 5) (N := 16) (by decide) (by decide)) dX6_passHour_81 ?_
  refine W.eq (g2 := F0 m 82 ls [.null]) rfl ?_
  refine lv_astoreN (lv' := [(6, .null), (5, .int 5), (4, .int 16), (3, .ref xq), (2, .int 0), (1, .int (hq / 24)), (0, .ref xo)]) hx hb dX6_passHour_82 hl (by decide) rfl (fun ls hl => ?_)
  refine lv_aloadN hx hb dX6_passHour_84 (lv_at hl 0 rfl) ?_
  refine lv_ifnullN (tgt := 125) hx hb dX6_passHour_86 (by decide) ?_
  obtain ⟨x_79, ex_79⟩ : ∃ y : Int32, y = 5 + 1 := ⟨_, rfl⟩
  have ex_79 : x_79 = 6 := ex_79.trans (by decide)
  subst ex_79
  refine lv_iinc (v := 6) (lv' := [(5, .int 6), (6, .null), (4, .int 16), (3, .ref xq), (2, .int 0), (1, .int (hq / 24)), (0, .ref xo)]) hx hb dX6_passHour_125 hl (k := 1) rfl (by decide) (by decide) rfl (fun ls hl => ?_)
  refine lv_goto (tgt := 71) hx hb dX6_passHour_128 (by decide) ?_
  refine lv_iload hx hb dX6_passHour_71 (lv_at hl 0 rfl) ?_
  refine lv_iload hx hb dX6_passHour_73 (lv_at hl 2 rfl) ?_
  refine lv_icmp_ge (tgt := 131) hx hb dX6_passHour_75 (by decide) (fun cc => absurd cc (by decide)) (fun _ => ?_)
  refine lv_aload_n hx hb dX6_passHour_78 rfl (lv_at hl 3 rfl) ?_
  refine lv_iload hx hb dX6_passHour_79 (lv_at hl 0 rfl) ?_
  refine va_aldq (D := D) (cl := vwCl) hx hb hK hP 2 1 rfl rfl (vp_in_nI (n := 6) (N := 16) (by decide) (by decide)) dX6_passHour_81 ?_
  refine W.eq (g2 := F0 m 82 ls [.null]) rfl ?_
  refine lv_astoreN (lv' := [(6, .null), (5, .int 6), (4, .int 16), (3, .ref xq), (2, .int 0), (1, .int (hq / 24)), (0, .ref xo)]) hx hb dX6_passHour_82 hl (by decide) rfl (fun ls hl => ?_)
  refine lv_aloadN hx hb dX6_passHour_84 (lv_at hl 0 rfl) ?_
  refine lv_ifnullN (tgt := 125) hx hb dX6_passHour_86 (by decide) ?_
  obtain ⟨x_80, ex_80⟩ : ∃ y : Int32, y = 6 + 1 := ⟨_, rfl⟩
  have ex_80 : x_80 = 7 := ex_80.trans (by decide)
  subst ex_80
  refine lv_iinc (v := 7) (lv' := [(5, .int 7), (6, .null), (4, .int 16), (3, .ref xq), (2, .int 0), (1, .int (hq / 24)), (0, .ref xo)]) hx hb dX6_passHour_125 hl (k := 1) rfl (by decide) (by decide) rfl (fun ls hl => ?_)
  refine lv_goto (tgt := 71) hx hb dX6_passHour_128 (by decide) ?_
  refine lv_iload hx hb dX6_passHour_71 (lv_at hl 0 rfl) ?_
  refine lv_iload hx hb dX6_passHour_73 (lv_at hl 2 rfl) ?_
  refine lv_icmp_ge (tgt := 131) hx hb dX6_passHour_75 (by decide) (fun cc => absurd cc (by decide)) (fun _ => ?_)
  refine lv_aload_n hx hb dX6_passHour_78 rfl (lv_at hl 3 rfl) ?_
  refine lv_iload hx hb dX6_passHour_79 (lv_at hl 0 rfl) ?_
  refine va_aldq (D := D) (cl := vwCl) hx hb hK hP 2 1 rfl rfl (vp_in_nI (n := 7) (N := 16) (by decide) (by decide)) dX6_passHour_81 ?_
  refine W.eq (g2 := F0 m 82 ls [.null]) rfl ?_
  refine lv_astoreN (lv' := [(6, .null), (5, .int 7), (4, .int 16), (3, .ref xq), (2, .int 0), (1, .int (hq / 24)), (0, .ref xo)]) hx hb dX6_passHour_82 hl (by decide) rfl (fun ls hl => ?_)
  refine lv_aloadN hx hb dX6_passHour_84 (lv_at hl 0 rfl) ?_
  refine lv_ifnullN (tgt := 125) hx hb dX6_passHour_86 (by decide) ?_
  obtain ⟨x_81, ex_81⟩ : ∃ y : Int32, y = 7 + 1 := ⟨_, rfl⟩
  have ex_81 : x_81 = 8 := ex_81.trans (by decide)
  subst ex_81
  refine lv_iinc (v := 8) (lv' := [(5, .int 8), (6, .null), (4, .int 16), (3, .ref xq), (2, .int 0), (1, .int (hq / 24)), (0, .ref xo)]) hx hb dX6_passHour_125 hl (k := 1) rfl (by decide) (by decide) rfl (fun ls hl => ?_)
  refine lv_goto (tgt := 71) hx hb dX6_passHour_128 (by decide) ?_
  refine lv_iload hx hb dX6_passHour_71 (lv_at hl 0 rfl) ?_
  refine lv_iload hx hb dX6_passHour_73 (lv_at hl 2 rfl) ?_
  refine lv_icmp_ge (tgt := 131) hx hb dX6_passHour_75 (by decide) (fun cc => absurd cc (by decide)) (fun _ => ?_)
  refine lv_aload_n hx hb dX6_passHour_78 rfl (lv_at hl 3 rfl) ?_
  refine lv_iload hx hb dX6_passHour_79 (lv_at hl 0 rfl) ?_
  refine va_aldq (D := D) (cl := vwCl) hx hb hK hP 2 1 rfl rfl (vp_in_nI (n := 8) (N := 16) (by decide) (by decide)) dX6_passHour_81 ?_
  refine W.eq (g2 := F0 m 82 ls [.null]) rfl ?_
  refine lv_astoreN (lv' := [(6, .null), (5, .int 8), (4, .int 16), (3, .ref xq), (2, .int 0), (1, .int (hq / 24)), (0, .ref xo)]) hx hb dX6_passHour_82 hl (by decide) rfl (fun ls hl => ?_)
  refine lv_aloadN hx hb dX6_passHour_84 (lv_at hl 0 rfl) ?_
  refine lv_ifnullN (tgt := 125) hx hb dX6_passHour_86 (by decide) ?_
  obtain ⟨x_82, ex_82⟩ : ∃ y : Int32, y = 8 + 1 := ⟨_, rfl⟩
  have ex_82 : x_82 = 9 := ex_82.trans (by decide)
  subst ex_82
  refine lv_iinc (v := 9) (lv' := [(5, .int 9), (6, .null), (4, .int 16), (3, .ref xq), (2, .int 0), (1, .int (hq / 24)), (0, .ref xo)]) hx hb dX6_passHour_125 hl (k := 1) rfl (by decide) (by decide) rfl (fun ls hl => ?_)
  refine lv_goto (tgt := 71) hx hb dX6_passHour_128 (by decide) ?_
  refine lv_iload hx hb dX6_passHour_71 (lv_at hl 0 rfl) ?_
  refine lv_iload hx hb dX6_passHour_73 (lv_at hl 2 rfl) ?_
  refine lv_icmp_ge (tgt := 131) hx hb dX6_passHour_75 (by decide) (fun cc => absurd cc (by decide)) (fun _ => ?_)
  refine lv_aload_n hx hb dX6_passHour_78 rfl (lv_at hl 3 rfl) ?_
  refine lv_iload hx hb dX6_passHour_79 (lv_at hl 0 rfl) ?_
  refine va_aldq (D := D) (cl := vwCl) hx hb hK hP 2 1 rfl rfl (vp_in_nI (n := 9) (N := 16) (by decide) (by decide)) dX6_passHour_81 ?_
  refine W.eq (g2 := F0 m 82 ls [.null]) rfl ?_
  refine lv_astoreN (lv' := [(6, .null), (5, .int 9), (4, .int 16), (3, .ref xq), (2, .int 0), (1, .int (hq / 24)), (0, .ref xo)]) hx hb dX6_passHour_82 hl (by decide) rfl (fun ls hl => ?_)
  refine lv_aloadN hx hb dX6_passHour_84 (lv_at hl 0 rfl) ?_
  refine lv_ifnullN (tgt := 125) hx hb dX6_passHour_86 (by decide) ?_
  obtain ⟨x_83, ex_83⟩ : ∃ y : Int32, y = 9 + 1 := ⟨_, rfl⟩
  have ex_83 : x_83 = 10 := ex_83.trans (by decide)
  subst ex_83
  refine lv_iinc (v := 10) (lv' := [(5, .int 10), (6, .null), (4, .int 16), (3, .ref xq), (2, .int 0), (1, .int (hq / 24)), (0, .ref xo)]) hx hb dX6_passHour_125 hl (k := 1) rfl (by decide) (by decide) rfl (fun ls hl => ?_)
  refine lv_goto (tgt := 71) hx hb dX6_passHour_128 (by decide) ?_
  refine lv_iload hx hb dX6_passHour_71 (lv_at hl 0 rfl) ?_
  refine lv_iload hx hb dX6_passHour_73 (lv_at hl 2 rfl) ?_
  refine lv_icmp_ge (tgt := 131) hx hb dX6_passHour_75 (by decide) (fun cc => absurd cc (by decide)) (fun _ => ?_)
  refine lv_aload_n hx hb dX6_passHour_78 rfl (lv_at hl 3 rfl) ?_
  refine lv_iload hx hb dX6_passHour_79 (lv_at hl 0 rfl) ?_
  refine va_aldq (D := D) (cl := vwCl) hx hb hK hP 2 1 rfl rfl (vp_in_nI (n := 10) (N := 16) (by decide) (by decide)) dX6_passHour_81 ?_
  refine W.eq (g2 := F0 m 82 ls [.null]) rfl ?_
  refine lv_astoreN (lv' := [(6, .null), (5, .int 10), (4, .int 16), (3, .ref xq), (2, .int 0), (1, .int (hq / 24)), (0, .ref xo)]) hx hb dX6_passHour_82 hl (by decide) rfl (fun ls hl => ?_)
  refine lv_aloadN hx hb dX6_passHour_84 (lv_at hl 0 rfl) ?_
  refine lv_ifnullN (tgt := 125) hx hb dX6_passHour_86 (by decide) ?_
  obtain ⟨x_84, ex_84⟩ : ∃ y : Int32, y = 10 + 1 := ⟨_, rfl⟩
  have ex_84 : x_84 = 11 := ex_84.trans (by decide)
  subst ex_84
  refine lv_iinc (v := 11) (lv' := [(5, .int 11), (6, .null), (4, .int 16), (3, .ref xq), (2, .int 0), (1, .int (hq / 24)), (0, .ref xo)]) hx hb dX6_passHour_125 hl (k := 1) rfl (by decide) (by decide) rfl (fun ls hl => ?_)
  refine lv_goto (tgt := 71) hx hb dX6_passHour_128 (by decide) ?_
  refine lv_iload hx hb dX6_passHour_71 (lv_at hl 0 rfl) ?_
  refine lv_iload hx hb dX6_passHour_73 (lv_at hl 2 rfl) ?_
  refine lv_icmp_ge (tgt := 131) hx hb dX6_passHour_75 (by decide) (fun cc => absurd cc (by decide)) (fun _ => ?_)
  refine lv_aload_n hx hb dX6_passHour_78 rfl (lv_at hl 3 rfl) ?_
  refine lv_iload hx hb dX6_passHour_79 (lv_at hl 0 rfl) ?_
  refine va_aldq (D := D) (cl := vwCl) hx hb hK hP 2 1 rfl rfl (vp_in_nI (n := 11) (N := 16) (by decide) (by decide)) dX6_passHour_81 ?_
  refine W.eq (g2 := F0 m 82 ls [.null]) rfl ?_
  refine lv_astoreN (lv' := [(6, .null), (5, .int 11), (4, .int 16), (3, .ref xq), (2, .int 0), (1, .int (hq / 24)), (0, .ref xo)]) hx hb dX6_passHour_82 hl (by decide) rfl (fun ls hl => ?_)
  refine lv_aloadN hx hb dX6_passHour_84 (lv_at hl 0 rfl) ?_
  refine lv_ifnullN (tgt := 125) hx hb dX6_passHour_86 (by decide) ?_
  obtain ⟨x_85, ex_85⟩ : ∃ y : Int32, y = 11 + 1 := ⟨_, rfl⟩
  have ex_85 : x_85 = 12 := ex_85.trans (by decide)
  subst ex_85
  refine lv_iinc (v := 12) (lv' := [(5, .int 12), (6, .null), (4, .int 16), (3, .ref xq), (2, .int 0), (1, .int (hq / 24)), (0, .ref xo)]) hx hb dX6_passHour_125 hl (k := 1) rfl (by decide) (by decide) rfl (fun ls hl => ?_)
  refine lv_goto (tgt := 71) hx hb dX6_passHour_128 (by decide) ?_
  refine lv_iload hx hb dX6_passHour_71 (lv_at hl 0 rfl) ?_
  refine lv_iload hx hb dX6_passHour_73 (lv_at hl 2 rfl) ?_
  refine lv_icmp_ge (tgt := 131) hx hb dX6_passHour_75 (by decide) (fun cc => absurd cc (by decide)) (fun _ => ?_)
  refine lv_aload_n hx hb dX6_passHour_78 rfl (lv_at hl 3 rfl) ?_
  refine lv_iload hx hb dX6_passHour_79 (lv_at hl 0 rfl) ?_
  refine va_aldq (D := D) (cl := vwCl) hx hb hK hP 2 1 rfl rfl (vp_in_nI (n := 12) (N := 16) (by decide) (by decide)) dX6_passHour_81 ?_
  refine W.eq (g2 := F0 m 82 ls [.null]) rfl ?_
  refine lv_astoreN (lv' := [(6, .null), (5, .int 12), (4, .int 16), (3, .ref xq), (2, .int 0), (1, .int (hq / 24)), (0, .ref xo)]) hx hb dX6_passHour_82 hl (by decide) rfl (fun ls hl => ?_)
  refine lv_aloadN hx hb dX6_passHour_84 (lv_at hl 0 rfl) ?_
  refine lv_ifnullN (tgt := 125) hx hb dX6_passHour_86 (by decide) ?_
  obtain ⟨x_86, ex_86⟩ : ∃ y : Int32, y = 12 + 1 := ⟨_, rfl⟩
  have ex_86 : x_86 = 13 := ex_86.trans (by decide)
  subst ex_86
  refine lv_iinc (v := 13) (lv' := [(5, .int 13), (6, .null), (4, .int 16), (3, .ref xq), (2, .int 0), (1, .int (hq / 24)), (0, .ref xo)]) hx hb dX6_passHour_125 hl (k := 1) rfl (by decide) (by decide) rfl (fun ls hl => ?_)
  refine lv_goto (tgt := 71) hx hb dX6_passHour_128 (by decide) ?_
  refine lv_iload hx hb dX6_passHour_71 (lv_at hl 0 rfl) ?_
  refine lv_iload hx hb dX6_passHour_73 (lv_at hl 2 rfl) ?_
  refine lv_icmp_ge (tgt := 131) hx hb dX6_passHour_75 (by decide) (fun cc => absurd cc (by decide)) (fun _ => ?_)
  refine lv_aload_n hx hb dX6_passHour_78 rfl (lv_at hl 3 rfl) ?_
  refine lv_iload hx hb dX6_passHour_79 (lv_at hl 0 rfl) ?_
  refine va_aldq (D := D) (cl := vwCl) hx hb hK hP 2 1 rfl rfl (vp_in_nI (n := 13) (N := 16) (by decide) (by decide)) dX6_passHour_81 ?_
  refine W.eq (g2 := F0 m 82 ls [.null]) rfl ?_
  refine lv_astoreN (lv' := [(6, .null), (5, .int 13), (4, .int 16), (3, .ref xq), (2, .int 0), (1, .int (hq / 24)), (0, .ref xo)]) hx hb dX6_passHour_82 hl (by decide) rfl (fun ls hl => ?_)
  refine lv_aloadN hx hb dX6_passHour_84 (lv_at hl 0 rfl) ?_
  refine lv_ifnullN (tgt := 125) hx hb dX6_passHour_86 (by decide) ?_
  obtain ⟨x_87, ex_87⟩ : ∃ y : Int32, y = 13 + 1 := ⟨_, rfl⟩
  have ex_87 : x_87 = 14 := ex_87.trans (by decide)
  subst ex_87
  refine lv_iinc (v := 14) (lv' := [(5, .int 14), (6, .null), (4, .int 16), (3, .ref xq), (2, .int 0), (1, .int (hq / 24)), (0, .ref xo)]) hx hb dX6_passHour_125 hl (k := 1) rfl (by decide) (by decide) rfl (fun ls hl => ?_)
  refine lv_goto (tgt := 71) hx hb dX6_passHour_128 (by decide) ?_
  refine lv_iload hx hb dX6_passHour_71 (lv_at hl 0 rfl) ?_
  refine lv_iload hx hb dX6_passHour_73 (lv_at hl 2 rfl) ?_
  refine lv_icmp_ge (tgt := 131) hx hb dX6_passHour_75 (by decide) (fun cc => absurd cc (by decide)) (fun _ => ?_)
  refine lv_aload_n hx hb dX6_passHour_78 rfl (lv_at hl 3 rfl) ?_
  refine lv_iload hx hb dX6_passHour_79 (lv_at hl 0 rfl) ?_
  refine va_aldq (D := D) (cl := vwCl) hx hb hK hP 2 1 rfl rfl (vp_in_nI (n := 14) (N := 16) (by decide) (by decide)) dX6_passHour_81 ?_
  refine W.eq (g2 := F0 m 82 ls [.null]) rfl ?_
  refine lv_astoreN (lv' := [(6, .null), (5, .int 14), (4, .int 16), (3, .ref xq), (2, .int 0), (1, .int (hq / 24)), (0, .ref xo)]) hx hb dX6_passHour_82 hl (by decide) rfl (fun ls hl => ?_)
  refine lv_aloadN hx hb dX6_passHour_84 (lv_at hl 0 rfl) ?_
  refine lv_ifnullN (tgt := 125) hx hb dX6_passHour_86 (by decide) ?_
  obtain ⟨x_88, ex_88⟩ : ∃ y : Int32, y = 14 + 1 := ⟨_, rfl⟩
  have ex_88 : x_88 = 15 := ex_88.trans (by decide)
  subst ex_88
  refine lv_iinc (v := 15) (lv' := [(5, .int 15), (6, .null), (4, .int 16), (3, .ref xq), (2, .int 0), (1, .int (hq / 24)), (0, .ref xo)]) hx hb dX6_passHour_125 hl (k := 1) rfl (by decide) (by decide) rfl (fun ls hl => ?_)
  refine lv_goto (tgt := 71) hx hb dX6_passHour_128 (by decide) ?_
  refine lv_iload hx hb dX6_passHour_71 (lv_at hl 0 rfl) ?_
  refine lv_iload hx hb dX6_passHour_73 (lv_at hl 2 rfl) ?_
  refine lv_icmp_ge (tgt := 131) hx hb dX6_passHour_75 (by decide) (fun cc => absurd cc (by decide)) (fun _ => ?_)
  refine lv_aload_n hx hb dX6_passHour_78 rfl (lv_at hl 3 rfl) ?_
  refine lv_iload hx hb dX6_passHour_79 (lv_at hl 0 rfl) ?_
  refine va_aldq (D := D) (cl := vwCl) hx hb hK hP 2 1 rfl rfl (vp_in_nI (n := 15) (N := 16) (by decide) (by decide)) dX6_passHour_81 ?_
  refine W.eq (g2 := F0 m 82 ls [.null]) rfl ?_
  refine lv_astoreN (lv' := [(6, .null), (5, .int 15), (4, .int 16), (3, .ref xq), (2, .int 0), (1, .int (hq / 24)), (0, .ref xo)]) hx hb dX6_passHour_82 hl (by decide) rfl (fun ls hl => ?_)
  refine lv_aloadN hx hb dX6_passHour_84 (lv_at hl 0 rfl) ?_
  refine lv_ifnullN (tgt := 125) hx hb dX6_passHour_86 (by decide) ?_
  obtain ⟨x_89, ex_89⟩ : ∃ y : Int32, y = 15 + 1 := ⟨_, rfl⟩
  have ex_89 : x_89 = 16 := ex_89.trans (by decide)
  subst ex_89
  refine lv_iinc (v := 16) (lv' := [(5, .int 16), (6, .null), (4, .int 16), (3, .ref xq), (2, .int 0), (1, .int (hq / 24)), (0, .ref xo)]) hx hb dX6_passHour_125 hl (k := 1) rfl (by decide) (by decide) rfl (fun ls hl => ?_)
  refine lv_goto (tgt := 71) hx hb dX6_passHour_128 (by decide) ?_
  refine lv_iload hx hb dX6_passHour_71 (lv_at hl 0 rfl) ?_
  refine lv_iload hx hb dX6_passHour_73 (lv_at hl 2 rfl) ?_
  refine lv_icmp_ge (tgt := 131) hx hb dX6_passHour_75 (by decide) (fun _ => ?_) (fun cc => absurd (by decide) cc)
  refine lv_aload_n hx hb dX6_passHour_131 rfl (lv_at hl 6 rfl) ?_
  refine va_get (D := D) (cl := vwCl) (ci := 11) (v := .int (hq + 1)) (C := RX6) (T := TX6) (N := 16) hx hb hts zuX6_passHour_X6 hown hK hP 0 rfl rfl 12 (by decide) (hts (.fieldLink RX6 63 "Gatherhouse" "hoursGone" "I") (by decide +kernel)) (fun _ h9 => h9) rfl dX6_passHour_132 ?_
  refine lv_bipush (v := 24) hx hb dX6_passHour_135 (by decide) ?_
  refine lv_irem hx hb dX6_passHour_137 (by decide) ?_
  refine lv_if_ne (tgt := 146) hx hb dX6_passHour_138 (by decide) (fun c_90 => ?_) (fun c_90 => ?_)
  · refine lv_iload_n hx hb dX6_passHour_146 rfl (lv_at hl 4 rfl) ?_
    exact W.iret (v := 0) hx hb hr (fun t ht hW => ⟨⟨0, (), rfl, rfl, q_RW_mk hP hK hD [0, 1, 2] [0, 1] rfl rfl (by decide) rfl ht hW.alike⟩, hS.F ht⟩) hS.2.2 dX6_passHour_147
  · refine lv_aload_n hx hb dX6_passHour_141 rfl (lv_at hl 6 rfl) ?_
    refine lv_iload_n hx hb dX6_passHour_142 rfl (lv_at hl 5 rfl) ?_
    refine va_csv (va_runV (As := [.int (hq / 24)]) (rest := []) ⟨hx, hb, hml, hown, hts⟩ (zc_X6_endDay l D G xo xg xp xq r1 r2 r3 r4 se ts (hq + 1) cq (hq / 24)) (cwV 1 hts gzX6_passHour_X6_endDay_405 rfl rfl rfl (by decide +kernel) ⟨(Nat.le_of_ble_eq_true rfl), (Nat.le_of_ble_eq_true rfl)⟩) ⟨p_RO_blind, va_recv hK hP (ci := 11) (q0 := 0) rfl rfl, (p_RO_at (tc := [(cq, .object "Gatherhouse$Piece")]) (wc := [(xo, .inr (11, [.ref xg, .int 0, .ref xp, .int 0, .ref xq, .int 0, .ref r1, .ref r2, .ref r3, .ref r4, .ref se, .int ts, .int (hq + 1), .int 40, .int 0, .int 0])), (xq, .inl (cq, 16, .inr (.inr (.inr (.inr (fun _ => none))))))]) hP hK hT [0, 2] [1] rfl rfl [.ref xo, .int (hq / 24)])⟩ rfl rfl hl.1 rfl (lv_room (Nat.le_of_ble_eq_true rfl)) dX6_passHour_143 ⟨(Nat.le_of_ble_eq_true rfl), (Nat.le_of_ble_eq_true rfl)⟩).run (fun w_92 => ?_)
    refine lv_iload_n hx hb dX6_passHour_146 rfl (lv_at hl 4 rfl) ?_
    exact W.iret (v := 0) hx hb hr (fun t ht hW => ⟨⟨0, (), rfl, rfl, q_RW_mk hP hK hD [0, 1, 2] [0, 1] rfl rfl (by decide) rfl ht hW.alike⟩, hS.F ht⟩) hS.2.2 dX6_passHour_147
theorem dX6_passSecond_0 : decode cX6_passSecond 0 = .ok (.aload_n 0, 1) := by decide +kernel
theorem dX6_passSecond_1 : decode cX6_passSecond 1 = .ok (.dup, 1) := by decide +kernel
theorem dX6_passSecond_2 : decode cX6_passSecond 2 = .ok (.getfield 60, 3) := by decide +kernel
theorem dX6_passSecond_5 : decode cX6_passSecond 5 = .ok (.iconst 1, 1) := by decide +kernel
theorem dX6_passSecond_6 : decode cX6_passSecond 6 = .ok (.iadd, 1) := by decide +kernel
theorem dX6_passSecond_7 : decode cX6_passSecond 7 = .ok (.putfield 60, 3) := by decide +kernel
theorem dX6_passSecond_10 : decode cX6_passSecond 10 = .ok (.aload_n 0, 1) := by decide +kernel
theorem dX6_passSecond_11 : decode cX6_passSecond 11 = .ok (.getfield 40, 3) := by decide +kernel
theorem dX6_passSecond_14 : decode cX6_passSecond 14 = .ok (.invokevirtual 396, 3) := by decide +kernel
theorem dX6_passSecond_17 : decode cX6_passSecond 17 = .ok (.aload_n 0, 1) := by decide +kernel
theorem dX6_passSecond_18 : decode cX6_passSecond 18 = .ok (.getfield 44, 3) := by decide +kernel
theorem dX6_passSecond_21 : decode cX6_passSecond 21 = .ok (.invokevirtual 396, 3) := by decide +kernel
theorem dX6_passSecond_24 : decode cX6_passSecond 24 = .ok (.aload_n 0, 1) := by decide +kernel
theorem dX6_passSecond_25 : decode cX6_passSecond 25 = .ok (.getfield 47, 3) := by decide +kernel
theorem dX6_passSecond_28 : decode cX6_passSecond 28 = .ok (.invokevirtual 396, 3) := by decide +kernel
theorem dX6_passSecond_31 : decode cX6_passSecond 31 = .ok (.aload_n 0, 1) := by decide +kernel
theorem dX6_passSecond_32 : decode cX6_passSecond 32 = .ok (.getfield 50, 3) := by decide +kernel
theorem dX6_passSecond_35 : decode cX6_passSecond 35 = .ok (.invokevirtual 396, 3) := by decide +kernel
theorem dX6_passSecond_38 : decode cX6_passSecond 38 = .ok (.iconst 0, 1) := by decide +kernel
theorem dX6_passSecond_39 : decode cX6_passSecond 39 = .ok (.istore_n 1, 1) := by decide +kernel
theorem dX6_passSecond_40 : decode cX6_passSecond 40 = .ok (.aload_n 0, 1) := by decide +kernel
theorem dX6_passSecond_41 : decode cX6_passSecond 41 = .ok (.getfield 30, 3) := by decide +kernel
theorem dX6_passSecond_44 : decode cX6_passSecond 44 = .ok (.astore_n 2, 1) := by decide +kernel
theorem dX6_passSecond_45 : decode cX6_passSecond 45 = .ok (.aload_n 2, 1) := by decide +kernel
theorem dX6_passSecond_46 : decode cX6_passSecond 46 = .ok (.arraylength, 1) := by decide +kernel
theorem dX6_passSecond_47 : decode cX6_passSecond 47 = .ok (.istore_n 3, 1) := by decide +kernel
theorem dX6_passSecond_48 : decode cX6_passSecond 48 = .ok (.iconst 0, 1) := by decide +kernel
theorem dX6_passSecond_49 : decode cX6_passSecond 49 = .ok (.istore 4, 2) := by decide +kernel
theorem dX6_passSecond_51 : decode cX6_passSecond 51 = .ok (.iload 4, 2) := by decide +kernel
theorem dX6_passSecond_53 : decode cX6_passSecond 53 = .ok (.iload_n 3, 1) := by decide +kernel
theorem dX6_passSecond_54 : decode cX6_passSecond 54 = .ok (.if_icmp .ge 53, 3) := by decide +kernel
theorem dX6_passSecond_57 : decode cX6_passSecond 57 = .ok (.aload_n 2, 1) := by decide +kernel
theorem dX6_passSecond_58 : decode cX6_passSecond 58 = .ok (.iload 4, 2) := by decide +kernel
theorem dX6_passSecond_60 : decode cX6_passSecond 60 = .ok (.aaload, 1) := by decide +kernel
theorem dX6_passSecond_61 : decode cX6_passSecond 61 = .ok (.astore 5, 2) := by decide +kernel
theorem dX6_passSecond_63 : decode cX6_passSecond 63 = .ok (.aload 5, 2) := by decide +kernel
theorem dX6_passSecond_65 : decode cX6_passSecond 65 = .ok (.ifnull 36, 3) := by decide +kernel
theorem dX6_passSecond_101 : decode cX6_passSecond 101 = .ok (.iinc 4 1, 3) := by decide +kernel
theorem dX6_passSecond_104 : decode cX6_passSecond 104 = .ok (.goto (-53), 3) := by decide +kernel
theorem dX6_passSecond_107 : decode cX6_passSecond 107 = .ok (.iload_n 1, 1) := by decide +kernel
theorem dX6_passSecond_108 : decode cX6_passSecond 108 = .ok (.ireturn, 1) := by decide +kernel
def wzEX6_passSecond : List Cond := [.code yX6_passSecond cX6_passSecond 6 (some .int), .fieldLink RX6 60 "Gatherhouse" "secondsGone" "I", .fieldLink RX6 40 "Gatherhouse" "gatherer" "LGatherhouse$Role;", .code yX4_passSecond cX4_passSecond 1 none, .fieldLink RX4 7 "Gatherhouse$Role" "busy" "I", .methodLink RX4 16 Lib.Math.max.name, .static Lib.Math.max.name, .initialized "java/lang/Math", .code Lib.Math.max.name Lib.Math.max.code 2 (some .int), .initialized RX4, .instanceMethod yX4_passSecond, .selects RX4 yX4_passSecond yX4_passSecond, .fieldLink RX6 44 "Gatherhouse" "servitor" "LGatherhouse$Role;", .fieldLink RX6 47 "Gatherhouse" "gaffer" "LGatherhouse$Role;", .fieldLink RX6 50 "Gatherhouse" "boy" "LGatherhouse$Role;", .fieldLink RX6 30 "Gatherhouse" "pieces" "[LGatherhouse$Piece;"]
def wzX6_passSecond : List Cond := wzEX6_passSecond ++ (u_ws RX6 TX6 16 ++ (u_ws RX4 TX4 2))
theorem zgEX6_passSecond : wzEX6_passSecond.all goodWord = true := by decide +kernel
theorem zuX6_passSecond_X6 : ∀ w ∈ u_ws RX6 TX6 16, w ∈ wzX6_passSecond := (fun _ h => (List.mem_append_right _ (List.mem_append_left _ h)))
theorem zuX6_passSecond_X4 : ∀ w ∈ u_ws RX4 TX4 2, w ∈ wzX6_passSecond := (fun _ h => (List.mem_append_right _ (List.mem_append_right _ h)))
theorem gzX6_passSecond_X4_passSecond_396 : GoodIn wzX6_passSecond (wzX4_passSecond) := (goodIn_app (z_lift (goodIn_r wzEX4_passSecond [3, 4, 5, 6, 7, 8] rfl zgEX4_passSecond)) (goodIn_sub (fun _ h => (List.mem_append_right _ (List.mem_append_right _ h))) zgU_X4))
set_option maxHeartbeats 4000000 in
set_option maxRecDepth 100000 in
theorem zc_X6_passSecond (l : Launch) (D : va_G) (G : Nat × Nat × Nat) (xo : Nat) (xg : Nat) (xp : Nat) (xq : Nat) (r1 : Nat) (r2 : Nat) (r3 : Nat) (r4 : Nat) (se : Nat) (ts : Int32) (hq : Int32) (cq : ClassId) (sz : Nat) : Met l yX6_passSecond wzX6_passSecond ({ frames := 2, cells := 0, slots := 0, locals := 42 }) (va_Pc [.ref xo] (p_RW D G [(cq, .object "Gatherhouse$Piece")] [(xo, .inr (11, [.ref xg, .int 0, .ref xp, .int 0, .ref xq, .int 0, .ref r1, .ref r2, .ref r3, .ref r4, .ref se, .int ts, .int hq, .int 40, .int 0, .int 0])), (xq, .inl (cq, 16, .inr (.inr (.inr (.inr (fun _ => none)))))), (r1, .inr (9, [.int 0, .int 0])), (r2, .inr (9, [.int 0, .int 0])), (r3, .inr (9, [.int 0, .int 0])), (r4, .inr (9, [.int 0, .int 0]))] sz)) (va_Qi (fun (r : Int32) (u : Unit) => r = 0) (fun (u : Unit) (t : State) => q_RW D [(cq, .object "Gatherhouse$Piece")] [(xo, .inr (11, [.ref xg, .int 0, .ref xp, .int 0, .ref xq, .int 0, .ref r1, .ref r2, .ref r3, .ref r4, .ref se, .int (ts + 1), .int hq, .int 40, .int 0, .int 0])), (xq, .inl (cq, 16, .inr (.inr (.inr (.inr (fun _ => none)))))), (r1, .inr (9, [.int 0, .int 0])), (r2, .inr (9, [.int 0, .int 0])), (r3, .inr (9, [.int 0, .int 0])), (r4, .inr (9, [.int 0, .int 0]))] (va_A [(xo, .inr (11, [.ref xg, .int 0, .ref xp, .int 0, .ref xq, .int 0, .ref r1, .ref r2, .ref r3, .ref r4, .ref se, .int ts, .int hq, .int 40, .int 0, .int 0])), (xq, .inl (cq, 16, .inr (.inr (.inr (.inr (fun _ => none)))))), (r1, .inr (9, [.int 0, .int 0])), (r2, .inr (9, [.int 0, .int 0])), (r3, .inr (9, [.int 0, .int 0])), (r4, .inr (9, [.int 0, .int 0]))] sz) t) (va_A [(xo, .inr (11, [.ref xg, .int 0, .ref xp, .int 0, .ref xq, .int 0, .ref r1, .ref r2, .ref r3, .ref r4, .ref se, .int ts, .int hq, .int 40, .int 0, .int 0])), (xq, .inl (cq, 16, .inr (.inr (.inr (.inr (fun _ => none)))))), (r1, .inr (9, [.int 0, .int 0])), (r2, .inr (9, [.int 0, .int 0])), (r3, .inr (9, [.int 0, .int 0])), (r4, .inr (9, [.int 0, .int 0]))] sz)) 0 0 (va_A [(xo, .inr (11, [.ref xg, .int 0, .ref xp, .int 0, .ref xq, .int 0, .ref r1, .ref r2, .ref r3, .ref r4, .ref se, .int ts, .int hq, .int 40, .int 0, .int 0])), (xq, .inl (cq, 16, .inr (.inr (.inr (.inr (fun _ => none)))))), (r1, .inr (9, [.int 0, .int 0])), (r2, .inr (9, [.int 0, .int 0])), (r3, .inr (9, [.int 0, .int 0])), (r4, .inr (9, [.int 0, .int 0]))] sz) := by
  refine Met.ofW (cc := cX6_passSecond) (maxL := 6) (ret := (some .int)) (by decide) rfl ?_
  intro p e s m args below meth c s₁ B hml hv
  obtain ⟨rfl, hsz, hP, hK, hD0, hT, hZ⟩ := hv
  have hx := B.exec
  have hb := B.bytes
  have hr := B.returns
  have hts := atoms_spec (ws := wzX6_passSecond) B.pre
  have hown : s.vm.findClass RX6 = some m.cls := findClass_of_methodNamed B.named
  have hlocks := B.notSynchronized
  subst hsz
  have hD := hD0.self (sz := s.heap.size)
  generalize hAe : va_A [(xo, .inr (11, [.ref xg, .int 0, .ref xp, .int 0, .ref xq, .int 0, .ref r1, .ref r2, .ref r3, .ref r4, .ref se, .int ts, .int hq, .int 40, .int 0, .int 0])), (xq, .inl (cq, 16, .inr (.inr (.inr (.inr (fun _ => none)))))), (r1, .inr (9, [.int 0, .int 0])), (r2, .inr (9, [.int 0, .int 0])), (r3, .inr (9, [.int 0, .int 0])), (r4, .inr (9, [.int 0, .int 0]))] s.heap.size = A at hD hZ ⊢
  have hA : ∀ q : Nat, s.heap.size ≤ q → A q := fun q h => by rw [← hAe]; exact Or.inr h
  have hS : va_S A s.heap s.heap [] := va_S.rf
  have hl := lv_entry ([.ref xo]) (n := 6) (Nat.le_of_ble_eq_true rfl)
  rw [lg_entry_eq]
  generalize (lg_sl ([.ref xo]) ++ List.replicate (6 - (lg_sl ([.ref xo])).length) Slot.unset).toArray = ls at hl ⊢
  have hl : lv_has ls 6 [(0, .ref xo)] := hl
  refine lv_aload_n hx hb dX6_passSecond_0 rfl (lv_at hl 0 rfl) ?_
  refine lv_dup hx hb dX6_passSecond_1 rfl ?_
  refine va_get (D := D) (cl := vwCl) (ci := 11) (v := .int ts) (C := RX6) (T := TX6) (N := 16) hx hb hts zuX6_passSecond_X6 hown hK hP 0 rfl rfl 11 (by decide) (hts (.fieldLink RX6 60 "Gatherhouse" "secondsGone" "I") (by decide +kernel)) (fun _ h9 => h9) rfl dX6_passSecond_2 ?_
  refine lv_iconst (v := 1) hx hb dX6_passSecond_5 (by decide) ?_
  refine lv_iadd hx hb dX6_passSecond_6 ?_
  refine va_put (D := D) (cl := vwCl) (ci := 11) (v := .int (ts + 1)) (ty := .int) (C := RX6) (T := TX6) (N := 16) hx hb hts zuX6_passSecond_X6 tyX6 tyX6_ok nmX6 hown hK hP hD hS 0 rfl rfl 11 (by decide) (hts (.fieldLink RX6 60 "Gatherhouse" "secondsGone" "I") (by decide +kernel)) (fun _ h9 => h9) rfl (by decide +kernel) rfl rfl (Nat.le_of_ble_eq_true rfl) dX6_passSecond_7 (fun H locs hP hD hS => ?_)
  have hP : va_P D vwCl [(xo, .inr (11, [.ref xg, .int 0, .ref xp, .int 0, .ref xq, .int 0, .ref r1, .ref r2, .ref r3, .ref r4, .ref se, .int (ts + 1), .int hq, .int 40, .int 0, .int 0])), (xq, .inl (cq, 16, .inr (.inr (.inr (.inr (fun _ => none)))))), (r1, .inr (9, [.int 0, .int 0])), (r2, .inr (9, [.int 0, .int 0])), (r3, .inr (9, [.int 0, .int 0])), (r4, .inr (9, [.int 0, .int 0]))] H := hP
  have hD : va_D A [(xo, .inr (11, [.ref xg, .int 0, .ref xp, .int 0, .ref xq, .int 0, .ref r1, .ref r2, .ref r3, .ref r4, .ref se, .int (ts + 1), .int hq, .int 40, .int 0, .int 0])), (xq, .inl (cq, 16, .inr (.inr (.inr (.inr (fun _ => none)))))), (r1, .inr (9, [.int 0, .int 0])), (r2, .inr (9, [.int 0, .int 0])), (r3, .inr (9, [.int 0, .int 0])), (r4, .inr (9, [.int 0, .int 0]))] := hD
  refine lv_aload_n hx hb dX6_passSecond_10 rfl (lv_at hl 0 rfl) ?_
  refine va_get (D := D) (cl := vwCl) (ci := 11) (v := .ref r1) (C := RX6) (T := TX6) (N := 16) hx hb hts zuX6_passSecond_X6 hown hK hP 0 rfl rfl 6 (by decide) (hts (.fieldLink RX6 40 "Gatherhouse" "gatherer" "LGatherhouse$Role;") (by decide +kernel)) (fun _ h9 => h9) rfl dX6_passSecond_11 ?_
  have hFc := va_free (wc := [(r1, .inr (9, [.int 0, .int 0]))]) hD hS hA [2] rfl
  refine va_callv (va_runVN (As := []) (rest := []) ⟨hx, hb, hml, hown, hts⟩ (zc_X4_passSecond l D G r1 0 H.size) ⟨va_cnB 0 hts gzX6_passSecond_X4_passSecond_396 rfl rfl rfl (hT.1 ("Gatherhouse", 396, ⟨"Gatherhouse$Role", "passSecond", "()V"⟩, "Gatherhouse") (by decide +kernel)) (hts (.initialized RX4) (by decide +kernel)) (by decide +kernel) ⟨(Nat.le_of_ble_eq_true rfl), (Nat.le_of_ble_eq_true rfl)⟩, (hts (.instanceMethod yX4_passSecond) (by decide +kernel)), (hts (.selects RX4 yX4_passSecond yX4_passSecond) (by decide +kernel))⟩ ⟨p_RW_blind, va_recv hK hP (ci := 9) (q0 := 2) rfl rfl, (p_RW_at (tc := []) (wc := [(r1, .inr (9, [.int 0, .int 0]))]) hP hK hD hS hA hT hZ [2] [] rfl rfl (by decide) rfl [.ref r1])⟩ rfl rfl hl.1 rfl (lv_room (Nat.le_of_ble_eq_true rfl)) dX6_passSecond_14 ⟨(Nat.le_of_ble_eq_true rfl), (Nat.le_of_ble_eq_true rfl)⟩) hS (fun q _ h => hFc q h) hFc (fun u t H locs ht hvm w_94 hB hz1 hk1 hS => ?_)
  obtain ⟨hP, hD, hK⟩ := q_join (D := D) (wc := [(r1, .inr (9, [.int 0, .int 0]))]) (wr := [(xo, .inr (11, [.ref xg, .int 0, .ref xp, .int 0, .ref xq, .int 0, .ref r1, .ref r2, .ref r3, .ref r4, .ref se, .int (ts + 1), .int hq, .int 40, .int 0, .int 0])), (xq, .inl (cq, 16, .inr (.inr (.inr (.inr (fun _ => none)))))), (r2, .inr (9, [.int 0, .int 0])), (r3, .inr (9, [.int 0, .int 0])), (r4, .inr (9, [.int 0, .int 0]))]) (w1 := [(r1, .inr (9, [.int 0, .int 0]))]) (tyr := [(cq, .object "Gatherhouse$Piece")]) (ty1 := []) hP hD hK [2] [0, 1, 3, 4, 5] [0] rfl rfl (by decide) (by decide) rfl hFc hk1 ht hvm hB
  have hP : va_P D vwCl [(xo, .inr (11, [.ref xg, .int 0, .ref xp, .int 0, .ref xq, .int 0, .ref r1, .ref r2, .ref r3, .ref r4, .ref se, .int (ts + 1), .int hq, .int 40, .int 0, .int 0])), (xq, .inl (cq, 16, .inr (.inr (.inr (.inr (fun _ => none)))))), (r2, .inr (9, [.int 0, .int 0])), (r3, .inr (9, [.int 0, .int 0])), (r4, .inr (9, [.int 0, .int 0])), (r1, .inr (9, [.int 0, .int 0]))] H := hP
  have hD : va_D A [(xo, .inr (11, [.ref xg, .int 0, .ref xp, .int 0, .ref xq, .int 0, .ref r1, .ref r2, .ref r3, .ref r4, .ref se, .int (ts + 1), .int hq, .int 40, .int 0, .int 0])), (xq, .inl (cq, 16, .inr (.inr (.inr (.inr (fun _ => none)))))), (r2, .inr (9, [.int 0, .int 0])), (r3, .inr (9, [.int 0, .int 0])), (r4, .inr (9, [.int 0, .int 0])), (r1, .inr (9, [.int 0, .int 0]))] := hD
  have hK : va_K D vwCl [(cq, .object "Gatherhouse$Piece")] s := hK
  refine lv_aload_n hx hb dX6_passSecond_17 rfl (lv_at hl 0 rfl) ?_
  refine va_get (D := D) (cl := vwCl) (ci := 11) (v := .ref r2) (C := RX6) (T := TX6) (N := 16) hx hb hts zuX6_passSecond_X6 hown hK hP 0 rfl rfl 7 (by decide) (hts (.fieldLink RX6 44 "Gatherhouse" "servitor" "LGatherhouse$Role;") (by decide +kernel)) (fun _ h9 => h9) rfl dX6_passSecond_18 ?_
  have hFc := va_free (wc := [(r2, .inr (9, [.int 0, .int 0]))]) hD hS hA [2] rfl
  refine va_callv (va_runVN (As := []) (rest := []) ⟨hx, hb, hml, hown, hts⟩ (zc_X4_passSecond l D G r2 0 H.size) ⟨va_cnB 0 hts gzX6_passSecond_X4_passSecond_396 rfl rfl rfl (hT.1 ("Gatherhouse", 396, ⟨"Gatherhouse$Role", "passSecond", "()V"⟩, "Gatherhouse") (by decide +kernel)) (hts (.initialized RX4) (by decide +kernel)) (by decide +kernel) ⟨(Nat.le_of_ble_eq_true rfl), (Nat.le_of_ble_eq_true rfl)⟩, (hts (.instanceMethod yX4_passSecond) (by decide +kernel)), (hts (.selects RX4 yX4_passSecond yX4_passSecond) (by decide +kernel))⟩ ⟨p_RW_blind, va_recv hK hP (ci := 9) (q0 := 2) rfl rfl, (p_RW_at (tc := []) (wc := [(r2, .inr (9, [.int 0, .int 0]))]) hP hK hD hS hA hT hZ [2] [] rfl rfl (by decide) rfl [.ref r2])⟩ rfl rfl hl.1 rfl (lv_room (Nat.le_of_ble_eq_true rfl)) dX6_passSecond_21 ⟨(Nat.le_of_ble_eq_true rfl), (Nat.le_of_ble_eq_true rfl)⟩) hS (fun q _ h => hFc q h) hFc (fun u t H locs ht hvm w_96 hB hz1 hk1 hS => ?_)
  obtain ⟨hP, hD, hK⟩ := q_join (D := D) (wc := [(r2, .inr (9, [.int 0, .int 0]))]) (wr := [(xo, .inr (11, [.ref xg, .int 0, .ref xp, .int 0, .ref xq, .int 0, .ref r1, .ref r2, .ref r3, .ref r4, .ref se, .int (ts + 1), .int hq, .int 40, .int 0, .int 0])), (xq, .inl (cq, 16, .inr (.inr (.inr (.inr (fun _ => none)))))), (r3, .inr (9, [.int 0, .int 0])), (r4, .inr (9, [.int 0, .int 0])), (r1, .inr (9, [.int 0, .int 0]))]) (w1 := [(r2, .inr (9, [.int 0, .int 0]))]) (tyr := [(cq, .object "Gatherhouse$Piece")]) (ty1 := []) hP hD hK [2] [0, 1, 3, 4, 5] [0] rfl rfl (by decide) (by decide) rfl hFc hk1 ht hvm hB
  have hP : va_P D vwCl [(xo, .inr (11, [.ref xg, .int 0, .ref xp, .int 0, .ref xq, .int 0, .ref r1, .ref r2, .ref r3, .ref r4, .ref se, .int (ts + 1), .int hq, .int 40, .int 0, .int 0])), (xq, .inl (cq, 16, .inr (.inr (.inr (.inr (fun _ => none)))))), (r3, .inr (9, [.int 0, .int 0])), (r4, .inr (9, [.int 0, .int 0])), (r1, .inr (9, [.int 0, .int 0])), (r2, .inr (9, [.int 0, .int 0]))] H := hP
  have hD : va_D A [(xo, .inr (11, [.ref xg, .int 0, .ref xp, .int 0, .ref xq, .int 0, .ref r1, .ref r2, .ref r3, .ref r4, .ref se, .int (ts + 1), .int hq, .int 40, .int 0, .int 0])), (xq, .inl (cq, 16, .inr (.inr (.inr (.inr (fun _ => none)))))), (r3, .inr (9, [.int 0, .int 0])), (r4, .inr (9, [.int 0, .int 0])), (r1, .inr (9, [.int 0, .int 0])), (r2, .inr (9, [.int 0, .int 0]))] := hD
  have hK : va_K D vwCl [(cq, .object "Gatherhouse$Piece")] s := hK
  refine lv_aload_n hx hb dX6_passSecond_24 rfl (lv_at hl 0 rfl) ?_
  refine va_get (D := D) (cl := vwCl) (ci := 11) (v := .ref r3) (C := RX6) (T := TX6) (N := 16) hx hb hts zuX6_passSecond_X6 hown hK hP 0 rfl rfl 8 (by decide) (hts (.fieldLink RX6 47 "Gatherhouse" "gaffer" "LGatherhouse$Role;") (by decide +kernel)) (fun _ h9 => h9) rfl dX6_passSecond_25 ?_
  have hFc := va_free (wc := [(r3, .inr (9, [.int 0, .int 0]))]) hD hS hA [2] rfl
  refine va_callv (va_runVN (As := []) (rest := []) ⟨hx, hb, hml, hown, hts⟩ (zc_X4_passSecond l D G r3 0 H.size) ⟨va_cnB 0 hts gzX6_passSecond_X4_passSecond_396 rfl rfl rfl (hT.1 ("Gatherhouse", 396, ⟨"Gatherhouse$Role", "passSecond", "()V"⟩, "Gatherhouse") (by decide +kernel)) (hts (.initialized RX4) (by decide +kernel)) (by decide +kernel) ⟨(Nat.le_of_ble_eq_true rfl), (Nat.le_of_ble_eq_true rfl)⟩, (hts (.instanceMethod yX4_passSecond) (by decide +kernel)), (hts (.selects RX4 yX4_passSecond yX4_passSecond) (by decide +kernel))⟩ ⟨p_RW_blind, va_recv hK hP (ci := 9) (q0 := 2) rfl rfl, (p_RW_at (tc := []) (wc := [(r3, .inr (9, [.int 0, .int 0]))]) hP hK hD hS hA hT hZ [2] [] rfl rfl (by decide) rfl [.ref r3])⟩ rfl rfl hl.1 rfl (lv_room (Nat.le_of_ble_eq_true rfl)) dX6_passSecond_28 ⟨(Nat.le_of_ble_eq_true rfl), (Nat.le_of_ble_eq_true rfl)⟩) hS (fun q _ h => hFc q h) hFc (fun u t H locs ht hvm w_98 hB hz1 hk1 hS => ?_)
  obtain ⟨hP, hD, hK⟩ := q_join (D := D) (wc := [(r3, .inr (9, [.int 0, .int 0]))]) (wr := [(xo, .inr (11, [.ref xg, .int 0, .ref xp, .int 0, .ref xq, .int 0, .ref r1, .ref r2, .ref r3, .ref r4, .ref se, .int (ts + 1), .int hq, .int 40, .int 0, .int 0])), (xq, .inl (cq, 16, .inr (.inr (.inr (.inr (fun _ => none)))))), (r4, .inr (9, [.int 0, .int 0])), (r1, .inr (9, [.int 0, .int 0])), (r2, .inr (9, [.int 0, .int 0]))]) (w1 := [(r3, .inr (9, [.int 0, .int 0]))]) (tyr := [(cq, .object "Gatherhouse$Piece")]) (ty1 := []) hP hD hK [2] [0, 1, 3, 4, 5] [0] rfl rfl (by decide) (by decide) rfl hFc hk1 ht hvm hB
  have hP : va_P D vwCl [(xo, .inr (11, [.ref xg, .int 0, .ref xp, .int 0, .ref xq, .int 0, .ref r1, .ref r2, .ref r3, .ref r4, .ref se, .int (ts + 1), .int hq, .int 40, .int 0, .int 0])), (xq, .inl (cq, 16, .inr (.inr (.inr (.inr (fun _ => none)))))), (r4, .inr (9, [.int 0, .int 0])), (r1, .inr (9, [.int 0, .int 0])), (r2, .inr (9, [.int 0, .int 0])), (r3, .inr (9, [.int 0, .int 0]))] H := hP
  have hD : va_D A [(xo, .inr (11, [.ref xg, .int 0, .ref xp, .int 0, .ref xq, .int 0, .ref r1, .ref r2, .ref r3, .ref r4, .ref se, .int (ts + 1), .int hq, .int 40, .int 0, .int 0])), (xq, .inl (cq, 16, .inr (.inr (.inr (.inr (fun _ => none)))))), (r4, .inr (9, [.int 0, .int 0])), (r1, .inr (9, [.int 0, .int 0])), (r2, .inr (9, [.int 0, .int 0])), (r3, .inr (9, [.int 0, .int 0]))] := hD
  have hK : va_K D vwCl [(cq, .object "Gatherhouse$Piece")] s := hK
  refine lv_aload_n hx hb dX6_passSecond_31 rfl (lv_at hl 0 rfl) ?_
  refine va_get (D := D) (cl := vwCl) (ci := 11) (v := .ref r4) (C := RX6) (T := TX6) (N := 16) hx hb hts zuX6_passSecond_X6 hown hK hP 0 rfl rfl 9 (by decide) (hts (.fieldLink RX6 50 "Gatherhouse" "boy" "LGatherhouse$Role;") (by decide +kernel)) (fun _ h9 => h9) rfl dX6_passSecond_32 ?_
  have hFc := va_free (wc := [(r4, .inr (9, [.int 0, .int 0]))]) hD hS hA [2] rfl
  refine va_callv (va_runVN (As := []) (rest := []) ⟨hx, hb, hml, hown, hts⟩ (zc_X4_passSecond l D G r4 0 H.size) ⟨va_cnB 0 hts gzX6_passSecond_X4_passSecond_396 rfl rfl rfl (hT.1 ("Gatherhouse", 396, ⟨"Gatherhouse$Role", "passSecond", "()V"⟩, "Gatherhouse") (by decide +kernel)) (hts (.initialized RX4) (by decide +kernel)) (by decide +kernel) ⟨(Nat.le_of_ble_eq_true rfl), (Nat.le_of_ble_eq_true rfl)⟩, (hts (.instanceMethod yX4_passSecond) (by decide +kernel)), (hts (.selects RX4 yX4_passSecond yX4_passSecond) (by decide +kernel))⟩ ⟨p_RW_blind, va_recv hK hP (ci := 9) (q0 := 2) rfl rfl, (p_RW_at (tc := []) (wc := [(r4, .inr (9, [.int 0, .int 0]))]) hP hK hD hS hA hT hZ [2] [] rfl rfl (by decide) rfl [.ref r4])⟩ rfl rfl hl.1 rfl (lv_room (Nat.le_of_ble_eq_true rfl)) dX6_passSecond_35 ⟨(Nat.le_of_ble_eq_true rfl), (Nat.le_of_ble_eq_true rfl)⟩) hS (fun q _ h => hFc q h) hFc (fun u t H locs ht hvm w_100 hB hz1 hk1 hS => ?_)
  obtain ⟨hP, hD, hK⟩ := q_join (D := D) (wc := [(r4, .inr (9, [.int 0, .int 0]))]) (wr := [(xo, .inr (11, [.ref xg, .int 0, .ref xp, .int 0, .ref xq, .int 0, .ref r1, .ref r2, .ref r3, .ref r4, .ref se, .int (ts + 1), .int hq, .int 40, .int 0, .int 0])), (xq, .inl (cq, 16, .inr (.inr (.inr (.inr (fun _ => none)))))), (r1, .inr (9, [.int 0, .int 0])), (r2, .inr (9, [.int 0, .int 0])), (r3, .inr (9, [.int 0, .int 0]))]) (w1 := [(r4, .inr (9, [.int 0, .int 0]))]) (tyr := [(cq, .object "Gatherhouse$Piece")]) (ty1 := []) hP hD hK [2] [0, 1, 3, 4, 5] [0] rfl rfl (by decide) (by decide) rfl hFc hk1 ht hvm hB
  have hP : va_P D vwCl [(xo, .inr (11, [.ref xg, .int 0, .ref xp, .int 0, .ref xq, .int 0, .ref r1, .ref r2, .ref r3, .ref r4, .ref se, .int (ts + 1), .int hq, .int 40, .int 0, .int 0])), (xq, .inl (cq, 16, .inr (.inr (.inr (.inr (fun _ => none)))))), (r1, .inr (9, [.int 0, .int 0])), (r2, .inr (9, [.int 0, .int 0])), (r3, .inr (9, [.int 0, .int 0])), (r4, .inr (9, [.int 0, .int 0]))] H := hP
  have hD : va_D A [(xo, .inr (11, [.ref xg, .int 0, .ref xp, .int 0, .ref xq, .int 0, .ref r1, .ref r2, .ref r3, .ref r4, .ref se, .int (ts + 1), .int hq, .int 40, .int 0, .int 0])), (xq, .inl (cq, 16, .inr (.inr (.inr (.inr (fun _ => none)))))), (r1, .inr (9, [.int 0, .int 0])), (r2, .inr (9, [.int 0, .int 0])), (r3, .inr (9, [.int 0, .int 0])), (r4, .inr (9, [.int 0, .int 0]))] := hD
  have hK : va_K D vwCl [(cq, .object "Gatherhouse$Piece")] s := hK
  refine lv_iconst (v := 0) hx hb dX6_passSecond_38 (by decide) ?_
  refine lv_istore_n (lv' := [(1, .int 0), (0, .ref xo)]) hx hb dX6_passSecond_39 rfl hl (by decide) rfl (fun ls hl => ?_)
  refine lv_aload_n hx hb dX6_passSecond_40 rfl (lv_at hl 1 rfl) ?_
  refine va_get (D := D) (cl := vwCl) (ci := 11) (v := .ref xq) (C := RX6) (T := TX6) (N := 16) hx hb hts zuX6_passSecond_X6 hown hK hP 0 rfl rfl 4 (by decide) (hts (.fieldLink RX6 30 "Gatherhouse" "pieces" "[LGatherhouse$Piece;") (by decide +kernel)) (fun _ h9 => h9) rfl dX6_passSecond_41 ?_
  refine lv_astore_n (lv' := [(2, .ref xq), (1, .int 0), (0, .ref xo)]) hx hb dX6_passSecond_44 rfl hl (by decide) rfl (fun ls hl => ?_)
  refine lv_aload_n hx hb dX6_passSecond_45 rfl (lv_at hl 0 rfl) ?_
  refine va_alen (D := D) (cl := vwCl) (v := 16) hx hb hK hP 1 0 rfl rfl (by decide) dX6_passSecond_46 ?_
  refine lv_istore_n (lv' := [(3, .int 16), (2, .ref xq), (1, .int 0), (0, .ref xo)]) hx hb dX6_passSecond_47 rfl hl (by decide) rfl (fun ls hl => ?_)
  refine lv_iconst (v := 0) hx hb dX6_passSecond_48 (by decide) ?_
  refine lv_istore (lv' := [(4, .int 0), (3, .int 16), (2, .ref xq), (1, .int 0), (0, .ref xo)]) hx hb dX6_passSecond_49 hl (by decide) rfl (fun ls hl => ?_)
  refine lv_iload hx hb dX6_passSecond_51 (lv_at hl 0 rfl) ?_
  refine lv_iload_n hx hb dX6_passSecond_53 rfl (lv_at hl 1 rfl) ?_
  refine lv_icmp_ge (tgt := 107) hx hb dX6_passSecond_54 (by decide) (fun cc => absurd cc (by decide)) (fun _ => ?_)
  refine lv_aload_n hx hb dX6_passSecond_57 rfl (lv_at hl 2 rfl) ?_
  refine lv_iload hx hb dX6_passSecond_58 (lv_at hl 0 rfl) ?_
  refine va_aldq (D := D) (cl := vwCl) hx hb hK hP 1 0 rfl rfl (vp_in_nI (n := 0) (N := 16) (by decide) (by decide)) dX6_passSecond_60 ?_
  refine W.eq (g2 := F0 m 61 ls [.null]) rfl ?_
  refine lv_astoreN (lv' := [(5, .null), (4, .int 0), (3, .int 16), (2, .ref xq), (1, .int 0), (0, .ref xo)]) hx hb dX6_passSecond_61 hl (by decide) rfl (fun ls hl => ?_)
  refine lv_aloadN hx hb dX6_passSecond_63 (lv_at hl 0 rfl) ?_
  refine lv_ifnullN (tgt := 101) hx hb dX6_passSecond_65 (by decide) ?_
  obtain ⟨x_101, ex_101⟩ : ∃ y : Int32, y = 0 + 1 := ⟨_, rfl⟩
  have ex_101 : x_101 = 1 := ex_101.trans (by decide)
  subst ex_101
  refine lv_iinc (v := 1) (lv' := [(4, .int 1), (5, .null), (3, .int 16), (2, .ref xq), (1, .int 0), (0, .ref xo)]) hx hb dX6_passSecond_101 hl (k := 1) rfl (by decide) (by decide) rfl (fun ls hl => ?_)
  refine lv_goto (tgt := 51) hx hb dX6_passSecond_104 (by decide) ?_
  refine lv_iload hx hb dX6_passSecond_51 (lv_at hl 0 rfl) ?_
  refine lv_iload_n hx hb dX6_passSecond_53 rfl (lv_at hl 2 rfl) ?_
  refine lv_icmp_ge (tgt := 107) hx hb dX6_passSecond_54 (by decide) (fun cc => absurd cc (by decide)) (fun _ => ?_)
  refine lv_aload_n hx hb dX6_passSecond_57 rfl (lv_at hl 3 rfl) ?_
  refine lv_iload hx hb dX6_passSecond_58 (lv_at hl 0 rfl) ?_
  refine va_aldq (D := D) (cl := vwCl) hx hb hK hP 1 0 rfl rfl (vp_in_nI (n := 1) (N := 16) (by decide) (by decide)) dX6_passSecond_60 ?_
  refine W.eq (g2 := F0 m 61 ls [.null]) rfl ?_
  refine lv_astoreN (lv' := [(5, .null), (4, .int 1), (3, .int 16), (2, .ref xq), (1, .int 0), (0, .ref xo)]) hx hb dX6_passSecond_61 hl (by decide) rfl (fun ls hl => ?_)
  refine lv_aloadN hx hb dX6_passSecond_63 (lv_at hl 0 rfl) ?_
  refine lv_ifnullN (tgt := 101) hx hb dX6_passSecond_65 (by decide) ?_
  obtain ⟨x_102, ex_102⟩ : ∃ y : Int32, y = 1 + 1 := ⟨_, rfl⟩
  have ex_102 : x_102 = 2 := ex_102.trans (by decide)
  subst ex_102
  refine lv_iinc (v := 2) (lv' := [(4, .int 2), (5, .null), (3, .int 16), (2, .ref xq), (1, .int 0), (0, .ref xo)]) hx hb dX6_passSecond_101 hl (k := 1) rfl (by decide) (by decide) rfl (fun ls hl => ?_)
  refine lv_goto (tgt := 51) hx hb dX6_passSecond_104 (by decide) ?_
  refine lv_iload hx hb dX6_passSecond_51 (lv_at hl 0 rfl) ?_
  refine lv_iload_n hx hb dX6_passSecond_53 rfl (lv_at hl 2 rfl) ?_
  refine lv_icmp_ge (tgt := 107) hx hb dX6_passSecond_54 (by decide) (fun cc => absurd cc (by decide)) (fun _ => ?_)
  refine lv_aload_n hx hb dX6_passSecond_57 rfl (lv_at hl 3 rfl) ?_
  refine lv_iload hx hb dX6_passSecond_58 (lv_at hl 0 rfl) ?_
  refine va_aldq (D := D) (cl := vwCl) hx hb hK hP 1 0 rfl rfl (vp_in_nI (n := 2) (N := 16) (by decide) (by decide)) dX6_passSecond_60 ?_
  refine W.eq (g2 := F0 m 61 ls [.null]) rfl ?_
  refine lv_astoreN (lv' := [(5, .null), (4, .int 2), (3, .int 16), (2, .ref xq), (1, .int 0), (0, .ref xo)]) hx hb dX6_passSecond_61 hl (by decide) rfl (fun ls hl => ?_)
  refine lv_aloadN hx hb dX6_passSecond_63 (lv_at hl 0 rfl) ?_
  refine lv_ifnullN (tgt := 101) hx hb dX6_passSecond_65 (by decide) ?_
  obtain ⟨x_103, ex_103⟩ : ∃ y : Int32, y = 2 + 1 := ⟨_, rfl⟩
  have ex_103 : x_103 = 3 := ex_103.trans (by decide)
  subst ex_103
  refine lv_iinc (v := 3) (lv' := [(4, .int 3), (5, .null), (3, .int 16), (2, .ref xq), (1, .int 0), (0, .ref xo)]) hx hb dX6_passSecond_101 hl (k := 1) rfl (by decide) (by decide) rfl (fun ls hl => ?_)
  refine lv_goto (tgt := 51) hx hb dX6_passSecond_104 (by decide) ?_
  refine lv_iload hx hb dX6_passSecond_51 (lv_at hl 0 rfl) ?_
  refine lv_iload_n hx hb dX6_passSecond_53 rfl (lv_at hl 2 rfl) ?_
  refine lv_icmp_ge (tgt := 107) hx hb dX6_passSecond_54 (by decide) (fun cc => absurd cc (by decide)) (fun _ => ?_)
  refine lv_aload_n hx hb dX6_passSecond_57 rfl (lv_at hl 3 rfl) ?_
  refine lv_iload hx hb dX6_passSecond_58 (lv_at hl 0 rfl) ?_
  refine va_aldq (D := D) (cl := vwCl) hx hb hK hP 1 0 rfl rfl (vp_in_nI (n := 3) (N := 16) (by decide) (by decide)) dX6_passSecond_60 ?_
  refine W.eq (g2 := F0 m 61 ls [.null]) rfl ?_
  refine lv_astoreN (lv' := [(5, .null), (4, .int 3), (3, .int 16), (2, .ref xq), (1, .int 0), (0, .ref xo)]) hx hb dX6_passSecond_61 hl (by decide) rfl (fun ls hl => ?_)
  refine lv_aloadN hx hb dX6_passSecond_63 (lv_at hl 0 rfl) ?_
  refine lv_ifnullN (tgt := 101) hx hb dX6_passSecond_65 (by decide) ?_
  obtain ⟨x_104, ex_104⟩ : ∃ y : Int32, y = 3 + 1 := ⟨_, rfl⟩
  have ex_104 : x_104 = 4 := ex_104.trans (by decide)
  subst ex_104
  refine lv_iinc (v := 4) (lv' := [(4, .int 4), (5, .null), (3, .int 16), (2, .ref xq), (1, .int 0), (0, .ref xo)]) hx hb dX6_passSecond_101 hl (k := 1) rfl (by decide) (by decide) rfl (fun ls hl => ?_)
  refine lv_goto (tgt := 51) hx hb dX6_passSecond_104 (by decide) ?_
  refine lv_iload hx hb dX6_passSecond_51 (lv_at hl 0 rfl) ?_
  refine lv_iload_n hx hb dX6_passSecond_53 rfl (lv_at hl 2 rfl) ?_
  refine lv_icmp_ge (tgt := 107) hx hb dX6_passSecond_54 (by decide) (fun cc => absurd cc (by decide)) (fun _ => ?_)
  refine lv_aload_n hx hb dX6_passSecond_57 rfl (lv_at hl 3 rfl) ?_
  refine lv_iload hx hb dX6_passSecond_58 (lv_at hl 0 rfl) ?_
  refine va_aldq (D := D) (cl := vwCl) hx hb hK hP 1 0 rfl rfl (vp_in_nI (n := 4) (N := 16) (by decide) (by decide)) dX6_passSecond_60 ?_
  refine W.eq (g2 := F0 m 61 ls [.null]) rfl ?_
  refine lv_astoreN (lv' := [(5, .null), (4, .int 4), (3, .int 16), (2, .ref xq), (1, .int 0), (0, .ref xo)]) hx hb dX6_passSecond_61 hl (by decide) rfl (fun ls hl => ?_)
  refine lv_aloadN hx hb dX6_passSecond_63 (lv_at hl 0 rfl) ?_
  refine lv_ifnullN (tgt := 101) hx hb dX6_passSecond_65 (by decide) ?_
  obtain ⟨x_105, ex_105⟩ : ∃ y : Int32, y = 4 + 1 := ⟨_, rfl⟩
  have ex_105 : x_105 = 5 := ex_105.trans (by decide)
  subst ex_105
  refine lv_iinc (v := 5) (lv' := [(4, .int 5), (5, .null), (3, .int 16), (2, .ref xq), (1, .int 0), (0, .ref xo)]) hx hb dX6_passSecond_101 hl (k := 1) rfl (by decide) (by decide) rfl (fun ls hl => ?_)
  refine lv_goto (tgt := 51) hx hb dX6_passSecond_104 (by decide) ?_
  refine lv_iload hx hb dX6_passSecond_51 (lv_at hl 0 rfl) ?_
  refine lv_iload_n hx hb dX6_passSecond_53 rfl (lv_at hl 2 rfl) ?_
  refine lv_icmp_ge (tgt := 107) hx hb dX6_passSecond_54 (by decide) (fun cc => absurd cc (by decide)) (fun _ => ?_)
  refine lv_aload_n hx hb dX6_passSecond_57 rfl (lv_at hl 3 rfl) ?_
  refine lv_iload hx hb dX6_passSecond_58 (lv_at hl 0 rfl) ?_
  refine va_aldq (D := D) (cl := vwCl) hx hb hK hP 1 0 rfl rfl (vp_in_nI (n := 5) (N := 16) (by decide) (by decide)) dX6_passSecond_60 ?_
  refine W.eq (g2 := F0 m 61 ls [.null]) rfl ?_
  refine lv_astoreN (lv' := [(5, .null), (4, .int 5), (3, .int 16), (2, .ref xq), (1, .int 0), (0, .ref xo)]) hx hb dX6_passSecond_61 hl (by decide) rfl (fun ls hl => ?_)
  refine lv_aloadN hx hb dX6_passSecond_63 (lv_at hl 0 rfl) ?_
  refine lv_ifnullN (tgt := 101) hx hb dX6_passSecond_65 (by decide) ?_
  obtain ⟨x_106, ex_106⟩ : ∃ y : Int32, y = 5 + 1 := ⟨_, rfl⟩
  have ex_106 : x_106 = 6 := ex_106.trans (by decide)
  subst ex_106
  refine lv_iinc (v := 6) (lv' := [(4, .int 6), (5, .null), (3, .int 16), (2, .ref xq), (1, .int 0), (0, .ref xo)]) hx hb dX6_passSecond_101 hl (k := 1) rfl (by decide) (by decide) rfl (fun ls hl => ?_)
  refine lv_goto (tgt := 51) hx hb dX6_passSecond_104 (by decide) ?_
  refine lv_iload hx hb dX6_passSecond_51 (lv_at hl 0 rfl) ?_
  refine lv_iload_n hx hb dX6_passSecond_53 rfl (lv_at hl 2 rfl) ?_
  refine lv_icmp_ge (tgt := 107) hx hb dX6_passSecond_54 (by decide) (fun cc => absurd cc (by decide)) (fun _ => ?_)
  refine lv_aload_n hx hb dX6_passSecond_57 rfl (lv_at hl 3 rfl) ?_
  refine lv_iload hx hb dX6_passSecond_58 (lv_at hl 0 rfl) ?_
  refine va_aldq (D := D) (cl := vwCl) hx hb hK hP 1 0 rfl rfl (vp_in_nI (n := 6) (N := 16) (by decide) (by decide)) dX6_passSecond_60 ?_
  refine W.eq (g2 := F0 m 61 ls [.null]) rfl ?_
  refine lv_astoreN (lv' := [(5, .null), (4, .int 6), (3, .int 16), (2, .ref xq), (1, .int 0), (0, .ref xo)]) hx hb dX6_passSecond_61 hl (by decide) rfl (fun ls hl => ?_)
  refine lv_aloadN hx hb dX6_passSecond_63 (lv_at hl 0 rfl) ?_
  refine lv_ifnullN (tgt := 101) hx hb dX6_passSecond_65 (by decide) ?_
  obtain ⟨x_107, ex_107⟩ : ∃ y : Int32, y = 6 + 1 := ⟨_, rfl⟩
  have ex_107 : x_107 = 7 := ex_107.trans (by decide)
  subst ex_107
  refine lv_iinc (v := 7) (lv' := [(4, .int 7), (5, .null), (3, .int 16), (2, .ref xq), (1, .int 0), (0, .ref xo)]) hx hb dX6_passSecond_101 hl (k := 1) rfl (by decide) (by decide) rfl (fun ls hl => ?_)
  refine lv_goto (tgt := 51) hx hb dX6_passSecond_104 (by decide) ?_
  refine lv_iload hx hb dX6_passSecond_51 (lv_at hl 0 rfl) ?_
  refine lv_iload_n hx hb dX6_passSecond_53 rfl (lv_at hl 2 rfl) ?_
  refine lv_icmp_ge (tgt := 107) hx hb dX6_passSecond_54 (by decide) (fun cc => absurd cc (by decide)) (fun _ => ?_)
  refine lv_aload_n hx hb dX6_passSecond_57 rfl (lv_at hl 3 rfl) ?_
  refine lv_iload hx hb dX6_passSecond_58 (lv_at hl 0 rfl) ?_
  refine va_aldq (D := D) (cl := vwCl) hx hb hK hP 1 0 rfl rfl (vp_in_nI (n := 7) (N := 16) (by decide) (by decide)) dX6_passSecond_60 ?_
  refine W.eq (g2 := F0 m 61 ls [.null]) rfl ?_
  refine lv_astoreN (lv' := [(5, .null), (4, .int 7), (3, .int 16), (2, .ref xq), (1, .int 0), (0, .ref xo)]) hx hb dX6_passSecond_61 hl (by decide) rfl (fun ls hl => ?_)
  refine lv_aloadN hx hb dX6_passSecond_63 (lv_at hl 0 rfl) ?_
  refine lv_ifnullN (tgt := 101) hx hb dX6_passSecond_65 (by decide) ?_
  obtain ⟨x_108, ex_108⟩ : ∃ y : Int32, y = 7 + 1 := ⟨_, rfl⟩
  have ex_108 : x_108 = 8 := ex_108.trans (by decide)
  subst ex_108
  refine lv_iinc (v := 8) (lv' := [(4, .int 8), (5, .null), (3, .int 16), (2, .ref xq), (1, .int 0), (0, .ref xo)]) hx hb dX6_passSecond_101 hl (k := 1) rfl (by decide) (by decide) rfl (fun ls hl => ?_)
  refine lv_goto (tgt := 51) hx hb dX6_passSecond_104 (by decide) ?_
  refine lv_iload hx hb dX6_passSecond_51 (lv_at hl 0 rfl) ?_
  refine lv_iload_n hx hb dX6_passSecond_53 rfl (lv_at hl 2 rfl) ?_
  refine lv_icmp_ge (tgt := 107) hx hb dX6_passSecond_54 (by decide) (fun cc => absurd cc (by decide)) (fun _ => ?_)
  refine lv_aload_n hx hb dX6_passSecond_57 rfl (lv_at hl 3 rfl) ?_
  refine lv_iload hx hb dX6_passSecond_58 (lv_at hl 0 rfl) ?_
  refine va_aldq (D := D) (cl := vwCl) hx hb hK hP 1 0 rfl rfl (vp_in_nI (n := 8) (N := 16) (by decide) (by decide)) dX6_passSecond_60 ?_
  refine W.eq (g2 := F0 m 61 ls [.null]) rfl ?_
  refine lv_astoreN (lv' := [(5, .null), (4, .int 8), (3, .int 16), (2, .ref xq), (1, .int 0), (0, .ref xo)]) hx hb dX6_passSecond_61 hl (by decide) rfl (fun ls hl => ?_)
  refine lv_aloadN hx hb dX6_passSecond_63 (lv_at hl 0 rfl) ?_
  refine lv_ifnullN (tgt := 101) hx hb dX6_passSecond_65 (by decide) ?_
  obtain ⟨x_109, ex_109⟩ : ∃ y : Int32, y = 8 + 1 := ⟨_, rfl⟩
  have ex_109 : x_109 = 9 := ex_109.trans (by decide)
  subst ex_109
  refine lv_iinc (v := 9) (lv' := [(4, .int 9), (5, .null), (3, .int 16), (2, .ref xq), (1, .int 0), (0, .ref xo)]) hx hb dX6_passSecond_101 hl (k := 1) rfl (by decide) (by decide) rfl (fun ls hl => ?_)
  refine lv_goto (tgt := 51) hx hb dX6_passSecond_104 (by decide) ?_
  refine lv_iload hx hb dX6_passSecond_51 (lv_at hl 0 rfl) ?_
  refine lv_iload_n hx hb dX6_passSecond_53 rfl (lv_at hl 2 rfl) ?_
  refine lv_icmp_ge (tgt := 107) hx hb dX6_passSecond_54 (by decide) (fun cc => absurd cc (by decide)) (fun _ => ?_)
  refine lv_aload_n hx hb dX6_passSecond_57 rfl (lv_at hl 3 rfl) ?_
  refine lv_iload hx hb dX6_passSecond_58 (lv_at hl 0 rfl) ?_
  refine va_aldq (D := D) (cl := vwCl) hx hb hK hP 1 0 rfl rfl (vp_in_nI (n := 9) (N := 16) (by decide) (by decide)) dX6_passSecond_60 ?_
  refine W.eq (g2 := F0 m 61 ls [.null]) rfl ?_
  refine lv_astoreN (lv' := [(5, .null), (4, .int 9), (3, .int 16), (2, .ref xq), (1, .int 0), (0, .ref xo)]) hx hb dX6_passSecond_61 hl (by decide) rfl (fun ls hl => ?_)
  refine lv_aloadN hx hb dX6_passSecond_63 (lv_at hl 0 rfl) ?_
  refine lv_ifnullN (tgt := 101) hx hb dX6_passSecond_65 (by decide) ?_
  obtain ⟨x_110, ex_110⟩ : ∃ y : Int32, y = 9 + 1 := ⟨_, rfl⟩
  have ex_110 : x_110 = 10 := ex_110.trans (by decide)
  subst ex_110
  refine lv_iinc (v := 10) (lv' := [(4, .int 10), (5, .null), (3, .int 16), (2, .ref xq), (1, .int 0), (0, .ref xo)]) hx hb dX6_passSecond_101 hl (k := 1) rfl (by decide) (by decide) rfl (fun ls hl => ?_)
  refine lv_goto (tgt := 51) hx hb dX6_passSecond_104 (by decide) ?_
  refine lv_iload hx hb dX6_passSecond_51 (lv_at hl 0 rfl) ?_
  refine lv_iload_n hx hb dX6_passSecond_53 rfl (lv_at hl 2 rfl) ?_
  refine lv_icmp_ge (tgt := 107) hx hb dX6_passSecond_54 (by decide) (fun cc => absurd cc (by decide)) (fun _ => ?_)
  refine lv_aload_n hx hb dX6_passSecond_57 rfl (lv_at hl 3 rfl) ?_
  refine lv_iload hx hb dX6_passSecond_58 (lv_at hl 0 rfl) ?_
  refine va_aldq (D := D) (cl := vwCl) hx hb hK hP 1 0 rfl rfl (vp_in_nI (n := 10) (N := 16) (by decide) (by decide)) dX6_passSecond_60 ?_
  refine W.eq (g2 := F0 m 61 ls [.null]) rfl ?_
  refine lv_astoreN (lv' := [(5, .null), (4, .int 10), (3, .int 16), (2, .ref xq), (1, .int 0), (0, .ref xo)]) hx hb dX6_passSecond_61 hl (by decide) rfl (fun ls hl => ?_)
  refine lv_aloadN hx hb dX6_passSecond_63 (lv_at hl 0 rfl) ?_
  refine lv_ifnullN (tgt := 101) hx hb dX6_passSecond_65 (by decide) ?_
  obtain ⟨x_111, ex_111⟩ : ∃ y : Int32, y = 10 + 1 := ⟨_, rfl⟩
  have ex_111 : x_111 = 11 := ex_111.trans (by decide)
  subst ex_111
  refine lv_iinc (v := 11) (lv' := [(4, .int 11), (5, .null), (3, .int 16), (2, .ref xq), (1, .int 0), (0, .ref xo)]) hx hb dX6_passSecond_101 hl (k := 1) rfl (by decide) (by decide) rfl (fun ls hl => ?_)
  refine lv_goto (tgt := 51) hx hb dX6_passSecond_104 (by decide) ?_
  refine lv_iload hx hb dX6_passSecond_51 (lv_at hl 0 rfl) ?_
  refine lv_iload_n hx hb dX6_passSecond_53 rfl (lv_at hl 2 rfl) ?_
  refine lv_icmp_ge (tgt := 107) hx hb dX6_passSecond_54 (by decide) (fun cc => absurd cc (by decide)) (fun _ => ?_)
  refine lv_aload_n hx hb dX6_passSecond_57 rfl (lv_at hl 3 rfl) ?_
  refine lv_iload hx hb dX6_passSecond_58 (lv_at hl 0 rfl) ?_
  refine va_aldq (D := D) (cl := vwCl) hx hb hK hP 1 0 rfl rfl (vp_in_nI (n := 11) (N := 16) (by decide) (by decide)) dX6_passSecond_60 ?_
  refine W.eq (g2 := F0 m 61 ls [.null]) rfl ?_
  refine lv_astoreN (lv' := [(5, .null), (4, .int 11), (3, .int 16), (2, .ref xq), (1, .int 0), (0, .ref xo)]) hx hb dX6_passSecond_61 hl (by decide) rfl (fun ls hl => ?_)
  refine lv_aloadN hx hb dX6_passSecond_63 (lv_at hl 0 rfl) ?_
  refine lv_ifnullN (tgt := 101) hx hb dX6_passSecond_65 (by decide) ?_
  obtain ⟨x_112, ex_112⟩ : ∃ y : Int32, y = 11 + 1 := ⟨_, rfl⟩
  have ex_112 : x_112 = 12 := ex_112.trans (by decide)
  subst ex_112
  refine lv_iinc (v := 12) (lv' := [(4, .int 12), (5, .null), (3, .int 16), (2, .ref xq), (1, .int 0), (0, .ref xo)]) hx hb dX6_passSecond_101 hl (k := 1) rfl (by decide) (by decide) rfl (fun ls hl => ?_)
  refine lv_goto (tgt := 51) hx hb dX6_passSecond_104 (by decide) ?_
  refine lv_iload hx hb dX6_passSecond_51 (lv_at hl 0 rfl) ?_
  refine lv_iload_n hx hb dX6_passSecond_53 rfl (lv_at hl 2 rfl) ?_
  refine lv_icmp_ge (tgt := 107) hx hb dX6_passSecond_54 (by decide) (fun cc => absurd cc (by decide)) (fun _ => ?_)
  refine lv_aload_n hx hb dX6_passSecond_57 rfl (lv_at hl 3 rfl) ?_
  refine lv_iload hx hb dX6_passSecond_58 (lv_at hl 0 rfl) ?_
  refine va_aldq (D := D) (cl := vwCl) hx hb hK hP 1 0 rfl rfl (vp_in_nI (n := 12) (N := 16) (by decide) (by decide)) dX6_passSecond_60 ?_
  refine W.eq (g2 := F0 m 61 ls [.null]) rfl ?_
  refine lv_astoreN (lv' := [(5, .null), (4, .int 12), (3, .int 16), (2, .ref xq), (1, .int 0), (0, .ref xo)]) hx hb dX6_passSecond_61 hl (by decide) rfl (fun ls hl => ?_)
  refine lv_aloadN hx hb dX6_passSecond_63 (lv_at hl 0 rfl) ?_
  refine lv_ifnullN (tgt := 101) hx hb dX6_passSecond_65 (by decide) ?_
  obtain ⟨x_113, ex_113⟩ : ∃ y : Int32, y = 12 + 1 := ⟨_, rfl⟩
  have ex_113 : x_113 = 13 := ex_113.trans (by decide)
  subst ex_113
  refine lv_iinc (v := 13) (lv' := [(4, .int 13), (5, .null), (3, .int 16), (2, .ref xq), (1, .int 0), (0, .ref xo)]) hx hb dX6_passSecond_101 hl (k := 1) rfl (by decide) (by decide) rfl (fun ls hl => ?_)
  refine lv_goto (tgt := 51) hx hb dX6_passSecond_104 (by decide) ?_
  refine lv_iload hx hb dX6_passSecond_51 (lv_at hl 0 rfl) ?_
  refine lv_iload_n hx hb dX6_passSecond_53 rfl (lv_at hl 2 rfl) ?_
  refine lv_icmp_ge (tgt := 107) hx hb dX6_passSecond_54 (by decide) (fun cc => absurd cc (by decide)) (fun _ => ?_)
  refine lv_aload_n hx hb dX6_passSecond_57 rfl (lv_at hl 3 rfl) ?_
  refine lv_iload hx hb dX6_passSecond_58 (lv_at hl 0 rfl) ?_
  refine va_aldq (D := D) (cl := vwCl) hx hb hK hP 1 0 rfl rfl (vp_in_nI (n := 13) (N := 16) (by decide) (by decide)) dX6_passSecond_60 ?_
  refine W.eq (g2 := F0 m 61 ls [.null]) rfl ?_
  refine lv_astoreN (lv' := [(5, .null), (4, .int 13), (3, .int 16), (2, .ref xq), (1, .int 0), (0, .ref xo)]) hx hb dX6_passSecond_61 hl (by decide) rfl (fun ls hl => ?_)
  refine lv_aloadN hx hb dX6_passSecond_63 (lv_at hl 0 rfl) ?_
  refine lv_ifnullN (tgt := 101) hx hb dX6_passSecond_65 (by decide) ?_
  obtain ⟨x_114, ex_114⟩ : ∃ y : Int32, y = 13 + 1 := ⟨_, rfl⟩
  have ex_114 : x_114 = 14 := ex_114.trans (by decide)
  subst ex_114
  refine lv_iinc (v := 14) (lv' := [(4, .int 14), (5, .null), (3, .int 16), (2, .ref xq), (1, .int 0), (0, .ref xo)]) hx hb dX6_passSecond_101 hl (k := 1) rfl (by decide) (by decide) rfl (fun ls hl => ?_)
  refine lv_goto (tgt := 51) hx hb dX6_passSecond_104 (by decide) ?_
  refine lv_iload hx hb dX6_passSecond_51 (lv_at hl 0 rfl) ?_
  refine lv_iload_n hx hb dX6_passSecond_53 rfl (lv_at hl 2 rfl) ?_
  refine lv_icmp_ge (tgt := 107) hx hb dX6_passSecond_54 (by decide) (fun cc => absurd cc (by decide)) (fun _ => ?_)
  refine lv_aload_n hx hb dX6_passSecond_57 rfl (lv_at hl 3 rfl) ?_
  refine lv_iload hx hb dX6_passSecond_58 (lv_at hl 0 rfl) ?_
  refine va_aldq (D := D) (cl := vwCl) hx hb hK hP 1 0 rfl rfl (vp_in_nI (n := 14) (N := 16) (by decide) (by decide)) dX6_passSecond_60 ?_
  refine W.eq (g2 := F0 m 61 ls [.null]) rfl ?_
  refine lv_astoreN (lv' := [(5, .null), (4, .int 14), (3, .int 16), (2, .ref xq), (1, .int 0), (0, .ref xo)]) hx hb dX6_passSecond_61 hl (by decide) rfl (fun ls hl => ?_)
  refine lv_aloadN hx hb dX6_passSecond_63 (lv_at hl 0 rfl) ?_
  refine lv_ifnullN (tgt := 101) hx hb dX6_passSecond_65 (by decide) ?_
  obtain ⟨x_115, ex_115⟩ : ∃ y : Int32, y = 14 + 1 := ⟨_, rfl⟩
  have ex_115 : x_115 = 15 := ex_115.trans (by decide)
  subst ex_115
  refine lv_iinc (v := 15) (lv' := [(4, .int 15), (5, .null), (3, .int 16), (2, .ref xq), (1, .int 0), (0, .ref xo)]) hx hb dX6_passSecond_101 hl (k := 1) rfl (by decide) (by decide) rfl (fun ls hl => ?_)
  refine lv_goto (tgt := 51) hx hb dX6_passSecond_104 (by decide) ?_
  refine lv_iload hx hb dX6_passSecond_51 (lv_at hl 0 rfl) ?_
  refine lv_iload_n hx hb dX6_passSecond_53 rfl (lv_at hl 2 rfl) ?_
  refine lv_icmp_ge (tgt := 107) hx hb dX6_passSecond_54 (by decide) (fun cc => absurd cc (by decide)) (fun _ => ?_)
  refine lv_aload_n hx hb dX6_passSecond_57 rfl (lv_at hl 3 rfl) ?_
  refine lv_iload hx hb dX6_passSecond_58 (lv_at hl 0 rfl) ?_
  refine va_aldq (D := D) (cl := vwCl) hx hb hK hP 1 0 rfl rfl (vp_in_nI (n := 15) (N := 16) (by decide) (by decide)) dX6_passSecond_60 ?_
  refine W.eq (g2 := F0 m 61 ls [.null]) rfl ?_
  refine lv_astoreN (lv' := [(5, .null), (4, .int 15), (3, .int 16), (2, .ref xq), (1, .int 0), (0, .ref xo)]) hx hb dX6_passSecond_61 hl (by decide) rfl (fun ls hl => ?_)
  refine lv_aloadN hx hb dX6_passSecond_63 (lv_at hl 0 rfl) ?_
  refine lv_ifnullN (tgt := 101) hx hb dX6_passSecond_65 (by decide) ?_
  obtain ⟨x_116, ex_116⟩ : ∃ y : Int32, y = 15 + 1 := ⟨_, rfl⟩
  have ex_116 : x_116 = 16 := ex_116.trans (by decide)
  subst ex_116
  refine lv_iinc (v := 16) (lv' := [(4, .int 16), (5, .null), (3, .int 16), (2, .ref xq), (1, .int 0), (0, .ref xo)]) hx hb dX6_passSecond_101 hl (k := 1) rfl (by decide) (by decide) rfl (fun ls hl => ?_)
  refine lv_goto (tgt := 51) hx hb dX6_passSecond_104 (by decide) ?_
  refine lv_iload hx hb dX6_passSecond_51 (lv_at hl 0 rfl) ?_
  refine lv_iload_n hx hb dX6_passSecond_53 rfl (lv_at hl 2 rfl) ?_
  refine lv_icmp_ge (tgt := 107) hx hb dX6_passSecond_54 (by decide) (fun _ => ?_) (fun cc => absurd (by decide) cc)
  refine lv_iload_n hx hb dX6_passSecond_107 rfl (lv_at hl 4 rfl) ?_
  exact W.iret (v := 0) hx hb hr (fun t ht hW => ⟨⟨0, (), rfl, rfl, q_RW_mk hP hK hD [0, 1, 2, 3, 4, 5] [0] rfl rfl (by decide) rfl ht hW.alike⟩, hS.F ht⟩) hS.2.2 dX6_passSecond_108
theorem dX6_findRole_0 : decode cX6_findRole 0 = .ok (.iload_n 1, 1) := by decide +kernel
theorem dX6_findRole_1 : decode cX6_findRole 1 = .ok (.lookupswitch 63 #[(98, 58), (102, 53), (103, 43), (115, 48)], 43) := by decide +kernel
theorem dX6_findRole_59 : decode cX6_findRole 59 = .ok (.aload_n 0, 1) := by decide +kernel
theorem dX6_findRole_60 : decode cX6_findRole 60 = .ok (.getfield 50, 3) := by decide +kernel
theorem dX6_findRole_63 : decode cX6_findRole 63 = .ok (.areturn, 1) := by decide +kernel
theorem dX6_findRole_54 : decode cX6_findRole 54 = .ok (.aload_n 0, 1) := by decide +kernel
theorem dX6_findRole_55 : decode cX6_findRole 55 = .ok (.getfield 47, 3) := by decide +kernel
theorem dX6_findRole_58 : decode cX6_findRole 58 = .ok (.areturn, 1) := by decide +kernel
theorem dX6_findRole_44 : decode cX6_findRole 44 = .ok (.aload_n 0, 1) := by decide +kernel
theorem dX6_findRole_45 : decode cX6_findRole 45 = .ok (.getfield 40, 3) := by decide +kernel
theorem dX6_findRole_48 : decode cX6_findRole 48 = .ok (.areturn, 1) := by decide +kernel
theorem dX6_findRole_49 : decode cX6_findRole 49 = .ok (.aload_n 0, 1) := by decide +kernel
theorem dX6_findRole_50 : decode cX6_findRole 50 = .ok (.getfield 44, 3) := by decide +kernel
theorem dX6_findRole_53 : decode cX6_findRole 53 = .ok (.areturn, 1) := by decide +kernel
theorem dX6_findRole_64 : decode cX6_findRole 64 = .ok (.new 118, 3) := by decide +kernel
theorem dX6_findRole_67 : decode cX6_findRole 67 = .ok (.dup, 1) := by decide +kernel
theorem dX6_findRole_68 : decode cX6_findRole 68 = .ok (.ldc_w 380, 3) := by decide +kernel
theorem dX6_findRole_71 : decode cX6_findRole 71 = .ok (.invokespecial 122, 3) := by decide +kernel
theorem dX6_findRole_74 : decode cX6_findRole 74 = .ok (.athrow, 1) := by decide +kernel
def wzEX6_findRole : List Cond := [.code yX6_findRole cX6_findRole 2 (some (.object "Gatherhouse$Role")), .fieldLink RX6 50 "Gatherhouse" "boy" "LGatherhouse$Role;", .fieldLink RX6 47 "Gatherhouse" "gaffer" "LGatherhouse$Role;", .fieldLink RX6 40 "Gatherhouse" "gatherer" "LGatherhouse$Role;", .fieldLink RX6 44 "Gatherhouse" "servitor" "LGatherhouse$Role;", .classLink RX6 118 "java/lang/IllegalArgumentException", .initialized "java/lang/IllegalArgumentException"]
def wzX6_findRole : List Cond := wzEX6_findRole ++ (u_ws RX6 TX6 16 ++ ((vx_atS RX6 122 "java/lang/IllegalArgumentException" ["java/lang/RuntimeException", "java/lang/Exception"]).filter goodWord))
theorem zgEX6_findRole : wzEX6_findRole.all goodWord = true := by decide +kernel
theorem zuX6_findRole_X6 : ∀ w ∈ u_ws RX6 TX6 16, w ∈ wzX6_findRole := (fun _ h => (List.mem_append_right _ (List.mem_append_left _ h)))
theorem ztX6_findRole_X6_122 : ∀ w ∈ (vx_atS RX6 122 "java/lang/IllegalArgumentException" ["java/lang/RuntimeException", "java/lang/Exception"]).filter goodWord, w ∈ wzX6_findRole := (fun _ h => (List.mem_append_right _ (List.mem_append_right _ h)))
set_option maxHeartbeats 4000000 in
set_option maxRecDepth 100000 in
theorem zc_X6_findRole (l : Launch) (hnt : l.stackTraces = false) (D : va_G) (G : Nat × Nat × Nat) (xo : Nat) (xg : Nat) (xp : Nat) (xq : Nat) (r1 : Nat) (r2 : Nat) (r3 : Nat) (r4 : Nat) (se : Nat) (ts : Int32) (hq : Int32) (ch : Int32) (sz : Nat) : vx_Met l yX6_findRole wzX6_findRole ({ frames := 6, cells := 1, slots := 6, locals := 82 }) (va_Pc [.ref xo, .int ch] (p_RW D G [] [(xo, .inr (11, [.ref xg, .int 0, .ref xp, .int 0, .ref xq, .int 0, .ref r1, .ref r2, .ref r3, .ref r4, .ref se, .int ts, .int hq, .int 40, .int 0, .int 0]))] sz)) (va_Qq (fun (r : Option Nat) (u : Unit) => (ch = 98 ∧ r = (some r4)) ∨ (ch = 102 ∧ r = (some r3)) ∨ (ch = 103 ∧ r = (some r1)) ∨ (ch = 115 ∧ r = (some r2))) (fun (u : Unit) (t : State) => q_RW D [] [(xo, .inr (11, [.ref xg, .int 0, .ref xp, .int 0, .ref xq, .int 0, .ref r1, .ref r2, .ref r3, .ref r4, .ref se, .int ts, .int hq, .int 40, .int 0, .int 0]))] (va_A [(xo, .inr (11, [.ref xg, .int 0, .ref xp, .int 0, .ref xq, .int 0, .ref r1, .ref r2, .ref r3, .ref r4, .ref se, .int ts, .int hq, .int 40, .int 0, .int 0]))] sz) t) (va_A [(xo, .inr (11, [.ref xg, .int 0, .ref xp, .int 0, .ref xq, .int 0, .ref r1, .ref r2, .ref r3, .ref r4, .ref se, .int ts, .int hq, .int 40, .int 0, .int 0]))] sz)) (vx_X (fun (_ : Unit) => True) (fun E (_ : Unit) (_ : State) => (E = "java/lang/IllegalArgumentException" ∧ (¬ isRole ch))) (va_A [(xo, .inr (11, [.ref xg, .int 0, .ref xp, .int 0, .ref xq, .int 0, .ref r1, .ref r2, .ref r3, .ref r4, .ref se, .int ts, .int hq, .int 40, .int 0, .int 0]))] sz)) 1 6 (va_A [(xo, .inr (11, [.ref xg, .int 0, .ref xp, .int 0, .ref xq, .int 0, .ref r1, .ref r2, .ref r3, .ref r4, .ref se, .int ts, .int hq, .int 40, .int 0, .int 0]))] sz) := by
  refine vx_ofW (cc := cX6_findRole) (maxL := 2) (ret := (some (.object "Gatherhouse$Role"))) (by decide) rfl ?_
  intro p e s m args below meth c s₁ B hml hxt hv
  obtain ⟨rfl, hsz, hP, hK, hD0, hT, hZ⟩ := hv
  have hx := B.exec
  have hb := B.bytes
  have hr := B.returns
  have hts := atoms_spec (ws := wzX6_findRole) B.pre
  have hown : s.vm.findClass RX6 = some m.cls := findClass_of_methodNamed B.named
  have hlocks := B.notSynchronized
  subst hsz
  have hD := hD0.self (sz := s.heap.size)
  generalize hAe : va_A [(xo, .inr (11, [.ref xg, .int 0, .ref xp, .int 0, .ref xq, .int 0, .ref r1, .ref r2, .ref r3, .ref r4, .ref se, .int ts, .int hq, .int 40, .int 0, .int 0]))] s.heap.size = A at hD hZ ⊢
  have hA : ∀ q : Nat, s.heap.size ≤ q → A q := fun q h => by rw [← hAe]; exact Or.inr h
  have hS : va_S A s.heap s.heap [] := va_S.rf
  have hl := lv_entry ([.ref xo, .int ch]) (n := 2) (Nat.le_of_ble_eq_true rfl)
  rw [lg_entry_eq]
  generalize (lg_sl ([.ref xo, .int ch]) ++ List.replicate (2 - (lg_sl ([.ref xo, .int ch])).length) Slot.unset).toArray = ls at hl ⊢
  have hl : lv_has ls 2 [(0, .ref xo), (1, .int ch)] := hl
  refine lv_iload_n hx hb dX6_findRole_0 rfl (lv_at hl 1 rfl) ?_
  by_cases c_117 : ch = 98
  · refine lv_lookup (off := 58) (tgt := 59) hx hb dX6_findRole_1 (by decide) (by rw [c_117]; rfl) (by decide) ?_
    refine lv_aload_n hx hb dX6_findRole_59 rfl (lv_at hl 0 rfl) ?_
    refine va_get (D := D) (cl := vwCl) (ci := 11) (v := .ref r4) (C := RX6) (T := TX6) (N := 16) hx hb hts zuX6_findRole_X6 hown hK hP 0 rfl rfl 9 (by decide) (hts (.fieldLink RX6 50 "Gatherhouse" "boy" "LGatherhouse$Role;") (by decide +kernel)) (fun _ h9 => h9) rfl dX6_findRole_60 ?_
    refine W.widen (k := 1) (n := 6) (Nat.le_of_ble_eq_true rfl) (Nat.le_of_ble_eq_true rfl) ?_
    refine vx_ret ?_
    exact W.aret (v := .ref r4) hx hb hr (Or.inl ⟨_, rfl⟩) (Or.inr ⟨_, rfl⟩) (fun t ht hW => ⟨⟨some r4, (), rfl, (by first | exact Or.inl (⟨(by first | assumption | exact inR_1 (by assumption) (by assumption) | exact inR_2 (by assumption) (by assumption) | exact inR_3 (by assumption) | exact inR_4 (by assumption) | exact inR_5 (by assumption) | exact ⟨by assumption, by assumption, by assumption, by assumption⟩ | exact ⟨by assumption, by assumption, by assumption⟩ | exact (fun q => absurd q.1 (by assumption)) | exact (fun q => absurd q.2.1 (by assumption)) | exact (fun q => absurd q.2.2 (by assumption)) | exact (fun q => absurd q.2.2.1 (by assumption)) | exact (fun q => absurd q.2.2.2 (by assumption)) | exact isRole_no (by assumption) (by assumption) (by assumption) (by assumption) | exact isRole_nb (by assumption) (by assumption) (by assumption) (by assumption) | exact isRole_out (by assumption) | exact enc_use (by assumption) (by assumption) (by assumption) | exact enc_103 (by assumption) | exact enc_103 (Eq.symm (by assumption)) | exact enc_115 (Eq.symm (by assumption)) | exact enc_102 (Eq.symm (by assumption)) | exact enc_98 (Eq.symm (by assumption)) | exact isRole_nc (by assumption) (by assumption) (by assumption) (by assumption) | exact enc_115 (by assumption) | exact enc_102 (by assumption) | exact enc_98 (by assumption) | exact Or.inr (by assumption) | rfl | exact Or.inl (by assumption) | exact Or.inr (Or.inl (by assumption)) | exact Or.inr (Or.inr (Or.inl (by assumption))) | exact Or.inr (Or.inr (Or.inr (by assumption))) | decide), (by first | rfl | assumption)⟩) | exact Or.inr (Or.inl (⟨(by first | assumption | exact inR_1 (by assumption) (by assumption) | exact inR_2 (by assumption) (by assumption) | exact inR_3 (by assumption) | exact inR_4 (by assumption) | exact inR_5 (by assumption) | exact ⟨by assumption, by assumption, by assumption, by assumption⟩ | exact ⟨by assumption, by assumption, by assumption⟩ | exact (fun q => absurd q.1 (by assumption)) | exact (fun q => absurd q.2.1 (by assumption)) | exact (fun q => absurd q.2.2 (by assumption)) | exact (fun q => absurd q.2.2.1 (by assumption)) | exact (fun q => absurd q.2.2.2 (by assumption)) | exact isRole_no (by assumption) (by assumption) (by assumption) (by assumption) | exact isRole_nb (by assumption) (by assumption) (by assumption) (by assumption) | exact isRole_out (by assumption) | exact enc_use (by assumption) (by assumption) (by assumption) | exact enc_103 (by assumption) | exact enc_103 (Eq.symm (by assumption)) | exact enc_115 (Eq.symm (by assumption)) | exact enc_102 (Eq.symm (by assumption)) | exact enc_98 (Eq.symm (by assumption)) | exact isRole_nc (by assumption) (by assumption) (by assumption) (by assumption) | exact enc_115 (by assumption) | exact enc_102 (by assumption) | exact enc_98 (by assumption) | exact Or.inr (by assumption) | rfl | exact Or.inl (by assumption) | exact Or.inr (Or.inl (by assumption)) | exact Or.inr (Or.inr (Or.inl (by assumption))) | exact Or.inr (Or.inr (Or.inr (by assumption))) | decide), (by first | rfl | assumption)⟩)) | exact Or.inr (Or.inr (Or.inl (⟨(by first | assumption | exact inR_1 (by assumption) (by assumption) | exact inR_2 (by assumption) (by assumption) | exact inR_3 (by assumption) | exact inR_4 (by assumption) | exact inR_5 (by assumption) | exact ⟨by assumption, by assumption, by assumption, by assumption⟩ | exact ⟨by assumption, by assumption, by assumption⟩ | exact (fun q => absurd q.1 (by assumption)) | exact (fun q => absurd q.2.1 (by assumption)) | exact (fun q => absurd q.2.2 (by assumption)) | exact (fun q => absurd q.2.2.1 (by assumption)) | exact (fun q => absurd q.2.2.2 (by assumption)) | exact isRole_no (by assumption) (by assumption) (by assumption) (by assumption) | exact isRole_nb (by assumption) (by assumption) (by assumption) (by assumption) | exact isRole_out (by assumption) | exact enc_use (by assumption) (by assumption) (by assumption) | exact enc_103 (by assumption) | exact enc_103 (Eq.symm (by assumption)) | exact enc_115 (Eq.symm (by assumption)) | exact enc_102 (Eq.symm (by assumption)) | exact enc_98 (Eq.symm (by assumption)) | exact isRole_nc (by assumption) (by assumption) (by assumption) (by assumption) | exact enc_115 (by assumption) | exact enc_102 (by assumption) | exact enc_98 (by assumption) | exact Or.inr (by assumption) | rfl | exact Or.inl (by assumption) | exact Or.inr (Or.inl (by assumption)) | exact Or.inr (Or.inr (Or.inl (by assumption))) | exact Or.inr (Or.inr (Or.inr (by assumption))) | decide), (by first | rfl | assumption)⟩))) | exact Or.inr (Or.inr (Or.inr (⟨(by first | assumption | exact inR_1 (by assumption) (by assumption) | exact inR_2 (by assumption) (by assumption) | exact inR_3 (by assumption) | exact inR_4 (by assumption) | exact inR_5 (by assumption) | exact ⟨by assumption, by assumption, by assumption, by assumption⟩ | exact ⟨by assumption, by assumption, by assumption⟩ | exact (fun q => absurd q.1 (by assumption)) | exact (fun q => absurd q.2.1 (by assumption)) | exact (fun q => absurd q.2.2 (by assumption)) | exact (fun q => absurd q.2.2.1 (by assumption)) | exact (fun q => absurd q.2.2.2 (by assumption)) | exact isRole_no (by assumption) (by assumption) (by assumption) (by assumption) | exact isRole_nb (by assumption) (by assumption) (by assumption) (by assumption) | exact isRole_out (by assumption) | exact enc_use (by assumption) (by assumption) (by assumption) | exact enc_103 (by assumption) | exact enc_103 (Eq.symm (by assumption)) | exact enc_115 (Eq.symm (by assumption)) | exact enc_102 (Eq.symm (by assumption)) | exact enc_98 (Eq.symm (by assumption)) | exact isRole_nc (by assumption) (by assumption) (by assumption) (by assumption) | exact enc_115 (by assumption) | exact enc_102 (by assumption) | exact enc_98 (by assumption) | exact Or.inr (by assumption) | rfl | exact Or.inl (by assumption) | exact Or.inr (Or.inl (by assumption)) | exact Or.inr (Or.inr (Or.inl (by assumption))) | exact Or.inr (Or.inr (Or.inr (by assumption))) | decide), (by first | rfl | assumption)⟩)))), q_RW_mk hP hK hD [0] [] rfl rfl (by decide) rfl ht hW.alike⟩, hS.F ht⟩) hS.2.2 dX6_findRole_63
  by_cases c_118 : ch = 102
  · refine lv_lookup (off := 53) (tgt := 54) hx hb dX6_findRole_1 (by decide) (by rw [c_118]; rfl) (by decide) ?_
    refine lv_aload_n hx hb dX6_findRole_54 rfl (lv_at hl 0 rfl) ?_
    refine va_get (D := D) (cl := vwCl) (ci := 11) (v := .ref r3) (C := RX6) (T := TX6) (N := 16) hx hb hts zuX6_findRole_X6 hown hK hP 0 rfl rfl 8 (by decide) (hts (.fieldLink RX6 47 "Gatherhouse" "gaffer" "LGatherhouse$Role;") (by decide +kernel)) (fun _ h9 => h9) rfl dX6_findRole_55 ?_
    refine W.widen (k := 1) (n := 6) (Nat.le_of_ble_eq_true rfl) (Nat.le_of_ble_eq_true rfl) ?_
    refine vx_ret ?_
    exact W.aret (v := .ref r3) hx hb hr (Or.inl ⟨_, rfl⟩) (Or.inr ⟨_, rfl⟩) (fun t ht hW => ⟨⟨some r3, (), rfl, (by first | exact Or.inl (⟨(by first | assumption | exact inR_1 (by assumption) (by assumption) | exact inR_2 (by assumption) (by assumption) | exact inR_3 (by assumption) | exact inR_4 (by assumption) | exact inR_5 (by assumption) | exact ⟨by assumption, by assumption, by assumption, by assumption⟩ | exact ⟨by assumption, by assumption, by assumption⟩ | exact (fun q => absurd q.1 (by assumption)) | exact (fun q => absurd q.2.1 (by assumption)) | exact (fun q => absurd q.2.2 (by assumption)) | exact (fun q => absurd q.2.2.1 (by assumption)) | exact (fun q => absurd q.2.2.2 (by assumption)) | exact isRole_no (by assumption) (by assumption) (by assumption) (by assumption) | exact isRole_nb (by assumption) (by assumption) (by assumption) (by assumption) | exact isRole_out (by assumption) | exact enc_use (by assumption) (by assumption) (by assumption) | exact enc_103 (by assumption) | exact enc_103 (Eq.symm (by assumption)) | exact enc_115 (Eq.symm (by assumption)) | exact enc_102 (Eq.symm (by assumption)) | exact enc_98 (Eq.symm (by assumption)) | exact isRole_nc (by assumption) (by assumption) (by assumption) (by assumption) | exact enc_115 (by assumption) | exact enc_102 (by assumption) | exact enc_98 (by assumption) | exact Or.inr (by assumption) | rfl | exact Or.inl (by assumption) | exact Or.inr (Or.inl (by assumption)) | exact Or.inr (Or.inr (Or.inl (by assumption))) | exact Or.inr (Or.inr (Or.inr (by assumption))) | decide), (by first | rfl | assumption)⟩) | exact Or.inr (Or.inl (⟨(by first | assumption | exact inR_1 (by assumption) (by assumption) | exact inR_2 (by assumption) (by assumption) | exact inR_3 (by assumption) | exact inR_4 (by assumption) | exact inR_5 (by assumption) | exact ⟨by assumption, by assumption, by assumption, by assumption⟩ | exact ⟨by assumption, by assumption, by assumption⟩ | exact (fun q => absurd q.1 (by assumption)) | exact (fun q => absurd q.2.1 (by assumption)) | exact (fun q => absurd q.2.2 (by assumption)) | exact (fun q => absurd q.2.2.1 (by assumption)) | exact (fun q => absurd q.2.2.2 (by assumption)) | exact isRole_no (by assumption) (by assumption) (by assumption) (by assumption) | exact isRole_nb (by assumption) (by assumption) (by assumption) (by assumption) | exact isRole_out (by assumption) | exact enc_use (by assumption) (by assumption) (by assumption) | exact enc_103 (by assumption) | exact enc_103 (Eq.symm (by assumption)) | exact enc_115 (Eq.symm (by assumption)) | exact enc_102 (Eq.symm (by assumption)) | exact enc_98 (Eq.symm (by assumption)) | exact isRole_nc (by assumption) (by assumption) (by assumption) (by assumption) | exact enc_115 (by assumption) | exact enc_102 (by assumption) | exact enc_98 (by assumption) | exact Or.inr (by assumption) | rfl | exact Or.inl (by assumption) | exact Or.inr (Or.inl (by assumption)) | exact Or.inr (Or.inr (Or.inl (by assumption))) | exact Or.inr (Or.inr (Or.inr (by assumption))) | decide), (by first | rfl | assumption)⟩)) | exact Or.inr (Or.inr (Or.inl (⟨(by first | assumption | exact inR_1 (by assumption) (by assumption) | exact inR_2 (by assumption) (by assumption) | exact inR_3 (by assumption) | exact inR_4 (by assumption) | exact inR_5 (by assumption) | exact ⟨by assumption, by assumption, by assumption, by assumption⟩ | exact ⟨by assumption, by assumption, by assumption⟩ | exact (fun q => absurd q.1 (by assumption)) | exact (fun q => absurd q.2.1 (by assumption)) | exact (fun q => absurd q.2.2 (by assumption)) | exact (fun q => absurd q.2.2.1 (by assumption)) | exact (fun q => absurd q.2.2.2 (by assumption)) | exact isRole_no (by assumption) (by assumption) (by assumption) (by assumption) | exact isRole_nb (by assumption) (by assumption) (by assumption) (by assumption) | exact isRole_out (by assumption) | exact enc_use (by assumption) (by assumption) (by assumption) | exact enc_103 (by assumption) | exact enc_103 (Eq.symm (by assumption)) | exact enc_115 (Eq.symm (by assumption)) | exact enc_102 (Eq.symm (by assumption)) | exact enc_98 (Eq.symm (by assumption)) | exact isRole_nc (by assumption) (by assumption) (by assumption) (by assumption) | exact enc_115 (by assumption) | exact enc_102 (by assumption) | exact enc_98 (by assumption) | exact Or.inr (by assumption) | rfl | exact Or.inl (by assumption) | exact Or.inr (Or.inl (by assumption)) | exact Or.inr (Or.inr (Or.inl (by assumption))) | exact Or.inr (Or.inr (Or.inr (by assumption))) | decide), (by first | rfl | assumption)⟩))) | exact Or.inr (Or.inr (Or.inr (⟨(by first | assumption | exact inR_1 (by assumption) (by assumption) | exact inR_2 (by assumption) (by assumption) | exact inR_3 (by assumption) | exact inR_4 (by assumption) | exact inR_5 (by assumption) | exact ⟨by assumption, by assumption, by assumption, by assumption⟩ | exact ⟨by assumption, by assumption, by assumption⟩ | exact (fun q => absurd q.1 (by assumption)) | exact (fun q => absurd q.2.1 (by assumption)) | exact (fun q => absurd q.2.2 (by assumption)) | exact (fun q => absurd q.2.2.1 (by assumption)) | exact (fun q => absurd q.2.2.2 (by assumption)) | exact isRole_no (by assumption) (by assumption) (by assumption) (by assumption) | exact isRole_nb (by assumption) (by assumption) (by assumption) (by assumption) | exact isRole_out (by assumption) | exact enc_use (by assumption) (by assumption) (by assumption) | exact enc_103 (by assumption) | exact enc_103 (Eq.symm (by assumption)) | exact enc_115 (Eq.symm (by assumption)) | exact enc_102 (Eq.symm (by assumption)) | exact enc_98 (Eq.symm (by assumption)) | exact isRole_nc (by assumption) (by assumption) (by assumption) (by assumption) | exact enc_115 (by assumption) | exact enc_102 (by assumption) | exact enc_98 (by assumption) | exact Or.inr (by assumption) | rfl | exact Or.inl (by assumption) | exact Or.inr (Or.inl (by assumption)) | exact Or.inr (Or.inr (Or.inl (by assumption))) | exact Or.inr (Or.inr (Or.inr (by assumption))) | decide), (by first | rfl | assumption)⟩)))), q_RW_mk hP hK hD [0] [] rfl rfl (by decide) rfl ht hW.alike⟩, hS.F ht⟩) hS.2.2 dX6_findRole_58
  by_cases c_119 : ch = 103
  · refine lv_lookup (off := 43) (tgt := 44) hx hb dX6_findRole_1 (by decide) (by rw [c_119]; rfl) (by decide) ?_
    refine lv_aload_n hx hb dX6_findRole_44 rfl (lv_at hl 0 rfl) ?_
    refine va_get (D := D) (cl := vwCl) (ci := 11) (v := .ref r1) (C := RX6) (T := TX6) (N := 16) hx hb hts zuX6_findRole_X6 hown hK hP 0 rfl rfl 6 (by decide) (hts (.fieldLink RX6 40 "Gatherhouse" "gatherer" "LGatherhouse$Role;") (by decide +kernel)) (fun _ h9 => h9) rfl dX6_findRole_45 ?_
    refine W.widen (k := 1) (n := 6) (Nat.le_of_ble_eq_true rfl) (Nat.le_of_ble_eq_true rfl) ?_
    refine vx_ret ?_
    exact W.aret (v := .ref r1) hx hb hr (Or.inl ⟨_, rfl⟩) (Or.inr ⟨_, rfl⟩) (fun t ht hW => ⟨⟨some r1, (), rfl, (by first | exact Or.inl (⟨(by first | assumption | exact inR_1 (by assumption) (by assumption) | exact inR_2 (by assumption) (by assumption) | exact inR_3 (by assumption) | exact inR_4 (by assumption) | exact inR_5 (by assumption) | exact ⟨by assumption, by assumption, by assumption, by assumption⟩ | exact ⟨by assumption, by assumption, by assumption⟩ | exact (fun q => absurd q.1 (by assumption)) | exact (fun q => absurd q.2.1 (by assumption)) | exact (fun q => absurd q.2.2 (by assumption)) | exact (fun q => absurd q.2.2.1 (by assumption)) | exact (fun q => absurd q.2.2.2 (by assumption)) | exact isRole_no (by assumption) (by assumption) (by assumption) (by assumption) | exact isRole_nb (by assumption) (by assumption) (by assumption) (by assumption) | exact isRole_out (by assumption) | exact enc_use (by assumption) (by assumption) (by assumption) | exact enc_103 (by assumption) | exact enc_103 (Eq.symm (by assumption)) | exact enc_115 (Eq.symm (by assumption)) | exact enc_102 (Eq.symm (by assumption)) | exact enc_98 (Eq.symm (by assumption)) | exact isRole_nc (by assumption) (by assumption) (by assumption) (by assumption) | exact enc_115 (by assumption) | exact enc_102 (by assumption) | exact enc_98 (by assumption) | exact Or.inr (by assumption) | rfl | exact Or.inl (by assumption) | exact Or.inr (Or.inl (by assumption)) | exact Or.inr (Or.inr (Or.inl (by assumption))) | exact Or.inr (Or.inr (Or.inr (by assumption))) | decide), (by first | rfl | assumption)⟩) | exact Or.inr (Or.inl (⟨(by first | assumption | exact inR_1 (by assumption) (by assumption) | exact inR_2 (by assumption) (by assumption) | exact inR_3 (by assumption) | exact inR_4 (by assumption) | exact inR_5 (by assumption) | exact ⟨by assumption, by assumption, by assumption, by assumption⟩ | exact ⟨by assumption, by assumption, by assumption⟩ | exact (fun q => absurd q.1 (by assumption)) | exact (fun q => absurd q.2.1 (by assumption)) | exact (fun q => absurd q.2.2 (by assumption)) | exact (fun q => absurd q.2.2.1 (by assumption)) | exact (fun q => absurd q.2.2.2 (by assumption)) | exact isRole_no (by assumption) (by assumption) (by assumption) (by assumption) | exact isRole_nb (by assumption) (by assumption) (by assumption) (by assumption) | exact isRole_out (by assumption) | exact enc_use (by assumption) (by assumption) (by assumption) | exact enc_103 (by assumption) | exact enc_103 (Eq.symm (by assumption)) | exact enc_115 (Eq.symm (by assumption)) | exact enc_102 (Eq.symm (by assumption)) | exact enc_98 (Eq.symm (by assumption)) | exact isRole_nc (by assumption) (by assumption) (by assumption) (by assumption) | exact enc_115 (by assumption) | exact enc_102 (by assumption) | exact enc_98 (by assumption) | exact Or.inr (by assumption) | rfl | exact Or.inl (by assumption) | exact Or.inr (Or.inl (by assumption)) | exact Or.inr (Or.inr (Or.inl (by assumption))) | exact Or.inr (Or.inr (Or.inr (by assumption))) | decide), (by first | rfl | assumption)⟩)) | exact Or.inr (Or.inr (Or.inl (⟨(by first | assumption | exact inR_1 (by assumption) (by assumption) | exact inR_2 (by assumption) (by assumption) | exact inR_3 (by assumption) | exact inR_4 (by assumption) | exact inR_5 (by assumption) | exact ⟨by assumption, by assumption, by assumption, by assumption⟩ | exact ⟨by assumption, by assumption, by assumption⟩ | exact (fun q => absurd q.1 (by assumption)) | exact (fun q => absurd q.2.1 (by assumption)) | exact (fun q => absurd q.2.2 (by assumption)) | exact (fun q => absurd q.2.2.1 (by assumption)) | exact (fun q => absurd q.2.2.2 (by assumption)) | exact isRole_no (by assumption) (by assumption) (by assumption) (by assumption) | exact isRole_nb (by assumption) (by assumption) (by assumption) (by assumption) | exact isRole_out (by assumption) | exact enc_use (by assumption) (by assumption) (by assumption) | exact enc_103 (by assumption) | exact enc_103 (Eq.symm (by assumption)) | exact enc_115 (Eq.symm (by assumption)) | exact enc_102 (Eq.symm (by assumption)) | exact enc_98 (Eq.symm (by assumption)) | exact isRole_nc (by assumption) (by assumption) (by assumption) (by assumption) | exact enc_115 (by assumption) | exact enc_102 (by assumption) | exact enc_98 (by assumption) | exact Or.inr (by assumption) | rfl | exact Or.inl (by assumption) | exact Or.inr (Or.inl (by assumption)) | exact Or.inr (Or.inr (Or.inl (by assumption))) | exact Or.inr (Or.inr (Or.inr (by assumption))) | decide), (by first | rfl | assumption)⟩))) | exact Or.inr (Or.inr (Or.inr (⟨(by first | assumption | exact inR_1 (by assumption) (by assumption) | exact inR_2 (by assumption) (by assumption) | exact inR_3 (by assumption) | exact inR_4 (by assumption) | exact inR_5 (by assumption) | exact ⟨by assumption, by assumption, by assumption, by assumption⟩ | exact ⟨by assumption, by assumption, by assumption⟩ | exact (fun q => absurd q.1 (by assumption)) | exact (fun q => absurd q.2.1 (by assumption)) | exact (fun q => absurd q.2.2 (by assumption)) | exact (fun q => absurd q.2.2.1 (by assumption)) | exact (fun q => absurd q.2.2.2 (by assumption)) | exact isRole_no (by assumption) (by assumption) (by assumption) (by assumption) | exact isRole_nb (by assumption) (by assumption) (by assumption) (by assumption) | exact isRole_out (by assumption) | exact enc_use (by assumption) (by assumption) (by assumption) | exact enc_103 (by assumption) | exact enc_103 (Eq.symm (by assumption)) | exact enc_115 (Eq.symm (by assumption)) | exact enc_102 (Eq.symm (by assumption)) | exact enc_98 (Eq.symm (by assumption)) | exact isRole_nc (by assumption) (by assumption) (by assumption) (by assumption) | exact enc_115 (by assumption) | exact enc_102 (by assumption) | exact enc_98 (by assumption) | exact Or.inr (by assumption) | rfl | exact Or.inl (by assumption) | exact Or.inr (Or.inl (by assumption)) | exact Or.inr (Or.inr (Or.inl (by assumption))) | exact Or.inr (Or.inr (Or.inr (by assumption))) | decide), (by first | rfl | assumption)⟩)))), q_RW_mk hP hK hD [0] [] rfl rfl (by decide) rfl ht hW.alike⟩, hS.F ht⟩) hS.2.2 dX6_findRole_48
  by_cases c_120 : ch = 115
  · refine lv_lookup (off := 48) (tgt := 49) hx hb dX6_findRole_1 (by decide) (by rw [c_120]; rfl) (by decide) ?_
    refine lv_aload_n hx hb dX6_findRole_49 rfl (lv_at hl 0 rfl) ?_
    refine va_get (D := D) (cl := vwCl) (ci := 11) (v := .ref r2) (C := RX6) (T := TX6) (N := 16) hx hb hts zuX6_findRole_X6 hown hK hP 0 rfl rfl 7 (by decide) (hts (.fieldLink RX6 44 "Gatherhouse" "servitor" "LGatherhouse$Role;") (by decide +kernel)) (fun _ h9 => h9) rfl dX6_findRole_50 ?_
    refine W.widen (k := 1) (n := 6) (Nat.le_of_ble_eq_true rfl) (Nat.le_of_ble_eq_true rfl) ?_
    refine vx_ret ?_
    exact W.aret (v := .ref r2) hx hb hr (Or.inl ⟨_, rfl⟩) (Or.inr ⟨_, rfl⟩) (fun t ht hW => ⟨⟨some r2, (), rfl, (by first | exact Or.inl (⟨(by first | assumption | exact inR_1 (by assumption) (by assumption) | exact inR_2 (by assumption) (by assumption) | exact inR_3 (by assumption) | exact inR_4 (by assumption) | exact inR_5 (by assumption) | exact ⟨by assumption, by assumption, by assumption, by assumption⟩ | exact ⟨by assumption, by assumption, by assumption⟩ | exact (fun q => absurd q.1 (by assumption)) | exact (fun q => absurd q.2.1 (by assumption)) | exact (fun q => absurd q.2.2 (by assumption)) | exact (fun q => absurd q.2.2.1 (by assumption)) | exact (fun q => absurd q.2.2.2 (by assumption)) | exact isRole_no (by assumption) (by assumption) (by assumption) (by assumption) | exact isRole_nb (by assumption) (by assumption) (by assumption) (by assumption) | exact isRole_out (by assumption) | exact enc_use (by assumption) (by assumption) (by assumption) | exact enc_103 (by assumption) | exact enc_103 (Eq.symm (by assumption)) | exact enc_115 (Eq.symm (by assumption)) | exact enc_102 (Eq.symm (by assumption)) | exact enc_98 (Eq.symm (by assumption)) | exact isRole_nc (by assumption) (by assumption) (by assumption) (by assumption) | exact enc_115 (by assumption) | exact enc_102 (by assumption) | exact enc_98 (by assumption) | exact Or.inr (by assumption) | rfl | exact Or.inl (by assumption) | exact Or.inr (Or.inl (by assumption)) | exact Or.inr (Or.inr (Or.inl (by assumption))) | exact Or.inr (Or.inr (Or.inr (by assumption))) | decide), (by first | rfl | assumption)⟩) | exact Or.inr (Or.inl (⟨(by first | assumption | exact inR_1 (by assumption) (by assumption) | exact inR_2 (by assumption) (by assumption) | exact inR_3 (by assumption) | exact inR_4 (by assumption) | exact inR_5 (by assumption) | exact ⟨by assumption, by assumption, by assumption, by assumption⟩ | exact ⟨by assumption, by assumption, by assumption⟩ | exact (fun q => absurd q.1 (by assumption)) | exact (fun q => absurd q.2.1 (by assumption)) | exact (fun q => absurd q.2.2 (by assumption)) | exact (fun q => absurd q.2.2.1 (by assumption)) | exact (fun q => absurd q.2.2.2 (by assumption)) | exact isRole_no (by assumption) (by assumption) (by assumption) (by assumption) | exact isRole_nb (by assumption) (by assumption) (by assumption) (by assumption) | exact isRole_out (by assumption) | exact enc_use (by assumption) (by assumption) (by assumption) | exact enc_103 (by assumption) | exact enc_103 (Eq.symm (by assumption)) | exact enc_115 (Eq.symm (by assumption)) | exact enc_102 (Eq.symm (by assumption)) | exact enc_98 (Eq.symm (by assumption)) | exact isRole_nc (by assumption) (by assumption) (by assumption) (by assumption) | exact enc_115 (by assumption) | exact enc_102 (by assumption) | exact enc_98 (by assumption) | exact Or.inr (by assumption) | rfl | exact Or.inl (by assumption) | exact Or.inr (Or.inl (by assumption)) | exact Or.inr (Or.inr (Or.inl (by assumption))) | exact Or.inr (Or.inr (Or.inr (by assumption))) | decide), (by first | rfl | assumption)⟩)) | exact Or.inr (Or.inr (Or.inl (⟨(by first | assumption | exact inR_1 (by assumption) (by assumption) | exact inR_2 (by assumption) (by assumption) | exact inR_3 (by assumption) | exact inR_4 (by assumption) | exact inR_5 (by assumption) | exact ⟨by assumption, by assumption, by assumption, by assumption⟩ | exact ⟨by assumption, by assumption, by assumption⟩ | exact (fun q => absurd q.1 (by assumption)) | exact (fun q => absurd q.2.1 (by assumption)) | exact (fun q => absurd q.2.2 (by assumption)) | exact (fun q => absurd q.2.2.1 (by assumption)) | exact (fun q => absurd q.2.2.2 (by assumption)) | exact isRole_no (by assumption) (by assumption) (by assumption) (by assumption) | exact isRole_nb (by assumption) (by assumption) (by assumption) (by assumption) | exact isRole_out (by assumption) | exact enc_use (by assumption) (by assumption) (by assumption) | exact enc_103 (by assumption) | exact enc_103 (Eq.symm (by assumption)) | exact enc_115 (Eq.symm (by assumption)) | exact enc_102 (Eq.symm (by assumption)) | exact enc_98 (Eq.symm (by assumption)) | exact isRole_nc (by assumption) (by assumption) (by assumption) (by assumption) | exact enc_115 (by assumption) | exact enc_102 (by assumption) | exact enc_98 (by assumption) | exact Or.inr (by assumption) | rfl | exact Or.inl (by assumption) | exact Or.inr (Or.inl (by assumption)) | exact Or.inr (Or.inr (Or.inl (by assumption))) | exact Or.inr (Or.inr (Or.inr (by assumption))) | decide), (by first | rfl | assumption)⟩))) | exact Or.inr (Or.inr (Or.inr (⟨(by first | assumption | exact inR_1 (by assumption) (by assumption) | exact inR_2 (by assumption) (by assumption) | exact inR_3 (by assumption) | exact inR_4 (by assumption) | exact inR_5 (by assumption) | exact ⟨by assumption, by assumption, by assumption, by assumption⟩ | exact ⟨by assumption, by assumption, by assumption⟩ | exact (fun q => absurd q.1 (by assumption)) | exact (fun q => absurd q.2.1 (by assumption)) | exact (fun q => absurd q.2.2 (by assumption)) | exact (fun q => absurd q.2.2.1 (by assumption)) | exact (fun q => absurd q.2.2.2 (by assumption)) | exact isRole_no (by assumption) (by assumption) (by assumption) (by assumption) | exact isRole_nb (by assumption) (by assumption) (by assumption) (by assumption) | exact isRole_out (by assumption) | exact enc_use (by assumption) (by assumption) (by assumption) | exact enc_103 (by assumption) | exact enc_103 (Eq.symm (by assumption)) | exact enc_115 (Eq.symm (by assumption)) | exact enc_102 (Eq.symm (by assumption)) | exact enc_98 (Eq.symm (by assumption)) | exact isRole_nc (by assumption) (by assumption) (by assumption) (by assumption) | exact enc_115 (by assumption) | exact enc_102 (by assumption) | exact enc_98 (by assumption) | exact Or.inr (by assumption) | rfl | exact Or.inl (by assumption) | exact Or.inr (Or.inl (by assumption)) | exact Or.inr (Or.inr (Or.inl (by assumption))) | exact Or.inr (Or.inr (Or.inr (by assumption))) | decide), (by first | rfl | assumption)⟩)))), q_RW_mk hP hK hD [0] [] rfl rfl (by decide) rfl ht hW.alike⟩, hS.F ht⟩) hS.2.2 dX6_findRole_53
  refine lv_lookup (off := 63) (tgt := 64) hx hb dX6_findRole_1 (by decide) ((lv_osw c_117 (by decide)).trans ((lv_osw c_118 (by decide)).trans ((lv_osw c_119 (by decide)).trans ((lv_osw c_120 (by decide)).trans rfl)))) (by decide) ?_
  obtain ⟨sa_121, hsa_121⟩ := hT.2.2.2.2.2.1 ("Gatherhouse", 380, "no such role") (by decide +kernel)
  refine vx_throwSW (own := RX6) (cls := "java/lang/IllegalArgumentException") (names := ["java/lang/RuntimeException", "java/lang/Exception"]) (A := A) hx hb hnt hown (by decide +kernel) (by decide +kernel) (hts (.classLink RX6 118 "java/lang/IllegalArgumentException") (by decide +kernel)) (hts (.initialized "java/lang/IllegalArgumentException") (by decide +kernel)) hsa_121 (z_throw (fun w h => hts w (ztX6_findRole_X6_122 w h)) (hT.2.2.1 ("java/lang/IllegalArgumentException", "java/lang/IllegalArgumentException") (by decide +kernel)) hT.2.2.2.2.2.2.2.1 (by decide +kernel)) (by decide +kernel) hZ.1 hZ.2.1 hS (hl.1.trans hml.symm) dX6_findRole_64 dX6_findRole_67 dX6_findRole_68 dX6_findRole_71 dX6_findRole_74 (fun x h => (hxt x h).elim) (Nat.le_of_ble_eq_true rfl) (Nat.le_of_ble_eq_true rfl) (Nat.le_of_ble_eq_true rfl) (Nat.le_of_ble_eq_true rfl) hlocks (fun t hvm hz1 hk1 => ⟨(), trivial, ⟨rfl, (by first | assumption | exact inR_1 (by assumption) (by assumption) | exact inR_2 (by assumption) (by assumption) | exact inR_3 (by assumption) | exact inR_4 (by assumption) | exact inR_5 (by assumption) | exact ⟨by assumption, by assumption, by assumption, by assumption⟩ | exact ⟨by assumption, by assumption, by assumption⟩ | exact (fun q => absurd q.1 (by assumption)) | exact (fun q => absurd q.2.1 (by assumption)) | exact (fun q => absurd q.2.2 (by assumption)) | exact (fun q => absurd q.2.2.1 (by assumption)) | exact (fun q => absurd q.2.2.2 (by assumption)) | exact isRole_no (by assumption) (by assumption) (by assumption) (by assumption) | exact isRole_nb (by assumption) (by assumption) (by assumption) (by assumption) | exact isRole_out (by assumption) | exact enc_use (by assumption) (by assumption) (by assumption) | exact enc_103 (by assumption) | exact enc_103 (Eq.symm (by assumption)) | exact enc_115 (Eq.symm (by assumption)) | exact enc_102 (Eq.symm (by assumption)) | exact enc_98 (Eq.symm (by assumption)) | exact isRole_nc (by assumption) (by assumption) (by assumption) (by assumption) | exact enc_115 (by assumption) | exact enc_102 (by assumption) | exact enc_98 (by assumption) | exact Or.inr (by assumption) | rfl | exact Or.inl (by assumption) | exact Or.inr (Or.inl (by assumption)) | exact Or.inr (Or.inr (Or.inl (by assumption))) | exact Or.inr (Or.inr (Or.inr (by assumption))) | decide)⟩, ⟨Nat.le_trans hS.1 hz1, fun q h1 h2 => (hk1 q (Nat.lt_of_lt_of_le h1 hS.1)).trans (hS.2.1 q h1 h2)⟩⟩) hS.2.2 (Nat.le_of_ble_eq_true rfl) (Nat.le_of_ble_eq_true rfl)
