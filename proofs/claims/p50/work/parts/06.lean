theorem dX4_init_0 : decode cX4_init 0 = .ok (.aload_n 0, 1) := by decide +kernel
theorem dX4_init_1 : decode cX4_init 1 = .ok (.invokespecial 1, 3) := by decide +kernel
theorem dX4_init_4 : decode cX4_init 4 = .ok (.aload_n 0, 1) := by decide +kernel
theorem dX4_init_5 : decode cX4_init 5 = .ok (.iconst 0, 1) := by decide +kernel
theorem dX4_init_6 : decode cX4_init 6 = .ok (.putfield 7, 3) := by decide +kernel
theorem dX4_init_9 : decode cX4_init 9 = .ok (.aload_n 0, 1) := by decide +kernel
theorem dX4_init_10 : decode cX4_init 10 = .ok (.iconst 0, 1) := by decide +kernel
theorem dX4_init_11 : decode cX4_init 11 = .ok (.putfield 13, 3) := by decide +kernel
theorem dX4_init_14 : decode cX4_init 14 = .ok (.return_, 1) := by decide +kernel
def wzEX4_init : List Cond := [.code yX4_init cX4_init 1 none, .methodLink RX4 1 objectInit, .instanceMethod objectInit, .code objectInit ⟨#[0xb1]⟩ 1 none, .fieldLink RX4 7 "Gatherhouse$Role" "busy" "I", .fieldLink RX4 13 "Gatherhouse$Role" "paid" "I"]
def wzX4_init : List Cond := wzEX4_init ++ (u_ws RX4 TX4 2)
theorem zgEX4_init : wzEX4_init.all goodWord = true := by decide +kernel
theorem zuX4_init_X4 : ∀ w ∈ u_ws RX4 TX4 2, w ∈ wzX4_init := (fun _ h => (List.mem_append_right _ h))
set_option maxHeartbeats 4000000 in
set_option maxRecDepth 100000 in
theorem zc_X4_init (l : Launch) (D : va_G) (G : Nat × Nat × (Nat → Int32)) (ro : Nat) (ba : Int32) (pd : Int32) (sz : Nat) : Met l yX4_init wzX4_init ({ frames := 1, cells := 0, slots := 0, locals := 12 }) (va_Pc [.ref ro] (p_RW D G [] [(ro, .inr (4, [.int ba, .int pd]))] sz)) (va_Qv (fun (u : Unit) => True) (fun (u : Unit) (t : State) => q_RW D [] [(ro, .inr (4, [.int 0, .int 0]))] (va_A [(ro, .inr (4, [.int ba, .int pd]))] sz) t) (va_A [(ro, .inr (4, [.int ba, .int pd]))] sz)) 0 0 (va_A [(ro, .inr (4, [.int ba, .int pd]))] sz) := by
  refine Met.ofW (cc := cX4_init) (maxL := 1) (ret := none) (by decide) rfl ?_
  intro p e s m args below meth c s₁ B hml hv
  obtain ⟨rfl, hsz, hP, hK, hD0, hT, hZ⟩ := hv
  have hx := B.exec
  have hb := B.bytes
  have hr := B.returns
  have hts := atoms_spec (ws := wzX4_init) B.pre
  have hown : s.vm.findClass RX4 = some m.cls := findClass_of_methodNamed B.named
  have hlocks := B.notSynchronized
  have hin : meth.name = "<init>" := (name_of_methodNamed B.named B.method).1
  subst hsz
  have hD := hD0.self (sz := s.heap.size)
  generalize hAe : va_A [(ro, .inr (4, [.int ba, .int pd]))] s.heap.size = A at hD hZ ⊢
  have hA : ∀ q : Nat, s.heap.size ≤ q → A q := fun q h => by rw [← hAe]; exact Or.inr h
  have hS : va_S A s.heap s.heap [] := va_S.rf
  have hl := lv_entry ([.ref ro]) (n := 1) (Nat.le_of_ble_eq_true rfl)
  rw [lg_entry_eq]
  generalize (lg_sl ([.ref ro]) ++ List.replicate (1 - (lg_sl ([.ref ro])).length) Slot.unset).toArray = ls at hl ⊢
  have hl : lv_has ls 1 [(0, .ref ro)] := hl
  refine lv_aload_n hx hb dX4_init_0 rfl (lv_at hl 0 rfl) ?_
  refine W.objInit hx hb hown (hts (.methodLink RX4 1 objectInit) (by decide +kernel)) (hts (.instanceMethod objectInit) (by decide +kernel)) (hts (.code objectInit ⟨#[0xb1]⟩ 1 none) (by decide +kernel)) rfl (by rw [hml]; exact hl.1) rfl dX4_init_1 (Nat.le_of_ble_eq_true rfl) (Nat.le_of_ble_eq_true rfl) ?_
  refine W.eq (g2 := F0 m 4 ls []) rfl ?_
  refine lv_aload_n hx hb dX4_init_4 rfl (lv_at hl 0 rfl) ?_
  refine lv_iconst (v := 0) hx hb dX4_init_5 (by decide) ?_
  refine va_put (D := D) (cl := vwCl) (ci := 4) (v := .int 0) (ty := .int) (C := RX4) (T := TX4) (N := 2) hx hb hts zuX4_init_X4 tyX4 tyX4_ok nmX4 hown hK hP hD hS 0 rfl rfl 0 (by decide) (hts (.fieldLink RX4 7 "Gatherhouse$Role" "busy" "I") (by decide +kernel)) (fun _ h9 => h9) rfl (by decide +kernel) rfl rfl (Nat.le_of_ble_eq_true rfl) dX4_init_6 (fun H locs hP hD hS => ?_)
  have hP : va_P D vwCl [(ro, .inr (4, [.int 0, .int pd]))] H := hP
  have hD : va_D A [(ro, .inr (4, [.int 0, .int pd]))] := hD
  refine lv_aload_n hx hb dX4_init_9 rfl (lv_at hl 0 rfl) ?_
  refine lv_iconst (v := 0) hx hb dX4_init_10 (by decide) ?_
  refine va_put (D := D) (cl := vwCl) (ci := 4) (v := .int 0) (ty := .int) (C := RX4) (T := TX4) (N := 2) hx hb hts zuX4_init_X4 tyX4 tyX4_ok nmX4 hown hK hP hD hS 0 rfl rfl 1 (by decide) (hts (.fieldLink RX4 13 "Gatherhouse$Role" "paid" "I") (by decide +kernel)) (fun _ h9 => h9) rfl (by decide +kernel) rfl rfl (Nat.le_of_ble_eq_true rfl) dX4_init_11 (fun H locs hP hD hS => ?_)
  have hP : va_P D vwCl [(ro, .inr (4, [.int 0, .int 0]))] H := hP
  have hD : va_D A [(ro, .inr (4, [.int 0, .int 0]))] := hD
  exact W.vret hx hb hr (fun t ht hW => ⟨⟨(), rfl, trivial, q_RW_mk hP hK hD [0] [] rfl rfl (by decide) rfl ht hW.alike⟩, hS.F ht⟩) hS.2.2 dX4_init_14
theorem dX5_init_0 : decode cX5_init 0 = .ok (.aload_n 0, 1) := by decide +kernel
theorem dX5_init_1 : decode cX5_init 1 = .ok (.invokespecial 3, 3) := by decide +kernel
theorem dX5_init_4 : decode cX5_init 4 = .ok (.aload_n 0, 1) := by decide +kernel
theorem dX5_init_5 : decode cX5_init 5 = .ok (.bipush 16, 2) := by decide +kernel
theorem dX5_init_7 : decode cX5_init 7 = .ok (.newarray .int, 2) := by decide +kernel
theorem dX5_init_9 : decode cX5_init 9 = .ok (.putfield 9, 3) := by decide +kernel
theorem dX5_init_12 : decode cX5_init 12 = .ok (.aload_n 0, 1) := by decide +kernel
theorem dX5_init_13 : decode cX5_init 13 = .ok (.bipush 16, 2) := by decide +kernel
theorem dX5_init_15 : decode cX5_init 15 = .ok (.newarray .int, 2) := by decide +kernel
theorem dX5_init_17 : decode cX5_init 17 = .ok (.putfield 15, 3) := by decide +kernel
theorem dX5_init_20 : decode cX5_init 20 = .ok (.aload_n 0, 1) := by decide +kernel
theorem dX5_init_21 : decode cX5_init 21 = .ok (.bipush 16, 2) := by decide +kernel
theorem dX5_init_23 : decode cX5_init 23 = .ok (.newarray .int, 2) := by decide +kernel
theorem dX5_init_25 : decode cX5_init 25 = .ok (.putfield 18, 3) := by decide +kernel
theorem dX5_init_28 : decode cX5_init 28 = .ok (.aload_n 0, 1) := by decide +kernel
theorem dX5_init_29 : decode cX5_init 29 = .ok (.iconst 0, 1) := by decide +kernel
theorem dX5_init_30 : decode cX5_init 30 = .ok (.putfield 21, 3) := by decide +kernel
theorem dX5_init_33 : decode cX5_init 33 = .ok (.aload_n 0, 1) := by decide +kernel
theorem dX5_init_34 : decode cX5_init 34 = .ok (.iconst 0, 1) := by decide +kernel
theorem dX5_init_35 : decode cX5_init 35 = .ok (.putfield 25, 3) := by decide +kernel
theorem dX5_init_38 : decode cX5_init 38 = .ok (.aload_n 0, 1) := by decide +kernel
theorem dX5_init_39 : decode cX5_init 39 = .ok (.iconst 0, 1) := by decide +kernel
theorem dX5_init_40 : decode cX5_init 40 = .ok (.putfield 28, 3) := by decide +kernel
theorem dX5_init_43 : decode cX5_init 43 = .ok (.aload_n 0, 1) := by decide +kernel
theorem dX5_init_44 : decode cX5_init 44 = .ok (.iconst 0, 1) := by decide +kernel
theorem dX5_init_45 : decode cX5_init 45 = .ok (.putfield 31, 3) := by decide +kernel
theorem dX5_init_48 : decode cX5_init 48 = .ok (.return_, 1) := by decide +kernel
def wzEX5_init : List Cond := [.code yX5_init cX5_init 1 none, .methodLink RX5 3 objectInit, .instanceMethod objectInit, .code objectInit ⟨#[0xb1]⟩ 1 none, .arrayClass .int, .fieldLink RX5 9 "Gatherhouse$SetSearch" "numbers" "[I", .fieldLink RX5 15 "Gatherhouse$SetSearch" "heights" "[I", .fieldLink RX5 18 "Gatherhouse$SetSearch" "masses" "[I", .fieldLink RX5 21 "Gatherhouse$SetSearch" "size" "I", .fieldLink RX5 25 "Gatherhouse$SetSearch" "bestApart" "I", .fieldLink RX5 28 "Gatherhouse$SetSearch" "bestMass" "I", .fieldLink RX5 31 "Gatherhouse$SetSearch" "bestChoice" "I"]
def wzX5_init : List Cond := wzEX5_init ++ (u_ws RX5 TX5 7)
theorem zgEX5_init : wzEX5_init.all goodWord = true := by decide +kernel
theorem zuX5_init_X5 : ∀ w ∈ u_ws RX5 TX5 7, w ∈ wzX5_init := (fun _ h => (List.mem_append_right _ h))
set_option maxHeartbeats 4000000 in
set_option maxRecDepth 100000 in
theorem zc_X5_init (l : Launch) (D : va_G) (G : Nat × Nat × (Nat → Int32)) (se : Nat) (sz : Nat) : Met l yX5_init wzX5_init ({ frames := 1, cells := 3, slots := 48, locals := 12 }) (va_Pc [.ref se] (p_RW D G [] [(se, .inr (5, [.null, .null, .null, .int 0, .int 0, .int 0, .int 0]))] sz)) (va_Qv (fun (u : Unit) => True) (fun (u : Unit) (t : State) => ∃ (n1 : Nat) (n2 : Nat) (n3 : Nat), q_RW D [] [(se, .inr (5, [.ref n1, .ref n2, .ref n3, .int 0, .int 0, .int 0, .int 0]))] (va_A [(se, .inr (5, [.null, .null, .null, .int 0, .int 0, .int 0, .int 0]))] sz) t) (va_A [(se, .inr (5, [.null, .null, .null, .int 0, .int 0, .int 0, .int 0]))] sz)) 3 48 (va_A [(se, .inr (5, [.null, .null, .null, .int 0, .int 0, .int 0, .int 0]))] sz) := by
  refine Met.ofW (cc := cX5_init) (maxL := 1) (ret := none) (by decide) rfl ?_
  intro p e s m args below meth c s₁ B hml hv
  obtain ⟨rfl, hsz, hP, hK, hD0, hT, hZ⟩ := hv
  have hx := B.exec
  have hb := B.bytes
  have hr := B.returns
  have hts := atoms_spec (ws := wzX5_init) B.pre
  have hown : s.vm.findClass RX5 = some m.cls := findClass_of_methodNamed B.named
  have hlocks := B.notSynchronized
  have hin : meth.name = "<init>" := (name_of_methodNamed B.named B.method).1
  subst hsz
  have hD := hD0.self (sz := s.heap.size)
  generalize hAe : va_A [(se, .inr (5, [.null, .null, .null, .int 0, .int 0, .int 0, .int 0]))] s.heap.size = A at hD hZ ⊢
  have hA : ∀ q : Nat, s.heap.size ≤ q → A q := fun q h => by rw [← hAe]; exact Or.inr h
  have hS : va_S A s.heap s.heap [] := va_S.rf
  have hl := lv_entry ([.ref se]) (n := 1) (Nat.le_of_ble_eq_true rfl)
  rw [lg_entry_eq]
  generalize (lg_sl ([.ref se]) ++ List.replicate (1 - (lg_sl ([.ref se])).length) Slot.unset).toArray = ls at hl ⊢
  have hl : lv_has ls 1 [(0, .ref se)] := hl
  refine lv_aload_n hx hb dX5_init_0 rfl (lv_at hl 0 rfl) ?_
  refine W.objInit hx hb hown (hts (.methodLink RX5 3 objectInit) (by decide +kernel)) (hts (.instanceMethod objectInit) (by decide +kernel)) (hts (.code objectInit ⟨#[0xb1]⟩ 1 none) (by decide +kernel)) rfl (by rw [hml]; exact hl.1) rfl dX5_init_1 (Nat.le_of_ble_eq_true rfl) (Nat.le_of_ble_eq_true rfl) ?_
  refine W.eq (g2 := F0 m 4 ls []) rfl ?_
  refine lv_aload_n hx hb dX5_init_4 rfl (lv_at hl 0 rfl) ?_
  refine lv_bipush (v := 16) hx hb dX5_init_5 (by decide) ?_
  refine va_newa (D := D) (cl := vwCl) (atype := .int) (ty := .int) (N' := 16) (a0 := (16, .inl (fun _ => 0))) hx hb (hts (.arrayClass .int) (by decide +kernel)) rfl hK hP hD hS hA (fun _ => rfl) (by decide) (by decide) (by decide) (Nat.le_of_ble_eq_true rfl) (Nat.le_of_ble_eq_true rfl) dX5_init_7 (fun o_1 cA_2 H hK hP hD hS => ?_)
  have hP : va_P D vwCl [(se, .inr (5, [.null, .null, .null, .int 0, .int 0, .int 0, .int 0])), (o_1, .inl (cA_2, 16, .inl (zi [0, 0, 0, 0, 0, 0, 0, 0, 0, 0, 0, 0, 0, 0, 0, 0])))] H := by have h9 := hP; rw [zi_new 16] at h9; exact h9
  have hD : va_D A [(se, .inr (5, [.null, .null, .null, .int 0, .int 0, .int 0, .int 0])), (o_1, .inl (cA_2, 16, .inl (zi [0, 0, 0, 0, 0, 0, 0, 0, 0, 0, 0, 0, 0, 0, 0, 0])))] := by have h9 := hD; rw [zi_new 16] at h9; exact h9
  have hP : va_P D vwCl [(se, .inr (5, [.null, .null, .null, .int 0, .int 0, .int 0, .int 0])), (o_1, .inl (cA_2, 16, .inl (zi [0, 0, 0, 0, 0, 0, 0, 0, 0, 0, 0, 0, 0, 0, 0, 0])))] H := hP
  have hD : va_D A [(se, .inr (5, [.null, .null, .null, .int 0, .int 0, .int 0, .int 0])), (o_1, .inl (cA_2, 16, .inl (zi [0, 0, 0, 0, 0, 0, 0, 0, 0, 0, 0, 0, 0, 0, 0, 0])))] := hD
  have hK : va_K D vwCl [(cA_2, .int)] s := hK
  refine W.widen (k := 1) (n := 16) (Nat.le_of_ble_eq_true rfl) (Nat.le_of_ble_eq_true rfl) ?_
  refine va_putF (D := D) (cl := vwCl) (ci := 5) (v := .ref o_1) (ty := (.array .int)) (C := RX5) (T := TX5) (N := 7) hx hb hts zuX5_init_X5 tyX5 tyX5_ok nmX5 hown hK hP hD hS 0 rfl rfl 0 (by decide) (hts (.fieldLink RX5 9 "Gatherhouse$SetSearch" "numbers" "[I") (by decide +kernel)) (fun _ h9 => h9) rfl hin rfl (by decide +kernel) rfl rfl (Nat.le_of_ble_eq_true rfl) dX5_init_9 (fun H locs hP hD hS => ?_)
  have hP : va_P D vwCl [(se, .inr (5, [.ref o_1, .null, .null, .int 0, .int 0, .int 0, .int 0])), (o_1, .inl (cA_2, 16, .inl (zi [0, 0, 0, 0, 0, 0, 0, 0, 0, 0, 0, 0, 0, 0, 0, 0])))] H := hP
  have hD : va_D A [(se, .inr (5, [.ref o_1, .null, .null, .int 0, .int 0, .int 0, .int 0])), (o_1, .inl (cA_2, 16, .inl (zi [0, 0, 0, 0, 0, 0, 0, 0, 0, 0, 0, 0, 0, 0, 0, 0])))] := hD
  refine lv_aload_n hx hb dX5_init_12 rfl (lv_at hl 0 rfl) ?_
  refine lv_bipush (v := 16) hx hb dX5_init_13 (by decide) ?_
  refine va_newa (D := D) (cl := vwCl) (atype := .int) (ty := .int) (N' := 16) (a0 := (16, .inl (fun _ => 0))) hx hb (hts (.arrayClass .int) (by decide +kernel)) rfl hK hP hD hS hA (fun _ => rfl) (by decide) (by decide) (by decide) (Nat.le_of_ble_eq_true rfl) (Nat.le_of_ble_eq_true rfl) dX5_init_15 (fun o_3 cA_4 H hK hP hD hS => ?_)
  have hP : va_P D vwCl [(se, .inr (5, [.ref o_1, .null, .null, .int 0, .int 0, .int 0, .int 0])), (o_1, .inl (cA_2, 16, .inl (zi [0, 0, 0, 0, 0, 0, 0, 0, 0, 0, 0, 0, 0, 0, 0, 0]))), (o_3, .inl (cA_4, 16, .inl (zi [0, 0, 0, 0, 0, 0, 0, 0, 0, 0, 0, 0, 0, 0, 0, 0])))] H := by have h9 := hP; rw [zi_new 16] at h9; exact h9
  have hD : va_D A [(se, .inr (5, [.ref o_1, .null, .null, .int 0, .int 0, .int 0, .int 0])), (o_1, .inl (cA_2, 16, .inl (zi [0, 0, 0, 0, 0, 0, 0, 0, 0, 0, 0, 0, 0, 0, 0, 0]))), (o_3, .inl (cA_4, 16, .inl (zi [0, 0, 0, 0, 0, 0, 0, 0, 0, 0, 0, 0, 0, 0, 0, 0])))] := by have h9 := hD; rw [zi_new 16] at h9; exact h9
  have hP : va_P D vwCl [(se, .inr (5, [.ref o_1, .null, .null, .int 0, .int 0, .int 0, .int 0])), (o_1, .inl (cA_2, 16, .inl (zi [0, 0, 0, 0, 0, 0, 0, 0, 0, 0, 0, 0, 0, 0, 0, 0]))), (o_3, .inl (cA_4, 16, .inl (zi [0, 0, 0, 0, 0, 0, 0, 0, 0, 0, 0, 0, 0, 0, 0, 0])))] H := hP
  have hD : va_D A [(se, .inr (5, [.ref o_1, .null, .null, .int 0, .int 0, .int 0, .int 0])), (o_1, .inl (cA_2, 16, .inl (zi [0, 0, 0, 0, 0, 0, 0, 0, 0, 0, 0, 0, 0, 0, 0, 0]))), (o_3, .inl (cA_4, 16, .inl (zi [0, 0, 0, 0, 0, 0, 0, 0, 0, 0, 0, 0, 0, 0, 0, 0])))] := hD
  have hK : va_K D vwCl [(cA_2, .int), (cA_4, .int)] s := hK
  refine W.widen (k := 2) (n := 32) (Nat.le_of_ble_eq_true rfl) (Nat.le_of_ble_eq_true rfl) ?_
  refine va_putF (D := D) (cl := vwCl) (ci := 5) (v := .ref o_3) (ty := (.array .int)) (C := RX5) (T := TX5) (N := 7) hx hb hts zuX5_init_X5 tyX5 tyX5_ok nmX5 hown hK hP hD hS 0 rfl rfl 1 (by decide) (hts (.fieldLink RX5 15 "Gatherhouse$SetSearch" "heights" "[I") (by decide +kernel)) (fun _ h9 => h9) rfl hin rfl (by decide +kernel) rfl rfl (Nat.le_of_ble_eq_true rfl) dX5_init_17 (fun H locs hP hD hS => ?_)
  have hP : va_P D vwCl [(se, .inr (5, [.ref o_1, .ref o_3, .null, .int 0, .int 0, .int 0, .int 0])), (o_1, .inl (cA_2, 16, .inl (zi [0, 0, 0, 0, 0, 0, 0, 0, 0, 0, 0, 0, 0, 0, 0, 0]))), (o_3, .inl (cA_4, 16, .inl (zi [0, 0, 0, 0, 0, 0, 0, 0, 0, 0, 0, 0, 0, 0, 0, 0])))] H := hP
  have hD : va_D A [(se, .inr (5, [.ref o_1, .ref o_3, .null, .int 0, .int 0, .int 0, .int 0])), (o_1, .inl (cA_2, 16, .inl (zi [0, 0, 0, 0, 0, 0, 0, 0, 0, 0, 0, 0, 0, 0, 0, 0]))), (o_3, .inl (cA_4, 16, .inl (zi [0, 0, 0, 0, 0, 0, 0, 0, 0, 0, 0, 0, 0, 0, 0, 0])))] := hD
  refine lv_aload_n hx hb dX5_init_20 rfl (lv_at hl 0 rfl) ?_
  refine lv_bipush (v := 16) hx hb dX5_init_21 (by decide) ?_
  refine va_newa (D := D) (cl := vwCl) (atype := .int) (ty := .int) (N' := 16) (a0 := (16, .inl (fun _ => 0))) hx hb (hts (.arrayClass .int) (by decide +kernel)) rfl hK hP hD hS hA (fun _ => rfl) (by decide) (by decide) (by decide) (Nat.le_of_ble_eq_true rfl) (Nat.le_of_ble_eq_true rfl) dX5_init_23 (fun o_5 cA_6 H hK hP hD hS => ?_)
  have hP : va_P D vwCl [(se, .inr (5, [.ref o_1, .ref o_3, .null, .int 0, .int 0, .int 0, .int 0])), (o_1, .inl (cA_2, 16, .inl (zi [0, 0, 0, 0, 0, 0, 0, 0, 0, 0, 0, 0, 0, 0, 0, 0]))), (o_3, .inl (cA_4, 16, .inl (zi [0, 0, 0, 0, 0, 0, 0, 0, 0, 0, 0, 0, 0, 0, 0, 0]))), (o_5, .inl (cA_6, 16, .inl (zi [0, 0, 0, 0, 0, 0, 0, 0, 0, 0, 0, 0, 0, 0, 0, 0])))] H := by have h9 := hP; rw [zi_new 16] at h9; exact h9
  have hD : va_D A [(se, .inr (5, [.ref o_1, .ref o_3, .null, .int 0, .int 0, .int 0, .int 0])), (o_1, .inl (cA_2, 16, .inl (zi [0, 0, 0, 0, 0, 0, 0, 0, 0, 0, 0, 0, 0, 0, 0, 0]))), (o_3, .inl (cA_4, 16, .inl (zi [0, 0, 0, 0, 0, 0, 0, 0, 0, 0, 0, 0, 0, 0, 0, 0]))), (o_5, .inl (cA_6, 16, .inl (zi [0, 0, 0, 0, 0, 0, 0, 0, 0, 0, 0, 0, 0, 0, 0, 0])))] := by have h9 := hD; rw [zi_new 16] at h9; exact h9
  have hP : va_P D vwCl [(se, .inr (5, [.ref o_1, .ref o_3, .null, .int 0, .int 0, .int 0, .int 0])), (o_1, .inl (cA_2, 16, .inl (zi [0, 0, 0, 0, 0, 0, 0, 0, 0, 0, 0, 0, 0, 0, 0, 0]))), (o_3, .inl (cA_4, 16, .inl (zi [0, 0, 0, 0, 0, 0, 0, 0, 0, 0, 0, 0, 0, 0, 0, 0]))), (o_5, .inl (cA_6, 16, .inl (zi [0, 0, 0, 0, 0, 0, 0, 0, 0, 0, 0, 0, 0, 0, 0, 0])))] H := hP
  have hD : va_D A [(se, .inr (5, [.ref o_1, .ref o_3, .null, .int 0, .int 0, .int 0, .int 0])), (o_1, .inl (cA_2, 16, .inl (zi [0, 0, 0, 0, 0, 0, 0, 0, 0, 0, 0, 0, 0, 0, 0, 0]))), (o_3, .inl (cA_4, 16, .inl (zi [0, 0, 0, 0, 0, 0, 0, 0, 0, 0, 0, 0, 0, 0, 0, 0]))), (o_5, .inl (cA_6, 16, .inl (zi [0, 0, 0, 0, 0, 0, 0, 0, 0, 0, 0, 0, 0, 0, 0, 0])))] := hD
  have hK : va_K D vwCl [(cA_2, .int), (cA_4, .int), (cA_6, .int)] s := hK
  refine W.widen (k := 3) (n := 48) (Nat.le_of_ble_eq_true rfl) (Nat.le_of_ble_eq_true rfl) ?_
  refine va_putF (D := D) (cl := vwCl) (ci := 5) (v := .ref o_5) (ty := (.array .int)) (C := RX5) (T := TX5) (N := 7) hx hb hts zuX5_init_X5 tyX5 tyX5_ok nmX5 hown hK hP hD hS 0 rfl rfl 2 (by decide) (hts (.fieldLink RX5 18 "Gatherhouse$SetSearch" "masses" "[I") (by decide +kernel)) (fun _ h9 => h9) rfl hin rfl (by decide +kernel) rfl rfl (Nat.le_of_ble_eq_true rfl) dX5_init_25 (fun H locs hP hD hS => ?_)
  have hP : va_P D vwCl [(se, .inr (5, [.ref o_1, .ref o_3, .ref o_5, .int 0, .int 0, .int 0, .int 0])), (o_1, .inl (cA_2, 16, .inl (zi [0, 0, 0, 0, 0, 0, 0, 0, 0, 0, 0, 0, 0, 0, 0, 0]))), (o_3, .inl (cA_4, 16, .inl (zi [0, 0, 0, 0, 0, 0, 0, 0, 0, 0, 0, 0, 0, 0, 0, 0]))), (o_5, .inl (cA_6, 16, .inl (zi [0, 0, 0, 0, 0, 0, 0, 0, 0, 0, 0, 0, 0, 0, 0, 0])))] H := hP
  have hD : va_D A [(se, .inr (5, [.ref o_1, .ref o_3, .ref o_5, .int 0, .int 0, .int 0, .int 0])), (o_1, .inl (cA_2, 16, .inl (zi [0, 0, 0, 0, 0, 0, 0, 0, 0, 0, 0, 0, 0, 0, 0, 0]))), (o_3, .inl (cA_4, 16, .inl (zi [0, 0, 0, 0, 0, 0, 0, 0, 0, 0, 0, 0, 0, 0, 0, 0]))), (o_5, .inl (cA_6, 16, .inl (zi [0, 0, 0, 0, 0, 0, 0, 0, 0, 0, 0, 0, 0, 0, 0, 0])))] := hD
  refine lv_aload_n hx hb dX5_init_28 rfl (lv_at hl 0 rfl) ?_
  refine lv_iconst (v := 0) hx hb dX5_init_29 (by decide) ?_
  refine va_put (D := D) (cl := vwCl) (ci := 5) (v := .int 0) (ty := .int) (C := RX5) (T := TX5) (N := 7) hx hb hts zuX5_init_X5 tyX5 tyX5_ok nmX5 hown hK hP hD hS 0 rfl rfl 3 (by decide) (hts (.fieldLink RX5 21 "Gatherhouse$SetSearch" "size" "I") (by decide +kernel)) (fun _ h9 => h9) rfl (by decide +kernel) rfl rfl (Nat.le_of_ble_eq_true rfl) dX5_init_30 (fun H locs hP hD hS => ?_)
  have hP : va_P D vwCl [(se, .inr (5, [.ref o_1, .ref o_3, .ref o_5, .int 0, .int 0, .int 0, .int 0])), (o_1, .inl (cA_2, 16, .inl (zi [0, 0, 0, 0, 0, 0, 0, 0, 0, 0, 0, 0, 0, 0, 0, 0]))), (o_3, .inl (cA_4, 16, .inl (zi [0, 0, 0, 0, 0, 0, 0, 0, 0, 0, 0, 0, 0, 0, 0, 0]))), (o_5, .inl (cA_6, 16, .inl (zi [0, 0, 0, 0, 0, 0, 0, 0, 0, 0, 0, 0, 0, 0, 0, 0])))] H := hP
  have hD : va_D A [(se, .inr (5, [.ref o_1, .ref o_3, .ref o_5, .int 0, .int 0, .int 0, .int 0])), (o_1, .inl (cA_2, 16, .inl (zi [0, 0, 0, 0, 0, 0, 0, 0, 0, 0, 0, 0, 0, 0, 0, 0]))), (o_3, .inl (cA_4, 16, .inl (zi [0, 0, 0, 0, 0, 0, 0, 0, 0, 0, 0, 0, 0, 0, 0, 0]))), (o_5, .inl (cA_6, 16, .inl (zi [0, 0, 0, 0, 0, 0, 0, 0, 0, 0, 0, 0, 0, 0, 0, 0])))] := hD
  refine lv_aload_n hx hb dX5_init_33 rfl (lv_at hl 0 rfl) ?_
  refine lv_iconst (v := 0) hx hb dX5_init_34 (by decide) ?_
  refine va_put (D := D) (cl := vwCl) (ci := 5) (v := .int 0) (ty := .int) (C := RX5) (T := TX5) (N := 7) hx hb hts zuX5_init_X5 tyX5 tyX5_ok nmX5 hown hK hP hD hS 0 rfl rfl 4 (by decide) (hts (.fieldLink RX5 25 "Gatherhouse$SetSearch" "bestApart" "I") (by decide +kernel)) (fun _ h9 => h9) rfl (by decide +kernel) rfl rfl (Nat.le_of_ble_eq_true rfl) dX5_init_35 (fun H locs hP hD hS => ?_)
  have hP : va_P D vwCl [(se, .inr (5, [.ref o_1, .ref o_3, .ref o_5, .int 0, .int 0, .int 0, .int 0])), (o_1, .inl (cA_2, 16, .inl (zi [0, 0, 0, 0, 0, 0, 0, 0, 0, 0, 0, 0, 0, 0, 0, 0]))), (o_3, .inl (cA_4, 16, .inl (zi [0, 0, 0, 0, 0, 0, 0, 0, 0, 0, 0, 0, 0, 0, 0, 0]))), (o_5, .inl (cA_6, 16, .inl (zi [0, 0, 0, 0, 0, 0, 0, 0, 0, 0, 0, 0, 0, 0, 0, 0])))] H := hP
  have hD : va_D A [(se, .inr (5, [.ref o_1, .ref o_3, .ref o_5, .int 0, .int 0, .int 0, .int 0])), (o_1, .inl (cA_2, 16, .inl (zi [0, 0, 0, 0, 0, 0, 0, 0, 0, 0, 0, 0, 0, 0, 0, 0]))), (o_3, .inl (cA_4, 16, .inl (zi [0, 0, 0, 0, 0, 0, 0, 0, 0, 0, 0, 0, 0, 0, 0, 0]))), (o_5, .inl (cA_6, 16, .inl (zi [0, 0, 0, 0, 0, 0, 0, 0, 0, 0, 0, 0, 0, 0, 0, 0])))] := hD
  refine lv_aload_n hx hb dX5_init_38 rfl (lv_at hl 0 rfl) ?_
  refine lv_iconst (v := 0) hx hb dX5_init_39 (by decide) ?_
  refine va_put (D := D) (cl := vwCl) (ci := 5) (v := .int 0) (ty := .int) (C := RX5) (T := TX5) (N := 7) hx hb hts zuX5_init_X5 tyX5 tyX5_ok nmX5 hown hK hP hD hS 0 rfl rfl 5 (by decide) (hts (.fieldLink RX5 28 "Gatherhouse$SetSearch" "bestMass" "I") (by decide +kernel)) (fun _ h9 => h9) rfl (by decide +kernel) rfl rfl (Nat.le_of_ble_eq_true rfl) dX5_init_40 (fun H locs hP hD hS => ?_)
  have hP : va_P D vwCl [(se, .inr (5, [.ref o_1, .ref o_3, .ref o_5, .int 0, .int 0, .int 0, .int 0])), (o_1, .inl (cA_2, 16, .inl (zi [0, 0, 0, 0, 0, 0, 0, 0, 0, 0, 0, 0, 0, 0, 0, 0]))), (o_3, .inl (cA_4, 16, .inl (zi [0, 0, 0, 0, 0, 0, 0, 0, 0, 0, 0, 0, 0, 0, 0, 0]))), (o_5, .inl (cA_6, 16, .inl (zi [0, 0, 0, 0, 0, 0, 0, 0, 0, 0, 0, 0, 0, 0, 0, 0])))] H := hP
  have hD : va_D A [(se, .inr (5, [.ref o_1, .ref o_3, .ref o_5, .int 0, .int 0, .int 0, .int 0])), (o_1, .inl (cA_2, 16, .inl (zi [0, 0, 0, 0, 0, 0, 0, 0, 0, 0, 0, 0, 0, 0, 0, 0]))), (o_3, .inl (cA_4, 16, .inl (zi [0, 0, 0, 0, 0, 0, 0, 0, 0, 0, 0, 0, 0, 0, 0, 0]))), (o_5, .inl (cA_6, 16, .inl (zi [0, 0, 0, 0, 0, 0, 0, 0, 0, 0, 0, 0, 0, 0, 0, 0])))] := hD
  refine lv_aload_n hx hb dX5_init_43 rfl (lv_at hl 0 rfl) ?_
  refine lv_iconst (v := 0) hx hb dX5_init_44 (by decide) ?_
  refine va_put (D := D) (cl := vwCl) (ci := 5) (v := .int 0) (ty := .int) (C := RX5) (T := TX5) (N := 7) hx hb hts zuX5_init_X5 tyX5 tyX5_ok nmX5 hown hK hP hD hS 0 rfl rfl 6 (by decide) (hts (.fieldLink RX5 31 "Gatherhouse$SetSearch" "bestChoice" "I") (by decide +kernel)) (fun _ h9 => h9) rfl (by decide +kernel) rfl rfl (Nat.le_of_ble_eq_true rfl) dX5_init_45 (fun H locs hP hD hS => ?_)
  have hP : va_P D vwCl [(se, .inr (5, [.ref o_1, .ref o_3, .ref o_5, .int 0, .int 0, .int 0, .int 0])), (o_1, .inl (cA_2, 16, .inl (zi [0, 0, 0, 0, 0, 0, 0, 0, 0, 0, 0, 0, 0, 0, 0, 0]))), (o_3, .inl (cA_4, 16, .inl (zi [0, 0, 0, 0, 0, 0, 0, 0, 0, 0, 0, 0, 0, 0, 0, 0]))), (o_5, .inl (cA_6, 16, .inl (zi [0, 0, 0, 0, 0, 0, 0, 0, 0, 0, 0, 0, 0, 0, 0, 0])))] H := hP
  have hD : va_D A [(se, .inr (5, [.ref o_1, .ref o_3, .ref o_5, .int 0, .int 0, .int 0, .int 0])), (o_1, .inl (cA_2, 16, .inl (zi [0, 0, 0, 0, 0, 0, 0, 0, 0, 0, 0, 0, 0, 0, 0, 0]))), (o_3, .inl (cA_4, 16, .inl (zi [0, 0, 0, 0, 0, 0, 0, 0, 0, 0, 0, 0, 0, 0, 0, 0]))), (o_5, .inl (cA_6, 16, .inl (zi [0, 0, 0, 0, 0, 0, 0, 0, 0, 0, 0, 0, 0, 0, 0, 0])))] := hD
  exact W.vret hx hb hr (fun t ht hW => ⟨⟨(), rfl, trivial, ⟨o_1, o_3, o_5, q_RW_mk hP hK hD [0] [] rfl rfl (by decide) rfl ht hW.alike⟩⟩, hS.F ht⟩) hS.2.2 dX5_init_48
theorem dX0_init_0 : decode cX0_init 0 = .ok (.aload_n 0, 1) := by decide +kernel
theorem dX0_init_1 : decode cX0_init 1 = .ok (.invokespecial 3, 3) := by decide +kernel
theorem dX0_init_4 : decode cX0_init 4 = .ok (.aload_n 0, 1) := by decide +kernel
theorem dX0_init_5 : decode cX0_init 5 = .ok (.iload_n 1, 1) := by decide +kernel
theorem dX0_init_6 : decode cX0_init 6 = .ok (.putfield 9, 3) := by decide +kernel
theorem dX0_init_9 : decode cX0_init 9 = .ok (.aload_n 0, 1) := by decide +kernel
theorem dX0_init_10 : decode cX0_init 10 = .ok (.iload_n 2, 1) := by decide +kernel
theorem dX0_init_11 : decode cX0_init 11 = .ok (.putfield 15, 3) := by decide +kernel
theorem dX0_init_14 : decode cX0_init 14 = .ok (.aload_n 0, 1) := by decide +kernel
theorem dX0_init_15 : decode cX0_init 15 = .ok (.iload_n 3, 1) := by decide +kernel
theorem dX0_init_16 : decode cX0_init 16 = .ok (.putfield 18, 3) := by decide +kernel
theorem dX0_init_19 : decode cX0_init 19 = .ok (.aload_n 0, 1) := by decide +kernel
theorem dX0_init_20 : decode cX0_init 20 = .ok (.iload 4, 2) := by decide +kernel
theorem dX0_init_22 : decode cX0_init 22 = .ok (.putfield 21, 3) := by decide +kernel
theorem dX0_init_25 : decode cX0_init 25 = .ok (.return_, 1) := by decide +kernel
def wzEX0_init : List Cond := [.code yX0_init cX0_init 5 none, .methodLink RX0 3 objectInit, .instanceMethod objectInit, .code objectInit ⟨#[0xb1]⟩ 1 none, .fieldLink RX0 9 "Gatherhouse$Glass" "low" "I", .fieldLink RX0 15 "Gatherhouse$Glass" "high" "I", .fieldLink RX0 18 "Gatherhouse$Glass" "expansion" "I", .fieldLink RX0 21 "Gatherhouse$Glass" "colour" "I"]
def wzX0_init : List Cond := wzEX0_init ++ (u_ws RX0 TX0 4)
theorem zgEX0_init : wzEX0_init.all goodWord = true := by decide +kernel
theorem zuX0_init_X0 : ∀ w ∈ u_ws RX0 TX0 4, w ∈ wzX0_init := (fun _ h => (List.mem_append_right _ h))
set_option maxHeartbeats 4000000 in
set_option maxRecDepth 100000 in
theorem zc_X0_init (l : Launch) (D : va_G) (G : Nat × Nat × (Nat → Int32)) (go : Nat) (lo : Int32) (hi : Int32) (xe : Int32) (co : Int32) (sz : Nat) : Met l yX0_init wzX0_init ({ frames := 1, cells := 0, slots := 0, locals := 12 }) (va_Pc [.ref go, .int lo, .int hi, .int xe, .int co] (p_RW D G [] [(go, .inr (0, [.int 0, .int 0, .int 0, .int 0]))] sz)) (va_Qv (fun (u : Unit) => True) (fun (u : Unit) (t : State) => q_RW D [] [(go, .inr (0, [.int lo, .int hi, .int xe, .int co]))] (va_A [(go, .inr (0, [.int 0, .int 0, .int 0, .int 0]))] sz) t) (va_A [(go, .inr (0, [.int 0, .int 0, .int 0, .int 0]))] sz)) 0 0 (va_A [(go, .inr (0, [.int 0, .int 0, .int 0, .int 0]))] sz) := by
  refine Met.ofW (cc := cX0_init) (maxL := 5) (ret := none) (by decide) rfl ?_
  intro p e s m args below meth c s₁ B hml hv
  obtain ⟨rfl, hsz, hP, hK, hD0, hT, hZ⟩ := hv
  have hx := B.exec
  have hb := B.bytes
  have hr := B.returns
  have hts := atoms_spec (ws := wzX0_init) B.pre
  have hown : s.vm.findClass RX0 = some m.cls := findClass_of_methodNamed B.named
  have hlocks := B.notSynchronized
  have hin : meth.name = "<init>" := (name_of_methodNamed B.named B.method).1
  subst hsz
  have hD := hD0.self (sz := s.heap.size)
  generalize hAe : va_A [(go, .inr (0, [.int 0, .int 0, .int 0, .int 0]))] s.heap.size = A at hD hZ ⊢
  have hA : ∀ q : Nat, s.heap.size ≤ q → A q := fun q h => by rw [← hAe]; exact Or.inr h
  have hS : va_S A s.heap s.heap [] := va_S.rf
  have hl := lv_entry ([.ref go, .int lo, .int hi, .int xe, .int co]) (n := 5) (Nat.le_of_ble_eq_true rfl)
  rw [lg_entry_eq]
  generalize (lg_sl ([.ref go, .int lo, .int hi, .int xe, .int co]) ++ List.replicate (5 - (lg_sl ([.ref go, .int lo, .int hi, .int xe, .int co])).length) Slot.unset).toArray = ls at hl ⊢
  have hl : lv_has ls 5 [(0, .ref go), (1, .int lo), (2, .int hi), (3, .int xe), (4, .int co)] := hl
  refine lv_aload_n hx hb dX0_init_0 rfl (lv_at hl 0 rfl) ?_
  refine W.objInit hx hb hown (hts (.methodLink RX0 3 objectInit) (by decide +kernel)) (hts (.instanceMethod objectInit) (by decide +kernel)) (hts (.code objectInit ⟨#[0xb1]⟩ 1 none) (by decide +kernel)) rfl (by rw [hml]; exact hl.1) rfl dX0_init_1 (Nat.le_of_ble_eq_true rfl) (Nat.le_of_ble_eq_true rfl) ?_
  refine W.eq (g2 := F0 m 4 ls []) rfl ?_
  refine lv_aload_n hx hb dX0_init_4 rfl (lv_at hl 0 rfl) ?_
  refine lv_iload_n hx hb dX0_init_5 rfl (lv_at hl 1 rfl) ?_
  refine va_putF (D := D) (cl := vwCl) (ci := 0) (v := .int lo) (ty := .int) (C := RX0) (T := TX0) (N := 4) hx hb hts zuX0_init_X0 tyX0 tyX0_ok nmX0 hown hK hP hD hS 0 rfl rfl 0 (by decide) (hts (.fieldLink RX0 9 "Gatherhouse$Glass" "low" "I") (by decide +kernel)) (fun _ h9 => h9) rfl hin rfl (by decide +kernel) rfl rfl (Nat.le_of_ble_eq_true rfl) dX0_init_6 (fun H locs hP hD hS => ?_)
  have hP : va_P D vwCl [(go, .inr (0, [.int lo, .int 0, .int 0, .int 0]))] H := hP
  have hD : va_D A [(go, .inr (0, [.int lo, .int 0, .int 0, .int 0]))] := hD
  refine lv_aload_n hx hb dX0_init_9 rfl (lv_at hl 0 rfl) ?_
  refine lv_iload_n hx hb dX0_init_10 rfl (lv_at hl 2 rfl) ?_
  refine va_putF (D := D) (cl := vwCl) (ci := 0) (v := .int hi) (ty := .int) (C := RX0) (T := TX0) (N := 4) hx hb hts zuX0_init_X0 tyX0 tyX0_ok nmX0 hown hK hP hD hS 0 rfl rfl 1 (by decide) (hts (.fieldLink RX0 15 "Gatherhouse$Glass" "high" "I") (by decide +kernel)) (fun _ h9 => h9) rfl hin rfl (by decide +kernel) rfl rfl (Nat.le_of_ble_eq_true rfl) dX0_init_11 (fun H locs hP hD hS => ?_)
  have hP : va_P D vwCl [(go, .inr (0, [.int lo, .int hi, .int 0, .int 0]))] H := hP
  have hD : va_D A [(go, .inr (0, [.int lo, .int hi, .int 0, .int 0]))] := hD
  refine lv_aload_n hx hb dX0_init_14 rfl (lv_at hl 0 rfl) ?_
  refine lv_iload_n hx hb dX0_init_15 rfl (lv_at hl 3 rfl) ?_
  refine va_putF (D := D) (cl := vwCl) (ci := 0) (v := .int xe) (ty := .int) (C := RX0) (T := TX0) (N := 4) hx hb hts zuX0_init_X0 tyX0 tyX0_ok nmX0 hown hK hP hD hS 0 rfl rfl 2 (by decide) (hts (.fieldLink RX0 18 "Gatherhouse$Glass" "expansion" "I") (by decide +kernel)) (fun _ h9 => h9) rfl hin rfl (by decide +kernel) rfl rfl (Nat.le_of_ble_eq_true rfl) dX0_init_16 (fun H locs hP hD hS => ?_)
  have hP : va_P D vwCl [(go, .inr (0, [.int lo, .int hi, .int xe, .int 0]))] H := hP
  have hD : va_D A [(go, .inr (0, [.int lo, .int hi, .int xe, .int 0]))] := hD
  refine lv_aload_n hx hb dX0_init_19 rfl (lv_at hl 0 rfl) ?_
  refine lv_iload hx hb dX0_init_20 (lv_at hl 4 rfl) ?_
  refine va_putF (D := D) (cl := vwCl) (ci := 0) (v := .int co) (ty := .int) (C := RX0) (T := TX0) (N := 4) hx hb hts zuX0_init_X0 tyX0 tyX0_ok nmX0 hown hK hP hD hS 0 rfl rfl 3 (by decide) (hts (.fieldLink RX0 21 "Gatherhouse$Glass" "colour" "I") (by decide +kernel)) (fun _ h9 => h9) rfl hin rfl (by decide +kernel) rfl rfl (Nat.le_of_ble_eq_true rfl) dX0_init_22 (fun H locs hP hD hS => ?_)
  have hP : va_P D vwCl [(go, .inr (0, [.int lo, .int hi, .int xe, .int co]))] H := hP
  have hD : va_D A [(go, .inr (0, [.int lo, .int hi, .int xe, .int co]))] := hD
  exact W.vret hx hb hr (fun t ht hW => ⟨⟨(), rfl, trivial, q_RW_mk hP hK hD [0] [] rfl rfl (by decide) rfl ht hW.alike⟩, hS.F ht⟩) hS.2.2 dX0_init_25
theorem dX4_isBusy_0 : decode cX4_isBusy 0 = .ok (.aload_n 0, 1) := by decide +kernel
theorem dX4_isBusy_1 : decode cX4_isBusy 1 = .ok (.getfield 7, 3) := by decide +kernel
theorem dX4_isBusy_4 : decode cX4_isBusy 4 = .ok (.ifCond .le 7, 3) := by decide +kernel
theorem dX4_isBusy_11 : decode cX4_isBusy 11 = .ok (.iconst 0, 1) := by decide +kernel
theorem dX4_isBusy_12 : decode cX4_isBusy 12 = .ok (.ireturn, 1) := by decide +kernel
def wzEX4_isBusy : List Cond := [.code yX4_isBusy cX4_isBusy 1 (some .boolean), .fieldLink RX4 7 "Gatherhouse$Role" "busy" "I"]
def wzX4_isBusy : List Cond := wzEX4_isBusy ++ (u_ws RX4 TX4 2)
theorem zgEX4_isBusy : wzEX4_isBusy.all goodWord = true := by decide +kernel
theorem zuX4_isBusy_X4 : ∀ w ∈ u_ws RX4 TX4 2, w ∈ wzX4_isBusy := (fun _ h => (List.mem_append_right _ h))
set_option maxHeartbeats 4000000 in
set_option maxRecDepth 100000 in
theorem zc_X4_isBusy (l : Launch) (D : va_G) (G : Nat × Nat × (Nat → Int32)) (ro : Nat) (pd : Int32) : Met l yX4_isBusy wzX4_isBusy ({ frames := 0, cells := 0, slots := 0, locals := 0 }) (va_Pc [.ref ro] (p_RO D G [] [(ro, .inr (4, [.int 0, .int pd]))])) (vp_Si (fun r => r = 0)) 0 0 (fun _ => False) := by
  refine Met.ofW (cc := cX4_isBusy) (maxL := 1) (ret := (some .boolean)) (by decide) rfl ?_
  intro p e s m args below meth c s₁ B hml hv
  obtain ⟨rfl, hP, hK, hT⟩ := hv
  have hx := B.exec
  have hb := B.bytes
  have hr := B.returns
  have hts := atoms_spec (ws := wzX4_isBusy) B.pre
  have hown : s.vm.findClass RX4 = some m.cls := findClass_of_methodNamed B.named
  have hlocks := B.notSynchronized
  have hl := lv_entry ([.ref ro]) (n := 1) (Nat.le_of_ble_eq_true rfl)
  rw [lg_entry_eq]
  generalize (lg_sl ([.ref ro]) ++ List.replicate (1 - (lg_sl ([.ref ro])).length) Slot.unset).toArray = ls at hl ⊢
  have hl : lv_has ls 1 [(0, .ref ro)] := hl
  refine lv_aload_n hx hb dX4_isBusy_0 rfl (lv_at hl 0 rfl) ?_
  refine va_get (D := D) (cl := vwCl) (ci := 4) (v := .int 0) (C := RX4) (T := TX4) (N := 2) hx hb hts zuX4_isBusy_X4 hown hK hP 0 rfl rfl 0 (by decide) (hts (.fieldLink RX4 7 "Gatherhouse$Role" "busy" "I") (by decide +kernel)) (fun _ h9 => h9) rfl dX4_isBusy_1 ?_
  refine lv_if_le (tgt := 11) hx hb dX4_isBusy_4 (by decide) (fun _ => ?_) (fun cc => absurd (by decide) cc)
  refine lv_iconst (v := 0) hx hb dX4_isBusy_11 (by decide) ?_
  exact W.zret (v := 0) hx hb hr rfl (fun t ht hW => ⟨0, rfl, rfl, ht⟩) (fun q h => by cases h) dX4_isBusy_12
theorem dX4_isBusy_7 : decode cX4_isBusy 7 = .ok (.iconst 1, 1) := by decide +kernel
theorem dX4_isBusy_8 : decode cX4_isBusy 8 = .ok (.goto 4, 3) := by decide +kernel
def wzEX4_isBusy_1 : List Cond := [.code yX4_isBusy cX4_isBusy 1 (some .boolean), .fieldLink RX4 7 "Gatherhouse$Role" "busy" "I"]
def wzX4_isBusy_1 : List Cond := wzEX4_isBusy_1 ++ (u_ws RX4 TX4 2)
theorem zgEX4_isBusy_1 : wzEX4_isBusy_1.all goodWord = true := by decide +kernel
theorem zuX4_isBusy_1_X4 : ∀ w ∈ u_ws RX4 TX4 2, w ∈ wzX4_isBusy_1 := (fun _ h => (List.mem_append_right _ h))
set_option maxHeartbeats 4000000 in
set_option maxRecDepth 100000 in
theorem zc_X4_isBusy_1 (l : Launch) (D : va_G) (G : Nat × Nat × (Nat → Int32)) (ro : Nat) (bz : Nat) (pd : Int32) (hl_bz : 1 ≤ bz) (hh_bz : bz ≤ 1000) : Met l yX4_isBusy wzX4_isBusy_1 ({ frames := 0, cells := 0, slots := 0, locals := 0 }) (va_Pc [.ref ro] (p_RO D G [] [(ro, .inr (4, [.int (nI bz), .int pd]))])) (vp_Si (fun r => r = 1)) 0 0 (fun _ => False) := by
  refine Met.ofW (cc := cX4_isBusy) (maxL := 1) (ret := (some .boolean)) (by decide) rfl ?_
  intro p e s m args below meth c s₁ B hml hv
  obtain ⟨rfl, hP, hK, hT⟩ := hv
  have hx := B.exec
  have hb := B.bytes
  have hr := B.returns
  have hts := atoms_spec (ws := wzX4_isBusy_1) B.pre
  have hown : s.vm.findClass RX4 = some m.cls := findClass_of_methodNamed B.named
  have hlocks := B.notSynchronized
  have hl := lv_entry ([.ref ro]) (n := 1) (Nat.le_of_ble_eq_true rfl)
  rw [lg_entry_eq]
  generalize (lg_sl ([.ref ro]) ++ List.replicate (1 - (lg_sl ([.ref ro])).length) Slot.unset).toArray = ls at hl ⊢
  have hl : lv_has ls 1 [(0, .ref ro)] := hl
  refine lv_aload_n hx hb dX4_isBusy_0 rfl (lv_at hl 0 rfl) ?_
  refine va_get (D := D) (cl := vwCl) (ci := 4) (v := .int (nI bz)) (C := RX4) (T := TX4) (N := 2) hx hb hts zuX4_isBusy_1_X4 hown hK hP 0 rfl rfl 0 (by decide) (hts (.fieldLink RX4 7 "Gatherhouse$Role" "busy" "I") (by decide +kernel)) (fun _ h9 => h9) rfl dX4_isBusy_1 ?_
  refine lv_if_le (tgt := 11) hx hb dX4_isBusy_4 (by decide) (fun cc => absurd cc (fun z => absurd ((nI_leI (a := bz) (b := 0) (by omega) (by omega)).mp z) (by omega))) (fun _ => ?_)
  refine lv_iconst (v := 1) hx hb dX4_isBusy_7 (by decide) ?_
  refine lv_goto (tgt := 12) hx hb dX4_isBusy_8 (by decide) ?_
  exact W.zret (v := 1) hx hb hr rfl (fun t ht hW => ⟨1, rfl, rfl, ht⟩) (fun q h => by cases h) dX4_isBusy_12
theorem dX4_passSecond_0 : decode cX4_passSecond 0 = .ok (.aload_n 0, 1) := by decide +kernel
theorem dX4_passSecond_1 : decode cX4_passSecond 1 = .ok (.iconst 0, 1) := by decide +kernel
theorem dX4_passSecond_2 : decode cX4_passSecond 2 = .ok (.aload_n 0, 1) := by decide +kernel
theorem dX4_passSecond_3 : decode cX4_passSecond 3 = .ok (.getfield 7, 3) := by decide +kernel
theorem dX4_passSecond_6 : decode cX4_passSecond 6 = .ok (.iconst 1, 1) := by decide +kernel
theorem dX4_passSecond_7 : decode cX4_passSecond 7 = .ok (.isub, 1) := by decide +kernel
theorem dX4_passSecond_8 : decode cX4_passSecond 8 = .ok (.invokestatic 16, 3) := by decide +kernel
theorem dX4_passSecond_11 : decode cX4_passSecond 11 = .ok (.putfield 7, 3) := by decide +kernel
theorem dX4_passSecond_14 : decode cX4_passSecond 14 = .ok (.return_, 1) := by decide +kernel
def wzEX4_passSecond : List Cond := [.code yX4_passSecond cX4_passSecond 1 none, .fieldLink RX4 7 "Gatherhouse$Role" "busy" "I", .methodLink RX4 16 Lib.Math.max.name, .static Lib.Math.max.name, .initialized "java/lang/Math", .code Lib.Math.max.name Lib.Math.max.code 2 (some .int)]
def wzX4_passSecond : List Cond := wzEX4_passSecond ++ (u_ws RX4 TX4 2)
theorem zgEX4_passSecond : wzEX4_passSecond.all goodWord = true := by decide +kernel
theorem zuX4_passSecond_X4 : ∀ w ∈ u_ws RX4 TX4 2, w ∈ wzX4_passSecond := (fun _ h => (List.mem_append_right _ h))
set_option maxHeartbeats 4000000 in
set_option maxRecDepth 100000 in
theorem zc_X4_passSecond (l : Launch) (D : va_G) (G : Nat × Nat × (Nat → Int32)) (ro : Nat) (bz : Nat) (pd : Int32) (sz : Nat) (hh_bz : bz ≤ 1000) : Met l yX4_passSecond wzX4_passSecond ({ frames := 1, cells := 0, slots := 0, locals := 22 }) (va_Pc [.ref ro] (p_RW D G [] [(ro, .inr (4, [.int (nI bz), .int pd]))] sz)) (va_Qv (fun (u : Unit) => True) (fun (u : Unit) (t : State) => q_RW D [] [(ro, .inr (4, [.int (nI (bz - 1)), .int pd]))] (va_A [(ro, .inr (4, [.int (nI bz), .int pd]))] sz) t) (va_A [(ro, .inr (4, [.int (nI bz), .int pd]))] sz)) 0 0 (va_A [(ro, .inr (4, [.int (nI bz), .int pd]))] sz) := by
  refine Met.ofW (cc := cX4_passSecond) (maxL := 1) (ret := none) (by decide) rfl ?_
  intro p e s m args below meth c s₁ B hml hv
  obtain ⟨rfl, hsz, hP, hK, hD0, hT, hZ⟩ := hv
  have hx := B.exec
  have hb := B.bytes
  have hr := B.returns
  have hts := atoms_spec (ws := wzX4_passSecond) B.pre
  have hown : s.vm.findClass RX4 = some m.cls := findClass_of_methodNamed B.named
  have hlocks := B.notSynchronized
  subst hsz
  have hD := hD0.self (sz := s.heap.size)
  generalize hAe : va_A [(ro, .inr (4, [.int (nI bz), .int pd]))] s.heap.size = A at hD hZ ⊢
  have hA : ∀ q : Nat, s.heap.size ≤ q → A q := fun q h => by rw [← hAe]; exact Or.inr h
  have hS : va_S A s.heap s.heap [] := va_S.rf
  have hl := lv_entry ([.ref ro]) (n := 1) (Nat.le_of_ble_eq_true rfl)
  rw [lg_entry_eq]
  generalize (lg_sl ([.ref ro]) ++ List.replicate (1 - (lg_sl ([.ref ro])).length) Slot.unset).toArray = ls at hl ⊢
  have hl : lv_has ls 1 [(0, .ref ro)] := hl
  refine lv_aload_n hx hb dX4_passSecond_0 rfl (lv_at hl 0 rfl) ?_
  refine lv_iconst (v := 0) hx hb dX4_passSecond_1 (by decide) ?_
  refine lv_aload_n hx hb dX4_passSecond_2 rfl (lv_at hl 0 rfl) ?_
  refine va_get (D := D) (cl := vwCl) (ci := 4) (v := .int (nI bz)) (C := RX4) (T := TX4) (N := 2) hx hb hts zuX4_passSecond_X4 hown hK hP 0 rfl rfl 0 (by decide) (hts (.fieldLink RX4 7 "Gatherhouse$Role" "busy" "I") (by decide +kernel)) (fun _ h9 => h9) rfl dX4_passSecond_3 ?_
  refine lv_iconst (v := 1) hx hb dX4_passSecond_6 (by decide) ?_
  refine lv_isub hx hb dX4_passSecond_7 ?_
  refine va_mmax hx hb (hml.trans hl.1.symm) hown (hts (.methodLink RX4 16 Lib.Math.max.name) (by decide +kernel)) (hts (.static Lib.Math.max.name) (by decide +kernel)) (hts (.initialized "java/lang/Math") (by decide +kernel)) (hts (.code Lib.Math.max.name Lib.Math.max.code 2 (some .int)) (by decide +kernel)) (Nat.le_of_ble_eq_true rfl) (Nat.le_of_ble_eq_true rfl) (Nat.le_of_ble_eq_true rfl) (Nat.le_of_ble_eq_true rfl) dX4_passSecond_8 ?_
  refine lv_topi (fun y_7 ey_7 => ?_)
  have ey_7 : y_7 = (nI (bz - 1)) := ey_7.trans (z_msub (a := bz) (c := 1) (by omega) (by omega) (by omega))
  subst ey_7
  refine va_put (D := D) (cl := vwCl) (ci := 4) (v := .int (nI (bz - 1))) (ty := .int) (C := RX4) (T := TX4) (N := 2) hx hb hts zuX4_passSecond_X4 tyX4 tyX4_ok nmX4 hown hK hP hD hS 0 rfl rfl 0 (by decide) (hts (.fieldLink RX4 7 "Gatherhouse$Role" "busy" "I") (by decide +kernel)) (fun _ h9 => h9) rfl (by decide +kernel) rfl rfl (Nat.le_of_ble_eq_true rfl) dX4_passSecond_11 (fun H locs hP hD hS => ?_)
  have hP : va_P D vwCl [(ro, .inr (4, [.int (nI (bz - 1)), .int pd]))] H := hP
  have hD : va_D A [(ro, .inr (4, [.int (nI (bz - 1)), .int pd]))] := hD
  exact W.vret hx hb hr (fun t ht hW => ⟨⟨(), rfl, trivial, q_RW_mk hP hK hD [0] [] rfl rfl (by decide) rfl ht hW.alike⟩, hS.F ht⟩) hS.2.2 dX4_passSecond_14
theorem dX5_begin_0 : decode cX5_begin 0 = .ok (.aload_n 0, 1) := by decide +kernel
theorem dX5_begin_1 : decode cX5_begin 1 = .ok (.iconst 0, 1) := by decide +kernel
theorem dX5_begin_2 : decode cX5_begin 2 = .ok (.putfield 21, 3) := by decide +kernel
theorem dX5_begin_5 : decode cX5_begin 5 = .ok (.aload_n 0, 1) := by decide +kernel
theorem dX5_begin_6 : decode cX5_begin 6 = .ok (.ldc 36, 2) := by decide +kernel
theorem dX5_begin_8 : decode cX5_begin 8 = .ok (.putfield 25, 3) := by decide +kernel
theorem dX5_begin_11 : decode cX5_begin 11 = .ok (.aload_n 0, 1) := by decide +kernel
theorem dX5_begin_12 : decode cX5_begin 12 = .ok (.ldc 36, 2) := by decide +kernel
theorem dX5_begin_14 : decode cX5_begin 14 = .ok (.putfield 28, 3) := by decide +kernel
theorem dX5_begin_17 : decode cX5_begin 17 = .ok (.aload_n 0, 1) := by decide +kernel
theorem dX5_begin_18 : decode cX5_begin 18 = .ok (.iconst 0, 1) := by decide +kernel
theorem dX5_begin_19 : decode cX5_begin 19 = .ok (.putfield 31, 3) := by decide +kernel
theorem dX5_begin_22 : decode cX5_begin 22 = .ok (.return_, 1) := by decide +kernel
def wzEX5_begin : List Cond := [.code yX5_begin cX5_begin 1 none, .fieldLink RX5 21 "Gatherhouse$SetSearch" "size" "I", .constant RX5 36 (2147483647), .fieldLink RX5 25 "Gatherhouse$SetSearch" "bestApart" "I", .fieldLink RX5 28 "Gatherhouse$SetSearch" "bestMass" "I", .fieldLink RX5 31 "Gatherhouse$SetSearch" "bestChoice" "I"]
def wzX5_begin : List Cond := wzEX5_begin ++ (u_ws RX5 TX5 7)
theorem zgEX5_begin : wzEX5_begin.all goodWord = true := by decide +kernel
theorem zuX5_begin_X5 : ∀ w ∈ u_ws RX5 TX5 7, w ∈ wzX5_begin := (fun _ h => (List.mem_append_right _ h))
set_option maxHeartbeats 4000000 in
set_option maxRecDepth 100000 in
theorem zc_X5_begin (l : Launch) (D : va_G) (G : Nat × Nat × (Nat → Int32)) (se : Nat) (n1 : Nat) (n2 : Nat) (n3 : Nat) (sz : Nat) : Met l yX5_begin wzX5_begin ({ frames := 0, cells := 0, slots := 0, locals := 0 }) (va_Pc [.ref se] (p_RW D G [] [(se, .inr (5, [.ref n1, .ref n2, .ref n3, .int 0, .int 0, .int 0, .int 0]))] sz)) (va_Qv (fun (u : Unit) => True) (fun (u : Unit) (t : State) => q_RW D [] [(se, .inr (5, [.ref n1, .ref n2, .ref n3, .int 0, .int 2147483647, .int 2147483647, .int 0]))] (va_A [(se, .inr (5, [.ref n1, .ref n2, .ref n3, .int 0, .int 0, .int 0, .int 0]))] sz) t) (va_A [(se, .inr (5, [.ref n1, .ref n2, .ref n3, .int 0, .int 0, .int 0, .int 0]))] sz)) 0 0 (va_A [(se, .inr (5, [.ref n1, .ref n2, .ref n3, .int 0, .int 0, .int 0, .int 0]))] sz) := by
  refine Met.ofW (cc := cX5_begin) (maxL := 1) (ret := none) (by decide) rfl ?_
  intro p e s m args below meth c s₁ B hml hv
  obtain ⟨rfl, hsz, hP, hK, hD0, hT, hZ⟩ := hv
  have hx := B.exec
  have hb := B.bytes
  have hr := B.returns
  have hts := atoms_spec (ws := wzX5_begin) B.pre
  have hown : s.vm.findClass RX5 = some m.cls := findClass_of_methodNamed B.named
  have hlocks := B.notSynchronized
  subst hsz
  have hD := hD0.self (sz := s.heap.size)
  generalize hAe : va_A [(se, .inr (5, [.ref n1, .ref n2, .ref n3, .int 0, .int 0, .int 0, .int 0]))] s.heap.size = A at hD hZ ⊢
  have hA : ∀ q : Nat, s.heap.size ≤ q → A q := fun q h => by rw [← hAe]; exact Or.inr h
  have hS : va_S A s.heap s.heap [] := va_S.rf
  have hl := lv_entry ([.ref se]) (n := 1) (Nat.le_of_ble_eq_true rfl)
  rw [lg_entry_eq]
  generalize (lg_sl ([.ref se]) ++ List.replicate (1 - (lg_sl ([.ref se])).length) Slot.unset).toArray = ls at hl ⊢
  have hl : lv_has ls 1 [(0, .ref se)] := hl
  refine lv_aload_n hx hb dX5_begin_0 rfl (lv_at hl 0 rfl) ?_
  refine lv_iconst (v := 0) hx hb dX5_begin_1 (by decide) ?_
  refine va_put (D := D) (cl := vwCl) (ci := 5) (v := .int 0) (ty := .int) (C := RX5) (T := TX5) (N := 7) hx hb hts zuX5_begin_X5 tyX5 tyX5_ok nmX5 hown hK hP hD hS 0 rfl rfl 3 (by decide) (hts (.fieldLink RX5 21 "Gatherhouse$SetSearch" "size" "I") (by decide +kernel)) (fun _ h9 => h9) rfl (by decide +kernel) rfl rfl (Nat.le_of_ble_eq_true rfl) dX5_begin_2 (fun H locs hP hD hS => ?_)
  have hP : va_P D vwCl [(se, .inr (5, [.ref n1, .ref n2, .ref n3, .int 0, .int 0, .int 0, .int 0]))] H := hP
  have hD : va_D A [(se, .inr (5, [.ref n1, .ref n2, .ref n3, .int 0, .int 0, .int 0, .int 0]))] := hD
  refine lv_aload_n hx hb dX5_begin_5 rfl (lv_at hl 0 rfl) ?_
  refine lv_ldc (v := 2147483647) hx hb hown (hts (.constant RX5 36 (2147483647)) (by decide +kernel)) dX5_begin_6 ?_
  refine va_put (D := D) (cl := vwCl) (ci := 5) (v := .int 2147483647) (ty := .int) (C := RX5) (T := TX5) (N := 7) hx hb hts zuX5_begin_X5 tyX5 tyX5_ok nmX5 hown hK hP hD hS 0 rfl rfl 4 (by decide) (hts (.fieldLink RX5 25 "Gatherhouse$SetSearch" "bestApart" "I") (by decide +kernel)) (fun _ h9 => h9) rfl (by decide +kernel) rfl rfl (Nat.le_of_ble_eq_true rfl) dX5_begin_8 (fun H locs hP hD hS => ?_)
  have hP : va_P D vwCl [(se, .inr (5, [.ref n1, .ref n2, .ref n3, .int 0, .int 2147483647, .int 0, .int 0]))] H := hP
  have hD : va_D A [(se, .inr (5, [.ref n1, .ref n2, .ref n3, .int 0, .int 2147483647, .int 0, .int 0]))] := hD
  refine lv_aload_n hx hb dX5_begin_11 rfl (lv_at hl 0 rfl) ?_
  refine lv_ldc (v := 2147483647) hx hb hown (hts (.constant RX5 36 (2147483647)) (by decide +kernel)) dX5_begin_12 ?_
  refine va_put (D := D) (cl := vwCl) (ci := 5) (v := .int 2147483647) (ty := .int) (C := RX5) (T := TX5) (N := 7) hx hb hts zuX5_begin_X5 tyX5 tyX5_ok nmX5 hown hK hP hD hS 0 rfl rfl 5 (by decide) (hts (.fieldLink RX5 28 "Gatherhouse$SetSearch" "bestMass" "I") (by decide +kernel)) (fun _ h9 => h9) rfl (by decide +kernel) rfl rfl (Nat.le_of_ble_eq_true rfl) dX5_begin_14 (fun H locs hP hD hS => ?_)
  have hP : va_P D vwCl [(se, .inr (5, [.ref n1, .ref n2, .ref n3, .int 0, .int 2147483647, .int 2147483647, .int 0]))] H := hP
  have hD : va_D A [(se, .inr (5, [.ref n1, .ref n2, .ref n3, .int 0, .int 2147483647, .int 2147483647, .int 0]))] := hD
  refine lv_aload_n hx hb dX5_begin_17 rfl (lv_at hl 0 rfl) ?_
  refine lv_iconst (v := 0) hx hb dX5_begin_18 (by decide) ?_
  refine va_put (D := D) (cl := vwCl) (ci := 5) (v := .int 0) (ty := .int) (C := RX5) (T := TX5) (N := 7) hx hb hts zuX5_begin_X5 tyX5 tyX5_ok nmX5 hown hK hP hD hS 0 rfl rfl 6 (by decide) (hts (.fieldLink RX5 31 "Gatherhouse$SetSearch" "bestChoice" "I") (by decide +kernel)) (fun _ h9 => h9) rfl (by decide +kernel) rfl rfl (Nat.le_of_ble_eq_true rfl) dX5_begin_19 (fun H locs hP hD hS => ?_)
  have hP : va_P D vwCl [(se, .inr (5, [.ref n1, .ref n2, .ref n3, .int 0, .int 2147483647, .int 2147483647, .int 0]))] H := hP
  have hD : va_D A [(se, .inr (5, [.ref n1, .ref n2, .ref n3, .int 0, .int 2147483647, .int 2147483647, .int 0]))] := hD
  exact W.vret hx hb hr (fun t ht hW => ⟨⟨(), rfl, trivial, q_RW_mk hP hK hD [0] [] rfl rfl (by decide) rfl ht hW.alike⟩, hS.F ht⟩) hS.2.2 dX5_begin_22
theorem dX6_checkRange_0 : decode cX6_checkRange 0 = .ok (.iload_n 0, 1) := by decide +kernel
theorem dX6_checkRange_1 : decode cX6_checkRange 1 = .ok (.iload_n 1, 1) := by decide +kernel
theorem dX6_checkRange_2 : decode cX6_checkRange 2 = .ok (.if_icmp .lt 8, 3) := by decide +kernel
theorem dX6_checkRange_5 : decode cX6_checkRange 5 = .ok (.iload_n 0, 1) := by decide +kernel
theorem dX6_checkRange_6 : decode cX6_checkRange 6 = .ok (.iload_n 2, 1) := by decide +kernel
theorem dX6_checkRange_7 : decode cX6_checkRange 7 = .ok (.if_icmp .le 14, 3) := by decide +kernel
theorem dX6_checkRange_21 : decode cX6_checkRange 21 = .ok (.return_, 1) := by decide +kernel
def wzEX6_checkRange_ok : List Cond := [.code yX6_checkRange cX6_checkRange 3 none]
def wzX6_checkRange_ok : List Cond := wzEX6_checkRange_ok ++ []
theorem zgEX6_checkRange_ok : wzEX6_checkRange_ok.all goodWord = true := by decide +kernel
set_option maxHeartbeats 4000000 in
set_option maxRecDepth 100000 in
theorem zc_X6_checkRange_ok (l : Launch) (hnt : l.stackTraces = false) (D : va_G) (G : Nat × Nat × (Nat → Int32)) (v : Nat) (lo : Nat) (hi : Nat) (sz : Nat) (g1 : lo ≤ v) (g2 : v ≤ hi) (hh_v : v ≤ 100000000) (hh_lo : lo ≤ 100000) (hh_hi : hi ≤ 100000) : vx_Met l yX6_checkRange wzX6_checkRange_ok ({ frames := 0, cells := 0, slots := 0, locals := 0 }) (va_Pc [.int (nI v), .int (nI lo), .int (nI hi)] (p_RW D G [] [] sz)) (va_Qv (fun (u : Unit) => True) (fun (u : Unit) (t : State) => q_RW D [] [] (va_A [] sz) t) (va_A [] sz)) (vx_X (fun (_ : Unit) => True) (fun E (_ : Unit) (_ : State) => False) (va_A [] sz)) 0 0 (va_A [] sz) := by
  refine vx_ofW (cc := cX6_checkRange) (maxL := 3) (ret := none) (by decide) rfl ?_
  intro p e s m args below meth c s₁ B hml hxt hv
  obtain ⟨rfl, hsz, hP, hK, hD0, hT, hZ⟩ := hv
  have hx := B.exec
  have hb := B.bytes
  have hr := B.returns
  have hts := atoms_spec (ws := wzX6_checkRange_ok) B.pre
  have hown : s.vm.findClass RX6 = some m.cls := findClass_of_methodNamed B.named
  have hlocks := B.notSynchronized
  subst hsz
  have hD := hD0.self (sz := s.heap.size)
  generalize hAe : va_A [] s.heap.size = A at hD hZ ⊢
  have hA : ∀ q : Nat, s.heap.size ≤ q → A q := fun q h => by rw [← hAe]; exact Or.inr h
  have hS : va_S A s.heap s.heap [] := va_S.rf
  have hl := lv_entry ([.int (nI v), .int (nI lo), .int (nI hi)]) (n := 3) (Nat.le_of_ble_eq_true rfl)
  rw [lg_entry_eq]
  generalize (lg_sl ([.int (nI v), .int (nI lo), .int (nI hi)]) ++ List.replicate (3 - (lg_sl ([.int (nI v), .int (nI lo), .int (nI hi)])).length) Slot.unset).toArray = ls at hl ⊢
  have hl : lv_has ls 3 [(0, .int (nI v)), (1, .int (nI lo)), (2, .int (nI hi))] := hl
  refine lv_iload_n hx hb dX6_checkRange_0 rfl (lv_at hl 0 rfl) ?_
  refine lv_iload_n hx hb dX6_checkRange_1 rfl (lv_at hl 1 rfl) ?_
  refine lv_icmp_lt (tgt := 10) hx hb dX6_checkRange_2 (by decide) (fun cc => absurd cc (fun z => absurd ((nI_ltI (a := v) (b := lo) (by omega) (by omega)).mp z) (by omega))) (fun _ => ?_)
  refine lv_iload_n hx hb dX6_checkRange_5 rfl (lv_at hl 0 rfl) ?_
  refine lv_iload_n hx hb dX6_checkRange_6 rfl (lv_at hl 2 rfl) ?_
  refine lv_icmp_le (tgt := 21) hx hb dX6_checkRange_7 (by decide) (fun _ => ?_) (fun cc => absurd ((nI_leI (a := v) (b := hi) (by omega) (by omega)).mpr (by omega)) cc)
  refine vx_ret ?_
  exact W.vret hx hb hr (fun t ht hW => ⟨⟨(), rfl, trivial, q_RW_mk hP hK hD [] [] rfl rfl (by decide) rfl ht hW.alike⟩, hS.F ht⟩) hS.2.2 dX6_checkRange_21
theorem dX6_checkRange_10 : decode cX6_checkRange 10 = .ok (.new 118, 3) := by decide +kernel
theorem dX6_checkRange_13 : decode cX6_checkRange 13 = .ok (.dup, 1) := by decide +kernel
theorem dX6_checkRange_14 : decode cX6_checkRange 14 = .ok (.ldc_w 363, 3) := by decide +kernel
theorem dX6_checkRange_17 : decode cX6_checkRange 17 = .ok (.invokespecial 122, 3) := by decide +kernel
theorem dX6_checkRange_20 : decode cX6_checkRange 20 = .ok (.athrow, 1) := by decide +kernel
def wzEX6_checkRange_lo : List Cond := [.code yX6_checkRange cX6_checkRange 3 none, .classLink RX6 118 "java/lang/IllegalArgumentException", .initialized "java/lang/IllegalArgumentException"]
def wzX6_checkRange_lo : List Cond := wzEX6_checkRange_lo ++ ((vx_atS RX6 122 "java/lang/IllegalArgumentException" ["java/lang/RuntimeException", "java/lang/Exception"]).filter goodWord)
theorem zgEX6_checkRange_lo : wzEX6_checkRange_lo.all goodWord = true := by decide +kernel
theorem ztX6_checkRange_lo_X6_122 : ∀ w ∈ (vx_atS RX6 122 "java/lang/IllegalArgumentException" ["java/lang/RuntimeException", "java/lang/Exception"]).filter goodWord, w ∈ wzX6_checkRange_lo := (fun _ h => (List.mem_append_right _ h))
set_option maxHeartbeats 4000000 in
set_option maxRecDepth 100000 in
theorem zc_X6_checkRange_lo (l : Launch) (hnt : l.stackTraces = false) (D : va_G) (G : Nat × Nat × (Nat → Int32)) (v : Nat) (lo : Nat) (hi : Nat) (sz : Nat) (g1 : v < lo) (hh_v : v ≤ 100000000) (hh_lo : lo ≤ 100000) (hh_hi : hi ≤ 100000) : vx_Met l yX6_checkRange wzX6_checkRange_lo ({ frames := 6, cells := 1, slots := 6, locals := 82 }) (va_Pc [.int (nI v), .int (nI lo), .int (nI hi)] (p_RW D G [] [] sz)) (va_Qv (fun (u : Unit) => False) (fun (u : Unit) (t : State) => q_RW D [] [] (va_A [] sz) t) (va_A [] sz)) (vx_X (fun (_ : Unit) => True) (fun E (_ : Unit) (_ : State) => (E = "java/lang/IllegalArgumentException")) (va_A [] sz)) 1 6 (va_A [] sz) := by
  refine vx_ofW (cc := cX6_checkRange) (maxL := 3) (ret := none) (by decide) rfl ?_
  intro p e s m args below meth c s₁ B hml hxt hv
  obtain ⟨rfl, hsz, hP, hK, hD0, hT, hZ⟩ := hv
  have hx := B.exec
  have hb := B.bytes
  have hr := B.returns
  have hts := atoms_spec (ws := wzX6_checkRange_lo) B.pre
  have hown : s.vm.findClass RX6 = some m.cls := findClass_of_methodNamed B.named
  have hlocks := B.notSynchronized
  subst hsz
  have hD := hD0.self (sz := s.heap.size)
  generalize hAe : va_A [] s.heap.size = A at hD hZ ⊢
  have hA : ∀ q : Nat, s.heap.size ≤ q → A q := fun q h => by rw [← hAe]; exact Or.inr h
  have hS : va_S A s.heap s.heap [] := va_S.rf
  have hl := lv_entry ([.int (nI v), .int (nI lo), .int (nI hi)]) (n := 3) (Nat.le_of_ble_eq_true rfl)
  rw [lg_entry_eq]
  generalize (lg_sl ([.int (nI v), .int (nI lo), .int (nI hi)]) ++ List.replicate (3 - (lg_sl ([.int (nI v), .int (nI lo), .int (nI hi)])).length) Slot.unset).toArray = ls at hl ⊢
  have hl : lv_has ls 3 [(0, .int (nI v)), (1, .int (nI lo)), (2, .int (nI hi))] := hl
  refine lv_iload_n hx hb dX6_checkRange_0 rfl (lv_at hl 0 rfl) ?_
  refine lv_iload_n hx hb dX6_checkRange_1 rfl (lv_at hl 1 rfl) ?_
  refine lv_icmp_lt (tgt := 10) hx hb dX6_checkRange_2 (by decide) (fun _ => ?_) (fun cc => absurd ((nI_ltI (a := v) (b := lo) (by omega) (by omega)).mpr (by omega)) cc)
  obtain ⟨sa_8, hsa_8⟩ := hT.2.2.2.2.2.1 ("Gatherhouse", 363, "a number is out of range") (by decide +kernel)
  refine vx_throwSW (own := RX6) (cls := "java/lang/IllegalArgumentException") (names := ["java/lang/RuntimeException", "java/lang/Exception"]) (A := A) hx hb hnt hown (by decide +kernel) (by decide +kernel) (hts (.classLink RX6 118 "java/lang/IllegalArgumentException") (by decide +kernel)) (hts (.initialized "java/lang/IllegalArgumentException") (by decide +kernel)) hsa_8 (z_throw (fun w h => hts w (ztX6_checkRange_lo_X6_122 w h)) (hT.2.2.1 ("java/lang/IllegalArgumentException", "java/lang/IllegalArgumentException") (by decide +kernel)) hT.2.2.2.2.2.2.2.1 (by decide +kernel)) (by decide +kernel) hZ.1 hZ.2.1 hS (hl.1.trans hml.symm) dX6_checkRange_10 dX6_checkRange_13 dX6_checkRange_14 dX6_checkRange_17 dX6_checkRange_20 (fun x h => (hxt x h).elim) (Nat.le_of_ble_eq_true rfl) (Nat.le_of_ble_eq_true rfl) (Nat.le_of_ble_eq_true rfl) (Nat.le_of_ble_eq_true rfl) hlocks (fun t hvm hz1 hk1 => ⟨(), trivial, rfl, ⟨Nat.le_trans hS.1 hz1, fun q h1 h2 => (hk1 q (Nat.lt_of_lt_of_le h1 hS.1)).trans (hS.2.1 q h1 h2)⟩⟩) hS.2.2 (Nat.le_of_ble_eq_true rfl) (Nat.le_of_ble_eq_true rfl)
def wzEX6_checkRange_hi : List Cond := [.code yX6_checkRange cX6_checkRange 3 none, .classLink RX6 118 "java/lang/IllegalArgumentException", .initialized "java/lang/IllegalArgumentException"]
def wzX6_checkRange_hi : List Cond := wzEX6_checkRange_hi ++ ((vx_atS RX6 122 "java/lang/IllegalArgumentException" ["java/lang/RuntimeException", "java/lang/Exception"]).filter goodWord)
theorem zgEX6_checkRange_hi : wzEX6_checkRange_hi.all goodWord = true := by decide +kernel
theorem ztX6_checkRange_hi_X6_122 : ∀ w ∈ (vx_atS RX6 122 "java/lang/IllegalArgumentException" ["java/lang/RuntimeException", "java/lang/Exception"]).filter goodWord, w ∈ wzX6_checkRange_hi := (fun _ h => (List.mem_append_right _ h))
set_option maxHeartbeats 4000000 in
set_option maxRecDepth 100000 in
theorem zc_X6_checkRange_hi (l : Launch) (hnt : l.stackTraces = false) (D : va_G) (G : Nat × Nat × (Nat → Int32)) (v : Nat) (lo : Nat) (hi : Nat) (sz : Nat) (g1 : lo ≤ v) (g2 : hi < v) (hh_v : v ≤ 100000000) (hh_lo : lo ≤ 100000) (hh_hi : hi ≤ 100000) : vx_Met l yX6_checkRange wzX6_checkRange_hi ({ frames := 6, cells := 1, slots := 6, locals := 82 }) (va_Pc [.int (nI v), .int (nI lo), .int (nI hi)] (p_RW D G [] [] sz)) (va_Qv (fun (u : Unit) => False) (fun (u : Unit) (t : State) => q_RW D [] [] (va_A [] sz) t) (va_A [] sz)) (vx_X (fun (_ : Unit) => True) (fun E (_ : Unit) (_ : State) => (E = "java/lang/IllegalArgumentException")) (va_A [] sz)) 1 6 (va_A [] sz) := by
  refine vx_ofW (cc := cX6_checkRange) (maxL := 3) (ret := none) (by decide) rfl ?_
  intro p e s m args below meth c s₁ B hml hxt hv
  obtain ⟨rfl, hsz, hP, hK, hD0, hT, hZ⟩ := hv
  have hx := B.exec
  have hb := B.bytes
  have hr := B.returns
  have hts := atoms_spec (ws := wzX6_checkRange_hi) B.pre
  have hown : s.vm.findClass RX6 = some m.cls := findClass_of_methodNamed B.named
  have hlocks := B.notSynchronized
  subst hsz
  have hD := hD0.self (sz := s.heap.size)
  generalize hAe : va_A [] s.heap.size = A at hD hZ ⊢
  have hA : ∀ q : Nat, s.heap.size ≤ q → A q := fun q h => by rw [← hAe]; exact Or.inr h
  have hS : va_S A s.heap s.heap [] := va_S.rf
  have hl := lv_entry ([.int (nI v), .int (nI lo), .int (nI hi)]) (n := 3) (Nat.le_of_ble_eq_true rfl)
  rw [lg_entry_eq]
  generalize (lg_sl ([.int (nI v), .int (nI lo), .int (nI hi)]) ++ List.replicate (3 - (lg_sl ([.int (nI v), .int (nI lo), .int (nI hi)])).length) Slot.unset).toArray = ls at hl ⊢
  have hl : lv_has ls 3 [(0, .int (nI v)), (1, .int (nI lo)), (2, .int (nI hi))] := hl
  refine lv_iload_n hx hb dX6_checkRange_0 rfl (lv_at hl 0 rfl) ?_
  refine lv_iload_n hx hb dX6_checkRange_1 rfl (lv_at hl 1 rfl) ?_
  refine lv_icmp_lt (tgt := 10) hx hb dX6_checkRange_2 (by decide) (fun cc => absurd cc (fun z => absurd ((nI_ltI (a := v) (b := lo) (by omega) (by omega)).mp z) (by omega))) (fun _ => ?_)
  refine lv_iload_n hx hb dX6_checkRange_5 rfl (lv_at hl 0 rfl) ?_
  refine lv_iload_n hx hb dX6_checkRange_6 rfl (lv_at hl 2 rfl) ?_
  refine lv_icmp_le (tgt := 21) hx hb dX6_checkRange_7 (by decide) (fun cc => absurd cc (fun z => absurd ((nI_leI (a := v) (b := hi) (by omega) (by omega)).mp z) (by omega))) (fun _ => ?_)
  obtain ⟨sa_9, hsa_9⟩ := hT.2.2.2.2.2.1 ("Gatherhouse", 363, "a number is out of range") (by decide +kernel)
  refine vx_throwSW (own := RX6) (cls := "java/lang/IllegalArgumentException") (names := ["java/lang/RuntimeException", "java/lang/Exception"]) (A := A) hx hb hnt hown (by decide +kernel) (by decide +kernel) (hts (.classLink RX6 118 "java/lang/IllegalArgumentException") (by decide +kernel)) (hts (.initialized "java/lang/IllegalArgumentException") (by decide +kernel)) hsa_9 (z_throw (fun w h => hts w (ztX6_checkRange_hi_X6_122 w h)) (hT.2.2.1 ("java/lang/IllegalArgumentException", "java/lang/IllegalArgumentException") (by decide +kernel)) hT.2.2.2.2.2.2.2.1 (by decide +kernel)) (by decide +kernel) hZ.1 hZ.2.1 hS (hl.1.trans hml.symm) dX6_checkRange_10 dX6_checkRange_13 dX6_checkRange_14 dX6_checkRange_17 dX6_checkRange_20 (fun x h => (hxt x h).elim) (Nat.le_of_ble_eq_true rfl) (Nat.le_of_ble_eq_true rfl) (Nat.le_of_ble_eq_true rfl) (Nat.le_of_ble_eq_true rfl) hlocks (fun t hvm hz1 hk1 => ⟨(), trivial, rfl, ⟨Nat.le_trans hS.1 hz1, fun q h1 h2 => (hk1 q (Nat.lt_of_lt_of_le h1 hS.1)).trans (hS.2.1 q h1 h2)⟩⟩) hS.2.2 (Nat.le_of_ble_eq_true rfl) (Nat.le_of_ble_eq_true rfl)
theorem dX6_findGlass_0 : decode cX6_findGlass 0 = .ok (.iload_n 1, 1) := by decide +kernel
theorem dX6_findGlass_1 : decode cX6_findGlass 1 = .ok (.ifCond .lt 12, 3) := by decide +kernel
theorem dX6_findGlass_4 : decode cX6_findGlass 4 = .ok (.iload_n 1, 1) := by decide +kernel
theorem dX6_findGlass_5 : decode cX6_findGlass 5 = .ok (.aload_n 0, 1) := by decide +kernel
theorem dX6_findGlass_6 : decode cX6_findGlass 6 = .ok (.getfield 11, 3) := by decide +kernel
theorem dX6_findGlass_9 : decode cX6_findGlass 9 = .ok (.arraylength, 1) := by decide +kernel
theorem dX6_findGlass_10 : decode cX6_findGlass 10 = .ok (.if_icmp .lt 7, 3) := by decide +kernel
theorem dX6_findGlass_17 : decode cX6_findGlass 17 = .ok (.aload_n 0, 1) := by decide +kernel
theorem dX6_findGlass_18 : decode cX6_findGlass 18 = .ok (.getfield 11, 3) := by decide +kernel
theorem dX6_findGlass_21 : decode cX6_findGlass 21 = .ok (.iload_n 1, 1) := by decide +kernel
theorem dX6_findGlass_22 : decode cX6_findGlass 22 = .ok (.aaload, 1) := by decide +kernel
theorem dX6_findGlass_23 : decode cX6_findGlass 23 = .ok (.astore_n 2, 1) := by decide +kernel
theorem dX6_findGlass_24 : decode cX6_findGlass 24 = .ok (.aload_n 2, 1) := by decide +kernel
theorem dX6_findGlass_25 : decode cX6_findGlass 25 = .ok (.ifnonnull 14, 3) := by decide +kernel
theorem dX6_findGlass_39 : decode cX6_findGlass 39 = .ok (.aload_n 2, 1) := by decide +kernel
theorem dX6_findGlass_40 : decode cX6_findGlass 40 = .ok (.areturn, 1) := by decide +kernel
def wzEX6_findGlass_ok : List Cond := [.code yX6_findGlass cX6_findGlass 3 (some (.object "Gatherhouse$Glass")), .fieldLink RX6 11 "Gatherhouse" "glasses" "[LGatherhouse$Glass;"]
def wzX6_findGlass_ok : List Cond := wzEX6_findGlass_ok ++ (u_ws RX6 TX6 16)
theorem zgEX6_findGlass_ok : wzEX6_findGlass_ok.all goodWord = true := by decide +kernel
theorem zuX6_findGlass_ok_X6 : ∀ w ∈ u_ws RX6 TX6 16, w ∈ wzX6_findGlass_ok := (fun _ h => (List.mem_append_right _ h))
set_option maxHeartbeats 4000000 in
set_option maxRecDepth 100000 in
theorem zc_X6_findGlass_ok (l : Launch) (hnt : l.stackTraces = false) (D : va_G) (G : Nat × Nat × (Nat → Int32)) (xo : Nat) (k : Nat) (xg : Nat) (gc : Int32) (xp : Nat) (pc : Int32) (xq : Nat) (qc : Int32) (r1 : Nat) (r2 : Nat) (r3 : Nat) (r4 : Nat) (se : Nat) (ts : Int32) (hou : Int32) (dr : Int32) (su : Int32) (br : Int32) (cg : ClassId) (f : Nat → Option Nat) (g : Nat) (sz : Nat) (h9f : f k = some g) (hh_k : k ≤ 5) : vx_Met l yX6_findGlass wzX6_findGlass_ok ({ frames := 0, cells := 0, slots := 0, locals := 0 }) (va_Pc [.ref xo, .int (nI k)] (p_RW D G [(cg, .object "Gatherhouse$Glass")] [(xo, .inr (6, [.ref xg, .int gc, .ref xp, .int pc, .ref xq, .int qc, .ref r1, .ref r2, .ref r3, .ref r4, .ref se, .int ts, .int hou, .int dr, .int su, .int br])), (xg, .inl (cg, 6, .inr (.inr (.inr (.inr f)))))] sz)) (va_Qq (fun (r : Option Nat) (u : Unit) => r = (some g)) (fun (u : Unit) (t : State) => q_RW D [(cg, .object "Gatherhouse$Glass")] [(xo, .inr (6, [.ref xg, .int gc, .ref xp, .int pc, .ref xq, .int qc, .ref r1, .ref r2, .ref r3, .ref r4, .ref se, .int ts, .int hou, .int dr, .int su, .int br])), (xg, .inl (cg, 6, .inr (.inr (.inr (.inr f)))))] (va_A [(xo, .inr (6, [.ref xg, .int gc, .ref xp, .int pc, .ref xq, .int qc, .ref r1, .ref r2, .ref r3, .ref r4, .ref se, .int ts, .int hou, .int dr, .int su, .int br])), (xg, .inl (cg, 6, .inr (.inr (.inr (.inr f)))))] sz) t) (va_A [(xo, .inr (6, [.ref xg, .int gc, .ref xp, .int pc, .ref xq, .int qc, .ref r1, .ref r2, .ref r3, .ref r4, .ref se, .int ts, .int hou, .int dr, .int su, .int br])), (xg, .inl (cg, 6, .inr (.inr (.inr (.inr f)))))] sz)) (vx_X (fun (_ : Unit) => True) (fun E (_ : Unit) (_ : State) => False) (va_A [(xo, .inr (6, [.ref xg, .int gc, .ref xp, .int pc, .ref xq, .int qc, .ref r1, .ref r2, .ref r3, .ref r4, .ref se, .int ts, .int hou, .int dr, .int su, .int br])), (xg, .inl (cg, 6, .inr (.inr (.inr (.inr f)))))] sz)) 0 0 (va_A [(xo, .inr (6, [.ref xg, .int gc, .ref xp, .int pc, .ref xq, .int qc, .ref r1, .ref r2, .ref r3, .ref r4, .ref se, .int ts, .int hou, .int dr, .int su, .int br])), (xg, .inl (cg, 6, .inr (.inr (.inr (.inr f)))))] sz) := by
  refine vx_ofW (cc := cX6_findGlass) (maxL := 3) (ret := (some (.object "Gatherhouse$Glass"))) (by decide) rfl ?_
  intro p e s m args below meth c s₁ B hml hxt hv
  obtain ⟨rfl, hsz, hP, hK, hD0, hT, hZ⟩ := hv
  have hx := B.exec
  have hb := B.bytes
  have hr := B.returns
  have hts := atoms_spec (ws := wzX6_findGlass_ok) B.pre
  have hown : s.vm.findClass RX6 = some m.cls := findClass_of_methodNamed B.named
  have hlocks := B.notSynchronized
  subst hsz
  have hD := hD0.self (sz := s.heap.size)
  generalize hAe : va_A [(xo, .inr (6, [.ref xg, .int gc, .ref xp, .int pc, .ref xq, .int qc, .ref r1, .ref r2, .ref r3, .ref r4, .ref se, .int ts, .int hou, .int dr, .int su, .int br])), (xg, .inl (cg, 6, .inr (.inr (.inr (.inr f)))))] s.heap.size = A at hD hZ ⊢
  have hA : ∀ q : Nat, s.heap.size ≤ q → A q := fun q h => by rw [← hAe]; exact Or.inr h
  have hS : va_S A s.heap s.heap [] := va_S.rf
  have hl := lv_entry ([.ref xo, .int (nI k)]) (n := 3) (Nat.le_of_ble_eq_true rfl)
  rw [lg_entry_eq]
  generalize (lg_sl ([.ref xo, .int (nI k)]) ++ List.replicate (3 - (lg_sl ([.ref xo, .int (nI k)])).length) Slot.unset).toArray = ls at hl ⊢
  have hl : lv_has ls 3 [(0, .ref xo), (1, .int (nI k))] := hl
  refine lv_iload_n hx hb dX6_findGlass_0 rfl (lv_at hl 1 rfl) ?_
  refine lv_if_lt (tgt := 13) hx hb dX6_findGlass_1 (by decide) (fun cc => absurd cc (fun z => absurd ((nI_ltI (a := k) (b := 0) (by omega) (by omega)).mp z) (by omega))) (fun _ => ?_)
  refine lv_iload_n hx hb dX6_findGlass_4 rfl (lv_at hl 1 rfl) ?_
  refine lv_aload_n hx hb dX6_findGlass_5 rfl (lv_at hl 0 rfl) ?_
  refine va_get (D := D) (cl := vwCl) (ci := 6) (v := .ref xg) (C := RX6) (T := TX6) (N := 16) hx hb hts zuX6_findGlass_ok_X6 hown hK hP 0 rfl rfl 0 (by decide) (hts (.fieldLink RX6 11 "Gatherhouse" "glasses" "[LGatherhouse$Glass;") (by decide +kernel)) (fun _ h9 => h9) rfl dX6_findGlass_6 ?_
  refine va_alen (D := D) (cl := vwCl) (v := 6) hx hb hK hP 1 0 rfl rfl rfl dX6_findGlass_9 ?_
  refine lv_icmp_lt (tgt := 17) hx hb dX6_findGlass_10 (by decide) (fun _ => ?_) (fun cc => absurd ((nI_ltI (a := k) (b := 6) (by omega) (by omega)).mpr (by omega)) cc)
  refine lv_aload_n hx hb dX6_findGlass_17 rfl (lv_at hl 0 rfl) ?_
  refine va_get (D := D) (cl := vwCl) (ci := 6) (v := .ref xg) (C := RX6) (T := TX6) (N := 16) hx hb hts zuX6_findGlass_ok_X6 hown hK hP 0 rfl rfl 0 (by decide) (hts (.fieldLink RX6 11 "Gatherhouse" "glasses" "[LGatherhouse$Glass;") (by decide +kernel)) (fun _ h9 => h9) rfl dX6_findGlass_18 ?_
  refine lv_iload_n hx hb dX6_findGlass_21 rfl (lv_at hl 1 rfl) ?_
  refine va_aldq (D := D) (cl := vwCl) hx hb hK hP 1 0 rfl rfl (vp_in_nI (n := k) (N := 6) (by omega) (by omega)) dX6_findGlass_22 ?_
  refine W.eq (g2 := F0 m 23 ls [.ref g]) (by rw [z_rf (k := k) (by omega) h9f]) ?_
  refine lv_astore_n (lv' := [(2, .ref g), (0, .ref xo), (1, .int (nI k))]) hx hb dX6_findGlass_23 rfl hl (by decide) rfl (fun ls hl => ?_)
  refine lv_aload_n hx hb dX6_findGlass_24 rfl (lv_at hl 0 rfl) ?_
  refine lv_ifnonnull (tgt := 39) hx hb dX6_findGlass_25 (by decide) ?_
  refine lv_aload_n hx hb dX6_findGlass_39 rfl (lv_at hl 0 rfl) ?_
  refine vx_ret ?_
  exact W.aret (v := .ref g) hx hb hr (Or.inl ⟨_, rfl⟩) (Or.inr ⟨_, rfl⟩) (fun t ht hW => ⟨⟨some g, (), rfl, (by first | rfl | exact congrArg nI (by omega)), q_RW_mk hP hK hD [0, 1] [0] rfl rfl (by decide) rfl ht hW.alike⟩, hS.F ht⟩) hS.2.2 dX6_findGlass_40
theorem dX6_findGlass_28 : decode cX6_findGlass 28 = .ok (.new 365, 3) := by decide +kernel
theorem dX6_findGlass_31 : decode cX6_findGlass 31 = .ok (.dup, 1) := by decide +kernel
theorem dX6_findGlass_32 : decode cX6_findGlass 32 = .ok (.ldc_w 367, 3) := by decide +kernel
theorem dX6_findGlass_35 : decode cX6_findGlass 35 = .ok (.invokespecial 369, 3) := by decide +kernel
theorem dX6_findGlass_38 : decode cX6_findGlass 38 = .ok (.athrow, 1) := by decide +kernel
def wzEX6_findGlass_no : List Cond := [.code yX6_findGlass cX6_findGlass 3 (some (.object "Gatherhouse$Glass")), .fieldLink RX6 11 "Gatherhouse" "glasses" "[LGatherhouse$Glass;", .classLink RX6 365 "java/lang/IndexOutOfBoundsException", .initialized "java/lang/IndexOutOfBoundsException"]
def wzX6_findGlass_no : List Cond := wzEX6_findGlass_no ++ (u_ws RX6 TX6 16 ++ ((vx_atS RX6 369 "java/lang/IndexOutOfBoundsException" ["java/lang/RuntimeException", "java/lang/Exception"]).filter goodWord))
theorem zgEX6_findGlass_no : wzEX6_findGlass_no.all goodWord = true := by decide +kernel
theorem zuX6_findGlass_no_X6 : ∀ w ∈ u_ws RX6 TX6 16, w ∈ wzX6_findGlass_no := (fun _ h => (List.mem_append_right _ (List.mem_append_left _ h)))
theorem ztX6_findGlass_no_X6_369 : ∀ w ∈ (vx_atS RX6 369 "java/lang/IndexOutOfBoundsException" ["java/lang/RuntimeException", "java/lang/Exception"]).filter goodWord, w ∈ wzX6_findGlass_no := (fun _ h => (List.mem_append_right _ (List.mem_append_right _ h)))
set_option maxHeartbeats 4000000 in
set_option maxRecDepth 100000 in
theorem zc_X6_findGlass_no (l : Launch) (hnt : l.stackTraces = false) (D : va_G) (G : Nat × Nat × (Nat → Int32)) (xo : Nat) (k : Nat) (xg : Nat) (gc : Int32) (xp : Nat) (pc : Int32) (xq : Nat) (qc : Int32) (r1 : Nat) (r2 : Nat) (r3 : Nat) (r4 : Nat) (se : Nat) (ts : Int32) (hou : Int32) (dr : Int32) (su : Int32) (br : Int32) (cg : ClassId) (f : Nat → Option Nat) (sz : Nat) (h9f : f k = none) (hh_k : k ≤ 5) : vx_Met l yX6_findGlass wzX6_findGlass_no ({ frames := 6, cells := 1, slots := 6, locals := 82 }) (va_Pc [.ref xo, .int (nI k)] (p_RW D G [(cg, .object "Gatherhouse$Glass")] [(xo, .inr (6, [.ref xg, .int gc, .ref xp, .int pc, .ref xq, .int qc, .ref r1, .ref r2, .ref r3, .ref r4, .ref se, .int ts, .int hou, .int dr, .int su, .int br])), (xg, .inl (cg, 6, .inr (.inr (.inr (.inr f)))))] sz)) (va_Qq (fun (r : Option Nat) (u : Unit) => False) (fun (u : Unit) (t : State) => q_RW D [(cg, .object "Gatherhouse$Glass")] [(xo, .inr (6, [.ref xg, .int gc, .ref xp, .int pc, .ref xq, .int qc, .ref r1, .ref r2, .ref r3, .ref r4, .ref se, .int ts, .int hou, .int dr, .int su, .int br])), (xg, .inl (cg, 6, .inr (.inr (.inr (.inr f)))))] (va_A [(xo, .inr (6, [.ref xg, .int gc, .ref xp, .int pc, .ref xq, .int qc, .ref r1, .ref r2, .ref r3, .ref r4, .ref se, .int ts, .int hou, .int dr, .int su, .int br])), (xg, .inl (cg, 6, .inr (.inr (.inr (.inr f)))))] sz) t) (va_A [(xo, .inr (6, [.ref xg, .int gc, .ref xp, .int pc, .ref xq, .int qc, .ref r1, .ref r2, .ref r3, .ref r4, .ref se, .int ts, .int hou, .int dr, .int su, .int br])), (xg, .inl (cg, 6, .inr (.inr (.inr (.inr f)))))] sz)) (vx_X (fun (_ : Unit) => True) (fun E (_ : Unit) (t : State) => ((E = "java/lang/IndexOutOfBoundsException")) ∧ q_RW D [(cg, .object "Gatherhouse$Glass")] [(xo, .inr (6, [.ref xg, .int gc, .ref xp, .int pc, .ref xq, .int qc, .ref r1, .ref r2, .ref r3, .ref r4, .ref se, .int ts, .int hou, .int dr, .int su, .int br])), (xg, .inl (cg, 6, .inr (.inr (.inr (.inr f)))))] (va_A [(xo, .inr (6, [.ref xg, .int gc, .ref xp, .int pc, .ref xq, .int qc, .ref r1, .ref r2, .ref r3, .ref r4, .ref se, .int ts, .int hou, .int dr, .int su, .int br])), (xg, .inl (cg, 6, .inr (.inr (.inr (.inr f)))))] sz) t) (va_A [(xo, .inr (6, [.ref xg, .int gc, .ref xp, .int pc, .ref xq, .int qc, .ref r1, .ref r2, .ref r3, .ref r4, .ref se, .int ts, .int hou, .int dr, .int su, .int br])), (xg, .inl (cg, 6, .inr (.inr (.inr (.inr f)))))] sz)) 1 6 (va_A [(xo, .inr (6, [.ref xg, .int gc, .ref xp, .int pc, .ref xq, .int qc, .ref r1, .ref r2, .ref r3, .ref r4, .ref se, .int ts, .int hou, .int dr, .int su, .int br])), (xg, .inl (cg, 6, .inr (.inr (.inr (.inr f)))))] sz) := by
  refine vx_ofW (cc := cX6_findGlass) (maxL := 3) (ret := (some (.object "Gatherhouse$Glass"))) (by decide) rfl ?_
  intro p e s m args below meth c s₁ B hml hxt hv
  obtain ⟨rfl, hsz, hP, hK, hD0, hT, hZ⟩ := hv
  have hx := B.exec
  have hb := B.bytes
  have hr := B.returns
  have hts := atoms_spec (ws := wzX6_findGlass_no) B.pre
  have hown : s.vm.findClass RX6 = some m.cls := findClass_of_methodNamed B.named
  have hlocks := B.notSynchronized
  subst hsz
  have hD := hD0.self (sz := s.heap.size)
  generalize hAe : va_A [(xo, .inr (6, [.ref xg, .int gc, .ref xp, .int pc, .ref xq, .int qc, .ref r1, .ref r2, .ref r3, .ref r4, .ref se, .int ts, .int hou, .int dr, .int su, .int br])), (xg, .inl (cg, 6, .inr (.inr (.inr (.inr f)))))] s.heap.size = A at hD hZ ⊢
  have hA : ∀ q : Nat, s.heap.size ≤ q → A q := fun q h => by rw [← hAe]; exact Or.inr h
  have hS : va_S A s.heap s.heap [] := va_S.rf
  have hl := lv_entry ([.ref xo, .int (nI k)]) (n := 3) (Nat.le_of_ble_eq_true rfl)
  rw [lg_entry_eq]
  generalize (lg_sl ([.ref xo, .int (nI k)]) ++ List.replicate (3 - (lg_sl ([.ref xo, .int (nI k)])).length) Slot.unset).toArray = ls at hl ⊢
  have hl : lv_has ls 3 [(0, .ref xo), (1, .int (nI k))] := hl
  refine lv_iload_n hx hb dX6_findGlass_0 rfl (lv_at hl 1 rfl) ?_
  refine lv_if_lt (tgt := 13) hx hb dX6_findGlass_1 (by decide) (fun cc => absurd cc (fun z => absurd ((nI_ltI (a := k) (b := 0) (by omega) (by omega)).mp z) (by omega))) (fun _ => ?_)
  refine lv_iload_n hx hb dX6_findGlass_4 rfl (lv_at hl 1 rfl) ?_
  refine lv_aload_n hx hb dX6_findGlass_5 rfl (lv_at hl 0 rfl) ?_
  refine va_get (D := D) (cl := vwCl) (ci := 6) (v := .ref xg) (C := RX6) (T := TX6) (N := 16) hx hb hts zuX6_findGlass_no_X6 hown hK hP 0 rfl rfl 0 (by decide) (hts (.fieldLink RX6 11 "Gatherhouse" "glasses" "[LGatherhouse$Glass;") (by decide +kernel)) (fun _ h9 => h9) rfl dX6_findGlass_6 ?_
  refine va_alen (D := D) (cl := vwCl) (v := 6) hx hb hK hP 1 0 rfl rfl rfl dX6_findGlass_9 ?_
  refine lv_icmp_lt (tgt := 17) hx hb dX6_findGlass_10 (by decide) (fun _ => ?_) (fun cc => absurd ((nI_ltI (a := k) (b := 6) (by omega) (by omega)).mpr (by omega)) cc)
  refine lv_aload_n hx hb dX6_findGlass_17 rfl (lv_at hl 0 rfl) ?_
  refine va_get (D := D) (cl := vwCl) (ci := 6) (v := .ref xg) (C := RX6) (T := TX6) (N := 16) hx hb hts zuX6_findGlass_no_X6 hown hK hP 0 rfl rfl 0 (by decide) (hts (.fieldLink RX6 11 "Gatherhouse" "glasses" "[LGatherhouse$Glass;") (by decide +kernel)) (fun _ h9 => h9) rfl dX6_findGlass_18 ?_
  refine lv_iload_n hx hb dX6_findGlass_21 rfl (lv_at hl 1 rfl) ?_
  refine va_aldq (D := D) (cl := vwCl) hx hb hK hP 1 0 rfl rfl (vp_in_nI (n := k) (N := 6) (by omega) (by omega)) dX6_findGlass_22 ?_
  refine W.eq (g2 := F0 m 23 ls [.null]) (by rw [z_rfN (k := k) (by omega) h9f]) ?_
  refine lv_astore_nN (lv' := [(2, .null), (0, .ref xo), (1, .int (nI k))]) hx hb dX6_findGlass_23 rfl hl (by decide) rfl (fun ls hl => ?_)
  refine lv_aload_nN hx hb dX6_findGlass_24 rfl (lv_at hl 0 rfl) ?_
  refine lv_ifnonnullN hx hb dX6_findGlass_25 ?_
  obtain ⟨sa_10, hsa_10⟩ := hT.2.2.2.2.2.1 ("Gatherhouse", 367, "no such glass") (by decide +kernel)
  refine vx_throwSW (own := RX6) (cls := "java/lang/IndexOutOfBoundsException") (names := ["java/lang/RuntimeException", "java/lang/Exception"]) (A := A) hx hb hnt hown (by decide +kernel) (by decide +kernel) (hts (.classLink RX6 365 "java/lang/IndexOutOfBoundsException") (by decide +kernel)) (hts (.initialized "java/lang/IndexOutOfBoundsException") (by decide +kernel)) hsa_10 (z_throw (fun w h => hts w (ztX6_findGlass_no_X6_369 w h)) (hT.2.2.1 ("java/lang/IndexOutOfBoundsException", "java/lang/IndexOutOfBoundsException") (by decide +kernel)) hT.2.2.2.2.2.2.2.1 (by decide +kernel)) (by decide +kernel) hZ.1 hZ.2.1 hS (hl.1.trans hml.symm) dX6_findGlass_28 dX6_findGlass_31 dX6_findGlass_32 dX6_findGlass_35 dX6_findGlass_38 (fun x h => (hxt x h).elim) (Nat.le_of_ble_eq_true rfl) (Nat.le_of_ble_eq_true rfl) (Nat.le_of_ble_eq_true rfl) (Nat.le_of_ble_eq_true rfl) hlocks (fun t hvm hz1 hk1 => ⟨(), trivial, ⟨rfl, q_RW_th hP hK hD [0, 1] [0] rfl rfl (by decide) rfl hk1 hvm⟩, ⟨Nat.le_trans hS.1 hz1, fun q h1 h2 => (hk1 q (Nat.lt_of_lt_of_le h1 hS.1)).trans (hS.2.1 q h1 h2)⟩⟩) hS.2.2 (Nat.le_of_ble_eq_true rfl) (Nat.le_of_ble_eq_true rfl)
theorem dX6_findPot_0 : decode cX6_findPot 0 = .ok (.iload_n 1, 1) := by decide +kernel
theorem dX6_findPot_1 : decode cX6_findPot 1 = .ok (.ifCond .lt 12, 3) := by decide +kernel
theorem dX6_findPot_4 : decode cX6_findPot 4 = .ok (.iload_n 1, 1) := by decide +kernel
theorem dX6_findPot_5 : decode cX6_findPot 5 = .ok (.aload_n 0, 1) := by decide +kernel
theorem dX6_findPot_6 : decode cX6_findPot 6 = .ok (.getfield 21, 3) := by decide +kernel
theorem dX6_findPot_9 : decode cX6_findPot 9 = .ok (.arraylength, 1) := by decide +kernel
theorem dX6_findPot_10 : decode cX6_findPot 10 = .ok (.if_icmp .lt 7, 3) := by decide +kernel
theorem dX6_findPot_17 : decode cX6_findPot 17 = .ok (.aload_n 0, 1) := by decide +kernel
theorem dX6_findPot_18 : decode cX6_findPot 18 = .ok (.getfield 21, 3) := by decide +kernel
theorem dX6_findPot_21 : decode cX6_findPot 21 = .ok (.iload_n 1, 1) := by decide +kernel
theorem dX6_findPot_22 : decode cX6_findPot 22 = .ok (.aaload, 1) := by decide +kernel
theorem dX6_findPot_23 : decode cX6_findPot 23 = .ok (.astore_n 2, 1) := by decide +kernel
theorem dX6_findPot_24 : decode cX6_findPot 24 = .ok (.aload_n 2, 1) := by decide +kernel
theorem dX6_findPot_25 : decode cX6_findPot 25 = .ok (.ifnonnull 14, 3) := by decide +kernel
theorem dX6_findPot_39 : decode cX6_findPot 39 = .ok (.aload_n 2, 1) := by decide +kernel
theorem dX6_findPot_40 : decode cX6_findPot 40 = .ok (.areturn, 1) := by decide +kernel
def wzEX6_findPot_ok : List Cond := [.code yX6_findPot cX6_findPot 3 (some (.object "Gatherhouse$Pot")), .fieldLink RX6 21 "Gatherhouse" "pots" "[LGatherhouse$Pot;"]
def wzX6_findPot_ok : List Cond := wzEX6_findPot_ok ++ (u_ws RX6 TX6 16)
theorem zgEX6_findPot_ok : wzEX6_findPot_ok.all goodWord = true := by decide +kernel
theorem zuX6_findPot_ok_X6 : ∀ w ∈ u_ws RX6 TX6 16, w ∈ wzX6_findPot_ok := (fun _ h => (List.mem_append_right _ h))
set_option maxHeartbeats 4000000 in
set_option maxRecDepth 100000 in
theorem zc_X6_findPot_ok (l : Launch) (hnt : l.stackTraces = false) (D : va_G) (G : Nat × Nat × (Nat → Int32)) (xo : Nat) (k : Nat) (xg : Nat) (gc : Int32) (xp : Nat) (pc : Int32) (xq : Nat) (qc : Int32) (r1 : Nat) (r2 : Nat) (r3 : Nat) (r4 : Nat) (se : Nat) (ts : Int32) (hou : Int32) (dr : Int32) (su : Int32) (br : Int32) (cp : ClassId) (f : Nat → Option Nat) (g : Nat) (sz : Nat) (h9f : f k = some g) (hh_k : k ≤ 3) : vx_Met l yX6_findPot wzX6_findPot_ok ({ frames := 0, cells := 0, slots := 0, locals := 0 }) (va_Pc [.ref xo, .int (nI k)] (p_RW D G [(cp, .object "Gatherhouse$Pot")] [(xo, .inr (6, [.ref xg, .int gc, .ref xp, .int pc, .ref xq, .int qc, .ref r1, .ref r2, .ref r3, .ref r4, .ref se, .int ts, .int hou, .int dr, .int su, .int br])), (xp, .inl (cp, 4, .inr (.inr (.inr (.inr f)))))] sz)) (va_Qq (fun (r : Option Nat) (u : Unit) => r = (some g)) (fun (u : Unit) (t : State) => q_RW D [(cp, .object "Gatherhouse$Pot")] [(xo, .inr (6, [.ref xg, .int gc, .ref xp, .int pc, .ref xq, .int qc, .ref r1, .ref r2, .ref r3, .ref r4, .ref se, .int ts, .int hou, .int dr, .int su, .int br])), (xp, .inl (cp, 4, .inr (.inr (.inr (.inr f)))))] (va_A [(xo, .inr (6, [.ref xg, .int gc, .ref xp, .int pc, .ref xq, .int qc, .ref r1, .ref r2, .ref r3, .ref r4, .ref se, .int ts, .int hou, .int dr, .int su, .int br])), (xp, .inl (cp, 4, .inr (.inr (.inr (.inr f)))))] sz) t) (va_A [(xo, .inr (6, [.ref xg, .int gc, .ref xp, .int pc, .ref xq, .int qc, .ref r1, .ref r2, .ref r3, .ref r4, .ref se, .int ts, .int hou, .int dr, .int su, .int br])), (xp, .inl (cp, 4, .inr (.inr (.inr (.inr f)))))] sz)) (vx_X (fun (_ : Unit) => True) (fun E (_ : Unit) (_ : State) => False) (va_A [(xo, .inr (6, [.ref xg, .int gc, .ref xp, .int pc, .ref xq, .int qc, .ref r1, .ref r2, .ref r3, .ref r4, .ref se, .int ts, .int hou, .int dr, .int su, .int br])), (xp, .inl (cp, 4, .inr (.inr (.inr (.inr f)))))] sz)) 0 0 (va_A [(xo, .inr (6, [.ref xg, .int gc, .ref xp, .int pc, .ref xq, .int qc, .ref r1, .ref r2, .ref r3, .ref r4, .ref se, .int ts, .int hou, .int dr, .int su, .int br])), (xp, .inl (cp, 4, .inr (.inr (.inr (.inr f)))))] sz) := by
  refine vx_ofW (cc := cX6_findPot) (maxL := 3) (ret := (some (.object "Gatherhouse$Pot"))) (by decide) rfl ?_
  intro p e s m args below meth c s₁ B hml hxt hv
  obtain ⟨rfl, hsz, hP, hK, hD0, hT, hZ⟩ := hv
  have hx := B.exec
  have hb := B.bytes
  have hr := B.returns
  have hts := atoms_spec (ws := wzX6_findPot_ok) B.pre
  have hown : s.vm.findClass RX6 = some m.cls := findClass_of_methodNamed B.named
  have hlocks := B.notSynchronized
  subst hsz
  have hD := hD0.self (sz := s.heap.size)
  generalize hAe : va_A [(xo, .inr (6, [.ref xg, .int gc, .ref xp, .int pc, .ref xq, .int qc, .ref r1, .ref r2, .ref r3, .ref r4, .ref se, .int ts, .int hou, .int dr, .int su, .int br])), (xp, .inl (cp, 4, .inr (.inr (.inr (.inr f)))))] s.heap.size = A at hD hZ ⊢
  have hA : ∀ q : Nat, s.heap.size ≤ q → A q := fun q h => by rw [← hAe]; exact Or.inr h
  have hS : va_S A s.heap s.heap [] := va_S.rf
  have hl := lv_entry ([.ref xo, .int (nI k)]) (n := 3) (Nat.le_of_ble_eq_true rfl)
  rw [lg_entry_eq]
  generalize (lg_sl ([.ref xo, .int (nI k)]) ++ List.replicate (3 - (lg_sl ([.ref xo, .int (nI k)])).length) Slot.unset).toArray = ls at hl ⊢
  have hl : lv_has ls 3 [(0, .ref xo), (1, .int (nI k))] := hl
  refine lv_iload_n hx hb dX6_findPot_0 rfl (lv_at hl 1 rfl) ?_
  refine lv_if_lt (tgt := 13) hx hb dX6_findPot_1 (by decide) (fun cc => absurd cc (fun z => absurd ((nI_ltI (a := k) (b := 0) (by omega) (by omega)).mp z) (by omega))) (fun _ => ?_)
  refine lv_iload_n hx hb dX6_findPot_4 rfl (lv_at hl 1 rfl) ?_
  refine lv_aload_n hx hb dX6_findPot_5 rfl (lv_at hl 0 rfl) ?_
  refine va_get (D := D) (cl := vwCl) (ci := 6) (v := .ref xp) (C := RX6) (T := TX6) (N := 16) hx hb hts zuX6_findPot_ok_X6 hown hK hP 0 rfl rfl 2 (by decide) (hts (.fieldLink RX6 21 "Gatherhouse" "pots" "[LGatherhouse$Pot;") (by decide +kernel)) (fun _ h9 => h9) rfl dX6_findPot_6 ?_
  refine va_alen (D := D) (cl := vwCl) (v := 4) hx hb hK hP 1 0 rfl rfl rfl dX6_findPot_9 ?_
  refine lv_icmp_lt (tgt := 17) hx hb dX6_findPot_10 (by decide) (fun _ => ?_) (fun cc => absurd ((nI_ltI (a := k) (b := 4) (by omega) (by omega)).mpr (by omega)) cc)
  refine lv_aload_n hx hb dX6_findPot_17 rfl (lv_at hl 0 rfl) ?_
  refine va_get (D := D) (cl := vwCl) (ci := 6) (v := .ref xp) (C := RX6) (T := TX6) (N := 16) hx hb hts zuX6_findPot_ok_X6 hown hK hP 0 rfl rfl 2 (by decide) (hts (.fieldLink RX6 21 "Gatherhouse" "pots" "[LGatherhouse$Pot;") (by decide +kernel)) (fun _ h9 => h9) rfl dX6_findPot_18 ?_
  refine lv_iload_n hx hb dX6_findPot_21 rfl (lv_at hl 1 rfl) ?_
  refine va_aldq (D := D) (cl := vwCl) hx hb hK hP 1 0 rfl rfl (vp_in_nI (n := k) (N := 4) (by omega) (by omega)) dX6_findPot_22 ?_
  refine W.eq (g2 := F0 m 23 ls [.ref g]) (by rw [z_rf (k := k) (by omega) h9f]) ?_
  refine lv_astore_n (lv' := [(2, .ref g), (0, .ref xo), (1, .int (nI k))]) hx hb dX6_findPot_23 rfl hl (by decide) rfl (fun ls hl => ?_)
  refine lv_aload_n hx hb dX6_findPot_24 rfl (lv_at hl 0 rfl) ?_
  refine lv_ifnonnull (tgt := 39) hx hb dX6_findPot_25 (by decide) ?_
  refine lv_aload_n hx hb dX6_findPot_39 rfl (lv_at hl 0 rfl) ?_
  refine vx_ret ?_
  exact W.aret (v := .ref g) hx hb hr (Or.inl ⟨_, rfl⟩) (Or.inr ⟨_, rfl⟩) (fun t ht hW => ⟨⟨some g, (), rfl, (by first | rfl | exact congrArg nI (by omega)), q_RW_mk hP hK hD [0, 1] [0] rfl rfl (by decide) rfl ht hW.alike⟩, hS.F ht⟩) hS.2.2 dX6_findPot_40
theorem dX6_findPot_28 : decode cX6_findPot 28 = .ok (.new 365, 3) := by decide +kernel
theorem dX6_findPot_31 : decode cX6_findPot 31 = .ok (.dup, 1) := by decide +kernel
theorem dX6_findPot_32 : decode cX6_findPot 32 = .ok (.ldc_w 370, 3) := by decide +kernel
theorem dX6_findPot_35 : decode cX6_findPot 35 = .ok (.invokespecial 369, 3) := by decide +kernel
theorem dX6_findPot_38 : decode cX6_findPot 38 = .ok (.athrow, 1) := by decide +kernel
def wzEX6_findPot_no : List Cond := [.code yX6_findPot cX6_findPot 3 (some (.object "Gatherhouse$Pot")), .fieldLink RX6 21 "Gatherhouse" "pots" "[LGatherhouse$Pot;", .classLink RX6 365 "java/lang/IndexOutOfBoundsException", .initialized "java/lang/IndexOutOfBoundsException"]
def wzX6_findPot_no : List Cond := wzEX6_findPot_no ++ (u_ws RX6 TX6 16 ++ ((vx_atS RX6 369 "java/lang/IndexOutOfBoundsException" ["java/lang/RuntimeException", "java/lang/Exception"]).filter goodWord))
theorem zgEX6_findPot_no : wzEX6_findPot_no.all goodWord = true := by decide +kernel
theorem zuX6_findPot_no_X6 : ∀ w ∈ u_ws RX6 TX6 16, w ∈ wzX6_findPot_no := (fun _ h => (List.mem_append_right _ (List.mem_append_left _ h)))
theorem ztX6_findPot_no_X6_369 : ∀ w ∈ (vx_atS RX6 369 "java/lang/IndexOutOfBoundsException" ["java/lang/RuntimeException", "java/lang/Exception"]).filter goodWord, w ∈ wzX6_findPot_no := (fun _ h => (List.mem_append_right _ (List.mem_append_right _ h)))
set_option maxHeartbeats 4000000 in
set_option maxRecDepth 100000 in
theorem zc_X6_findPot_no (l : Launch) (hnt : l.stackTraces = false) (D : va_G) (G : Nat × Nat × (Nat → Int32)) (xo : Nat) (k : Nat) (xg : Nat) (gc : Int32) (xp : Nat) (pc : Int32) (xq : Nat) (qc : Int32) (r1 : Nat) (r2 : Nat) (r3 : Nat) (r4 : Nat) (se : Nat) (ts : Int32) (hou : Int32) (dr : Int32) (su : Int32) (br : Int32) (cp : ClassId) (f : Nat → Option Nat) (sz : Nat) (h9f : f k = none) (hh_k : k ≤ 3) : vx_Met l yX6_findPot wzX6_findPot_no ({ frames := 6, cells := 1, slots := 6, locals := 82 }) (va_Pc [.ref xo, .int (nI k)] (p_RW D G [(cp, .object "Gatherhouse$Pot")] [(xo, .inr (6, [.ref xg, .int gc, .ref xp, .int pc, .ref xq, .int qc, .ref r1, .ref r2, .ref r3, .ref r4, .ref se, .int ts, .int hou, .int dr, .int su, .int br])), (xp, .inl (cp, 4, .inr (.inr (.inr (.inr f)))))] sz)) (va_Qq (fun (r : Option Nat) (u : Unit) => False) (fun (u : Unit) (t : State) => q_RW D [(cp, .object "Gatherhouse$Pot")] [(xo, .inr (6, [.ref xg, .int gc, .ref xp, .int pc, .ref xq, .int qc, .ref r1, .ref r2, .ref r3, .ref r4, .ref se, .int ts, .int hou, .int dr, .int su, .int br])), (xp, .inl (cp, 4, .inr (.inr (.inr (.inr f)))))] (va_A [(xo, .inr (6, [.ref xg, .int gc, .ref xp, .int pc, .ref xq, .int qc, .ref r1, .ref r2, .ref r3, .ref r4, .ref se, .int ts, .int hou, .int dr, .int su, .int br])), (xp, .inl (cp, 4, .inr (.inr (.inr (.inr f)))))] sz) t) (va_A [(xo, .inr (6, [.ref xg, .int gc, .ref xp, .int pc, .ref xq, .int qc, .ref r1, .ref r2, .ref r3, .ref r4, .ref se, .int ts, .int hou, .int dr, .int su, .int br])), (xp, .inl (cp, 4, .inr (.inr (.inr (.inr f)))))] sz)) (vx_X (fun (_ : Unit) => True) (fun E (_ : Unit) (t : State) => ((E = "java/lang/IndexOutOfBoundsException")) ∧ q_RW D [(cp, .object "Gatherhouse$Pot")] [(xo, .inr (6, [.ref xg, .int gc, .ref xp, .int pc, .ref xq, .int qc, .ref r1, .ref r2, .ref r3, .ref r4, .ref se, .int ts, .int hou, .int dr, .int su, .int br])), (xp, .inl (cp, 4, .inr (.inr (.inr (.inr f)))))] (va_A [(xo, .inr (6, [.ref xg, .int gc, .ref xp, .int pc, .ref xq, .int qc, .ref r1, .ref r2, .ref r3, .ref r4, .ref se, .int ts, .int hou, .int dr, .int su, .int br])), (xp, .inl (cp, 4, .inr (.inr (.inr (.inr f)))))] sz) t) (va_A [(xo, .inr (6, [.ref xg, .int gc, .ref xp, .int pc, .ref xq, .int qc, .ref r1, .ref r2, .ref r3, .ref r4, .ref se, .int ts, .int hou, .int dr, .int su, .int br])), (xp, .inl (cp, 4, .inr (.inr (.inr (.inr f)))))] sz)) 1 6 (va_A [(xo, .inr (6, [.ref xg, .int gc, .ref xp, .int pc, .ref xq, .int qc, .ref r1, .ref r2, .ref r3, .ref r4, .ref se, .int ts, .int hou, .int dr, .int su, .int br])), (xp, .inl (cp, 4, .inr (.inr (.inr (.inr f)))))] sz) := by
  refine vx_ofW (cc := cX6_findPot) (maxL := 3) (ret := (some (.object "Gatherhouse$Pot"))) (by decide) rfl ?_
  intro p e s m args below meth c s₁ B hml hxt hv
  obtain ⟨rfl, hsz, hP, hK, hD0, hT, hZ⟩ := hv
  have hx := B.exec
  have hb := B.bytes
  have hr := B.returns
  have hts := atoms_spec (ws := wzX6_findPot_no) B.pre
  have hown : s.vm.findClass RX6 = some m.cls := findClass_of_methodNamed B.named
  have hlocks := B.notSynchronized
  subst hsz
  have hD := hD0.self (sz := s.heap.size)
  generalize hAe : va_A [(xo, .inr (6, [.ref xg, .int gc, .ref xp, .int pc, .ref xq, .int qc, .ref r1, .ref r2, .ref r3, .ref r4, .ref se, .int ts, .int hou, .int dr, .int su, .int br])), (xp, .inl (cp, 4, .inr (.inr (.inr (.inr f)))))] s.heap.size = A at hD hZ ⊢
  have hA : ∀ q : Nat, s.heap.size ≤ q → A q := fun q h => by rw [← hAe]; exact Or.inr h
  have hS : va_S A s.heap s.heap [] := va_S.rf
  have hl := lv_entry ([.ref xo, .int (nI k)]) (n := 3) (Nat.le_of_ble_eq_true rfl)
  rw [lg_entry_eq]
  generalize (lg_sl ([.ref xo, .int (nI k)]) ++ List.replicate (3 - (lg_sl ([.ref xo, .int (nI k)])).length) Slot.unset).toArray = ls at hl ⊢
  have hl : lv_has ls 3 [(0, .ref xo), (1, .int (nI k))] := hl
  refine lv_iload_n hx hb dX6_findPot_0 rfl (lv_at hl 1 rfl) ?_
  refine lv_if_lt (tgt := 13) hx hb dX6_findPot_1 (by decide) (fun cc => absurd cc (fun z => absurd ((nI_ltI (a := k) (b := 0) (by omega) (by omega)).mp z) (by omega))) (fun _ => ?_)
  refine lv_iload_n hx hb dX6_findPot_4 rfl (lv_at hl 1 rfl) ?_
  refine lv_aload_n hx hb dX6_findPot_5 rfl (lv_at hl 0 rfl) ?_
  refine va_get (D := D) (cl := vwCl) (ci := 6) (v := .ref xp) (C := RX6) (T := TX6) (N := 16) hx hb hts zuX6_findPot_no_X6 hown hK hP 0 rfl rfl 2 (by decide) (hts (.fieldLink RX6 21 "Gatherhouse" "pots" "[LGatherhouse$Pot;") (by decide +kernel)) (fun _ h9 => h9) rfl dX6_findPot_6 ?_
  refine va_alen (D := D) (cl := vwCl) (v := 4) hx hb hK hP 1 0 rfl rfl rfl dX6_findPot_9 ?_
  refine lv_icmp_lt (tgt := 17) hx hb dX6_findPot_10 (by decide) (fun _ => ?_) (fun cc => absurd ((nI_ltI (a := k) (b := 4) (by omega) (by omega)).mpr (by omega)) cc)
  refine lv_aload_n hx hb dX6_findPot_17 rfl (lv_at hl 0 rfl) ?_
  refine va_get (D := D) (cl := vwCl) (ci := 6) (v := .ref xp) (C := RX6) (T := TX6) (N := 16) hx hb hts zuX6_findPot_no_X6 hown hK hP 0 rfl rfl 2 (by decide) (hts (.fieldLink RX6 21 "Gatherhouse" "pots" "[LGatherhouse$Pot;") (by decide +kernel)) (fun _ h9 => h9) rfl dX6_findPot_18 ?_
  refine lv_iload_n hx hb dX6_findPot_21 rfl (lv_at hl 1 rfl) ?_
  refine va_aldq (D := D) (cl := vwCl) hx hb hK hP 1 0 rfl rfl (vp_in_nI (n := k) (N := 4) (by omega) (by omega)) dX6_findPot_22 ?_
  refine W.eq (g2 := F0 m 23 ls [.null]) (by rw [z_rfN (k := k) (by omega) h9f]) ?_
  refine lv_astore_nN (lv' := [(2, .null), (0, .ref xo), (1, .int (nI k))]) hx hb dX6_findPot_23 rfl hl (by decide) rfl (fun ls hl => ?_)
  refine lv_aload_nN hx hb dX6_findPot_24 rfl (lv_at hl 0 rfl) ?_
  refine lv_ifnonnullN hx hb dX6_findPot_25 ?_
  obtain ⟨sa_11, hsa_11⟩ := hT.2.2.2.2.2.1 ("Gatherhouse", 370, "no such pot") (by decide +kernel)
  refine vx_throwSW (own := RX6) (cls := "java/lang/IndexOutOfBoundsException") (names := ["java/lang/RuntimeException", "java/lang/Exception"]) (A := A) hx hb hnt hown (by decide +kernel) (by decide +kernel) (hts (.classLink RX6 365 "java/lang/IndexOutOfBoundsException") (by decide +kernel)) (hts (.initialized "java/lang/IndexOutOfBoundsException") (by decide +kernel)) hsa_11 (z_throw (fun w h => hts w (ztX6_findPot_no_X6_369 w h)) (hT.2.2.1 ("java/lang/IndexOutOfBoundsException", "java/lang/IndexOutOfBoundsException") (by decide +kernel)) hT.2.2.2.2.2.2.2.1 (by decide +kernel)) (by decide +kernel) hZ.1 hZ.2.1 hS (hl.1.trans hml.symm) dX6_findPot_28 dX6_findPot_31 dX6_findPot_32 dX6_findPot_35 dX6_findPot_38 (fun x h => (hxt x h).elim) (Nat.le_of_ble_eq_true rfl) (Nat.le_of_ble_eq_true rfl) (Nat.le_of_ble_eq_true rfl) (Nat.le_of_ble_eq_true rfl) hlocks (fun t hvm hz1 hk1 => ⟨(), trivial, ⟨rfl, q_RW_th hP hK hD [0, 1] [0] rfl rfl (by decide) rfl hk1 hvm⟩, ⟨Nat.le_trans hS.1 hz1, fun q h1 h2 => (hk1 q (Nat.lt_of_lt_of_le h1 hS.1)).trans (hS.2.1 q h1 h2)⟩⟩) hS.2.2 (Nat.le_of_ble_eq_true rfl) (Nat.le_of_ble_eq_true rfl)
theorem dX6_findPiece_0 : decode cX6_findPiece 0 = .ok (.iload_n 1, 1) := by decide +kernel
theorem dX6_findPiece_1 : decode cX6_findPiece 1 = .ok (.ifCond .lt 12, 3) := by decide +kernel
theorem dX6_findPiece_4 : decode cX6_findPiece 4 = .ok (.iload_n 1, 1) := by decide +kernel
theorem dX6_findPiece_5 : decode cX6_findPiece 5 = .ok (.aload_n 0, 1) := by decide +kernel
theorem dX6_findPiece_6 : decode cX6_findPiece 6 = .ok (.getfield 30, 3) := by decide +kernel
theorem dX6_findPiece_9 : decode cX6_findPiece 9 = .ok (.arraylength, 1) := by decide +kernel
theorem dX6_findPiece_10 : decode cX6_findPiece 10 = .ok (.if_icmp .lt 7, 3) := by decide +kernel
theorem dX6_findPiece_17 : decode cX6_findPiece 17 = .ok (.aload_n 0, 1) := by decide +kernel
theorem dX6_findPiece_18 : decode cX6_findPiece 18 = .ok (.getfield 30, 3) := by decide +kernel
theorem dX6_findPiece_21 : decode cX6_findPiece 21 = .ok (.iload_n 1, 1) := by decide +kernel
theorem dX6_findPiece_22 : decode cX6_findPiece 22 = .ok (.aaload, 1) := by decide +kernel
theorem dX6_findPiece_23 : decode cX6_findPiece 23 = .ok (.astore_n 2, 1) := by decide +kernel
theorem dX6_findPiece_24 : decode cX6_findPiece 24 = .ok (.aload_n 2, 1) := by decide +kernel
theorem dX6_findPiece_25 : decode cX6_findPiece 25 = .ok (.ifnonnull 14, 3) := by decide +kernel
theorem dX6_findPiece_39 : decode cX6_findPiece 39 = .ok (.aload_n 2, 1) := by decide +kernel
theorem dX6_findPiece_40 : decode cX6_findPiece 40 = .ok (.areturn, 1) := by decide +kernel
def wzEX6_findPiece_ok : List Cond := [.code yX6_findPiece cX6_findPiece 3 (some (.object "Gatherhouse$Piece")), .fieldLink RX6 30 "Gatherhouse" "pieces" "[LGatherhouse$Piece;"]
def wzX6_findPiece_ok : List Cond := wzEX6_findPiece_ok ++ (u_ws RX6 TX6 16)
theorem zgEX6_findPiece_ok : wzEX6_findPiece_ok.all goodWord = true := by decide +kernel
theorem zuX6_findPiece_ok_X6 : ∀ w ∈ u_ws RX6 TX6 16, w ∈ wzX6_findPiece_ok := (fun _ h => (List.mem_append_right _ h))
set_option maxHeartbeats 4000000 in
set_option maxRecDepth 100000 in
theorem zc_X6_findPiece_ok (l : Launch) (hnt : l.stackTraces = false) (D : va_G) (G : Nat × Nat × (Nat → Int32)) (xo : Nat) (k : Nat) (xg : Nat) (gc : Int32) (xp : Nat) (pc : Int32) (xq : Nat) (qc : Int32) (r1 : Nat) (r2 : Nat) (r3 : Nat) (r4 : Nat) (se : Nat) (ts : Int32) (hou : Int32) (dr : Int32) (su : Int32) (br : Int32) (cq : ClassId) (f : Nat → Option Nat) (g : Nat) (sz : Nat) (h9f : f k = some g) (hh_k : k ≤ 15) : vx_Met l yX6_findPiece wzX6_findPiece_ok ({ frames := 0, cells := 0, slots := 0, locals := 0 }) (va_Pc [.ref xo, .int (nI k)] (p_RW D G [(cq, .object "Gatherhouse$Piece")] [(xo, .inr (6, [.ref xg, .int gc, .ref xp, .int pc, .ref xq, .int qc, .ref r1, .ref r2, .ref r3, .ref r4, .ref se, .int ts, .int hou, .int dr, .int su, .int br])), (xq, .inl (cq, 16, .inr (.inr (.inr (.inr f)))))] sz)) (va_Qq (fun (r : Option Nat) (u : Unit) => r = (some g)) (fun (u : Unit) (t : State) => q_RW D [(cq, .object "Gatherhouse$Piece")] [(xo, .inr (6, [.ref xg, .int gc, .ref xp, .int pc, .ref xq, .int qc, .ref r1, .ref r2, .ref r3, .ref r4, .ref se, .int ts, .int hou, .int dr, .int su, .int br])), (xq, .inl (cq, 16, .inr (.inr (.inr (.inr f)))))] (va_A [(xo, .inr (6, [.ref xg, .int gc, .ref xp, .int pc, .ref xq, .int qc, .ref r1, .ref r2, .ref r3, .ref r4, .ref se, .int ts, .int hou, .int dr, .int su, .int br])), (xq, .inl (cq, 16, .inr (.inr (.inr (.inr f)))))] sz) t) (va_A [(xo, .inr (6, [.ref xg, .int gc, .ref xp, .int pc, .ref xq, .int qc, .ref r1, .ref r2, .ref r3, .ref r4, .ref se, .int ts, .int hou, .int dr, .int su, .int br])), (xq, .inl (cq, 16, .inr (.inr (.inr (.inr f)))))] sz)) (vx_X (fun (_ : Unit) => True) (fun E (_ : Unit) (_ : State) => False) (va_A [(xo, .inr (6, [.ref xg, .int gc, .ref xp, .int pc, .ref xq, .int qc, .ref r1, .ref r2, .ref r3, .ref r4, .ref se, .int ts, .int hou, .int dr, .int su, .int br])), (xq, .inl (cq, 16, .inr (.inr (.inr (.inr f)))))] sz)) 0 0 (va_A [(xo, .inr (6, [.ref xg, .int gc, .ref xp, .int pc, .ref xq, .int qc, .ref r1, .ref r2, .ref r3, .ref r4, .ref se, .int ts, .int hou, .int dr, .int su, .int br])), (xq, .inl (cq, 16, .inr (.inr (.inr (.inr f)))))] sz) := by
  refine vx_ofW (cc := cX6_findPiece) (maxL := 3) (ret := (some (.object "Gatherhouse$Piece"))) (by decide) rfl ?_
  intro p e s m args below meth c s₁ B hml hxt hv
  obtain ⟨rfl, hsz, hP, hK, hD0, hT, hZ⟩ := hv
  have hx := B.exec
  have hb := B.bytes
  have hr := B.returns
  have hts := atoms_spec (ws := wzX6_findPiece_ok) B.pre
  have hown : s.vm.findClass RX6 = some m.cls := findClass_of_methodNamed B.named
  have hlocks := B.notSynchronized
  subst hsz
  have hD := hD0.self (sz := s.heap.size)
  generalize hAe : va_A [(xo, .inr (6, [.ref xg, .int gc, .ref xp, .int pc, .ref xq, .int qc, .ref r1, .ref r2, .ref r3, .ref r4, .ref se, .int ts, .int hou, .int dr, .int su, .int br])), (xq, .inl (cq, 16, .inr (.inr (.inr (.inr f)))))] s.heap.size = A at hD hZ ⊢
  have hA : ∀ q : Nat, s.heap.size ≤ q → A q := fun q h => by rw [← hAe]; exact Or.inr h
  have hS : va_S A s.heap s.heap [] := va_S.rf
  have hl := lv_entry ([.ref xo, .int (nI k)]) (n := 3) (Nat.le_of_ble_eq_true rfl)
  rw [lg_entry_eq]
  generalize (lg_sl ([.ref xo, .int (nI k)]) ++ List.replicate (3 - (lg_sl ([.ref xo, .int (nI k)])).length) Slot.unset).toArray = ls at hl ⊢
  have hl : lv_has ls 3 [(0, .ref xo), (1, .int (nI k))] := hl
  refine lv_iload_n hx hb dX6_findPiece_0 rfl (lv_at hl 1 rfl) ?_
  refine lv_if_lt (tgt := 13) hx hb dX6_findPiece_1 (by decide) (fun cc => absurd cc (fun z => absurd ((nI_ltI (a := k) (b := 0) (by omega) (by omega)).mp z) (by omega))) (fun _ => ?_)
  refine lv_iload_n hx hb dX6_findPiece_4 rfl (lv_at hl 1 rfl) ?_
  refine lv_aload_n hx hb dX6_findPiece_5 rfl (lv_at hl 0 rfl) ?_
  refine va_get (D := D) (cl := vwCl) (ci := 6) (v := .ref xq) (C := RX6) (T := TX6) (N := 16) hx hb hts zuX6_findPiece_ok_X6 hown hK hP 0 rfl rfl 4 (by decide) (hts (.fieldLink RX6 30 "Gatherhouse" "pieces" "[LGatherhouse$Piece;") (by decide +kernel)) (fun _ h9 => h9) rfl dX6_findPiece_6 ?_
  refine va_alen (D := D) (cl := vwCl) (v := 16) hx hb hK hP 1 0 rfl rfl rfl dX6_findPiece_9 ?_
  refine lv_icmp_lt (tgt := 17) hx hb dX6_findPiece_10 (by decide) (fun _ => ?_) (fun cc => absurd ((nI_ltI (a := k) (b := 16) (by omega) (by omega)).mpr (by omega)) cc)
  refine lv_aload_n hx hb dX6_findPiece_17 rfl (lv_at hl 0 rfl) ?_
  refine va_get (D := D) (cl := vwCl) (ci := 6) (v := .ref xq) (C := RX6) (T := TX6) (N := 16) hx hb hts zuX6_findPiece_ok_X6 hown hK hP 0 rfl rfl 4 (by decide) (hts (.fieldLink RX6 30 "Gatherhouse" "pieces" "[LGatherhouse$Piece;") (by decide +kernel)) (fun _ h9 => h9) rfl dX6_findPiece_18 ?_
  refine lv_iload_n hx hb dX6_findPiece_21 rfl (lv_at hl 1 rfl) ?_
  refine va_aldq (D := D) (cl := vwCl) hx hb hK hP 1 0 rfl rfl (vp_in_nI (n := k) (N := 16) (by omega) (by omega)) dX6_findPiece_22 ?_
  refine W.eq (g2 := F0 m 23 ls [.ref g]) (by rw [z_rf (k := k) (by omega) h9f]) ?_
  refine lv_astore_n (lv' := [(2, .ref g), (0, .ref xo), (1, .int (nI k))]) hx hb dX6_findPiece_23 rfl hl (by decide) rfl (fun ls hl => ?_)
  refine lv_aload_n hx hb dX6_findPiece_24 rfl (lv_at hl 0 rfl) ?_
  refine lv_ifnonnull (tgt := 39) hx hb dX6_findPiece_25 (by decide) ?_
  refine lv_aload_n hx hb dX6_findPiece_39 rfl (lv_at hl 0 rfl) ?_
  refine vx_ret ?_
  exact W.aret (v := .ref g) hx hb hr (Or.inl ⟨_, rfl⟩) (Or.inr ⟨_, rfl⟩) (fun t ht hW => ⟨⟨some g, (), rfl, (by first | rfl | exact congrArg nI (by omega)), q_RW_mk hP hK hD [0, 1] [0] rfl rfl (by decide) rfl ht hW.alike⟩, hS.F ht⟩) hS.2.2 dX6_findPiece_40
theorem dX6_findPiece_28 : decode cX6_findPiece 28 = .ok (.new 365, 3) := by decide +kernel
theorem dX6_findPiece_31 : decode cX6_findPiece 31 = .ok (.dup, 1) := by decide +kernel
theorem dX6_findPiece_32 : decode cX6_findPiece 32 = .ok (.ldc_w 372, 3) := by decide +kernel
theorem dX6_findPiece_35 : decode cX6_findPiece 35 = .ok (.invokespecial 369, 3) := by decide +kernel
theorem dX6_findPiece_38 : decode cX6_findPiece 38 = .ok (.athrow, 1) := by decide +kernel
def wzEX6_findPiece_no : List Cond := [.code yX6_findPiece cX6_findPiece 3 (some (.object "Gatherhouse$Piece")), .fieldLink RX6 30 "Gatherhouse" "pieces" "[LGatherhouse$Piece;", .classLink RX6 365 "java/lang/IndexOutOfBoundsException", .initialized "java/lang/IndexOutOfBoundsException"]
def wzX6_findPiece_no : List Cond := wzEX6_findPiece_no ++ (u_ws RX6 TX6 16 ++ ((vx_atS RX6 369 "java/lang/IndexOutOfBoundsException" ["java/lang/RuntimeException", "java/lang/Exception"]).filter goodWord))
theorem zgEX6_findPiece_no : wzEX6_findPiece_no.all goodWord = true := by decide +kernel
theorem zuX6_findPiece_no_X6 : ∀ w ∈ u_ws RX6 TX6 16, w ∈ wzX6_findPiece_no := (fun _ h => (List.mem_append_right _ (List.mem_append_left _ h)))
theorem ztX6_findPiece_no_X6_369 : ∀ w ∈ (vx_atS RX6 369 "java/lang/IndexOutOfBoundsException" ["java/lang/RuntimeException", "java/lang/Exception"]).filter goodWord, w ∈ wzX6_findPiece_no := (fun _ h => (List.mem_append_right _ (List.mem_append_right _ h)))
set_option maxHeartbeats 4000000 in
set_option maxRecDepth 100000 in
theorem zc_X6_findPiece_no (l : Launch) (hnt : l.stackTraces = false) (D : va_G) (G : Nat × Nat × (Nat → Int32)) (xo : Nat) (k : Nat) (xg : Nat) (gc : Int32) (xp : Nat) (pc : Int32) (xq : Nat) (qc : Int32) (r1 : Nat) (r2 : Nat) (r3 : Nat) (r4 : Nat) (se : Nat) (ts : Int32) (hou : Int32) (dr : Int32) (su : Int32) (br : Int32) (cq : ClassId) (f : Nat → Option Nat) (sz : Nat) (h9f : f k = none) (hh_k : k ≤ 15) : vx_Met l yX6_findPiece wzX6_findPiece_no ({ frames := 6, cells := 1, slots := 6, locals := 82 }) (va_Pc [.ref xo, .int (nI k)] (p_RW D G [(cq, .object "Gatherhouse$Piece")] [(xo, .inr (6, [.ref xg, .int gc, .ref xp, .int pc, .ref xq, .int qc, .ref r1, .ref r2, .ref r3, .ref r4, .ref se, .int ts, .int hou, .int dr, .int su, .int br])), (xq, .inl (cq, 16, .inr (.inr (.inr (.inr f)))))] sz)) (va_Qq (fun (r : Option Nat) (u : Unit) => False) (fun (u : Unit) (t : State) => q_RW D [(cq, .object "Gatherhouse$Piece")] [(xo, .inr (6, [.ref xg, .int gc, .ref xp, .int pc, .ref xq, .int qc, .ref r1, .ref r2, .ref r3, .ref r4, .ref se, .int ts, .int hou, .int dr, .int su, .int br])), (xq, .inl (cq, 16, .inr (.inr (.inr (.inr f)))))] (va_A [(xo, .inr (6, [.ref xg, .int gc, .ref xp, .int pc, .ref xq, .int qc, .ref r1, .ref r2, .ref r3, .ref r4, .ref se, .int ts, .int hou, .int dr, .int su, .int br])), (xq, .inl (cq, 16, .inr (.inr (.inr (.inr f)))))] sz) t) (va_A [(xo, .inr (6, [.ref xg, .int gc, .ref xp, .int pc, .ref xq, .int qc, .ref r1, .ref r2, .ref r3, .ref r4, .ref se, .int ts, .int hou, .int dr, .int su, .int br])), (xq, .inl (cq, 16, .inr (.inr (.inr (.inr f)))))] sz)) (vx_X (fun (_ : Unit) => True) (fun E (_ : Unit) (t : State) => ((E = "java/lang/IndexOutOfBoundsException")) ∧ q_RW D [(cq, .object "Gatherhouse$Piece")] [(xo, .inr (6, [.ref xg, .int gc, .ref xp, .int pc, .ref xq, .int qc, .ref r1, .ref r2, .ref r3, .ref r4, .ref se, .int ts, .int hou, .int dr, .int su, .int br])), (xq, .inl (cq, 16, .inr (.inr (.inr (.inr f)))))] (va_A [(xo, .inr (6, [.ref xg, .int gc, .ref xp, .int pc, .ref xq, .int qc, .ref r1, .ref r2, .ref r3, .ref r4, .ref se, .int ts, .int hou, .int dr, .int su, .int br])), (xq, .inl (cq, 16, .inr (.inr (.inr (.inr f)))))] sz) t) (va_A [(xo, .inr (6, [.ref xg, .int gc, .ref xp, .int pc, .ref xq, .int qc, .ref r1, .ref r2, .ref r3, .ref r4, .ref se, .int ts, .int hou, .int dr, .int su, .int br])), (xq, .inl (cq, 16, .inr (.inr (.inr (.inr f)))))] sz)) 1 6 (va_A [(xo, .inr (6, [.ref xg, .int gc, .ref xp, .int pc, .ref xq, .int qc, .ref r1, .ref r2, .ref r3, .ref r4, .ref se, .int ts, .int hou, .int dr, .int su, .int br])), (xq, .inl (cq, 16, .inr (.inr (.inr (.inr f)))))] sz) := by
  refine vx_ofW (cc := cX6_findPiece) (maxL := 3) (ret := (some (.object "Gatherhouse$Piece"))) (by decide) rfl ?_
  intro p e s m args below meth c s₁ B hml hxt hv
  obtain ⟨rfl, hsz, hP, hK, hD0, hT, hZ⟩ := hv
  have hx := B.exec
  have hb := B.bytes
  have hr := B.returns
  have hts := atoms_spec (ws := wzX6_findPiece_no) B.pre
  have hown : s.vm.findClass RX6 = some m.cls := findClass_of_methodNamed B.named
  have hlocks := B.notSynchronized
  subst hsz
  have hD := hD0.self (sz := s.heap.size)
  generalize hAe : va_A [(xo, .inr (6, [.ref xg, .int gc, .ref xp, .int pc, .ref xq, .int qc, .ref r1, .ref r2, .ref r3, .ref r4, .ref se, .int ts, .int hou, .int dr, .int su, .int br])), (xq, .inl (cq, 16, .inr (.inr (.inr (.inr f)))))] s.heap.size = A at hD hZ ⊢
  have hA : ∀ q : Nat, s.heap.size ≤ q → A q := fun q h => by rw [← hAe]; exact Or.inr h
  have hS : va_S A s.heap s.heap [] := va_S.rf
  have hl := lv_entry ([.ref xo, .int (nI k)]) (n := 3) (Nat.le_of_ble_eq_true rfl)
  rw [lg_entry_eq]
  generalize (lg_sl ([.ref xo, .int (nI k)]) ++ List.replicate (3 - (lg_sl ([.ref xo, .int (nI k)])).length) Slot.unset).toArray = ls at hl ⊢
  have hl : lv_has ls 3 [(0, .ref xo), (1, .int (nI k))] := hl
  refine lv_iload_n hx hb dX6_findPiece_0 rfl (lv_at hl 1 rfl) ?_
  refine lv_if_lt (tgt := 13) hx hb dX6_findPiece_1 (by decide) (fun cc => absurd cc (fun z => absurd ((nI_ltI (a := k) (b := 0) (by omega) (by omega)).mp z) (by omega))) (fun _ => ?_)
  refine lv_iload_n hx hb dX6_findPiece_4 rfl (lv_at hl 1 rfl) ?_
  refine lv_aload_n hx hb dX6_findPiece_5 rfl (lv_at hl 0 rfl) ?_
  refine va_get (D := D) (cl := vwCl) (ci := 6) (v := .ref xq) (C := RX6) (T := TX6) (N := 16) hx hb hts zuX6_findPiece_no_X6 hown hK hP 0 rfl rfl 4 (by decide) (hts (.fieldLink RX6 30 "Gatherhouse" "pieces" "[LGatherhouse$Piece;") (by decide +kernel)) (fun _ h9 => h9) rfl dX6_findPiece_6 ?_
  refine va_alen (D := D) (cl := vwCl) (v := 16) hx hb hK hP 1 0 rfl rfl rfl dX6_findPiece_9 ?_
  refine lv_icmp_lt (tgt := 17) hx hb dX6_findPiece_10 (by decide) (fun _ => ?_) (fun cc => absurd ((nI_ltI (a := k) (b := 16) (by omega) (by omega)).mpr (by omega)) cc)
  refine lv_aload_n hx hb dX6_findPiece_17 rfl (lv_at hl 0 rfl) ?_
  refine va_get (D := D) (cl := vwCl) (ci := 6) (v := .ref xq) (C := RX6) (T := TX6) (N := 16) hx hb hts zuX6_findPiece_no_X6 hown hK hP 0 rfl rfl 4 (by decide) (hts (.fieldLink RX6 30 "Gatherhouse" "pieces" "[LGatherhouse$Piece;") (by decide +kernel)) (fun _ h9 => h9) rfl dX6_findPiece_18 ?_
  refine lv_iload_n hx hb dX6_findPiece_21 rfl (lv_at hl 1 rfl) ?_
  refine va_aldq (D := D) (cl := vwCl) hx hb hK hP 1 0 rfl rfl (vp_in_nI (n := k) (N := 16) (by omega) (by omega)) dX6_findPiece_22 ?_
  refine W.eq (g2 := F0 m 23 ls [.null]) (by rw [z_rfN (k := k) (by omega) h9f]) ?_
  refine lv_astore_nN (lv' := [(2, .null), (0, .ref xo), (1, .int (nI k))]) hx hb dX6_findPiece_23 rfl hl (by decide) rfl (fun ls hl => ?_)
  refine lv_aload_nN hx hb dX6_findPiece_24 rfl (lv_at hl 0 rfl) ?_
  refine lv_ifnonnullN hx hb dX6_findPiece_25 ?_
  obtain ⟨sa_12, hsa_12⟩ := hT.2.2.2.2.2.1 ("Gatherhouse", 372, "no such piece") (by decide +kernel)
  refine vx_throwSW (own := RX6) (cls := "java/lang/IndexOutOfBoundsException") (names := ["java/lang/RuntimeException", "java/lang/Exception"]) (A := A) hx hb hnt hown (by decide +kernel) (by decide +kernel) (hts (.classLink RX6 365 "java/lang/IndexOutOfBoundsException") (by decide +kernel)) (hts (.initialized "java/lang/IndexOutOfBoundsException") (by decide +kernel)) hsa_12 (z_throw (fun w h => hts w (ztX6_findPiece_no_X6_369 w h)) (hT.2.2.1 ("java/lang/IndexOutOfBoundsException", "java/lang/IndexOutOfBoundsException") (by decide +kernel)) hT.2.2.2.2.2.2.2.1 (by decide +kernel)) (by decide +kernel) hZ.1 hZ.2.1 hS (hl.1.trans hml.symm) dX6_findPiece_28 dX6_findPiece_31 dX6_findPiece_32 dX6_findPiece_35 dX6_findPiece_38 (fun x h => (hxt x h).elim) (Nat.le_of_ble_eq_true rfl) (Nat.le_of_ble_eq_true rfl) (Nat.le_of_ble_eq_true rfl) (Nat.le_of_ble_eq_true rfl) hlocks (fun t hvm hz1 hk1 => ⟨(), trivial, ⟨rfl, q_RW_th hP hK hD [0, 1] [0] rfl rfl (by decide) rfl hk1 hvm⟩, ⟨Nat.le_trans hS.1 hz1, fun q h1 h2 => (hk1 q (Nat.lt_of_lt_of_le h1 hS.1)).trans (hS.2.1 q h1 h2)⟩⟩) hS.2.2 (Nat.le_of_ble_eq_true rfl) (Nat.le_of_ble_eq_true rfl)
theorem dX6_findGlass_13 : decode cX6_findGlass 13 = .ok (.aconst_null, 1) := by decide +kernel
theorem dX6_findGlass_14 : decode cX6_findGlass 14 = .ok (.goto 9, 3) := by decide +kernel
def wzEX6_findGlass_out : List Cond := [.code yX6_findGlass cX6_findGlass 3 (some (.object "Gatherhouse$Glass")), .fieldLink RX6 11 "Gatherhouse" "glasses" "[LGatherhouse$Glass;", .classLink RX6 365 "java/lang/IndexOutOfBoundsException", .initialized "java/lang/IndexOutOfBoundsException"]
def wzX6_findGlass_out : List Cond := wzEX6_findGlass_out ++ (u_ws RX6 TX6 16 ++ ((vx_atS RX6 369 "java/lang/IndexOutOfBoundsException" ["java/lang/RuntimeException", "java/lang/Exception"]).filter goodWord))
theorem zgEX6_findGlass_out : wzEX6_findGlass_out.all goodWord = true := by decide +kernel
theorem zuX6_findGlass_out_X6 : ∀ w ∈ u_ws RX6 TX6 16, w ∈ wzX6_findGlass_out := (fun _ h => (List.mem_append_right _ (List.mem_append_left _ h)))
theorem ztX6_findGlass_out_X6_369 : ∀ w ∈ (vx_atS RX6 369 "java/lang/IndexOutOfBoundsException" ["java/lang/RuntimeException", "java/lang/Exception"]).filter goodWord, w ∈ wzX6_findGlass_out := (fun _ h => (List.mem_append_right _ (List.mem_append_right _ h)))
set_option maxHeartbeats 4000000 in
set_option maxRecDepth 100000 in
theorem zc_X6_findGlass_out (l : Launch) (hnt : l.stackTraces = false) (D : va_G) (G : Nat × Nat × (Nat → Int32)) (xo : Nat) (xg : Nat) (gc : Int32) (xp : Nat) (pc : Int32) (xq : Nat) (qc : Int32) (r1 : Nat) (r2 : Nat) (r3 : Nat) (r4 : Nat) (se : Nat) (ts : Int32) (hou : Int32) (dr : Int32) (su : Int32) (br : Int32) (cg : ClassId) (f : Nat → Option Nat) (sz : Nat) : vx_Met l yX6_findGlass wzX6_findGlass_out ({ frames := 6, cells := 1, slots := 6, locals := 82 }) (va_Pc [.ref xo, .int 6] (p_RW D G [(cg, .object "Gatherhouse$Glass")] [(xo, .inr (6, [.ref xg, .int gc, .ref xp, .int pc, .ref xq, .int qc, .ref r1, .ref r2, .ref r3, .ref r4, .ref se, .int ts, .int hou, .int dr, .int su, .int br])), (xg, .inl (cg, 6, .inr (.inr (.inr (.inr f)))))] sz)) (va_Qq (fun (r : Option Nat) (u : Unit) => False) (fun (u : Unit) (t : State) => q_RW D [(cg, .object "Gatherhouse$Glass")] [(xo, .inr (6, [.ref xg, .int gc, .ref xp, .int pc, .ref xq, .int qc, .ref r1, .ref r2, .ref r3, .ref r4, .ref se, .int ts, .int hou, .int dr, .int su, .int br])), (xg, .inl (cg, 6, .inr (.inr (.inr (.inr f)))))] (va_A [(xo, .inr (6, [.ref xg, .int gc, .ref xp, .int pc, .ref xq, .int qc, .ref r1, .ref r2, .ref r3, .ref r4, .ref se, .int ts, .int hou, .int dr, .int su, .int br])), (xg, .inl (cg, 6, .inr (.inr (.inr (.inr f)))))] sz) t) (va_A [(xo, .inr (6, [.ref xg, .int gc, .ref xp, .int pc, .ref xq, .int qc, .ref r1, .ref r2, .ref r3, .ref r4, .ref se, .int ts, .int hou, .int dr, .int su, .int br])), (xg, .inl (cg, 6, .inr (.inr (.inr (.inr f)))))] sz)) (vx_X (fun (_ : Unit) => True) (fun E (_ : Unit) (t : State) => ((E = "java/lang/IndexOutOfBoundsException")) ∧ q_RW D [(cg, .object "Gatherhouse$Glass")] [(xo, .inr (6, [.ref xg, .int gc, .ref xp, .int pc, .ref xq, .int qc, .ref r1, .ref r2, .ref r3, .ref r4, .ref se, .int ts, .int hou, .int dr, .int su, .int br])), (xg, .inl (cg, 6, .inr (.inr (.inr (.inr f)))))] (va_A [(xo, .inr (6, [.ref xg, .int gc, .ref xp, .int pc, .ref xq, .int qc, .ref r1, .ref r2, .ref r3, .ref r4, .ref se, .int ts, .int hou, .int dr, .int su, .int br])), (xg, .inl (cg, 6, .inr (.inr (.inr (.inr f)))))] sz) t) (va_A [(xo, .inr (6, [.ref xg, .int gc, .ref xp, .int pc, .ref xq, .int qc, .ref r1, .ref r2, .ref r3, .ref r4, .ref se, .int ts, .int hou, .int dr, .int su, .int br])), (xg, .inl (cg, 6, .inr (.inr (.inr (.inr f)))))] sz)) 1 6 (va_A [(xo, .inr (6, [.ref xg, .int gc, .ref xp, .int pc, .ref xq, .int qc, .ref r1, .ref r2, .ref r3, .ref r4, .ref se, .int ts, .int hou, .int dr, .int su, .int br])), (xg, .inl (cg, 6, .inr (.inr (.inr (.inr f)))))] sz) := by
  refine vx_ofW (cc := cX6_findGlass) (maxL := 3) (ret := (some (.object "Gatherhouse$Glass"))) (by decide) rfl ?_
  intro p e s m args below meth c s₁ B hml hxt hv
  obtain ⟨rfl, hsz, hP, hK, hD0, hT, hZ⟩ := hv
  have hx := B.exec
  have hb := B.bytes
  have hr := B.returns
  have hts := atoms_spec (ws := wzX6_findGlass_out) B.pre
  have hown : s.vm.findClass RX6 = some m.cls := findClass_of_methodNamed B.named
  have hlocks := B.notSynchronized
  subst hsz
  have hD := hD0.self (sz := s.heap.size)
  generalize hAe : va_A [(xo, .inr (6, [.ref xg, .int gc, .ref xp, .int pc, .ref xq, .int qc, .ref r1, .ref r2, .ref r3, .ref r4, .ref se, .int ts, .int hou, .int dr, .int su, .int br])), (xg, .inl (cg, 6, .inr (.inr (.inr (.inr f)))))] s.heap.size = A at hD hZ ⊢
  have hA : ∀ q : Nat, s.heap.size ≤ q → A q := fun q h => by rw [← hAe]; exact Or.inr h
  have hS : va_S A s.heap s.heap [] := va_S.rf
  have hl := lv_entry ([.ref xo, .int 6]) (n := 3) (Nat.le_of_ble_eq_true rfl)
  rw [lg_entry_eq]
  generalize (lg_sl ([.ref xo, .int 6]) ++ List.replicate (3 - (lg_sl ([.ref xo, .int 6])).length) Slot.unset).toArray = ls at hl ⊢
  have hl : lv_has ls 3 [(0, .ref xo), (1, .int 6)] := hl
  refine lv_iload_n hx hb dX6_findGlass_0 rfl (lv_at hl 1 rfl) ?_
  refine lv_if_lt (tgt := 13) hx hb dX6_findGlass_1 (by decide) (fun cc => absurd cc (by decide)) (fun _ => ?_)
  refine lv_iload_n hx hb dX6_findGlass_4 rfl (lv_at hl 1 rfl) ?_
  refine lv_aload_n hx hb dX6_findGlass_5 rfl (lv_at hl 0 rfl) ?_
  refine va_get (D := D) (cl := vwCl) (ci := 6) (v := .ref xg) (C := RX6) (T := TX6) (N := 16) hx hb hts zuX6_findGlass_out_X6 hown hK hP 0 rfl rfl 0 (by decide) (hts (.fieldLink RX6 11 "Gatherhouse" "glasses" "[LGatherhouse$Glass;") (by decide +kernel)) (fun _ h9 => h9) rfl dX6_findGlass_6 ?_
  refine va_alen (D := D) (cl := vwCl) (v := 6) hx hb hK hP 1 0 rfl rfl rfl dX6_findGlass_9 ?_
  refine lv_icmp_lt (tgt := 17) hx hb dX6_findGlass_10 (by decide) (fun cc => absurd cc (by decide)) (fun _ => ?_)
  refine lv_null hx hb dX6_findGlass_13 ?_
  refine lv_goto (tgt := 23) hx hb dX6_findGlass_14 (by decide) ?_
  refine lv_astore_nN (lv' := [(2, .null), (0, .ref xo), (1, .int 6)]) hx hb dX6_findGlass_23 rfl hl (by decide) rfl (fun ls hl => ?_)
  refine lv_aload_nN hx hb dX6_findGlass_24 rfl (lv_at hl 0 rfl) ?_
  refine lv_ifnonnullN hx hb dX6_findGlass_25 ?_
  obtain ⟨sa_13, hsa_13⟩ := hT.2.2.2.2.2.1 ("Gatherhouse", 367, "no such glass") (by decide +kernel)
  refine vx_throwSW (own := RX6) (cls := "java/lang/IndexOutOfBoundsException") (names := ["java/lang/RuntimeException", "java/lang/Exception"]) (A := A) hx hb hnt hown (by decide +kernel) (by decide +kernel) (hts (.classLink RX6 365 "java/lang/IndexOutOfBoundsException") (by decide +kernel)) (hts (.initialized "java/lang/IndexOutOfBoundsException") (by decide +kernel)) hsa_13 (z_throw (fun w h => hts w (ztX6_findGlass_out_X6_369 w h)) (hT.2.2.1 ("java/lang/IndexOutOfBoundsException", "java/lang/IndexOutOfBoundsException") (by decide +kernel)) hT.2.2.2.2.2.2.2.1 (by decide +kernel)) (by decide +kernel) hZ.1 hZ.2.1 hS (hl.1.trans hml.symm) dX6_findGlass_28 dX6_findGlass_31 dX6_findGlass_32 dX6_findGlass_35 dX6_findGlass_38 (fun x h => (hxt x h).elim) (Nat.le_of_ble_eq_true rfl) (Nat.le_of_ble_eq_true rfl) (Nat.le_of_ble_eq_true rfl) (Nat.le_of_ble_eq_true rfl) hlocks (fun t hvm hz1 hk1 => ⟨(), trivial, ⟨rfl, q_RW_th hP hK hD [0, 1] [0] rfl rfl (by decide) rfl hk1 hvm⟩, ⟨Nat.le_trans hS.1 hz1, fun q h1 h2 => (hk1 q (Nat.lt_of_lt_of_le h1 hS.1)).trans (hS.2.1 q h1 h2)⟩⟩) hS.2.2 (Nat.le_of_ble_eq_true rfl) (Nat.le_of_ble_eq_true rfl)
theorem dX6_findRole_0 : decode cX6_findRole 0 = .ok (.iload_n 1, 1) := by decide +kernel
theorem dX6_findRole_1 : decode cX6_findRole 1 = .ok (.lookupswitch 63 #[(98, 58), (102, 53), (103, 43), (115, 48)], 43) := by decide +kernel
theorem dX6_findRole_54 : decode cX6_findRole 54 = .ok (.aload_n 0, 1) := by decide +kernel
theorem dX6_findRole_55 : decode cX6_findRole 55 = .ok (.getfield 47, 3) := by decide +kernel
theorem dX6_findRole_58 : decode cX6_findRole 58 = .ok (.areturn, 1) := by decide +kernel
def wzEX6_findRole_102 : List Cond := [.code yX6_findRole cX6_findRole 2 (some (.object "Gatherhouse$Role")), .fieldLink RX6 47 "Gatherhouse" "gaffer" "LGatherhouse$Role;"]
def wzX6_findRole_102 : List Cond := wzEX6_findRole_102 ++ (u_ws RX6 TX6 16)
theorem zgEX6_findRole_102 : wzEX6_findRole_102.all goodWord = true := by decide +kernel
theorem zuX6_findRole_102_X6 : ∀ w ∈ u_ws RX6 TX6 16, w ∈ wzX6_findRole_102 := (fun _ h => (List.mem_append_right _ h))
set_option maxHeartbeats 4000000 in
set_option maxRecDepth 100000 in
theorem zc_X6_findRole_102 (l : Launch) (hnt : l.stackTraces = false) (D : va_G) (G : Nat × Nat × (Nat → Int32)) (xo : Nat) (xg : Nat) (gc : Int32) (xp : Nat) (pc : Int32) (xq : Nat) (qc : Int32) (r1 : Nat) (r2 : Nat) (r3 : Nat) (r4 : Nat) (se : Nat) (ts : Int32) (hou : Int32) (dr : Int32) (su : Int32) (br : Int32) (sz : Nat) : vx_Met l yX6_findRole wzX6_findRole_102 ({ frames := 0, cells := 0, slots := 0, locals := 0 }) (va_Pc [.ref xo, .int 102] (p_RW D G [] [(xo, .inr (6, [.ref xg, .int gc, .ref xp, .int pc, .ref xq, .int qc, .ref r1, .ref r2, .ref r3, .ref r4, .ref se, .int ts, .int hou, .int dr, .int su, .int br]))] sz)) (va_Qq (fun (r : Option Nat) (u : Unit) => r = (some r3)) (fun (u : Unit) (t : State) => q_RW D [] [(xo, .inr (6, [.ref xg, .int gc, .ref xp, .int pc, .ref xq, .int qc, .ref r1, .ref r2, .ref r3, .ref r4, .ref se, .int ts, .int hou, .int dr, .int su, .int br]))] (va_A [(xo, .inr (6, [.ref xg, .int gc, .ref xp, .int pc, .ref xq, .int qc, .ref r1, .ref r2, .ref r3, .ref r4, .ref se, .int ts, .int hou, .int dr, .int su, .int br]))] sz) t) (va_A [(xo, .inr (6, [.ref xg, .int gc, .ref xp, .int pc, .ref xq, .int qc, .ref r1, .ref r2, .ref r3, .ref r4, .ref se, .int ts, .int hou, .int dr, .int su, .int br]))] sz)) (vx_X (fun (_ : Unit) => True) (fun E (_ : Unit) (_ : State) => False) (va_A [(xo, .inr (6, [.ref xg, .int gc, .ref xp, .int pc, .ref xq, .int qc, .ref r1, .ref r2, .ref r3, .ref r4, .ref se, .int ts, .int hou, .int dr, .int su, .int br]))] sz)) 0 0 (va_A [(xo, .inr (6, [.ref xg, .int gc, .ref xp, .int pc, .ref xq, .int qc, .ref r1, .ref r2, .ref r3, .ref r4, .ref se, .int ts, .int hou, .int dr, .int su, .int br]))] sz) := by
  refine vx_ofW (cc := cX6_findRole) (maxL := 2) (ret := (some (.object "Gatherhouse$Role"))) (by decide) rfl ?_
  intro p e s m args below meth c s₁ B hml hxt hv
  obtain ⟨rfl, hsz, hP, hK, hD0, hT, hZ⟩ := hv
  have hx := B.exec
  have hb := B.bytes
  have hr := B.returns
  have hts := atoms_spec (ws := wzX6_findRole_102) B.pre
  have hown : s.vm.findClass RX6 = some m.cls := findClass_of_methodNamed B.named
  have hlocks := B.notSynchronized
  subst hsz
  have hD := hD0.self (sz := s.heap.size)
  generalize hAe : va_A [(xo, .inr (6, [.ref xg, .int gc, .ref xp, .int pc, .ref xq, .int qc, .ref r1, .ref r2, .ref r3, .ref r4, .ref se, .int ts, .int hou, .int dr, .int su, .int br]))] s.heap.size = A at hD hZ ⊢
  have hA : ∀ q : Nat, s.heap.size ≤ q → A q := fun q h => by rw [← hAe]; exact Or.inr h
  have hS : va_S A s.heap s.heap [] := va_S.rf
  have hl := lv_entry ([.ref xo, .int 102]) (n := 2) (Nat.le_of_ble_eq_true rfl)
  rw [lg_entry_eq]
  generalize (lg_sl ([.ref xo, .int 102]) ++ List.replicate (2 - (lg_sl ([.ref xo, .int 102])).length) Slot.unset).toArray = ls at hl ⊢
  have hl : lv_has ls 2 [(0, .ref xo), (1, .int 102)] := hl
  refine lv_iload_n hx hb dX6_findRole_0 rfl (lv_at hl 1 rfl) ?_
  refine lv_lookup (off := 53) (tgt := 54) hx hb dX6_findRole_1 (by decide) (by decide +kernel) (by decide) ?_
  refine lv_aload_n hx hb dX6_findRole_54 rfl (lv_at hl 0 rfl) ?_
  refine va_get (D := D) (cl := vwCl) (ci := 6) (v := .ref r3) (C := RX6) (T := TX6) (N := 16) hx hb hts zuX6_findRole_102_X6 hown hK hP 0 rfl rfl 8 (by decide) (hts (.fieldLink RX6 47 "Gatherhouse" "gaffer" "LGatherhouse$Role;") (by decide +kernel)) (fun _ h9 => h9) rfl dX6_findRole_55 ?_
  refine vx_ret ?_
  exact W.aret (v := .ref r3) hx hb hr (Or.inl ⟨_, rfl⟩) (Or.inr ⟨_, rfl⟩) (fun t ht hW => ⟨⟨some r3, (), rfl, (by first | rfl | exact congrArg nI (by omega)), q_RW_mk hP hK hD [0] [] rfl rfl (by decide) rfl ht hW.alike⟩, hS.F ht⟩) hS.2.2 dX6_findRole_58
theorem dX6_findRole_49 : decode cX6_findRole 49 = .ok (.aload_n 0, 1) := by decide +kernel
theorem dX6_findRole_50 : decode cX6_findRole 50 = .ok (.getfield 44, 3) := by decide +kernel
theorem dX6_findRole_53 : decode cX6_findRole 53 = .ok (.areturn, 1) := by decide +kernel
def wzEX6_findRole_115 : List Cond := [.code yX6_findRole cX6_findRole 2 (some (.object "Gatherhouse$Role")), .fieldLink RX6 44 "Gatherhouse" "servitor" "LGatherhouse$Role;"]
def wzX6_findRole_115 : List Cond := wzEX6_findRole_115 ++ (u_ws RX6 TX6 16)
theorem zgEX6_findRole_115 : wzEX6_findRole_115.all goodWord = true := by decide +kernel
theorem zuX6_findRole_115_X6 : ∀ w ∈ u_ws RX6 TX6 16, w ∈ wzX6_findRole_115 := (fun _ h => (List.mem_append_right _ h))
set_option maxHeartbeats 4000000 in
set_option maxRecDepth 100000 in
theorem zc_X6_findRole_115 (l : Launch) (hnt : l.stackTraces = false) (D : va_G) (G : Nat × Nat × (Nat → Int32)) (xo : Nat) (xg : Nat) (gc : Int32) (xp : Nat) (pc : Int32) (xq : Nat) (qc : Int32) (r1 : Nat) (r2 : Nat) (r3 : Nat) (r4 : Nat) (se : Nat) (ts : Int32) (hou : Int32) (dr : Int32) (su : Int32) (br : Int32) (sz : Nat) : vx_Met l yX6_findRole wzX6_findRole_115 ({ frames := 0, cells := 0, slots := 0, locals := 0 }) (va_Pc [.ref xo, .int 115] (p_RW D G [] [(xo, .inr (6, [.ref xg, .int gc, .ref xp, .int pc, .ref xq, .int qc, .ref r1, .ref r2, .ref r3, .ref r4, .ref se, .int ts, .int hou, .int dr, .int su, .int br]))] sz)) (va_Qq (fun (r : Option Nat) (u : Unit) => r = (some r2)) (fun (u : Unit) (t : State) => q_RW D [] [(xo, .inr (6, [.ref xg, .int gc, .ref xp, .int pc, .ref xq, .int qc, .ref r1, .ref r2, .ref r3, .ref r4, .ref se, .int ts, .int hou, .int dr, .int su, .int br]))] (va_A [(xo, .inr (6, [.ref xg, .int gc, .ref xp, .int pc, .ref xq, .int qc, .ref r1, .ref r2, .ref r3, .ref r4, .ref se, .int ts, .int hou, .int dr, .int su, .int br]))] sz) t) (va_A [(xo, .inr (6, [.ref xg, .int gc, .ref xp, .int pc, .ref xq, .int qc, .ref r1, .ref r2, .ref r3, .ref r4, .ref se, .int ts, .int hou, .int dr, .int su, .int br]))] sz)) (vx_X (fun (_ : Unit) => True) (fun E (_ : Unit) (_ : State) => False) (va_A [(xo, .inr (6, [.ref xg, .int gc, .ref xp, .int pc, .ref xq, .int qc, .ref r1, .ref r2, .ref r3, .ref r4, .ref se, .int ts, .int hou, .int dr, .int su, .int br]))] sz)) 0 0 (va_A [(xo, .inr (6, [.ref xg, .int gc, .ref xp, .int pc, .ref xq, .int qc, .ref r1, .ref r2, .ref r3, .ref r4, .ref se, .int ts, .int hou, .int dr, .int su, .int br]))] sz) := by
  refine vx_ofW (cc := cX6_findRole) (maxL := 2) (ret := (some (.object "Gatherhouse$Role"))) (by decide) rfl ?_
  intro p e s m args below meth c s₁ B hml hxt hv
  obtain ⟨rfl, hsz, hP, hK, hD0, hT, hZ⟩ := hv
  have hx := B.exec
  have hb := B.bytes
  have hr := B.returns
  have hts := atoms_spec (ws := wzX6_findRole_115) B.pre
  have hown : s.vm.findClass RX6 = some m.cls := findClass_of_methodNamed B.named
  have hlocks := B.notSynchronized
  subst hsz
  have hD := hD0.self (sz := s.heap.size)
  generalize hAe : va_A [(xo, .inr (6, [.ref xg, .int gc, .ref xp, .int pc, .ref xq, .int qc, .ref r1, .ref r2, .ref r3, .ref r4, .ref se, .int ts, .int hou, .int dr, .int su, .int br]))] s.heap.size = A at hD hZ ⊢
  have hA : ∀ q : Nat, s.heap.size ≤ q → A q := fun q h => by rw [← hAe]; exact Or.inr h
  have hS : va_S A s.heap s.heap [] := va_S.rf
  have hl := lv_entry ([.ref xo, .int 115]) (n := 2) (Nat.le_of_ble_eq_true rfl)
  rw [lg_entry_eq]
  generalize (lg_sl ([.ref xo, .int 115]) ++ List.replicate (2 - (lg_sl ([.ref xo, .int 115])).length) Slot.unset).toArray = ls at hl ⊢
  have hl : lv_has ls 2 [(0, .ref xo), (1, .int 115)] := hl
  refine lv_iload_n hx hb dX6_findRole_0 rfl (lv_at hl 1 rfl) ?_
  refine lv_lookup (off := 48) (tgt := 49) hx hb dX6_findRole_1 (by decide) (by decide +kernel) (by decide) ?_
  refine lv_aload_n hx hb dX6_findRole_49 rfl (lv_at hl 0 rfl) ?_
  refine va_get (D := D) (cl := vwCl) (ci := 6) (v := .ref r2) (C := RX6) (T := TX6) (N := 16) hx hb hts zuX6_findRole_115_X6 hown hK hP 0 rfl rfl 7 (by decide) (hts (.fieldLink RX6 44 "Gatherhouse" "servitor" "LGatherhouse$Role;") (by decide +kernel)) (fun _ h9 => h9) rfl dX6_findRole_50 ?_
  refine vx_ret ?_
  exact W.aret (v := .ref r2) hx hb hr (Or.inl ⟨_, rfl⟩) (Or.inr ⟨_, rfl⟩) (fun t ht hW => ⟨⟨some r2, (), rfl, (by first | rfl | exact congrArg nI (by omega)), q_RW_mk hP hK hD [0] [] rfl rfl (by decide) rfl ht hW.alike⟩, hS.F ht⟩) hS.2.2 dX6_findRole_53
theorem dX6_findRole_64 : decode cX6_findRole 64 = .ok (.new 118, 3) := by decide +kernel
theorem dX6_findRole_67 : decode cX6_findRole 67 = .ok (.dup, 1) := by decide +kernel
theorem dX6_findRole_68 : decode cX6_findRole 68 = .ok (.ldc_w 380, 3) := by decide +kernel
theorem dX6_findRole_71 : decode cX6_findRole 71 = .ok (.invokespecial 122, 3) := by decide +kernel
theorem dX6_findRole_74 : decode cX6_findRole 74 = .ok (.athrow, 1) := by decide +kernel
def wzEX6_findRole_x : List Cond := [.code yX6_findRole cX6_findRole 2 (some (.object "Gatherhouse$Role")), .classLink RX6 118 "java/lang/IllegalArgumentException", .initialized "java/lang/IllegalArgumentException"]
def wzX6_findRole_x : List Cond := wzEX6_findRole_x ++ ((vx_atS RX6 122 "java/lang/IllegalArgumentException" ["java/lang/RuntimeException", "java/lang/Exception"]).filter goodWord)
theorem zgEX6_findRole_x : wzEX6_findRole_x.all goodWord = true := by decide +kernel
theorem ztX6_findRole_x_X6_122 : ∀ w ∈ (vx_atS RX6 122 "java/lang/IllegalArgumentException" ["java/lang/RuntimeException", "java/lang/Exception"]).filter goodWord, w ∈ wzX6_findRole_x := (fun _ h => (List.mem_append_right _ h))
set_option maxHeartbeats 4000000 in
set_option maxRecDepth 100000 in
theorem zc_X6_findRole_x (l : Launch) (hnt : l.stackTraces = false) (D : va_G) (G : Nat × Nat × (Nat → Int32)) (xo : Nat) (xg : Nat) (gc : Int32) (xp : Nat) (pc : Int32) (xq : Nat) (qc : Int32) (r1 : Nat) (r2 : Nat) (r3 : Nat) (r4 : Nat) (se : Nat) (ts : Int32) (hou : Int32) (dr : Int32) (su : Int32) (br : Int32) (sz : Nat) : vx_Met l yX6_findRole wzX6_findRole_x ({ frames := 6, cells := 1, slots := 6, locals := 82 }) (va_Pc [.ref xo, .int 120] (p_RW D G [] [(xo, .inr (6, [.ref xg, .int gc, .ref xp, .int pc, .ref xq, .int qc, .ref r1, .ref r2, .ref r3, .ref r4, .ref se, .int ts, .int hou, .int dr, .int su, .int br]))] sz)) (va_Qq (fun (r : Option Nat) (u : Unit) => False) (fun (u : Unit) (t : State) => q_RW D [] [(xo, .inr (6, [.ref xg, .int gc, .ref xp, .int pc, .ref xq, .int qc, .ref r1, .ref r2, .ref r3, .ref r4, .ref se, .int ts, .int hou, .int dr, .int su, .int br]))] (va_A [(xo, .inr (6, [.ref xg, .int gc, .ref xp, .int pc, .ref xq, .int qc, .ref r1, .ref r2, .ref r3, .ref r4, .ref se, .int ts, .int hou, .int dr, .int su, .int br]))] sz) t) (va_A [(xo, .inr (6, [.ref xg, .int gc, .ref xp, .int pc, .ref xq, .int qc, .ref r1, .ref r2, .ref r3, .ref r4, .ref se, .int ts, .int hou, .int dr, .int su, .int br]))] sz)) (vx_X (fun (_ : Unit) => True) (fun E (_ : Unit) (t : State) => ((E = "java/lang/IllegalArgumentException")) ∧ q_RW D [] [(xo, .inr (6, [.ref xg, .int gc, .ref xp, .int pc, .ref xq, .int qc, .ref r1, .ref r2, .ref r3, .ref r4, .ref se, .int ts, .int hou, .int dr, .int su, .int br]))] (va_A [(xo, .inr (6, [.ref xg, .int gc, .ref xp, .int pc, .ref xq, .int qc, .ref r1, .ref r2, .ref r3, .ref r4, .ref se, .int ts, .int hou, .int dr, .int su, .int br]))] sz) t) (va_A [(xo, .inr (6, [.ref xg, .int gc, .ref xp, .int pc, .ref xq, .int qc, .ref r1, .ref r2, .ref r3, .ref r4, .ref se, .int ts, .int hou, .int dr, .int su, .int br]))] sz)) 1 6 (va_A [(xo, .inr (6, [.ref xg, .int gc, .ref xp, .int pc, .ref xq, .int qc, .ref r1, .ref r2, .ref r3, .ref r4, .ref se, .int ts, .int hou, .int dr, .int su, .int br]))] sz) := by
  refine vx_ofW (cc := cX6_findRole) (maxL := 2) (ret := (some (.object "Gatherhouse$Role"))) (by decide) rfl ?_
  intro p e s m args below meth c s₁ B hml hxt hv
  obtain ⟨rfl, hsz, hP, hK, hD0, hT, hZ⟩ := hv
  have hx := B.exec
  have hb := B.bytes
  have hr := B.returns
  have hts := atoms_spec (ws := wzX6_findRole_x) B.pre
  have hown : s.vm.findClass RX6 = some m.cls := findClass_of_methodNamed B.named
  have hlocks := B.notSynchronized
  subst hsz
  have hD := hD0.self (sz := s.heap.size)
  generalize hAe : va_A [(xo, .inr (6, [.ref xg, .int gc, .ref xp, .int pc, .ref xq, .int qc, .ref r1, .ref r2, .ref r3, .ref r4, .ref se, .int ts, .int hou, .int dr, .int su, .int br]))] s.heap.size = A at hD hZ ⊢
  have hA : ∀ q : Nat, s.heap.size ≤ q → A q := fun q h => by rw [← hAe]; exact Or.inr h
  have hS : va_S A s.heap s.heap [] := va_S.rf
  have hl := lv_entry ([.ref xo, .int 120]) (n := 2) (Nat.le_of_ble_eq_true rfl)
  rw [lg_entry_eq]
  generalize (lg_sl ([.ref xo, .int 120]) ++ List.replicate (2 - (lg_sl ([.ref xo, .int 120])).length) Slot.unset).toArray = ls at hl ⊢
  have hl : lv_has ls 2 [(0, .ref xo), (1, .int 120)] := hl
  refine lv_iload_n hx hb dX6_findRole_0 rfl (lv_at hl 1 rfl) ?_
  refine lv_lookup (off := 63) (tgt := 64) hx hb dX6_findRole_1 (by decide) (by decide +kernel) (by decide) ?_
  obtain ⟨sa_14, hsa_14⟩ := hT.2.2.2.2.2.1 ("Gatherhouse", 380, "no such role") (by decide +kernel)
  refine vx_throwSW (own := RX6) (cls := "java/lang/IllegalArgumentException") (names := ["java/lang/RuntimeException", "java/lang/Exception"]) (A := A) hx hb hnt hown (by decide +kernel) (by decide +kernel) (hts (.classLink RX6 118 "java/lang/IllegalArgumentException") (by decide +kernel)) (hts (.initialized "java/lang/IllegalArgumentException") (by decide +kernel)) hsa_14 (z_throw (fun w h => hts w (ztX6_findRole_x_X6_122 w h)) (hT.2.2.1 ("java/lang/IllegalArgumentException", "java/lang/IllegalArgumentException") (by decide +kernel)) hT.2.2.2.2.2.2.2.1 (by decide +kernel)) (by decide +kernel) hZ.1 hZ.2.1 hS (hl.1.trans hml.symm) dX6_findRole_64 dX6_findRole_67 dX6_findRole_68 dX6_findRole_71 dX6_findRole_74 (fun x h => (hxt x h).elim) (Nat.le_of_ble_eq_true rfl) (Nat.le_of_ble_eq_true rfl) (Nat.le_of_ble_eq_true rfl) (Nat.le_of_ble_eq_true rfl) hlocks (fun t hvm hz1 hk1 => ⟨(), trivial, ⟨rfl, q_RW_th hP hK hD [0] [] rfl rfl (by decide) rfl hk1 hvm⟩, ⟨Nat.le_trans hS.1 hz1, fun q h1 h2 => (hk1 q (Nat.lt_of_lt_of_le h1 hS.1)).trans (hS.2.1 q h1 h2)⟩⟩) hS.2.2 (Nat.le_of_ble_eq_true rfl) (Nat.le_of_ble_eq_true rfl)
theorem dX6_countOf_0 : decode cX6_countOf 0 = .ok (.iconst 0, 1) := by decide +kernel
theorem dX6_countOf_1 : decode cX6_countOf 1 = .ok (.istore_n 2, 1) := by decide +kernel
theorem dX6_countOf_2 : decode cX6_countOf 2 = .ok (.aload_n 0, 1) := by decide +kernel
theorem dX6_countOf_3 : decode cX6_countOf 3 = .ok (.getfield 30, 3) := by decide +kernel
theorem dX6_countOf_6 : decode cX6_countOf 6 = .ok (.astore_n 3, 1) := by decide +kernel
theorem dX6_countOf_7 : decode cX6_countOf 7 = .ok (.aload_n 3, 1) := by decide +kernel
theorem dX6_countOf_8 : decode cX6_countOf 8 = .ok (.arraylength, 1) := by decide +kernel
theorem dX6_countOf_9 : decode cX6_countOf 9 = .ok (.istore 4, 2) := by decide +kernel
theorem dX6_countOf_11 : decode cX6_countOf 11 = .ok (.iconst 0, 1) := by decide +kernel
theorem dX6_countOf_12 : decode cX6_countOf 12 = .ok (.istore 5, 2) := by decide +kernel
theorem dX6_countOf_14 : decode cX6_countOf 14 = .ok (.iload 5, 2) := by decide +kernel
theorem dX6_countOf_16 : decode cX6_countOf 16 = .ok (.iload 4, 2) := by decide +kernel
theorem dX6_countOf_18 : decode cX6_countOf 18 = .ok (.if_icmp .ge 32, 3) := by decide +kernel
theorem dX6_countOf_21 : decode cX6_countOf 21 = .ok (.aload_n 3, 1) := by decide +kernel
theorem dX6_countOf_22 : decode cX6_countOf 22 = .ok (.iload 5, 2) := by decide +kernel
theorem dX6_countOf_24 : decode cX6_countOf 24 = .ok (.aaload, 1) := by decide +kernel
theorem dX6_countOf_25 : decode cX6_countOf 25 = .ok (.astore 6, 2) := by decide +kernel
theorem dX6_countOf_27 : decode cX6_countOf 27 = .ok (.aload 6, 2) := by decide +kernel
theorem dX6_countOf_29 : decode cX6_countOf 29 = .ok (.ifnull 15, 3) := by decide +kernel
theorem dX6_countOf_44 : decode cX6_countOf 44 = .ok (.iinc 5 1, 3) := by decide +kernel
theorem dX6_countOf_47 : decode cX6_countOf 47 = .ok (.goto (-33), 3) := by decide +kernel
theorem dX6_countOf_50 : decode cX6_countOf 50 = .ok (.iload_n 2, 1) := by decide +kernel
theorem dX6_countOf_51 : decode cX6_countOf 51 = .ok (.ireturn, 1) := by decide +kernel
def wzEX6_countOf : List Cond := [.code yX6_countOf cX6_countOf 7 (some .int), .fieldLink RX6 30 "Gatherhouse" "pieces" "[LGatherhouse$Piece;"]
def wzX6_countOf : List Cond := wzEX6_countOf ++ (u_ws RX6 TX6 16)
theorem zgEX6_countOf : wzEX6_countOf.all goodWord = true := by decide +kernel
theorem zuX6_countOf_X6 : ∀ w ∈ u_ws RX6 TX6 16, w ∈ wzX6_countOf := (fun _ h => (List.mem_append_right _ h))
set_option maxHeartbeats 4000000 in
set_option maxRecDepth 100000 in
theorem zc_X6_countOf (l : Launch) (D : va_G) (G : Nat × Nat × (Nat → Int32)) (xo : Nat) (ch : Int32) (xg : Nat) (gc : Int32) (xp : Nat) (pc : Int32) (xq : Nat) (qc : Int32) (r1 : Nat) (r2 : Nat) (r3 : Nat) (r4 : Nat) (se : Nat) (ts : Int32) (hou : Int32) (dr : Int32) (su : Int32) (br : Int32) (cq : ClassId) : Met l yX6_countOf wzX6_countOf ({ frames := 0, cells := 0, slots := 0, locals := 0 }) (va_Pc [.ref xo, .int ch] (p_RO D G [(cq, .object "Gatherhouse$Piece")] [(xo, .inr (6, [.ref xg, .int gc, .ref xp, .int pc, .ref xq, .int qc, .ref r1, .ref r2, .ref r3, .ref r4, .ref se, .int ts, .int hou, .int dr, .int su, .int br])), (xq, .inl (cq, 16, .inr (.inr (.inr (.inr (zq [none, none, none, none, none, none, none, none, none, none, none, none, none, none, none, none]))))))])) (vp_Si (fun r => r = 0)) 0 0 (fun _ => False) := by
  refine Met.ofW (cc := cX6_countOf) (maxL := 7) (ret := (some .int)) (by decide) rfl ?_
  intro p e s m args below meth c s₁ B hml hv
  obtain ⟨rfl, hP, hK, hT⟩ := hv
  have hx := B.exec
  have hb := B.bytes
  have hr := B.returns
  have hts := atoms_spec (ws := wzX6_countOf) B.pre
  have hown : s.vm.findClass RX6 = some m.cls := findClass_of_methodNamed B.named
  have hlocks := B.notSynchronized
  have hl := lv_entry ([.ref xo, .int ch]) (n := 7) (Nat.le_of_ble_eq_true rfl)
  rw [lg_entry_eq]
  generalize (lg_sl ([.ref xo, .int ch]) ++ List.replicate (7 - (lg_sl ([.ref xo, .int ch])).length) Slot.unset).toArray = ls at hl ⊢
  have hl : lv_has ls 7 [(0, .ref xo), (1, .int ch)] := hl
  refine lv_iconst (v := 0) hx hb dX6_countOf_0 (by decide) ?_
  refine lv_istore_n (lv' := [(2, .int 0), (0, .ref xo), (1, .int ch)]) hx hb dX6_countOf_1 rfl hl (by decide) rfl (fun ls hl => ?_)
  refine lv_aload_n hx hb dX6_countOf_2 rfl (lv_at hl 1 rfl) ?_
  refine va_get (D := D) (cl := vwCl) (ci := 6) (v := .ref xq) (C := RX6) (T := TX6) (N := 16) hx hb hts zuX6_countOf_X6 hown hK hP 0 rfl rfl 4 (by decide) (hts (.fieldLink RX6 30 "Gatherhouse" "pieces" "[LGatherhouse$Piece;") (by decide +kernel)) (fun _ h9 => h9) rfl dX6_countOf_3 ?_
  refine lv_astore_n (lv' := [(3, .ref xq), (2, .int 0), (0, .ref xo), (1, .int ch)]) hx hb dX6_countOf_6 rfl hl (by decide) rfl (fun ls hl => ?_)
  refine lv_aload_n hx hb dX6_countOf_7 rfl (lv_at hl 0 rfl) ?_
  refine va_alen (D := D) (cl := vwCl) (v := 16) hx hb hK hP 1 0 rfl rfl rfl dX6_countOf_8 ?_
  refine lv_istore (lv' := [(4, .int 16), (3, .ref xq), (2, .int 0), (0, .ref xo), (1, .int ch)]) hx hb dX6_countOf_9 hl (by decide) rfl (fun ls hl => ?_)
  refine lv_iconst (v := 0) hx hb dX6_countOf_11 (by decide) ?_
  refine lv_istore (lv' := [(5, .int 0), (4, .int 16), (3, .ref xq), (2, .int 0), (0, .ref xo), (1, .int ch)]) hx hb dX6_countOf_12 hl (by decide) rfl (fun ls hl => ?_)
  refine lv_iload hx hb dX6_countOf_14 (lv_at hl 0 rfl) ?_
  refine lv_iload hx hb dX6_countOf_16 (lv_at hl 1 rfl) ?_
  refine lv_icmp_ge (tgt := 50) hx hb dX6_countOf_18 (by decide) (fun cc => absurd cc (by decide)) (fun _ => ?_)
  refine lv_aload_n hx hb dX6_countOf_21 rfl (lv_at hl 2 rfl) ?_
  refine lv_iload hx hb dX6_countOf_22 (lv_at hl 0 rfl) ?_
  refine va_aldq (D := D) (cl := vwCl) hx hb hK hP 1 0 rfl rfl (vp_in_nI (n := 0) (N := 16) (by decide) (by decide)) dX6_countOf_24 ?_
  refine W.eq (g2 := F0 m 25 ls [.null]) rfl ?_
  refine lv_astoreN (lv' := [(6, .null), (5, .int 0), (4, .int 16), (3, .ref xq), (2, .int 0), (0, .ref xo), (1, .int ch)]) hx hb dX6_countOf_25 hl (by decide) rfl (fun ls hl => ?_)
  refine lv_aloadN hx hb dX6_countOf_27 (lv_at hl 0 rfl) ?_
  refine lv_ifnullN (tgt := 44) hx hb dX6_countOf_29 (by decide) ?_
  obtain ⟨x_15, ex_15⟩ : ∃ y : Int32, y = 0 + 1 := ⟨_, rfl⟩
  have ex_15 : x_15 = 1 := ex_15.trans (by decide)
  subst ex_15
  refine lv_iinc (v := 1) (lv' := [(5, .int 1), (6, .null), (4, .int 16), (3, .ref xq), (2, .int 0), (0, .ref xo), (1, .int ch)]) hx hb dX6_countOf_44 hl (k := 1) rfl (by decide) (by decide) rfl (fun ls hl => ?_)
  refine lv_goto (tgt := 14) hx hb dX6_countOf_47 (by decide) ?_
  refine lv_iload hx hb dX6_countOf_14 (lv_at hl 0 rfl) ?_
  refine lv_iload hx hb dX6_countOf_16 (lv_at hl 2 rfl) ?_
  refine lv_icmp_ge (tgt := 50) hx hb dX6_countOf_18 (by decide) (fun cc => absurd cc (by decide)) (fun _ => ?_)
  refine lv_aload_n hx hb dX6_countOf_21 rfl (lv_at hl 3 rfl) ?_
  refine lv_iload hx hb dX6_countOf_22 (lv_at hl 0 rfl) ?_
  refine va_aldq (D := D) (cl := vwCl) hx hb hK hP 1 0 rfl rfl (vp_in_nI (n := 1) (N := 16) (by decide) (by decide)) dX6_countOf_24 ?_
  refine W.eq (g2 := F0 m 25 ls [.null]) rfl ?_
  refine lv_astoreN (lv' := [(6, .null), (5, .int 1), (4, .int 16), (3, .ref xq), (2, .int 0), (0, .ref xo), (1, .int ch)]) hx hb dX6_countOf_25 hl (by decide) rfl (fun ls hl => ?_)
  refine lv_aloadN hx hb dX6_countOf_27 (lv_at hl 0 rfl) ?_
  refine lv_ifnullN (tgt := 44) hx hb dX6_countOf_29 (by decide) ?_
  obtain ⟨x_16, ex_16⟩ : ∃ y : Int32, y = 1 + 1 := ⟨_, rfl⟩
  have ex_16 : x_16 = 2 := ex_16.trans (by decide)
  subst ex_16
  refine lv_iinc (v := 2) (lv' := [(5, .int 2), (6, .null), (4, .int 16), (3, .ref xq), (2, .int 0), (0, .ref xo), (1, .int ch)]) hx hb dX6_countOf_44 hl (k := 1) rfl (by decide) (by decide) rfl (fun ls hl => ?_)
  refine lv_goto (tgt := 14) hx hb dX6_countOf_47 (by decide) ?_
  refine lv_iload hx hb dX6_countOf_14 (lv_at hl 0 rfl) ?_
  refine lv_iload hx hb dX6_countOf_16 (lv_at hl 2 rfl) ?_
  refine lv_icmp_ge (tgt := 50) hx hb dX6_countOf_18 (by decide) (fun cc => absurd cc (by decide)) (fun _ => ?_)
  refine lv_aload_n hx hb dX6_countOf_21 rfl (lv_at hl 3 rfl) ?_
  refine lv_iload hx hb dX6_countOf_22 (lv_at hl 0 rfl) ?_
  refine va_aldq (D := D) (cl := vwCl) hx hb hK hP 1 0 rfl rfl (vp_in_nI (n := 2) (N := 16) (by decide) (by decide)) dX6_countOf_24 ?_
  refine W.eq (g2 := F0 m 25 ls [.null]) rfl ?_
  refine lv_astoreN (lv' := [(6, .null), (5, .int 2), (4, .int 16), (3, .ref xq), (2, .int 0), (0, .ref xo), (1, .int ch)]) hx hb dX6_countOf_25 hl (by decide) rfl (fun ls hl => ?_)
  refine lv_aloadN hx hb dX6_countOf_27 (lv_at hl 0 rfl) ?_
  refine lv_ifnullN (tgt := 44) hx hb dX6_countOf_29 (by decide) ?_
  obtain ⟨x_17, ex_17⟩ : ∃ y : Int32, y = 2 + 1 := ⟨_, rfl⟩
  have ex_17 : x_17 = 3 := ex_17.trans (by decide)
  subst ex_17
  refine lv_iinc (v := 3) (lv' := [(5, .int 3), (6, .null), (4, .int 16), (3, .ref xq), (2, .int 0), (0, .ref xo), (1, .int ch)]) hx hb dX6_countOf_44 hl (k := 1) rfl (by decide) (by decide) rfl (fun ls hl => ?_)
  refine lv_goto (tgt := 14) hx hb dX6_countOf_47 (by decide) ?_
  refine lv_iload hx hb dX6_countOf_14 (lv_at hl 0 rfl) ?_
  refine lv_iload hx hb dX6_countOf_16 (lv_at hl 2 rfl) ?_
  refine lv_icmp_ge (tgt := 50) hx hb dX6_countOf_18 (by decide) (fun cc => absurd cc (by decide)) (fun _ => ?_)
  refine lv_aload_n hx hb dX6_countOf_21 rfl (lv_at hl 3 rfl) ?_
  refine lv_iload hx hb dX6_countOf_22 (lv_at hl 0 rfl) ?_
  refine va_aldq (D := D) (cl := vwCl) hx hb hK hP 1 0 rfl rfl (vp_in_nI (n := 3) (N := 16) (by decide) (by decide)) dX6_countOf_24 ?_
  refine W.eq (g2 := F0 m 25 ls [.null]) rfl ?_
  refine lv_astoreN (lv' := [(6, .null), (5, .int 3), (4, .int 16), (3, .ref xq), (2, .int 0), (0, .ref xo), (1, .int ch)]) hx hb dX6_countOf_25 hl (by decide) rfl (fun ls hl => ?_)
  refine lv_aloadN hx hb dX6_countOf_27 (lv_at hl 0 rfl) ?_
  refine lv_ifnullN (tgt := 44) hx hb dX6_countOf_29 (by decide) ?_
  obtain ⟨x_18, ex_18⟩ : ∃ y : Int32, y = 3 + 1 := ⟨_, rfl⟩
  have ex_18 : x_18 = 4 := ex_18.trans (by decide)
  subst ex_18
  refine lv_iinc (v := 4) (lv' := [(5, .int 4), (6, .null), (4, .int 16), (3, .ref xq), (2, .int 0), (0, .ref xo), (1, .int ch)]) hx hb dX6_countOf_44 hl (k := 1) rfl (by decide) (by decide) rfl (fun ls hl => ?_)
  refine lv_goto (tgt := 14) hx hb dX6_countOf_47 (by decide) ?_
  refine lv_iload hx hb dX6_countOf_14 (lv_at hl 0 rfl) ?_
  refine lv_iload hx hb dX6_countOf_16 (lv_at hl 2 rfl) ?_
  refine lv_icmp_ge (tgt := 50) hx hb dX6_countOf_18 (by decide) (fun cc => absurd cc (by decide)) (fun _ => ?_)
  refine lv_aload_n hx hb dX6_countOf_21 rfl (lv_at hl 3 rfl) ?_
  refine lv_iload hx hb dX6_countOf_22 (lv_at hl 0 rfl) ?_
  refine va_aldq (D := D) (cl := vwCl) hx hb hK hP 1 0 rfl rfl (vp_in_nI (n := 4) (N := 16) (by decide) (by decide)) dX6_countOf_24 ?_
  refine W.eq (g2 := F0 m 25 ls [.null]) rfl ?_
  refine lv_astoreN (lv' := [(6, .null), (5, .int 4), (4, .int 16), (3, .ref xq), (2, .int 0), (0, .ref xo), (1, .int ch)]) hx hb dX6_countOf_25 hl (by decide) rfl (fun ls hl => ?_)
  refine lv_aloadN hx hb dX6_countOf_27 (lv_at hl 0 rfl) ?_
  refine lv_ifnullN (tgt := 44) hx hb dX6_countOf_29 (by decide) ?_
  obtain ⟨x_19, ex_19⟩ : ∃ y : Int32, y = 4 + 1 := ⟨_, rfl⟩
  have ex_19 : x_19 = 5 := ex_19.trans (by decide)
  subst ex_19
  refine lv_iinc (v := 5) (lv' := [(5, .int 5), (6, .null), (4, .int 16), (3, .ref xq), (2, .int 0), (0, .ref xo), (1, .int ch)]) hx hb dX6_countOf_44 hl (k := 1) rfl (by decide) (by decide) rfl (fun ls hl => ?_)
  refine lv_goto (tgt := 14) hx hb dX6_countOf_47 (by decide) ?_
  refine lv_iload hx hb dX6_countOf_14 (lv_at hl 0 rfl) ?_
  refine lv_iload hx hb dX6_countOf_16 (lv_at hl 2 rfl) ?_
  refine lv_icmp_ge (tgt := 50) hx hb dX6_countOf_18 (by decide) (fun cc => absurd cc (by decide)) (fun _ => ?_)
  refine lv_aload_n hx hb dX6_countOf_21 rfl (lv_at hl 3 rfl) ?_
  refine lv_iload hx hb dX6_countOf_22 (lv_at hl 0 rfl) ?_
  refine va_aldq (D := D) (cl := vwCl) hx hb hK hP 1 0 rfl rfl (vp_in_nI (n := 5) (N := 16) (by decide) (by decide)) dX6_countOf_24 ?_
  refine W.eq (g2 := F0 m 25 ls [.null]) rfl ?_
  refine lv_astoreN (lv' := [(6, .null), (5, .int 5), (4, .int 16), (3, .ref xq), (2, .int 0), (0, .ref xo), (1, .int ch)]) hx hb dX6_countOf_25 hl (by decide) rfl (fun ls hl => ?_)
  refine lv_aloadN hx hb dX6_countOf_27 (lv_at hl 0 rfl) ?_
  refine lv_ifnullN (tgt := 44) hx hb dX6_countOf_29 (by decide) ?_
  obtain ⟨x_20, ex_20⟩ : ∃ y : Int32, y = 5 + 1 := ⟨_, rfl⟩
  have ex_20 : x_20 = 6 := ex_20.trans (by decide)
  subst ex_20
  refine lv_iinc (v := 6) (lv' := [(5, .int 6), (6, .null), (4, .int 16), (3, .ref xq), (2, .int 0), (0, .ref xo), (1, .int ch)]) hx hb dX6_countOf_44 hl (k := 1) rfl (by decide) (by decide) rfl (fun ls hl => ?_)
  refine lv_goto (tgt := 14) hx hb dX6_countOf_47 (by decide) ?_
  refine lv_iload hx hb dX6_countOf_14 (lv_at hl 0 rfl) ?_
  refine lv_iload hx hb dX6_countOf_16 (lv_at hl 2 rfl) ?_
  refine lv_icmp_ge (tgt := 50) hx hb dX6_countOf_18 (by decide) (fun cc => absurd cc (by decide)) (fun _ => ?_)
  refine lv_aload_n hx hb dX6_countOf_21 rfl (lv_at hl 3 rfl) ?_
  refine lv_iload hx hb dX6_countOf_22 (lv_at hl 0 rfl) ?_
  refine va_aldq (D := D) (cl := vwCl) hx hb hK hP 1 0 rfl rfl (vp_in_nI (n := 6) (N := 16) (by decide) (by decide)) dX6_countOf_24 ?_
  refine W.eq (g2 := F0 m 25 ls [.null]) rfl ?_
  refine lv_astoreN (lv' := [(6, .null), (5, .int 6), (4, .int 16), (3, .ref xq), (2, .int 0), (0, .ref xo), (1, .int ch)]) hx hb dX6_countOf_25 hl (by decide) rfl (fun ls hl => ?_)
  refine lv_aloadN hx hb dX6_countOf_27 (lv_at hl 0 rfl) ?_
  refine lv_ifnullN (tgt := 44) hx hb dX6_countOf_29 (by decide) ?_
  obtain ⟨x_21, ex_21⟩ : ∃ y : Int32, y = 6 + 1 := ⟨_, rfl⟩
  have ex_21 : x_21 = 7 := ex_21.trans (by decide)
  subst ex_21
  refine lv_iinc (v := 7) (lv' := [(5, .int 7), (6, .null), (4, .int 16), (3, .ref xq), (2, .int 0), (0, .ref xo), (1, .int ch)]) hx hb dX6_countOf_44 hl (k := 1) rfl (by decide) (by decide) rfl (fun ls hl => ?_)
  refine lv_goto (tgt := 14) hx hb dX6_countOf_47 (by decide) ?_
  refine lv_iload hx hb dX6_countOf_14 (lv_at hl 0 rfl) ?_
  refine lv_iload hx hb dX6_countOf_16 (lv_at hl 2 rfl) ?_
  refine lv_icmp_ge (tgt := 50) hx hb dX6_countOf_18 (by decide) (fun cc => absurd cc (by decide)) (fun _ => ?_)
  refine lv_aload_n hx hb dX6_countOf_21 rfl (lv_at hl 3 rfl) ?_
  refine lv_iload hx hb dX6_countOf_22 (lv_at hl 0 rfl) ?_
  refine va_aldq (D := D) (cl := vwCl) hx hb hK hP 1 0 rfl rfl (vp_in_nI (n := 7) (N := 16) (by decide) (by decide)) dX6_countOf_24 ?_
  refine W.eq (g2 := F0 m 25 ls [.null]) rfl ?_
  refine lv_astoreN (lv' := [(6, .null), (5, .int 7), (4, .int 16), (3, .ref xq), (2, .int 0), (0, .ref xo), (1, .int ch)]) hx hb dX6_countOf_25 hl (by decide) rfl (fun ls hl => ?_)
  refine lv_aloadN hx hb dX6_countOf_27 (lv_at hl 0 rfl) ?_
  refine lv_ifnullN (tgt := 44) hx hb dX6_countOf_29 (by decide) ?_
  obtain ⟨x_22, ex_22⟩ : ∃ y : Int32, y = 7 + 1 := ⟨_, rfl⟩
  have ex_22 : x_22 = 8 := ex_22.trans (by decide)
  subst ex_22
  refine lv_iinc (v := 8) (lv' := [(5, .int 8), (6, .null), (4, .int 16), (3, .ref xq), (2, .int 0), (0, .ref xo), (1, .int ch)]) hx hb dX6_countOf_44 hl (k := 1) rfl (by decide) (by decide) rfl (fun ls hl => ?_)
  refine lv_goto (tgt := 14) hx hb dX6_countOf_47 (by decide) ?_
  refine lv_iload hx hb dX6_countOf_14 (lv_at hl 0 rfl) ?_
  refine lv_iload hx hb dX6_countOf_16 (lv_at hl 2 rfl) ?_
  refine lv_icmp_ge (tgt := 50) hx hb dX6_countOf_18 (by decide) (fun cc => absurd cc (by decide)) (fun _ => ?_)
  refine lv_aload_n hx hb dX6_countOf_21 rfl (lv_at hl 3 rfl) ?_
  refine lv_iload hx hb dX6_countOf_22 (lv_at hl 0 rfl) ?_
  refine va_aldq (D := D) (cl := vwCl) hx hb hK hP 1 0 rfl rfl (vp_in_nI (n := 8) (N := 16) (by decide) (by decide)) dX6_countOf_24 ?_
  refine W.eq (g2 := F0 m 25 ls [.null]) rfl ?_
  refine lv_astoreN (lv' := [(6, .null), (5, .int 8), (4, .int 16), (3, .ref xq), (2, .int 0), (0, .ref xo), (1, .int ch)]) hx hb dX6_countOf_25 hl (by decide) rfl (fun ls hl => ?_)
  refine lv_aloadN hx hb dX6_countOf_27 (lv_at hl 0 rfl) ?_
  refine lv_ifnullN (tgt := 44) hx hb dX6_countOf_29 (by decide) ?_
  obtain ⟨x_23, ex_23⟩ : ∃ y : Int32, y = 8 + 1 := ⟨_, rfl⟩
  have ex_23 : x_23 = 9 := ex_23.trans (by decide)
  subst ex_23
  refine lv_iinc (v := 9) (lv' := [(5, .int 9), (6, .null), (4, .int 16), (3, .ref xq), (2, .int 0), (0, .ref xo), (1, .int ch)]) hx hb dX6_countOf_44 hl (k := 1) rfl (by decide) (by decide) rfl (fun ls hl => ?_)
  refine lv_goto (tgt := 14) hx hb dX6_countOf_47 (by decide) ?_
  refine lv_iload hx hb dX6_countOf_14 (lv_at hl 0 rfl) ?_
  refine lv_iload hx hb dX6_countOf_16 (lv_at hl 2 rfl) ?_
  refine lv_icmp_ge (tgt := 50) hx hb dX6_countOf_18 (by decide) (fun cc => absurd cc (by decide)) (fun _ => ?_)
  refine lv_aload_n hx hb dX6_countOf_21 rfl (lv_at hl 3 rfl) ?_
  refine lv_iload hx hb dX6_countOf_22 (lv_at hl 0 rfl) ?_
  refine va_aldq (D := D) (cl := vwCl) hx hb hK hP 1 0 rfl rfl (vp_in_nI (n := 9) (N := 16) (by decide) (by decide)) dX6_countOf_24 ?_
  refine W.eq (g2 := F0 m 25 ls [.null]) rfl ?_
  refine lv_astoreN (lv' := [(6, .null), (5, .int 9), (4, .int 16), (3, .ref xq), (2, .int 0), (0, .ref xo), (1, .int ch)]) hx hb dX6_countOf_25 hl (by decide) rfl (fun ls hl => ?_)
  refine lv_aloadN hx hb dX6_countOf_27 (lv_at hl 0 rfl) ?_
  refine lv_ifnullN (tgt := 44) hx hb dX6_countOf_29 (by decide) ?_
  obtain ⟨x_24, ex_24⟩ : ∃ y : Int32, y = 9 + 1 := ⟨_, rfl⟩
  have ex_24 : x_24 = 10 := ex_24.trans (by decide)
  subst ex_24
  refine lv_iinc (v := 10) (lv' := [(5, .int 10), (6, .null), (4, .int 16), (3, .ref xq), (2, .int 0), (0, .ref xo), (1, .int ch)]) hx hb dX6_countOf_44 hl (k := 1) rfl (by decide) (by decide) rfl (fun ls hl => ?_)
  refine lv_goto (tgt := 14) hx hb dX6_countOf_47 (by decide) ?_
  refine lv_iload hx hb dX6_countOf_14 (lv_at hl 0 rfl) ?_
  refine lv_iload hx hb dX6_countOf_16 (lv_at hl 2 rfl) ?_
  refine lv_icmp_ge (tgt := 50) hx hb dX6_countOf_18 (by decide) (fun cc => absurd cc (by decide)) (fun _ => ?_)
  refine lv_aload_n hx hb dX6_countOf_21 rfl (lv_at hl 3 rfl) ?_
  refine lv_iload hx hb dX6_countOf_22 (lv_at hl 0 rfl) ?_
  refine va_aldq (D := D) (cl := vwCl) hx hb hK hP 1 0 rfl rfl (vp_in_nI (n := 10) (N := 16) (by decide) (by decide)) dX6_countOf_24 ?_
  refine W.eq (g2 := F0 m 25 ls [.null]) rfl ?_
  refine lv_astoreN (lv' := [(6, .null), (5, .int 10), (4, .int 16), (3, .ref xq), (2, .int 0), (0, .ref xo), (1, .int ch)]) hx hb dX6_countOf_25 hl (by decide) rfl (fun ls hl => ?_)
  refine lv_aloadN hx hb dX6_countOf_27 (lv_at hl 0 rfl) ?_
  refine lv_ifnullN (tgt := 44) hx hb dX6_countOf_29 (by decide) ?_
  obtain ⟨x_25, ex_25⟩ : ∃ y : Int32, y = 10 + 1 := ⟨_, rfl⟩
  have ex_25 : x_25 = 11 := ex_25.trans (by decide)
  subst ex_25
  refine lv_iinc (v := 11) (lv' := [(5, .int 11), (6, .null), (4, .int 16), (3, .ref xq), (2, .int 0), (0, .ref xo), (1, .int ch)]) hx hb dX6_countOf_44 hl (k := 1) rfl (by decide) (by decide) rfl (fun ls hl => ?_)
  refine lv_goto (tgt := 14) hx hb dX6_countOf_47 (by decide) ?_
  refine lv_iload hx hb dX6_countOf_14 (lv_at hl 0 rfl) ?_
  refine lv_iload hx hb dX6_countOf_16 (lv_at hl 2 rfl) ?_
  refine lv_icmp_ge (tgt := 50) hx hb dX6_countOf_18 (by decide) (fun cc => absurd cc (by decide)) (fun _ => ?_)
  refine lv_aload_n hx hb dX6_countOf_21 rfl (lv_at hl 3 rfl) ?_
  refine lv_iload hx hb dX6_countOf_22 (lv_at hl 0 rfl) ?_
  refine va_aldq (D := D) (cl := vwCl) hx hb hK hP 1 0 rfl rfl (vp_in_nI (n := 11) (N := 16) (by decide) (by decide)) dX6_countOf_24 ?_
  refine W.eq (g2 := F0 m 25 ls [.null]) rfl ?_
  refine lv_astoreN (lv' := [(6, .null), (5, .int 11), (4, .int 16), (3, .ref xq), (2, .int 0), (0, .ref xo), (1, .int ch)]) hx hb dX6_countOf_25 hl (by decide) rfl (fun ls hl => ?_)
  refine lv_aloadN hx hb dX6_countOf_27 (lv_at hl 0 rfl) ?_
  refine lv_ifnullN (tgt := 44) hx hb dX6_countOf_29 (by decide) ?_
  obtain ⟨x_26, ex_26⟩ : ∃ y : Int32, y = 11 + 1 := ⟨_, rfl⟩
  have ex_26 : x_26 = 12 := ex_26.trans (by decide)
  subst ex_26
  refine lv_iinc (v := 12) (lv' := [(5, .int 12), (6, .null), (4, .int 16), (3, .ref xq), (2, .int 0), (0, .ref xo), (1, .int ch)]) hx hb dX6_countOf_44 hl (k := 1) rfl (by decide) (by decide) rfl (fun ls hl => ?_)
  refine lv_goto (tgt := 14) hx hb dX6_countOf_47 (by decide) ?_
  refine lv_iload hx hb dX6_countOf_14 (lv_at hl 0 rfl) ?_
  refine lv_iload hx hb dX6_countOf_16 (lv_at hl 2 rfl) ?_
  refine lv_icmp_ge (tgt := 50) hx hb dX6_countOf_18 (by decide) (fun cc => absurd cc (by decide)) (fun _ => ?_)
  refine lv_aload_n hx hb dX6_countOf_21 rfl (lv_at hl 3 rfl) ?_
  refine lv_iload hx hb dX6_countOf_22 (lv_at hl 0 rfl) ?_
  refine va_aldq (D := D) (cl := vwCl) hx hb hK hP 1 0 rfl rfl (vp_in_nI (n := 12) (N := 16) (by decide) (by decide)) dX6_countOf_24 ?_
  refine W.eq (g2 := F0 m 25 ls [.null]) rfl ?_
  refine lv_astoreN (lv' := [(6, .null), (5, .int 12), (4, .int 16), (3, .ref xq), (2, .int 0), (0, .ref xo), (1, .int ch)]) hx hb dX6_countOf_25 hl (by decide) rfl (fun ls hl => ?_)
  refine lv_aloadN hx hb dX6_countOf_27 (lv_at hl 0 rfl) ?_
  refine lv_ifnullN (tgt := 44) hx hb dX6_countOf_29 (by decide) ?_
  obtain ⟨x_27, ex_27⟩ : ∃ y : Int32, y = 12 + 1 := ⟨_, rfl⟩
  have ex_27 : x_27 = 13 := ex_27.trans (by decide)
  subst ex_27
  refine lv_iinc (v := 13) (lv' := [(5, .int 13), (6, .null), (4, .int 16), (3, .ref xq), (2, .int 0), (0, .ref xo), (1, .int ch)]) hx hb dX6_countOf_44 hl (k := 1) rfl (by decide) (by decide) rfl (fun ls hl => ?_)
  refine lv_goto (tgt := 14) hx hb dX6_countOf_47 (by decide) ?_
  refine lv_iload hx hb dX6_countOf_14 (lv_at hl 0 rfl) ?_
  refine lv_iload hx hb dX6_countOf_16 (lv_at hl 2 rfl) ?_
  refine lv_icmp_ge (tgt := 50) hx hb dX6_countOf_18 (by decide) (fun cc => absurd cc (by decide)) (fun _ => ?_)
  refine lv_aload_n hx hb dX6_countOf_21 rfl (lv_at hl 3 rfl) ?_
  refine lv_iload hx hb dX6_countOf_22 (lv_at hl 0 rfl) ?_
  refine va_aldq (D := D) (cl := vwCl) hx hb hK hP 1 0 rfl rfl (vp_in_nI (n := 13) (N := 16) (by decide) (by decide)) dX6_countOf_24 ?_
  refine W.eq (g2 := F0 m 25 ls [.null]) rfl ?_
  refine lv_astoreN (lv' := [(6, .null), (5, .int 13), (4, .int 16), (3, .ref xq), (2, .int 0), (0, .ref xo), (1, .int ch)]) hx hb dX6_countOf_25 hl (by decide) rfl (fun ls hl => ?_)
  refine lv_aloadN hx hb dX6_countOf_27 (lv_at hl 0 rfl) ?_
  refine lv_ifnullN (tgt := 44) hx hb dX6_countOf_29 (by decide) ?_
  obtain ⟨x_28, ex_28⟩ : ∃ y : Int32, y = 13 + 1 := ⟨_, rfl⟩
  have ex_28 : x_28 = 14 := ex_28.trans (by decide)
  subst ex_28
  refine lv_iinc (v := 14) (lv' := [(5, .int 14), (6, .null), (4, .int 16), (3, .ref xq), (2, .int 0), (0, .ref xo), (1, .int ch)]) hx hb dX6_countOf_44 hl (k := 1) rfl (by decide) (by decide) rfl (fun ls hl => ?_)
  refine lv_goto (tgt := 14) hx hb dX6_countOf_47 (by decide) ?_
  refine lv_iload hx hb dX6_countOf_14 (lv_at hl 0 rfl) ?_
  refine lv_iload hx hb dX6_countOf_16 (lv_at hl 2 rfl) ?_
  refine lv_icmp_ge (tgt := 50) hx hb dX6_countOf_18 (by decide) (fun cc => absurd cc (by decide)) (fun _ => ?_)
  refine lv_aload_n hx hb dX6_countOf_21 rfl (lv_at hl 3 rfl) ?_
  refine lv_iload hx hb dX6_countOf_22 (lv_at hl 0 rfl) ?_
  refine va_aldq (D := D) (cl := vwCl) hx hb hK hP 1 0 rfl rfl (vp_in_nI (n := 14) (N := 16) (by decide) (by decide)) dX6_countOf_24 ?_
  refine W.eq (g2 := F0 m 25 ls [.null]) rfl ?_
  refine lv_astoreN (lv' := [(6, .null), (5, .int 14), (4, .int 16), (3, .ref xq), (2, .int 0), (0, .ref xo), (1, .int ch)]) hx hb dX6_countOf_25 hl (by decide) rfl (fun ls hl => ?_)
  refine lv_aloadN hx hb dX6_countOf_27 (lv_at hl 0 rfl) ?_
  refine lv_ifnullN (tgt := 44) hx hb dX6_countOf_29 (by decide) ?_
  obtain ⟨x_29, ex_29⟩ : ∃ y : Int32, y = 14 + 1 := ⟨_, rfl⟩
  have ex_29 : x_29 = 15 := ex_29.trans (by decide)
  subst ex_29
  refine lv_iinc (v := 15) (lv' := [(5, .int 15), (6, .null), (4, .int 16), (3, .ref xq), (2, .int 0), (0, .ref xo), (1, .int ch)]) hx hb dX6_countOf_44 hl (k := 1) rfl (by decide) (by decide) rfl (fun ls hl => ?_)
  refine lv_goto (tgt := 14) hx hb dX6_countOf_47 (by decide) ?_
  refine lv_iload hx hb dX6_countOf_14 (lv_at hl 0 rfl) ?_
  refine lv_iload hx hb dX6_countOf_16 (lv_at hl 2 rfl) ?_
  refine lv_icmp_ge (tgt := 50) hx hb dX6_countOf_18 (by decide) (fun cc => absurd cc (by decide)) (fun _ => ?_)
  refine lv_aload_n hx hb dX6_countOf_21 rfl (lv_at hl 3 rfl) ?_
  refine lv_iload hx hb dX6_countOf_22 (lv_at hl 0 rfl) ?_
  refine va_aldq (D := D) (cl := vwCl) hx hb hK hP 1 0 rfl rfl (vp_in_nI (n := 15) (N := 16) (by decide) (by decide)) dX6_countOf_24 ?_
  refine W.eq (g2 := F0 m 25 ls [.null]) rfl ?_
  refine lv_astoreN (lv' := [(6, .null), (5, .int 15), (4, .int 16), (3, .ref xq), (2, .int 0), (0, .ref xo), (1, .int ch)]) hx hb dX6_countOf_25 hl (by decide) rfl (fun ls hl => ?_)
  refine lv_aloadN hx hb dX6_countOf_27 (lv_at hl 0 rfl) ?_
  refine lv_ifnullN (tgt := 44) hx hb dX6_countOf_29 (by decide) ?_
  obtain ⟨x_30, ex_30⟩ : ∃ y : Int32, y = 15 + 1 := ⟨_, rfl⟩
  have ex_30 : x_30 = 16 := ex_30.trans (by decide)
  subst ex_30
  refine lv_iinc (v := 16) (lv' := [(5, .int 16), (6, .null), (4, .int 16), (3, .ref xq), (2, .int 0), (0, .ref xo), (1, .int ch)]) hx hb dX6_countOf_44 hl (k := 1) rfl (by decide) (by decide) rfl (fun ls hl => ?_)
  refine lv_goto (tgt := 14) hx hb dX6_countOf_47 (by decide) ?_
  refine lv_iload hx hb dX6_countOf_14 (lv_at hl 0 rfl) ?_
  refine lv_iload hx hb dX6_countOf_16 (lv_at hl 2 rfl) ?_
  refine lv_icmp_ge (tgt := 50) hx hb dX6_countOf_18 (by decide) (fun _ => ?_) (fun cc => absurd (by decide) cc)
  refine lv_iload_n hx hb dX6_countOf_50 rfl (lv_at hl 4 rfl) ?_
  exact W.iret (v := 0) hx hb hr (fun t ht hW => ⟨0, rfl, rfl, ht⟩) (fun q h => by cases h) dX6_countOf_51
theorem dX6_endDay_0 : decode cX6_endDay 0 = .ok (.aload_n 0, 1) := by decide +kernel
theorem dX6_endDay_1 : decode cX6_endDay 1 = .ok (.getfield 30, 3) := by decide +kernel
theorem dX6_endDay_4 : decode cX6_endDay 4 = .ok (.astore_n 2, 1) := by decide +kernel
theorem dX6_endDay_5 : decode cX6_endDay 5 = .ok (.aload_n 2, 1) := by decide +kernel
theorem dX6_endDay_6 : decode cX6_endDay 6 = .ok (.arraylength, 1) := by decide +kernel
theorem dX6_endDay_7 : decode cX6_endDay 7 = .ok (.istore_n 3, 1) := by decide +kernel
theorem dX6_endDay_8 : decode cX6_endDay 8 = .ok (.iconst 0, 1) := by decide +kernel
theorem dX6_endDay_9 : decode cX6_endDay 9 = .ok (.istore 4, 2) := by decide +kernel
theorem dX6_endDay_11 : decode cX6_endDay 11 = .ok (.iload 4, 2) := by decide +kernel
theorem dX6_endDay_13 : decode cX6_endDay 13 = .ok (.iload_n 3, 1) := by decide +kernel
theorem dX6_endDay_14 : decode cX6_endDay 14 = .ok (.if_icmp .ge 46, 3) := by decide +kernel
theorem dX6_endDay_17 : decode cX6_endDay 17 = .ok (.aload_n 2, 1) := by decide +kernel
theorem dX6_endDay_18 : decode cX6_endDay 18 = .ok (.iload 4, 2) := by decide +kernel
theorem dX6_endDay_20 : decode cX6_endDay 20 = .ok (.aaload, 1) := by decide +kernel
theorem dX6_endDay_21 : decode cX6_endDay 21 = .ok (.astore 5, 2) := by decide +kernel
theorem dX6_endDay_23 : decode cX6_endDay 23 = .ok (.aload 5, 2) := by decide +kernel
theorem dX6_endDay_25 : decode cX6_endDay 25 = .ok (.ifnull 29, 3) := by decide +kernel
theorem dX6_endDay_54 : decode cX6_endDay 54 = .ok (.iinc 4 1, 3) := by decide +kernel
theorem dX6_endDay_57 : decode cX6_endDay 57 = .ok (.goto (-46), 3) := by decide +kernel
theorem dX6_endDay_60 : decode cX6_endDay 60 = .ok (.return_, 1) := by decide +kernel
def wzEX6_endDay : List Cond := [.code yX6_endDay cX6_endDay 6 none, .fieldLink RX6 30 "Gatherhouse" "pieces" "[LGatherhouse$Piece;"]
def wzX6_endDay : List Cond := wzEX6_endDay ++ (u_ws RX6 TX6 16)
theorem zgEX6_endDay : wzEX6_endDay.all goodWord = true := by decide +kernel
theorem zuX6_endDay_X6 : ∀ w ∈ u_ws RX6 TX6 16, w ∈ wzX6_endDay := (fun _ h => (List.mem_append_right _ h))
set_option maxHeartbeats 4000000 in
set_option maxRecDepth 100000 in
theorem zc_X6_endDay (l : Launch) (D : va_G) (G : Nat × Nat × (Nat → Int32)) (xo : Nat) (td : Int32) (xg : Nat) (gc : Int32) (xp : Nat) (pc : Int32) (xq : Nat) (qc : Int32) (r1 : Nat) (r2 : Nat) (r3 : Nat) (r4 : Nat) (se : Nat) (ts : Int32) (hou : Int32) (dr : Int32) (su : Int32) (br : Int32) (cq : ClassId) : Met l yX6_endDay wzX6_endDay ({ frames := 0, cells := 0, slots := 0, locals := 0 }) (va_Pc [.ref xo, .int td] (p_RO D G [(cq, .object "Gatherhouse$Piece")] [(xo, .inr (6, [.ref xg, .int gc, .ref xp, .int pc, .ref xq, .int qc, .ref r1, .ref r2, .ref r3, .ref r4, .ref se, .int ts, .int hou, .int dr, .int su, .int br])), (xq, .inl (cq, 16, .inr (.inr (.inr (.inr (zq [none, none, none, none, none, none, none, none, none, none, none, none, none, none, none, none]))))))])) (va_Sv (fun _ => True)) 0 0 (fun _ => False) := by
  refine Met.ofW (cc := cX6_endDay) (maxL := 6) (ret := none) (by decide) rfl ?_
  intro p e s m args below meth c s₁ B hml hv
  obtain ⟨rfl, hP, hK, hT⟩ := hv
  have hx := B.exec
  have hb := B.bytes
  have hr := B.returns
  have hts := atoms_spec (ws := wzX6_endDay) B.pre
  have hown : s.vm.findClass RX6 = some m.cls := findClass_of_methodNamed B.named
  have hlocks := B.notSynchronized
  have hl := lv_entry ([.ref xo, .int td]) (n := 6) (Nat.le_of_ble_eq_true rfl)
  rw [lg_entry_eq]
  generalize (lg_sl ([.ref xo, .int td]) ++ List.replicate (6 - (lg_sl ([.ref xo, .int td])).length) Slot.unset).toArray = ls at hl ⊢
  have hl : lv_has ls 6 [(0, .ref xo), (1, .int td)] := hl
  refine lv_aload_n hx hb dX6_endDay_0 rfl (lv_at hl 0 rfl) ?_
  refine va_get (D := D) (cl := vwCl) (ci := 6) (v := .ref xq) (C := RX6) (T := TX6) (N := 16) hx hb hts zuX6_endDay_X6 hown hK hP 0 rfl rfl 4 (by decide) (hts (.fieldLink RX6 30 "Gatherhouse" "pieces" "[LGatherhouse$Piece;") (by decide +kernel)) (fun _ h9 => h9) rfl dX6_endDay_1 ?_
  refine lv_astore_n (lv' := [(2, .ref xq), (0, .ref xo), (1, .int td)]) hx hb dX6_endDay_4 rfl hl (by decide) rfl (fun ls hl => ?_)
  refine lv_aload_n hx hb dX6_endDay_5 rfl (lv_at hl 0 rfl) ?_
  refine va_alen (D := D) (cl := vwCl) (v := 16) hx hb hK hP 1 0 rfl rfl rfl dX6_endDay_6 ?_
  refine lv_istore_n (lv' := [(3, .int 16), (2, .ref xq), (0, .ref xo), (1, .int td)]) hx hb dX6_endDay_7 rfl hl (by decide) rfl (fun ls hl => ?_)
  refine lv_iconst (v := 0) hx hb dX6_endDay_8 (by decide) ?_
  refine lv_istore (lv' := [(4, .int 0), (3, .int 16), (2, .ref xq), (0, .ref xo), (1, .int td)]) hx hb dX6_endDay_9 hl (by decide) rfl (fun ls hl => ?_)
  refine lv_iload hx hb dX6_endDay_11 (lv_at hl 0 rfl) ?_
  refine lv_iload_n hx hb dX6_endDay_13 rfl (lv_at hl 1 rfl) ?_
  refine lv_icmp_ge (tgt := 60) hx hb dX6_endDay_14 (by decide) (fun cc => absurd cc (by decide)) (fun _ => ?_)
  refine lv_aload_n hx hb dX6_endDay_17 rfl (lv_at hl 2 rfl) ?_
  refine lv_iload hx hb dX6_endDay_18 (lv_at hl 0 rfl) ?_
  refine va_aldq (D := D) (cl := vwCl) hx hb hK hP 1 0 rfl rfl (vp_in_nI (n := 0) (N := 16) (by decide) (by decide)) dX6_endDay_20 ?_
  refine W.eq (g2 := F0 m 21 ls [.null]) rfl ?_
  refine lv_astoreN (lv' := [(5, .null), (4, .int 0), (3, .int 16), (2, .ref xq), (0, .ref xo), (1, .int td)]) hx hb dX6_endDay_21 hl (by decide) rfl (fun ls hl => ?_)
  refine lv_aloadN hx hb dX6_endDay_23 (lv_at hl 0 rfl) ?_
  refine lv_ifnullN (tgt := 54) hx hb dX6_endDay_25 (by decide) ?_
  obtain ⟨x_31, ex_31⟩ : ∃ y : Int32, y = 0 + 1 := ⟨_, rfl⟩
  have ex_31 : x_31 = 1 := ex_31.trans (by decide)
  subst ex_31
  refine lv_iinc (v := 1) (lv' := [(4, .int 1), (5, .null), (3, .int 16), (2, .ref xq), (0, .ref xo), (1, .int td)]) hx hb dX6_endDay_54 hl (k := 1) rfl (by decide) (by decide) rfl (fun ls hl => ?_)
  refine lv_goto (tgt := 11) hx hb dX6_endDay_57 (by decide) ?_
  refine lv_iload hx hb dX6_endDay_11 (lv_at hl 0 rfl) ?_
  refine lv_iload_n hx hb dX6_endDay_13 rfl (lv_at hl 2 rfl) ?_
  refine lv_icmp_ge (tgt := 60) hx hb dX6_endDay_14 (by decide) (fun cc => absurd cc (by decide)) (fun _ => ?_)
  refine lv_aload_n hx hb dX6_endDay_17 rfl (lv_at hl 3 rfl) ?_
  refine lv_iload hx hb dX6_endDay_18 (lv_at hl 0 rfl) ?_
  refine va_aldq (D := D) (cl := vwCl) hx hb hK hP 1 0 rfl rfl (vp_in_nI (n := 1) (N := 16) (by decide) (by decide)) dX6_endDay_20 ?_
  refine W.eq (g2 := F0 m 21 ls [.null]) rfl ?_
  refine lv_astoreN (lv' := [(5, .null), (4, .int 1), (3, .int 16), (2, .ref xq), (0, .ref xo), (1, .int td)]) hx hb dX6_endDay_21 hl (by decide) rfl (fun ls hl => ?_)
  refine lv_aloadN hx hb dX6_endDay_23 (lv_at hl 0 rfl) ?_
  refine lv_ifnullN (tgt := 54) hx hb dX6_endDay_25 (by decide) ?_
  obtain ⟨x_32, ex_32⟩ : ∃ y : Int32, y = 1 + 1 := ⟨_, rfl⟩
  have ex_32 : x_32 = 2 := ex_32.trans (by decide)
  subst ex_32
  refine lv_iinc (v := 2) (lv' := [(4, .int 2), (5, .null), (3, .int 16), (2, .ref xq), (0, .ref xo), (1, .int td)]) hx hb dX6_endDay_54 hl (k := 1) rfl (by decide) (by decide) rfl (fun ls hl => ?_)
  refine lv_goto (tgt := 11) hx hb dX6_endDay_57 (by decide) ?_
  refine lv_iload hx hb dX6_endDay_11 (lv_at hl 0 rfl) ?_
  refine lv_iload_n hx hb dX6_endDay_13 rfl (lv_at hl 2 rfl) ?_
  refine lv_icmp_ge (tgt := 60) hx hb dX6_endDay_14 (by decide) (fun cc => absurd cc (by decide)) (fun _ => ?_)
  refine lv_aload_n hx hb dX6_endDay_17 rfl (lv_at hl 3 rfl) ?_
  refine lv_iload hx hb dX6_endDay_18 (lv_at hl 0 rfl) ?_
  refine va_aldq (D := D) (cl := vwCl) hx hb hK hP 1 0 rfl rfl (vp_in_nI (n := 2) (N := 16) (by decide) (by decide)) dX6_endDay_20 ?_
  refine W.eq (g2 := F0 m 21 ls [.null]) rfl ?_
  refine lv_astoreN (lv' := [(5, .null), (4, .int 2), (3, .int 16), (2, .ref xq), (0, .ref xo), (1, .int td)]) hx hb dX6_endDay_21 hl (by decide) rfl (fun ls hl => ?_)
  refine lv_aloadN hx hb dX6_endDay_23 (lv_at hl 0 rfl) ?_
  refine lv_ifnullN (tgt := 54) hx hb dX6_endDay_25 (by decide) ?_
  obtain ⟨x_33, ex_33⟩ : ∃ y : Int32, y = 2 + 1 := ⟨_, rfl⟩
  have ex_33 : x_33 = 3 := ex_33.trans (by decide)
  subst ex_33
  refine lv_iinc (v := 3) (lv' := [(4, .int 3), (5, .null), (3, .int 16), (2, .ref xq), (0, .ref xo), (1, .int td)]) hx hb dX6_endDay_54 hl (k := 1) rfl (by decide) (by decide) rfl (fun ls hl => ?_)
  refine lv_goto (tgt := 11) hx hb dX6_endDay_57 (by decide) ?_
  refine lv_iload hx hb dX6_endDay_11 (lv_at hl 0 rfl) ?_
  refine lv_iload_n hx hb dX6_endDay_13 rfl (lv_at hl 2 rfl) ?_
  refine lv_icmp_ge (tgt := 60) hx hb dX6_endDay_14 (by decide) (fun cc => absurd cc (by decide)) (fun _ => ?_)
  refine lv_aload_n hx hb dX6_endDay_17 rfl (lv_at hl 3 rfl) ?_
  refine lv_iload hx hb dX6_endDay_18 (lv_at hl 0 rfl) ?_
  refine va_aldq (D := D) (cl := vwCl) hx hb hK hP 1 0 rfl rfl (vp_in_nI (n := 3) (N := 16) (by decide) (by decide)) dX6_endDay_20 ?_
  refine W.eq (g2 := F0 m 21 ls [.null]) rfl ?_
  refine lv_astoreN (lv' := [(5, .null), (4, .int 3), (3, .int 16), (2, .ref xq), (0, .ref xo), (1, .int td)]) hx hb dX6_endDay_21 hl (by decide) rfl (fun ls hl => ?_)
  refine lv_aloadN hx hb dX6_endDay_23 (lv_at hl 0 rfl) ?_
  refine lv_ifnullN (tgt := 54) hx hb dX6_endDay_25 (by decide) ?_
  obtain ⟨x_34, ex_34⟩ : ∃ y : Int32, y = 3 + 1 := ⟨_, rfl⟩
  have ex_34 : x_34 = 4 := ex_34.trans (by decide)
  subst ex_34
  refine lv_iinc (v := 4) (lv' := [(4, .int 4), (5, .null), (3, .int 16), (2, .ref xq), (0, .ref xo), (1, .int td)]) hx hb dX6_endDay_54 hl (k := 1) rfl (by decide) (by decide) rfl (fun ls hl => ?_)
  refine lv_goto (tgt := 11) hx hb dX6_endDay_57 (by decide) ?_
  refine lv_iload hx hb dX6_endDay_11 (lv_at hl 0 rfl) ?_
  refine lv_iload_n hx hb dX6_endDay_13 rfl (lv_at hl 2 rfl) ?_
  refine lv_icmp_ge (tgt := 60) hx hb dX6_endDay_14 (by decide) (fun cc => absurd cc (by decide)) (fun _ => ?_)
  refine lv_aload_n hx hb dX6_endDay_17 rfl (lv_at hl 3 rfl) ?_
  refine lv_iload hx hb dX6_endDay_18 (lv_at hl 0 rfl) ?_
  refine va_aldq (D := D) (cl := vwCl) hx hb hK hP 1 0 rfl rfl (vp_in_nI (n := 4) (N := 16) (by decide) (by decide)) dX6_endDay_20 ?_
  refine W.eq (g2 := F0 m 21 ls [.null]) rfl ?_
  refine lv_astoreN (lv' := [(5, .null), (4, .int 4), (3, .int 16), (2, .ref xq), (0, .ref xo), (1, .int td)]) hx hb dX6_endDay_21 hl (by decide) rfl (fun ls hl => ?_)
  refine lv_aloadN hx hb dX6_endDay_23 (lv_at hl 0 rfl) ?_
  refine lv_ifnullN (tgt := 54) hx hb dX6_endDay_25 (by decide) ?_
  obtain ⟨x_35, ex_35⟩ : ∃ y : Int32, y = 4 + 1 := ⟨_, rfl⟩
  have ex_35 : x_35 = 5 := ex_35.trans (by decide)
  subst ex_35
  refine lv_iinc (v := 5) (lv' := [(4, .int 5), (5, .null), (3, .int 16), (2, .ref xq), (0, .ref xo), (1, .int td)]) hx hb dX6_endDay_54 hl (k := 1) rfl (by decide) (by decide) rfl (fun ls hl => ?_)
  refine lv_goto (tgt := 11) hx hb dX6_endDay_57 (by decide) ?_
  refine lv_iload hx hb dX6_endDay_11 (lv_at hl 0 rfl) ?_
  refine lv_iload_n hx hb dX6_endDay_13 rfl (lv_at hl 2 rfl) ?_
  refine lv_icmp_ge (tgt := 60) hx hb dX6_endDay_14 (by decide) (fun cc => absurd cc (by decide)) (fun _ => ?_)
  refine lv_aload_n hx hb dX6_endDay_17 rfl (lv_at hl 3 rfl) ?_
  refine lv_iload hx hb dX6_endDay_18 (lv_at hl 0 rfl) ?_
  refine va_aldq (D := D) (cl := vwCl) hx hb hK hP 1 0 rfl rfl (vp_in_nI (n := 5) (N := 16) (by decide) (by decide)) dX6_endDay_20 ?_
  refine W.eq (g2 := F0 m 21 ls [.null]) rfl ?_
  refine lv_astoreN (lv' := [(5, .null), (4, .int 5), (3, .int 16), (2, .ref xq), (0, .ref xo), (1, .int td)]) hx hb dX6_endDay_21 hl (by decide) rfl (fun ls hl => ?_)
  refine lv_aloadN hx hb dX6_endDay_23 (lv_at hl 0 rfl) ?_
  refine lv_ifnullN (tgt := 54) hx hb dX6_endDay_25 (by decide) ?_
  obtain ⟨x_36, ex_36⟩ : ∃ y : Int32, y = 5 + 1 := ⟨_, rfl⟩
  have ex_36 : x_36 = 6 := ex_36.trans (by decide)
  subst ex_36
  refine lv_iinc (v := 6) (lv' := [(4, .int 6), (5, .null), (3, .int 16), (2, .ref xq), (0, .ref xo), (1, .int td)]) hx hb dX6_endDay_54 hl (k := 1) rfl (by decide) (by decide) rfl (fun ls hl => ?_)
  refine lv_goto (tgt := 11) hx hb dX6_endDay_57 (by decide) ?_
  refine lv_iload hx hb dX6_endDay_11 (lv_at hl 0 rfl) ?_
  refine lv_iload_n hx hb dX6_endDay_13 rfl (lv_at hl 2 rfl) ?_
  refine lv_icmp_ge (tgt := 60) hx hb dX6_endDay_14 (by decide) (fun cc => absurd cc (by decide)) (fun _ => ?_)
  refine lv_aload_n hx hb dX6_endDay_17 rfl (lv_at hl 3 rfl) ?_
  refine lv_iload hx hb dX6_endDay_18 (lv_at hl 0 rfl) ?_
  refine va_aldq (D := D) (cl := vwCl) hx hb hK hP 1 0 rfl rfl (vp_in_nI (n := 6) (N := 16) (by decide) (by decide)) dX6_endDay_20 ?_
  refine W.eq (g2 := F0 m 21 ls [.null]) rfl ?_
  refine lv_astoreN (lv' := [(5, .null), (4, .int 6), (3, .int 16), (2, .ref xq), (0, .ref xo), (1, .int td)]) hx hb dX6_endDay_21 hl (by decide) rfl (fun ls hl => ?_)
  refine lv_aloadN hx hb dX6_endDay_23 (lv_at hl 0 rfl) ?_
  refine lv_ifnullN (tgt := 54) hx hb dX6_endDay_25 (by decide) ?_
  obtain ⟨x_37, ex_37⟩ : ∃ y : Int32, y = 6 + 1 := ⟨_, rfl⟩
  have ex_37 : x_37 = 7 := ex_37.trans (by decide)
  subst ex_37
  refine lv_iinc (v := 7) (lv' := [(4, .int 7), (5, .null), (3, .int 16), (2, .ref xq), (0, .ref xo), (1, .int td)]) hx hb dX6_endDay_54 hl (k := 1) rfl (by decide) (by decide) rfl (fun ls hl => ?_)
  refine lv_goto (tgt := 11) hx hb dX6_endDay_57 (by decide) ?_
  refine lv_iload hx hb dX6_endDay_11 (lv_at hl 0 rfl) ?_
  refine lv_iload_n hx hb dX6_endDay_13 rfl (lv_at hl 2 rfl) ?_
  refine lv_icmp_ge (tgt := 60) hx hb dX6_endDay_14 (by decide) (fun cc => absurd cc (by decide)) (fun _ => ?_)
  refine lv_aload_n hx hb dX6_endDay_17 rfl (lv_at hl 3 rfl) ?_
  refine lv_iload hx hb dX6_endDay_18 (lv_at hl 0 rfl) ?_
  refine va_aldq (D := D) (cl := vwCl) hx hb hK hP 1 0 rfl rfl (vp_in_nI (n := 7) (N := 16) (by decide) (by decide)) dX6_endDay_20 ?_
  refine W.eq (g2 := F0 m 21 ls [.null]) rfl ?_
  refine lv_astoreN (lv' := [(5, .null), (4, .int 7), (3, .int 16), (2, .ref xq), (0, .ref xo), (1, .int td)]) hx hb dX6_endDay_21 hl (by decide) rfl (fun ls hl => ?_)
  refine lv_aloadN hx hb dX6_endDay_23 (lv_at hl 0 rfl) ?_
  refine lv_ifnullN (tgt := 54) hx hb dX6_endDay_25 (by decide) ?_
  obtain ⟨x_38, ex_38⟩ : ∃ y : Int32, y = 7 + 1 := ⟨_, rfl⟩
  have ex_38 : x_38 = 8 := ex_38.trans (by decide)
  subst ex_38
  refine lv_iinc (v := 8) (lv' := [(4, .int 8), (5, .null), (3, .int 16), (2, .ref xq), (0, .ref xo), (1, .int td)]) hx hb dX6_endDay_54 hl (k := 1) rfl (by decide) (by decide) rfl (fun ls hl => ?_)
  refine lv_goto (tgt := 11) hx hb dX6_endDay_57 (by decide) ?_
  refine lv_iload hx hb dX6_endDay_11 (lv_at hl 0 rfl) ?_
  refine lv_iload_n hx hb dX6_endDay_13 rfl (lv_at hl 2 rfl) ?_
  refine lv_icmp_ge (tgt := 60) hx hb dX6_endDay_14 (by decide) (fun cc => absurd cc (by decide)) (fun _ => ?_)
  refine lv_aload_n hx hb dX6_endDay_17 rfl (lv_at hl 3 rfl) ?_
  refine lv_iload hx hb dX6_endDay_18 (lv_at hl 0 rfl) ?_
  refine va_aldq (D := D) (cl := vwCl) hx hb hK hP 1 0 rfl rfl (vp_in_nI (n := 8) (N := 16) (by decide) (by decide)) dX6_endDay_20 ?_
  refine W.eq (g2 := F0 m 21 ls [.null]) rfl ?_
  refine lv_astoreN (lv' := [(5, .null), (4, .int 8), (3, .int 16), (2, .ref xq), (0, .ref xo), (1, .int td)]) hx hb dX6_endDay_21 hl (by decide) rfl (fun ls hl => ?_)
  refine lv_aloadN hx hb dX6_endDay_23 (lv_at hl 0 rfl) ?_
  refine lv_ifnullN (tgt := 54) hx hb dX6_endDay_25 (by decide) ?_
  obtain ⟨x_39, ex_39⟩ : ∃ y : Int32, y = 8 + 1 := ⟨_, rfl⟩
  have ex_39 : x_39 = 9 := ex_39.trans (by decide)
  subst ex_39
  refine lv_iinc (v := 9) (lv' := [(4, .int 9), (5, .null), (3, .int 16), (2, .ref xq), (0, .ref xo), (1, .int td)]) hx hb dX6_endDay_54 hl (k := 1) rfl (by decide) (by decide) rfl (fun ls hl => ?_)
  refine lv_goto (tgt := 11) hx hb dX6_endDay_57 (by decide) ?_
  refine lv_iload hx hb dX6_endDay_11 (lv_at hl 0 rfl) ?_
  refine lv_iload_n hx hb dX6_endDay_13 rfl (lv_at hl 2 rfl) ?_
  refine lv_icmp_ge (tgt := 60) hx hb dX6_endDay_14 (by decide) (fun cc => absurd cc (by decide)) (fun _ => ?_)
  refine lv_aload_n hx hb dX6_endDay_17 rfl (lv_at hl 3 rfl) ?_
  refine lv_iload hx hb dX6_endDay_18 (lv_at hl 0 rfl) ?_
  refine va_aldq (D := D) (cl := vwCl) hx hb hK hP 1 0 rfl rfl (vp_in_nI (n := 9) (N := 16) (by decide) (by decide)) dX6_endDay_20 ?_
  refine W.eq (g2 := F0 m 21 ls [.null]) rfl ?_
  refine lv_astoreN (lv' := [(5, .null), (4, .int 9), (3, .int 16), (2, .ref xq), (0, .ref xo), (1, .int td)]) hx hb dX6_endDay_21 hl (by decide) rfl (fun ls hl => ?_)
  refine lv_aloadN hx hb dX6_endDay_23 (lv_at hl 0 rfl) ?_
  refine lv_ifnullN (tgt := 54) hx hb dX6_endDay_25 (by decide) ?_
  obtain ⟨x_40, ex_40⟩ : ∃ y : Int32, y = 9 + 1 := ⟨_, rfl⟩
  have ex_40 : x_40 = 10 := ex_40.trans (by decide)
  subst ex_40
  refine lv_iinc (v := 10) (lv' := [(4, .int 10), (5, .null), (3, .int 16), (2, .ref xq), (0, .ref xo), (1, .int td)]) hx hb dX6_endDay_54 hl (k := 1) rfl (by decide) (by decide) rfl (fun ls hl => ?_)
  refine lv_goto (tgt := 11) hx hb dX6_endDay_57 (by decide) ?_
  refine lv_iload hx hb dX6_endDay_11 (lv_at hl 0 rfl) ?_
  refine lv_iload_n hx hb dX6_endDay_13 rfl (lv_at hl 2 rfl) ?_
  refine lv_icmp_ge (tgt := 60) hx hb dX6_endDay_14 (by decide) (fun cc => absurd cc (by decide)) (fun _ => ?_)
  refine lv_aload_n hx hb dX6_endDay_17 rfl (lv_at hl 3 rfl) ?_
  refine lv_iload hx hb dX6_endDay_18 (lv_at hl 0 rfl) ?_
  refine va_aldq (D := D) (cl := vwCl) hx hb hK hP 1 0 rfl rfl (vp_in_nI (n := 10) (N := 16) (by decide) (by decide)) dX6_endDay_20 ?_
  refine W.eq (g2 := F0 m 21 ls [.null]) rfl ?_
  refine lv_astoreN (lv' := [(5, .null), (4, .int 10), (3, .int 16), (2, .ref xq), (0, .ref xo), (1, .int td)]) hx hb dX6_endDay_21 hl (by decide) rfl (fun ls hl => ?_)
  refine lv_aloadN hx hb dX6_endDay_23 (lv_at hl 0 rfl) ?_
  refine lv_ifnullN (tgt := 54) hx hb dX6_endDay_25 (by decide) ?_
  obtain ⟨x_41, ex_41⟩ : ∃ y : Int32, y = 10 + 1 := ⟨_, rfl⟩
  have ex_41 : x_41 = 11 := ex_41.trans (by decide)
  subst ex_41
  refine lv_iinc (v := 11) (lv' := [(4, .int 11), (5, .null), (3, .int 16), (2, .ref xq), (0, .ref xo), (1, .int td)]) hx hb dX6_endDay_54 hl (k := 1) rfl (by decide) (by decide) rfl (fun ls hl => ?_)
  refine lv_goto (tgt := 11) hx hb dX6_endDay_57 (by decide) ?_
  refine lv_iload hx hb dX6_endDay_11 (lv_at hl 0 rfl) ?_
  refine lv_iload_n hx hb dX6_endDay_13 rfl (lv_at hl 2 rfl) ?_
  refine lv_icmp_ge (tgt := 60) hx hb dX6_endDay_14 (by decide) (fun cc => absurd cc (by decide)) (fun _ => ?_)
  refine lv_aload_n hx hb dX6_endDay_17 rfl (lv_at hl 3 rfl) ?_
  refine lv_iload hx hb dX6_endDay_18 (lv_at hl 0 rfl) ?_
  refine va_aldq (D := D) (cl := vwCl) hx hb hK hP 1 0 rfl rfl (vp_in_nI (n := 11) (N := 16) (by decide) (by decide)) dX6_endDay_20 ?_
  refine W.eq (g2 := F0 m 21 ls [.null]) rfl ?_
  refine lv_astoreN (lv' := [(5, .null), (4, .int 11), (3, .int 16), (2, .ref xq), (0, .ref xo), (1, .int td)]) hx hb dX6_endDay_21 hl (by decide) rfl (fun ls hl => ?_)
  refine lv_aloadN hx hb dX6_endDay_23 (lv_at hl 0 rfl) ?_
  refine lv_ifnullN (tgt := 54) hx hb dX6_endDay_25 (by decide) ?_
  obtain ⟨x_42, ex_42⟩ : ∃ y : Int32, y = 11 + 1 := ⟨_, rfl⟩
  have ex_42 : x_42 = 12 := ex_42.trans (by decide)
  subst ex_42
  refine lv_iinc (v := 12) (lv' := [(4, .int 12), (5, .null), (3, .int 16), (2, .ref xq), (0, .ref xo), (1, .int td)]) hx hb dX6_endDay_54 hl (k := 1) rfl (by decide) (by decide) rfl (fun ls hl => ?_)
  refine lv_goto (tgt := 11) hx hb dX6_endDay_57 (by decide) ?_
  refine lv_iload hx hb dX6_endDay_11 (lv_at hl 0 rfl) ?_
  refine lv_iload_n hx hb dX6_endDay_13 rfl (lv_at hl 2 rfl) ?_
  refine lv_icmp_ge (tgt := 60) hx hb dX6_endDay_14 (by decide) (fun cc => absurd cc (by decide)) (fun _ => ?_)
  refine lv_aload_n hx hb dX6_endDay_17 rfl (lv_at hl 3 rfl) ?_
  refine lv_iload hx hb dX6_endDay_18 (lv_at hl 0 rfl) ?_
  refine va_aldq (D := D) (cl := vwCl) hx hb hK hP 1 0 rfl rfl (vp_in_nI (n := 12) (N := 16) (by decide) (by decide)) dX6_endDay_20 ?_
  refine W.eq (g2 := F0 m 21 ls [.null]) rfl ?_
  refine lv_astoreN (lv' := [(5, .null), (4, .int 12), (3, .int 16), (2, .ref xq), (0, .ref xo), (1, .int td)]) hx hb dX6_endDay_21 hl (by decide) rfl (fun ls hl => ?_)
  refine lv_aloadN hx hb dX6_endDay_23 (lv_at hl 0 rfl) ?_
  refine lv_ifnullN (tgt := 54) hx hb dX6_endDay_25 (by decide) ?_
  obtain ⟨x_43, ex_43⟩ : ∃ y : Int32, y = 12 + 1 := ⟨_, rfl⟩
  have ex_43 : x_43 = 13 := ex_43.trans (by decide)
  subst ex_43
  refine lv_iinc (v := 13) (lv' := [(4, .int 13), (5, .null), (3, .int 16), (2, .ref xq), (0, .ref xo), (1, .int td)]) hx hb dX6_endDay_54 hl (k := 1) rfl (by decide) (by decide) rfl (fun ls hl => ?_)
  refine lv_goto (tgt := 11) hx hb dX6_endDay_57 (by decide) ?_
  refine lv_iload hx hb dX6_endDay_11 (lv_at hl 0 rfl) ?_
  refine lv_iload_n hx hb dX6_endDay_13 rfl (lv_at hl 2 rfl) ?_
  refine lv_icmp_ge (tgt := 60) hx hb dX6_endDay_14 (by decide) (fun cc => absurd cc (by decide)) (fun _ => ?_)
  refine lv_aload_n hx hb dX6_endDay_17 rfl (lv_at hl 3 rfl) ?_
  refine lv_iload hx hb dX6_endDay_18 (lv_at hl 0 rfl) ?_
  refine va_aldq (D := D) (cl := vwCl) hx hb hK hP 1 0 rfl rfl (vp_in_nI (n := 13) (N := 16) (by decide) (by decide)) dX6_endDay_20 ?_
  refine W.eq (g2 := F0 m 21 ls [.null]) rfl ?_
  refine lv_astoreN (lv' := [(5, .null), (4, .int 13), (3, .int 16), (2, .ref xq), (0, .ref xo), (1, .int td)]) hx hb dX6_endDay_21 hl (by decide) rfl (fun ls hl => ?_)
  refine lv_aloadN hx hb dX6_endDay_23 (lv_at hl 0 rfl) ?_
  refine lv_ifnullN (tgt := 54) hx hb dX6_endDay_25 (by decide) ?_
  obtain ⟨x_44, ex_44⟩ : ∃ y : Int32, y = 13 + 1 := ⟨_, rfl⟩
  have ex_44 : x_44 = 14 := ex_44.trans (by decide)
  subst ex_44
  refine lv_iinc (v := 14) (lv' := [(4, .int 14), (5, .null), (3, .int 16), (2, .ref xq), (0, .ref xo), (1, .int td)]) hx hb dX6_endDay_54 hl (k := 1) rfl (by decide) (by decide) rfl (fun ls hl => ?_)
  refine lv_goto (tgt := 11) hx hb dX6_endDay_57 (by decide) ?_
  refine lv_iload hx hb dX6_endDay_11 (lv_at hl 0 rfl) ?_
  refine lv_iload_n hx hb dX6_endDay_13 rfl (lv_at hl 2 rfl) ?_
  refine lv_icmp_ge (tgt := 60) hx hb dX6_endDay_14 (by decide) (fun cc => absurd cc (by decide)) (fun _ => ?_)
  refine lv_aload_n hx hb dX6_endDay_17 rfl (lv_at hl 3 rfl) ?_
  refine lv_iload hx hb dX6_endDay_18 (lv_at hl 0 rfl) ?_
  refine va_aldq (D := D) (cl := vwCl) hx hb hK hP 1 0 rfl rfl (vp_in_nI (n := 14) (N := 16) (by decide) (by decide)) dX6_endDay_20 ?_
  refine W.eq (g2 := F0 m 21 ls [.null]) rfl ?_
  refine lv_astoreN (lv' := [(5, .null), (4, .int 14), (3, .int 16), (2, .ref xq), (0, .ref xo), (1, .int td)]) hx hb dX6_endDay_21 hl (by decide) rfl (fun ls hl => ?_)
  refine lv_aloadN hx hb dX6_endDay_23 (lv_at hl 0 rfl) ?_
  refine lv_ifnullN (tgt := 54) hx hb dX6_endDay_25 (by decide) ?_
  obtain ⟨x_45, ex_45⟩ : ∃ y : Int32, y = 14 + 1 := ⟨_, rfl⟩
  have ex_45 : x_45 = 15 := ex_45.trans (by decide)
  subst ex_45
  refine lv_iinc (v := 15) (lv' := [(4, .int 15), (5, .null), (3, .int 16), (2, .ref xq), (0, .ref xo), (1, .int td)]) hx hb dX6_endDay_54 hl (k := 1) rfl (by decide) (by decide) rfl (fun ls hl => ?_)
  refine lv_goto (tgt := 11) hx hb dX6_endDay_57 (by decide) ?_
  refine lv_iload hx hb dX6_endDay_11 (lv_at hl 0 rfl) ?_
  refine lv_iload_n hx hb dX6_endDay_13 rfl (lv_at hl 2 rfl) ?_
  refine lv_icmp_ge (tgt := 60) hx hb dX6_endDay_14 (by decide) (fun cc => absurd cc (by decide)) (fun _ => ?_)
  refine lv_aload_n hx hb dX6_endDay_17 rfl (lv_at hl 3 rfl) ?_
  refine lv_iload hx hb dX6_endDay_18 (lv_at hl 0 rfl) ?_
  refine va_aldq (D := D) (cl := vwCl) hx hb hK hP 1 0 rfl rfl (vp_in_nI (n := 15) (N := 16) (by decide) (by decide)) dX6_endDay_20 ?_
  refine W.eq (g2 := F0 m 21 ls [.null]) rfl ?_
  refine lv_astoreN (lv' := [(5, .null), (4, .int 15), (3, .int 16), (2, .ref xq), (0, .ref xo), (1, .int td)]) hx hb dX6_endDay_21 hl (by decide) rfl (fun ls hl => ?_)
  refine lv_aloadN hx hb dX6_endDay_23 (lv_at hl 0 rfl) ?_
  refine lv_ifnullN (tgt := 54) hx hb dX6_endDay_25 (by decide) ?_
  obtain ⟨x_46, ex_46⟩ : ∃ y : Int32, y = 15 + 1 := ⟨_, rfl⟩
  have ex_46 : x_46 = 16 := ex_46.trans (by decide)
  subst ex_46
  refine lv_iinc (v := 16) (lv' := [(4, .int 16), (5, .null), (3, .int 16), (2, .ref xq), (0, .ref xo), (1, .int td)]) hx hb dX6_endDay_54 hl (k := 1) rfl (by decide) (by decide) rfl (fun ls hl => ?_)
  refine lv_goto (tgt := 11) hx hb dX6_endDay_57 (by decide) ?_
  refine lv_iload hx hb dX6_endDay_11 (lv_at hl 0 rfl) ?_
  refine lv_iload_n hx hb dX6_endDay_13 rfl (lv_at hl 2 rfl) ?_
  refine lv_icmp_ge (tgt := 60) hx hb dX6_endDay_14 (by decide) (fun _ => ?_) (fun cc => absurd (by decide) cc)
  exact W.vret hx hb hr (fun t ht hW => ⟨rfl, trivial, ht⟩) (fun q h => by cases h) dX6_endDay_60
theorem zgU_X6 : (u_ws RX6 TX6 16).all goodWord = true := by decide +kernel
theorem zgU_X4 : (u_ws RX4 TX4 2).all goodWord = true := by decide +kernel
theorem dX6_checkTeamRests_0 : decode cX6_checkTeamRests 0 = .ok (.aload_n 0, 1) := by decide +kernel
theorem dX6_checkTeamRests_1 : decode cX6_checkTeamRests 1 = .ok (.bipush 112, 2) := by decide +kernel
theorem dX6_checkTeamRests_3 : decode cX6_checkTeamRests 3 = .ok (.invokevirtual 274, 3) := by decide +kernel
theorem dX6_checkTeamRests_6 : decode cX6_checkTeamRests 6 = .ok (.ifCond .le 14, 3) := by decide +kernel
theorem dX6_checkTeamRests_20 : decode cX6_checkTeamRests 20 = .ok (.aload_n 0, 1) := by decide +kernel
theorem dX6_checkTeamRests_21 : decode cX6_checkTeamRests 21 = .ok (.getfield 40, 3) := by decide +kernel
theorem dX6_checkTeamRests_24 : decode cX6_checkTeamRests 24 = .ok (.invokevirtual 147, 3) := by decide +kernel
theorem dX6_checkTeamRests_27 : decode cX6_checkTeamRests 27 = .ok (.ifCond .ne 33, 3) := by decide +kernel
theorem dX6_checkTeamRests_30 : decode cX6_checkTeamRests 30 = .ok (.aload_n 0, 1) := by decide +kernel
theorem dX6_checkTeamRests_31 : decode cX6_checkTeamRests 31 = .ok (.getfield 44, 3) := by decide +kernel
theorem dX6_checkTeamRests_34 : decode cX6_checkTeamRests 34 = .ok (.invokevirtual 147, 3) := by decide +kernel
theorem dX6_checkTeamRests_37 : decode cX6_checkTeamRests 37 = .ok (.ifCond .ne 23, 3) := by decide +kernel
theorem dX6_checkTeamRests_40 : decode cX6_checkTeamRests 40 = .ok (.aload_n 0, 1) := by decide +kernel
theorem dX6_checkTeamRests_41 : decode cX6_checkTeamRests 41 = .ok (.getfield 47, 3) := by decide +kernel
theorem dX6_checkTeamRests_44 : decode cX6_checkTeamRests 44 = .ok (.invokevirtual 147, 3) := by decide +kernel
theorem dX6_checkTeamRests_47 : decode cX6_checkTeamRests 47 = .ok (.ifCond .ne 13, 3) := by decide +kernel
theorem dX6_checkTeamRests_50 : decode cX6_checkTeamRests 50 = .ok (.aload_n 0, 1) := by decide +kernel
theorem dX6_checkTeamRests_51 : decode cX6_checkTeamRests 51 = .ok (.getfield 50, 3) := by decide +kernel
theorem dX6_checkTeamRests_54 : decode cX6_checkTeamRests 54 = .ok (.invokevirtual 147, 3) := by decide +kernel
theorem dX6_checkTeamRests_57 : decode cX6_checkTeamRests 57 = .ok (.ifCond .eq 14, 3) := by decide +kernel
theorem dX6_checkTeamRests_71 : decode cX6_checkTeamRests 71 = .ok (.return_, 1) := by decide +kernel
def wzEX6_checkTeamRests : List Cond := [.code yX6_checkTeamRests cX6_checkTeamRests 1 none, .methodLink RX6 274 yX6_countOf, .instanceMethod yX6_countOf, .selects RX6 yX6_countOf yX6_countOf, .initialized RX6, .code yX6_countOf cX6_countOf 7 (some .int), .fieldLink RX6 30 "Gatherhouse" "pieces" "[LGatherhouse$Piece;", .fieldLink RX6 40 "Gatherhouse" "gatherer" "LGatherhouse$Role;", .code yX4_isBusy cX4_isBusy 1 (some .boolean), .fieldLink RX4 7 "Gatherhouse$Role" "busy" "I", .initialized RX4, .instanceMethod yX4_isBusy, .selects RX4 yX4_isBusy yX4_isBusy, .fieldLink RX6 44 "Gatherhouse" "servitor" "LGatherhouse$Role;", .fieldLink RX6 47 "Gatherhouse" "gaffer" "LGatherhouse$Role;", .fieldLink RX6 50 "Gatherhouse" "boy" "LGatherhouse$Role;"]
def wzX6_checkTeamRests : List Cond := wzEX6_checkTeamRests ++ (u_ws RX6 TX6 16 ++ (u_ws RX4 TX4 2))
theorem zgEX6_checkTeamRests : wzEX6_checkTeamRests.all goodWord = true := by decide +kernel
theorem zuX6_checkTeamRests_X6 : ∀ w ∈ u_ws RX6 TX6 16, w ∈ wzX6_checkTeamRests := (fun _ h => (List.mem_append_right _ (List.mem_append_left _ h)))
theorem zuX6_checkTeamRests_X4 : ∀ w ∈ u_ws RX4 TX4 2, w ∈ wzX6_checkTeamRests := (fun _ h => (List.mem_append_right _ (List.mem_append_right _ h)))
theorem gzX6_checkTeamRests_X6_countOf_274 : GoodIn wzX6_checkTeamRests (wsV RX6 274 RX6 yX6_countOf wzX6_countOf) := (goodIn_app (z_lift (goodIn_r _ [1, 2, 3, 4] rfl (by decide +kernel))) (goodIn_app (z_lift (goodIn_r wzEX6_countOf [5, 6] rfl zgEX6_countOf)) (goodIn_sub (fun _ h => (List.mem_append_right _ (List.mem_append_left _ h))) zgU_X6)))
theorem gzX6_checkTeamRests_X4_isBusy_147 : GoodIn wzX6_checkTeamRests (wzX4_isBusy) := (goodIn_app (z_lift (goodIn_r wzEX4_isBusy [8, 9] rfl zgEX4_isBusy)) (goodIn_sub (fun _ h => (List.mem_append_right _ (List.mem_append_right _ h))) zgU_X4))
set_option maxHeartbeats 4000000 in
set_option maxRecDepth 100000 in
theorem zc_X6_checkTeamRests (l : Launch) (D : va_G) (G : Nat × Nat × (Nat → Int32)) (xo : Nat) (xg : Nat) (gc : Int32) (xp : Nat) (pc : Int32) (xq : Nat) (qc : Int32) (r1 : Nat) (r2 : Nat) (r3 : Nat) (r4 : Nat) (se : Nat) (ts : Int32) (hou : Int32) (dr : Int32) (su : Int32) (br : Int32) (cq : ClassId) (p1 : Int32) (p2 : Int32) (p3 : Int32) (p4 : Int32) : Met l yX6_checkTeamRests wzX6_checkTeamRests ({ frames := 1, cells := 0, slots := 0, locals := 26 }) (va_Pc [.ref xo] (p_RO D G [(cq, .object "Gatherhouse$Piece")] [(xo, .inr (6, [.ref xg, .int gc, .ref xp, .int pc, .ref xq, .int qc, .ref r1, .ref r2, .ref r3, .ref r4, .ref se, .int ts, .int hou, .int dr, .int su, .int br])), (xq, .inl (cq, 16, .inr (.inr (.inr (.inr (zq [none, none, none, none, none, none, none, none, none, none, none, none, none, none, none, none])))))), (r1, .inr (4, [.int 0, .int p1])), (r2, .inr (4, [.int 0, .int p2])), (r3, .inr (4, [.int 0, .int p3])), (r4, .inr (4, [.int 0, .int p4]))])) (va_Sv (fun _ => True)) 0 0 (fun _ => False) := by
  refine Met.ofW (cc := cX6_checkTeamRests) (maxL := 1) (ret := none) (by decide) rfl ?_
  intro p e s m args below meth c s₁ B hml hv
  obtain ⟨rfl, hP, hK, hT⟩ := hv
  have hx := B.exec
  have hb := B.bytes
  have hr := B.returns
  have hts := atoms_spec (ws := wzX6_checkTeamRests) B.pre
  have hown : s.vm.findClass RX6 = some m.cls := findClass_of_methodNamed B.named
  have hlocks := B.notSynchronized
  have hl := lv_entry ([.ref xo]) (n := 1) (Nat.le_of_ble_eq_true rfl)
  rw [lg_entry_eq]
  generalize (lg_sl ([.ref xo]) ++ List.replicate (1 - (lg_sl ([.ref xo])).length) Slot.unset).toArray = ls at hl ⊢
  have hl : lv_has ls 1 [(0, .ref xo)] := hl
  refine lv_aload_n hx hb dX6_checkTeamRests_0 rfl (lv_at hl 0 rfl) ?_
  refine lv_bipush (v := 112) hx hb dX6_checkTeamRests_1 (by decide) ?_
  refine vp_callSi (va_runV (As := [.int 112]) (rest := []) ⟨hx, hb, hml, hown, hts⟩ (zc_X6_countOf l D G xo 112 xg gc xp pc xq qc r1 r2 r3 r4 se ts hou dr su br cq) (cwV 1 hts gzX6_checkTeamRests_X6_countOf_274 rfl rfl rfl (by decide +kernel) ⟨(Nat.le_of_ble_eq_true rfl), (Nat.le_of_ble_eq_true rfl)⟩) ⟨p_RO_blind, va_recv hK hP (ci := 6) (q0 := 0) rfl rfl, (p_RO_at (tc := [(cq, .object "Gatherhouse$Piece")]) (wc := [(xo, .inr (6, [.ref xg, .int gc, .ref xp, .int pc, .ref xq, .int qc, .ref r1, .ref r2, .ref r3, .ref r4, .ref se, .int ts, .int hou, .int dr, .int su, .int br])), (xq, .inl (cq, 16, .inr (.inr (.inr (.inr (zq [none, none, none, none, none, none, none, none, none, none, none, none, none, none, none, none]))))))]) hP hK hT [0, 1] [0] rfl rfl [.ref xo, .int 112])⟩ rfl rfl hl.1 rfl (lv_room (Nat.le_of_ble_eq_true rfl)) dX6_checkTeamRests_3 ⟨(Nat.le_of_ble_eq_true rfl), (Nat.le_of_ble_eq_true rfl)⟩).run (fun r_47 w_48 => ?_)
  obtain rfl := w_48
  refine lv_if_le (tgt := 20) hx hb dX6_checkTeamRests_6 (by decide) (fun _ => ?_) (fun cc => absurd (by decide) cc)
  refine lv_aload_n hx hb dX6_checkTeamRests_20 rfl (lv_at hl 0 rfl) ?_
  refine va_get (D := D) (cl := vwCl) (ci := 6) (v := .ref r1) (C := RX6) (T := TX6) (N := 16) hx hb hts zuX6_checkTeamRests_X6 hown hK hP 0 rfl rfl 6 (by decide) (hts (.fieldLink RX6 40 "Gatherhouse" "gatherer" "LGatherhouse$Role;") (by decide +kernel)) (fun _ h9 => h9) rfl dX6_checkTeamRests_21 ?_
  refine vp_callSi (va_runVN (As := []) (rest := []) ⟨hx, hb, hml, hown, hts⟩ (zc_X4_isBusy l D G r1 p1) ⟨va_cnB 0 hts gzX6_checkTeamRests_X4_isBusy_147 rfl rfl rfl (hT.1 ("Gatherhouse", 147, ⟨"Gatherhouse$Role", "isBusy", "()Z"⟩, "Gatherhouse") (by decide +kernel)) (hts (.initialized RX4) (by decide +kernel)) (by decide +kernel) ⟨(Nat.le_of_ble_eq_true rfl), (Nat.le_of_ble_eq_true rfl)⟩, (hts (.instanceMethod yX4_isBusy) (by decide +kernel)), (hts (.selects RX4 yX4_isBusy yX4_isBusy) (by decide +kernel))⟩ ⟨p_RO_blind, va_recv hK hP (ci := 4) (q0 := 2) rfl rfl, (p_RO_at (tc := []) (wc := [(r1, .inr (4, [.int 0, .int p1]))]) hP hK hT [2] [] rfl rfl [.ref r1])⟩ rfl rfl hl.1 rfl (lv_room (Nat.le_of_ble_eq_true rfl)) dX6_checkTeamRests_24 ⟨(Nat.le_of_ble_eq_true rfl), (Nat.le_of_ble_eq_true rfl)⟩).run (fun r_49 w_50 => ?_)
  obtain rfl := w_50
  refine lv_if_ne (tgt := 60) hx hb dX6_checkTeamRests_27 (by decide) (fun cc => absurd (by decide) cc) (fun _ => ?_)
  refine lv_aload_n hx hb dX6_checkTeamRests_30 rfl (lv_at hl 0 rfl) ?_
  refine va_get (D := D) (cl := vwCl) (ci := 6) (v := .ref r2) (C := RX6) (T := TX6) (N := 16) hx hb hts zuX6_checkTeamRests_X6 hown hK hP 0 rfl rfl 7 (by decide) (hts (.fieldLink RX6 44 "Gatherhouse" "servitor" "LGatherhouse$Role;") (by decide +kernel)) (fun _ h9 => h9) rfl dX6_checkTeamRests_31 ?_
  refine vp_callSi (va_runVN (As := []) (rest := []) ⟨hx, hb, hml, hown, hts⟩ (zc_X4_isBusy l D G r2 p2) ⟨va_cnB 0 hts gzX6_checkTeamRests_X4_isBusy_147 rfl rfl rfl (hT.1 ("Gatherhouse", 147, ⟨"Gatherhouse$Role", "isBusy", "()Z"⟩, "Gatherhouse") (by decide +kernel)) (hts (.initialized RX4) (by decide +kernel)) (by decide +kernel) ⟨(Nat.le_of_ble_eq_true rfl), (Nat.le_of_ble_eq_true rfl)⟩, (hts (.instanceMethod yX4_isBusy) (by decide +kernel)), (hts (.selects RX4 yX4_isBusy yX4_isBusy) (by decide +kernel))⟩ ⟨p_RO_blind, va_recv hK hP (ci := 4) (q0 := 3) rfl rfl, (p_RO_at (tc := []) (wc := [(r2, .inr (4, [.int 0, .int p2]))]) hP hK hT [3] [] rfl rfl [.ref r2])⟩ rfl rfl hl.1 rfl (lv_room (Nat.le_of_ble_eq_true rfl)) dX6_checkTeamRests_34 ⟨(Nat.le_of_ble_eq_true rfl), (Nat.le_of_ble_eq_true rfl)⟩).run (fun r_51 w_52 => ?_)
  obtain rfl := w_52
  refine lv_if_ne (tgt := 60) hx hb dX6_checkTeamRests_37 (by decide) (fun cc => absurd (by decide) cc) (fun _ => ?_)
  refine lv_aload_n hx hb dX6_checkTeamRests_40 rfl (lv_at hl 0 rfl) ?_
  refine va_get (D := D) (cl := vwCl) (ci := 6) (v := .ref r3) (C := RX6) (T := TX6) (N := 16) hx hb hts zuX6_checkTeamRests_X6 hown hK hP 0 rfl rfl 8 (by decide) (hts (.fieldLink RX6 47 "Gatherhouse" "gaffer" "LGatherhouse$Role;") (by decide +kernel)) (fun _ h9 => h9) rfl dX6_checkTeamRests_41 ?_
  refine vp_callSi (va_runVN (As := []) (rest := []) ⟨hx, hb, hml, hown, hts⟩ (zc_X4_isBusy l D G r3 p3) ⟨va_cnB 0 hts gzX6_checkTeamRests_X4_isBusy_147 rfl rfl rfl (hT.1 ("Gatherhouse", 147, ⟨"Gatherhouse$Role", "isBusy", "()Z"⟩, "Gatherhouse") (by decide +kernel)) (hts (.initialized RX4) (by decide +kernel)) (by decide +kernel) ⟨(Nat.le_of_ble_eq_true rfl), (Nat.le_of_ble_eq_true rfl)⟩, (hts (.instanceMethod yX4_isBusy) (by decide +kernel)), (hts (.selects RX4 yX4_isBusy yX4_isBusy) (by decide +kernel))⟩ ⟨p_RO_blind, va_recv hK hP (ci := 4) (q0 := 4) rfl rfl, (p_RO_at (tc := []) (wc := [(r3, .inr (4, [.int 0, .int p3]))]) hP hK hT [4] [] rfl rfl [.ref r3])⟩ rfl rfl hl.1 rfl (lv_room (Nat.le_of_ble_eq_true rfl)) dX6_checkTeamRests_44 ⟨(Nat.le_of_ble_eq_true rfl), (Nat.le_of_ble_eq_true rfl)⟩).run (fun r_53 w_54 => ?_)
  obtain rfl := w_54
  refine lv_if_ne (tgt := 60) hx hb dX6_checkTeamRests_47 (by decide) (fun cc => absurd (by decide) cc) (fun _ => ?_)
  refine lv_aload_n hx hb dX6_checkTeamRests_50 rfl (lv_at hl 0 rfl) ?_
  refine va_get (D := D) (cl := vwCl) (ci := 6) (v := .ref r4) (C := RX6) (T := TX6) (N := 16) hx hb hts zuX6_checkTeamRests_X6 hown hK hP 0 rfl rfl 9 (by decide) (hts (.fieldLink RX6 50 "Gatherhouse" "boy" "LGatherhouse$Role;") (by decide +kernel)) (fun _ h9 => h9) rfl dX6_checkTeamRests_51 ?_
  refine vp_callSi (va_runVN (As := []) (rest := []) ⟨hx, hb, hml, hown, hts⟩ (zc_X4_isBusy l D G r4 p4) ⟨va_cnB 0 hts gzX6_checkTeamRests_X4_isBusy_147 rfl rfl rfl (hT.1 ("Gatherhouse", 147, ⟨"Gatherhouse$Role", "isBusy", "()Z"⟩, "Gatherhouse") (by decide +kernel)) (hts (.initialized RX4) (by decide +kernel)) (by decide +kernel) ⟨(Nat.le_of_ble_eq_true rfl), (Nat.le_of_ble_eq_true rfl)⟩, (hts (.instanceMethod yX4_isBusy) (by decide +kernel)), (hts (.selects RX4 yX4_isBusy yX4_isBusy) (by decide +kernel))⟩ ⟨p_RO_blind, va_recv hK hP (ci := 4) (q0 := 5) rfl rfl, (p_RO_at (tc := []) (wc := [(r4, .inr (4, [.int 0, .int p4]))]) hP hK hT [5] [] rfl rfl [.ref r4])⟩ rfl rfl hl.1 rfl (lv_room (Nat.le_of_ble_eq_true rfl)) dX6_checkTeamRests_54 ⟨(Nat.le_of_ble_eq_true rfl), (Nat.le_of_ble_eq_true rfl)⟩).run (fun r_55 w_56 => ?_)
  obtain rfl := w_56
  refine lv_if_eq (tgt := 71) hx hb dX6_checkTeamRests_57 (by decide) (fun _ => ?_) (fun cc => absurd (by decide) cc)
  exact W.vret hx hb hr (fun t ht hW => ⟨rfl, trivial, ht⟩) (fun q h => by cases h) dX6_checkTeamRests_71
