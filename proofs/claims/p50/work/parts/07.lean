theorem zgU_X5 : (u_ws RX5 TX5 7).all goodWord = true := by decide +kernel
theorem dX6_init_0 : decode cX6_init 0 = .ok (.aload_n 0, 1) := by decide +kernel
theorem dX6_init_1 : decode cX6_init 1 = .ok (.invokespecial 1, 3) := by decide +kernel
theorem dX6_init_4 : decode cX6_init 4 = .ok (.aload_n 0, 1) := by decide +kernel
theorem dX6_init_5 : decode cX6_init 5 = .ok (.bipush 6, 2) := by decide +kernel
theorem dX6_init_7 : decode cX6_init 7 = .ok (.anewarray 9, 3) := by decide +kernel
theorem dX6_init_10 : decode cX6_init 10 = .ok (.putfield 11, 3) := by decide +kernel
theorem dX6_init_13 : decode cX6_init 13 = .ok (.aload_n 0, 1) := by decide +kernel
theorem dX6_init_14 : decode cX6_init 14 = .ok (.iconst 0, 1) := by decide +kernel
theorem dX6_init_15 : decode cX6_init 15 = .ok (.putfield 15, 3) := by decide +kernel
theorem dX6_init_18 : decode cX6_init 18 = .ok (.aload_n 0, 1) := by decide +kernel
theorem dX6_init_19 : decode cX6_init 19 = .ok (.iconst 4, 1) := by decide +kernel
theorem dX6_init_20 : decode cX6_init 20 = .ok (.anewarray 19, 3) := by decide +kernel
theorem dX6_init_23 : decode cX6_init 23 = .ok (.putfield 21, 3) := by decide +kernel
theorem dX6_init_26 : decode cX6_init 26 = .ok (.aload_n 0, 1) := by decide +kernel
theorem dX6_init_27 : decode cX6_init 27 = .ok (.iconst 0, 1) := by decide +kernel
theorem dX6_init_28 : decode cX6_init 28 = .ok (.putfield 25, 3) := by decide +kernel
theorem dX6_init_31 : decode cX6_init 31 = .ok (.aload_n 0, 1) := by decide +kernel
theorem dX6_init_32 : decode cX6_init 32 = .ok (.bipush 16, 2) := by decide +kernel
theorem dX6_init_34 : decode cX6_init 34 = .ok (.anewarray 28, 3) := by decide +kernel
theorem dX6_init_37 : decode cX6_init 37 = .ok (.putfield 30, 3) := by decide +kernel
theorem dX6_init_40 : decode cX6_init 40 = .ok (.aload_n 0, 1) := by decide +kernel
theorem dX6_init_41 : decode cX6_init 41 = .ok (.iconst 0, 1) := by decide +kernel
theorem dX6_init_42 : decode cX6_init 42 = .ok (.putfield 34, 3) := by decide +kernel
theorem dX6_init_45 : decode cX6_init 45 = .ok (.aload_n 0, 1) := by decide +kernel
theorem dX6_init_46 : decode cX6_init 46 = .ok (.new 37, 3) := by decide +kernel
theorem dX6_init_49 : decode cX6_init 49 = .ok (.dup, 1) := by decide +kernel
theorem dX6_init_50 : decode cX6_init 50 = .ok (.invokespecial 39, 3) := by decide +kernel
theorem dX6_init_53 : decode cX6_init 53 = .ok (.putfield 40, 3) := by decide +kernel
theorem dX6_init_56 : decode cX6_init 56 = .ok (.aload_n 0, 1) := by decide +kernel
theorem dX6_init_57 : decode cX6_init 57 = .ok (.new 37, 3) := by decide +kernel
theorem dX6_init_60 : decode cX6_init 60 = .ok (.dup, 1) := by decide +kernel
theorem dX6_init_61 : decode cX6_init 61 = .ok (.invokespecial 39, 3) := by decide +kernel
theorem dX6_init_64 : decode cX6_init 64 = .ok (.putfield 44, 3) := by decide +kernel
theorem dX6_init_67 : decode cX6_init 67 = .ok (.aload_n 0, 1) := by decide +kernel
theorem dX6_init_68 : decode cX6_init 68 = .ok (.new 37, 3) := by decide +kernel
theorem dX6_init_71 : decode cX6_init 71 = .ok (.dup, 1) := by decide +kernel
theorem dX6_init_72 : decode cX6_init 72 = .ok (.invokespecial 39, 3) := by decide +kernel
theorem dX6_init_75 : decode cX6_init 75 = .ok (.putfield 47, 3) := by decide +kernel
theorem dX6_init_78 : decode cX6_init 78 = .ok (.aload_n 0, 1) := by decide +kernel
theorem dX6_init_79 : decode cX6_init 79 = .ok (.new 37, 3) := by decide +kernel
theorem dX6_init_82 : decode cX6_init 82 = .ok (.dup, 1) := by decide +kernel
theorem dX6_init_83 : decode cX6_init 83 = .ok (.invokespecial 39, 3) := by decide +kernel
theorem dX6_init_86 : decode cX6_init 86 = .ok (.putfield 50, 3) := by decide +kernel
theorem dX6_init_89 : decode cX6_init 89 = .ok (.aload_n 0, 1) := by decide +kernel
theorem dX6_init_90 : decode cX6_init 90 = .ok (.new 53, 3) := by decide +kernel
theorem dX6_init_93 : decode cX6_init 93 = .ok (.dup, 1) := by decide +kernel
theorem dX6_init_94 : decode cX6_init 94 = .ok (.invokespecial 55, 3) := by decide +kernel
theorem dX6_init_97 : decode cX6_init 97 = .ok (.putfield 56, 3) := by decide +kernel
theorem dX6_init_100 : decode cX6_init 100 = .ok (.aload_n 0, 1) := by decide +kernel
theorem dX6_init_101 : decode cX6_init 101 = .ok (.iconst 0, 1) := by decide +kernel
theorem dX6_init_102 : decode cX6_init 102 = .ok (.putfield 60, 3) := by decide +kernel
theorem dX6_init_105 : decode cX6_init 105 = .ok (.aload_n 0, 1) := by decide +kernel
theorem dX6_init_106 : decode cX6_init 106 = .ok (.iconst 0, 1) := by decide +kernel
theorem dX6_init_107 : decode cX6_init 107 = .ok (.putfield 63, 3) := by decide +kernel
theorem dX6_init_110 : decode cX6_init 110 = .ok (.aload_n 0, 1) := by decide +kernel
theorem dX6_init_111 : decode cX6_init 111 = .ok (.bipush 40, 2) := by decide +kernel
theorem dX6_init_113 : decode cX6_init 113 = .ok (.putfield 66, 3) := by decide +kernel
theorem dX6_init_116 : decode cX6_init 116 = .ok (.aload_n 0, 1) := by decide +kernel
theorem dX6_init_117 : decode cX6_init 117 = .ok (.iconst 0, 1) := by decide +kernel
theorem dX6_init_118 : decode cX6_init 118 = .ok (.putfield 69, 3) := by decide +kernel
theorem dX6_init_121 : decode cX6_init 121 = .ok (.aload_n 0, 1) := by decide +kernel
theorem dX6_init_122 : decode cX6_init 122 = .ok (.iconst 0, 1) := by decide +kernel
theorem dX6_init_123 : decode cX6_init 123 = .ok (.putfield 72, 3) := by decide +kernel
theorem dX6_init_126 : decode cX6_init 126 = .ok (.return_, 1) := by decide +kernel
def wzEX6_init : List Cond := [.code yX6_init cX6_init 1 none, .methodLink RX6 1 objectInit, .instanceMethod objectInit, .code objectInit ⟨#[0xb1]⟩ 1 none, .classLink RX6 9 RX0, .fieldLink RX6 11 "Gatherhouse" "glasses" "[LGatherhouse$Glass;", .fieldLink RX6 15 "Gatherhouse" "glassCount" "I", .classLink RX6 19 RX2, .fieldLink RX6 21 "Gatherhouse" "pots" "[LGatherhouse$Pot;", .fieldLink RX6 25 "Gatherhouse" "potCount" "I", .classLink RX6 28 RX1, .fieldLink RX6 30 "Gatherhouse" "pieces" "[LGatherhouse$Piece;", .fieldLink RX6 34 "Gatherhouse" "pieceCount" "I", .classLink RX6 37 RX4, .instantiable RX4 2, .initialized RX4, .code yX4_init cX4_init 1 none, .methodLink RX4 1 objectInit, .fieldLink RX4 7 "Gatherhouse$Role" "busy" "I", .fieldLink RX4 13 "Gatherhouse$Role" "paid" "I", .instanceMethod yX4_init, .fieldLink RX6 40 "Gatherhouse" "gatherer" "LGatherhouse$Role;", .fieldLink RX6 44 "Gatherhouse" "servitor" "LGatherhouse$Role;", .fieldLink RX6 47 "Gatherhouse" "gaffer" "LGatherhouse$Role;", .fieldLink RX6 50 "Gatherhouse" "boy" "LGatherhouse$Role;", .classLink RX6 53 RX5, .instantiable RX5 7, .initialized RX5, .code yX5_init cX5_init 1 none, .methodLink RX5 3 objectInit, .arrayClass .int, .fieldLink RX5 9 "Gatherhouse$SetSearch" "numbers" "[I", .fieldLink RX5 15 "Gatherhouse$SetSearch" "heights" "[I", .fieldLink RX5 18 "Gatherhouse$SetSearch" "masses" "[I", .fieldLink RX5 21 "Gatherhouse$SetSearch" "size" "I", .fieldLink RX5 25 "Gatherhouse$SetSearch" "bestApart" "I", .fieldLink RX5 28 "Gatherhouse$SetSearch" "bestMass" "I", .fieldLink RX5 31 "Gatherhouse$SetSearch" "bestChoice" "I", .instanceMethod yX5_init, .fieldLink RX6 56 "Gatherhouse" "search" "LGatherhouse$SetSearch;", .fieldLink RX6 60 "Gatherhouse" "secondsGone" "I", .fieldLink RX6 63 "Gatherhouse" "hoursGone" "I", .fieldLink RX6 66 "Gatherhouse" "dropAnHour" "I", .fieldLink RX6 69 "Gatherhouse" "sumOfSales" "I", .fieldLink RX6 72 "Gatherhouse" "brokenLater" "I"]
def wzX6_init : List Cond := wzEX6_init ++ (u_ws RX6 TX6 16 ++ (u_ws RX4 TX4 2 ++ (u_ws RX5 TX5 7)))
theorem zgEX6_init : wzEX6_init.all goodWord = true := by decide +kernel
theorem zuX6_init_X6 : ∀ w ∈ u_ws RX6 TX6 16, w ∈ wzX6_init := (fun _ h => (List.mem_append_right _ (List.mem_append_left _ h)))
theorem zuX6_init_X4 : ∀ w ∈ u_ws RX4 TX4 2, w ∈ wzX6_init := (fun _ h => (List.mem_append_right _ (List.mem_append_right _ (List.mem_append_left _ h))))
theorem zuX6_init_X5 : ∀ w ∈ u_ws RX5 TX5 7, w ∈ wzX6_init := (fun _ h => (List.mem_append_right _ (List.mem_append_right _ (List.mem_append_right _ h))))
theorem gzX6_init_X4_init_39 : GoodIn wzX6_init (wzX4_init) := (goodIn_app (z_lift (goodIn_r wzEX4_init [16, 17, 2, 3, 18, 19] rfl zgEX4_init)) (goodIn_sub (fun _ h => (List.mem_append_right _ (List.mem_append_right _ (List.mem_append_left _ h)))) zgU_X4))
theorem gzX6_init_X5_init_55 : GoodIn wzX6_init (wzX5_init) := (goodIn_app (z_lift (goodIn_r wzEX5_init [28, 29, 2, 3, 30, 31, 32, 33, 34, 35, 36, 37] rfl zgEX5_init)) (goodIn_sub (fun _ h => (List.mem_append_right _ (List.mem_append_right _ (List.mem_append_right _ h)))) zgU_X5))
set_option maxHeartbeats 4000000 in
set_option maxRecDepth 100000 in
theorem zc_X6_init (l : Launch) (D : va_G) (G : Nat × Nat × (Nat → Int32)) (xo : Nat) (sz : Nat) : Met l yX6_init wzX6_init ({ frames := 2, cells := 11, slots := 89, locals := 32 }) (va_Pc [.ref xo] (p_RW D G [] [(xo, .inr (6, [.null, .int 0, .null, .int 0, .null, .int 0, .null, .null, .null, .null, .null, .int 0, .int 0, .int 0, .int 0, .int 0]))] sz)) (va_Qv (fun (u : Unit) => True) (fun (u : Unit) (t : State) => ∃ (xg : Nat) (xp : Nat) (xq : Nat) (r1 : Nat) (r2 : Nat) (r3 : Nat) (r4 : Nat) (se : Nat) (n1 : Nat) (n2 : Nat) (n3 : Nat) (cg : ClassId) (cp : ClassId) (cq : ClassId), q_RW D [(cg, .object "Gatherhouse$Glass"), (cp, .object "Gatherhouse$Pot"), (cq, .object "Gatherhouse$Piece")] [(xo, .inr (6, [.ref xg, .int 0, .ref xp, .int 0, .ref xq, .int 0, .ref r1, .ref r2, .ref r3, .ref r4, .ref se, .int 0, .int 0, .int 40, .int 0, .int 0])), (xg, .inl (cg, 6, .inr (.inr (.inr (.inr (zq [none, none, none, none, none, none])))))), (xp, .inl (cp, 4, .inr (.inr (.inr (.inr (zq [none, none, none, none])))))), (xq, .inl (cq, 16, .inr (.inr (.inr (.inr (zq [none, none, none, none, none, none, none, none, none, none, none, none, none, none, none, none])))))), (r1, .inr (4, [.int 0, .int 0])), (r2, .inr (4, [.int 0, .int 0])), (r3, .inr (4, [.int 0, .int 0])), (r4, .inr (4, [.int 0, .int 0])), (se, .inr (5, [.ref n1, .ref n2, .ref n3, .int 0, .int 0, .int 0, .int 0]))] (va_A [(xo, .inr (6, [.null, .int 0, .null, .int 0, .null, .int 0, .null, .null, .null, .null, .null, .int 0, .int 0, .int 0, .int 0, .int 0]))] sz) t) (va_A [(xo, .inr (6, [.null, .int 0, .null, .int 0, .null, .int 0, .null, .null, .null, .null, .null, .int 0, .int 0, .int 0, .int 0, .int 0]))] sz)) 11 89 (va_A [(xo, .inr (6, [.null, .int 0, .null, .int 0, .null, .int 0, .null, .null, .null, .null, .null, .int 0, .int 0, .int 0, .int 0, .int 0]))] sz) := by
  refine Met.ofW (cc := cX6_init) (maxL := 1) (ret := none) (by decide) rfl ?_
  intro p e s m args below meth c s₁ B hml hv
  obtain ⟨rfl, hsz, hP, hK, hD0, hT, hZ⟩ := hv
  have hx := B.exec
  have hb := B.bytes
  have hr := B.returns
  have hts := atoms_spec (ws := wzX6_init) B.pre
  have hown : s.vm.findClass RX6 = some m.cls := findClass_of_methodNamed B.named
  have hlocks := B.notSynchronized
  have hin : meth.name = "<init>" := (name_of_methodNamed B.named B.method).1
  subst hsz
  have hD := hD0.self (sz := s.heap.size)
  generalize hAe : va_A [(xo, .inr (6, [.null, .int 0, .null, .int 0, .null, .int 0, .null, .null, .null, .null, .null, .int 0, .int 0, .int 0, .int 0, .int 0]))] s.heap.size = A at hD hZ ⊢
  have hA : ∀ q : Nat, s.heap.size ≤ q → A q := fun q h => by rw [← hAe]; exact Or.inr h
  have hS : va_S A s.heap s.heap [] := va_S.rf
  have hl := lv_entry ([.ref xo]) (n := 1) (Nat.le_of_ble_eq_true rfl)
  rw [lg_entry_eq]
  generalize (lg_sl ([.ref xo]) ++ List.replicate (1 - (lg_sl ([.ref xo])).length) Slot.unset).toArray = ls at hl ⊢
  have hl : lv_has ls 1 [(0, .ref xo)] := hl
  refine lv_aload_n hx hb dX6_init_0 rfl (lv_at hl 0 rfl) ?_
  refine W.objInit hx hb hown (hts (.methodLink RX6 1 objectInit) (by decide +kernel)) (hts (.instanceMethod objectInit) (by decide +kernel)) (hts (.code objectInit ⟨#[0xb1]⟩ 1 none) (by decide +kernel)) rfl (by rw [hml]; exact hl.1) rfl dX6_init_1 (Nat.le_of_ble_eq_true rfl) (Nat.le_of_ble_eq_true rfl) ?_
  refine W.eq (g2 := F0 m 4 ls []) rfl ?_
  refine lv_aload_n hx hb dX6_init_4 rfl (lv_at hl 0 rfl) ?_
  refine lv_bipush (v := 6) hx hb dX6_init_5 (by decide) ?_
  refine va_newq (D := D) (cl := vwCl) (N' := 6) hx hb hown (hts (.classLink RX6 9 RX0) (by decide +kernel)) (hT.2.2.2.2.1 "Gatherhouse$Glass" (by decide +kernel)) hK hP hD hS hA (by decide) (by decide) (by decide) (Nat.le_of_ble_eq_true rfl) (Nat.le_of_ble_eq_true rfl) dX6_init_7 (fun o_57 cA_58 H hK hP hD hS => ?_)
  have hP : va_P D vwCl [(xo, .inr (6, [.null, .int 0, .null, .int 0, .null, .int 0, .null, .null, .null, .null, .null, .int 0, .int 0, .int 0, .int 0, .int 0])), (o_57, .inl (cA_58, 6, .inr (.inr (.inr (.inr (zq [none, none, none, none, none, none]))))))] H := by have h9 := hP; rw [zq_new 6] at h9; exact h9
  have hD : va_D A [(xo, .inr (6, [.null, .int 0, .null, .int 0, .null, .int 0, .null, .null, .null, .null, .null, .int 0, .int 0, .int 0, .int 0, .int 0])), (o_57, .inl (cA_58, 6, .inr (.inr (.inr (.inr (zq [none, none, none, none, none, none]))))))] := by have h9 := hD; rw [zq_new 6] at h9; exact h9
  have hP : va_P D vwCl [(xo, .inr (6, [.null, .int 0, .null, .int 0, .null, .int 0, .null, .null, .null, .null, .null, .int 0, .int 0, .int 0, .int 0, .int 0])), (o_57, .inl (cA_58, 6, .inr (.inr (.inr (.inr (zq [none, none, none, none, none, none]))))))] H := hP
  have hD : va_D A [(xo, .inr (6, [.null, .int 0, .null, .int 0, .null, .int 0, .null, .null, .null, .null, .null, .int 0, .int 0, .int 0, .int 0, .int 0])), (o_57, .inl (cA_58, 6, .inr (.inr (.inr (.inr (zq [none, none, none, none, none, none]))))))] := hD
  have hK : va_K D vwCl [(cA_58, .object "Gatherhouse$Glass")] s := hK
  refine W.widen (k := 1) (n := 6) (Nat.le_of_ble_eq_true rfl) (Nat.le_of_ble_eq_true rfl) ?_
  refine va_putF (D := D) (cl := vwCl) (ci := 6) (v := .ref o_57) (ty := (.array (.object "Gatherhouse$Glass"))) (C := RX6) (T := TX6) (N := 16) hx hb hts zuX6_init_X6 tyX6 tyX6_ok nmX6 hown hK hP hD hS 0 rfl rfl 0 (by decide) (hts (.fieldLink RX6 11 "Gatherhouse" "glasses" "[LGatherhouse$Glass;") (by decide +kernel)) (fun _ h9 => h9) rfl hin rfl (by decide +kernel) rfl rfl (Nat.le_of_ble_eq_true rfl) dX6_init_10 (fun H locs hP hD hS => ?_)
  have hP : va_P D vwCl [(xo, .inr (6, [.ref o_57, .int 0, .null, .int 0, .null, .int 0, .null, .null, .null, .null, .null, .int 0, .int 0, .int 0, .int 0, .int 0])), (o_57, .inl (cA_58, 6, .inr (.inr (.inr (.inr (zq [none, none, none, none, none, none]))))))] H := hP
  have hD : va_D A [(xo, .inr (6, [.ref o_57, .int 0, .null, .int 0, .null, .int 0, .null, .null, .null, .null, .null, .int 0, .int 0, .int 0, .int 0, .int 0])), (o_57, .inl (cA_58, 6, .inr (.inr (.inr (.inr (zq [none, none, none, none, none, none]))))))] := hD
  refine lv_aload_n hx hb dX6_init_13 rfl (lv_at hl 0 rfl) ?_
  refine lv_iconst (v := 0) hx hb dX6_init_14 (by decide) ?_
  refine va_put (D := D) (cl := vwCl) (ci := 6) (v := .int 0) (ty := .int) (C := RX6) (T := TX6) (N := 16) hx hb hts zuX6_init_X6 tyX6 tyX6_ok nmX6 hown hK hP hD hS 0 rfl rfl 1 (by decide) (hts (.fieldLink RX6 15 "Gatherhouse" "glassCount" "I") (by decide +kernel)) (fun _ h9 => h9) rfl (by decide +kernel) rfl rfl (Nat.le_of_ble_eq_true rfl) dX6_init_15 (fun H locs hP hD hS => ?_)
  have hP : va_P D vwCl [(xo, .inr (6, [.ref o_57, .int 0, .null, .int 0, .null, .int 0, .null, .null, .null, .null, .null, .int 0, .int 0, .int 0, .int 0, .int 0])), (o_57, .inl (cA_58, 6, .inr (.inr (.inr (.inr (zq [none, none, none, none, none, none]))))))] H := hP
  have hD : va_D A [(xo, .inr (6, [.ref o_57, .int 0, .null, .int 0, .null, .int 0, .null, .null, .null, .null, .null, .int 0, .int 0, .int 0, .int 0, .int 0])), (o_57, .inl (cA_58, 6, .inr (.inr (.inr (.inr (zq [none, none, none, none, none, none]))))))] := hD
  refine lv_aload_n hx hb dX6_init_18 rfl (lv_at hl 0 rfl) ?_
  refine lv_iconst (v := 4) hx hb dX6_init_19 (by decide) ?_
  refine va_newq (D := D) (cl := vwCl) (N' := 4) hx hb hown (hts (.classLink RX6 19 RX2) (by decide +kernel)) (hT.2.2.2.2.1 "Gatherhouse$Pot" (by decide +kernel)) hK hP hD hS hA (by decide) (by decide) (by decide) (Nat.le_of_ble_eq_true rfl) (Nat.le_of_ble_eq_true rfl) dX6_init_20 (fun o_59 cA_60 H hK hP hD hS => ?_)
  have hP : va_P D vwCl [(xo, .inr (6, [.ref o_57, .int 0, .null, .int 0, .null, .int 0, .null, .null, .null, .null, .null, .int 0, .int 0, .int 0, .int 0, .int 0])), (o_57, .inl (cA_58, 6, .inr (.inr (.inr (.inr (zq [none, none, none, none, none, none])))))), (o_59, .inl (cA_60, 4, .inr (.inr (.inr (.inr (zq [none, none, none, none]))))))] H := by have h9 := hP; rw [zq_new 4] at h9; exact h9
  have hD : va_D A [(xo, .inr (6, [.ref o_57, .int 0, .null, .int 0, .null, .int 0, .null, .null, .null, .null, .null, .int 0, .int 0, .int 0, .int 0, .int 0])), (o_57, .inl (cA_58, 6, .inr (.inr (.inr (.inr (zq [none, none, none, none, none, none])))))), (o_59, .inl (cA_60, 4, .inr (.inr (.inr (.inr (zq [none, none, none, none]))))))] := by have h9 := hD; rw [zq_new 4] at h9; exact h9
  have hP : va_P D vwCl [(xo, .inr (6, [.ref o_57, .int 0, .null, .int 0, .null, .int 0, .null, .null, .null, .null, .null, .int 0, .int 0, .int 0, .int 0, .int 0])), (o_57, .inl (cA_58, 6, .inr (.inr (.inr (.inr (zq [none, none, none, none, none, none])))))), (o_59, .inl (cA_60, 4, .inr (.inr (.inr (.inr (zq [none, none, none, none]))))))] H := hP
  have hD : va_D A [(xo, .inr (6, [.ref o_57, .int 0, .null, .int 0, .null, .int 0, .null, .null, .null, .null, .null, .int 0, .int 0, .int 0, .int 0, .int 0])), (o_57, .inl (cA_58, 6, .inr (.inr (.inr (.inr (zq [none, none, none, none, none, none])))))), (o_59, .inl (cA_60, 4, .inr (.inr (.inr (.inr (zq [none, none, none, none]))))))] := hD
  have hK : va_K D vwCl [(cA_58, .object "Gatherhouse$Glass"), (cA_60, .object "Gatherhouse$Pot")] s := hK
  refine W.widen (k := 2) (n := 10) (Nat.le_of_ble_eq_true rfl) (Nat.le_of_ble_eq_true rfl) ?_
  refine va_putF (D := D) (cl := vwCl) (ci := 6) (v := .ref o_59) (ty := (.array (.object "Gatherhouse$Pot"))) (C := RX6) (T := TX6) (N := 16) hx hb hts zuX6_init_X6 tyX6 tyX6_ok nmX6 hown hK hP hD hS 0 rfl rfl 2 (by decide) (hts (.fieldLink RX6 21 "Gatherhouse" "pots" "[LGatherhouse$Pot;") (by decide +kernel)) (fun _ h9 => h9) rfl hin rfl (by decide +kernel) rfl rfl (Nat.le_of_ble_eq_true rfl) dX6_init_23 (fun H locs hP hD hS => ?_)
  have hP : va_P D vwCl [(xo, .inr (6, [.ref o_57, .int 0, .ref o_59, .int 0, .null, .int 0, .null, .null, .null, .null, .null, .int 0, .int 0, .int 0, .int 0, .int 0])), (o_57, .inl (cA_58, 6, .inr (.inr (.inr (.inr (zq [none, none, none, none, none, none])))))), (o_59, .inl (cA_60, 4, .inr (.inr (.inr (.inr (zq [none, none, none, none]))))))] H := hP
  have hD : va_D A [(xo, .inr (6, [.ref o_57, .int 0, .ref o_59, .int 0, .null, .int 0, .null, .null, .null, .null, .null, .int 0, .int 0, .int 0, .int 0, .int 0])), (o_57, .inl (cA_58, 6, .inr (.inr (.inr (.inr (zq [none, none, none, none, none, none])))))), (o_59, .inl (cA_60, 4, .inr (.inr (.inr (.inr (zq [none, none, none, none]))))))] := hD
  refine lv_aload_n hx hb dX6_init_26 rfl (lv_at hl 0 rfl) ?_
  refine lv_iconst (v := 0) hx hb dX6_init_27 (by decide) ?_
  refine va_put (D := D) (cl := vwCl) (ci := 6) (v := .int 0) (ty := .int) (C := RX6) (T := TX6) (N := 16) hx hb hts zuX6_init_X6 tyX6 tyX6_ok nmX6 hown hK hP hD hS 0 rfl rfl 3 (by decide) (hts (.fieldLink RX6 25 "Gatherhouse" "potCount" "I") (by decide +kernel)) (fun _ h9 => h9) rfl (by decide +kernel) rfl rfl (Nat.le_of_ble_eq_true rfl) dX6_init_28 (fun H locs hP hD hS => ?_)
  have hP : va_P D vwCl [(xo, .inr (6, [.ref o_57, .int 0, .ref o_59, .int 0, .null, .int 0, .null, .null, .null, .null, .null, .int 0, .int 0, .int 0, .int 0, .int 0])), (o_57, .inl (cA_58, 6, .inr (.inr (.inr (.inr (zq [none, none, none, none, none, none])))))), (o_59, .inl (cA_60, 4, .inr (.inr (.inr (.inr (zq [none, none, none, none]))))))] H := hP
  have hD : va_D A [(xo, .inr (6, [.ref o_57, .int 0, .ref o_59, .int 0, .null, .int 0, .null, .null, .null, .null, .null, .int 0, .int 0, .int 0, .int 0, .int 0])), (o_57, .inl (cA_58, 6, .inr (.inr (.inr (.inr (zq [none, none, none, none, none, none])))))), (o_59, .inl (cA_60, 4, .inr (.inr (.inr (.inr (zq [none, none, none, none]))))))] := hD
  refine lv_aload_n hx hb dX6_init_31 rfl (lv_at hl 0 rfl) ?_
  refine lv_bipush (v := 16) hx hb dX6_init_32 (by decide) ?_
  refine va_newq (D := D) (cl := vwCl) (N' := 16) hx hb hown (hts (.classLink RX6 28 RX1) (by decide +kernel)) (hT.2.2.2.2.1 "Gatherhouse$Piece" (by decide +kernel)) hK hP hD hS hA (by decide) (by decide) (by decide) (Nat.le_of_ble_eq_true rfl) (Nat.le_of_ble_eq_true rfl) dX6_init_34 (fun o_61 cA_62 H hK hP hD hS => ?_)
  have hP : va_P D vwCl [(xo, .inr (6, [.ref o_57, .int 0, .ref o_59, .int 0, .null, .int 0, .null, .null, .null, .null, .null, .int 0, .int 0, .int 0, .int 0, .int 0])), (o_57, .inl (cA_58, 6, .inr (.inr (.inr (.inr (zq [none, none, none, none, none, none])))))), (o_59, .inl (cA_60, 4, .inr (.inr (.inr (.inr (zq [none, none, none, none])))))), (o_61, .inl (cA_62, 16, .inr (.inr (.inr (.inr (zq [none, none, none, none, none, none, none, none, none, none, none, none, none, none, none, none]))))))] H := by have h9 := hP; rw [zq_new 16] at h9; exact h9
  have hD : va_D A [(xo, .inr (6, [.ref o_57, .int 0, .ref o_59, .int 0, .null, .int 0, .null, .null, .null, .null, .null, .int 0, .int 0, .int 0, .int 0, .int 0])), (o_57, .inl (cA_58, 6, .inr (.inr (.inr (.inr (zq [none, none, none, none, none, none])))))), (o_59, .inl (cA_60, 4, .inr (.inr (.inr (.inr (zq [none, none, none, none])))))), (o_61, .inl (cA_62, 16, .inr (.inr (.inr (.inr (zq [none, none, none, none, none, none, none, none, none, none, none, none, none, none, none, none]))))))] := by have h9 := hD; rw [zq_new 16] at h9; exact h9
  have hP : va_P D vwCl [(xo, .inr (6, [.ref o_57, .int 0, .ref o_59, .int 0, .null, .int 0, .null, .null, .null, .null, .null, .int 0, .int 0, .int 0, .int 0, .int 0])), (o_57, .inl (cA_58, 6, .inr (.inr (.inr (.inr (zq [none, none, none, none, none, none])))))), (o_59, .inl (cA_60, 4, .inr (.inr (.inr (.inr (zq [none, none, none, none])))))), (o_61, .inl (cA_62, 16, .inr (.inr (.inr (.inr (zq [none, none, none, none, none, none, none, none, none, none, none, none, none, none, none, none]))))))] H := hP
  have hD : va_D A [(xo, .inr (6, [.ref o_57, .int 0, .ref o_59, .int 0, .null, .int 0, .null, .null, .null, .null, .null, .int 0, .int 0, .int 0, .int 0, .int 0])), (o_57, .inl (cA_58, 6, .inr (.inr (.inr (.inr (zq [none, none, none, none, none, none])))))), (o_59, .inl (cA_60, 4, .inr (.inr (.inr (.inr (zq [none, none, none, none])))))), (o_61, .inl (cA_62, 16, .inr (.inr (.inr (.inr (zq [none, none, none, none, none, none, none, none, none, none, none, none, none, none, none, none]))))))] := hD
  have hK : va_K D vwCl [(cA_58, .object "Gatherhouse$Glass"), (cA_60, .object "Gatherhouse$Pot"), (cA_62, .object "Gatherhouse$Piece")] s := hK
  refine W.widen (k := 3) (n := 26) (Nat.le_of_ble_eq_true rfl) (Nat.le_of_ble_eq_true rfl) ?_
  refine va_putF (D := D) (cl := vwCl) (ci := 6) (v := .ref o_61) (ty := (.array (.object "Gatherhouse$Piece"))) (C := RX6) (T := TX6) (N := 16) hx hb hts zuX6_init_X6 tyX6 tyX6_ok nmX6 hown hK hP hD hS 0 rfl rfl 4 (by decide) (hts (.fieldLink RX6 30 "Gatherhouse" "pieces" "[LGatherhouse$Piece;") (by decide +kernel)) (fun _ h9 => h9) rfl hin rfl (by decide +kernel) rfl rfl (Nat.le_of_ble_eq_true rfl) dX6_init_37 (fun H locs hP hD hS => ?_)
  have hP : va_P D vwCl [(xo, .inr (6, [.ref o_57, .int 0, .ref o_59, .int 0, .ref o_61, .int 0, .null, .null, .null, .null, .null, .int 0, .int 0, .int 0, .int 0, .int 0])), (o_57, .inl (cA_58, 6, .inr (.inr (.inr (.inr (zq [none, none, none, none, none, none])))))), (o_59, .inl (cA_60, 4, .inr (.inr (.inr (.inr (zq [none, none, none, none])))))), (o_61, .inl (cA_62, 16, .inr (.inr (.inr (.inr (zq [none, none, none, none, none, none, none, none, none, none, none, none, none, none, none, none]))))))] H := hP
  have hD : va_D A [(xo, .inr (6, [.ref o_57, .int 0, .ref o_59, .int 0, .ref o_61, .int 0, .null, .null, .null, .null, .null, .int 0, .int 0, .int 0, .int 0, .int 0])), (o_57, .inl (cA_58, 6, .inr (.inr (.inr (.inr (zq [none, none, none, none, none, none])))))), (o_59, .inl (cA_60, 4, .inr (.inr (.inr (.inr (zq [none, none, none, none])))))), (o_61, .inl (cA_62, 16, .inr (.inr (.inr (.inr (zq [none, none, none, none, none, none, none, none, none, none, none, none, none, none, none, none]))))))] := hD
  refine lv_aload_n hx hb dX6_init_40 rfl (lv_at hl 0 rfl) ?_
  refine lv_iconst (v := 0) hx hb dX6_init_41 (by decide) ?_
  refine va_put (D := D) (cl := vwCl) (ci := 6) (v := .int 0) (ty := .int) (C := RX6) (T := TX6) (N := 16) hx hb hts zuX6_init_X6 tyX6 tyX6_ok nmX6 hown hK hP hD hS 0 rfl rfl 5 (by decide) (hts (.fieldLink RX6 34 "Gatherhouse" "pieceCount" "I") (by decide +kernel)) (fun _ h9 => h9) rfl (by decide +kernel) rfl rfl (Nat.le_of_ble_eq_true rfl) dX6_init_42 (fun H locs hP hD hS => ?_)
  have hP : va_P D vwCl [(xo, .inr (6, [.ref o_57, .int 0, .ref o_59, .int 0, .ref o_61, .int 0, .null, .null, .null, .null, .null, .int 0, .int 0, .int 0, .int 0, .int 0])), (o_57, .inl (cA_58, 6, .inr (.inr (.inr (.inr (zq [none, none, none, none, none, none])))))), (o_59, .inl (cA_60, 4, .inr (.inr (.inr (.inr (zq [none, none, none, none])))))), (o_61, .inl (cA_62, 16, .inr (.inr (.inr (.inr (zq [none, none, none, none, none, none, none, none, none, none, none, none, none, none, none, none]))))))] H := hP
  have hD : va_D A [(xo, .inr (6, [.ref o_57, .int 0, .ref o_59, .int 0, .ref o_61, .int 0, .null, .null, .null, .null, .null, .int 0, .int 0, .int 0, .int 0, .int 0])), (o_57, .inl (cA_58, 6, .inr (.inr (.inr (.inr (zq [none, none, none, none, none, none])))))), (o_59, .inl (cA_60, 4, .inr (.inr (.inr (.inr (zq [none, none, none, none])))))), (o_61, .inl (cA_62, 16, .inr (.inr (.inr (.inr (zq [none, none, none, none, none, none, none, none, none, none, none, none, none, none, none, none]))))))] := hD
  refine lv_aload_n hx hb dX6_init_45 rfl (lv_at hl 0 rfl) ?_
  refine va_new (D := D) (cl := vwCl) (ci := 4) (fs := [.int 0, .int 0]) (C := RX4) (T := TX4) (N := 2) hx hb hts zuX6_init_X4 tyX4 tyX4_ok hown (hts (.classLink RX6 37 RX4) (by decide +kernel)) (hts (.instantiable RX4 2) (by decide +kernel)) (hts (.initialized RX4) (by decide +kernel)) hK hP hD hS hA rfl (fun j hj => by rcases (show j = 0 ∨ j = 1 by omega) with rfl | rfl <;> rfl) (Nat.le_of_ble_eq_true rfl) (Nat.le_of_ble_eq_true rfl) dX6_init_46 (fun o_63 H hP hD hS => ?_)
  have hP : va_P D vwCl [(xo, .inr (6, [.ref o_57, .int 0, .ref o_59, .int 0, .ref o_61, .int 0, .null, .null, .null, .null, .null, .int 0, .int 0, .int 0, .int 0, .int 0])), (o_57, .inl (cA_58, 6, .inr (.inr (.inr (.inr (zq [none, none, none, none, none, none])))))), (o_59, .inl (cA_60, 4, .inr (.inr (.inr (.inr (zq [none, none, none, none])))))), (o_61, .inl (cA_62, 16, .inr (.inr (.inr (.inr (zq [none, none, none, none, none, none, none, none, none, none, none, none, none, none, none, none])))))), (o_63, .inr (4, [.int 0, .int 0]))] H := hP
  have hD : va_D A [(xo, .inr (6, [.ref o_57, .int 0, .ref o_59, .int 0, .ref o_61, .int 0, .null, .null, .null, .null, .null, .int 0, .int 0, .int 0, .int 0, .int 0])), (o_57, .inl (cA_58, 6, .inr (.inr (.inr (.inr (zq [none, none, none, none, none, none])))))), (o_59, .inl (cA_60, 4, .inr (.inr (.inr (.inr (zq [none, none, none, none])))))), (o_61, .inl (cA_62, 16, .inr (.inr (.inr (.inr (zq [none, none, none, none, none, none, none, none, none, none, none, none, none, none, none, none])))))), (o_63, .inr (4, [.int 0, .int 0]))] := hD
  refine W.widen (k := 4) (n := 28) (Nat.le_of_ble_eq_true rfl) (Nat.le_of_ble_eq_true rfl) ?_
  refine lv_dup hx hb dX6_init_49 rfl ?_
  have hFc := va_free (wc := [(o_63, .inr (4, [.int 0, .int 0]))]) hD hS hA [4] rfl
  refine va_callv (va_runIN (As := []) (rest := [.ref o_63, .ref xo]) ⟨hx, hb, hml, hown, hts⟩ (zc_X4_init l D G o_63 0 0 H.size) ⟨va_cnB 0 hts gzX6_init_X4_init_39 rfl rfl rfl (hT.1 ("Gatherhouse", 39, ⟨"Gatherhouse$Role", "<init>", "()V"⟩, "Gatherhouse") (by decide +kernel)) (hts (.initialized RX4) (by decide +kernel)) (by decide +kernel) ⟨(Nat.le_of_ble_eq_true rfl), (Nat.le_of_ble_eq_true rfl)⟩, rfl, (hts (.instanceMethod yX4_init) (by decide +kernel))⟩ ⟨p_RW_blind, (p_RW_at (tc := []) (wc := [(o_63, .inr (4, [.int 0, .int 0]))]) hP hK hD hS hA hT hZ [4] [] rfl rfl (by decide) rfl [.ref o_63])⟩ rfl rfl hl.1 rfl (lv_room (Nat.le_of_ble_eq_true rfl)) dX6_init_50 ⟨(Nat.le_of_ble_eq_true rfl), (Nat.le_of_ble_eq_true rfl)⟩) hS (fun q _ h => hFc q h) hFc (fun u t H locs ht hvm w_65 hB hz1 hk1 hS => ?_)
  obtain ⟨hP, hD, hK⟩ := q_join (D := D) (wc := [(o_63, .inr (4, [.int 0, .int 0]))]) (wr := [(xo, .inr (6, [.ref o_57, .int 0, .ref o_59, .int 0, .ref o_61, .int 0, .null, .null, .null, .null, .null, .int 0, .int 0, .int 0, .int 0, .int 0])), (o_57, .inl (cA_58, 6, .inr (.inr (.inr (.inr (zq [none, none, none, none, none, none])))))), (o_59, .inl (cA_60, 4, .inr (.inr (.inr (.inr (zq [none, none, none, none])))))), (o_61, .inl (cA_62, 16, .inr (.inr (.inr (.inr (zq [none, none, none, none, none, none, none, none, none, none, none, none, none, none, none, none]))))))]) (w1 := [(o_63, .inr (4, [.int 0, .int 0]))]) (tyr := [(cA_58, .object "Gatherhouse$Glass"), (cA_60, .object "Gatherhouse$Pot"), (cA_62, .object "Gatherhouse$Piece")]) (ty1 := []) hP hD hK [4] [0, 1, 2, 3] [0, 1, 2] rfl rfl (by decide) (by decide) rfl hFc hk1 ht hvm hB
  have hP : va_P D vwCl [(xo, .inr (6, [.ref o_57, .int 0, .ref o_59, .int 0, .ref o_61, .int 0, .null, .null, .null, .null, .null, .int 0, .int 0, .int 0, .int 0, .int 0])), (o_57, .inl (cA_58, 6, .inr (.inr (.inr (.inr (zq [none, none, none, none, none, none])))))), (o_59, .inl (cA_60, 4, .inr (.inr (.inr (.inr (zq [none, none, none, none])))))), (o_61, .inl (cA_62, 16, .inr (.inr (.inr (.inr (zq [none, none, none, none, none, none, none, none, none, none, none, none, none, none, none, none])))))), (o_63, .inr (4, [.int 0, .int 0]))] H := hP
  have hD : va_D A [(xo, .inr (6, [.ref o_57, .int 0, .ref o_59, .int 0, .ref o_61, .int 0, .null, .null, .null, .null, .null, .int 0, .int 0, .int 0, .int 0, .int 0])), (o_57, .inl (cA_58, 6, .inr (.inr (.inr (.inr (zq [none, none, none, none, none, none])))))), (o_59, .inl (cA_60, 4, .inr (.inr (.inr (.inr (zq [none, none, none, none])))))), (o_61, .inl (cA_62, 16, .inr (.inr (.inr (.inr (zq [none, none, none, none, none, none, none, none, none, none, none, none, none, none, none, none])))))), (o_63, .inr (4, [.int 0, .int 0]))] := hD
  have hK : va_K D vwCl [(cA_58, .object "Gatherhouse$Glass"), (cA_60, .object "Gatherhouse$Pot"), (cA_62, .object "Gatherhouse$Piece")] s := hK
  refine va_putF (D := D) (cl := vwCl) (ci := 6) (v := .ref o_63) (ty := (.object "Gatherhouse$Role")) (C := RX6) (T := TX6) (N := 16) hx hb hts zuX6_init_X6 tyX6 tyX6_ok nmX6 hown hK hP hD hS 0 rfl rfl 6 (by decide) (hts (.fieldLink RX6 40 "Gatherhouse" "gatherer" "LGatherhouse$Role;") (by decide +kernel)) (fun _ h9 => h9) rfl hin rfl (by decide +kernel) rfl rfl (Nat.le_of_ble_eq_true rfl) dX6_init_53 (fun H locs hP hD hS => ?_)
  have hP : va_P D vwCl [(xo, .inr (6, [.ref o_57, .int 0, .ref o_59, .int 0, .ref o_61, .int 0, .ref o_63, .null, .null, .null, .null, .int 0, .int 0, .int 0, .int 0, .int 0])), (o_57, .inl (cA_58, 6, .inr (.inr (.inr (.inr (zq [none, none, none, none, none, none])))))), (o_59, .inl (cA_60, 4, .inr (.inr (.inr (.inr (zq [none, none, none, none])))))), (o_61, .inl (cA_62, 16, .inr (.inr (.inr (.inr (zq [none, none, none, none, none, none, none, none, none, none, none, none, none, none, none, none])))))), (o_63, .inr (4, [.int 0, .int 0]))] H := hP
  have hD : va_D A [(xo, .inr (6, [.ref o_57, .int 0, .ref o_59, .int 0, .ref o_61, .int 0, .ref o_63, .null, .null, .null, .null, .int 0, .int 0, .int 0, .int 0, .int 0])), (o_57, .inl (cA_58, 6, .inr (.inr (.inr (.inr (zq [none, none, none, none, none, none])))))), (o_59, .inl (cA_60, 4, .inr (.inr (.inr (.inr (zq [none, none, none, none])))))), (o_61, .inl (cA_62, 16, .inr (.inr (.inr (.inr (zq [none, none, none, none, none, none, none, none, none, none, none, none, none, none, none, none])))))), (o_63, .inr (4, [.int 0, .int 0]))] := hD
  refine lv_aload_n hx hb dX6_init_56 rfl (lv_at hl 0 rfl) ?_
  refine va_new (D := D) (cl := vwCl) (ci := 4) (fs := [.int 0, .int 0]) (C := RX4) (T := TX4) (N := 2) hx hb hts zuX6_init_X4 tyX4 tyX4_ok hown (hts (.classLink RX6 37 RX4) (by decide +kernel)) (hts (.instantiable RX4 2) (by decide +kernel)) (hts (.initialized RX4) (by decide +kernel)) hK hP hD hS hA rfl (fun j hj => by rcases (show j = 0 ∨ j = 1 by omega) with rfl | rfl <;> rfl) (Nat.le_of_ble_eq_true rfl) (Nat.le_of_ble_eq_true rfl) dX6_init_57 (fun o_66 H hP hD hS => ?_)
  have hP : va_P D vwCl [(xo, .inr (6, [.ref o_57, .int 0, .ref o_59, .int 0, .ref o_61, .int 0, .ref o_63, .null, .null, .null, .null, .int 0, .int 0, .int 0, .int 0, .int 0])), (o_57, .inl (cA_58, 6, .inr (.inr (.inr (.inr (zq [none, none, none, none, none, none])))))), (o_59, .inl (cA_60, 4, .inr (.inr (.inr (.inr (zq [none, none, none, none])))))), (o_61, .inl (cA_62, 16, .inr (.inr (.inr (.inr (zq [none, none, none, none, none, none, none, none, none, none, none, none, none, none, none, none])))))), (o_63, .inr (4, [.int 0, .int 0])), (o_66, .inr (4, [.int 0, .int 0]))] H := hP
  have hD : va_D A [(xo, .inr (6, [.ref o_57, .int 0, .ref o_59, .int 0, .ref o_61, .int 0, .ref o_63, .null, .null, .null, .null, .int 0, .int 0, .int 0, .int 0, .int 0])), (o_57, .inl (cA_58, 6, .inr (.inr (.inr (.inr (zq [none, none, none, none, none, none])))))), (o_59, .inl (cA_60, 4, .inr (.inr (.inr (.inr (zq [none, none, none, none])))))), (o_61, .inl (cA_62, 16, .inr (.inr (.inr (.inr (zq [none, none, none, none, none, none, none, none, none, none, none, none, none, none, none, none])))))), (o_63, .inr (4, [.int 0, .int 0])), (o_66, .inr (4, [.int 0, .int 0]))] := hD
  refine W.widen (k := 5) (n := 30) (Nat.le_of_ble_eq_true rfl) (Nat.le_of_ble_eq_true rfl) ?_
  refine lv_dup hx hb dX6_init_60 rfl ?_
  have hFc := va_free (wc := [(o_66, .inr (4, [.int 0, .int 0]))]) hD hS hA [5] rfl
  refine va_callv (va_runIN (As := []) (rest := [.ref o_66, .ref xo]) ⟨hx, hb, hml, hown, hts⟩ (zc_X4_init l D G o_66 0 0 H.size) ⟨va_cnB 0 hts gzX6_init_X4_init_39 rfl rfl rfl (hT.1 ("Gatherhouse", 39, ⟨"Gatherhouse$Role", "<init>", "()V"⟩, "Gatherhouse") (by decide +kernel)) (hts (.initialized RX4) (by decide +kernel)) (by decide +kernel) ⟨(Nat.le_of_ble_eq_true rfl), (Nat.le_of_ble_eq_true rfl)⟩, rfl, (hts (.instanceMethod yX4_init) (by decide +kernel))⟩ ⟨p_RW_blind, (p_RW_at (tc := []) (wc := [(o_66, .inr (4, [.int 0, .int 0]))]) hP hK hD hS hA hT hZ [5] [] rfl rfl (by decide) rfl [.ref o_66])⟩ rfl rfl hl.1 rfl (lv_room (Nat.le_of_ble_eq_true rfl)) dX6_init_61 ⟨(Nat.le_of_ble_eq_true rfl), (Nat.le_of_ble_eq_true rfl)⟩) hS (fun q _ h => hFc q h) hFc (fun u t H locs ht hvm w_68 hB hz1 hk1 hS => ?_)
  obtain ⟨hP, hD, hK⟩ := q_join (D := D) (wc := [(o_66, .inr (4, [.int 0, .int 0]))]) (wr := [(xo, .inr (6, [.ref o_57, .int 0, .ref o_59, .int 0, .ref o_61, .int 0, .ref o_63, .null, .null, .null, .null, .int 0, .int 0, .int 0, .int 0, .int 0])), (o_57, .inl (cA_58, 6, .inr (.inr (.inr (.inr (zq [none, none, none, none, none, none])))))), (o_59, .inl (cA_60, 4, .inr (.inr (.inr (.inr (zq [none, none, none, none])))))), (o_61, .inl (cA_62, 16, .inr (.inr (.inr (.inr (zq [none, none, none, none, none, none, none, none, none, none, none, none, none, none, none, none])))))), (o_63, .inr (4, [.int 0, .int 0]))]) (w1 := [(o_66, .inr (4, [.int 0, .int 0]))]) (tyr := [(cA_58, .object "Gatherhouse$Glass"), (cA_60, .object "Gatherhouse$Pot"), (cA_62, .object "Gatherhouse$Piece")]) (ty1 := []) hP hD hK [5] [0, 1, 2, 3, 4] [0, 1, 2] rfl rfl (by decide) (by decide) rfl hFc hk1 ht hvm hB
  have hP : va_P D vwCl [(xo, .inr (6, [.ref o_57, .int 0, .ref o_59, .int 0, .ref o_61, .int 0, .ref o_63, .null, .null, .null, .null, .int 0, .int 0, .int 0, .int 0, .int 0])), (o_57, .inl (cA_58, 6, .inr (.inr (.inr (.inr (zq [none, none, none, none, none, none])))))), (o_59, .inl (cA_60, 4, .inr (.inr (.inr (.inr (zq [none, none, none, none])))))), (o_61, .inl (cA_62, 16, .inr (.inr (.inr (.inr (zq [none, none, none, none, none, none, none, none, none, none, none, none, none, none, none, none])))))), (o_63, .inr (4, [.int 0, .int 0])), (o_66, .inr (4, [.int 0, .int 0]))] H := hP
  have hD : va_D A [(xo, .inr (6, [.ref o_57, .int 0, .ref o_59, .int 0, .ref o_61, .int 0, .ref o_63, .null, .null, .null, .null, .int 0, .int 0, .int 0, .int 0, .int 0])), (o_57, .inl (cA_58, 6, .inr (.inr (.inr (.inr (zq [none, none, none, none, none, none])))))), (o_59, .inl (cA_60, 4, .inr (.inr (.inr (.inr (zq [none, none, none, none])))))), (o_61, .inl (cA_62, 16, .inr (.inr (.inr (.inr (zq [none, none, none, none, none, none, none, none, none, none, none, none, none, none, none, none])))))), (o_63, .inr (4, [.int 0, .int 0])), (o_66, .inr (4, [.int 0, .int 0]))] := hD
  have hK : va_K D vwCl [(cA_58, .object "Gatherhouse$Glass"), (cA_60, .object "Gatherhouse$Pot"), (cA_62, .object "Gatherhouse$Piece")] s := hK
  refine va_putF (D := D) (cl := vwCl) (ci := 6) (v := .ref o_66) (ty := (.object "Gatherhouse$Role")) (C := RX6) (T := TX6) (N := 16) hx hb hts zuX6_init_X6 tyX6 tyX6_ok nmX6 hown hK hP hD hS 0 rfl rfl 7 (by decide) (hts (.fieldLink RX6 44 "Gatherhouse" "servitor" "LGatherhouse$Role;") (by decide +kernel)) (fun _ h9 => h9) rfl hin rfl (by decide +kernel) rfl rfl (Nat.le_of_ble_eq_true rfl) dX6_init_64 (fun H locs hP hD hS => ?_)
  have hP : va_P D vwCl [(xo, .inr (6, [.ref o_57, .int 0, .ref o_59, .int 0, .ref o_61, .int 0, .ref o_63, .ref o_66, .null, .null, .null, .int 0, .int 0, .int 0, .int 0, .int 0])), (o_57, .inl (cA_58, 6, .inr (.inr (.inr (.inr (zq [none, none, none, none, none, none])))))), (o_59, .inl (cA_60, 4, .inr (.inr (.inr (.inr (zq [none, none, none, none])))))), (o_61, .inl (cA_62, 16, .inr (.inr (.inr (.inr (zq [none, none, none, none, none, none, none, none, none, none, none, none, none, none, none, none])))))), (o_63, .inr (4, [.int 0, .int 0])), (o_66, .inr (4, [.int 0, .int 0]))] H := hP
  have hD : va_D A [(xo, .inr (6, [.ref o_57, .int 0, .ref o_59, .int 0, .ref o_61, .int 0, .ref o_63, .ref o_66, .null, .null, .null, .int 0, .int 0, .int 0, .int 0, .int 0])), (o_57, .inl (cA_58, 6, .inr (.inr (.inr (.inr (zq [none, none, none, none, none, none])))))), (o_59, .inl (cA_60, 4, .inr (.inr (.inr (.inr (zq [none, none, none, none])))))), (o_61, .inl (cA_62, 16, .inr (.inr (.inr (.inr (zq [none, none, none, none, none, none, none, none, none, none, none, none, none, none, none, none])))))), (o_63, .inr (4, [.int 0, .int 0])), (o_66, .inr (4, [.int 0, .int 0]))] := hD
  refine lv_aload_n hx hb dX6_init_67 rfl (lv_at hl 0 rfl) ?_
  refine va_new (D := D) (cl := vwCl) (ci := 4) (fs := [.int 0, .int 0]) (C := RX4) (T := TX4) (N := 2) hx hb hts zuX6_init_X4 tyX4 tyX4_ok hown (hts (.classLink RX6 37 RX4) (by decide +kernel)) (hts (.instantiable RX4 2) (by decide +kernel)) (hts (.initialized RX4) (by decide +kernel)) hK hP hD hS hA rfl (fun j hj => by rcases (show j = 0 ∨ j = 1 by omega) with rfl | rfl <;> rfl) (Nat.le_of_ble_eq_true rfl) (Nat.le_of_ble_eq_true rfl) dX6_init_68 (fun o_69 H hP hD hS => ?_)
  have hP : va_P D vwCl [(xo, .inr (6, [.ref o_57, .int 0, .ref o_59, .int 0, .ref o_61, .int 0, .ref o_63, .ref o_66, .null, .null, .null, .int 0, .int 0, .int 0, .int 0, .int 0])), (o_57, .inl (cA_58, 6, .inr (.inr (.inr (.inr (zq [none, none, none, none, none, none])))))), (o_59, .inl (cA_60, 4, .inr (.inr (.inr (.inr (zq [none, none, none, none])))))), (o_61, .inl (cA_62, 16, .inr (.inr (.inr (.inr (zq [none, none, none, none, none, none, none, none, none, none, none, none, none, none, none, none])))))), (o_63, .inr (4, [.int 0, .int 0])), (o_66, .inr (4, [.int 0, .int 0])), (o_69, .inr (4, [.int 0, .int 0]))] H := hP
  have hD : va_D A [(xo, .inr (6, [.ref o_57, .int 0, .ref o_59, .int 0, .ref o_61, .int 0, .ref o_63, .ref o_66, .null, .null, .null, .int 0, .int 0, .int 0, .int 0, .int 0])), (o_57, .inl (cA_58, 6, .inr (.inr (.inr (.inr (zq [none, none, none, none, none, none])))))), (o_59, .inl (cA_60, 4, .inr (.inr (.inr (.inr (zq [none, none, none, none])))))), (o_61, .inl (cA_62, 16, .inr (.inr (.inr (.inr (zq [none, none, none, none, none, none, none, none, none, none, none, none, none, none, none, none])))))), (o_63, .inr (4, [.int 0, .int 0])), (o_66, .inr (4, [.int 0, .int 0])), (o_69, .inr (4, [.int 0, .int 0]))] := hD
  refine W.widen (k := 6) (n := 32) (Nat.le_of_ble_eq_true rfl) (Nat.le_of_ble_eq_true rfl) ?_
  refine lv_dup hx hb dX6_init_71 rfl ?_
  have hFc := va_free (wc := [(o_69, .inr (4, [.int 0, .int 0]))]) hD hS hA [6] rfl
  refine va_callv (va_runIN (As := []) (rest := [.ref o_69, .ref xo]) ⟨hx, hb, hml, hown, hts⟩ (zc_X4_init l D G o_69 0 0 H.size) ⟨va_cnB 0 hts gzX6_init_X4_init_39 rfl rfl rfl (hT.1 ("Gatherhouse", 39, ⟨"Gatherhouse$Role", "<init>", "()V"⟩, "Gatherhouse") (by decide +kernel)) (hts (.initialized RX4) (by decide +kernel)) (by decide +kernel) ⟨(Nat.le_of_ble_eq_true rfl), (Nat.le_of_ble_eq_true rfl)⟩, rfl, (hts (.instanceMethod yX4_init) (by decide +kernel))⟩ ⟨p_RW_blind, (p_RW_at (tc := []) (wc := [(o_69, .inr (4, [.int 0, .int 0]))]) hP hK hD hS hA hT hZ [6] [] rfl rfl (by decide) rfl [.ref o_69])⟩ rfl rfl hl.1 rfl (lv_room (Nat.le_of_ble_eq_true rfl)) dX6_init_72 ⟨(Nat.le_of_ble_eq_true rfl), (Nat.le_of_ble_eq_true rfl)⟩) hS (fun q _ h => hFc q h) hFc (fun u t H locs ht hvm w_71 hB hz1 hk1 hS => ?_)
  obtain ⟨hP, hD, hK⟩ := q_join (D := D) (wc := [(o_69, .inr (4, [.int 0, .int 0]))]) (wr := [(xo, .inr (6, [.ref o_57, .int 0, .ref o_59, .int 0, .ref o_61, .int 0, .ref o_63, .ref o_66, .null, .null, .null, .int 0, .int 0, .int 0, .int 0, .int 0])), (o_57, .inl (cA_58, 6, .inr (.inr (.inr (.inr (zq [none, none, none, none, none, none])))))), (o_59, .inl (cA_60, 4, .inr (.inr (.inr (.inr (zq [none, none, none, none])))))), (o_61, .inl (cA_62, 16, .inr (.inr (.inr (.inr (zq [none, none, none, none, none, none, none, none, none, none, none, none, none, none, none, none])))))), (o_63, .inr (4, [.int 0, .int 0])), (o_66, .inr (4, [.int 0, .int 0]))]) (w1 := [(o_69, .inr (4, [.int 0, .int 0]))]) (tyr := [(cA_58, .object "Gatherhouse$Glass"), (cA_60, .object "Gatherhouse$Pot"), (cA_62, .object "Gatherhouse$Piece")]) (ty1 := []) hP hD hK [6] [0, 1, 2, 3, 4, 5] [0, 1, 2] rfl rfl (by decide) (by decide) rfl hFc hk1 ht hvm hB
  have hP : va_P D vwCl [(xo, .inr (6, [.ref o_57, .int 0, .ref o_59, .int 0, .ref o_61, .int 0, .ref o_63, .ref o_66, .null, .null, .null, .int 0, .int 0, .int 0, .int 0, .int 0])), (o_57, .inl (cA_58, 6, .inr (.inr (.inr (.inr (zq [none, none, none, none, none, none])))))), (o_59, .inl (cA_60, 4, .inr (.inr (.inr (.inr (zq [none, none, none, none])))))), (o_61, .inl (cA_62, 16, .inr (.inr (.inr (.inr (zq [none, none, none, none, none, none, none, none, none, none, none, none, none, none, none, none])))))), (o_63, .inr (4, [.int 0, .int 0])), (o_66, .inr (4, [.int 0, .int 0])), (o_69, .inr (4, [.int 0, .int 0]))] H := hP
  have hD : va_D A [(xo, .inr (6, [.ref o_57, .int 0, .ref o_59, .int 0, .ref o_61, .int 0, .ref o_63, .ref o_66, .null, .null, .null, .int 0, .int 0, .int 0, .int 0, .int 0])), (o_57, .inl (cA_58, 6, .inr (.inr (.inr (.inr (zq [none, none, none, none, none, none])))))), (o_59, .inl (cA_60, 4, .inr (.inr (.inr (.inr (zq [none, none, none, none])))))), (o_61, .inl (cA_62, 16, .inr (.inr (.inr (.inr (zq [none, none, none, none, none, none, none, none, none, none, none, none, none, none, none, none])))))), (o_63, .inr (4, [.int 0, .int 0])), (o_66, .inr (4, [.int 0, .int 0])), (o_69, .inr (4, [.int 0, .int 0]))] := hD
  have hK : va_K D vwCl [(cA_58, .object "Gatherhouse$Glass"), (cA_60, .object "Gatherhouse$Pot"), (cA_62, .object "Gatherhouse$Piece")] s := hK
  refine va_putF (D := D) (cl := vwCl) (ci := 6) (v := .ref o_69) (ty := (.object "Gatherhouse$Role")) (C := RX6) (T := TX6) (N := 16) hx hb hts zuX6_init_X6 tyX6 tyX6_ok nmX6 hown hK hP hD hS 0 rfl rfl 8 (by decide) (hts (.fieldLink RX6 47 "Gatherhouse" "gaffer" "LGatherhouse$Role;") (by decide +kernel)) (fun _ h9 => h9) rfl hin rfl (by decide +kernel) rfl rfl (Nat.le_of_ble_eq_true rfl) dX6_init_75 (fun H locs hP hD hS => ?_)
  have hP : va_P D vwCl [(xo, .inr (6, [.ref o_57, .int 0, .ref o_59, .int 0, .ref o_61, .int 0, .ref o_63, .ref o_66, .ref o_69, .null, .null, .int 0, .int 0, .int 0, .int 0, .int 0])), (o_57, .inl (cA_58, 6, .inr (.inr (.inr (.inr (zq [none, none, none, none, none, none])))))), (o_59, .inl (cA_60, 4, .inr (.inr (.inr (.inr (zq [none, none, none, none])))))), (o_61, .inl (cA_62, 16, .inr (.inr (.inr (.inr (zq [none, none, none, none, none, none, none, none, none, none, none, none, none, none, none, none])))))), (o_63, .inr (4, [.int 0, .int 0])), (o_66, .inr (4, [.int 0, .int 0])), (o_69, .inr (4, [.int 0, .int 0]))] H := hP
  have hD : va_D A [(xo, .inr (6, [.ref o_57, .int 0, .ref o_59, .int 0, .ref o_61, .int 0, .ref o_63, .ref o_66, .ref o_69, .null, .null, .int 0, .int 0, .int 0, .int 0, .int 0])), (o_57, .inl (cA_58, 6, .inr (.inr (.inr (.inr (zq [none, none, none, none, none, none])))))), (o_59, .inl (cA_60, 4, .inr (.inr (.inr (.inr (zq [none, none, none, none])))))), (o_61, .inl (cA_62, 16, .inr (.inr (.inr (.inr (zq [none, none, none, none, none, none, none, none, none, none, none, none, none, none, none, none])))))), (o_63, .inr (4, [.int 0, .int 0])), (o_66, .inr (4, [.int 0, .int 0])), (o_69, .inr (4, [.int 0, .int 0]))] := hD
  refine lv_aload_n hx hb dX6_init_78 rfl (lv_at hl 0 rfl) ?_
  refine va_new (D := D) (cl := vwCl) (ci := 4) (fs := [.int 0, .int 0]) (C := RX4) (T := TX4) (N := 2) hx hb hts zuX6_init_X4 tyX4 tyX4_ok hown (hts (.classLink RX6 37 RX4) (by decide +kernel)) (hts (.instantiable RX4 2) (by decide +kernel)) (hts (.initialized RX4) (by decide +kernel)) hK hP hD hS hA rfl (fun j hj => by rcases (show j = 0 ∨ j = 1 by omega) with rfl | rfl <;> rfl) (Nat.le_of_ble_eq_true rfl) (Nat.le_of_ble_eq_true rfl) dX6_init_79 (fun o_72 H hP hD hS => ?_)
  have hP : va_P D vwCl [(xo, .inr (6, [.ref o_57, .int 0, .ref o_59, .int 0, .ref o_61, .int 0, .ref o_63, .ref o_66, .ref o_69, .null, .null, .int 0, .int 0, .int 0, .int 0, .int 0])), (o_57, .inl (cA_58, 6, .inr (.inr (.inr (.inr (zq [none, none, none, none, none, none])))))), (o_59, .inl (cA_60, 4, .inr (.inr (.inr (.inr (zq [none, none, none, none])))))), (o_61, .inl (cA_62, 16, .inr (.inr (.inr (.inr (zq [none, none, none, none, none, none, none, none, none, none, none, none, none, none, none, none])))))), (o_63, .inr (4, [.int 0, .int 0])), (o_66, .inr (4, [.int 0, .int 0])), (o_69, .inr (4, [.int 0, .int 0])), (o_72, .inr (4, [.int 0, .int 0]))] H := hP
  have hD : va_D A [(xo, .inr (6, [.ref o_57, .int 0, .ref o_59, .int 0, .ref o_61, .int 0, .ref o_63, .ref o_66, .ref o_69, .null, .null, .int 0, .int 0, .int 0, .int 0, .int 0])), (o_57, .inl (cA_58, 6, .inr (.inr (.inr (.inr (zq [none, none, none, none, none, none])))))), (o_59, .inl (cA_60, 4, .inr (.inr (.inr (.inr (zq [none, none, none, none])))))), (o_61, .inl (cA_62, 16, .inr (.inr (.inr (.inr (zq [none, none, none, none, none, none, none, none, none, none, none, none, none, none, none, none])))))), (o_63, .inr (4, [.int 0, .int 0])), (o_66, .inr (4, [.int 0, .int 0])), (o_69, .inr (4, [.int 0, .int 0])), (o_72, .inr (4, [.int 0, .int 0]))] := hD
  refine W.widen (k := 7) (n := 34) (Nat.le_of_ble_eq_true rfl) (Nat.le_of_ble_eq_true rfl) ?_
  refine lv_dup hx hb dX6_init_82 rfl ?_
  have hFc := va_free (wc := [(o_72, .inr (4, [.int 0, .int 0]))]) hD hS hA [7] rfl
  refine va_callv (va_runIN (As := []) (rest := [.ref o_72, .ref xo]) ⟨hx, hb, hml, hown, hts⟩ (zc_X4_init l D G o_72 0 0 H.size) ⟨va_cnB 0 hts gzX6_init_X4_init_39 rfl rfl rfl (hT.1 ("Gatherhouse", 39, ⟨"Gatherhouse$Role", "<init>", "()V"⟩, "Gatherhouse") (by decide +kernel)) (hts (.initialized RX4) (by decide +kernel)) (by decide +kernel) ⟨(Nat.le_of_ble_eq_true rfl), (Nat.le_of_ble_eq_true rfl)⟩, rfl, (hts (.instanceMethod yX4_init) (by decide +kernel))⟩ ⟨p_RW_blind, (p_RW_at (tc := []) (wc := [(o_72, .inr (4, [.int 0, .int 0]))]) hP hK hD hS hA hT hZ [7] [] rfl rfl (by decide) rfl [.ref o_72])⟩ rfl rfl hl.1 rfl (lv_room (Nat.le_of_ble_eq_true rfl)) dX6_init_83 ⟨(Nat.le_of_ble_eq_true rfl), (Nat.le_of_ble_eq_true rfl)⟩) hS (fun q _ h => hFc q h) hFc (fun u t H locs ht hvm w_74 hB hz1 hk1 hS => ?_)
  obtain ⟨hP, hD, hK⟩ := q_join (D := D) (wc := [(o_72, .inr (4, [.int 0, .int 0]))]) (wr := [(xo, .inr (6, [.ref o_57, .int 0, .ref o_59, .int 0, .ref o_61, .int 0, .ref o_63, .ref o_66, .ref o_69, .null, .null, .int 0, .int 0, .int 0, .int 0, .int 0])), (o_57, .inl (cA_58, 6, .inr (.inr (.inr (.inr (zq [none, none, none, none, none, none])))))), (o_59, .inl (cA_60, 4, .inr (.inr (.inr (.inr (zq [none, none, none, none])))))), (o_61, .inl (cA_62, 16, .inr (.inr (.inr (.inr (zq [none, none, none, none, none, none, none, none, none, none, none, none, none, none, none, none])))))), (o_63, .inr (4, [.int 0, .int 0])), (o_66, .inr (4, [.int 0, .int 0])), (o_69, .inr (4, [.int 0, .int 0]))]) (w1 := [(o_72, .inr (4, [.int 0, .int 0]))]) (tyr := [(cA_58, .object "Gatherhouse$Glass"), (cA_60, .object "Gatherhouse$Pot"), (cA_62, .object "Gatherhouse$Piece")]) (ty1 := []) hP hD hK [7] [0, 1, 2, 3, 4, 5, 6] [0, 1, 2] rfl rfl (by decide) (by decide) rfl hFc hk1 ht hvm hB
  have hP : va_P D vwCl [(xo, .inr (6, [.ref o_57, .int 0, .ref o_59, .int 0, .ref o_61, .int 0, .ref o_63, .ref o_66, .ref o_69, .null, .null, .int 0, .int 0, .int 0, .int 0, .int 0])), (o_57, .inl (cA_58, 6, .inr (.inr (.inr (.inr (zq [none, none, none, none, none, none])))))), (o_59, .inl (cA_60, 4, .inr (.inr (.inr (.inr (zq [none, none, none, none])))))), (o_61, .inl (cA_62, 16, .inr (.inr (.inr (.inr (zq [none, none, none, none, none, none, none, none, none, none, none, none, none, none, none, none])))))), (o_63, .inr (4, [.int 0, .int 0])), (o_66, .inr (4, [.int 0, .int 0])), (o_69, .inr (4, [.int 0, .int 0])), (o_72, .inr (4, [.int 0, .int 0]))] H := hP
  have hD : va_D A [(xo, .inr (6, [.ref o_57, .int 0, .ref o_59, .int 0, .ref o_61, .int 0, .ref o_63, .ref o_66, .ref o_69, .null, .null, .int 0, .int 0, .int 0, .int 0, .int 0])), (o_57, .inl (cA_58, 6, .inr (.inr (.inr (.inr (zq [none, none, none, none, none, none])))))), (o_59, .inl (cA_60, 4, .inr (.inr (.inr (.inr (zq [none, none, none, none])))))), (o_61, .inl (cA_62, 16, .inr (.inr (.inr (.inr (zq [none, none, none, none, none, none, none, none, none, none, none, none, none, none, none, none])))))), (o_63, .inr (4, [.int 0, .int 0])), (o_66, .inr (4, [.int 0, .int 0])), (o_69, .inr (4, [.int 0, .int 0])), (o_72, .inr (4, [.int 0, .int 0]))] := hD
  have hK : va_K D vwCl [(cA_58, .object "Gatherhouse$Glass"), (cA_60, .object "Gatherhouse$Pot"), (cA_62, .object "Gatherhouse$Piece")] s := hK
  refine va_putF (D := D) (cl := vwCl) (ci := 6) (v := .ref o_72) (ty := (.object "Gatherhouse$Role")) (C := RX6) (T := TX6) (N := 16) hx hb hts zuX6_init_X6 tyX6 tyX6_ok nmX6 hown hK hP hD hS 0 rfl rfl 9 (by decide) (hts (.fieldLink RX6 50 "Gatherhouse" "boy" "LGatherhouse$Role;") (by decide +kernel)) (fun _ h9 => h9) rfl hin rfl (by decide +kernel) rfl rfl (Nat.le_of_ble_eq_true rfl) dX6_init_86 (fun H locs hP hD hS => ?_)
  have hP : va_P D vwCl [(xo, .inr (6, [.ref o_57, .int 0, .ref o_59, .int 0, .ref o_61, .int 0, .ref o_63, .ref o_66, .ref o_69, .ref o_72, .null, .int 0, .int 0, .int 0, .int 0, .int 0])), (o_57, .inl (cA_58, 6, .inr (.inr (.inr (.inr (zq [none, none, none, none, none, none])))))), (o_59, .inl (cA_60, 4, .inr (.inr (.inr (.inr (zq [none, none, none, none])))))), (o_61, .inl (cA_62, 16, .inr (.inr (.inr (.inr (zq [none, none, none, none, none, none, none, none, none, none, none, none, none, none, none, none])))))), (o_63, .inr (4, [.int 0, .int 0])), (o_66, .inr (4, [.int 0, .int 0])), (o_69, .inr (4, [.int 0, .int 0])), (o_72, .inr (4, [.int 0, .int 0]))] H := hP
  have hD : va_D A [(xo, .inr (6, [.ref o_57, .int 0, .ref o_59, .int 0, .ref o_61, .int 0, .ref o_63, .ref o_66, .ref o_69, .ref o_72, .null, .int 0, .int 0, .int 0, .int 0, .int 0])), (o_57, .inl (cA_58, 6, .inr (.inr (.inr (.inr (zq [none, none, none, none, none, none])))))), (o_59, .inl (cA_60, 4, .inr (.inr (.inr (.inr (zq [none, none, none, none])))))), (o_61, .inl (cA_62, 16, .inr (.inr (.inr (.inr (zq [none, none, none, none, none, none, none, none, none, none, none, none, none, none, none, none])))))), (o_63, .inr (4, [.int 0, .int 0])), (o_66, .inr (4, [.int 0, .int 0])), (o_69, .inr (4, [.int 0, .int 0])), (o_72, .inr (4, [.int 0, .int 0]))] := hD
  refine lv_aload_n hx hb dX6_init_89 rfl (lv_at hl 0 rfl) ?_
  refine va_new (D := D) (cl := vwCl) (ci := 5) (fs := [.null, .null, .null, .int 0, .int 0, .int 0, .int 0]) (C := RX5) (T := TX5) (N := 7) hx hb hts zuX6_init_X5 tyX5 tyX5_ok hown (hts (.classLink RX6 53 RX5) (by decide +kernel)) (hts (.instantiable RX5 7) (by decide +kernel)) (hts (.initialized RX5) (by decide +kernel)) hK hP hD hS hA rfl (fun j hj => by rcases (show j = 0 ∨ j = 1 ∨ j = 2 ∨ j = 3 ∨ j = 4 ∨ j = 5 ∨ j = 6 by omega) with rfl | rfl | rfl | rfl | rfl | rfl | rfl <;> rfl) (Nat.le_of_ble_eq_true rfl) (Nat.le_of_ble_eq_true rfl) dX6_init_90 (fun o_75 H hP hD hS => ?_)
  have hP : va_P D vwCl [(xo, .inr (6, [.ref o_57, .int 0, .ref o_59, .int 0, .ref o_61, .int 0, .ref o_63, .ref o_66, .ref o_69, .ref o_72, .null, .int 0, .int 0, .int 0, .int 0, .int 0])), (o_57, .inl (cA_58, 6, .inr (.inr (.inr (.inr (zq [none, none, none, none, none, none])))))), (o_59, .inl (cA_60, 4, .inr (.inr (.inr (.inr (zq [none, none, none, none])))))), (o_61, .inl (cA_62, 16, .inr (.inr (.inr (.inr (zq [none, none, none, none, none, none, none, none, none, none, none, none, none, none, none, none])))))), (o_63, .inr (4, [.int 0, .int 0])), (o_66, .inr (4, [.int 0, .int 0])), (o_69, .inr (4, [.int 0, .int 0])), (o_72, .inr (4, [.int 0, .int 0])), (o_75, .inr (5, [.null, .null, .null, .int 0, .int 0, .int 0, .int 0]))] H := hP
  have hD : va_D A [(xo, .inr (6, [.ref o_57, .int 0, .ref o_59, .int 0, .ref o_61, .int 0, .ref o_63, .ref o_66, .ref o_69, .ref o_72, .null, .int 0, .int 0, .int 0, .int 0, .int 0])), (o_57, .inl (cA_58, 6, .inr (.inr (.inr (.inr (zq [none, none, none, none, none, none])))))), (o_59, .inl (cA_60, 4, .inr (.inr (.inr (.inr (zq [none, none, none, none])))))), (o_61, .inl (cA_62, 16, .inr (.inr (.inr (.inr (zq [none, none, none, none, none, none, none, none, none, none, none, none, none, none, none, none])))))), (o_63, .inr (4, [.int 0, .int 0])), (o_66, .inr (4, [.int 0, .int 0])), (o_69, .inr (4, [.int 0, .int 0])), (o_72, .inr (4, [.int 0, .int 0])), (o_75, .inr (5, [.null, .null, .null, .int 0, .int 0, .int 0, .int 0]))] := hD
  refine W.widen (k := 8) (n := 41) (Nat.le_of_ble_eq_true rfl) (Nat.le_of_ble_eq_true rfl) ?_
  refine lv_dup hx hb dX6_init_93 rfl ?_
  have hFc := va_free (wc := [(o_75, .inr (5, [.null, .null, .null, .int 0, .int 0, .int 0, .int 0]))]) hD hS hA [8] rfl
  refine va_callv (va_runIN (As := []) (rest := [.ref o_75, .ref xo]) ⟨hx, hb, hml, hown, hts⟩ (zc_X5_init l D G o_75 H.size) ⟨va_cnB 0 hts gzX6_init_X5_init_55 rfl rfl rfl (hT.1 ("Gatherhouse", 55, ⟨"Gatherhouse$SetSearch", "<init>", "()V"⟩, "Gatherhouse") (by decide +kernel)) (hts (.initialized RX5) (by decide +kernel)) (by decide +kernel) ⟨(Nat.le_of_ble_eq_true rfl), (Nat.le_of_ble_eq_true rfl)⟩, rfl, (hts (.instanceMethod yX5_init) (by decide +kernel))⟩ ⟨p_RW_blind, (p_RW_at (tc := []) (wc := [(o_75, .inr (5, [.null, .null, .null, .int 0, .int 0, .int 0, .int 0]))]) hP hK hD hS hA hT hZ [8] [] rfl rfl (by decide) rfl [.ref o_75])⟩ rfl rfl hl.1 rfl (lv_room (Nat.le_of_ble_eq_true rfl)) dX6_init_94 ⟨(Nat.le_of_ble_eq_true rfl), (Nat.le_of_ble_eq_true rfl)⟩) hS (fun q _ h => hFc q h) hFc (fun u t H locs ht hvm w_77 hB hz1 hk1 hS => ?_)
  obtain ⟨v_78, v_79, v_80, hB⟩ := hB
  obtain ⟨hP, hD, hK⟩ := q_join (D := D) (wc := [(o_75, .inr (5, [.null, .null, .null, .int 0, .int 0, .int 0, .int 0]))]) (wr := [(xo, .inr (6, [.ref o_57, .int 0, .ref o_59, .int 0, .ref o_61, .int 0, .ref o_63, .ref o_66, .ref o_69, .ref o_72, .null, .int 0, .int 0, .int 0, .int 0, .int 0])), (o_57, .inl (cA_58, 6, .inr (.inr (.inr (.inr (zq [none, none, none, none, none, none])))))), (o_59, .inl (cA_60, 4, .inr (.inr (.inr (.inr (zq [none, none, none, none])))))), (o_61, .inl (cA_62, 16, .inr (.inr (.inr (.inr (zq [none, none, none, none, none, none, none, none, none, none, none, none, none, none, none, none])))))), (o_63, .inr (4, [.int 0, .int 0])), (o_66, .inr (4, [.int 0, .int 0])), (o_69, .inr (4, [.int 0, .int 0])), (o_72, .inr (4, [.int 0, .int 0]))]) (w1 := [(o_75, .inr (5, [.ref v_78, .ref v_79, .ref v_80, .int 0, .int 0, .int 0, .int 0]))]) (tyr := [(cA_58, .object "Gatherhouse$Glass"), (cA_60, .object "Gatherhouse$Pot"), (cA_62, .object "Gatherhouse$Piece")]) (ty1 := []) hP hD hK [8] [0, 1, 2, 3, 4, 5, 6, 7] [0, 1, 2] rfl rfl (by decide) (by decide) rfl hFc hk1 ht hvm hB
  have hP : va_P D vwCl [(xo, .inr (6, [.ref o_57, .int 0, .ref o_59, .int 0, .ref o_61, .int 0, .ref o_63, .ref o_66, .ref o_69, .ref o_72, .null, .int 0, .int 0, .int 0, .int 0, .int 0])), (o_57, .inl (cA_58, 6, .inr (.inr (.inr (.inr (zq [none, none, none, none, none, none])))))), (o_59, .inl (cA_60, 4, .inr (.inr (.inr (.inr (zq [none, none, none, none])))))), (o_61, .inl (cA_62, 16, .inr (.inr (.inr (.inr (zq [none, none, none, none, none, none, none, none, none, none, none, none, none, none, none, none])))))), (o_63, .inr (4, [.int 0, .int 0])), (o_66, .inr (4, [.int 0, .int 0])), (o_69, .inr (4, [.int 0, .int 0])), (o_72, .inr (4, [.int 0, .int 0])), (o_75, .inr (5, [.ref v_78, .ref v_79, .ref v_80, .int 0, .int 0, .int 0, .int 0]))] H := hP
  have hD : va_D A [(xo, .inr (6, [.ref o_57, .int 0, .ref o_59, .int 0, .ref o_61, .int 0, .ref o_63, .ref o_66, .ref o_69, .ref o_72, .null, .int 0, .int 0, .int 0, .int 0, .int 0])), (o_57, .inl (cA_58, 6, .inr (.inr (.inr (.inr (zq [none, none, none, none, none, none])))))), (o_59, .inl (cA_60, 4, .inr (.inr (.inr (.inr (zq [none, none, none, none])))))), (o_61, .inl (cA_62, 16, .inr (.inr (.inr (.inr (zq [none, none, none, none, none, none, none, none, none, none, none, none, none, none, none, none])))))), (o_63, .inr (4, [.int 0, .int 0])), (o_66, .inr (4, [.int 0, .int 0])), (o_69, .inr (4, [.int 0, .int 0])), (o_72, .inr (4, [.int 0, .int 0])), (o_75, .inr (5, [.ref v_78, .ref v_79, .ref v_80, .int 0, .int 0, .int 0, .int 0]))] := hD
  have hK : va_K D vwCl [(cA_58, .object "Gatherhouse$Glass"), (cA_60, .object "Gatherhouse$Pot"), (cA_62, .object "Gatherhouse$Piece")] s := hK
  refine W.widen (k := 11) (n := 89) (Nat.le_of_ble_eq_true rfl) (Nat.le_of_ble_eq_true rfl) ?_
  refine va_putF (D := D) (cl := vwCl) (ci := 6) (v := .ref o_75) (ty := (.object "Gatherhouse$SetSearch")) (C := RX6) (T := TX6) (N := 16) hx hb hts zuX6_init_X6 tyX6 tyX6_ok nmX6 hown hK hP hD hS 0 rfl rfl 10 (by decide) (hts (.fieldLink RX6 56 "Gatherhouse" "search" "LGatherhouse$SetSearch;") (by decide +kernel)) (fun _ h9 => h9) rfl hin rfl (by decide +kernel) rfl rfl (Nat.le_of_ble_eq_true rfl) dX6_init_97 (fun H locs hP hD hS => ?_)
  have hP : va_P D vwCl [(xo, .inr (6, [.ref o_57, .int 0, .ref o_59, .int 0, .ref o_61, .int 0, .ref o_63, .ref o_66, .ref o_69, .ref o_72, .ref o_75, .int 0, .int 0, .int 0, .int 0, .int 0])), (o_57, .inl (cA_58, 6, .inr (.inr (.inr (.inr (zq [none, none, none, none, none, none])))))), (o_59, .inl (cA_60, 4, .inr (.inr (.inr (.inr (zq [none, none, none, none])))))), (o_61, .inl (cA_62, 16, .inr (.inr (.inr (.inr (zq [none, none, none, none, none, none, none, none, none, none, none, none, none, none, none, none])))))), (o_63, .inr (4, [.int 0, .int 0])), (o_66, .inr (4, [.int 0, .int 0])), (o_69, .inr (4, [.int 0, .int 0])), (o_72, .inr (4, [.int 0, .int 0])), (o_75, .inr (5, [.ref v_78, .ref v_79, .ref v_80, .int 0, .int 0, .int 0, .int 0]))] H := hP
  have hD : va_D A [(xo, .inr (6, [.ref o_57, .int 0, .ref o_59, .int 0, .ref o_61, .int 0, .ref o_63, .ref o_66, .ref o_69, .ref o_72, .ref o_75, .int 0, .int 0, .int 0, .int 0, .int 0])), (o_57, .inl (cA_58, 6, .inr (.inr (.inr (.inr (zq [none, none, none, none, none, none])))))), (o_59, .inl (cA_60, 4, .inr (.inr (.inr (.inr (zq [none, none, none, none])))))), (o_61, .inl (cA_62, 16, .inr (.inr (.inr (.inr (zq [none, none, none, none, none, none, none, none, none, none, none, none, none, none, none, none])))))), (o_63, .inr (4, [.int 0, .int 0])), (o_66, .inr (4, [.int 0, .int 0])), (o_69, .inr (4, [.int 0, .int 0])), (o_72, .inr (4, [.int 0, .int 0])), (o_75, .inr (5, [.ref v_78, .ref v_79, .ref v_80, .int 0, .int 0, .int 0, .int 0]))] := hD
  refine lv_aload_n hx hb dX6_init_100 rfl (lv_at hl 0 rfl) ?_
  refine lv_iconst (v := 0) hx hb dX6_init_101 (by decide) ?_
  refine va_put (D := D) (cl := vwCl) (ci := 6) (v := .int 0) (ty := .int) (C := RX6) (T := TX6) (N := 16) hx hb hts zuX6_init_X6 tyX6 tyX6_ok nmX6 hown hK hP hD hS 0 rfl rfl 11 (by decide) (hts (.fieldLink RX6 60 "Gatherhouse" "secondsGone" "I") (by decide +kernel)) (fun _ h9 => h9) rfl (by decide +kernel) rfl rfl (Nat.le_of_ble_eq_true rfl) dX6_init_102 (fun H locs hP hD hS => ?_)
  have hP : va_P D vwCl [(xo, .inr (6, [.ref o_57, .int 0, .ref o_59, .int 0, .ref o_61, .int 0, .ref o_63, .ref o_66, .ref o_69, .ref o_72, .ref o_75, .int 0, .int 0, .int 0, .int 0, .int 0])), (o_57, .inl (cA_58, 6, .inr (.inr (.inr (.inr (zq [none, none, none, none, none, none])))))), (o_59, .inl (cA_60, 4, .inr (.inr (.inr (.inr (zq [none, none, none, none])))))), (o_61, .inl (cA_62, 16, .inr (.inr (.inr (.inr (zq [none, none, none, none, none, none, none, none, none, none, none, none, none, none, none, none])))))), (o_63, .inr (4, [.int 0, .int 0])), (o_66, .inr (4, [.int 0, .int 0])), (o_69, .inr (4, [.int 0, .int 0])), (o_72, .inr (4, [.int 0, .int 0])), (o_75, .inr (5, [.ref v_78, .ref v_79, .ref v_80, .int 0, .int 0, .int 0, .int 0]))] H := hP
  have hD : va_D A [(xo, .inr (6, [.ref o_57, .int 0, .ref o_59, .int 0, .ref o_61, .int 0, .ref o_63, .ref o_66, .ref o_69, .ref o_72, .ref o_75, .int 0, .int 0, .int 0, .int 0, .int 0])), (o_57, .inl (cA_58, 6, .inr (.inr (.inr (.inr (zq [none, none, none, none, none, none])))))), (o_59, .inl (cA_60, 4, .inr (.inr (.inr (.inr (zq [none, none, none, none])))))), (o_61, .inl (cA_62, 16, .inr (.inr (.inr (.inr (zq [none, none, none, none, none, none, none, none, none, none, none, none, none, none, none, none])))))), (o_63, .inr (4, [.int 0, .int 0])), (o_66, .inr (4, [.int 0, .int 0])), (o_69, .inr (4, [.int 0, .int 0])), (o_72, .inr (4, [.int 0, .int 0])), (o_75, .inr (5, [.ref v_78, .ref v_79, .ref v_80, .int 0, .int 0, .int 0, .int 0]))] := hD
  refine lv_aload_n hx hb dX6_init_105 rfl (lv_at hl 0 rfl) ?_
  refine lv_iconst (v := 0) hx hb dX6_init_106 (by decide) ?_
  refine va_put (D := D) (cl := vwCl) (ci := 6) (v := .int 0) (ty := .int) (C := RX6) (T := TX6) (N := 16) hx hb hts zuX6_init_X6 tyX6 tyX6_ok nmX6 hown hK hP hD hS 0 rfl rfl 12 (by decide) (hts (.fieldLink RX6 63 "Gatherhouse" "hoursGone" "I") (by decide +kernel)) (fun _ h9 => h9) rfl (by decide +kernel) rfl rfl (Nat.le_of_ble_eq_true rfl) dX6_init_107 (fun H locs hP hD hS => ?_)
  have hP : va_P D vwCl [(xo, .inr (6, [.ref o_57, .int 0, .ref o_59, .int 0, .ref o_61, .int 0, .ref o_63, .ref o_66, .ref o_69, .ref o_72, .ref o_75, .int 0, .int 0, .int 0, .int 0, .int 0])), (o_57, .inl (cA_58, 6, .inr (.inr (.inr (.inr (zq [none, none, none, none, none, none])))))), (o_59, .inl (cA_60, 4, .inr (.inr (.inr (.inr (zq [none, none, none, none])))))), (o_61, .inl (cA_62, 16, .inr (.inr (.inr (.inr (zq [none, none, none, none, none, none, none, none, none, none, none, none, none, none, none, none])))))), (o_63, .inr (4, [.int 0, .int 0])), (o_66, .inr (4, [.int 0, .int 0])), (o_69, .inr (4, [.int 0, .int 0])), (o_72, .inr (4, [.int 0, .int 0])), (o_75, .inr (5, [.ref v_78, .ref v_79, .ref v_80, .int 0, .int 0, .int 0, .int 0]))] H := hP
  have hD : va_D A [(xo, .inr (6, [.ref o_57, .int 0, .ref o_59, .int 0, .ref o_61, .int 0, .ref o_63, .ref o_66, .ref o_69, .ref o_72, .ref o_75, .int 0, .int 0, .int 0, .int 0, .int 0])), (o_57, .inl (cA_58, 6, .inr (.inr (.inr (.inr (zq [none, none, none, none, none, none])))))), (o_59, .inl (cA_60, 4, .inr (.inr (.inr (.inr (zq [none, none, none, none])))))), (o_61, .inl (cA_62, 16, .inr (.inr (.inr (.inr (zq [none, none, none, none, none, none, none, none, none, none, none, none, none, none, none, none])))))), (o_63, .inr (4, [.int 0, .int 0])), (o_66, .inr (4, [.int 0, .int 0])), (o_69, .inr (4, [.int 0, .int 0])), (o_72, .inr (4, [.int 0, .int 0])), (o_75, .inr (5, [.ref v_78, .ref v_79, .ref v_80, .int 0, .int 0, .int 0, .int 0]))] := hD
  refine lv_aload_n hx hb dX6_init_110 rfl (lv_at hl 0 rfl) ?_
  refine lv_bipush (v := 40) hx hb dX6_init_111 (by decide) ?_
  refine va_put (D := D) (cl := vwCl) (ci := 6) (v := .int 40) (ty := .int) (C := RX6) (T := TX6) (N := 16) hx hb hts zuX6_init_X6 tyX6 tyX6_ok nmX6 hown hK hP hD hS 0 rfl rfl 13 (by decide) (hts (.fieldLink RX6 66 "Gatherhouse" "dropAnHour" "I") (by decide +kernel)) (fun _ h9 => h9) rfl (by decide +kernel) rfl rfl (Nat.le_of_ble_eq_true rfl) dX6_init_113 (fun H locs hP hD hS => ?_)
  have hP : va_P D vwCl [(xo, .inr (6, [.ref o_57, .int 0, .ref o_59, .int 0, .ref o_61, .int 0, .ref o_63, .ref o_66, .ref o_69, .ref o_72, .ref o_75, .int 0, .int 0, .int 40, .int 0, .int 0])), (o_57, .inl (cA_58, 6, .inr (.inr (.inr (.inr (zq [none, none, none, none, none, none])))))), (o_59, .inl (cA_60, 4, .inr (.inr (.inr (.inr (zq [none, none, none, none])))))), (o_61, .inl (cA_62, 16, .inr (.inr (.inr (.inr (zq [none, none, none, none, none, none, none, none, none, none, none, none, none, none, none, none])))))), (o_63, .inr (4, [.int 0, .int 0])), (o_66, .inr (4, [.int 0, .int 0])), (o_69, .inr (4, [.int 0, .int 0])), (o_72, .inr (4, [.int 0, .int 0])), (o_75, .inr (5, [.ref v_78, .ref v_79, .ref v_80, .int 0, .int 0, .int 0, .int 0]))] H := hP
  have hD : va_D A [(xo, .inr (6, [.ref o_57, .int 0, .ref o_59, .int 0, .ref o_61, .int 0, .ref o_63, .ref o_66, .ref o_69, .ref o_72, .ref o_75, .int 0, .int 0, .int 40, .int 0, .int 0])), (o_57, .inl (cA_58, 6, .inr (.inr (.inr (.inr (zq [none, none, none, none, none, none])))))), (o_59, .inl (cA_60, 4, .inr (.inr (.inr (.inr (zq [none, none, none, none])))))), (o_61, .inl (cA_62, 16, .inr (.inr (.inr (.inr (zq [none, none, none, none, none, none, none, none, none, none, none, none, none, none, none, none])))))), (o_63, .inr (4, [.int 0, .int 0])), (o_66, .inr (4, [.int 0, .int 0])), (o_69, .inr (4, [.int 0, .int 0])), (o_72, .inr (4, [.int 0, .int 0])), (o_75, .inr (5, [.ref v_78, .ref v_79, .ref v_80, .int 0, .int 0, .int 0, .int 0]))] := hD
  refine lv_aload_n hx hb dX6_init_116 rfl (lv_at hl 0 rfl) ?_
  refine lv_iconst (v := 0) hx hb dX6_init_117 (by decide) ?_
  refine va_put (D := D) (cl := vwCl) (ci := 6) (v := .int 0) (ty := .int) (C := RX6) (T := TX6) (N := 16) hx hb hts zuX6_init_X6 tyX6 tyX6_ok nmX6 hown hK hP hD hS 0 rfl rfl 14 (by decide) (hts (.fieldLink RX6 69 "Gatherhouse" "sumOfSales" "I") (by decide +kernel)) (fun _ h9 => h9) rfl (by decide +kernel) rfl rfl (Nat.le_of_ble_eq_true rfl) dX6_init_118 (fun H locs hP hD hS => ?_)
  have hP : va_P D vwCl [(xo, .inr (6, [.ref o_57, .int 0, .ref o_59, .int 0, .ref o_61, .int 0, .ref o_63, .ref o_66, .ref o_69, .ref o_72, .ref o_75, .int 0, .int 0, .int 40, .int 0, .int 0])), (o_57, .inl (cA_58, 6, .inr (.inr (.inr (.inr (zq [none, none, none, none, none, none])))))), (o_59, .inl (cA_60, 4, .inr (.inr (.inr (.inr (zq [none, none, none, none])))))), (o_61, .inl (cA_62, 16, .inr (.inr (.inr (.inr (zq [none, none, none, none, none, none, none, none, none, none, none, none, none, none, none, none])))))), (o_63, .inr (4, [.int 0, .int 0])), (o_66, .inr (4, [.int 0, .int 0])), (o_69, .inr (4, [.int 0, .int 0])), (o_72, .inr (4, [.int 0, .int 0])), (o_75, .inr (5, [.ref v_78, .ref v_79, .ref v_80, .int 0, .int 0, .int 0, .int 0]))] H := hP
  have hD : va_D A [(xo, .inr (6, [.ref o_57, .int 0, .ref o_59, .int 0, .ref o_61, .int 0, .ref o_63, .ref o_66, .ref o_69, .ref o_72, .ref o_75, .int 0, .int 0, .int 40, .int 0, .int 0])), (o_57, .inl (cA_58, 6, .inr (.inr (.inr (.inr (zq [none, none, none, none, none, none])))))), (o_59, .inl (cA_60, 4, .inr (.inr (.inr (.inr (zq [none, none, none, none])))))), (o_61, .inl (cA_62, 16, .inr (.inr (.inr (.inr (zq [none, none, none, none, none, none, none, none, none, none, none, none, none, none, none, none])))))), (o_63, .inr (4, [.int 0, .int 0])), (o_66, .inr (4, [.int 0, .int 0])), (o_69, .inr (4, [.int 0, .int 0])), (o_72, .inr (4, [.int 0, .int 0])), (o_75, .inr (5, [.ref v_78, .ref v_79, .ref v_80, .int 0, .int 0, .int 0, .int 0]))] := hD
  refine lv_aload_n hx hb dX6_init_121 rfl (lv_at hl 0 rfl) ?_
  refine lv_iconst (v := 0) hx hb dX6_init_122 (by decide) ?_
  refine va_put (D := D) (cl := vwCl) (ci := 6) (v := .int 0) (ty := .int) (C := RX6) (T := TX6) (N := 16) hx hb hts zuX6_init_X6 tyX6 tyX6_ok nmX6 hown hK hP hD hS 0 rfl rfl 15 (by decide) (hts (.fieldLink RX6 72 "Gatherhouse" "brokenLater" "I") (by decide +kernel)) (fun _ h9 => h9) rfl (by decide +kernel) rfl rfl (Nat.le_of_ble_eq_true rfl) dX6_init_123 (fun H locs hP hD hS => ?_)
  have hP : va_P D vwCl [(xo, .inr (6, [.ref o_57, .int 0, .ref o_59, .int 0, .ref o_61, .int 0, .ref o_63, .ref o_66, .ref o_69, .ref o_72, .ref o_75, .int 0, .int 0, .int 40, .int 0, .int 0])), (o_57, .inl (cA_58, 6, .inr (.inr (.inr (.inr (zq [none, none, none, none, none, none])))))), (o_59, .inl (cA_60, 4, .inr (.inr (.inr (.inr (zq [none, none, none, none])))))), (o_61, .inl (cA_62, 16, .inr (.inr (.inr (.inr (zq [none, none, none, none, none, none, none, none, none, none, none, none, none, none, none, none])))))), (o_63, .inr (4, [.int 0, .int 0])), (o_66, .inr (4, [.int 0, .int 0])), (o_69, .inr (4, [.int 0, .int 0])), (o_72, .inr (4, [.int 0, .int 0])), (o_75, .inr (5, [.ref v_78, .ref v_79, .ref v_80, .int 0, .int 0, .int 0, .int 0]))] H := hP
  have hD : va_D A [(xo, .inr (6, [.ref o_57, .int 0, .ref o_59, .int 0, .ref o_61, .int 0, .ref o_63, .ref o_66, .ref o_69, .ref o_72, .ref o_75, .int 0, .int 0, .int 40, .int 0, .int 0])), (o_57, .inl (cA_58, 6, .inr (.inr (.inr (.inr (zq [none, none, none, none, none, none])))))), (o_59, .inl (cA_60, 4, .inr (.inr (.inr (.inr (zq [none, none, none, none])))))), (o_61, .inl (cA_62, 16, .inr (.inr (.inr (.inr (zq [none, none, none, none, none, none, none, none, none, none, none, none, none, none, none, none])))))), (o_63, .inr (4, [.int 0, .int 0])), (o_66, .inr (4, [.int 0, .int 0])), (o_69, .inr (4, [.int 0, .int 0])), (o_72, .inr (4, [.int 0, .int 0])), (o_75, .inr (5, [.ref v_78, .ref v_79, .ref v_80, .int 0, .int 0, .int 0, .int 0]))] := hD
  exact W.vret hx hb hr (fun t ht hW => ⟨⟨(), rfl, trivial, ⟨o_57, o_59, o_61, o_63, o_66, o_69, o_72, o_75, v_78, v_79, v_80, cA_58, cA_60, cA_62, q_RW_mk hP hK hD [0, 1, 2, 3, 4, 5, 6, 7, 8] [0, 1, 2] rfl rfl (by decide) rfl ht hW.alike⟩⟩, hS.F ht⟩) hS.2.2 dX6_init_126
theorem dX6_wholeShare_0 : decode cX6_wholeShare 0 = .ok (.aload_n 0, 1) := by decide +kernel
theorem dX6_wholeShare_1 : decode cX6_wholeShare 1 = .ok (.getfield 34, 3) := by decide +kernel
theorem dX6_wholeShare_4 : decode cX6_wholeShare 4 = .ok (.ifCond .gt 14, 3) := by decide +kernel
theorem dX6_wholeShare_7 : decode cX6_wholeShare 7 = .ok (.new 280, 3) := by decide +kernel
theorem dX6_wholeShare_10 : decode cX6_wholeShare 10 = .ok (.dup, 1) := by decide +kernel
theorem dX6_wholeShare_11 : decode cX6_wholeShare 11 = .ok (.ldc_w 358, 3) := by decide +kernel
theorem dX6_wholeShare_14 : decode cX6_wholeShare 14 = .ok (.invokespecial 284, 3) := by decide +kernel
theorem dX6_wholeShare_17 : decode cX6_wholeShare 17 = .ok (.athrow, 1) := by decide +kernel
def wzEX6_wholeShare : List Cond := [.code yX6_wholeShare cX6_wholeShare 2 (some .float), .fieldLink RX6 34 "Gatherhouse" "pieceCount" "I", .classLink RX6 280 "java/util/NoSuchElementException", .initialized "java/util/NoSuchElementException"]
def wzX6_wholeShare : List Cond := wzEX6_wholeShare ++ (u_ws RX6 TX6 16 ++ ((z_atN RX6 284 "java/util/NoSuchElementException" "java/lang/RuntimeException" ["java/lang/Exception"]).filter goodWord))
theorem zgEX6_wholeShare : wzEX6_wholeShare.all goodWord = true := by decide +kernel
theorem zuX6_wholeShare_X6 : ∀ w ∈ u_ws RX6 TX6 16, w ∈ wzX6_wholeShare := (fun _ h => (List.mem_append_right _ (List.mem_append_left _ h)))
theorem ztX6_wholeShare_X6_284 : ∀ w ∈ (z_atN RX6 284 "java/util/NoSuchElementException" "java/lang/RuntimeException" ["java/lang/Exception"]).filter goodWord, w ∈ wzX6_wholeShare := (fun _ h => (List.mem_append_right _ (List.mem_append_right _ h)))
set_option maxHeartbeats 4000000 in
set_option maxRecDepth 100000 in
theorem zc_X6_wholeShare (l : Launch) (hnt : l.stackTraces = false) (D : va_G) (G : Nat × Nat × (Nat → Int32)) (xo : Nat) (xg : Nat) (xp : Nat) (xq : Nat) (r1 : Nat) (r2 : Nat) (r3 : Nat) (r4 : Nat) (se : Nat) (sz : Nat) : vx_Met l yX6_wholeShare wzX6_wholeShare ({ frames := 6, cells := 1, slots := 6, locals := 82 }) (va_Pc [.ref xo] (p_RW D G [] [(xo, .inr (6, [.ref xg, .int 0, .ref xp, .int 0, .ref xq, .int 0, .ref r1, .ref r2, .ref r3, .ref r4, .ref se, .int 0, .int 0, .int 40, .int 0, .int 0]))] sz)) (va_Qf (fun (r : UInt32) (u : Unit) => False) (fun (u : Unit) (t : State) => q_RW D [] [(xo, .inr (6, [.ref xg, .int 0, .ref xp, .int 0, .ref xq, .int 0, .ref r1, .ref r2, .ref r3, .ref r4, .ref se, .int 0, .int 0, .int 40, .int 0, .int 0]))] (va_A [(xo, .inr (6, [.ref xg, .int 0, .ref xp, .int 0, .ref xq, .int 0, .ref r1, .ref r2, .ref r3, .ref r4, .ref se, .int 0, .int 0, .int 40, .int 0, .int 0]))] sz) t) (va_A [(xo, .inr (6, [.ref xg, .int 0, .ref xp, .int 0, .ref xq, .int 0, .ref r1, .ref r2, .ref r3, .ref r4, .ref se, .int 0, .int 0, .int 40, .int 0, .int 0]))] sz)) (vx_X (fun (_ : Unit) => True) (fun E (_ : Unit) (t : State) => ((E = "java/util/NoSuchElementException")) ∧ q_RW D [] [(xo, .inr (6, [.ref xg, .int 0, .ref xp, .int 0, .ref xq, .int 0, .ref r1, .ref r2, .ref r3, .ref r4, .ref se, .int 0, .int 0, .int 40, .int 0, .int 0]))] (va_A [(xo, .inr (6, [.ref xg, .int 0, .ref xp, .int 0, .ref xq, .int 0, .ref r1, .ref r2, .ref r3, .ref r4, .ref se, .int 0, .int 0, .int 40, .int 0, .int 0]))] sz) t) (va_A [(xo, .inr (6, [.ref xg, .int 0, .ref xp, .int 0, .ref xq, .int 0, .ref r1, .ref r2, .ref r3, .ref r4, .ref se, .int 0, .int 0, .int 40, .int 0, .int 0]))] sz)) 1 6 (va_A [(xo, .inr (6, [.ref xg, .int 0, .ref xp, .int 0, .ref xq, .int 0, .ref r1, .ref r2, .ref r3, .ref r4, .ref se, .int 0, .int 0, .int 40, .int 0, .int 0]))] sz) := by
  refine vx_ofW (cc := cX6_wholeShare) (maxL := 2) (ret := (some .float)) (by decide) rfl ?_
  intro p e s m args below meth c s₁ B hml hxt hv
  obtain ⟨rfl, hsz, hP, hK, hD0, hT, hZ⟩ := hv
  have hx := B.exec
  have hb := B.bytes
  have hr := B.returns
  have hts := atoms_spec (ws := wzX6_wholeShare) B.pre
  have hown : s.vm.findClass RX6 = some m.cls := findClass_of_methodNamed B.named
  have hlocks := B.notSynchronized
  subst hsz
  have hD := hD0.self (sz := s.heap.size)
  generalize hAe : va_A [(xo, .inr (6, [.ref xg, .int 0, .ref xp, .int 0, .ref xq, .int 0, .ref r1, .ref r2, .ref r3, .ref r4, .ref se, .int 0, .int 0, .int 40, .int 0, .int 0]))] s.heap.size = A at hD hZ ⊢
  have hA : ∀ q : Nat, s.heap.size ≤ q → A q := fun q h => by rw [← hAe]; exact Or.inr h
  have hS : va_S A s.heap s.heap [] := va_S.rf
  have hl := lv_entry ([.ref xo]) (n := 2) (Nat.le_of_ble_eq_true rfl)
  rw [lg_entry_eq]
  generalize (lg_sl ([.ref xo]) ++ List.replicate (2 - (lg_sl ([.ref xo])).length) Slot.unset).toArray = ls at hl ⊢
  have hl : lv_has ls 2 [(0, .ref xo)] := hl
  refine lv_aload_n hx hb dX6_wholeShare_0 rfl (lv_at hl 0 rfl) ?_
  refine va_get (D := D) (cl := vwCl) (ci := 6) (v := .int 0) (C := RX6) (T := TX6) (N := 16) hx hb hts zuX6_wholeShare_X6 hown hK hP 0 rfl rfl 5 (by decide) (hts (.fieldLink RX6 34 "Gatherhouse" "pieceCount" "I") (by decide +kernel)) (fun _ h9 => h9) rfl dX6_wholeShare_1 ?_
  refine lv_if_gt (tgt := 18) hx hb dX6_wholeShare_4 (by decide) (fun cc => absurd cc (by decide)) (fun _ => ?_)
  obtain ⟨sa_81, hsa_81⟩ := hT.2.2.2.2.2.1 ("Gatherhouse", 358, "there are no pieces") (by decide +kernel)
  refine zx_throw (own := RX6) (cls := "java/util/NoSuchElementException") (up := "java/lang/RuntimeException") (r := ["java/lang/Exception"]) (A := A) hx hb hnt hown (by decide +kernel) (by decide +kernel) (by decide +kernel) (hts (.classLink RX6 280 "java/util/NoSuchElementException") (by decide +kernel)) (hts (.initialized "java/util/NoSuchElementException") (by decide +kernel)) hsa_81 (z_throwN (fun w h => hts w (ztX6_wholeShare_X6_284 w h)) (hT.2.2.1 ("java/util/NoSuchElementException", "java/util/NoSuchElementException") (by decide +kernel)) hT.2.2.2.2.2.2.2.1 (by decide +kernel)) (by decide +kernel) hZ.1 hZ.2.1 hS (hl.1.trans hml.symm) dX6_wholeShare_7 dX6_wholeShare_10 dX6_wholeShare_11 dX6_wholeShare_14 dX6_wholeShare_17 (fun x h => (hxt x h).elim) (Nat.le_of_ble_eq_true rfl) (Nat.le_of_ble_eq_true rfl) (Nat.le_of_ble_eq_true rfl) (Nat.le_of_ble_eq_true rfl) hlocks (fun t hvm hz1 hk1 => ⟨(), trivial, ⟨rfl, q_RW_th hP hK hD [0] [] rfl rfl (by decide) rfl hk1 hvm⟩, ⟨Nat.le_trans hS.1 hz1, fun q h1 h2 => (hk1 q (Nat.lt_of_lt_of_le h1 hS.1)).trans (hS.2.1 q h1 h2)⟩⟩) hS.2.2 (Nat.le_of_ble_eq_true rfl) (Nat.le_of_ble_eq_true rfl)
theorem dX6_meanMass_0 : decode cX6_meanMass 0 = .ok (.aload_n 0, 1) := by decide +kernel
theorem dX6_meanMass_1 : decode cX6_meanMass 1 = .ok (.getfield 34, 3) := by decide +kernel
theorem dX6_meanMass_4 : decode cX6_meanMass 4 = .ok (.ifCond .gt 14, 3) := by decide +kernel
theorem dX6_meanMass_7 : decode cX6_meanMass 7 = .ok (.new 280, 3) := by decide +kernel
theorem dX6_meanMass_10 : decode cX6_meanMass 10 = .ok (.dup, 1) := by decide +kernel
theorem dX6_meanMass_11 : decode cX6_meanMass 11 = .ok (.ldc_w 358, 3) := by decide +kernel
theorem dX6_meanMass_14 : decode cX6_meanMass 14 = .ok (.invokespecial 284, 3) := by decide +kernel
theorem dX6_meanMass_17 : decode cX6_meanMass 17 = .ok (.athrow, 1) := by decide +kernel
def wzEX6_meanMass : List Cond := [.code yX6_meanMass cX6_meanMass 6 (some .double), .fieldLink RX6 34 "Gatherhouse" "pieceCount" "I", .classLink RX6 280 "java/util/NoSuchElementException", .initialized "java/util/NoSuchElementException"]
def wzX6_meanMass : List Cond := wzEX6_meanMass ++ (u_ws RX6 TX6 16 ++ ((z_atN RX6 284 "java/util/NoSuchElementException" "java/lang/RuntimeException" ["java/lang/Exception"]).filter goodWord))
theorem zgEX6_meanMass : wzEX6_meanMass.all goodWord = true := by decide +kernel
theorem zuX6_meanMass_X6 : ∀ w ∈ u_ws RX6 TX6 16, w ∈ wzX6_meanMass := (fun _ h => (List.mem_append_right _ (List.mem_append_left _ h)))
theorem ztX6_meanMass_X6_284 : ∀ w ∈ (z_atN RX6 284 "java/util/NoSuchElementException" "java/lang/RuntimeException" ["java/lang/Exception"]).filter goodWord, w ∈ wzX6_meanMass := (fun _ h => (List.mem_append_right _ (List.mem_append_right _ h)))
set_option maxHeartbeats 4000000 in
set_option maxRecDepth 100000 in
theorem zc_X6_meanMass (l : Launch) (hnt : l.stackTraces = false) (D : va_G) (G : Nat × Nat × (Nat → Int32)) (xo : Nat) (xg : Nat) (xp : Nat) (xq : Nat) (r1 : Nat) (r2 : Nat) (r3 : Nat) (r4 : Nat) (se : Nat) (sz : Nat) : vx_Met l yX6_meanMass wzX6_meanMass ({ frames := 6, cells := 1, slots := 6, locals := 82 }) (va_Pc [.ref xo] (p_RW D G [] [(xo, .inr (6, [.ref xg, .int 0, .ref xp, .int 0, .ref xq, .int 0, .ref r1, .ref r2, .ref r3, .ref r4, .ref se, .int 0, .int 0, .int 40, .int 0, .int 0]))] sz)) (va_Qd (fun (r : UInt64) (u : Unit) => False) (fun (u : Unit) (t : State) => q_RW D [] [(xo, .inr (6, [.ref xg, .int 0, .ref xp, .int 0, .ref xq, .int 0, .ref r1, .ref r2, .ref r3, .ref r4, .ref se, .int 0, .int 0, .int 40, .int 0, .int 0]))] (va_A [(xo, .inr (6, [.ref xg, .int 0, .ref xp, .int 0, .ref xq, .int 0, .ref r1, .ref r2, .ref r3, .ref r4, .ref se, .int 0, .int 0, .int 40, .int 0, .int 0]))] sz) t) (va_A [(xo, .inr (6, [.ref xg, .int 0, .ref xp, .int 0, .ref xq, .int 0, .ref r1, .ref r2, .ref r3, .ref r4, .ref se, .int 0, .int 0, .int 40, .int 0, .int 0]))] sz)) (vx_X (fun (_ : Unit) => True) (fun E (_ : Unit) (t : State) => ((E = "java/util/NoSuchElementException")) ∧ q_RW D [] [(xo, .inr (6, [.ref xg, .int 0, .ref xp, .int 0, .ref xq, .int 0, .ref r1, .ref r2, .ref r3, .ref r4, .ref se, .int 0, .int 0, .int 40, .int 0, .int 0]))] (va_A [(xo, .inr (6, [.ref xg, .int 0, .ref xp, .int 0, .ref xq, .int 0, .ref r1, .ref r2, .ref r3, .ref r4, .ref se, .int 0, .int 0, .int 40, .int 0, .int 0]))] sz) t) (va_A [(xo, .inr (6, [.ref xg, .int 0, .ref xp, .int 0, .ref xq, .int 0, .ref r1, .ref r2, .ref r3, .ref r4, .ref se, .int 0, .int 0, .int 40, .int 0, .int 0]))] sz)) 1 6 (va_A [(xo, .inr (6, [.ref xg, .int 0, .ref xp, .int 0, .ref xq, .int 0, .ref r1, .ref r2, .ref r3, .ref r4, .ref se, .int 0, .int 0, .int 40, .int 0, .int 0]))] sz) := by
  refine vx_ofW (cc := cX6_meanMass) (maxL := 6) (ret := (some .double)) (by decide) rfl ?_
  intro p e s m args below meth c s₁ B hml hxt hv
  obtain ⟨rfl, hsz, hP, hK, hD0, hT, hZ⟩ := hv
  have hx := B.exec
  have hb := B.bytes
  have hr := B.returns
  have hts := atoms_spec (ws := wzX6_meanMass) B.pre
  have hown : s.vm.findClass RX6 = some m.cls := findClass_of_methodNamed B.named
  have hlocks := B.notSynchronized
  subst hsz
  have hD := hD0.self (sz := s.heap.size)
  generalize hAe : va_A [(xo, .inr (6, [.ref xg, .int 0, .ref xp, .int 0, .ref xq, .int 0, .ref r1, .ref r2, .ref r3, .ref r4, .ref se, .int 0, .int 0, .int 40, .int 0, .int 0]))] s.heap.size = A at hD hZ ⊢
  have hA : ∀ q : Nat, s.heap.size ≤ q → A q := fun q h => by rw [← hAe]; exact Or.inr h
  have hS : va_S A s.heap s.heap [] := va_S.rf
  have hl := lv_entry ([.ref xo]) (n := 6) (Nat.le_of_ble_eq_true rfl)
  rw [lg_entry_eq]
  generalize (lg_sl ([.ref xo]) ++ List.replicate (6 - (lg_sl ([.ref xo])).length) Slot.unset).toArray = ls at hl ⊢
  have hl : lv_has ls 6 [(0, .ref xo)] := hl
  refine lv_aload_n hx hb dX6_meanMass_0 rfl (lv_at hl 0 rfl) ?_
  refine va_get (D := D) (cl := vwCl) (ci := 6) (v := .int 0) (C := RX6) (T := TX6) (N := 16) hx hb hts zuX6_meanMass_X6 hown hK hP 0 rfl rfl 5 (by decide) (hts (.fieldLink RX6 34 "Gatherhouse" "pieceCount" "I") (by decide +kernel)) (fun _ h9 => h9) rfl dX6_meanMass_1 ?_
  refine lv_if_gt (tgt := 18) hx hb dX6_meanMass_4 (by decide) (fun cc => absurd cc (by decide)) (fun _ => ?_)
  obtain ⟨sa_82, hsa_82⟩ := hT.2.2.2.2.2.1 ("Gatherhouse", 358, "there are no pieces") (by decide +kernel)
  refine zx_throw (own := RX6) (cls := "java/util/NoSuchElementException") (up := "java/lang/RuntimeException") (r := ["java/lang/Exception"]) (A := A) hx hb hnt hown (by decide +kernel) (by decide +kernel) (by decide +kernel) (hts (.classLink RX6 280 "java/util/NoSuchElementException") (by decide +kernel)) (hts (.initialized "java/util/NoSuchElementException") (by decide +kernel)) hsa_82 (z_throwN (fun w h => hts w (ztX6_meanMass_X6_284 w h)) (hT.2.2.1 ("java/util/NoSuchElementException", "java/util/NoSuchElementException") (by decide +kernel)) hT.2.2.2.2.2.2.2.1 (by decide +kernel)) (by decide +kernel) hZ.1 hZ.2.1 hS (hl.1.trans hml.symm) dX6_meanMass_7 dX6_meanMass_10 dX6_meanMass_11 dX6_meanMass_14 dX6_meanMass_17 (fun x h => (hxt x h).elim) (Nat.le_of_ble_eq_true rfl) (Nat.le_of_ble_eq_true rfl) (Nat.le_of_ble_eq_true rfl) (Nat.le_of_ble_eq_true rfl) hlocks (fun t hvm hz1 hk1 => ⟨(), trivial, ⟨rfl, q_RW_th hP hK hD [0] [] rfl rfl (by decide) rfl hk1 hvm⟩, ⟨Nat.le_trans hS.1 hz1, fun q h1 h2 => (hk1 q (Nat.lt_of_lt_of_le h1 hS.1)).trans (hS.2.1 q h1 h2)⟩⟩) hS.2.2 (Nat.le_of_ble_eq_true rfl) (Nat.le_of_ble_eq_true rfl)
theorem dX6_time_0 : decode cX6_time 0 = .ok (.aload_n 0, 1) := by decide +kernel
theorem dX6_time_1 : decode cX6_time 1 = .ok (.getfield 60, 3) := by decide +kernel
theorem dX6_time_4 : decode cX6_time 4 = .ok (.ireturn, 1) := by decide +kernel
def wzEX6_time : List Cond := [.code yX6_time cX6_time 1 (some .int), .fieldLink RX6 60 "Gatherhouse" "secondsGone" "I"]
def wzX6_time : List Cond := wzEX6_time ++ (u_ws RX6 TX6 16)
theorem zgEX6_time : wzEX6_time.all goodWord = true := by decide +kernel
theorem zuX6_time_X6 : ∀ w ∈ u_ws RX6 TX6 16, w ∈ wzX6_time := (fun _ h => (List.mem_append_right _ h))
set_option maxHeartbeats 4000000 in
set_option maxRecDepth 100000 in
theorem zc_X6_time (l : Launch) (D : va_G) (G : Nat × Nat × (Nat → Int32)) (xo : Nat) (xg : Nat) (gc : Int32) (xp : Nat) (pc : Int32) (xq : Nat) (qc : Int32) (r1 : Nat) (r2 : Nat) (r3 : Nat) (r4 : Nat) (se : Nat) (ts : Int32) (hou : Int32) (dr : Int32) (su : Int32) (br : Int32) : Met l yX6_time wzX6_time ({ frames := 0, cells := 0, slots := 0, locals := 0 }) (va_Pc [.ref xo] (p_RO D G [] [(xo, .inr (6, [.ref xg, .int gc, .ref xp, .int pc, .ref xq, .int qc, .ref r1, .ref r2, .ref r3, .ref r4, .ref se, .int ts, .int hou, .int dr, .int su, .int br]))])) (vp_Si (fun r => r = ts)) 0 0 (fun _ => False) := by
  refine Met.ofW (cc := cX6_time) (maxL := 1) (ret := (some .int)) (by decide) rfl ?_
  intro p e s m args below meth c s₁ B hml hv
  obtain ⟨rfl, hP, hK, hT⟩ := hv
  have hx := B.exec
  have hb := B.bytes
  have hr := B.returns
  have hts := atoms_spec (ws := wzX6_time) B.pre
  have hown : s.vm.findClass RX6 = some m.cls := findClass_of_methodNamed B.named
  have hlocks := B.notSynchronized
  have hl := lv_entry ([.ref xo]) (n := 1) (Nat.le_of_ble_eq_true rfl)
  rw [lg_entry_eq]
  generalize (lg_sl ([.ref xo]) ++ List.replicate (1 - (lg_sl ([.ref xo])).length) Slot.unset).toArray = ls at hl ⊢
  have hl : lv_has ls 1 [(0, .ref xo)] := hl
  refine lv_aload_n hx hb dX6_time_0 rfl (lv_at hl 0 rfl) ?_
  refine va_get (D := D) (cl := vwCl) (ci := 6) (v := .int ts) (C := RX6) (T := TX6) (N := 16) hx hb hts zuX6_time_X6 hown hK hP 0 rfl rfl 11 (by decide) (hts (.fieldLink RX6 60 "Gatherhouse" "secondsGone" "I") (by decide +kernel)) (fun _ h9 => h9) rfl dX6_time_1 ?_
  exact W.iret (v := ts) hx hb hr (fun t ht hW => ⟨ts, rfl, rfl, ht⟩) (fun q h => by cases h) dX6_time_4
theorem dX6_takings_0 : decode cX6_takings 0 = .ok (.aload_n 0, 1) := by decide +kernel
theorem dX6_takings_1 : decode cX6_takings 1 = .ok (.getfield 69, 3) := by decide +kernel
theorem dX6_takings_4 : decode cX6_takings 4 = .ok (.ireturn, 1) := by decide +kernel
def wzEX6_takings : List Cond := [.code yX6_takings cX6_takings 1 (some .int), .fieldLink RX6 69 "Gatherhouse" "sumOfSales" "I"]
def wzX6_takings : List Cond := wzEX6_takings ++ (u_ws RX6 TX6 16)
theorem zgEX6_takings : wzEX6_takings.all goodWord = true := by decide +kernel
theorem zuX6_takings_X6 : ∀ w ∈ u_ws RX6 TX6 16, w ∈ wzX6_takings := (fun _ h => (List.mem_append_right _ h))
set_option maxHeartbeats 4000000 in
set_option maxRecDepth 100000 in
theorem zc_X6_takings (l : Launch) (D : va_G) (G : Nat × Nat × (Nat → Int32)) (xo : Nat) (xg : Nat) (gc : Int32) (xp : Nat) (pc : Int32) (xq : Nat) (qc : Int32) (r1 : Nat) (r2 : Nat) (r3 : Nat) (r4 : Nat) (se : Nat) (ts : Int32) (hou : Int32) (dr : Int32) (su : Int32) (br : Int32) : Met l yX6_takings wzX6_takings ({ frames := 0, cells := 0, slots := 0, locals := 0 }) (va_Pc [.ref xo] (p_RO D G [] [(xo, .inr (6, [.ref xg, .int gc, .ref xp, .int pc, .ref xq, .int qc, .ref r1, .ref r2, .ref r3, .ref r4, .ref se, .int ts, .int hou, .int dr, .int su, .int br]))])) (vp_Si (fun r => r = su)) 0 0 (fun _ => False) := by
  refine Met.ofW (cc := cX6_takings) (maxL := 1) (ret := (some .int)) (by decide) rfl ?_
  intro p e s m args below meth c s₁ B hml hv
  obtain ⟨rfl, hP, hK, hT⟩ := hv
  have hx := B.exec
  have hb := B.bytes
  have hr := B.returns
  have hts := atoms_spec (ws := wzX6_takings) B.pre
  have hown : s.vm.findClass RX6 = some m.cls := findClass_of_methodNamed B.named
  have hlocks := B.notSynchronized
  have hl := lv_entry ([.ref xo]) (n := 1) (Nat.le_of_ble_eq_true rfl)
  rw [lg_entry_eq]
  generalize (lg_sl ([.ref xo]) ++ List.replicate (1 - (lg_sl ([.ref xo])).length) Slot.unset).toArray = ls at hl ⊢
  have hl : lv_has ls 1 [(0, .ref xo)] := hl
  refine lv_aload_n hx hb dX6_takings_0 rfl (lv_at hl 0 rfl) ?_
  refine va_get (D := D) (cl := vwCl) (ci := 6) (v := .int su) (C := RX6) (T := TX6) (N := 16) hx hb hts zuX6_takings_X6 hown hK hP 0 rfl rfl 14 (by decide) (hts (.fieldLink RX6 69 "Gatherhouse" "sumOfSales" "I") (by decide +kernel)) (fun _ h9 => h9) rfl dX6_takings_1 ?_
  exact W.iret (v := su) hx hb hr (fun t ht hW => ⟨su, rfl, rfl, ht⟩) (fun q h => by cases h) dX6_takings_4
theorem dX6_day_0 : decode cX6_day 0 = .ok (.aload_n 0, 1) := by decide +kernel
theorem dX6_day_1 : decode cX6_day 1 = .ok (.getfield 63, 3) := by decide +kernel
theorem dX6_day_4 : decode cX6_day 4 = .ok (.bipush 24, 2) := by decide +kernel
theorem dX6_day_6 : decode cX6_day 6 = .ok (.idiv, 1) := by decide +kernel
theorem dX6_day_7 : decode cX6_day 7 = .ok (.ireturn, 1) := by decide +kernel
def wzEX6_day : List Cond := [.code yX6_day cX6_day 1 (some .int), .fieldLink RX6 63 "Gatherhouse" "hoursGone" "I"]
def wzX6_day : List Cond := wzEX6_day ++ (u_ws RX6 TX6 16)
theorem zgEX6_day : wzEX6_day.all goodWord = true := by decide +kernel
theorem zuX6_day_X6 : ∀ w ∈ u_ws RX6 TX6 16, w ∈ wzX6_day := (fun _ h => (List.mem_append_right _ h))
set_option maxHeartbeats 4000000 in
set_option maxRecDepth 100000 in
theorem zc_X6_day (l : Launch) (D : va_G) (G : Nat × Nat × (Nat → Int32)) (xo : Nat) (xg : Nat) (gc : Int32) (xp : Nat) (pc : Int32) (xq : Nat) (qc : Int32) (r1 : Nat) (r2 : Nat) (r3 : Nat) (r4 : Nat) (se : Nat) (ts : Int32) (dr : Int32) (su : Int32) (br : Int32) : Met l yX6_day wzX6_day ({ frames := 0, cells := 0, slots := 0, locals := 0 }) (va_Pc [.ref xo] (p_RO D G [] [(xo, .inr (6, [.ref xg, .int gc, .ref xp, .int pc, .ref xq, .int qc, .ref r1, .ref r2, .ref r3, .ref r4, .ref se, .int ts, .int 0, .int dr, .int su, .int br]))])) (vp_Si (fun r => r = 0)) 0 0 (fun _ => False) := by
  refine Met.ofW (cc := cX6_day) (maxL := 1) (ret := (some .int)) (by decide) rfl ?_
  intro p e s m args below meth c s₁ B hml hv
  obtain ⟨rfl, hP, hK, hT⟩ := hv
  have hx := B.exec
  have hb := B.bytes
  have hr := B.returns
  have hts := atoms_spec (ws := wzX6_day) B.pre
  have hown : s.vm.findClass RX6 = some m.cls := findClass_of_methodNamed B.named
  have hlocks := B.notSynchronized
  have hl := lv_entry ([.ref xo]) (n := 1) (Nat.le_of_ble_eq_true rfl)
  rw [lg_entry_eq]
  generalize (lg_sl ([.ref xo]) ++ List.replicate (1 - (lg_sl ([.ref xo])).length) Slot.unset).toArray = ls at hl ⊢
  have hl : lv_has ls 1 [(0, .ref xo)] := hl
  refine lv_aload_n hx hb dX6_day_0 rfl (lv_at hl 0 rfl) ?_
  refine va_get (D := D) (cl := vwCl) (ci := 6) (v := .int 0) (C := RX6) (T := TX6) (N := 16) hx hb hts zuX6_day_X6 hown hK hP 0 rfl rfl 12 (by decide) (hts (.fieldLink RX6 63 "Gatherhouse" "hoursGone" "I") (by decide +kernel)) (fun _ h9 => h9) rfl dX6_day_1 ?_
  refine lv_bipush (v := 24) hx hb dX6_day_4 (by decide) ?_
  refine lv_idiv hx hb dX6_day_6 (by decide) ?_
  refine lv_topi (fun y_83 ey_83 => ?_)
  have ey_83 : y_83 = 0 := ey_83.trans (by decide +kernel)
  subst ey_83
  exact W.iret (v := 0) hx hb hr (fun t ht hW => ⟨0, rfl, rfl, ht⟩) (fun q h => by cases h) dX6_day_7
theorem dX6_lehr_0 : decode cX6_lehr 0 = .ok (.aload_n 0, 1) := by decide +kernel
theorem dX6_lehr_1 : decode cX6_lehr 1 = .ok (.bipush 108, 2) := by decide +kernel
theorem dX6_lehr_3 : decode cX6_lehr 3 = .ok (.invokevirtual 274, 3) := by decide +kernel
theorem dX6_lehr_6 : decode cX6_lehr 6 = .ok (.ireturn, 1) := by decide +kernel
def wzEX6_lehr : List Cond := [.code yX6_lehr cX6_lehr 1 (some .int), .methodLink RX6 274 yX6_countOf, .instanceMethod yX6_countOf, .selects RX6 yX6_countOf yX6_countOf, .initialized RX6, .code yX6_countOf cX6_countOf 7 (some .int), .fieldLink RX6 30 "Gatherhouse" "pieces" "[LGatherhouse$Piece;"]
def wzX6_lehr : List Cond := wzEX6_lehr ++ (u_ws RX6 TX6 16)
theorem zgEX6_lehr : wzEX6_lehr.all goodWord = true := by decide +kernel
theorem zuX6_lehr_X6 : ∀ w ∈ u_ws RX6 TX6 16, w ∈ wzX6_lehr := (fun _ h => (List.mem_append_right _ h))
theorem gzX6_lehr_X6_countOf_274 : GoodIn wzX6_lehr (wsV RX6 274 RX6 yX6_countOf wzX6_countOf) := (goodIn_app (z_lift (goodIn_r _ [1, 2, 3, 4] rfl (by decide +kernel))) (goodIn_app (z_lift (goodIn_r wzEX6_countOf [5, 6] rfl zgEX6_countOf)) (goodIn_sub (fun _ h => (List.mem_append_right _ h)) zgU_X6)))
set_option maxHeartbeats 4000000 in
set_option maxRecDepth 100000 in
theorem zc_X6_lehr (l : Launch) (D : va_G) (G : Nat × Nat × (Nat → Int32)) (xo : Nat) (xg : Nat) (gc : Int32) (xp : Nat) (pc : Int32) (xq : Nat) (qc : Int32) (r1 : Nat) (r2 : Nat) (r3 : Nat) (r4 : Nat) (se : Nat) (ts : Int32) (hou : Int32) (dr : Int32) (su : Int32) (br : Int32) (cq : ClassId) : Met l yX6_lehr wzX6_lehr ({ frames := 1, cells := 0, slots := 0, locals := 26 }) (va_Pc [.ref xo] (p_RO D G [(cq, .object "Gatherhouse$Piece")] [(xo, .inr (6, [.ref xg, .int gc, .ref xp, .int pc, .ref xq, .int qc, .ref r1, .ref r2, .ref r3, .ref r4, .ref se, .int ts, .int hou, .int dr, .int su, .int br])), (xq, .inl (cq, 16, .inr (.inr (.inr (.inr (zq [none, none, none, none, none, none, none, none, none, none, none, none, none, none, none, none]))))))])) (vp_Si (fun r => r = 0)) 0 0 (fun _ => False) := by
  refine Met.ofW (cc := cX6_lehr) (maxL := 1) (ret := (some .int)) (by decide) rfl ?_
  intro p e s m args below meth c s₁ B hml hv
  obtain ⟨rfl, hP, hK, hT⟩ := hv
  have hx := B.exec
  have hb := B.bytes
  have hr := B.returns
  have hts := atoms_spec (ws := wzX6_lehr) B.pre
  have hown : s.vm.findClass RX6 = some m.cls := findClass_of_methodNamed B.named
  have hlocks := B.notSynchronized
  have hl := lv_entry ([.ref xo]) (n := 1) (Nat.le_of_ble_eq_true rfl)
  rw [lg_entry_eq]
  generalize (lg_sl ([.ref xo]) ++ List.replicate (1 - (lg_sl ([.ref xo])).length) Slot.unset).toArray = ls at hl ⊢
  have hl : lv_has ls 1 [(0, .ref xo)] := hl
  refine lv_aload_n hx hb dX6_lehr_0 rfl (lv_at hl 0 rfl) ?_
  refine lv_bipush (v := 108) hx hb dX6_lehr_1 (by decide) ?_
  refine vp_callSi (va_runV (As := [.int 108]) (rest := []) ⟨hx, hb, hml, hown, hts⟩ (zc_X6_countOf l D G xo 108 xg gc xp pc xq qc r1 r2 r3 r4 se ts hou dr su br cq) (cwV 1 hts gzX6_lehr_X6_countOf_274 rfl rfl rfl (by decide +kernel) ⟨(Nat.le_of_ble_eq_true rfl), (Nat.le_of_ble_eq_true rfl)⟩) ⟨p_RO_blind, va_recv hK hP (ci := 6) (q0 := 0) rfl rfl, (p_RO_at (tc := [(cq, .object "Gatherhouse$Piece")]) (wc := [(xo, .inr (6, [.ref xg, .int gc, .ref xp, .int pc, .ref xq, .int qc, .ref r1, .ref r2, .ref r3, .ref r4, .ref se, .int ts, .int hou, .int dr, .int su, .int br])), (xq, .inl (cq, 16, .inr (.inr (.inr (.inr (zq [none, none, none, none, none, none, none, none, none, none, none, none, none, none, none, none]))))))]) hP hK hT [0, 1] [0] rfl rfl [.ref xo, .int 108])⟩ rfl rfl hl.1 rfl (lv_room (Nat.le_of_ble_eq_true rfl)) dX6_lehr_3 ⟨(Nat.le_of_ble_eq_true rfl), (Nat.le_of_ble_eq_true rfl)⟩).run (fun r_84 w_85 => ?_)
  obtain rfl := w_85
  exact W.iret (v := 0) hx hb hr (fun t ht hW => ⟨0, rfl, rfl, ht⟩) (fun q h => by cases h) dX6_lehr_6
theorem dX6_isSound_0 : decode cX6_isSound 0 = .ok (.aload_n 0, 1) := by decide +kernel
theorem dX6_isSound_1 : decode cX6_isSound 1 = .ok (.getfield 30, 3) := by decide +kernel
theorem dX6_isSound_4 : decode cX6_isSound 4 = .ok (.astore_n 1, 1) := by decide +kernel
theorem dX6_isSound_5 : decode cX6_isSound 5 = .ok (.aload_n 1, 1) := by decide +kernel
theorem dX6_isSound_6 : decode cX6_isSound 6 = .ok (.arraylength, 1) := by decide +kernel
theorem dX6_isSound_7 : decode cX6_isSound 7 = .ok (.istore_n 2, 1) := by decide +kernel
theorem dX6_isSound_8 : decode cX6_isSound 8 = .ok (.iconst 0, 1) := by decide +kernel
theorem dX6_isSound_9 : decode cX6_isSound 9 = .ok (.istore_n 3, 1) := by decide +kernel
theorem dX6_isSound_10 : decode cX6_isSound 10 = .ok (.iload_n 3, 1) := by decide +kernel
theorem dX6_isSound_11 : decode cX6_isSound 11 = .ok (.iload_n 2, 1) := by decide +kernel
theorem dX6_isSound_12 : decode cX6_isSound 12 = .ok (.if_icmp .ge 29, 3) := by decide +kernel
theorem dX6_isSound_15 : decode cX6_isSound 15 = .ok (.aload_n 1, 1) := by decide +kernel
theorem dX6_isSound_16 : decode cX6_isSound 16 = .ok (.iload_n 3, 1) := by decide +kernel
theorem dX6_isSound_17 : decode cX6_isSound 17 = .ok (.aaload, 1) := by decide +kernel
theorem dX6_isSound_18 : decode cX6_isSound 18 = .ok (.astore 4, 2) := by decide +kernel
theorem dX6_isSound_20 : decode cX6_isSound 20 = .ok (.aload 4, 2) := by decide +kernel
theorem dX6_isSound_22 : decode cX6_isSound 22 = .ok (.ifnull 13, 3) := by decide +kernel
theorem dX6_isSound_35 : decode cX6_isSound 35 = .ok (.iinc 3 1, 3) := by decide +kernel
theorem dX6_isSound_38 : decode cX6_isSound 38 = .ok (.goto (-28), 3) := by decide +kernel
theorem dX6_isSound_41 : decode cX6_isSound 41 = .ok (.aload_n 0, 1) := by decide +kernel
theorem dX6_isSound_42 : decode cX6_isSound 42 = .ok (.bipush 108, 2) := by decide +kernel
theorem dX6_isSound_44 : decode cX6_isSound 44 = .ok (.invokevirtual 274, 3) := by decide +kernel
theorem dX6_isSound_47 : decode cX6_isSound 47 = .ok (.bipush 6, 2) := by decide +kernel
theorem dX6_isSound_49 : decode cX6_isSound 49 = .ok (.if_icmp .gt 7, 3) := by decide +kernel
theorem dX6_isSound_52 : decode cX6_isSound 52 = .ok (.iconst 1, 1) := by decide +kernel
theorem dX6_isSound_53 : decode cX6_isSound 53 = .ok (.goto 4, 3) := by decide +kernel
theorem dX6_isSound_57 : decode cX6_isSound 57 = .ok (.ireturn, 1) := by decide +kernel
def wzEX6_isSound : List Cond := [.code yX6_isSound cX6_isSound 5 (some .boolean), .fieldLink RX6 30 "Gatherhouse" "pieces" "[LGatherhouse$Piece;", .methodLink RX6 274 yX6_countOf, .instanceMethod yX6_countOf, .selects RX6 yX6_countOf yX6_countOf, .initialized RX6, .code yX6_countOf cX6_countOf 7 (some .int)]
def wzX6_isSound : List Cond := wzEX6_isSound ++ (u_ws RX6 TX6 16)
theorem zgEX6_isSound : wzEX6_isSound.all goodWord = true := by decide +kernel
theorem zuX6_isSound_X6 : ∀ w ∈ u_ws RX6 TX6 16, w ∈ wzX6_isSound := (fun _ h => (List.mem_append_right _ h))
theorem gzX6_isSound_X6_countOf_274 : GoodIn wzX6_isSound (wsV RX6 274 RX6 yX6_countOf wzX6_countOf) := (goodIn_app (z_lift (goodIn_r _ [2, 3, 4, 5] rfl (by decide +kernel))) (goodIn_app (z_lift (goodIn_r wzEX6_countOf [6, 1] rfl zgEX6_countOf)) (goodIn_sub (fun _ h => (List.mem_append_right _ h)) zgU_X6)))
set_option maxHeartbeats 4000000 in
set_option maxRecDepth 100000 in
theorem zc_X6_isSound (l : Launch) (D : va_G) (G : Nat × Nat × (Nat → Int32)) (xo : Nat) (xg : Nat) (gc : Int32) (xp : Nat) (pc : Int32) (xq : Nat) (qc : Int32) (r1 : Nat) (r2 : Nat) (r3 : Nat) (r4 : Nat) (se : Nat) (ts : Int32) (hou : Int32) (dr : Int32) (su : Int32) (br : Int32) (cq : ClassId) : Met l yX6_isSound wzX6_isSound ({ frames := 1, cells := 0, slots := 0, locals := 26 }) (va_Pc [.ref xo] (p_RO D G [(cq, .object "Gatherhouse$Piece")] [(xo, .inr (6, [.ref xg, .int gc, .ref xp, .int pc, .ref xq, .int qc, .ref r1, .ref r2, .ref r3, .ref r4, .ref se, .int ts, .int hou, .int dr, .int su, .int br])), (xq, .inl (cq, 16, .inr (.inr (.inr (.inr (zq [none, none, none, none, none, none, none, none, none, none, none, none, none, none, none, none]))))))])) (vp_Si (fun r => r = 1)) 0 0 (fun _ => False) := by
  refine Met.ofW (cc := cX6_isSound) (maxL := 5) (ret := (some .boolean)) (by decide) rfl ?_
  intro p e s m args below meth c s₁ B hml hv
  obtain ⟨rfl, hP, hK, hT⟩ := hv
  have hx := B.exec
  have hb := B.bytes
  have hr := B.returns
  have hts := atoms_spec (ws := wzX6_isSound) B.pre
  have hown : s.vm.findClass RX6 = some m.cls := findClass_of_methodNamed B.named
  have hlocks := B.notSynchronized
  have hl := lv_entry ([.ref xo]) (n := 5) (Nat.le_of_ble_eq_true rfl)
  rw [lg_entry_eq]
  generalize (lg_sl ([.ref xo]) ++ List.replicate (5 - (lg_sl ([.ref xo])).length) Slot.unset).toArray = ls at hl ⊢
  have hl : lv_has ls 5 [(0, .ref xo)] := hl
  refine lv_aload_n hx hb dX6_isSound_0 rfl (lv_at hl 0 rfl) ?_
  refine va_get (D := D) (cl := vwCl) (ci := 6) (v := .ref xq) (C := RX6) (T := TX6) (N := 16) hx hb hts zuX6_isSound_X6 hown hK hP 0 rfl rfl 4 (by decide) (hts (.fieldLink RX6 30 "Gatherhouse" "pieces" "[LGatherhouse$Piece;") (by decide +kernel)) (fun _ h9 => h9) rfl dX6_isSound_1 ?_
  refine lv_astore_n (lv' := [(1, .ref xq), (0, .ref xo)]) hx hb dX6_isSound_4 rfl hl (by decide) rfl (fun ls hl => ?_)
  refine lv_aload_n hx hb dX6_isSound_5 rfl (lv_at hl 0 rfl) ?_
  refine va_alen (D := D) (cl := vwCl) (v := 16) hx hb hK hP 1 0 rfl rfl rfl dX6_isSound_6 ?_
  refine lv_istore_n (lv' := [(2, .int 16), (1, .ref xq), (0, .ref xo)]) hx hb dX6_isSound_7 rfl hl (by decide) rfl (fun ls hl => ?_)
  refine lv_iconst (v := 0) hx hb dX6_isSound_8 (by decide) ?_
  refine lv_istore_n (lv' := [(3, .int 0), (2, .int 16), (1, .ref xq), (0, .ref xo)]) hx hb dX6_isSound_9 rfl hl (by decide) rfl (fun ls hl => ?_)
  refine lv_iload_n hx hb dX6_isSound_10 rfl (lv_at hl 0 rfl) ?_
  refine lv_iload_n hx hb dX6_isSound_11 rfl (lv_at hl 1 rfl) ?_
  refine lv_icmp_ge (tgt := 41) hx hb dX6_isSound_12 (by decide) (fun cc => absurd cc (by decide)) (fun _ => ?_)
  refine lv_aload_n hx hb dX6_isSound_15 rfl (lv_at hl 2 rfl) ?_
  refine lv_iload_n hx hb dX6_isSound_16 rfl (lv_at hl 0 rfl) ?_
  refine va_aldq (D := D) (cl := vwCl) hx hb hK hP 1 0 rfl rfl (vp_in_nI (n := 0) (N := 16) (by decide) (by decide)) dX6_isSound_17 ?_
  refine W.eq (g2 := F0 m 18 ls [.null]) rfl ?_
  refine lv_astoreN (lv' := [(4, .null), (3, .int 0), (2, .int 16), (1, .ref xq), (0, .ref xo)]) hx hb dX6_isSound_18 hl (by decide) rfl (fun ls hl => ?_)
  refine lv_aloadN hx hb dX6_isSound_20 (lv_at hl 0 rfl) ?_
  refine lv_ifnullN (tgt := 35) hx hb dX6_isSound_22 (by decide) ?_
  obtain ⟨x_86, ex_86⟩ : ∃ y : Int32, y = 0 + 1 := ⟨_, rfl⟩
  have ex_86 : x_86 = 1 := ex_86.trans (by decide)
  subst ex_86
  refine lv_iinc (v := 1) (lv' := [(3, .int 1), (4, .null), (2, .int 16), (1, .ref xq), (0, .ref xo)]) hx hb dX6_isSound_35 hl (k := 1) rfl (by decide) (by decide) rfl (fun ls hl => ?_)
  refine lv_goto (tgt := 10) hx hb dX6_isSound_38 (by decide) ?_
  refine lv_iload_n hx hb dX6_isSound_10 rfl (lv_at hl 0 rfl) ?_
  refine lv_iload_n hx hb dX6_isSound_11 rfl (lv_at hl 2 rfl) ?_
  refine lv_icmp_ge (tgt := 41) hx hb dX6_isSound_12 (by decide) (fun cc => absurd cc (by decide)) (fun _ => ?_)
  refine lv_aload_n hx hb dX6_isSound_15 rfl (lv_at hl 3 rfl) ?_
  refine lv_iload_n hx hb dX6_isSound_16 rfl (lv_at hl 0 rfl) ?_
  refine va_aldq (D := D) (cl := vwCl) hx hb hK hP 1 0 rfl rfl (vp_in_nI (n := 1) (N := 16) (by decide) (by decide)) dX6_isSound_17 ?_
  refine W.eq (g2 := F0 m 18 ls [.null]) rfl ?_
  refine lv_astoreN (lv' := [(4, .null), (3, .int 1), (2, .int 16), (1, .ref xq), (0, .ref xo)]) hx hb dX6_isSound_18 hl (by decide) rfl (fun ls hl => ?_)
  refine lv_aloadN hx hb dX6_isSound_20 (lv_at hl 0 rfl) ?_
  refine lv_ifnullN (tgt := 35) hx hb dX6_isSound_22 (by decide) ?_
  obtain ⟨x_87, ex_87⟩ : ∃ y : Int32, y = 1 + 1 := ⟨_, rfl⟩
  have ex_87 : x_87 = 2 := ex_87.trans (by decide)
  subst ex_87
  refine lv_iinc (v := 2) (lv' := [(3, .int 2), (4, .null), (2, .int 16), (1, .ref xq), (0, .ref xo)]) hx hb dX6_isSound_35 hl (k := 1) rfl (by decide) (by decide) rfl (fun ls hl => ?_)
  refine lv_goto (tgt := 10) hx hb dX6_isSound_38 (by decide) ?_
  refine lv_iload_n hx hb dX6_isSound_10 rfl (lv_at hl 0 rfl) ?_
  refine lv_iload_n hx hb dX6_isSound_11 rfl (lv_at hl 2 rfl) ?_
  refine lv_icmp_ge (tgt := 41) hx hb dX6_isSound_12 (by decide) (fun cc => absurd cc (by decide)) (fun _ => ?_)
  refine lv_aload_n hx hb dX6_isSound_15 rfl (lv_at hl 3 rfl) ?_
  refine lv_iload_n hx hb dX6_isSound_16 rfl (lv_at hl 0 rfl) ?_
  refine va_aldq (D := D) (cl := vwCl) hx hb hK hP 1 0 rfl rfl (vp_in_nI (n := 2) (N := 16) (by decide) (by decide)) dX6_isSound_17 ?_
  refine W.eq (g2 := F0 m 18 ls [.null]) rfl ?_
  refine lv_astoreN (lv' := [(4, .null), (3, .int 2), (2, .int 16), (1, .ref xq), (0, .ref xo)]) hx hb dX6_isSound_18 hl (by decide) rfl (fun ls hl => ?_)
  refine lv_aloadN hx hb dX6_isSound_20 (lv_at hl 0 rfl) ?_
  refine lv_ifnullN (tgt := 35) hx hb dX6_isSound_22 (by decide) ?_
  obtain ⟨x_88, ex_88⟩ : ∃ y : Int32, y = 2 + 1 := ⟨_, rfl⟩
  have ex_88 : x_88 = 3 := ex_88.trans (by decide)
  subst ex_88
  refine lv_iinc (v := 3) (lv' := [(3, .int 3), (4, .null), (2, .int 16), (1, .ref xq), (0, .ref xo)]) hx hb dX6_isSound_35 hl (k := 1) rfl (by decide) (by decide) rfl (fun ls hl => ?_)
  refine lv_goto (tgt := 10) hx hb dX6_isSound_38 (by decide) ?_
  refine lv_iload_n hx hb dX6_isSound_10 rfl (lv_at hl 0 rfl) ?_
  refine lv_iload_n hx hb dX6_isSound_11 rfl (lv_at hl 2 rfl) ?_
  refine lv_icmp_ge (tgt := 41) hx hb dX6_isSound_12 (by decide) (fun cc => absurd cc (by decide)) (fun _ => ?_)
  refine lv_aload_n hx hb dX6_isSound_15 rfl (lv_at hl 3 rfl) ?_
  refine lv_iload_n hx hb dX6_isSound_16 rfl (lv_at hl 0 rfl) ?_
  refine va_aldq (D := D) (cl := vwCl) hx hb hK hP 1 0 rfl rfl (vp_in_nI (n := 3) (N := 16) (by decide) (by decide)) dX6_isSound_17 ?_
  refine W.eq (g2 := F0 m 18 ls [.null]) rfl ?_
  refine lv_astoreN (lv' := [(4, .null), (3, .int 3), (2, .int 16), (1, .ref xq), (0, .ref xo)]) hx hb dX6_isSound_18 hl (by decide) rfl (fun ls hl => ?_)
  refine lv_aloadN hx hb dX6_isSound_20 (lv_at hl 0 rfl) ?_
  refine lv_ifnullN (tgt := 35) hx hb dX6_isSound_22 (by decide) ?_
  obtain ⟨x_89, ex_89⟩ : ∃ y : Int32, y = 3 + 1 := ⟨_, rfl⟩
  have ex_89 : x_89 = 4 := ex_89.trans (by decide)
  subst ex_89
  refine lv_iinc (v := 4) (lv' := [(3, .int 4), (4, .null), (2, .int 16), (1, .ref xq), (0, .ref xo)]) hx hb dX6_isSound_35 hl (k := 1) rfl (by decide) (by decide) rfl (fun ls hl => ?_)
  refine lv_goto (tgt := 10) hx hb dX6_isSound_38 (by decide) ?_
  refine lv_iload_n hx hb dX6_isSound_10 rfl (lv_at hl 0 rfl) ?_
  refine lv_iload_n hx hb dX6_isSound_11 rfl (lv_at hl 2 rfl) ?_
  refine lv_icmp_ge (tgt := 41) hx hb dX6_isSound_12 (by decide) (fun cc => absurd cc (by decide)) (fun _ => ?_)
  refine lv_aload_n hx hb dX6_isSound_15 rfl (lv_at hl 3 rfl) ?_
  refine lv_iload_n hx hb dX6_isSound_16 rfl (lv_at hl 0 rfl) ?_
  refine va_aldq (D := D) (cl := vwCl) hx hb hK hP 1 0 rfl rfl (vp_in_nI (n := 4) (N := 16) (by decide) (by decide)) dX6_isSound_17 ?_
  refine W.eq (g2 := F0 m 18 ls [.null]) rfl ?_
  refine lv_astoreN (lv' := [(4, .null), (3, .int 4), (2, .int 16), (1, .ref xq), (0, .ref xo)]) hx hb dX6_isSound_18 hl (by decide) rfl (fun ls hl => ?_)
  refine lv_aloadN hx hb dX6_isSound_20 (lv_at hl 0 rfl) ?_
  refine lv_ifnullN (tgt := 35) hx hb dX6_isSound_22 (by decide) ?_
  obtain ⟨x_90, ex_90⟩ : ∃ y : Int32, y = 4 + 1 := ⟨_, rfl⟩
  have ex_90 : x_90 = 5 := ex_90.trans (by decide)
  subst ex_90
  refine lv_iinc (v := 5) (lv' := [(3, .int 5), (4, .null), (2, .int 16), (1, .ref xq), (0, .ref xo)]) hx hb dX6_isSound_35 hl (k := 1) rfl (by decide) (by decide) rfl (fun ls hl => ?_)
  refine lv_goto (tgt := 10) hx hb dX6_isSound_38 (by decide) ?_
  refine lv_iload_n hx hb dX6_isSound_10 rfl (lv_at hl 0 rfl) ?_
  refine lv_iload_n hx hb dX6_isSound_11 rfl (lv_at hl 2 rfl) ?_
  refine lv_icmp_ge (tgt := 41) hx hb dX6_isSound_12 (by decide) (fun cc => absurd cc (by decide)) (fun _ => ?_)
  refine lv_aload_n hx hb dX6_isSound_15 rfl (lv_at hl 3 rfl) ?_
  refine lv_iload_n hx hb dX6_isSound_16 rfl (lv_at hl 0 rfl) ?_
  refine va_aldq (D := D) (cl := vwCl) hx hb hK hP 1 0 rfl rfl (vp_in_nI (n := 5) (N := 16) (by decide) (by decide)) dX6_isSound_17 ?_
  refine W.eq (g2 := F0 m 18 ls [.null]) rfl ?_
  refine lv_astoreN (lv' := [(4, .null), (3, .int 5), (2, .int 16), (1, .ref xq), (0, .ref xo)]) hx hb dX6_isSound_18 hl (by decide) rfl (fun ls hl => ?_)
  refine lv_aloadN hx hb dX6_isSound_20 (lv_at hl 0 rfl) ?_
  refine lv_ifnullN (tgt := 35) hx hb dX6_isSound_22 (by decide) ?_
  obtain ⟨x_91, ex_91⟩ : ∃ y : Int32, y = 5 + 1 := ⟨_, rfl⟩
  have ex_91 : x_91 = 6 := ex_91.trans (by decide)
  subst ex_91
  refine lv_iinc (v := 6) (lv' := [(3, .int 6), (4, .null), (2, .int 16), (1, .ref xq), (0, .ref xo)]) hx hb dX6_isSound_35 hl (k := 1) rfl (by decide) (by decide) rfl (fun ls hl => ?_)
  refine lv_goto (tgt := 10) hx hb dX6_isSound_38 (by decide) ?_
  refine lv_iload_n hx hb dX6_isSound_10 rfl (lv_at hl 0 rfl) ?_
  refine lv_iload_n hx hb dX6_isSound_11 rfl (lv_at hl 2 rfl) ?_
  refine lv_icmp_ge (tgt := 41) hx hb dX6_isSound_12 (by decide) (fun cc => absurd cc (by decide)) (fun _ => ?_)
  refine lv_aload_n hx hb dX6_isSound_15 rfl (lv_at hl 3 rfl) ?_
  refine lv_iload_n hx hb dX6_isSound_16 rfl (lv_at hl 0 rfl) ?_
  refine va_aldq (D := D) (cl := vwCl) hx hb hK hP 1 0 rfl rfl (vp_in_nI (n := 6) (N := 16) (by decide) (by decide)) dX6_isSound_17 ?_
  refine W.eq (g2 := F0 m 18 ls [.null]) rfl ?_
  refine lv_astoreN (lv' := [(4, .null), (3, .int 6), (2, .int 16), (1, .ref xq), (0, .ref xo)]) hx hb dX6_isSound_18 hl (by decide) rfl (fun ls hl => ?_)
  refine lv_aloadN hx hb dX6_isSound_20 (lv_at hl 0 rfl) ?_
  refine lv_ifnullN (tgt := 35) hx hb dX6_isSound_22 (by decide) ?_
  obtain ⟨x_92, ex_92⟩ : ∃ y : Int32, y = 6 + 1 := ⟨_, rfl⟩
  have ex_92 : x_92 = 7 := ex_92.trans (by decide)
  subst ex_92
  refine lv_iinc (v := 7) (lv' := [(3, .int 7), (4, .null), (2, .int 16), (1, .ref xq), (0, .ref xo)]) hx hb dX6_isSound_35 hl (k := 1) rfl (by decide) (by decide) rfl (fun ls hl => ?_)
  refine lv_goto (tgt := 10) hx hb dX6_isSound_38 (by decide) ?_
  refine lv_iload_n hx hb dX6_isSound_10 rfl (lv_at hl 0 rfl) ?_
  refine lv_iload_n hx hb dX6_isSound_11 rfl (lv_at hl 2 rfl) ?_
  refine lv_icmp_ge (tgt := 41) hx hb dX6_isSound_12 (by decide) (fun cc => absurd cc (by decide)) (fun _ => ?_)
  refine lv_aload_n hx hb dX6_isSound_15 rfl (lv_at hl 3 rfl) ?_
  refine lv_iload_n hx hb dX6_isSound_16 rfl (lv_at hl 0 rfl) ?_
  refine va_aldq (D := D) (cl := vwCl) hx hb hK hP 1 0 rfl rfl (vp_in_nI (n := 7) (N := 16) (by decide) (by decide)) dX6_isSound_17 ?_
  refine W.eq (g2 := F0 m 18 ls [.null]) rfl ?_
  refine lv_astoreN (lv' := [(4, .null), (3, .int 7), (2, .int 16), (1, .ref xq), (0, .ref xo)]) hx hb dX6_isSound_18 hl (by decide) rfl (fun ls hl => ?_)
  refine lv_aloadN hx hb dX6_isSound_20 (lv_at hl 0 rfl) ?_
  refine lv_ifnullN (tgt := 35) hx hb dX6_isSound_22 (by decide) ?_
  obtain ⟨x_93, ex_93⟩ : ∃ y : Int32, y = 7 + 1 := ⟨_, rfl⟩
  have ex_93 : x_93 = 8 := ex_93.trans (by decide)
  subst ex_93
  refine lv_iinc (v := 8) (lv' := [(3, .int 8), (4, .null), (2, .int 16), (1, .ref xq), (0, .ref xo)]) hx hb dX6_isSound_35 hl (k := 1) rfl (by decide) (by decide) rfl (fun ls hl => ?_)
  refine lv_goto (tgt := 10) hx hb dX6_isSound_38 (by decide) ?_
  refine lv_iload_n hx hb dX6_isSound_10 rfl (lv_at hl 0 rfl) ?_
  refine lv_iload_n hx hb dX6_isSound_11 rfl (lv_at hl 2 rfl) ?_
  refine lv_icmp_ge (tgt := 41) hx hb dX6_isSound_12 (by decide) (fun cc => absurd cc (by decide)) (fun _ => ?_)
  refine lv_aload_n hx hb dX6_isSound_15 rfl (lv_at hl 3 rfl) ?_
  refine lv_iload_n hx hb dX6_isSound_16 rfl (lv_at hl 0 rfl) ?_
  refine va_aldq (D := D) (cl := vwCl) hx hb hK hP 1 0 rfl rfl (vp_in_nI (n := 8) (N := 16) (by decide) (by decide)) dX6_isSound_17 ?_
  refine W.eq (g2 := F0 m 18 ls [.null]) rfl ?_
  refine lv_astoreN (lv' := [(4, .null), (3, .int 8), (2, .int 16), (1, .ref xq), (0, .ref xo)]) hx hb dX6_isSound_18 hl (by decide) rfl (fun ls hl => ?_)
  refine lv_aloadN hx hb dX6_isSound_20 (lv_at hl 0 rfl) ?_
  refine lv_ifnullN (tgt := 35) hx hb dX6_isSound_22 (by decide) ?_
  obtain ⟨x_94, ex_94⟩ : ∃ y : Int32, y = 8 + 1 := ⟨_, rfl⟩
  have ex_94 : x_94 = 9 := ex_94.trans (by decide)
  subst ex_94
  refine lv_iinc (v := 9) (lv' := [(3, .int 9), (4, .null), (2, .int 16), (1, .ref xq), (0, .ref xo)]) hx hb dX6_isSound_35 hl (k := 1) rfl (by decide) (by decide) rfl (fun ls hl => ?_)
  refine lv_goto (tgt := 10) hx hb dX6_isSound_38 (by decide) ?_
  refine lv_iload_n hx hb dX6_isSound_10 rfl (lv_at hl 0 rfl) ?_
  refine lv_iload_n hx hb dX6_isSound_11 rfl (lv_at hl 2 rfl) ?_
  refine lv_icmp_ge (tgt := 41) hx hb dX6_isSound_12 (by decide) (fun cc => absurd cc (by decide)) (fun _ => ?_)
  refine lv_aload_n hx hb dX6_isSound_15 rfl (lv_at hl 3 rfl) ?_
  refine lv_iload_n hx hb dX6_isSound_16 rfl (lv_at hl 0 rfl) ?_
  refine va_aldq (D := D) (cl := vwCl) hx hb hK hP 1 0 rfl rfl (vp_in_nI (n := 9) (N := 16) (by decide) (by decide)) dX6_isSound_17 ?_
  refine W.eq (g2 := F0 m 18 ls [.null]) rfl ?_
  refine lv_astoreN (lv' := [(4, .null), (3, .int 9), (2, .int 16), (1, .ref xq), (0, .ref xo)]) hx hb dX6_isSound_18 hl (by decide) rfl (fun ls hl => ?_)
  refine lv_aloadN hx hb dX6_isSound_20 (lv_at hl 0 rfl) ?_
  refine lv_ifnullN (tgt := 35) hx hb dX6_isSound_22 (by decide) ?_
  obtain ⟨x_95, ex_95⟩ : ∃ y : Int32, y = 9 + 1 := ⟨_, rfl⟩
  have ex_95 : x_95 = 10 := ex_95.trans (by decide)
  subst ex_95
  refine lv_iinc (v := 10) (lv' := [(3, .int 10), (4, .null), (2, .int 16), (1, .ref xq), (0, .ref xo)]) hx hb dX6_isSound_35 hl (k := 1) rfl (by decide) (by decide) rfl (fun ls hl => ?_)
  refine lv_goto (tgt := 10) hx hb dX6_isSound_38 (by decide) ?_
  refine lv_iload_n hx hb dX6_isSound_10 rfl (lv_at hl 0 rfl) ?_
  refine lv_iload_n hx hb dX6_isSound_11 rfl (lv_at hl 2 rfl) ?_
  refine lv_icmp_ge (tgt := 41) hx hb dX6_isSound_12 (by decide) (fun cc => absurd cc (by decide)) (fun _ => ?_)
  refine lv_aload_n hx hb dX6_isSound_15 rfl (lv_at hl 3 rfl) ?_
  refine lv_iload_n hx hb dX6_isSound_16 rfl (lv_at hl 0 rfl) ?_
  refine va_aldq (D := D) (cl := vwCl) hx hb hK hP 1 0 rfl rfl (vp_in_nI (n := 10) (N := 16) (by decide) (by decide)) dX6_isSound_17 ?_
  refine W.eq (g2 := F0 m 18 ls [.null]) rfl ?_
  refine lv_astoreN (lv' := [(4, .null), (3, .int 10), (2, .int 16), (1, .ref xq), (0, .ref xo)]) hx hb dX6_isSound_18 hl (by decide) rfl (fun ls hl => ?_)
  refine lv_aloadN hx hb dX6_isSound_20 (lv_at hl 0 rfl) ?_
  refine lv_ifnullN (tgt := 35) hx hb dX6_isSound_22 (by decide) ?_
  obtain ⟨x_96, ex_96⟩ : ∃ y : Int32, y = 10 + 1 := ⟨_, rfl⟩
  have ex_96 : x_96 = 11 := ex_96.trans (by decide)
  subst ex_96
  refine lv_iinc (v := 11) (lv' := [(3, .int 11), (4, .null), (2, .int 16), (1, .ref xq), (0, .ref xo)]) hx hb dX6_isSound_35 hl (k := 1) rfl (by decide) (by decide) rfl (fun ls hl => ?_)
  refine lv_goto (tgt := 10) hx hb dX6_isSound_38 (by decide) ?_
  refine lv_iload_n hx hb dX6_isSound_10 rfl (lv_at hl 0 rfl) ?_
  refine lv_iload_n hx hb dX6_isSound_11 rfl (lv_at hl 2 rfl) ?_
  refine lv_icmp_ge (tgt := 41) hx hb dX6_isSound_12 (by decide) (fun cc => absurd cc (by decide)) (fun _ => ?_)
  refine lv_aload_n hx hb dX6_isSound_15 rfl (lv_at hl 3 rfl) ?_
  refine lv_iload_n hx hb dX6_isSound_16 rfl (lv_at hl 0 rfl) ?_
  refine va_aldq (D := D) (cl := vwCl) hx hb hK hP 1 0 rfl rfl (vp_in_nI (n := 11) (N := 16) (by decide) (by decide)) dX6_isSound_17 ?_
  refine W.eq (g2 := F0 m 18 ls [.null]) rfl ?_
  refine lv_astoreN (lv' := [(4, .null), (3, .int 11), (2, .int 16), (1, .ref xq), (0, .ref xo)]) hx hb dX6_isSound_18 hl (by decide) rfl (fun ls hl => ?_)
  refine lv_aloadN hx hb dX6_isSound_20 (lv_at hl 0 rfl) ?_
  refine lv_ifnullN (tgt := 35) hx hb dX6_isSound_22 (by decide) ?_
  obtain ⟨x_97, ex_97⟩ : ∃ y : Int32, y = 11 + 1 := ⟨_, rfl⟩
  have ex_97 : x_97 = 12 := ex_97.trans (by decide)
  subst ex_97
  refine lv_iinc (v := 12) (lv' := [(3, .int 12), (4, .null), (2, .int 16), (1, .ref xq), (0, .ref xo)]) hx hb dX6_isSound_35 hl (k := 1) rfl (by decide) (by decide) rfl (fun ls hl => ?_)
  refine lv_goto (tgt := 10) hx hb dX6_isSound_38 (by decide) ?_
  refine lv_iload_n hx hb dX6_isSound_10 rfl (lv_at hl 0 rfl) ?_
  refine lv_iload_n hx hb dX6_isSound_11 rfl (lv_at hl 2 rfl) ?_
  refine lv_icmp_ge (tgt := 41) hx hb dX6_isSound_12 (by decide) (fun cc => absurd cc (by decide)) (fun _ => ?_)
  refine lv_aload_n hx hb dX6_isSound_15 rfl (lv_at hl 3 rfl) ?_
  refine lv_iload_n hx hb dX6_isSound_16 rfl (lv_at hl 0 rfl) ?_
  refine va_aldq (D := D) (cl := vwCl) hx hb hK hP 1 0 rfl rfl (vp_in_nI (n := 12) (N := 16) (by decide) (by decide)) dX6_isSound_17 ?_
  refine W.eq (g2 := F0 m 18 ls [.null]) rfl ?_
  refine lv_astoreN (lv' := [(4, .null), (3, .int 12), (2, .int 16), (1, .ref xq), (0, .ref xo)]) hx hb dX6_isSound_18 hl (by decide) rfl (fun ls hl => ?_)
  refine lv_aloadN hx hb dX6_isSound_20 (lv_at hl 0 rfl) ?_
  refine lv_ifnullN (tgt := 35) hx hb dX6_isSound_22 (by decide) ?_
  obtain ⟨x_98, ex_98⟩ : ∃ y : Int32, y = 12 + 1 := ⟨_, rfl⟩
  have ex_98 : x_98 = 13 := ex_98.trans (by decide)
  subst ex_98
  refine lv_iinc (v := 13) (lv' := [(3, .int 13), (4, .null), (2, .int 16), (1, .ref xq), (0, .ref xo)]) hx hb dX6_isSound_35 hl (k := 1) rfl (by decide) (by decide) rfl (fun ls hl => ?_)
  refine lv_goto (tgt := 10) hx hb dX6_isSound_38 (by decide) ?_
  refine lv_iload_n hx hb dX6_isSound_10 rfl (lv_at hl 0 rfl) ?_
  refine lv_iload_n hx hb dX6_isSound_11 rfl (lv_at hl 2 rfl) ?_
  refine lv_icmp_ge (tgt := 41) hx hb dX6_isSound_12 (by decide) (fun cc => absurd cc (by decide)) (fun _ => ?_)
  refine lv_aload_n hx hb dX6_isSound_15 rfl (lv_at hl 3 rfl) ?_
  refine lv_iload_n hx hb dX6_isSound_16 rfl (lv_at hl 0 rfl) ?_
  refine va_aldq (D := D) (cl := vwCl) hx hb hK hP 1 0 rfl rfl (vp_in_nI (n := 13) (N := 16) (by decide) (by decide)) dX6_isSound_17 ?_
  refine W.eq (g2 := F0 m 18 ls [.null]) rfl ?_
  refine lv_astoreN (lv' := [(4, .null), (3, .int 13), (2, .int 16), (1, .ref xq), (0, .ref xo)]) hx hb dX6_isSound_18 hl (by decide) rfl (fun ls hl => ?_)
  refine lv_aloadN hx hb dX6_isSound_20 (lv_at hl 0 rfl) ?_
  refine lv_ifnullN (tgt := 35) hx hb dX6_isSound_22 (by decide) ?_
  obtain ⟨x_99, ex_99⟩ : ∃ y : Int32, y = 13 + 1 := ⟨_, rfl⟩
  have ex_99 : x_99 = 14 := ex_99.trans (by decide)
  subst ex_99
  refine lv_iinc (v := 14) (lv' := [(3, .int 14), (4, .null), (2, .int 16), (1, .ref xq), (0, .ref xo)]) hx hb dX6_isSound_35 hl (k := 1) rfl (by decide) (by decide) rfl (fun ls hl => ?_)
  refine lv_goto (tgt := 10) hx hb dX6_isSound_38 (by decide) ?_
  refine lv_iload_n hx hb dX6_isSound_10 rfl (lv_at hl 0 rfl) ?_
  refine lv_iload_n hx hb dX6_isSound_11 rfl (lv_at hl 2 rfl) ?_
  refine lv_icmp_ge (tgt := 41) hx hb dX6_isSound_12 (by decide) (fun cc => absurd cc (by decide)) (fun _ => ?_)
  refine lv_aload_n hx hb dX6_isSound_15 rfl (lv_at hl 3 rfl) ?_
  refine lv_iload_n hx hb dX6_isSound_16 rfl (lv_at hl 0 rfl) ?_
  refine va_aldq (D := D) (cl := vwCl) hx hb hK hP 1 0 rfl rfl (vp_in_nI (n := 14) (N := 16) (by decide) (by decide)) dX6_isSound_17 ?_
  refine W.eq (g2 := F0 m 18 ls [.null]) rfl ?_
  refine lv_astoreN (lv' := [(4, .null), (3, .int 14), (2, .int 16), (1, .ref xq), (0, .ref xo)]) hx hb dX6_isSound_18 hl (by decide) rfl (fun ls hl => ?_)
  refine lv_aloadN hx hb dX6_isSound_20 (lv_at hl 0 rfl) ?_
  refine lv_ifnullN (tgt := 35) hx hb dX6_isSound_22 (by decide) ?_
  obtain ⟨x_100, ex_100⟩ : ∃ y : Int32, y = 14 + 1 := ⟨_, rfl⟩
  have ex_100 : x_100 = 15 := ex_100.trans (by decide)
  subst ex_100
  refine lv_iinc (v := 15) (lv' := [(3, .int 15), (4, .null), (2, .int 16), (1, .ref xq), (0, .ref xo)]) hx hb dX6_isSound_35 hl (k := 1) rfl (by decide) (by decide) rfl (fun ls hl => ?_)
  refine lv_goto (tgt := 10) hx hb dX6_isSound_38 (by decide) ?_
  refine lv_iload_n hx hb dX6_isSound_10 rfl (lv_at hl 0 rfl) ?_
  refine lv_iload_n hx hb dX6_isSound_11 rfl (lv_at hl 2 rfl) ?_
  refine lv_icmp_ge (tgt := 41) hx hb dX6_isSound_12 (by decide) (fun cc => absurd cc (by decide)) (fun _ => ?_)
  refine lv_aload_n hx hb dX6_isSound_15 rfl (lv_at hl 3 rfl) ?_
  refine lv_iload_n hx hb dX6_isSound_16 rfl (lv_at hl 0 rfl) ?_
  refine va_aldq (D := D) (cl := vwCl) hx hb hK hP 1 0 rfl rfl (vp_in_nI (n := 15) (N := 16) (by decide) (by decide)) dX6_isSound_17 ?_
  refine W.eq (g2 := F0 m 18 ls [.null]) rfl ?_
  refine lv_astoreN (lv' := [(4, .null), (3, .int 15), (2, .int 16), (1, .ref xq), (0, .ref xo)]) hx hb dX6_isSound_18 hl (by decide) rfl (fun ls hl => ?_)
  refine lv_aloadN hx hb dX6_isSound_20 (lv_at hl 0 rfl) ?_
  refine lv_ifnullN (tgt := 35) hx hb dX6_isSound_22 (by decide) ?_
  obtain ⟨x_101, ex_101⟩ : ∃ y : Int32, y = 15 + 1 := ⟨_, rfl⟩
  have ex_101 : x_101 = 16 := ex_101.trans (by decide)
  subst ex_101
  refine lv_iinc (v := 16) (lv' := [(3, .int 16), (4, .null), (2, .int 16), (1, .ref xq), (0, .ref xo)]) hx hb dX6_isSound_35 hl (k := 1) rfl (by decide) (by decide) rfl (fun ls hl => ?_)
  refine lv_goto (tgt := 10) hx hb dX6_isSound_38 (by decide) ?_
  refine lv_iload_n hx hb dX6_isSound_10 rfl (lv_at hl 0 rfl) ?_
  refine lv_iload_n hx hb dX6_isSound_11 rfl (lv_at hl 2 rfl) ?_
  refine lv_icmp_ge (tgt := 41) hx hb dX6_isSound_12 (by decide) (fun _ => ?_) (fun cc => absurd (by decide) cc)
  refine lv_aload_n hx hb dX6_isSound_41 rfl (lv_at hl 4 rfl) ?_
  refine lv_bipush (v := 108) hx hb dX6_isSound_42 (by decide) ?_
  refine vp_callSi (va_runV (As := [.int 108]) (rest := []) ⟨hx, hb, hml, hown, hts⟩ (zc_X6_countOf l D G xo 108 xg gc xp pc xq qc r1 r2 r3 r4 se ts hou dr su br cq) (cwV 1 hts gzX6_isSound_X6_countOf_274 rfl rfl rfl (by decide +kernel) ⟨(Nat.le_of_ble_eq_true rfl), (Nat.le_of_ble_eq_true rfl)⟩) ⟨p_RO_blind, va_recv hK hP (ci := 6) (q0 := 0) rfl rfl, (p_RO_at (tc := [(cq, .object "Gatherhouse$Piece")]) (wc := [(xo, .inr (6, [.ref xg, .int gc, .ref xp, .int pc, .ref xq, .int qc, .ref r1, .ref r2, .ref r3, .ref r4, .ref se, .int ts, .int hou, .int dr, .int su, .int br])), (xq, .inl (cq, 16, .inr (.inr (.inr (.inr (zq [none, none, none, none, none, none, none, none, none, none, none, none, none, none, none, none]))))))]) hP hK hT [0, 1] [0] rfl rfl [.ref xo, .int 108])⟩ rfl rfl hl.1 rfl (lv_room (Nat.le_of_ble_eq_true rfl)) dX6_isSound_44 ⟨(Nat.le_of_ble_eq_true rfl), (Nat.le_of_ble_eq_true rfl)⟩).run (fun r_102 w_103 => ?_)
  obtain rfl := w_103
  refine lv_bipush (v := 6) hx hb dX6_isSound_47 (by decide) ?_
  refine lv_icmp_gt (tgt := 56) hx hb dX6_isSound_49 (by decide) (fun cc => absurd cc (by decide)) (fun _ => ?_)
  refine lv_iconst (v := 1) hx hb dX6_isSound_52 (by decide) ?_
  refine lv_goto (tgt := 57) hx hb dX6_isSound_53 (by decide) ?_
  exact W.zret (v := 1) hx hb hr rfl (fun t ht hW => ⟨1, rfl, rfl, ht⟩) (fun q h => by cases h) dX6_isSound_57
theorem dX6_checksum_0 : decode cX6_checksum 0 = .ok (.ldc2_w 354, 3) := by decide +kernel
theorem dX6_checksum_3 : decode cX6_checksum 3 = .ok (.lstore_n 1, 1) := by decide +kernel
theorem dX6_checksum_4 : decode cX6_checksum 4 = .ok (.aload_n 0, 1) := by decide +kernel
theorem dX6_checksum_5 : decode cX6_checksum 5 = .ok (.getfield 30, 3) := by decide +kernel
theorem dX6_checksum_8 : decode cX6_checksum 8 = .ok (.astore_n 3, 1) := by decide +kernel
theorem dX6_checksum_9 : decode cX6_checksum 9 = .ok (.aload_n 3, 1) := by decide +kernel
theorem dX6_checksum_10 : decode cX6_checksum 10 = .ok (.arraylength, 1) := by decide +kernel
theorem dX6_checksum_11 : decode cX6_checksum 11 = .ok (.istore 4, 2) := by decide +kernel
theorem dX6_checksum_13 : decode cX6_checksum 13 = .ok (.iconst 0, 1) := by decide +kernel
theorem dX6_checksum_14 : decode cX6_checksum 14 = .ok (.istore 5, 2) := by decide +kernel
theorem dX6_checksum_16 : decode cX6_checksum 16 = .ok (.iload 5, 2) := by decide +kernel
theorem dX6_checksum_18 : decode cX6_checksum 18 = .ok (.iload 4, 2) := by decide +kernel
theorem dX6_checksum_20 : decode cX6_checksum 20 = .ok (.if_icmp .ge 59, 3) := by decide +kernel
theorem dX6_checksum_23 : decode cX6_checksum 23 = .ok (.aload_n 3, 1) := by decide +kernel
theorem dX6_checksum_24 : decode cX6_checksum 24 = .ok (.iload 5, 2) := by decide +kernel
theorem dX6_checksum_26 : decode cX6_checksum 26 = .ok (.aaload, 1) := by decide +kernel
theorem dX6_checksum_27 : decode cX6_checksum 27 = .ok (.astore 6, 2) := by decide +kernel
theorem dX6_checksum_29 : decode cX6_checksum 29 = .ok (.aload 6, 2) := by decide +kernel
theorem dX6_checksum_31 : decode cX6_checksum 31 = .ok (.ifnull 42, 3) := by decide +kernel
theorem dX6_checksum_73 : decode cX6_checksum 73 = .ok (.iinc 5 1, 3) := by decide +kernel
theorem dX6_checksum_76 : decode cX6_checksum 76 = .ok (.goto (-60), 3) := by decide +kernel
theorem dX6_checksum_79 : decode cX6_checksum 79 = .ok (.lload_n 1, 1) := by decide +kernel
theorem dX6_checksum_80 : decode cX6_checksum 80 = .ok (.lreturn, 1) := by decide +kernel
def wzEX6_checksum : List Cond := [.code yX6_checksum cX6_checksum 7 (some .long), .constantLong RX6 354 (7), .fieldLink RX6 30 "Gatherhouse" "pieces" "[LGatherhouse$Piece;"]
def wzX6_checksum : List Cond := wzEX6_checksum ++ (u_ws RX6 TX6 16)
theorem zgEX6_checksum : wzEX6_checksum.all goodWord = true := by decide +kernel
theorem zuX6_checksum_X6 : ∀ w ∈ u_ws RX6 TX6 16, w ∈ wzX6_checksum := (fun _ h => (List.mem_append_right _ h))
set_option maxHeartbeats 4000000 in
set_option maxRecDepth 100000 in
theorem zc_X6_checksum (l : Launch) (D : va_G) (G : Nat × Nat × (Nat → Int32)) (xo : Nat) (xg : Nat) (gc : Int32) (xp : Nat) (pc : Int32) (xq : Nat) (qc : Int32) (r1 : Nat) (r2 : Nat) (r3 : Nat) (r4 : Nat) (se : Nat) (ts : Int32) (hou : Int32) (dr : Int32) (su : Int32) (br : Int32) (cq : ClassId) : Met l yX6_checksum wzX6_checksum ({ frames := 0, cells := 0, slots := 0, locals := 0 }) (va_Pc [.ref xo] (p_RO D G [(cq, .object "Gatherhouse$Piece")] [(xo, .inr (6, [.ref xg, .int gc, .ref xp, .int pc, .ref xq, .int qc, .ref r1, .ref r2, .ref r3, .ref r4, .ref se, .int ts, .int hou, .int dr, .int su, .int br])), (xq, .inl (cq, 16, .inr (.inr (.inr (.inr (zq [none, none, none, none, none, none, none, none, none, none, none, none, none, none, none, none]))))))])) (vp_Sl (fun r => r = 7)) 0 0 (fun _ => False) := by
  refine Met.ofW (cc := cX6_checksum) (maxL := 7) (ret := (some .long)) (by decide) rfl ?_
  intro p e s m args below meth c s₁ B hml hv
  obtain ⟨rfl, hP, hK, hT⟩ := hv
  have hx := B.exec
  have hb := B.bytes
  have hr := B.returns
  have hts := atoms_spec (ws := wzX6_checksum) B.pre
  have hown : s.vm.findClass RX6 = some m.cls := findClass_of_methodNamed B.named
  have hlocks := B.notSynchronized
  have hl := lv_entry ([.ref xo]) (n := 7) (Nat.le_of_ble_eq_true rfl)
  rw [lg_entry_eq]
  generalize (lg_sl ([.ref xo]) ++ List.replicate (7 - (lg_sl ([.ref xo])).length) Slot.unset).toArray = ls at hl ⊢
  have hl : lv_has ls 7 [(0, .ref xo)] := hl
  refine lv_ldc2 (v := 7) hx hb hown (hts (.constantLong RX6 354 (7)) (by decide +kernel)) dX6_checksum_0 ?_
  refine lv_lstore_n (lv' := [(1, .long 7), (0, .ref xo)]) hx hb dX6_checksum_3 rfl hl (by decide) rfl (fun ls hl => ?_)
  refine lv_aload_n hx hb dX6_checksum_4 rfl (lv_at hl 1 rfl) ?_
  refine va_get (D := D) (cl := vwCl) (ci := 6) (v := .ref xq) (C := RX6) (T := TX6) (N := 16) hx hb hts zuX6_checksum_X6 hown hK hP 0 rfl rfl 4 (by decide) (hts (.fieldLink RX6 30 "Gatherhouse" "pieces" "[LGatherhouse$Piece;") (by decide +kernel)) (fun _ h9 => h9) rfl dX6_checksum_5 ?_
  refine lv_astore_n (lv' := [(3, .ref xq), (1, .long 7), (0, .ref xo)]) hx hb dX6_checksum_8 rfl hl (by decide) rfl (fun ls hl => ?_)
  refine lv_aload_n hx hb dX6_checksum_9 rfl (lv_at hl 0 rfl) ?_
  refine va_alen (D := D) (cl := vwCl) (v := 16) hx hb hK hP 1 0 rfl rfl rfl dX6_checksum_10 ?_
  refine lv_istore (lv' := [(4, .int 16), (3, .ref xq), (1, .long 7), (0, .ref xo)]) hx hb dX6_checksum_11 hl (by decide) rfl (fun ls hl => ?_)
  refine lv_iconst (v := 0) hx hb dX6_checksum_13 (by decide) ?_
  refine lv_istore (lv' := [(5, .int 0), (4, .int 16), (3, .ref xq), (1, .long 7), (0, .ref xo)]) hx hb dX6_checksum_14 hl (by decide) rfl (fun ls hl => ?_)
  refine lv_iload hx hb dX6_checksum_16 (lv_at hl 0 rfl) ?_
  refine lv_iload hx hb dX6_checksum_18 (lv_at hl 1 rfl) ?_
  refine lv_icmp_ge (tgt := 79) hx hb dX6_checksum_20 (by decide) (fun cc => absurd cc (by decide)) (fun _ => ?_)
  refine lv_aload_n hx hb dX6_checksum_23 rfl (lv_at hl 2 rfl) ?_
  refine lv_iload hx hb dX6_checksum_24 (lv_at hl 0 rfl) ?_
  refine va_aldq (D := D) (cl := vwCl) hx hb hK hP 1 0 rfl rfl (vp_in_nI (n := 0) (N := 16) (by decide) (by decide)) dX6_checksum_26 ?_
  refine W.eq (g2 := F0 m 27 ls [.null]) rfl ?_
  refine lv_astoreN (lv' := [(6, .null), (5, .int 0), (4, .int 16), (3, .ref xq), (1, .long 7), (0, .ref xo)]) hx hb dX6_checksum_27 hl (by decide) rfl (fun ls hl => ?_)
  refine lv_aloadN hx hb dX6_checksum_29 (lv_at hl 0 rfl) ?_
  refine lv_ifnullN (tgt := 73) hx hb dX6_checksum_31 (by decide) ?_
  obtain ⟨x_104, ex_104⟩ : ∃ y : Int32, y = 0 + 1 := ⟨_, rfl⟩
  have ex_104 : x_104 = 1 := ex_104.trans (by decide)
  subst ex_104
  refine lv_iinc (v := 1) (lv' := [(5, .int 1), (6, .null), (4, .int 16), (3, .ref xq), (1, .long 7), (0, .ref xo)]) hx hb dX6_checksum_73 hl (k := 1) rfl (by decide) (by decide) rfl (fun ls hl => ?_)
  refine lv_goto (tgt := 16) hx hb dX6_checksum_76 (by decide) ?_
  refine lv_iload hx hb dX6_checksum_16 (lv_at hl 0 rfl) ?_
  refine lv_iload hx hb dX6_checksum_18 (lv_at hl 2 rfl) ?_
  refine lv_icmp_ge (tgt := 79) hx hb dX6_checksum_20 (by decide) (fun cc => absurd cc (by decide)) (fun _ => ?_)
  refine lv_aload_n hx hb dX6_checksum_23 rfl (lv_at hl 3 rfl) ?_
  refine lv_iload hx hb dX6_checksum_24 (lv_at hl 0 rfl) ?_
  refine va_aldq (D := D) (cl := vwCl) hx hb hK hP 1 0 rfl rfl (vp_in_nI (n := 1) (N := 16) (by decide) (by decide)) dX6_checksum_26 ?_
  refine W.eq (g2 := F0 m 27 ls [.null]) rfl ?_
  refine lv_astoreN (lv' := [(6, .null), (5, .int 1), (4, .int 16), (3, .ref xq), (1, .long 7), (0, .ref xo)]) hx hb dX6_checksum_27 hl (by decide) rfl (fun ls hl => ?_)
  refine lv_aloadN hx hb dX6_checksum_29 (lv_at hl 0 rfl) ?_
  refine lv_ifnullN (tgt := 73) hx hb dX6_checksum_31 (by decide) ?_
  obtain ⟨x_105, ex_105⟩ : ∃ y : Int32, y = 1 + 1 := ⟨_, rfl⟩
  have ex_105 : x_105 = 2 := ex_105.trans (by decide)
  subst ex_105
  refine lv_iinc (v := 2) (lv' := [(5, .int 2), (6, .null), (4, .int 16), (3, .ref xq), (1, .long 7), (0, .ref xo)]) hx hb dX6_checksum_73 hl (k := 1) rfl (by decide) (by decide) rfl (fun ls hl => ?_)
  refine lv_goto (tgt := 16) hx hb dX6_checksum_76 (by decide) ?_
  refine lv_iload hx hb dX6_checksum_16 (lv_at hl 0 rfl) ?_
  refine lv_iload hx hb dX6_checksum_18 (lv_at hl 2 rfl) ?_
  refine lv_icmp_ge (tgt := 79) hx hb dX6_checksum_20 (by decide) (fun cc => absurd cc (by decide)) (fun _ => ?_)
  refine lv_aload_n hx hb dX6_checksum_23 rfl (lv_at hl 3 rfl) ?_
  refine lv_iload hx hb dX6_checksum_24 (lv_at hl 0 rfl) ?_
  refine va_aldq (D := D) (cl := vwCl) hx hb hK hP 1 0 rfl rfl (vp_in_nI (n := 2) (N := 16) (by decide) (by decide)) dX6_checksum_26 ?_
  refine W.eq (g2 := F0 m 27 ls [.null]) rfl ?_
  refine lv_astoreN (lv' := [(6, .null), (5, .int 2), (4, .int 16), (3, .ref xq), (1, .long 7), (0, .ref xo)]) hx hb dX6_checksum_27 hl (by decide) rfl (fun ls hl => ?_)
  refine lv_aloadN hx hb dX6_checksum_29 (lv_at hl 0 rfl) ?_
  refine lv_ifnullN (tgt := 73) hx hb dX6_checksum_31 (by decide) ?_
  obtain ⟨x_106, ex_106⟩ : ∃ y : Int32, y = 2 + 1 := ⟨_, rfl⟩
  have ex_106 : x_106 = 3 := ex_106.trans (by decide)
  subst ex_106
  refine lv_iinc (v := 3) (lv' := [(5, .int 3), (6, .null), (4, .int 16), (3, .ref xq), (1, .long 7), (0, .ref xo)]) hx hb dX6_checksum_73 hl (k := 1) rfl (by decide) (by decide) rfl (fun ls hl => ?_)
  refine lv_goto (tgt := 16) hx hb dX6_checksum_76 (by decide) ?_
  refine lv_iload hx hb dX6_checksum_16 (lv_at hl 0 rfl) ?_
  refine lv_iload hx hb dX6_checksum_18 (lv_at hl 2 rfl) ?_
  refine lv_icmp_ge (tgt := 79) hx hb dX6_checksum_20 (by decide) (fun cc => absurd cc (by decide)) (fun _ => ?_)
  refine lv_aload_n hx hb dX6_checksum_23 rfl (lv_at hl 3 rfl) ?_
  refine lv_iload hx hb dX6_checksum_24 (lv_at hl 0 rfl) ?_
  refine va_aldq (D := D) (cl := vwCl) hx hb hK hP 1 0 rfl rfl (vp_in_nI (n := 3) (N := 16) (by decide) (by decide)) dX6_checksum_26 ?_
  refine W.eq (g2 := F0 m 27 ls [.null]) rfl ?_
  refine lv_astoreN (lv' := [(6, .null), (5, .int 3), (4, .int 16), (3, .ref xq), (1, .long 7), (0, .ref xo)]) hx hb dX6_checksum_27 hl (by decide) rfl (fun ls hl => ?_)
  refine lv_aloadN hx hb dX6_checksum_29 (lv_at hl 0 rfl) ?_
  refine lv_ifnullN (tgt := 73) hx hb dX6_checksum_31 (by decide) ?_
  obtain ⟨x_107, ex_107⟩ : ∃ y : Int32, y = 3 + 1 := ⟨_, rfl⟩
  have ex_107 : x_107 = 4 := ex_107.trans (by decide)
  subst ex_107
  refine lv_iinc (v := 4) (lv' := [(5, .int 4), (6, .null), (4, .int 16), (3, .ref xq), (1, .long 7), (0, .ref xo)]) hx hb dX6_checksum_73 hl (k := 1) rfl (by decide) (by decide) rfl (fun ls hl => ?_)
  refine lv_goto (tgt := 16) hx hb dX6_checksum_76 (by decide) ?_
  refine lv_iload hx hb dX6_checksum_16 (lv_at hl 0 rfl) ?_
  refine lv_iload hx hb dX6_checksum_18 (lv_at hl 2 rfl) ?_
  refine lv_icmp_ge (tgt := 79) hx hb dX6_checksum_20 (by decide) (fun cc => absurd cc (by decide)) (fun _ => ?_)
  refine lv_aload_n hx hb dX6_checksum_23 rfl (lv_at hl 3 rfl) ?_
  refine lv_iload hx hb dX6_checksum_24 (lv_at hl 0 rfl) ?_
  refine va_aldq (D := D) (cl := vwCl) hx hb hK hP 1 0 rfl rfl (vp_in_nI (n := 4) (N := 16) (by decide) (by decide)) dX6_checksum_26 ?_
  refine W.eq (g2 := F0 m 27 ls [.null]) rfl ?_
  refine lv_astoreN (lv' := [(6, .null), (5, .int 4), (4, .int 16), (3, .ref xq), (1, .long 7), (0, .ref xo)]) hx hb dX6_checksum_27 hl (by decide) rfl (fun ls hl => ?_)
  refine lv_aloadN hx hb dX6_checksum_29 (lv_at hl 0 rfl) ?_
  refine lv_ifnullN (tgt := 73) hx hb dX6_checksum_31 (by decide) ?_
  obtain ⟨x_108, ex_108⟩ : ∃ y : Int32, y = 4 + 1 := ⟨_, rfl⟩
  have ex_108 : x_108 = 5 := ex_108.trans (by decide)
  subst ex_108
  refine lv_iinc (v := 5) (lv' := [(5, .int 5), (6, .null), (4, .int 16), (3, .ref xq), (1, .long 7), (0, .ref xo)]) hx hb dX6_checksum_73 hl (k := 1) rfl (by decide) (by decide) rfl (fun ls hl => ?_)
  refine lv_goto (tgt := 16) hx hb dX6_checksum_76 (by decide) ?_
  refine lv_iload hx hb dX6_checksum_16 (lv_at hl 0 rfl) ?_
  refine lv_iload hx hb dX6_checksum_18 (lv_at hl 2 rfl) ?_
  refine lv_icmp_ge (tgt := 79) hx hb dX6_checksum_20 (by decide) (fun cc => absurd cc (by decide)) (fun _ => ?_)
  refine lv_aload_n hx hb dX6_checksum_23 rfl (lv_at hl 3 rfl) ?_
  refine lv_iload hx hb dX6_checksum_24 (lv_at hl 0 rfl) ?_
  refine va_aldq (D := D) (cl := vwCl) hx hb hK hP 1 0 rfl rfl (vp_in_nI (n := 5) (N := 16) (by decide) (by decide)) dX6_checksum_26 ?_
  refine W.eq (g2 := F0 m 27 ls [.null]) rfl ?_
  refine lv_astoreN (lv' := [(6, .null), (5, .int 5), (4, .int 16), (3, .ref xq), (1, .long 7), (0, .ref xo)]) hx hb dX6_checksum_27 hl (by decide) rfl (fun ls hl => ?_)
  refine lv_aloadN hx hb dX6_checksum_29 (lv_at hl 0 rfl) ?_
  refine lv_ifnullN (tgt := 73) hx hb dX6_checksum_31 (by decide) ?_
  obtain ⟨x_109, ex_109⟩ : ∃ y : Int32, y = 5 + 1 := ⟨_, rfl⟩
  have ex_109 : x_109 = 6 := ex_109.trans (by decide)
  subst ex_109
  refine lv_iinc (v := 6) (lv' := [(5, .int 6), (6, .null), (4, .int 16), (3, .ref xq), (1, .long 7), (0, .ref xo)]) hx hb dX6_checksum_73 hl (k := 1) rfl (by decide) (by decide) rfl (fun ls hl => ?_)
  refine lv_goto (tgt := 16) hx hb dX6_checksum_76 (by decide) ?_
  refine lv_iload hx hb dX6_checksum_16 (lv_at hl 0 rfl) ?_
  refine lv_iload hx hb dX6_checksum_18 (lv_at hl 2 rfl) ?_
  refine lv_icmp_ge (tgt := 79) hx hb dX6_checksum_20 (by decide) (fun cc => absurd cc (by decide)) (fun _ => ?_)
  refine lv_aload_n hx hb dX6_checksum_23 rfl (lv_at hl 3 rfl) ?_
  refine lv_iload hx hb dX6_checksum_24 (lv_at hl 0 rfl) ?_
  refine va_aldq (D := D) (cl := vwCl) hx hb hK hP 1 0 rfl rfl (vp_in_nI (n := 6) (N := 16) (by decide) (by decide)) dX6_checksum_26 ?_
  refine W.eq (g2 := F0 m 27 ls [.null]) rfl ?_
  refine lv_astoreN (lv' := [(6, .null), (5, .int 6), (4, .int 16), (3, .ref xq), (1, .long 7), (0, .ref xo)]) hx hb dX6_checksum_27 hl (by decide) rfl (fun ls hl => ?_)
  refine lv_aloadN hx hb dX6_checksum_29 (lv_at hl 0 rfl) ?_
  refine lv_ifnullN (tgt := 73) hx hb dX6_checksum_31 (by decide) ?_
  obtain ⟨x_110, ex_110⟩ : ∃ y : Int32, y = 6 + 1 := ⟨_, rfl⟩
  have ex_110 : x_110 = 7 := ex_110.trans (by decide)
  subst ex_110
  refine lv_iinc (v := 7) (lv' := [(5, .int 7), (6, .null), (4, .int 16), (3, .ref xq), (1, .long 7), (0, .ref xo)]) hx hb dX6_checksum_73 hl (k := 1) rfl (by decide) (by decide) rfl (fun ls hl => ?_)
  refine lv_goto (tgt := 16) hx hb dX6_checksum_76 (by decide) ?_
  refine lv_iload hx hb dX6_checksum_16 (lv_at hl 0 rfl) ?_
  refine lv_iload hx hb dX6_checksum_18 (lv_at hl 2 rfl) ?_
  refine lv_icmp_ge (tgt := 79) hx hb dX6_checksum_20 (by decide) (fun cc => absurd cc (by decide)) (fun _ => ?_)
  refine lv_aload_n hx hb dX6_checksum_23 rfl (lv_at hl 3 rfl) ?_
  refine lv_iload hx hb dX6_checksum_24 (lv_at hl 0 rfl) ?_
  refine va_aldq (D := D) (cl := vwCl) hx hb hK hP 1 0 rfl rfl (vp_in_nI (n := 7) (N := 16) (by decide) (by decide)) dX6_checksum_26 ?_
  refine W.eq (g2 := F0 m 27 ls [.null]) rfl ?_
  refine lv_astoreN (lv' := [(6, .null), (5, .int 7), (4, .int 16), (3, .ref xq), (1, .long 7), (0, .ref xo)]) hx hb dX6_checksum_27 hl (by decide) rfl (fun ls hl => ?_)
  refine lv_aloadN hx hb dX6_checksum_29 (lv_at hl 0 rfl) ?_
  refine lv_ifnullN (tgt := 73) hx hb dX6_checksum_31 (by decide) ?_
  obtain ⟨x_111, ex_111⟩ : ∃ y : Int32, y = 7 + 1 := ⟨_, rfl⟩
  have ex_111 : x_111 = 8 := ex_111.trans (by decide)
  subst ex_111
  refine lv_iinc (v := 8) (lv' := [(5, .int 8), (6, .null), (4, .int 16), (3, .ref xq), (1, .long 7), (0, .ref xo)]) hx hb dX6_checksum_73 hl (k := 1) rfl (by decide) (by decide) rfl (fun ls hl => ?_)
  refine lv_goto (tgt := 16) hx hb dX6_checksum_76 (by decide) ?_
  refine lv_iload hx hb dX6_checksum_16 (lv_at hl 0 rfl) ?_
  refine lv_iload hx hb dX6_checksum_18 (lv_at hl 2 rfl) ?_
  refine lv_icmp_ge (tgt := 79) hx hb dX6_checksum_20 (by decide) (fun cc => absurd cc (by decide)) (fun _ => ?_)
  refine lv_aload_n hx hb dX6_checksum_23 rfl (lv_at hl 3 rfl) ?_
  refine lv_iload hx hb dX6_checksum_24 (lv_at hl 0 rfl) ?_
  refine va_aldq (D := D) (cl := vwCl) hx hb hK hP 1 0 rfl rfl (vp_in_nI (n := 8) (N := 16) (by decide) (by decide)) dX6_checksum_26 ?_
  refine W.eq (g2 := F0 m 27 ls [.null]) rfl ?_
  refine lv_astoreN (lv' := [(6, .null), (5, .int 8), (4, .int 16), (3, .ref xq), (1, .long 7), (0, .ref xo)]) hx hb dX6_checksum_27 hl (by decide) rfl (fun ls hl => ?_)
  refine lv_aloadN hx hb dX6_checksum_29 (lv_at hl 0 rfl) ?_
  refine lv_ifnullN (tgt := 73) hx hb dX6_checksum_31 (by decide) ?_
  obtain ⟨x_112, ex_112⟩ : ∃ y : Int32, y = 8 + 1 := ⟨_, rfl⟩
  have ex_112 : x_112 = 9 := ex_112.trans (by decide)
  subst ex_112
  refine lv_iinc (v := 9) (lv' := [(5, .int 9), (6, .null), (4, .int 16), (3, .ref xq), (1, .long 7), (0, .ref xo)]) hx hb dX6_checksum_73 hl (k := 1) rfl (by decide) (by decide) rfl (fun ls hl => ?_)
  refine lv_goto (tgt := 16) hx hb dX6_checksum_76 (by decide) ?_
  refine lv_iload hx hb dX6_checksum_16 (lv_at hl 0 rfl) ?_
  refine lv_iload hx hb dX6_checksum_18 (lv_at hl 2 rfl) ?_
  refine lv_icmp_ge (tgt := 79) hx hb dX6_checksum_20 (by decide) (fun cc => absurd cc (by decide)) (fun _ => ?_)
  refine lv_aload_n hx hb dX6_checksum_23 rfl (lv_at hl 3 rfl) ?_
  refine lv_iload hx hb dX6_checksum_24 (lv_at hl 0 rfl) ?_
  refine va_aldq (D := D) (cl := vwCl) hx hb hK hP 1 0 rfl rfl (vp_in_nI (n := 9) (N := 16) (by decide) (by decide)) dX6_checksum_26 ?_
  refine W.eq (g2 := F0 m 27 ls [.null]) rfl ?_
  refine lv_astoreN (lv' := [(6, .null), (5, .int 9), (4, .int 16), (3, .ref xq), (1, .long 7), (0, .ref xo)]) hx hb dX6_checksum_27 hl (by decide) rfl (fun ls hl => ?_)
  refine lv_aloadN hx hb dX6_checksum_29 (lv_at hl 0 rfl) ?_
  refine lv_ifnullN (tgt := 73) hx hb dX6_checksum_31 (by decide) ?_
  obtain ⟨x_113, ex_113⟩ : ∃ y : Int32, y = 9 + 1 := ⟨_, rfl⟩
  have ex_113 : x_113 = 10 := ex_113.trans (by decide)
  subst ex_113
  refine lv_iinc (v := 10) (lv' := [(5, .int 10), (6, .null), (4, .int 16), (3, .ref xq), (1, .long 7), (0, .ref xo)]) hx hb dX6_checksum_73 hl (k := 1) rfl (by decide) (by decide) rfl (fun ls hl => ?_)
  refine lv_goto (tgt := 16) hx hb dX6_checksum_76 (by decide) ?_
  refine lv_iload hx hb dX6_checksum_16 (lv_at hl 0 rfl) ?_
  refine lv_iload hx hb dX6_checksum_18 (lv_at hl 2 rfl) ?_
  refine lv_icmp_ge (tgt := 79) hx hb dX6_checksum_20 (by decide) (fun cc => absurd cc (by decide)) (fun _ => ?_)
  refine lv_aload_n hx hb dX6_checksum_23 rfl (lv_at hl 3 rfl) ?_
  refine lv_iload hx hb dX6_checksum_24 (lv_at hl 0 rfl) ?_
  refine va_aldq (D := D) (cl := vwCl) hx hb hK hP 1 0 rfl rfl (vp_in_nI (n := 10) (N := 16) (by decide) (by decide)) dX6_checksum_26 ?_
  refine W.eq (g2 := F0 m 27 ls [.null]) rfl ?_
  refine lv_astoreN (lv' := [(6, .null), (5, .int 10), (4, .int 16), (3, .ref xq), (1, .long 7), (0, .ref xo)]) hx hb dX6_checksum_27 hl (by decide) rfl (fun ls hl => ?_)
  refine lv_aloadN hx hb dX6_checksum_29 (lv_at hl 0 rfl) ?_
  refine lv_ifnullN (tgt := 73) hx hb dX6_checksum_31 (by decide) ?_
  obtain ⟨x_114, ex_114⟩ : ∃ y : Int32, y = 10 + 1 := ⟨_, rfl⟩
  have ex_114 : x_114 = 11 := ex_114.trans (by decide)
  subst ex_114
  refine lv_iinc (v := 11) (lv' := [(5, .int 11), (6, .null), (4, .int 16), (3, .ref xq), (1, .long 7), (0, .ref xo)]) hx hb dX6_checksum_73 hl (k := 1) rfl (by decide) (by decide) rfl (fun ls hl => ?_)
  refine lv_goto (tgt := 16) hx hb dX6_checksum_76 (by decide) ?_
  refine lv_iload hx hb dX6_checksum_16 (lv_at hl 0 rfl) ?_
  refine lv_iload hx hb dX6_checksum_18 (lv_at hl 2 rfl) ?_
  refine lv_icmp_ge (tgt := 79) hx hb dX6_checksum_20 (by decide) (fun cc => absurd cc (by decide)) (fun _ => ?_)
  refine lv_aload_n hx hb dX6_checksum_23 rfl (lv_at hl 3 rfl) ?_
  refine lv_iload hx hb dX6_checksum_24 (lv_at hl 0 rfl) ?_
  refine va_aldq (D := D) (cl := vwCl) hx hb hK hP 1 0 rfl rfl (vp_in_nI (n := 11) (N := 16) (by decide) (by decide)) dX6_checksum_26 ?_
  refine W.eq (g2 := F0 m 27 ls [.null]) rfl ?_
  refine lv_astoreN (lv' := [(6, .null), (5, .int 11), (4, .int 16), (3, .ref xq), (1, .long 7), (0, .ref xo)]) hx hb dX6_checksum_27 hl (by decide) rfl (fun ls hl => ?_)
  refine lv_aloadN hx hb dX6_checksum_29 (lv_at hl 0 rfl) ?_
  refine lv_ifnullN (tgt := 73) hx hb dX6_checksum_31 (by decide) ?_
  obtain ⟨x_115, ex_115⟩ : ∃ y : Int32, y = 11 + 1 := ⟨_, rfl⟩
  have ex_115 : x_115 = 12 := ex_115.trans (by decide)
  subst ex_115
  refine lv_iinc (v := 12) (lv' := [(5, .int 12), (6, .null), (4, .int 16), (3, .ref xq), (1, .long 7), (0, .ref xo)]) hx hb dX6_checksum_73 hl (k := 1) rfl (by decide) (by decide) rfl (fun ls hl => ?_)
  refine lv_goto (tgt := 16) hx hb dX6_checksum_76 (by decide) ?_
  refine lv_iload hx hb dX6_checksum_16 (lv_at hl 0 rfl) ?_
  refine lv_iload hx hb dX6_checksum_18 (lv_at hl 2 rfl) ?_
  refine lv_icmp_ge (tgt := 79) hx hb dX6_checksum_20 (by decide) (fun cc => absurd cc (by decide)) (fun _ => ?_)
  refine lv_aload_n hx hb dX6_checksum_23 rfl (lv_at hl 3 rfl) ?_
  refine lv_iload hx hb dX6_checksum_24 (lv_at hl 0 rfl) ?_
  refine va_aldq (D := D) (cl := vwCl) hx hb hK hP 1 0 rfl rfl (vp_in_nI (n := 12) (N := 16) (by decide) (by decide)) dX6_checksum_26 ?_
  refine W.eq (g2 := F0 m 27 ls [.null]) rfl ?_
  refine lv_astoreN (lv' := [(6, .null), (5, .int 12), (4, .int 16), (3, .ref xq), (1, .long 7), (0, .ref xo)]) hx hb dX6_checksum_27 hl (by decide) rfl (fun ls hl => ?_)
  refine lv_aloadN hx hb dX6_checksum_29 (lv_at hl 0 rfl) ?_
  refine lv_ifnullN (tgt := 73) hx hb dX6_checksum_31 (by decide) ?_
  obtain ⟨x_116, ex_116⟩ : ∃ y : Int32, y = 12 + 1 := ⟨_, rfl⟩
  have ex_116 : x_116 = 13 := ex_116.trans (by decide)
  subst ex_116
  refine lv_iinc (v := 13) (lv' := [(5, .int 13), (6, .null), (4, .int 16), (3, .ref xq), (1, .long 7), (0, .ref xo)]) hx hb dX6_checksum_73 hl (k := 1) rfl (by decide) (by decide) rfl (fun ls hl => ?_)
  refine lv_goto (tgt := 16) hx hb dX6_checksum_76 (by decide) ?_
  refine lv_iload hx hb dX6_checksum_16 (lv_at hl 0 rfl) ?_
  refine lv_iload hx hb dX6_checksum_18 (lv_at hl 2 rfl) ?_
  refine lv_icmp_ge (tgt := 79) hx hb dX6_checksum_20 (by decide) (fun cc => absurd cc (by decide)) (fun _ => ?_)
  refine lv_aload_n hx hb dX6_checksum_23 rfl (lv_at hl 3 rfl) ?_
  refine lv_iload hx hb dX6_checksum_24 (lv_at hl 0 rfl) ?_
  refine va_aldq (D := D) (cl := vwCl) hx hb hK hP 1 0 rfl rfl (vp_in_nI (n := 13) (N := 16) (by decide) (by decide)) dX6_checksum_26 ?_
  refine W.eq (g2 := F0 m 27 ls [.null]) rfl ?_
  refine lv_astoreN (lv' := [(6, .null), (5, .int 13), (4, .int 16), (3, .ref xq), (1, .long 7), (0, .ref xo)]) hx hb dX6_checksum_27 hl (by decide) rfl (fun ls hl => ?_)
  refine lv_aloadN hx hb dX6_checksum_29 (lv_at hl 0 rfl) ?_
  refine lv_ifnullN (tgt := 73) hx hb dX6_checksum_31 (by decide) ?_
  obtain ⟨x_117, ex_117⟩ : ∃ y : Int32, y = 13 + 1 := ⟨_, rfl⟩
  have ex_117 : x_117 = 14 := ex_117.trans (by decide)
  subst ex_117
  refine lv_iinc (v := 14) (lv' := [(5, .int 14), (6, .null), (4, .int 16), (3, .ref xq), (1, .long 7), (0, .ref xo)]) hx hb dX6_checksum_73 hl (k := 1) rfl (by decide) (by decide) rfl (fun ls hl => ?_)
  refine lv_goto (tgt := 16) hx hb dX6_checksum_76 (by decide) ?_
  refine lv_iload hx hb dX6_checksum_16 (lv_at hl 0 rfl) ?_
  refine lv_iload hx hb dX6_checksum_18 (lv_at hl 2 rfl) ?_
  refine lv_icmp_ge (tgt := 79) hx hb dX6_checksum_20 (by decide) (fun cc => absurd cc (by decide)) (fun _ => ?_)
  refine lv_aload_n hx hb dX6_checksum_23 rfl (lv_at hl 3 rfl) ?_
  refine lv_iload hx hb dX6_checksum_24 (lv_at hl 0 rfl) ?_
  refine va_aldq (D := D) (cl := vwCl) hx hb hK hP 1 0 rfl rfl (vp_in_nI (n := 14) (N := 16) (by decide) (by decide)) dX6_checksum_26 ?_
  refine W.eq (g2 := F0 m 27 ls [.null]) rfl ?_
  refine lv_astoreN (lv' := [(6, .null), (5, .int 14), (4, .int 16), (3, .ref xq), (1, .long 7), (0, .ref xo)]) hx hb dX6_checksum_27 hl (by decide) rfl (fun ls hl => ?_)
  refine lv_aloadN hx hb dX6_checksum_29 (lv_at hl 0 rfl) ?_
  refine lv_ifnullN (tgt := 73) hx hb dX6_checksum_31 (by decide) ?_
  obtain ⟨x_118, ex_118⟩ : ∃ y : Int32, y = 14 + 1 := ⟨_, rfl⟩
  have ex_118 : x_118 = 15 := ex_118.trans (by decide)
  subst ex_118
  refine lv_iinc (v := 15) (lv' := [(5, .int 15), (6, .null), (4, .int 16), (3, .ref xq), (1, .long 7), (0, .ref xo)]) hx hb dX6_checksum_73 hl (k := 1) rfl (by decide) (by decide) rfl (fun ls hl => ?_)
  refine lv_goto (tgt := 16) hx hb dX6_checksum_76 (by decide) ?_
  refine lv_iload hx hb dX6_checksum_16 (lv_at hl 0 rfl) ?_
  refine lv_iload hx hb dX6_checksum_18 (lv_at hl 2 rfl) ?_
  refine lv_icmp_ge (tgt := 79) hx hb dX6_checksum_20 (by decide) (fun cc => absurd cc (by decide)) (fun _ => ?_)
  refine lv_aload_n hx hb dX6_checksum_23 rfl (lv_at hl 3 rfl) ?_
  refine lv_iload hx hb dX6_checksum_24 (lv_at hl 0 rfl) ?_
  refine va_aldq (D := D) (cl := vwCl) hx hb hK hP 1 0 rfl rfl (vp_in_nI (n := 15) (N := 16) (by decide) (by decide)) dX6_checksum_26 ?_
  refine W.eq (g2 := F0 m 27 ls [.null]) rfl ?_
  refine lv_astoreN (lv' := [(6, .null), (5, .int 15), (4, .int 16), (3, .ref xq), (1, .long 7), (0, .ref xo)]) hx hb dX6_checksum_27 hl (by decide) rfl (fun ls hl => ?_)
  refine lv_aloadN hx hb dX6_checksum_29 (lv_at hl 0 rfl) ?_
  refine lv_ifnullN (tgt := 73) hx hb dX6_checksum_31 (by decide) ?_
  obtain ⟨x_119, ex_119⟩ : ∃ y : Int32, y = 15 + 1 := ⟨_, rfl⟩
  have ex_119 : x_119 = 16 := ex_119.trans (by decide)
  subst ex_119
  refine lv_iinc (v := 16) (lv' := [(5, .int 16), (6, .null), (4, .int 16), (3, .ref xq), (1, .long 7), (0, .ref xo)]) hx hb dX6_checksum_73 hl (k := 1) rfl (by decide) (by decide) rfl (fun ls hl => ?_)
  refine lv_goto (tgt := 16) hx hb dX6_checksum_76 (by decide) ?_
  refine lv_iload hx hb dX6_checksum_16 (lv_at hl 0 rfl) ?_
  refine lv_iload hx hb dX6_checksum_18 (lv_at hl 2 rfl) ?_
  refine lv_icmp_ge (tgt := 79) hx hb dX6_checksum_20 (by decide) (fun _ => ?_) (fun cc => absurd (by decide) cc)
  refine lv_lload_n hx hb dX6_checksum_79 rfl (lv_at hl 4 rfl) ?_
  exact W.lret (v := 7) hx hb hr (fun t ht hW => ⟨7, rfl, rfl, ht⟩) (fun q h => by cases h) dX6_checksum_80
theorem zgV_X6_122 : ((vx_atS RX6 122 "java/lang/IllegalArgumentException" ["java/lang/RuntimeException", "java/lang/Exception"]).filter goodWord).all goodWord = true := by decide +kernel
theorem dX6_glass_0 : decode cX6_glass 0 = .ok (.iload_n 1, 1) := by decide +kernel
theorem dX6_glass_1 : decode cX6_glass 1 = .ok (.sipush 600, 3) := by decide +kernel
theorem dX6_glass_4 : decode cX6_glass 4 = .ok (.sipush 1100, 3) := by decide +kernel
theorem dX6_glass_7 : decode cX6_glass 7 = .ok (.invokestatic 75, 3) := by decide +kernel
def wzEX6_glass_b0 : List Cond := [.code yX6_glass cX6_glass 5 (some .int), .methodLink RX6 75 yX6_checkRange, .static yX6_checkRange, .initialized RX6, .code yX6_checkRange cX6_checkRange 3 none, .classLink RX6 118 "java/lang/IllegalArgumentException", .initialized "java/lang/IllegalArgumentException"]
def wzX6_glass_b0 : List Cond := wzEX6_glass_b0 ++ ((vx_atS RX6 122 "java/lang/IllegalArgumentException" ["java/lang/RuntimeException", "java/lang/Exception"]).filter goodWord)
theorem zgEX6_glass_b0 : wzEX6_glass_b0.all goodWord = true := by decide +kernel
theorem ztX6_glass_b0_X6_122 : ∀ w ∈ (vx_atS RX6 122 "java/lang/IllegalArgumentException" ["java/lang/RuntimeException", "java/lang/Exception"]).filter goodWord, w ∈ wzX6_glass_b0 := (fun _ h => (List.mem_append_right _ h))
theorem gzX6_glass_b0_X6_checkRange_lo_75 : GoodIn wzX6_glass_b0 (va_wsS RX6 75 yX6_checkRange wzX6_checkRange_lo) := (goodIn_app (z_lift (goodIn_r _ [1, 2, 3] rfl (by decide +kernel))) (goodIn_app (z_lift (goodIn_r wzEX6_checkRange_lo [4, 5, 6] rfl zgEX6_checkRange_lo)) (goodIn_sub (fun _ h => (List.mem_append_right _ h)) zgV_X6_122)))
set_option maxHeartbeats 4000000 in
set_option maxRecDepth 100000 in
theorem zc_X6_glass_b0 (l : Launch) (hnt : l.stackTraces = false) (D : va_G) (G : Nat × Nat × (Nat → Int32)) (xo : Nat) (xg : Nat) (gc : Int32) (xp : Nat) (pc : Int32) (xq : Nat) (qc : Int32) (r1 : Nat) (r2 : Nat) (r3 : Nat) (r4 : Nat) (se : Nat) (ts : Int32) (hou : Int32) (dr : Int32) (su : Int32) (br : Int32) (sz : Nat) : vx_Met l yX6_glass wzX6_glass_b0 ({ frames := 7, cells := 1, slots := 6, locals := 104 }) (va_Pc [.ref xo, .int 599, .int 700, .int 80, .int 0] (p_RW D G [] [(xo, .inr (6, [.ref xg, .int gc, .ref xp, .int pc, .ref xq, .int qc, .ref r1, .ref r2, .ref r3, .ref r4, .ref se, .int ts, .int hou, .int dr, .int su, .int br]))] sz)) (va_Qi (fun (r : Int32) (u : Unit) => False) (fun (u : Unit) (t : State) => q_RW D [] [(xo, .inr (6, [.ref xg, .int gc, .ref xp, .int pc, .ref xq, .int qc, .ref r1, .ref r2, .ref r3, .ref r4, .ref se, .int ts, .int hou, .int dr, .int su, .int br]))] (va_A [(xo, .inr (6, [.ref xg, .int gc, .ref xp, .int pc, .ref xq, .int qc, .ref r1, .ref r2, .ref r3, .ref r4, .ref se, .int ts, .int hou, .int dr, .int su, .int br]))] sz) t) (va_A [(xo, .inr (6, [.ref xg, .int gc, .ref xp, .int pc, .ref xq, .int qc, .ref r1, .ref r2, .ref r3, .ref r4, .ref se, .int ts, .int hou, .int dr, .int su, .int br]))] sz)) (vx_X (fun (_ : Unit) => True) (fun E (_ : Unit) (t : State) => ((E = "java/lang/IllegalArgumentException")) ∧ q_RW D [] [(xo, .inr (6, [.ref xg, .int gc, .ref xp, .int pc, .ref xq, .int qc, .ref r1, .ref r2, .ref r3, .ref r4, .ref se, .int ts, .int hou, .int dr, .int su, .int br]))] (va_A [(xo, .inr (6, [.ref xg, .int gc, .ref xp, .int pc, .ref xq, .int qc, .ref r1, .ref r2, .ref r3, .ref r4, .ref se, .int ts, .int hou, .int dr, .int su, .int br]))] sz) t) (va_A [(xo, .inr (6, [.ref xg, .int gc, .ref xp, .int pc, .ref xq, .int qc, .ref r1, .ref r2, .ref r3, .ref r4, .ref se, .int ts, .int hou, .int dr, .int su, .int br]))] sz)) 1 6 (va_A [(xo, .inr (6, [.ref xg, .int gc, .ref xp, .int pc, .ref xq, .int qc, .ref r1, .ref r2, .ref r3, .ref r4, .ref se, .int ts, .int hou, .int dr, .int su, .int br]))] sz) := by
  refine vx_ofW (cc := cX6_glass) (maxL := 5) (ret := (some .int)) (by decide) rfl ?_
  intro p e s m args below meth c s₁ B hml hxt hv
  obtain ⟨rfl, hsz, hP, hK, hD0, hT, hZ⟩ := hv
  have hx := B.exec
  have hb := B.bytes
  have hr := B.returns
  have hts := atoms_spec (ws := wzX6_glass_b0) B.pre
  have hown : s.vm.findClass RX6 = some m.cls := findClass_of_methodNamed B.named
  have hlocks := B.notSynchronized
  subst hsz
  have hD := hD0.self (sz := s.heap.size)
  generalize hAe : va_A [(xo, .inr (6, [.ref xg, .int gc, .ref xp, .int pc, .ref xq, .int qc, .ref r1, .ref r2, .ref r3, .ref r4, .ref se, .int ts, .int hou, .int dr, .int su, .int br]))] s.heap.size = A at hD hZ ⊢
  have hA : ∀ q : Nat, s.heap.size ≤ q → A q := fun q h => by rw [← hAe]; exact Or.inr h
  have hS : va_S A s.heap s.heap [] := va_S.rf
  have hl := lv_entry ([.ref xo, .int 599, .int 700, .int 80, .int 0]) (n := 5) (Nat.le_of_ble_eq_true rfl)
  rw [lg_entry_eq]
  generalize (lg_sl ([.ref xo, .int 599, .int 700, .int 80, .int 0]) ++ List.replicate (5 - (lg_sl ([.ref xo, .int 599, .int 700, .int 80, .int 0])).length) Slot.unset).toArray = ls at hl ⊢
  have hl : lv_has ls 5 [(0, .ref xo), (1, .int 599), (2, .int 700), (3, .int 80), (4, .int 0)] := hl
  refine lv_iload_n hx hb dX6_glass_0 rfl (lv_at hl 1 rfl) ?_
  refine lv_sipush (v := 600) hx hb dX6_glass_1 (by decide) ?_
  refine lv_sipush (v := 1100) hx hb dX6_glass_4 (by decide) ?_
  have hFc := va_free (wc := []) hD hS hA [] rfl
  refine vx_callv (vx_runS (As := [.int 599, .int 600, .int 1100]) (rest := []) ⟨hx, hb, hml, hown, hts⟩ (zc_X6_checkRange_lo l hnt D G 599 600 1100 s.heap.size (by first | assumption | rfl | omega | exact Nat.le_trans (zS_le _ _ _) (by omega) | decide) (by first | assumption | rfl | omega | exact Nat.le_trans (zS_le _ _ _) (by omega) | decide) (by first | assumption | rfl | omega | exact Nat.le_trans (zS_le _ _ _) (by omega) | decide) (by first | assumption | rfl | omega | exact Nat.le_trans (zS_le _ _ _) (by omega) | decide)) (cwS 3 hts gzX6_glass_b0_X6_checkRange_lo_75 rfl rfl rfl (by decide +kernel) ⟨(Nat.le_of_ble_eq_true rfl), (Nat.le_of_ble_eq_true rfl)⟩) ⟨p_RW_blind, (p_RW_at (tc := []) (wc := []) hP hK hD hS hA hT hZ [] [] rfl rfl (by decide) rfl [.int 599, .int 600, .int 1100])⟩ rfl rfl hl.1 rfl (lv_room (Nat.le_of_ble_eq_true rfl)) dX6_glass_7 ⟨(Nat.le_of_ble_eq_true rfl), (Nat.le_of_ble_eq_true rfl)⟩) hS (fun q _ h => hFc q h) hFc (fun q _ h => hFc q h) (fun E ce q9 u t H locs ht hvm hpx hBX hz1 hk1 hS hce hcv hcl => ?_) (fun u t H locs ht hvm w_121 hB hz1 hk1 hS => ?_)
  · obtain ⟨hP, hD, hK⟩ := q_join (D := D) (wc := []) (wr := [(xo, .inr (6, [.ref xg, .int gc, .ref xp, .int pc, .ref xq, .int qc, .ref r1, .ref r2, .ref r3, .ref r4, .ref se, .int ts, .int hou, .int dr, .int su, .int br]))]) (w1 := []) (tyr := []) (ty1 := []) hP hD hK [] [0] [] rfl rfl (by decide) (by decide) rfl hFc hk1 ht hvm (q_none hK hvm)
    have hP : va_P D vwCl [(xo, .inr (6, [.ref xg, .int gc, .ref xp, .int pc, .ref xq, .int qc, .ref r1, .ref r2, .ref r3, .ref r4, .ref se, .int ts, .int hou, .int dr, .int su, .int br]))] H := hP
    have hD : va_D A [(xo, .inr (6, [.ref xg, .int gc, .ref xp, .int pc, .ref xq, .int qc, .ref r1, .ref r2, .ref r3, .ref r4, .ref se, .int ts, .int hou, .int dr, .int su, .int br]))] := hD
    have hK : va_K D vwCl [] s := hK
    have hBX : (E = "java/lang/IllegalArgumentException") := hBX
    rcases hBX with rfl
    exact vx_out (fun x h => (hxt x h).elim) hlocks hce hcv hcl (fun t ht hW9 => ⟨(), trivial, ⟨rfl, q_RW_mk hP hK hD [0] [] rfl rfl (by decide) rfl ht hW9⟩, hS.F ht⟩) hS.2.2 (Nat.le_of_ble_eq_true rfl) (Nat.le_of_ble_eq_true rfl)
  · exact w_121.elim
theorem dX6_glass_10 : decode cX6_glass 10 = .ok (.iload_n 2, 1) := by decide +kernel
theorem dX6_glass_11 : decode cX6_glass 11 = .ok (.iload_n 1, 1) := by decide +kernel
theorem dX6_glass_12 : decode cX6_glass 12 = .ok (.sipush 1100, 3) := by decide +kernel
theorem dX6_glass_15 : decode cX6_glass 15 = .ok (.invokestatic 75, 3) := by decide +kernel
def wzEX6_glass_b1 : List Cond := [.code yX6_glass cX6_glass 5 (some .int), .methodLink RX6 75 yX6_checkRange, .static yX6_checkRange, .initialized RX6, .code yX6_checkRange cX6_checkRange 3 none, .classLink RX6 118 "java/lang/IllegalArgumentException", .initialized "java/lang/IllegalArgumentException"]
def wzX6_glass_b1 : List Cond := wzEX6_glass_b1 ++ ((vx_atS RX6 122 "java/lang/IllegalArgumentException" ["java/lang/RuntimeException", "java/lang/Exception"]).filter goodWord)
theorem zgEX6_glass_b1 : wzEX6_glass_b1.all goodWord = true := by decide +kernel
theorem ztX6_glass_b1_X6_122 : ∀ w ∈ (vx_atS RX6 122 "java/lang/IllegalArgumentException" ["java/lang/RuntimeException", "java/lang/Exception"]).filter goodWord, w ∈ wzX6_glass_b1 := (fun _ h => (List.mem_append_right _ h))
theorem gzX6_glass_b1_X6_checkRange_ok_75 : GoodIn wzX6_glass_b1 (va_wsS RX6 75 yX6_checkRange wzX6_checkRange_ok) := (goodIn_app (z_lift (goodIn_r _ [1, 2, 3] rfl (by decide +kernel))) (goodIn_app (z_lift (goodIn_r wzEX6_checkRange_ok [4] rfl zgEX6_checkRange_ok)) z_gnil))
theorem gzX6_glass_b1_X6_checkRange_lo_75 : GoodIn wzX6_glass_b1 (va_wsS RX6 75 yX6_checkRange wzX6_checkRange_lo) := (goodIn_app (z_lift (goodIn_r _ [1, 2, 3] rfl (by decide +kernel))) (goodIn_app (z_lift (goodIn_r wzEX6_checkRange_lo [4, 5, 6] rfl zgEX6_checkRange_lo)) (goodIn_sub (fun _ h => (List.mem_append_right _ h)) zgV_X6_122)))
set_option maxHeartbeats 4000000 in
set_option maxRecDepth 100000 in
theorem zc_X6_glass_b1 (l : Launch) (hnt : l.stackTraces = false) (D : va_G) (G : Nat × Nat × (Nat → Int32)) (xo : Nat) (xg : Nat) (gc : Int32) (xp : Nat) (pc : Int32) (xq : Nat) (qc : Int32) (r1 : Nat) (r2 : Nat) (r3 : Nat) (r4 : Nat) (se : Nat) (ts : Int32) (hou : Int32) (dr : Int32) (su : Int32) (br : Int32) (sz : Nat) : vx_Met l yX6_glass wzX6_glass_b1 ({ frames := 7, cells := 1, slots := 6, locals := 104 }) (va_Pc [.ref xo, .int 700, .int 699, .int 80, .int 0] (p_RW D G [] [(xo, .inr (6, [.ref xg, .int gc, .ref xp, .int pc, .ref xq, .int qc, .ref r1, .ref r2, .ref r3, .ref r4, .ref se, .int ts, .int hou, .int dr, .int su, .int br]))] sz)) (va_Qi (fun (r : Int32) (u : Unit) => False) (fun (u : Unit) (t : State) => q_RW D [] [(xo, .inr (6, [.ref xg, .int gc, .ref xp, .int pc, .ref xq, .int qc, .ref r1, .ref r2, .ref r3, .ref r4, .ref se, .int ts, .int hou, .int dr, .int su, .int br]))] (va_A [(xo, .inr (6, [.ref xg, .int gc, .ref xp, .int pc, .ref xq, .int qc, .ref r1, .ref r2, .ref r3, .ref r4, .ref se, .int ts, .int hou, .int dr, .int su, .int br]))] sz) t) (va_A [(xo, .inr (6, [.ref xg, .int gc, .ref xp, .int pc, .ref xq, .int qc, .ref r1, .ref r2, .ref r3, .ref r4, .ref se, .int ts, .int hou, .int dr, .int su, .int br]))] sz)) (vx_X (fun (_ : Unit) => True) (fun E (_ : Unit) (t : State) => ((E = "java/lang/IllegalArgumentException")) ∧ q_RW D [] [(xo, .inr (6, [.ref xg, .int gc, .ref xp, .int pc, .ref xq, .int qc, .ref r1, .ref r2, .ref r3, .ref r4, .ref se, .int ts, .int hou, .int dr, .int su, .int br]))] (va_A [(xo, .inr (6, [.ref xg, .int gc, .ref xp, .int pc, .ref xq, .int qc, .ref r1, .ref r2, .ref r3, .ref r4, .ref se, .int ts, .int hou, .int dr, .int su, .int br]))] sz) t) (va_A [(xo, .inr (6, [.ref xg, .int gc, .ref xp, .int pc, .ref xq, .int qc, .ref r1, .ref r2, .ref r3, .ref r4, .ref se, .int ts, .int hou, .int dr, .int su, .int br]))] sz)) 1 6 (va_A [(xo, .inr (6, [.ref xg, .int gc, .ref xp, .int pc, .ref xq, .int qc, .ref r1, .ref r2, .ref r3, .ref r4, .ref se, .int ts, .int hou, .int dr, .int su, .int br]))] sz) := by
  refine vx_ofW (cc := cX6_glass) (maxL := 5) (ret := (some .int)) (by decide) rfl ?_
  intro p e s m args below meth c s₁ B hml hxt hv
  obtain ⟨rfl, hsz, hP, hK, hD0, hT, hZ⟩ := hv
  have hx := B.exec
  have hb := B.bytes
  have hr := B.returns
  have hts := atoms_spec (ws := wzX6_glass_b1) B.pre
  have hown : s.vm.findClass RX6 = some m.cls := findClass_of_methodNamed B.named
  have hlocks := B.notSynchronized
  subst hsz
  have hD := hD0.self (sz := s.heap.size)
  generalize hAe : va_A [(xo, .inr (6, [.ref xg, .int gc, .ref xp, .int pc, .ref xq, .int qc, .ref r1, .ref r2, .ref r3, .ref r4, .ref se, .int ts, .int hou, .int dr, .int su, .int br]))] s.heap.size = A at hD hZ ⊢
  have hA : ∀ q : Nat, s.heap.size ≤ q → A q := fun q h => by rw [← hAe]; exact Or.inr h
  have hS : va_S A s.heap s.heap [] := va_S.rf
  have hl := lv_entry ([.ref xo, .int 700, .int 699, .int 80, .int 0]) (n := 5) (Nat.le_of_ble_eq_true rfl)
  rw [lg_entry_eq]
  generalize (lg_sl ([.ref xo, .int 700, .int 699, .int 80, .int 0]) ++ List.replicate (5 - (lg_sl ([.ref xo, .int 700, .int 699, .int 80, .int 0])).length) Slot.unset).toArray = ls at hl ⊢
  have hl : lv_has ls 5 [(0, .ref xo), (1, .int 700), (2, .int 699), (3, .int 80), (4, .int 0)] := hl
  refine lv_iload_n hx hb dX6_glass_0 rfl (lv_at hl 1 rfl) ?_
  refine lv_sipush (v := 600) hx hb dX6_glass_1 (by decide) ?_
  refine lv_sipush (v := 1100) hx hb dX6_glass_4 (by decide) ?_
  have hFc := va_free (wc := []) hD hS hA [] rfl
  refine vx_callv (vx_runS (As := [.int 700, .int 600, .int 1100]) (rest := []) ⟨hx, hb, hml, hown, hts⟩ (zc_X6_checkRange_ok l hnt D G 700 600 1100 s.heap.size (by first | assumption | rfl | omega | exact Nat.le_trans (zS_le _ _ _) (by omega) | decide) (by first | assumption | rfl | omega | exact Nat.le_trans (zS_le _ _ _) (by omega) | decide) (by first | assumption | rfl | omega | exact Nat.le_trans (zS_le _ _ _) (by omega) | decide) (by first | assumption | rfl | omega | exact Nat.le_trans (zS_le _ _ _) (by omega) | decide) (by first | assumption | rfl | omega | exact Nat.le_trans (zS_le _ _ _) (by omega) | decide)) (cwS 3 hts gzX6_glass_b1_X6_checkRange_ok_75 rfl rfl rfl (by decide +kernel) ⟨(Nat.le_of_ble_eq_true rfl), (Nat.le_of_ble_eq_true rfl)⟩) ⟨p_RW_blind, (p_RW_at (tc := []) (wc := []) hP hK hD hS hA hT hZ [] [] rfl rfl (by decide) rfl [.int 700, .int 600, .int 1100])⟩ rfl rfl hl.1 rfl (lv_room (Nat.le_of_ble_eq_true rfl)) dX6_glass_7 ⟨(Nat.le_of_ble_eq_true rfl), (Nat.le_of_ble_eq_true rfl)⟩) hS (fun q _ h => hFc q h) hFc (fun q _ h => hFc q h) (fun E ce q9 u t H locs ht hvm hpx hBX hz1 hk1 hS hce hcv hcl => ?_) (fun u t H locs ht hvm w_123 hB hz1 hk1 hS => ?_)
  · exact (show False from hBX).elim
  · obtain ⟨hP, hD, hK⟩ := q_join (D := D) (wc := []) (wr := [(xo, .inr (6, [.ref xg, .int gc, .ref xp, .int pc, .ref xq, .int qc, .ref r1, .ref r2, .ref r3, .ref r4, .ref se, .int ts, .int hou, .int dr, .int su, .int br]))]) (w1 := []) (tyr := []) (ty1 := []) hP hD hK [] [0] [] rfl rfl (by decide) (by decide) rfl hFc hk1 ht hvm hB
    have hP : va_P D vwCl [(xo, .inr (6, [.ref xg, .int gc, .ref xp, .int pc, .ref xq, .int qc, .ref r1, .ref r2, .ref r3, .ref r4, .ref se, .int ts, .int hou, .int dr, .int su, .int br]))] H := hP
    have hD : va_D A [(xo, .inr (6, [.ref xg, .int gc, .ref xp, .int pc, .ref xq, .int qc, .ref r1, .ref r2, .ref r3, .ref r4, .ref se, .int ts, .int hou, .int dr, .int su, .int br]))] := hD
    have hK : va_K D vwCl [] s := hK
    refine lv_iload_n hx hb dX6_glass_10 rfl (lv_at hl 2 rfl) ?_
    refine lv_iload_n hx hb dX6_glass_11 rfl (lv_at hl 1 rfl) ?_
    refine lv_sipush (v := 1100) hx hb dX6_glass_12 (by decide) ?_
    have hFc := va_free (wc := []) hD hS hA [] rfl
    refine vx_callv (vx_runS (As := [.int 699, .int 700, .int 1100]) (rest := []) ⟨hx, hb, hml, hown, hts⟩ (zc_X6_checkRange_lo l hnt D G 699 700 1100 H.size (by first | assumption | rfl | omega | exact Nat.le_trans (zS_le _ _ _) (by omega) | decide) (by first | assumption | rfl | omega | exact Nat.le_trans (zS_le _ _ _) (by omega) | decide) (by first | assumption | rfl | omega | exact Nat.le_trans (zS_le _ _ _) (by omega) | decide) (by first | assumption | rfl | omega | exact Nat.le_trans (zS_le _ _ _) (by omega) | decide)) (cwS 3 hts gzX6_glass_b1_X6_checkRange_lo_75 rfl rfl rfl (by decide +kernel) ⟨(Nat.le_of_ble_eq_true rfl), (Nat.le_of_ble_eq_true rfl)⟩) ⟨p_RW_blind, (p_RW_at (tc := []) (wc := []) hP hK hD hS hA hT hZ [] [] rfl rfl (by decide) rfl [.int 699, .int 700, .int 1100])⟩ rfl rfl hl.1 rfl (lv_room (Nat.le_of_ble_eq_true rfl)) dX6_glass_15 ⟨(Nat.le_of_ble_eq_true rfl), (Nat.le_of_ble_eq_true rfl)⟩) hS (fun q _ h => hFc q h) hFc (fun q _ h => hFc q h) (fun E ce q9 u t H locs ht hvm hpx hBX hz1 hk1 hS hce hcv hcl => ?_) (fun u t H locs ht hvm w_125 hB hz1 hk1 hS => ?_)
    · obtain ⟨hP, hD, hK⟩ := q_join (D := D) (wc := []) (wr := [(xo, .inr (6, [.ref xg, .int gc, .ref xp, .int pc, .ref xq, .int qc, .ref r1, .ref r2, .ref r3, .ref r4, .ref se, .int ts, .int hou, .int dr, .int su, .int br]))]) (w1 := []) (tyr := []) (ty1 := []) hP hD hK [] [0] [] rfl rfl (by decide) (by decide) rfl hFc hk1 ht hvm (q_none hK hvm)
      have hP : va_P D vwCl [(xo, .inr (6, [.ref xg, .int gc, .ref xp, .int pc, .ref xq, .int qc, .ref r1, .ref r2, .ref r3, .ref r4, .ref se, .int ts, .int hou, .int dr, .int su, .int br]))] H := hP
      have hD : va_D A [(xo, .inr (6, [.ref xg, .int gc, .ref xp, .int pc, .ref xq, .int qc, .ref r1, .ref r2, .ref r3, .ref r4, .ref se, .int ts, .int hou, .int dr, .int su, .int br]))] := hD
      have hK : va_K D vwCl [] s := hK
      have hBX : (E = "java/lang/IllegalArgumentException") := hBX
      rcases hBX with rfl
      exact vx_out (fun x h => (hxt x h).elim) hlocks hce hcv hcl (fun t ht hW9 => ⟨(), trivial, ⟨rfl, q_RW_mk hP hK hD [0] [] rfl rfl (by decide) rfl ht hW9⟩, hS.F ht⟩) hS.2.2 (Nat.le_of_ble_eq_true rfl) (Nat.le_of_ble_eq_true rfl)
    · exact w_125.elim
theorem dX6_glass_18 : decode cX6_glass 18 = .ok (.iload_n 3, 1) := by decide +kernel
theorem dX6_glass_19 : decode cX6_glass 19 = .ok (.bipush 50, 2) := by decide +kernel
theorem dX6_glass_21 : decode cX6_glass 21 = .ok (.sipush 150, 3) := by decide +kernel
theorem dX6_glass_24 : decode cX6_glass 24 = .ok (.invokestatic 75, 3) := by decide +kernel
def wzEX6_glass_b2 : List Cond := [.code yX6_glass cX6_glass 5 (some .int), .methodLink RX6 75 yX6_checkRange, .static yX6_checkRange, .initialized RX6, .code yX6_checkRange cX6_checkRange 3 none, .classLink RX6 118 "java/lang/IllegalArgumentException", .initialized "java/lang/IllegalArgumentException"]
def wzX6_glass_b2 : List Cond := wzEX6_glass_b2 ++ ((vx_atS RX6 122 "java/lang/IllegalArgumentException" ["java/lang/RuntimeException", "java/lang/Exception"]).filter goodWord)
theorem zgEX6_glass_b2 : wzEX6_glass_b2.all goodWord = true := by decide +kernel
theorem ztX6_glass_b2_X6_122 : ∀ w ∈ (vx_atS RX6 122 "java/lang/IllegalArgumentException" ["java/lang/RuntimeException", "java/lang/Exception"]).filter goodWord, w ∈ wzX6_glass_b2 := (fun _ h => (List.mem_append_right _ h))
theorem gzX6_glass_b2_X6_checkRange_ok_75 : GoodIn wzX6_glass_b2 (va_wsS RX6 75 yX6_checkRange wzX6_checkRange_ok) := (goodIn_app (z_lift (goodIn_r _ [1, 2, 3] rfl (by decide +kernel))) (goodIn_app (z_lift (goodIn_r wzEX6_checkRange_ok [4] rfl zgEX6_checkRange_ok)) z_gnil))
theorem gzX6_glass_b2_X6_checkRange_lo_75 : GoodIn wzX6_glass_b2 (va_wsS RX6 75 yX6_checkRange wzX6_checkRange_lo) := (goodIn_app (z_lift (goodIn_r _ [1, 2, 3] rfl (by decide +kernel))) (goodIn_app (z_lift (goodIn_r wzEX6_checkRange_lo [4, 5, 6] rfl zgEX6_checkRange_lo)) (goodIn_sub (fun _ h => (List.mem_append_right _ h)) zgV_X6_122)))
set_option maxHeartbeats 4000000 in
set_option maxRecDepth 100000 in
theorem zc_X6_glass_b2 (l : Launch) (hnt : l.stackTraces = false) (D : va_G) (G : Nat × Nat × (Nat → Int32)) (xo : Nat) (xg : Nat) (gc : Int32) (xp : Nat) (pc : Int32) (xq : Nat) (qc : Int32) (r1 : Nat) (r2 : Nat) (r3 : Nat) (r4 : Nat) (se : Nat) (ts : Int32) (hou : Int32) (dr : Int32) (su : Int32) (br : Int32) (sz : Nat) : vx_Met l yX6_glass wzX6_glass_b2 ({ frames := 7, cells := 1, slots := 6, locals := 104 }) (va_Pc [.ref xo, .int 700, .int 800, .int 49, .int 0] (p_RW D G [] [(xo, .inr (6, [.ref xg, .int gc, .ref xp, .int pc, .ref xq, .int qc, .ref r1, .ref r2, .ref r3, .ref r4, .ref se, .int ts, .int hou, .int dr, .int su, .int br]))] sz)) (va_Qi (fun (r : Int32) (u : Unit) => False) (fun (u : Unit) (t : State) => q_RW D [] [(xo, .inr (6, [.ref xg, .int gc, .ref xp, .int pc, .ref xq, .int qc, .ref r1, .ref r2, .ref r3, .ref r4, .ref se, .int ts, .int hou, .int dr, .int su, .int br]))] (va_A [(xo, .inr (6, [.ref xg, .int gc, .ref xp, .int pc, .ref xq, .int qc, .ref r1, .ref r2, .ref r3, .ref r4, .ref se, .int ts, .int hou, .int dr, .int su, .int br]))] sz) t) (va_A [(xo, .inr (6, [.ref xg, .int gc, .ref xp, .int pc, .ref xq, .int qc, .ref r1, .ref r2, .ref r3, .ref r4, .ref se, .int ts, .int hou, .int dr, .int su, .int br]))] sz)) (vx_X (fun (_ : Unit) => True) (fun E (_ : Unit) (t : State) => ((E = "java/lang/IllegalArgumentException")) ∧ q_RW D [] [(xo, .inr (6, [.ref xg, .int gc, .ref xp, .int pc, .ref xq, .int qc, .ref r1, .ref r2, .ref r3, .ref r4, .ref se, .int ts, .int hou, .int dr, .int su, .int br]))] (va_A [(xo, .inr (6, [.ref xg, .int gc, .ref xp, .int pc, .ref xq, .int qc, .ref r1, .ref r2, .ref r3, .ref r4, .ref se, .int ts, .int hou, .int dr, .int su, .int br]))] sz) t) (va_A [(xo, .inr (6, [.ref xg, .int gc, .ref xp, .int pc, .ref xq, .int qc, .ref r1, .ref r2, .ref r3, .ref r4, .ref se, .int ts, .int hou, .int dr, .int su, .int br]))] sz)) 1 6 (va_A [(xo, .inr (6, [.ref xg, .int gc, .ref xp, .int pc, .ref xq, .int qc, .ref r1, .ref r2, .ref r3, .ref r4, .ref se, .int ts, .int hou, .int dr, .int su, .int br]))] sz) := by
  refine vx_ofW (cc := cX6_glass) (maxL := 5) (ret := (some .int)) (by decide) rfl ?_
  intro p e s m args below meth c s₁ B hml hxt hv
  obtain ⟨rfl, hsz, hP, hK, hD0, hT, hZ⟩ := hv
  have hx := B.exec
  have hb := B.bytes
  have hr := B.returns
  have hts := atoms_spec (ws := wzX6_glass_b2) B.pre
  have hown : s.vm.findClass RX6 = some m.cls := findClass_of_methodNamed B.named
  have hlocks := B.notSynchronized
  subst hsz
  have hD := hD0.self (sz := s.heap.size)
  generalize hAe : va_A [(xo, .inr (6, [.ref xg, .int gc, .ref xp, .int pc, .ref xq, .int qc, .ref r1, .ref r2, .ref r3, .ref r4, .ref se, .int ts, .int hou, .int dr, .int su, .int br]))] s.heap.size = A at hD hZ ⊢
  have hA : ∀ q : Nat, s.heap.size ≤ q → A q := fun q h => by rw [← hAe]; exact Or.inr h
  have hS : va_S A s.heap s.heap [] := va_S.rf
  have hl := lv_entry ([.ref xo, .int 700, .int 800, .int 49, .int 0]) (n := 5) (Nat.le_of_ble_eq_true rfl)
  rw [lg_entry_eq]
  generalize (lg_sl ([.ref xo, .int 700, .int 800, .int 49, .int 0]) ++ List.replicate (5 - (lg_sl ([.ref xo, .int 700, .int 800, .int 49, .int 0])).length) Slot.unset).toArray = ls at hl ⊢
  have hl : lv_has ls 5 [(0, .ref xo), (1, .int 700), (2, .int 800), (3, .int 49), (4, .int 0)] := hl
  refine lv_iload_n hx hb dX6_glass_0 rfl (lv_at hl 1 rfl) ?_
  refine lv_sipush (v := 600) hx hb dX6_glass_1 (by decide) ?_
  refine lv_sipush (v := 1100) hx hb dX6_glass_4 (by decide) ?_
  have hFc := va_free (wc := []) hD hS hA [] rfl
  refine vx_callv (vx_runS (As := [.int 700, .int 600, .int 1100]) (rest := []) ⟨hx, hb, hml, hown, hts⟩ (zc_X6_checkRange_ok l hnt D G 700 600 1100 s.heap.size (by first | assumption | rfl | omega | exact Nat.le_trans (zS_le _ _ _) (by omega) | decide) (by first | assumption | rfl | omega | exact Nat.le_trans (zS_le _ _ _) (by omega) | decide) (by first | assumption | rfl | omega | exact Nat.le_trans (zS_le _ _ _) (by omega) | decide) (by first | assumption | rfl | omega | exact Nat.le_trans (zS_le _ _ _) (by omega) | decide) (by first | assumption | rfl | omega | exact Nat.le_trans (zS_le _ _ _) (by omega) | decide)) (cwS 3 hts gzX6_glass_b2_X6_checkRange_ok_75 rfl rfl rfl (by decide +kernel) ⟨(Nat.le_of_ble_eq_true rfl), (Nat.le_of_ble_eq_true rfl)⟩) ⟨p_RW_blind, (p_RW_at (tc := []) (wc := []) hP hK hD hS hA hT hZ [] [] rfl rfl (by decide) rfl [.int 700, .int 600, .int 1100])⟩ rfl rfl hl.1 rfl (lv_room (Nat.le_of_ble_eq_true rfl)) dX6_glass_7 ⟨(Nat.le_of_ble_eq_true rfl), (Nat.le_of_ble_eq_true rfl)⟩) hS (fun q _ h => hFc q h) hFc (fun q _ h => hFc q h) (fun E ce q9 u t H locs ht hvm hpx hBX hz1 hk1 hS hce hcv hcl => ?_) (fun u t H locs ht hvm w_127 hB hz1 hk1 hS => ?_)
  · exact (show False from hBX).elim
  · obtain ⟨hP, hD, hK⟩ := q_join (D := D) (wc := []) (wr := [(xo, .inr (6, [.ref xg, .int gc, .ref xp, .int pc, .ref xq, .int qc, .ref r1, .ref r2, .ref r3, .ref r4, .ref se, .int ts, .int hou, .int dr, .int su, .int br]))]) (w1 := []) (tyr := []) (ty1 := []) hP hD hK [] [0] [] rfl rfl (by decide) (by decide) rfl hFc hk1 ht hvm hB
    have hP : va_P D vwCl [(xo, .inr (6, [.ref xg, .int gc, .ref xp, .int pc, .ref xq, .int qc, .ref r1, .ref r2, .ref r3, .ref r4, .ref se, .int ts, .int hou, .int dr, .int su, .int br]))] H := hP
    have hD : va_D A [(xo, .inr (6, [.ref xg, .int gc, .ref xp, .int pc, .ref xq, .int qc, .ref r1, .ref r2, .ref r3, .ref r4, .ref se, .int ts, .int hou, .int dr, .int su, .int br]))] := hD
    have hK : va_K D vwCl [] s := hK
    refine lv_iload_n hx hb dX6_glass_10 rfl (lv_at hl 2 rfl) ?_
    refine lv_iload_n hx hb dX6_glass_11 rfl (lv_at hl 1 rfl) ?_
    refine lv_sipush (v := 1100) hx hb dX6_glass_12 (by decide) ?_
    have hFc := va_free (wc := []) hD hS hA [] rfl
    refine vx_callv (vx_runS (As := [.int 800, .int 700, .int 1100]) (rest := []) ⟨hx, hb, hml, hown, hts⟩ (zc_X6_checkRange_ok l hnt D G 800 700 1100 H.size (by first | assumption | rfl | omega | exact Nat.le_trans (zS_le _ _ _) (by omega) | decide) (by first | assumption | rfl | omega | exact Nat.le_trans (zS_le _ _ _) (by omega) | decide) (by first | assumption | rfl | omega | exact Nat.le_trans (zS_le _ _ _) (by omega) | decide) (by first | assumption | rfl | omega | exact Nat.le_trans (zS_le _ _ _) (by omega) | decide) (by first | assumption | rfl | omega | exact Nat.le_trans (zS_le _ _ _) (by omega) | decide)) (cwS 3 hts gzX6_glass_b2_X6_checkRange_ok_75 rfl rfl rfl (by decide +kernel) ⟨(Nat.le_of_ble_eq_true rfl), (Nat.le_of_ble_eq_true rfl)⟩) ⟨p_RW_blind, (p_RW_at (tc := []) (wc := []) hP hK hD hS hA hT hZ [] [] rfl rfl (by decide) rfl [.int 800, .int 700, .int 1100])⟩ rfl rfl hl.1 rfl (lv_room (Nat.le_of_ble_eq_true rfl)) dX6_glass_15 ⟨(Nat.le_of_ble_eq_true rfl), (Nat.le_of_ble_eq_true rfl)⟩) hS (fun q _ h => hFc q h) hFc (fun q _ h => hFc q h) (fun E ce q9 u t H locs ht hvm hpx hBX hz1 hk1 hS hce hcv hcl => ?_) (fun u t H locs ht hvm w_129 hB hz1 hk1 hS => ?_)
    · exact (show False from hBX).elim
    · obtain ⟨hP, hD, hK⟩ := q_join (D := D) (wc := []) (wr := [(xo, .inr (6, [.ref xg, .int gc, .ref xp, .int pc, .ref xq, .int qc, .ref r1, .ref r2, .ref r3, .ref r4, .ref se, .int ts, .int hou, .int dr, .int su, .int br]))]) (w1 := []) (tyr := []) (ty1 := []) hP hD hK [] [0] [] rfl rfl (by decide) (by decide) rfl hFc hk1 ht hvm hB
      have hP : va_P D vwCl [(xo, .inr (6, [.ref xg, .int gc, .ref xp, .int pc, .ref xq, .int qc, .ref r1, .ref r2, .ref r3, .ref r4, .ref se, .int ts, .int hou, .int dr, .int su, .int br]))] H := hP
      have hD : va_D A [(xo, .inr (6, [.ref xg, .int gc, .ref xp, .int pc, .ref xq, .int qc, .ref r1, .ref r2, .ref r3, .ref r4, .ref se, .int ts, .int hou, .int dr, .int su, .int br]))] := hD
      have hK : va_K D vwCl [] s := hK
      refine lv_iload_n hx hb dX6_glass_18 rfl (lv_at hl 3 rfl) ?_
      refine lv_bipush (v := 50) hx hb dX6_glass_19 (by decide) ?_
      refine lv_sipush (v := 150) hx hb dX6_glass_21 (by decide) ?_
      have hFc := va_free (wc := []) hD hS hA [] rfl
      refine vx_callv (vx_runS (As := [.int 49, .int 50, .int 150]) (rest := []) ⟨hx, hb, hml, hown, hts⟩ (zc_X6_checkRange_lo l hnt D G 49 50 150 H.size (by first | assumption | rfl | omega | exact Nat.le_trans (zS_le _ _ _) (by omega) | decide) (by first | assumption | rfl | omega | exact Nat.le_trans (zS_le _ _ _) (by omega) | decide) (by first | assumption | rfl | omega | exact Nat.le_trans (zS_le _ _ _) (by omega) | decide) (by first | assumption | rfl | omega | exact Nat.le_trans (zS_le _ _ _) (by omega) | decide)) (cwS 3 hts gzX6_glass_b2_X6_checkRange_lo_75 rfl rfl rfl (by decide +kernel) ⟨(Nat.le_of_ble_eq_true rfl), (Nat.le_of_ble_eq_true rfl)⟩) ⟨p_RW_blind, (p_RW_at (tc := []) (wc := []) hP hK hD hS hA hT hZ [] [] rfl rfl (by decide) rfl [.int 49, .int 50, .int 150])⟩ rfl rfl hl.1 rfl (lv_room (Nat.le_of_ble_eq_true rfl)) dX6_glass_24 ⟨(Nat.le_of_ble_eq_true rfl), (Nat.le_of_ble_eq_true rfl)⟩) hS (fun q _ h => hFc q h) hFc (fun q _ h => hFc q h) (fun E ce q9 u t H locs ht hvm hpx hBX hz1 hk1 hS hce hcv hcl => ?_) (fun u t H locs ht hvm w_131 hB hz1 hk1 hS => ?_)
      · obtain ⟨hP, hD, hK⟩ := q_join (D := D) (wc := []) (wr := [(xo, .inr (6, [.ref xg, .int gc, .ref xp, .int pc, .ref xq, .int qc, .ref r1, .ref r2, .ref r3, .ref r4, .ref se, .int ts, .int hou, .int dr, .int su, .int br]))]) (w1 := []) (tyr := []) (ty1 := []) hP hD hK [] [0] [] rfl rfl (by decide) (by decide) rfl hFc hk1 ht hvm (q_none hK hvm)
        have hP : va_P D vwCl [(xo, .inr (6, [.ref xg, .int gc, .ref xp, .int pc, .ref xq, .int qc, .ref r1, .ref r2, .ref r3, .ref r4, .ref se, .int ts, .int hou, .int dr, .int su, .int br]))] H := hP
        have hD : va_D A [(xo, .inr (6, [.ref xg, .int gc, .ref xp, .int pc, .ref xq, .int qc, .ref r1, .ref r2, .ref r3, .ref r4, .ref se, .int ts, .int hou, .int dr, .int su, .int br]))] := hD
        have hK : va_K D vwCl [] s := hK
        have hBX : (E = "java/lang/IllegalArgumentException") := hBX
        rcases hBX with rfl
        exact vx_out (fun x h => (hxt x h).elim) hlocks hce hcv hcl (fun t ht hW9 => ⟨(), trivial, ⟨rfl, q_RW_mk hP hK hD [0] [] rfl rfl (by decide) rfl ht hW9⟩, hS.F ht⟩) hS.2.2 (Nat.le_of_ble_eq_true rfl) (Nat.le_of_ble_eq_true rfl)
      · exact w_131.elim
theorem zgV_X6_369 : ((vx_atS RX6 369 "java/lang/IndexOutOfBoundsException" ["java/lang/RuntimeException", "java/lang/Exception"]).filter goodWord).all goodWord = true := by decide +kernel
theorem dX6_agree_0 : decode cX6_agree 0 = .ok (.aload_n 0, 1) := by decide +kernel
theorem dX6_agree_1 : decode cX6_agree 1 = .ok (.iload_n 1, 1) := by decide +kernel
theorem dX6_agree_2 : decode cX6_agree 2 = .ok (.invokevirtual 89, 3) := by decide +kernel
def wzEX6_agree_no : List Cond := [.code yX6_agree cX6_agree 5 (some .boolean), .methodLink RX6 89 yX6_findGlass, .instanceMethod yX6_findGlass, .selects RX6 yX6_findGlass yX6_findGlass, .initialized RX6, .code yX6_findGlass cX6_findGlass 3 (some (.object "Gatherhouse$Glass")), .fieldLink RX6 11 "Gatherhouse" "glasses" "[LGatherhouse$Glass;", .classLink RX6 365 "java/lang/IndexOutOfBoundsException", .initialized "java/lang/IndexOutOfBoundsException"]
def wzX6_agree_no : List Cond := wzEX6_agree_no ++ (u_ws RX6 TX6 16 ++ ((vx_atS RX6 369 "java/lang/IndexOutOfBoundsException" ["java/lang/RuntimeException", "java/lang/Exception"]).filter goodWord))
theorem zgEX6_agree_no : wzEX6_agree_no.all goodWord = true := by decide +kernel
theorem zuX6_agree_no_X6 : ∀ w ∈ u_ws RX6 TX6 16, w ∈ wzX6_agree_no := (fun _ h => (List.mem_append_right _ (List.mem_append_left _ h)))
theorem ztX6_agree_no_X6_369 : ∀ w ∈ (vx_atS RX6 369 "java/lang/IndexOutOfBoundsException" ["java/lang/RuntimeException", "java/lang/Exception"]).filter goodWord, w ∈ wzX6_agree_no := (fun _ h => (List.mem_append_right _ (List.mem_append_right _ h)))
theorem gzX6_agree_no_X6_findGlass_no_89 : GoodIn wzX6_agree_no (wsV RX6 89 RX6 yX6_findGlass wzX6_findGlass_no) := (goodIn_app (z_lift (goodIn_r _ [1, 2, 3, 4] rfl (by decide +kernel))) (goodIn_app (z_lift (goodIn_r wzEX6_findGlass_no [5, 6, 7, 8] rfl zgEX6_findGlass_no)) (goodIn_app (goodIn_sub (fun _ h => (List.mem_append_right _ (List.mem_append_left _ h))) zgU_X6) (goodIn_sub (fun _ h => (List.mem_append_right _ (List.mem_append_right _ h))) zgV_X6_369))))
set_option maxHeartbeats 4000000 in
set_option maxRecDepth 100000 in
theorem zc_X6_agree_no (l : Launch) (hnt : l.stackTraces = false) (D : va_G) (G : Nat × Nat × (Nat → Int32)) (xo : Nat) (xg : Nat) (gc : Int32) (xp : Nat) (pc : Int32) (xq : Nat) (qc : Int32) (r1 : Nat) (r2 : Nat) (r3 : Nat) (r4 : Nat) (se : Nat) (ts : Int32) (hou : Int32) (dr : Int32) (su : Int32) (br : Int32) (cg : ClassId) (sz : Nat) : vx_Met l yX6_agree wzX6_agree_no ({ frames := 7, cells := 1, slots := 6, locals := 104 }) (va_Pc [.ref xo, .int 0, .int 0] (p_RW D G [(cg, .object "Gatherhouse$Glass")] [(xo, .inr (6, [.ref xg, .int gc, .ref xp, .int pc, .ref xq, .int qc, .ref r1, .ref r2, .ref r3, .ref r4, .ref se, .int ts, .int hou, .int dr, .int su, .int br])), (xg, .inl (cg, 6, .inr (.inr (.inr (.inr (zq [none, none, none, none, none, none]))))))] sz)) (va_Qi (fun (r : Int32) (u : Unit) => False) (fun (u : Unit) (t : State) => q_RW D [(cg, .object "Gatherhouse$Glass")] [(xo, .inr (6, [.ref xg, .int gc, .ref xp, .int pc, .ref xq, .int qc, .ref r1, .ref r2, .ref r3, .ref r4, .ref se, .int ts, .int hou, .int dr, .int su, .int br])), (xg, .inl (cg, 6, .inr (.inr (.inr (.inr (zq [none, none, none, none, none, none]))))))] (va_A [(xo, .inr (6, [.ref xg, .int gc, .ref xp, .int pc, .ref xq, .int qc, .ref r1, .ref r2, .ref r3, .ref r4, .ref se, .int ts, .int hou, .int dr, .int su, .int br])), (xg, .inl (cg, 6, .inr (.inr (.inr (.inr (zq [none, none, none, none, none, none]))))))] sz) t) (va_A [(xo, .inr (6, [.ref xg, .int gc, .ref xp, .int pc, .ref xq, .int qc, .ref r1, .ref r2, .ref r3, .ref r4, .ref se, .int ts, .int hou, .int dr, .int su, .int br])), (xg, .inl (cg, 6, .inr (.inr (.inr (.inr (zq [none, none, none, none, none, none]))))))] sz)) (vx_X (fun (_ : Unit) => True) (fun E (_ : Unit) (t : State) => ((E = "java/lang/IndexOutOfBoundsException")) ∧ q_RW D [(cg, .object "Gatherhouse$Glass")] [(xo, .inr (6, [.ref xg, .int gc, .ref xp, .int pc, .ref xq, .int qc, .ref r1, .ref r2, .ref r3, .ref r4, .ref se, .int ts, .int hou, .int dr, .int su, .int br])), (xg, .inl (cg, 6, .inr (.inr (.inr (.inr (zq [none, none, none, none, none, none]))))))] (va_A [(xo, .inr (6, [.ref xg, .int gc, .ref xp, .int pc, .ref xq, .int qc, .ref r1, .ref r2, .ref r3, .ref r4, .ref se, .int ts, .int hou, .int dr, .int su, .int br])), (xg, .inl (cg, 6, .inr (.inr (.inr (.inr (zq [none, none, none, none, none, none]))))))] sz) t) (va_A [(xo, .inr (6, [.ref xg, .int gc, .ref xp, .int pc, .ref xq, .int qc, .ref r1, .ref r2, .ref r3, .ref r4, .ref se, .int ts, .int hou, .int dr, .int su, .int br])), (xg, .inl (cg, 6, .inr (.inr (.inr (.inr (zq [none, none, none, none, none, none]))))))] sz)) 1 6 (va_A [(xo, .inr (6, [.ref xg, .int gc, .ref xp, .int pc, .ref xq, .int qc, .ref r1, .ref r2, .ref r3, .ref r4, .ref se, .int ts, .int hou, .int dr, .int su, .int br])), (xg, .inl (cg, 6, .inr (.inr (.inr (.inr (zq [none, none, none, none, none, none]))))))] sz) := by
  refine vx_ofW (cc := cX6_agree) (maxL := 5) (ret := (some .boolean)) (by decide) rfl ?_
  intro p e s m args below meth c s₁ B hml hxt hv
  obtain ⟨rfl, hsz, hP, hK, hD0, hT, hZ⟩ := hv
  have hx := B.exec
  have hb := B.bytes
  have hr := B.returns
  have hts := atoms_spec (ws := wzX6_agree_no) B.pre
  have hown : s.vm.findClass RX6 = some m.cls := findClass_of_methodNamed B.named
  have hlocks := B.notSynchronized
  subst hsz
  have hD := hD0.self (sz := s.heap.size)
  generalize hAe : va_A [(xo, .inr (6, [.ref xg, .int gc, .ref xp, .int pc, .ref xq, .int qc, .ref r1, .ref r2, .ref r3, .ref r4, .ref se, .int ts, .int hou, .int dr, .int su, .int br])), (xg, .inl (cg, 6, .inr (.inr (.inr (.inr (zq [none, none, none, none, none, none]))))))] s.heap.size = A at hD hZ ⊢
  have hA : ∀ q : Nat, s.heap.size ≤ q → A q := fun q h => by rw [← hAe]; exact Or.inr h
  have hS : va_S A s.heap s.heap [] := va_S.rf
  have hl := lv_entry ([.ref xo, .int 0, .int 0]) (n := 5) (Nat.le_of_ble_eq_true rfl)
  rw [lg_entry_eq]
  generalize (lg_sl ([.ref xo, .int 0, .int 0]) ++ List.replicate (5 - (lg_sl ([.ref xo, .int 0, .int 0])).length) Slot.unset).toArray = ls at hl ⊢
  have hl : lv_has ls 5 [(0, .ref xo), (1, .int 0), (2, .int 0)] := hl
  refine lv_aload_n hx hb dX6_agree_0 rfl (lv_at hl 0 rfl) ?_
  refine lv_iload_n hx hb dX6_agree_1 rfl (lv_at hl 1 rfl) ?_
  have hFc := va_free (wc := [(xo, .inr (6, [.ref xg, .int gc, .ref xp, .int pc, .ref xq, .int qc, .ref r1, .ref r2, .ref r3, .ref r4, .ref se, .int ts, .int hou, .int dr, .int su, .int br])), (xg, .inl (cg, 6, .inr (.inr (.inr (.inr (zq [none, none, none, none, none, none]))))))]) hD hS hA [0, 1] rfl
  refine vx_callq (vx_runV (As := [.int 0]) (rest := []) ⟨hx, hb, hml, hown, hts⟩ (zc_X6_findGlass_no l hnt D G xo 0 xg gc xp pc xq qc r1 r2 r3 r4 se ts hou dr su br cg (zq [none, none, none, none, none, none]) s.heap.size (by first | assumption | rfl | omega | exact Nat.le_trans (zS_le _ _ _) (by omega) | decide) (by first | assumption | rfl | omega | exact Nat.le_trans (zS_le _ _ _) (by omega) | decide)) (cwV 1 hts gzX6_agree_no_X6_findGlass_no_89 rfl rfl rfl (by decide +kernel) ⟨(Nat.le_of_ble_eq_true rfl), (Nat.le_of_ble_eq_true rfl)⟩) ⟨p_RW_blind, va_recv hK hP (ci := 6) (q0 := 0) rfl rfl, (p_RW_at (tc := [(cg, .object "Gatherhouse$Glass")]) (wc := [(xo, .inr (6, [.ref xg, .int gc, .ref xp, .int pc, .ref xq, .int qc, .ref r1, .ref r2, .ref r3, .ref r4, .ref se, .int ts, .int hou, .int dr, .int su, .int br])), (xg, .inl (cg, 6, .inr (.inr (.inr (.inr (zq [none, none, none, none, none, none]))))))]) hP hK hD hS hA hT hZ [0, 1] [0] rfl rfl (by decide) rfl [.ref xo, .int 0])⟩ rfl rfl hl.1 rfl (lv_room (Nat.le_of_ble_eq_true rfl)) dX6_agree_2 ⟨(Nat.le_of_ble_eq_true rfl), (Nat.le_of_ble_eq_true rfl)⟩) hS (fun q _ h => hFc q h) hFc (fun q _ h => hFc q h) (fun E ce q9 u t H locs ht hvm hpx hBX hz1 hk1 hS hce hcv hcl => ?_) (fun r_132 u t H locs ht hvm w_133 hB hz1 hk1 hS => ?_)
  · obtain ⟨hBX, hB⟩ := hBX
    obtain ⟨hP, hD, hK⟩ := q_join (D := D) (wc := [(xo, .inr (6, [.ref xg, .int gc, .ref xp, .int pc, .ref xq, .int qc, .ref r1, .ref r2, .ref r3, .ref r4, .ref se, .int ts, .int hou, .int dr, .int su, .int br])), (xg, .inl (cg, 6, .inr (.inr (.inr (.inr (zq [none, none, none, none, none, none]))))))]) (wr := []) (w1 := [(xo, .inr (6, [.ref xg, .int gc, .ref xp, .int pc, .ref xq, .int qc, .ref r1, .ref r2, .ref r3, .ref r4, .ref se, .int ts, .int hou, .int dr, .int su, .int br])), (xg, .inl (cg, 6, .inr (.inr (.inr (.inr (zq [none, none, none, none, none, none]))))))]) (tyr := []) (ty1 := [(cg, .object "Gatherhouse$Glass")]) hP hD hK [0, 1] [] [] rfl rfl (by decide) (by decide) rfl hFc hk1 ht hvm hB
    have hP : va_P D vwCl [(xo, .inr (6, [.ref xg, .int gc, .ref xp, .int pc, .ref xq, .int qc, .ref r1, .ref r2, .ref r3, .ref r4, .ref se, .int ts, .int hou, .int dr, .int su, .int br])), (xg, .inl (cg, 6, .inr (.inr (.inr (.inr (zq [none, none, none, none, none, none]))))))] H := hP
    have hD : va_D A [(xo, .inr (6, [.ref xg, .int gc, .ref xp, .int pc, .ref xq, .int qc, .ref r1, .ref r2, .ref r3, .ref r4, .ref se, .int ts, .int hou, .int dr, .int su, .int br])), (xg, .inl (cg, 6, .inr (.inr (.inr (.inr (zq [none, none, none, none, none, none]))))))] := hD
    have hK : va_K D vwCl [(cg, .object "Gatherhouse$Glass")] s := hK
    have hBX : (E = "java/lang/IndexOutOfBoundsException") := hBX
    rcases hBX with rfl
    exact vx_out (fun x h => (hxt x h).elim) hlocks hce hcv hcl (fun t ht hW9 => ⟨(), trivial, ⟨rfl, q_RW_mk hP hK hD [0, 1] [0] rfl rfl (by decide) rfl ht hW9⟩, hS.F ht⟩) hS.2.2 (Nat.le_of_ble_eq_true rfl) (Nat.le_of_ble_eq_true rfl)
  · exact w_133.elim
theorem dX6_pot_0 : decode cX6_pot 0 = .ok (.aload_n 0, 1) := by decide +kernel
theorem dX6_pot_1 : decode cX6_pot 1 = .ok (.iload_n 1, 1) := by decide +kernel
theorem dX6_pot_2 : decode cX6_pot 2 = .ok (.invokevirtual 89, 3) := by decide +kernel
def wzEX6_pot_no : List Cond := [.code yX6_pot cX6_pot 3 (some .int), .methodLink RX6 89 yX6_findGlass, .instanceMethod yX6_findGlass, .selects RX6 yX6_findGlass yX6_findGlass, .initialized RX6, .code yX6_findGlass cX6_findGlass 3 (some (.object "Gatherhouse$Glass")), .fieldLink RX6 11 "Gatherhouse" "glasses" "[LGatherhouse$Glass;", .classLink RX6 365 "java/lang/IndexOutOfBoundsException", .initialized "java/lang/IndexOutOfBoundsException"]
def wzX6_pot_no : List Cond := wzEX6_pot_no ++ (u_ws RX6 TX6 16 ++ ((vx_atS RX6 369 "java/lang/IndexOutOfBoundsException" ["java/lang/RuntimeException", "java/lang/Exception"]).filter goodWord))
theorem zgEX6_pot_no : wzEX6_pot_no.all goodWord = true := by decide +kernel
theorem zuX6_pot_no_X6 : ∀ w ∈ u_ws RX6 TX6 16, w ∈ wzX6_pot_no := (fun _ h => (List.mem_append_right _ (List.mem_append_left _ h)))
theorem ztX6_pot_no_X6_369 : ∀ w ∈ (vx_atS RX6 369 "java/lang/IndexOutOfBoundsException" ["java/lang/RuntimeException", "java/lang/Exception"]).filter goodWord, w ∈ wzX6_pot_no := (fun _ h => (List.mem_append_right _ (List.mem_append_right _ h)))
theorem gzX6_pot_no_X6_findGlass_no_89 : GoodIn wzX6_pot_no (wsV RX6 89 RX6 yX6_findGlass wzX6_findGlass_no) := (goodIn_app (z_lift (goodIn_r _ [1, 2, 3, 4] rfl (by decide +kernel))) (goodIn_app (z_lift (goodIn_r wzEX6_findGlass_no [5, 6, 7, 8] rfl zgEX6_findGlass_no)) (goodIn_app (goodIn_sub (fun _ h => (List.mem_append_right _ (List.mem_append_left _ h))) zgU_X6) (goodIn_sub (fun _ h => (List.mem_append_right _ (List.mem_append_right _ h))) zgV_X6_369))))
set_option maxHeartbeats 4000000 in
set_option maxRecDepth 100000 in
theorem zc_X6_pot_no (l : Launch) (hnt : l.stackTraces = false) (D : va_G) (G : Nat × Nat × (Nat → Int32)) (xo : Nat) (xg : Nat) (gc : Int32) (xp : Nat) (pc : Int32) (xq : Nat) (qc : Int32) (r1 : Nat) (r2 : Nat) (r3 : Nat) (r4 : Nat) (se : Nat) (ts : Int32) (hou : Int32) (dr : Int32) (su : Int32) (br : Int32) (cg : ClassId) (sz : Nat) : vx_Met l yX6_pot wzX6_pot_no ({ frames := 7, cells := 1, slots := 6, locals := 104 }) (va_Pc [.ref xo, .int 0] (p_RW D G [(cg, .object "Gatherhouse$Glass")] [(xo, .inr (6, [.ref xg, .int gc, .ref xp, .int pc, .ref xq, .int qc, .ref r1, .ref r2, .ref r3, .ref r4, .ref se, .int ts, .int hou, .int dr, .int su, .int br])), (xg, .inl (cg, 6, .inr (.inr (.inr (.inr (zq [none, none, none, none, none, none]))))))] sz)) (va_Qi (fun (r : Int32) (u : Unit) => False) (fun (u : Unit) (t : State) => q_RW D [(cg, .object "Gatherhouse$Glass")] [(xo, .inr (6, [.ref xg, .int gc, .ref xp, .int pc, .ref xq, .int qc, .ref r1, .ref r2, .ref r3, .ref r4, .ref se, .int ts, .int hou, .int dr, .int su, .int br])), (xg, .inl (cg, 6, .inr (.inr (.inr (.inr (zq [none, none, none, none, none, none]))))))] (va_A [(xo, .inr (6, [.ref xg, .int gc, .ref xp, .int pc, .ref xq, .int qc, .ref r1, .ref r2, .ref r3, .ref r4, .ref se, .int ts, .int hou, .int dr, .int su, .int br])), (xg, .inl (cg, 6, .inr (.inr (.inr (.inr (zq [none, none, none, none, none, none]))))))] sz) t) (va_A [(xo, .inr (6, [.ref xg, .int gc, .ref xp, .int pc, .ref xq, .int qc, .ref r1, .ref r2, .ref r3, .ref r4, .ref se, .int ts, .int hou, .int dr, .int su, .int br])), (xg, .inl (cg, 6, .inr (.inr (.inr (.inr (zq [none, none, none, none, none, none]))))))] sz)) (vx_X (fun (_ : Unit) => True) (fun E (_ : Unit) (t : State) => ((E = "java/lang/IndexOutOfBoundsException")) ∧ q_RW D [(cg, .object "Gatherhouse$Glass")] [(xo, .inr (6, [.ref xg, .int gc, .ref xp, .int pc, .ref xq, .int qc, .ref r1, .ref r2, .ref r3, .ref r4, .ref se, .int ts, .int hou, .int dr, .int su, .int br])), (xg, .inl (cg, 6, .inr (.inr (.inr (.inr (zq [none, none, none, none, none, none]))))))] (va_A [(xo, .inr (6, [.ref xg, .int gc, .ref xp, .int pc, .ref xq, .int qc, .ref r1, .ref r2, .ref r3, .ref r4, .ref se, .int ts, .int hou, .int dr, .int su, .int br])), (xg, .inl (cg, 6, .inr (.inr (.inr (.inr (zq [none, none, none, none, none, none]))))))] sz) t) (va_A [(xo, .inr (6, [.ref xg, .int gc, .ref xp, .int pc, .ref xq, .int qc, .ref r1, .ref r2, .ref r3, .ref r4, .ref se, .int ts, .int hou, .int dr, .int su, .int br])), (xg, .inl (cg, 6, .inr (.inr (.inr (.inr (zq [none, none, none, none, none, none]))))))] sz)) 1 6 (va_A [(xo, .inr (6, [.ref xg, .int gc, .ref xp, .int pc, .ref xq, .int qc, .ref r1, .ref r2, .ref r3, .ref r4, .ref se, .int ts, .int hou, .int dr, .int su, .int br])), (xg, .inl (cg, 6, .inr (.inr (.inr (.inr (zq [none, none, none, none, none, none]))))))] sz) := by
  refine vx_ofW (cc := cX6_pot) (maxL := 3) (ret := (some .int)) (by decide) rfl ?_
  intro p e s m args below meth c s₁ B hml hxt hv
  obtain ⟨rfl, hsz, hP, hK, hD0, hT, hZ⟩ := hv
  have hx := B.exec
  have hb := B.bytes
  have hr := B.returns
  have hts := atoms_spec (ws := wzX6_pot_no) B.pre
  have hown : s.vm.findClass RX6 = some m.cls := findClass_of_methodNamed B.named
  have hlocks := B.notSynchronized
  subst hsz
  have hD := hD0.self (sz := s.heap.size)
  generalize hAe : va_A [(xo, .inr (6, [.ref xg, .int gc, .ref xp, .int pc, .ref xq, .int qc, .ref r1, .ref r2, .ref r3, .ref r4, .ref se, .int ts, .int hou, .int dr, .int su, .int br])), (xg, .inl (cg, 6, .inr (.inr (.inr (.inr (zq [none, none, none, none, none, none]))))))] s.heap.size = A at hD hZ ⊢
  have hA : ∀ q : Nat, s.heap.size ≤ q → A q := fun q h => by rw [← hAe]; exact Or.inr h
  have hS : va_S A s.heap s.heap [] := va_S.rf
  have hl := lv_entry ([.ref xo, .int 0]) (n := 3) (Nat.le_of_ble_eq_true rfl)
  rw [lg_entry_eq]
  generalize (lg_sl ([.ref xo, .int 0]) ++ List.replicate (3 - (lg_sl ([.ref xo, .int 0])).length) Slot.unset).toArray = ls at hl ⊢
  have hl : lv_has ls 3 [(0, .ref xo), (1, .int 0)] := hl
  refine lv_aload_n hx hb dX6_pot_0 rfl (lv_at hl 0 rfl) ?_
  refine lv_iload_n hx hb dX6_pot_1 rfl (lv_at hl 1 rfl) ?_
  have hFc := va_free (wc := [(xo, .inr (6, [.ref xg, .int gc, .ref xp, .int pc, .ref xq, .int qc, .ref r1, .ref r2, .ref r3, .ref r4, .ref se, .int ts, .int hou, .int dr, .int su, .int br])), (xg, .inl (cg, 6, .inr (.inr (.inr (.inr (zq [none, none, none, none, none, none]))))))]) hD hS hA [0, 1] rfl
  refine vx_callq (vx_runV (As := [.int 0]) (rest := []) ⟨hx, hb, hml, hown, hts⟩ (zc_X6_findGlass_no l hnt D G xo 0 xg gc xp pc xq qc r1 r2 r3 r4 se ts hou dr su br cg (zq [none, none, none, none, none, none]) s.heap.size (by first | assumption | rfl | omega | exact Nat.le_trans (zS_le _ _ _) (by omega) | decide) (by first | assumption | rfl | omega | exact Nat.le_trans (zS_le _ _ _) (by omega) | decide)) (cwV 1 hts gzX6_pot_no_X6_findGlass_no_89 rfl rfl rfl (by decide +kernel) ⟨(Nat.le_of_ble_eq_true rfl), (Nat.le_of_ble_eq_true rfl)⟩) ⟨p_RW_blind, va_recv hK hP (ci := 6) (q0 := 0) rfl rfl, (p_RW_at (tc := [(cg, .object "Gatherhouse$Glass")]) (wc := [(xo, .inr (6, [.ref xg, .int gc, .ref xp, .int pc, .ref xq, .int qc, .ref r1, .ref r2, .ref r3, .ref r4, .ref se, .int ts, .int hou, .int dr, .int su, .int br])), (xg, .inl (cg, 6, .inr (.inr (.inr (.inr (zq [none, none, none, none, none, none]))))))]) hP hK hD hS hA hT hZ [0, 1] [0] rfl rfl (by decide) rfl [.ref xo, .int 0])⟩ rfl rfl hl.1 rfl (lv_room (Nat.le_of_ble_eq_true rfl)) dX6_pot_2 ⟨(Nat.le_of_ble_eq_true rfl), (Nat.le_of_ble_eq_true rfl)⟩) hS (fun q _ h => hFc q h) hFc (fun q _ h => hFc q h) (fun E ce q9 u t H locs ht hvm hpx hBX hz1 hk1 hS hce hcv hcl => ?_) (fun r_134 u t H locs ht hvm w_135 hB hz1 hk1 hS => ?_)
  · obtain ⟨hBX, hB⟩ := hBX
    obtain ⟨hP, hD, hK⟩ := q_join (D := D) (wc := [(xo, .inr (6, [.ref xg, .int gc, .ref xp, .int pc, .ref xq, .int qc, .ref r1, .ref r2, .ref r3, .ref r4, .ref se, .int ts, .int hou, .int dr, .int su, .int br])), (xg, .inl (cg, 6, .inr (.inr (.inr (.inr (zq [none, none, none, none, none, none]))))))]) (wr := []) (w1 := [(xo, .inr (6, [.ref xg, .int gc, .ref xp, .int pc, .ref xq, .int qc, .ref r1, .ref r2, .ref r3, .ref r4, .ref se, .int ts, .int hou, .int dr, .int su, .int br])), (xg, .inl (cg, 6, .inr (.inr (.inr (.inr (zq [none, none, none, none, none, none]))))))]) (tyr := []) (ty1 := [(cg, .object "Gatherhouse$Glass")]) hP hD hK [0, 1] [] [] rfl rfl (by decide) (by decide) rfl hFc hk1 ht hvm hB
    have hP : va_P D vwCl [(xo, .inr (6, [.ref xg, .int gc, .ref xp, .int pc, .ref xq, .int qc, .ref r1, .ref r2, .ref r3, .ref r4, .ref se, .int ts, .int hou, .int dr, .int su, .int br])), (xg, .inl (cg, 6, .inr (.inr (.inr (.inr (zq [none, none, none, none, none, none]))))))] H := hP
    have hD : va_D A [(xo, .inr (6, [.ref xg, .int gc, .ref xp, .int pc, .ref xq, .int qc, .ref r1, .ref r2, .ref r3, .ref r4, .ref se, .int ts, .int hou, .int dr, .int su, .int br])), (xg, .inl (cg, 6, .inr (.inr (.inr (.inr (zq [none, none, none, none, none, none]))))))] := hD
    have hK : va_K D vwCl [(cg, .object "Gatherhouse$Glass")] s := hK
    have hBX : (E = "java/lang/IndexOutOfBoundsException") := hBX
    rcases hBX with rfl
    exact vx_out (fun x h => (hxt x h).elim) hlocks hce hcv hcl (fun t ht hW9 => ⟨(), trivial, ⟨rfl, q_RW_mk hP hK hD [0, 1] [0] rfl rfl (by decide) rfl ht hW9⟩, hS.F ht⟩) hS.2.2 (Nat.le_of_ble_eq_true rfl) (Nat.le_of_ble_eq_true rfl)
  · exact w_135.elim
theorem dX6_charge_0 : decode cX6_charge 0 = .ok (.aload_n 0, 1) := by decide +kernel
theorem dX6_charge_1 : decode cX6_charge 1 = .ok (.iload_n 1, 1) := by decide +kernel
theorem dX6_charge_2 : decode cX6_charge 2 = .ok (.invokevirtual 102, 3) := by decide +kernel
def wzEX6_charge_no : List Cond := [.code yX6_charge cX6_charge 4 (some .int), .methodLink RX6 102 yX6_findPot, .instanceMethod yX6_findPot, .selects RX6 yX6_findPot yX6_findPot, .initialized RX6, .code yX6_findPot cX6_findPot 3 (some (.object "Gatherhouse$Pot")), .fieldLink RX6 21 "Gatherhouse" "pots" "[LGatherhouse$Pot;", .classLink RX6 365 "java/lang/IndexOutOfBoundsException", .initialized "java/lang/IndexOutOfBoundsException"]
def wzX6_charge_no : List Cond := wzEX6_charge_no ++ (u_ws RX6 TX6 16 ++ ((vx_atS RX6 369 "java/lang/IndexOutOfBoundsException" ["java/lang/RuntimeException", "java/lang/Exception"]).filter goodWord))
theorem zgEX6_charge_no : wzEX6_charge_no.all goodWord = true := by decide +kernel
theorem zuX6_charge_no_X6 : ∀ w ∈ u_ws RX6 TX6 16, w ∈ wzX6_charge_no := (fun _ h => (List.mem_append_right _ (List.mem_append_left _ h)))
theorem ztX6_charge_no_X6_369 : ∀ w ∈ (vx_atS RX6 369 "java/lang/IndexOutOfBoundsException" ["java/lang/RuntimeException", "java/lang/Exception"]).filter goodWord, w ∈ wzX6_charge_no := (fun _ h => (List.mem_append_right _ (List.mem_append_right _ h)))
theorem gzX6_charge_no_X6_findPot_no_102 : GoodIn wzX6_charge_no (wsV RX6 102 RX6 yX6_findPot wzX6_findPot_no) := (goodIn_app (z_lift (goodIn_r _ [1, 2, 3, 4] rfl (by decide +kernel))) (goodIn_app (z_lift (goodIn_r wzEX6_findPot_no [5, 6, 7, 8] rfl zgEX6_findPot_no)) (goodIn_app (goodIn_sub (fun _ h => (List.mem_append_right _ (List.mem_append_left _ h))) zgU_X6) (goodIn_sub (fun _ h => (List.mem_append_right _ (List.mem_append_right _ h))) zgV_X6_369))))
set_option maxHeartbeats 4000000 in
set_option maxRecDepth 100000 in
theorem zc_X6_charge_no (l : Launch) (hnt : l.stackTraces = false) (D : va_G) (G : Nat × Nat × (Nat → Int32)) (xo : Nat) (xg : Nat) (gc : Int32) (xp : Nat) (pc : Int32) (xq : Nat) (qc : Int32) (r1 : Nat) (r2 : Nat) (r3 : Nat) (r4 : Nat) (se : Nat) (ts : Int32) (hou : Int32) (dr : Int32) (su : Int32) (br : Int32) (cp : ClassId) (sz : Nat) : vx_Met l yX6_charge wzX6_charge_no ({ frames := 7, cells := 1, slots := 6, locals := 104 }) (va_Pc [.ref xo, .int 0, .int 0] (p_RW D G [(cp, .object "Gatherhouse$Pot")] [(xo, .inr (6, [.ref xg, .int gc, .ref xp, .int pc, .ref xq, .int qc, .ref r1, .ref r2, .ref r3, .ref r4, .ref se, .int ts, .int hou, .int dr, .int su, .int br])), (xp, .inl (cp, 4, .inr (.inr (.inr (.inr (zq [none, none, none, none]))))))] sz)) (va_Qi (fun (r : Int32) (u : Unit) => False) (fun (u : Unit) (t : State) => q_RW D [(cp, .object "Gatherhouse$Pot")] [(xo, .inr (6, [.ref xg, .int gc, .ref xp, .int pc, .ref xq, .int qc, .ref r1, .ref r2, .ref r3, .ref r4, .ref se, .int ts, .int hou, .int dr, .int su, .int br])), (xp, .inl (cp, 4, .inr (.inr (.inr (.inr (zq [none, none, none, none]))))))] (va_A [(xo, .inr (6, [.ref xg, .int gc, .ref xp, .int pc, .ref xq, .int qc, .ref r1, .ref r2, .ref r3, .ref r4, .ref se, .int ts, .int hou, .int dr, .int su, .int br])), (xp, .inl (cp, 4, .inr (.inr (.inr (.inr (zq [none, none, none, none]))))))] sz) t) (va_A [(xo, .inr (6, [.ref xg, .int gc, .ref xp, .int pc, .ref xq, .int qc, .ref r1, .ref r2, .ref r3, .ref r4, .ref se, .int ts, .int hou, .int dr, .int su, .int br])), (xp, .inl (cp, 4, .inr (.inr (.inr (.inr (zq [none, none, none, none]))))))] sz)) (vx_X (fun (_ : Unit) => True) (fun E (_ : Unit) (t : State) => ((E = "java/lang/IndexOutOfBoundsException")) ∧ q_RW D [(cp, .object "Gatherhouse$Pot")] [(xo, .inr (6, [.ref xg, .int gc, .ref xp, .int pc, .ref xq, .int qc, .ref r1, .ref r2, .ref r3, .ref r4, .ref se, .int ts, .int hou, .int dr, .int su, .int br])), (xp, .inl (cp, 4, .inr (.inr (.inr (.inr (zq [none, none, none, none]))))))] (va_A [(xo, .inr (6, [.ref xg, .int gc, .ref xp, .int pc, .ref xq, .int qc, .ref r1, .ref r2, .ref r3, .ref r4, .ref se, .int ts, .int hou, .int dr, .int su, .int br])), (xp, .inl (cp, 4, .inr (.inr (.inr (.inr (zq [none, none, none, none]))))))] sz) t) (va_A [(xo, .inr (6, [.ref xg, .int gc, .ref xp, .int pc, .ref xq, .int qc, .ref r1, .ref r2, .ref r3, .ref r4, .ref se, .int ts, .int hou, .int dr, .int su, .int br])), (xp, .inl (cp, 4, .inr (.inr (.inr (.inr (zq [none, none, none, none]))))))] sz)) 1 6 (va_A [(xo, .inr (6, [.ref xg, .int gc, .ref xp, .int pc, .ref xq, .int qc, .ref r1, .ref r2, .ref r3, .ref r4, .ref se, .int ts, .int hou, .int dr, .int su, .int br])), (xp, .inl (cp, 4, .inr (.inr (.inr (.inr (zq [none, none, none, none]))))))] sz) := by
  refine vx_ofW (cc := cX6_charge) (maxL := 4) (ret := (some .int)) (by decide) rfl ?_
  intro p e s m args below meth c s₁ B hml hxt hv
  obtain ⟨rfl, hsz, hP, hK, hD0, hT, hZ⟩ := hv
  have hx := B.exec
  have hb := B.bytes
  have hr := B.returns
  have hts := atoms_spec (ws := wzX6_charge_no) B.pre
  have hown : s.vm.findClass RX6 = some m.cls := findClass_of_methodNamed B.named
  have hlocks := B.notSynchronized
  subst hsz
  have hD := hD0.self (sz := s.heap.size)
  generalize hAe : va_A [(xo, .inr (6, [.ref xg, .int gc, .ref xp, .int pc, .ref xq, .int qc, .ref r1, .ref r2, .ref r3, .ref r4, .ref se, .int ts, .int hou, .int dr, .int su, .int br])), (xp, .inl (cp, 4, .inr (.inr (.inr (.inr (zq [none, none, none, none]))))))] s.heap.size = A at hD hZ ⊢
  have hA : ∀ q : Nat, s.heap.size ≤ q → A q := fun q h => by rw [← hAe]; exact Or.inr h
  have hS : va_S A s.heap s.heap [] := va_S.rf
  have hl := lv_entry ([.ref xo, .int 0, .int 0]) (n := 4) (Nat.le_of_ble_eq_true rfl)
  rw [lg_entry_eq]
  generalize (lg_sl ([.ref xo, .int 0, .int 0]) ++ List.replicate (4 - (lg_sl ([.ref xo, .int 0, .int 0])).length) Slot.unset).toArray = ls at hl ⊢
  have hl : lv_has ls 4 [(0, .ref xo), (1, .int 0), (2, .int 0)] := hl
  refine lv_aload_n hx hb dX6_charge_0 rfl (lv_at hl 0 rfl) ?_
  refine lv_iload_n hx hb dX6_charge_1 rfl (lv_at hl 1 rfl) ?_
  have hFc := va_free (wc := [(xo, .inr (6, [.ref xg, .int gc, .ref xp, .int pc, .ref xq, .int qc, .ref r1, .ref r2, .ref r3, .ref r4, .ref se, .int ts, .int hou, .int dr, .int su, .int br])), (xp, .inl (cp, 4, .inr (.inr (.inr (.inr (zq [none, none, none, none]))))))]) hD hS hA [0, 1] rfl
  refine vx_callq (vx_runV (As := [.int 0]) (rest := []) ⟨hx, hb, hml, hown, hts⟩ (zc_X6_findPot_no l hnt D G xo 0 xg gc xp pc xq qc r1 r2 r3 r4 se ts hou dr su br cp (zq [none, none, none, none]) s.heap.size (by first | assumption | rfl | omega | exact Nat.le_trans (zS_le _ _ _) (by omega) | decide) (by first | assumption | rfl | omega | exact Nat.le_trans (zS_le _ _ _) (by omega) | decide)) (cwV 1 hts gzX6_charge_no_X6_findPot_no_102 rfl rfl rfl (by decide +kernel) ⟨(Nat.le_of_ble_eq_true rfl), (Nat.le_of_ble_eq_true rfl)⟩) ⟨p_RW_blind, va_recv hK hP (ci := 6) (q0 := 0) rfl rfl, (p_RW_at (tc := [(cp, .object "Gatherhouse$Pot")]) (wc := [(xo, .inr (6, [.ref xg, .int gc, .ref xp, .int pc, .ref xq, .int qc, .ref r1, .ref r2, .ref r3, .ref r4, .ref se, .int ts, .int hou, .int dr, .int su, .int br])), (xp, .inl (cp, 4, .inr (.inr (.inr (.inr (zq [none, none, none, none]))))))]) hP hK hD hS hA hT hZ [0, 1] [0] rfl rfl (by decide) rfl [.ref xo, .int 0])⟩ rfl rfl hl.1 rfl (lv_room (Nat.le_of_ble_eq_true rfl)) dX6_charge_2 ⟨(Nat.le_of_ble_eq_true rfl), (Nat.le_of_ble_eq_true rfl)⟩) hS (fun q _ h => hFc q h) hFc (fun q _ h => hFc q h) (fun E ce q9 u t H locs ht hvm hpx hBX hz1 hk1 hS hce hcv hcl => ?_) (fun r_136 u t H locs ht hvm w_137 hB hz1 hk1 hS => ?_)
  · obtain ⟨hBX, hB⟩ := hBX
    obtain ⟨hP, hD, hK⟩ := q_join (D := D) (wc := [(xo, .inr (6, [.ref xg, .int gc, .ref xp, .int pc, .ref xq, .int qc, .ref r1, .ref r2, .ref r3, .ref r4, .ref se, .int ts, .int hou, .int dr, .int su, .int br])), (xp, .inl (cp, 4, .inr (.inr (.inr (.inr (zq [none, none, none, none]))))))]) (wr := []) (w1 := [(xo, .inr (6, [.ref xg, .int gc, .ref xp, .int pc, .ref xq, .int qc, .ref r1, .ref r2, .ref r3, .ref r4, .ref se, .int ts, .int hou, .int dr, .int su, .int br])), (xp, .inl (cp, 4, .inr (.inr (.inr (.inr (zq [none, none, none, none]))))))]) (tyr := []) (ty1 := [(cp, .object "Gatherhouse$Pot")]) hP hD hK [0, 1] [] [] rfl rfl (by decide) (by decide) rfl hFc hk1 ht hvm hB
    have hP : va_P D vwCl [(xo, .inr (6, [.ref xg, .int gc, .ref xp, .int pc, .ref xq, .int qc, .ref r1, .ref r2, .ref r3, .ref r4, .ref se, .int ts, .int hou, .int dr, .int su, .int br])), (xp, .inl (cp, 4, .inr (.inr (.inr (.inr (zq [none, none, none, none]))))))] H := hP
    have hD : va_D A [(xo, .inr (6, [.ref xg, .int gc, .ref xp, .int pc, .ref xq, .int qc, .ref r1, .ref r2, .ref r3, .ref r4, .ref se, .int ts, .int hou, .int dr, .int su, .int br])), (xp, .inl (cp, 4, .inr (.inr (.inr (.inr (zq [none, none, none, none]))))))] := hD
    have hK : va_K D vwCl [(cp, .object "Gatherhouse$Pot")] s := hK
    have hBX : (E = "java/lang/IndexOutOfBoundsException") := hBX
    rcases hBX with rfl
    exact vx_out (fun x h => (hxt x h).elim) hlocks hce hcv hcl (fun t ht hW9 => ⟨(), trivial, ⟨rfl, q_RW_mk hP hK hD [0, 1] [0] rfl rfl (by decide) rfl ht hW9⟩, hS.F ht⟩) hS.2.2 (Nat.le_of_ble_eq_true rfl) (Nat.le_of_ble_eq_true rfl)
  · exact w_137.elim
theorem dX6_change_0 : decode cX6_change 0 = .ok (.aload_n 0, 1) := by decide +kernel
theorem dX6_change_1 : decode cX6_change 1 = .ok (.iload_n 1, 1) := by decide +kernel
theorem dX6_change_2 : decode cX6_change 2 = .ok (.invokevirtual 102, 3) := by decide +kernel
def wzEX6_change_no : List Cond := [.code yX6_change cX6_change 4 (some .int), .methodLink RX6 102 yX6_findPot, .instanceMethod yX6_findPot, .selects RX6 yX6_findPot yX6_findPot, .initialized RX6, .code yX6_findPot cX6_findPot 3 (some (.object "Gatherhouse$Pot")), .fieldLink RX6 21 "Gatherhouse" "pots" "[LGatherhouse$Pot;", .classLink RX6 365 "java/lang/IndexOutOfBoundsException", .initialized "java/lang/IndexOutOfBoundsException"]
def wzX6_change_no : List Cond := wzEX6_change_no ++ (u_ws RX6 TX6 16 ++ ((vx_atS RX6 369 "java/lang/IndexOutOfBoundsException" ["java/lang/RuntimeException", "java/lang/Exception"]).filter goodWord))
theorem zgEX6_change_no : wzEX6_change_no.all goodWord = true := by decide +kernel
theorem zuX6_change_no_X6 : ∀ w ∈ u_ws RX6 TX6 16, w ∈ wzX6_change_no := (fun _ h => (List.mem_append_right _ (List.mem_append_left _ h)))
theorem ztX6_change_no_X6_369 : ∀ w ∈ (vx_atS RX6 369 "java/lang/IndexOutOfBoundsException" ["java/lang/RuntimeException", "java/lang/Exception"]).filter goodWord, w ∈ wzX6_change_no := (fun _ h => (List.mem_append_right _ (List.mem_append_right _ h)))
theorem gzX6_change_no_X6_findPot_no_102 : GoodIn wzX6_change_no (wsV RX6 102 RX6 yX6_findPot wzX6_findPot_no) := (goodIn_app (z_lift (goodIn_r _ [1, 2, 3, 4] rfl (by decide +kernel))) (goodIn_app (z_lift (goodIn_r wzEX6_findPot_no [5, 6, 7, 8] rfl zgEX6_findPot_no)) (goodIn_app (goodIn_sub (fun _ h => (List.mem_append_right _ (List.mem_append_left _ h))) zgU_X6) (goodIn_sub (fun _ h => (List.mem_append_right _ (List.mem_append_right _ h))) zgV_X6_369))))
set_option maxHeartbeats 4000000 in
set_option maxRecDepth 100000 in
theorem zc_X6_change_no (l : Launch) (hnt : l.stackTraces = false) (D : va_G) (G : Nat × Nat × (Nat → Int32)) (xo : Nat) (xg : Nat) (gc : Int32) (xp : Nat) (pc : Int32) (xq : Nat) (qc : Int32) (r1 : Nat) (r2 : Nat) (r3 : Nat) (r4 : Nat) (se : Nat) (ts : Int32) (hou : Int32) (dr : Int32) (su : Int32) (br : Int32) (cp : ClassId) (sz : Nat) : vx_Met l yX6_change wzX6_change_no ({ frames := 7, cells := 1, slots := 6, locals := 104 }) (va_Pc [.ref xo, .int 0] (p_RW D G [(cp, .object "Gatherhouse$Pot")] [(xo, .inr (6, [.ref xg, .int gc, .ref xp, .int pc, .ref xq, .int qc, .ref r1, .ref r2, .ref r3, .ref r4, .ref se, .int ts, .int hou, .int dr, .int su, .int br])), (xp, .inl (cp, 4, .inr (.inr (.inr (.inr (zq [none, none, none, none]))))))] sz)) (va_Qi (fun (r : Int32) (u : Unit) => False) (fun (u : Unit) (t : State) => q_RW D [(cp, .object "Gatherhouse$Pot")] [(xo, .inr (6, [.ref xg, .int gc, .ref xp, .int pc, .ref xq, .int qc, .ref r1, .ref r2, .ref r3, .ref r4, .ref se, .int ts, .int hou, .int dr, .int su, .int br])), (xp, .inl (cp, 4, .inr (.inr (.inr (.inr (zq [none, none, none, none]))))))] (va_A [(xo, .inr (6, [.ref xg, .int gc, .ref xp, .int pc, .ref xq, .int qc, .ref r1, .ref r2, .ref r3, .ref r4, .ref se, .int ts, .int hou, .int dr, .int su, .int br])), (xp, .inl (cp, 4, .inr (.inr (.inr (.inr (zq [none, none, none, none]))))))] sz) t) (va_A [(xo, .inr (6, [.ref xg, .int gc, .ref xp, .int pc, .ref xq, .int qc, .ref r1, .ref r2, .ref r3, .ref r4, .ref se, .int ts, .int hou, .int dr, .int su, .int br])), (xp, .inl (cp, 4, .inr (.inr (.inr (.inr (zq [none, none, none, none]))))))] sz)) (vx_X (fun (_ : Unit) => True) (fun E (_ : Unit) (t : State) => ((E = "java/lang/IndexOutOfBoundsException")) ∧ q_RW D [(cp, .object "Gatherhouse$Pot")] [(xo, .inr (6, [.ref xg, .int gc, .ref xp, .int pc, .ref xq, .int qc, .ref r1, .ref r2, .ref r3, .ref r4, .ref se, .int ts, .int hou, .int dr, .int su, .int br])), (xp, .inl (cp, 4, .inr (.inr (.inr (.inr (zq [none, none, none, none]))))))] (va_A [(xo, .inr (6, [.ref xg, .int gc, .ref xp, .int pc, .ref xq, .int qc, .ref r1, .ref r2, .ref r3, .ref r4, .ref se, .int ts, .int hou, .int dr, .int su, .int br])), (xp, .inl (cp, 4, .inr (.inr (.inr (.inr (zq [none, none, none, none]))))))] sz) t) (va_A [(xo, .inr (6, [.ref xg, .int gc, .ref xp, .int pc, .ref xq, .int qc, .ref r1, .ref r2, .ref r3, .ref r4, .ref se, .int ts, .int hou, .int dr, .int su, .int br])), (xp, .inl (cp, 4, .inr (.inr (.inr (.inr (zq [none, none, none, none]))))))] sz)) 1 6 (va_A [(xo, .inr (6, [.ref xg, .int gc, .ref xp, .int pc, .ref xq, .int qc, .ref r1, .ref r2, .ref r3, .ref r4, .ref se, .int ts, .int hou, .int dr, .int su, .int br])), (xp, .inl (cp, 4, .inr (.inr (.inr (.inr (zq [none, none, none, none]))))))] sz) := by
  refine vx_ofW (cc := cX6_change) (maxL := 4) (ret := (some .int)) (by decide) rfl ?_
  intro p e s m args below meth c s₁ B hml hxt hv
  obtain ⟨rfl, hsz, hP, hK, hD0, hT, hZ⟩ := hv
  have hx := B.exec
  have hb := B.bytes
  have hr := B.returns
  have hts := atoms_spec (ws := wzX6_change_no) B.pre
  have hown : s.vm.findClass RX6 = some m.cls := findClass_of_methodNamed B.named
  have hlocks := B.notSynchronized
  subst hsz
  have hD := hD0.self (sz := s.heap.size)
  generalize hAe : va_A [(xo, .inr (6, [.ref xg, .int gc, .ref xp, .int pc, .ref xq, .int qc, .ref r1, .ref r2, .ref r3, .ref r4, .ref se, .int ts, .int hou, .int dr, .int su, .int br])), (xp, .inl (cp, 4, .inr (.inr (.inr (.inr (zq [none, none, none, none]))))))] s.heap.size = A at hD hZ ⊢
  have hA : ∀ q : Nat, s.heap.size ≤ q → A q := fun q h => by rw [← hAe]; exact Or.inr h
  have hS : va_S A s.heap s.heap [] := va_S.rf
  have hl := lv_entry ([.ref xo, .int 0]) (n := 4) (Nat.le_of_ble_eq_true rfl)
  rw [lg_entry_eq]
  generalize (lg_sl ([.ref xo, .int 0]) ++ List.replicate (4 - (lg_sl ([.ref xo, .int 0])).length) Slot.unset).toArray = ls at hl ⊢
  have hl : lv_has ls 4 [(0, .ref xo), (1, .int 0)] := hl
  refine lv_aload_n hx hb dX6_change_0 rfl (lv_at hl 0 rfl) ?_
  refine lv_iload_n hx hb dX6_change_1 rfl (lv_at hl 1 rfl) ?_
  have hFc := va_free (wc := [(xo, .inr (6, [.ref xg, .int gc, .ref xp, .int pc, .ref xq, .int qc, .ref r1, .ref r2, .ref r3, .ref r4, .ref se, .int ts, .int hou, .int dr, .int su, .int br])), (xp, .inl (cp, 4, .inr (.inr (.inr (.inr (zq [none, none, none, none]))))))]) hD hS hA [0, 1] rfl
  refine vx_callq (vx_runV (As := [.int 0]) (rest := []) ⟨hx, hb, hml, hown, hts⟩ (zc_X6_findPot_no l hnt D G xo 0 xg gc xp pc xq qc r1 r2 r3 r4 se ts hou dr su br cp (zq [none, none, none, none]) s.heap.size (by first | assumption | rfl | omega | exact Nat.le_trans (zS_le _ _ _) (by omega) | decide) (by first | assumption | rfl | omega | exact Nat.le_trans (zS_le _ _ _) (by omega) | decide)) (cwV 1 hts gzX6_change_no_X6_findPot_no_102 rfl rfl rfl (by decide +kernel) ⟨(Nat.le_of_ble_eq_true rfl), (Nat.le_of_ble_eq_true rfl)⟩) ⟨p_RW_blind, va_recv hK hP (ci := 6) (q0 := 0) rfl rfl, (p_RW_at (tc := [(cp, .object "Gatherhouse$Pot")]) (wc := [(xo, .inr (6, [.ref xg, .int gc, .ref xp, .int pc, .ref xq, .int qc, .ref r1, .ref r2, .ref r3, .ref r4, .ref se, .int ts, .int hou, .int dr, .int su, .int br])), (xp, .inl (cp, 4, .inr (.inr (.inr (.inr (zq [none, none, none, none]))))))]) hP hK hD hS hA hT hZ [0, 1] [0] rfl rfl (by decide) rfl [.ref xo, .int 0])⟩ rfl rfl hl.1 rfl (lv_room (Nat.le_of_ble_eq_true rfl)) dX6_change_2 ⟨(Nat.le_of_ble_eq_true rfl), (Nat.le_of_ble_eq_true rfl)⟩) hS (fun q _ h => hFc q h) hFc (fun q _ h => hFc q h) (fun E ce q9 u t H locs ht hvm hpx hBX hz1 hk1 hS hce hcv hcl => ?_) (fun r_138 u t H locs ht hvm w_139 hB hz1 hk1 hS => ?_)
  · obtain ⟨hBX, hB⟩ := hBX
    obtain ⟨hP, hD, hK⟩ := q_join (D := D) (wc := [(xo, .inr (6, [.ref xg, .int gc, .ref xp, .int pc, .ref xq, .int qc, .ref r1, .ref r2, .ref r3, .ref r4, .ref se, .int ts, .int hou, .int dr, .int su, .int br])), (xp, .inl (cp, 4, .inr (.inr (.inr (.inr (zq [none, none, none, none]))))))]) (wr := []) (w1 := [(xo, .inr (6, [.ref xg, .int gc, .ref xp, .int pc, .ref xq, .int qc, .ref r1, .ref r2, .ref r3, .ref r4, .ref se, .int ts, .int hou, .int dr, .int su, .int br])), (xp, .inl (cp, 4, .inr (.inr (.inr (.inr (zq [none, none, none, none]))))))]) (tyr := []) (ty1 := [(cp, .object "Gatherhouse$Pot")]) hP hD hK [0, 1] [] [] rfl rfl (by decide) (by decide) rfl hFc hk1 ht hvm hB
    have hP : va_P D vwCl [(xo, .inr (6, [.ref xg, .int gc, .ref xp, .int pc, .ref xq, .int qc, .ref r1, .ref r2, .ref r3, .ref r4, .ref se, .int ts, .int hou, .int dr, .int su, .int br])), (xp, .inl (cp, 4, .inr (.inr (.inr (.inr (zq [none, none, none, none]))))))] H := hP
    have hD : va_D A [(xo, .inr (6, [.ref xg, .int gc, .ref xp, .int pc, .ref xq, .int qc, .ref r1, .ref r2, .ref r3, .ref r4, .ref se, .int ts, .int hou, .int dr, .int su, .int br])), (xp, .inl (cp, 4, .inr (.inr (.inr (.inr (zq [none, none, none, none]))))))] := hD
    have hK : va_K D vwCl [(cp, .object "Gatherhouse$Pot")] s := hK
    have hBX : (E = "java/lang/IndexOutOfBoundsException") := hBX
    rcases hBX with rfl
    exact vx_out (fun x h => (hxt x h).elim) hlocks hce hcv hcl (fun t ht hW9 => ⟨(), trivial, ⟨rfl, q_RW_mk hP hK hD [0, 1] [0] rfl rfl (by decide) rfl ht hW9⟩, hS.F ht⟩) hS.2.2 (Nat.le_of_ble_eq_true rfl) (Nat.le_of_ble_eq_true rfl)
  · exact w_139.elim
theorem dX6_of_0 : decode cX6_of 0 = .ok (.aload_n 0, 1) := by decide +kernel
theorem dX6_of_1 : decode cX6_of 1 = .ok (.iload_n 1, 1) := by decide +kernel
theorem dX6_of_2 : decode cX6_of 2 = .ok (.invokevirtual 102, 3) := by decide +kernel
def wzEX6_of_no : List Cond := [.code yX6_of cX6_of 4 (some .int), .methodLink RX6 102 yX6_findPot, .instanceMethod yX6_findPot, .selects RX6 yX6_findPot yX6_findPot, .initialized RX6, .code yX6_findPot cX6_findPot 3 (some (.object "Gatherhouse$Pot")), .fieldLink RX6 21 "Gatherhouse" "pots" "[LGatherhouse$Pot;", .classLink RX6 365 "java/lang/IndexOutOfBoundsException", .initialized "java/lang/IndexOutOfBoundsException"]
def wzX6_of_no : List Cond := wzEX6_of_no ++ (u_ws RX6 TX6 16 ++ ((vx_atS RX6 369 "java/lang/IndexOutOfBoundsException" ["java/lang/RuntimeException", "java/lang/Exception"]).filter goodWord))
theorem zgEX6_of_no : wzEX6_of_no.all goodWord = true := by decide +kernel
theorem zuX6_of_no_X6 : ∀ w ∈ u_ws RX6 TX6 16, w ∈ wzX6_of_no := (fun _ h => (List.mem_append_right _ (List.mem_append_left _ h)))
theorem ztX6_of_no_X6_369 : ∀ w ∈ (vx_atS RX6 369 "java/lang/IndexOutOfBoundsException" ["java/lang/RuntimeException", "java/lang/Exception"]).filter goodWord, w ∈ wzX6_of_no := (fun _ h => (List.mem_append_right _ (List.mem_append_right _ h)))
theorem gzX6_of_no_X6_findPot_no_102 : GoodIn wzX6_of_no (wsV RX6 102 RX6 yX6_findPot wzX6_findPot_no) := (goodIn_app (z_lift (goodIn_r _ [1, 2, 3, 4] rfl (by decide +kernel))) (goodIn_app (z_lift (goodIn_r wzEX6_findPot_no [5, 6, 7, 8] rfl zgEX6_findPot_no)) (goodIn_app (goodIn_sub (fun _ h => (List.mem_append_right _ (List.mem_append_left _ h))) zgU_X6) (goodIn_sub (fun _ h => (List.mem_append_right _ (List.mem_append_right _ h))) zgV_X6_369))))
set_option maxHeartbeats 4000000 in
set_option maxRecDepth 100000 in
theorem zc_X6_of_no (l : Launch) (hnt : l.stackTraces = false) (D : va_G) (G : Nat × Nat × (Nat → Int32)) (xo : Nat) (xg : Nat) (gc : Int32) (xp : Nat) (pc : Int32) (xq : Nat) (qc : Int32) (r1 : Nat) (r2 : Nat) (r3 : Nat) (r4 : Nat) (se : Nat) (ts : Int32) (hou : Int32) (dr : Int32) (su : Int32) (br : Int32) (cp : ClassId) (sz : Nat) : vx_Met l yX6_of wzX6_of_no ({ frames := 7, cells := 1, slots := 6, locals := 104 }) (va_Pc [.ref xo, .int 0, .int 120] (p_RW D G [(cp, .object "Gatherhouse$Pot")] [(xo, .inr (6, [.ref xg, .int gc, .ref xp, .int pc, .ref xq, .int qc, .ref r1, .ref r2, .ref r3, .ref r4, .ref se, .int ts, .int hou, .int dr, .int su, .int br])), (xp, .inl (cp, 4, .inr (.inr (.inr (.inr (zq [none, none, none, none]))))))] sz)) (va_Qi (fun (r : Int32) (u : Unit) => False) (fun (u : Unit) (t : State) => q_RW D [(cp, .object "Gatherhouse$Pot")] [(xo, .inr (6, [.ref xg, .int gc, .ref xp, .int pc, .ref xq, .int qc, .ref r1, .ref r2, .ref r3, .ref r4, .ref se, .int ts, .int hou, .int dr, .int su, .int br])), (xp, .inl (cp, 4, .inr (.inr (.inr (.inr (zq [none, none, none, none]))))))] (va_A [(xo, .inr (6, [.ref xg, .int gc, .ref xp, .int pc, .ref xq, .int qc, .ref r1, .ref r2, .ref r3, .ref r4, .ref se, .int ts, .int hou, .int dr, .int su, .int br])), (xp, .inl (cp, 4, .inr (.inr (.inr (.inr (zq [none, none, none, none]))))))] sz) t) (va_A [(xo, .inr (6, [.ref xg, .int gc, .ref xp, .int pc, .ref xq, .int qc, .ref r1, .ref r2, .ref r3, .ref r4, .ref se, .int ts, .int hou, .int dr, .int su, .int br])), (xp, .inl (cp, 4, .inr (.inr (.inr (.inr (zq [none, none, none, none]))))))] sz)) (vx_X (fun (_ : Unit) => True) (fun E (_ : Unit) (t : State) => ((E = "java/lang/IndexOutOfBoundsException")) ∧ q_RW D [(cp, .object "Gatherhouse$Pot")] [(xo, .inr (6, [.ref xg, .int gc, .ref xp, .int pc, .ref xq, .int qc, .ref r1, .ref r2, .ref r3, .ref r4, .ref se, .int ts, .int hou, .int dr, .int su, .int br])), (xp, .inl (cp, 4, .inr (.inr (.inr (.inr (zq [none, none, none, none]))))))] (va_A [(xo, .inr (6, [.ref xg, .int gc, .ref xp, .int pc, .ref xq, .int qc, .ref r1, .ref r2, .ref r3, .ref r4, .ref se, .int ts, .int hou, .int dr, .int su, .int br])), (xp, .inl (cp, 4, .inr (.inr (.inr (.inr (zq [none, none, none, none]))))))] sz) t) (va_A [(xo, .inr (6, [.ref xg, .int gc, .ref xp, .int pc, .ref xq, .int qc, .ref r1, .ref r2, .ref r3, .ref r4, .ref se, .int ts, .int hou, .int dr, .int su, .int br])), (xp, .inl (cp, 4, .inr (.inr (.inr (.inr (zq [none, none, none, none]))))))] sz)) 1 6 (va_A [(xo, .inr (6, [.ref xg, .int gc, .ref xp, .int pc, .ref xq, .int qc, .ref r1, .ref r2, .ref r3, .ref r4, .ref se, .int ts, .int hou, .int dr, .int su, .int br])), (xp, .inl (cp, 4, .inr (.inr (.inr (.inr (zq [none, none, none, none]))))))] sz) := by
  refine vx_ofW (cc := cX6_of) (maxL := 4) (ret := (some .int)) (by decide) rfl ?_
  intro p e s m args below meth c s₁ B hml hxt hv
  obtain ⟨rfl, hsz, hP, hK, hD0, hT, hZ⟩ := hv
  have hx := B.exec
  have hb := B.bytes
  have hr := B.returns
  have hts := atoms_spec (ws := wzX6_of_no) B.pre
  have hown : s.vm.findClass RX6 = some m.cls := findClass_of_methodNamed B.named
  have hlocks := B.notSynchronized
  subst hsz
  have hD := hD0.self (sz := s.heap.size)
  generalize hAe : va_A [(xo, .inr (6, [.ref xg, .int gc, .ref xp, .int pc, .ref xq, .int qc, .ref r1, .ref r2, .ref r3, .ref r4, .ref se, .int ts, .int hou, .int dr, .int su, .int br])), (xp, .inl (cp, 4, .inr (.inr (.inr (.inr (zq [none, none, none, none]))))))] s.heap.size = A at hD hZ ⊢
  have hA : ∀ q : Nat, s.heap.size ≤ q → A q := fun q h => by rw [← hAe]; exact Or.inr h
  have hS : va_S A s.heap s.heap [] := va_S.rf
  have hl := lv_entry ([.ref xo, .int 0, .int 120]) (n := 4) (Nat.le_of_ble_eq_true rfl)
  rw [lg_entry_eq]
  generalize (lg_sl ([.ref xo, .int 0, .int 120]) ++ List.replicate (4 - (lg_sl ([.ref xo, .int 0, .int 120])).length) Slot.unset).toArray = ls at hl ⊢
  have hl : lv_has ls 4 [(0, .ref xo), (1, .int 0), (2, .int 120)] := hl
  refine lv_aload_n hx hb dX6_of_0 rfl (lv_at hl 0 rfl) ?_
  refine lv_iload_n hx hb dX6_of_1 rfl (lv_at hl 1 rfl) ?_
  have hFc := va_free (wc := [(xo, .inr (6, [.ref xg, .int gc, .ref xp, .int pc, .ref xq, .int qc, .ref r1, .ref r2, .ref r3, .ref r4, .ref se, .int ts, .int hou, .int dr, .int su, .int br])), (xp, .inl (cp, 4, .inr (.inr (.inr (.inr (zq [none, none, none, none]))))))]) hD hS hA [0, 1] rfl
  refine vx_callq (vx_runV (As := [.int 0]) (rest := []) ⟨hx, hb, hml, hown, hts⟩ (zc_X6_findPot_no l hnt D G xo 0 xg gc xp pc xq qc r1 r2 r3 r4 se ts hou dr su br cp (zq [none, none, none, none]) s.heap.size (by first | assumption | rfl | omega | exact Nat.le_trans (zS_le _ _ _) (by omega) | decide) (by first | assumption | rfl | omega | exact Nat.le_trans (zS_le _ _ _) (by omega) | decide)) (cwV 1 hts gzX6_of_no_X6_findPot_no_102 rfl rfl rfl (by decide +kernel) ⟨(Nat.le_of_ble_eq_true rfl), (Nat.le_of_ble_eq_true rfl)⟩) ⟨p_RW_blind, va_recv hK hP (ci := 6) (q0 := 0) rfl rfl, (p_RW_at (tc := [(cp, .object "Gatherhouse$Pot")]) (wc := [(xo, .inr (6, [.ref xg, .int gc, .ref xp, .int pc, .ref xq, .int qc, .ref r1, .ref r2, .ref r3, .ref r4, .ref se, .int ts, .int hou, .int dr, .int su, .int br])), (xp, .inl (cp, 4, .inr (.inr (.inr (.inr (zq [none, none, none, none]))))))]) hP hK hD hS hA hT hZ [0, 1] [0] rfl rfl (by decide) rfl [.ref xo, .int 0])⟩ rfl rfl hl.1 rfl (lv_room (Nat.le_of_ble_eq_true rfl)) dX6_of_2 ⟨(Nat.le_of_ble_eq_true rfl), (Nat.le_of_ble_eq_true rfl)⟩) hS (fun q _ h => hFc q h) hFc (fun q _ h => hFc q h) (fun E ce q9 u t H locs ht hvm hpx hBX hz1 hk1 hS hce hcv hcl => ?_) (fun r_140 u t H locs ht hvm w_141 hB hz1 hk1 hS => ?_)
  · obtain ⟨hBX, hB⟩ := hBX
    obtain ⟨hP, hD, hK⟩ := q_join (D := D) (wc := [(xo, .inr (6, [.ref xg, .int gc, .ref xp, .int pc, .ref xq, .int qc, .ref r1, .ref r2, .ref r3, .ref r4, .ref se, .int ts, .int hou, .int dr, .int su, .int br])), (xp, .inl (cp, 4, .inr (.inr (.inr (.inr (zq [none, none, none, none]))))))]) (wr := []) (w1 := [(xo, .inr (6, [.ref xg, .int gc, .ref xp, .int pc, .ref xq, .int qc, .ref r1, .ref r2, .ref r3, .ref r4, .ref se, .int ts, .int hou, .int dr, .int su, .int br])), (xp, .inl (cp, 4, .inr (.inr (.inr (.inr (zq [none, none, none, none]))))))]) (tyr := []) (ty1 := [(cp, .object "Gatherhouse$Pot")]) hP hD hK [0, 1] [] [] rfl rfl (by decide) (by decide) rfl hFc hk1 ht hvm hB
    have hP : va_P D vwCl [(xo, .inr (6, [.ref xg, .int gc, .ref xp, .int pc, .ref xq, .int qc, .ref r1, .ref r2, .ref r3, .ref r4, .ref se, .int ts, .int hou, .int dr, .int su, .int br])), (xp, .inl (cp, 4, .inr (.inr (.inr (.inr (zq [none, none, none, none]))))))] H := hP
    have hD : va_D A [(xo, .inr (6, [.ref xg, .int gc, .ref xp, .int pc, .ref xq, .int qc, .ref r1, .ref r2, .ref r3, .ref r4, .ref se, .int ts, .int hou, .int dr, .int su, .int br])), (xp, .inl (cp, 4, .inr (.inr (.inr (.inr (zq [none, none, none, none]))))))] := hD
    have hK : va_K D vwCl [(cp, .object "Gatherhouse$Pot")] s := hK
    have hBX : (E = "java/lang/IndexOutOfBoundsException") := hBX
    rcases hBX with rfl
    exact vx_out (fun x h => (hxt x h).elim) hlocks hce hcv hcl (fun t ht hW9 => ⟨(), trivial, ⟨rfl, q_RW_mk hP hK hD [0, 1] [0] rfl rfl (by decide) rfl ht hW9⟩, hS.F ht⟩) hS.2.2 (Nat.le_of_ble_eq_true rfl) (Nat.le_of_ble_eq_true rfl)
  · exact w_141.elim
theorem dX6_gather_0 : decode cX6_gather 0 = .ok (.aload_n 0, 1) := by decide +kernel
theorem dX6_gather_1 : decode cX6_gather 1 = .ok (.iload_n 1, 1) := by decide +kernel
theorem dX6_gather_2 : decode cX6_gather 2 = .ok (.invokevirtual 102, 3) := by decide +kernel
def wzEX6_gather_no : List Cond := [.code yX6_gather cX6_gather 5 (some .int), .methodLink RX6 102 yX6_findPot, .instanceMethod yX6_findPot, .selects RX6 yX6_findPot yX6_findPot, .initialized RX6, .code yX6_findPot cX6_findPot 3 (some (.object "Gatherhouse$Pot")), .fieldLink RX6 21 "Gatherhouse" "pots" "[LGatherhouse$Pot;", .classLink RX6 365 "java/lang/IndexOutOfBoundsException", .initialized "java/lang/IndexOutOfBoundsException"]
def wzX6_gather_no : List Cond := wzEX6_gather_no ++ (u_ws RX6 TX6 16 ++ ((vx_atS RX6 369 "java/lang/IndexOutOfBoundsException" ["java/lang/RuntimeException", "java/lang/Exception"]).filter goodWord))
theorem zgEX6_gather_no : wzEX6_gather_no.all goodWord = true := by decide +kernel
theorem zuX6_gather_no_X6 : ∀ w ∈ u_ws RX6 TX6 16, w ∈ wzX6_gather_no := (fun _ h => (List.mem_append_right _ (List.mem_append_left _ h)))
theorem ztX6_gather_no_X6_369 : ∀ w ∈ (vx_atS RX6 369 "java/lang/IndexOutOfBoundsException" ["java/lang/RuntimeException", "java/lang/Exception"]).filter goodWord, w ∈ wzX6_gather_no := (fun _ h => (List.mem_append_right _ (List.mem_append_right _ h)))
theorem gzX6_gather_no_X6_findPot_no_102 : GoodIn wzX6_gather_no (wsV RX6 102 RX6 yX6_findPot wzX6_findPot_no) := (goodIn_app (z_lift (goodIn_r _ [1, 2, 3, 4] rfl (by decide +kernel))) (goodIn_app (z_lift (goodIn_r wzEX6_findPot_no [5, 6, 7, 8] rfl zgEX6_findPot_no)) (goodIn_app (goodIn_sub (fun _ h => (List.mem_append_right _ (List.mem_append_left _ h))) zgU_X6) (goodIn_sub (fun _ h => (List.mem_append_right _ (List.mem_append_right _ h))) zgV_X6_369))))
set_option maxHeartbeats 4000000 in
set_option maxRecDepth 100000 in
theorem zc_X6_gather_no (l : Launch) (hnt : l.stackTraces = false) (D : va_G) (G : Nat × Nat × (Nat → Int32)) (xo : Nat) (xg : Nat) (gc : Int32) (xp : Nat) (pc : Int32) (xq : Nat) (qc : Int32) (r1 : Nat) (r2 : Nat) (r3 : Nat) (r4 : Nat) (se : Nat) (ts : Int32) (hou : Int32) (dr : Int32) (su : Int32) (br : Int32) (cp : ClassId) (sz : Nat) : vx_Met l yX6_gather wzX6_gather_no ({ frames := 7, cells := 1, slots := 6, locals := 104 }) (va_Pc [.ref xo, .int 0, .int 9] (p_RW D G [(cp, .object "Gatherhouse$Pot")] [(xo, .inr (6, [.ref xg, .int gc, .ref xp, .int pc, .ref xq, .int qc, .ref r1, .ref r2, .ref r3, .ref r4, .ref se, .int ts, .int hou, .int dr, .int su, .int br])), (xp, .inl (cp, 4, .inr (.inr (.inr (.inr (zq [none, none, none, none]))))))] sz)) (va_Qi (fun (r : Int32) (u : Unit) => False) (fun (u : Unit) (t : State) => q_RW D [(cp, .object "Gatherhouse$Pot")] [(xo, .inr (6, [.ref xg, .int gc, .ref xp, .int pc, .ref xq, .int qc, .ref r1, .ref r2, .ref r3, .ref r4, .ref se, .int ts, .int hou, .int dr, .int su, .int br])), (xp, .inl (cp, 4, .inr (.inr (.inr (.inr (zq [none, none, none, none]))))))] (va_A [(xo, .inr (6, [.ref xg, .int gc, .ref xp, .int pc, .ref xq, .int qc, .ref r1, .ref r2, .ref r3, .ref r4, .ref se, .int ts, .int hou, .int dr, .int su, .int br])), (xp, .inl (cp, 4, .inr (.inr (.inr (.inr (zq [none, none, none, none]))))))] sz) t) (va_A [(xo, .inr (6, [.ref xg, .int gc, .ref xp, .int pc, .ref xq, .int qc, .ref r1, .ref r2, .ref r3, .ref r4, .ref se, .int ts, .int hou, .int dr, .int su, .int br])), (xp, .inl (cp, 4, .inr (.inr (.inr (.inr (zq [none, none, none, none]))))))] sz)) (vx_X (fun (_ : Unit) => True) (fun E (_ : Unit) (t : State) => ((E = "java/lang/IndexOutOfBoundsException")) ∧ q_RW D [(cp, .object "Gatherhouse$Pot")] [(xo, .inr (6, [.ref xg, .int gc, .ref xp, .int pc, .ref xq, .int qc, .ref r1, .ref r2, .ref r3, .ref r4, .ref se, .int ts, .int hou, .int dr, .int su, .int br])), (xp, .inl (cp, 4, .inr (.inr (.inr (.inr (zq [none, none, none, none]))))))] (va_A [(xo, .inr (6, [.ref xg, .int gc, .ref xp, .int pc, .ref xq, .int qc, .ref r1, .ref r2, .ref r3, .ref r4, .ref se, .int ts, .int hou, .int dr, .int su, .int br])), (xp, .inl (cp, 4, .inr (.inr (.inr (.inr (zq [none, none, none, none]))))))] sz) t) (va_A [(xo, .inr (6, [.ref xg, .int gc, .ref xp, .int pc, .ref xq, .int qc, .ref r1, .ref r2, .ref r3, .ref r4, .ref se, .int ts, .int hou, .int dr, .int su, .int br])), (xp, .inl (cp, 4, .inr (.inr (.inr (.inr (zq [none, none, none, none]))))))] sz)) 1 6 (va_A [(xo, .inr (6, [.ref xg, .int gc, .ref xp, .int pc, .ref xq, .int qc, .ref r1, .ref r2, .ref r3, .ref r4, .ref se, .int ts, .int hou, .int dr, .int su, .int br])), (xp, .inl (cp, 4, .inr (.inr (.inr (.inr (zq [none, none, none, none]))))))] sz) := by
  refine vx_ofW (cc := cX6_gather) (maxL := 5) (ret := (some .int)) (by decide) rfl ?_
  intro p e s m args below meth c s₁ B hml hxt hv
  obtain ⟨rfl, hsz, hP, hK, hD0, hT, hZ⟩ := hv
  have hx := B.exec
  have hb := B.bytes
  have hr := B.returns
  have hts := atoms_spec (ws := wzX6_gather_no) B.pre
  have hown : s.vm.findClass RX6 = some m.cls := findClass_of_methodNamed B.named
  have hlocks := B.notSynchronized
  subst hsz
  have hD := hD0.self (sz := s.heap.size)
  generalize hAe : va_A [(xo, .inr (6, [.ref xg, .int gc, .ref xp, .int pc, .ref xq, .int qc, .ref r1, .ref r2, .ref r3, .ref r4, .ref se, .int ts, .int hou, .int dr, .int su, .int br])), (xp, .inl (cp, 4, .inr (.inr (.inr (.inr (zq [none, none, none, none]))))))] s.heap.size = A at hD hZ ⊢
  have hA : ∀ q : Nat, s.heap.size ≤ q → A q := fun q h => by rw [← hAe]; exact Or.inr h
  have hS : va_S A s.heap s.heap [] := va_S.rf
  have hl := lv_entry ([.ref xo, .int 0, .int 9]) (n := 5) (Nat.le_of_ble_eq_true rfl)
  rw [lg_entry_eq]
  generalize (lg_sl ([.ref xo, .int 0, .int 9]) ++ List.replicate (5 - (lg_sl ([.ref xo, .int 0, .int 9])).length) Slot.unset).toArray = ls at hl ⊢
  have hl : lv_has ls 5 [(0, .ref xo), (1, .int 0), (2, .int 9)] := hl
  refine lv_aload_n hx hb dX6_gather_0 rfl (lv_at hl 0 rfl) ?_
  refine lv_iload_n hx hb dX6_gather_1 rfl (lv_at hl 1 rfl) ?_
  have hFc := va_free (wc := [(xo, .inr (6, [.ref xg, .int gc, .ref xp, .int pc, .ref xq, .int qc, .ref r1, .ref r2, .ref r3, .ref r4, .ref se, .int ts, .int hou, .int dr, .int su, .int br])), (xp, .inl (cp, 4, .inr (.inr (.inr (.inr (zq [none, none, none, none]))))))]) hD hS hA [0, 1] rfl
  refine vx_callq (vx_runV (As := [.int 0]) (rest := []) ⟨hx, hb, hml, hown, hts⟩ (zc_X6_findPot_no l hnt D G xo 0 xg gc xp pc xq qc r1 r2 r3 r4 se ts hou dr su br cp (zq [none, none, none, none]) s.heap.size (by first | assumption | rfl | omega | exact Nat.le_trans (zS_le _ _ _) (by omega) | decide) (by first | assumption | rfl | omega | exact Nat.le_trans (zS_le _ _ _) (by omega) | decide)) (cwV 1 hts gzX6_gather_no_X6_findPot_no_102 rfl rfl rfl (by decide +kernel) ⟨(Nat.le_of_ble_eq_true rfl), (Nat.le_of_ble_eq_true rfl)⟩) ⟨p_RW_blind, va_recv hK hP (ci := 6) (q0 := 0) rfl rfl, (p_RW_at (tc := [(cp, .object "Gatherhouse$Pot")]) (wc := [(xo, .inr (6, [.ref xg, .int gc, .ref xp, .int pc, .ref xq, .int qc, .ref r1, .ref r2, .ref r3, .ref r4, .ref se, .int ts, .int hou, .int dr, .int su, .int br])), (xp, .inl (cp, 4, .inr (.inr (.inr (.inr (zq [none, none, none, none]))))))]) hP hK hD hS hA hT hZ [0, 1] [0] rfl rfl (by decide) rfl [.ref xo, .int 0])⟩ rfl rfl hl.1 rfl (lv_room (Nat.le_of_ble_eq_true rfl)) dX6_gather_2 ⟨(Nat.le_of_ble_eq_true rfl), (Nat.le_of_ble_eq_true rfl)⟩) hS (fun q _ h => hFc q h) hFc (fun q _ h => hFc q h) (fun E ce q9 u t H locs ht hvm hpx hBX hz1 hk1 hS hce hcv hcl => ?_) (fun r_142 u t H locs ht hvm w_143 hB hz1 hk1 hS => ?_)
  · obtain ⟨hBX, hB⟩ := hBX
    obtain ⟨hP, hD, hK⟩ := q_join (D := D) (wc := [(xo, .inr (6, [.ref xg, .int gc, .ref xp, .int pc, .ref xq, .int qc, .ref r1, .ref r2, .ref r3, .ref r4, .ref se, .int ts, .int hou, .int dr, .int su, .int br])), (xp, .inl (cp, 4, .inr (.inr (.inr (.inr (zq [none, none, none, none]))))))]) (wr := []) (w1 := [(xo, .inr (6, [.ref xg, .int gc, .ref xp, .int pc, .ref xq, .int qc, .ref r1, .ref r2, .ref r3, .ref r4, .ref se, .int ts, .int hou, .int dr, .int su, .int br])), (xp, .inl (cp, 4, .inr (.inr (.inr (.inr (zq [none, none, none, none]))))))]) (tyr := []) (ty1 := [(cp, .object "Gatherhouse$Pot")]) hP hD hK [0, 1] [] [] rfl rfl (by decide) (by decide) rfl hFc hk1 ht hvm hB
    have hP : va_P D vwCl [(xo, .inr (6, [.ref xg, .int gc, .ref xp, .int pc, .ref xq, .int qc, .ref r1, .ref r2, .ref r3, .ref r4, .ref se, .int ts, .int hou, .int dr, .int su, .int br])), (xp, .inl (cp, 4, .inr (.inr (.inr (.inr (zq [none, none, none, none]))))))] H := hP
    have hD : va_D A [(xo, .inr (6, [.ref xg, .int gc, .ref xp, .int pc, .ref xq, .int qc, .ref r1, .ref r2, .ref r3, .ref r4, .ref se, .int ts, .int hou, .int dr, .int su, .int br])), (xp, .inl (cp, 4, .inr (.inr (.inr (.inr (zq [none, none, none, none]))))))] := hD
    have hK : va_K D vwCl [(cp, .object "Gatherhouse$Pot")] s := hK
    have hBX : (E = "java/lang/IndexOutOfBoundsException") := hBX
    rcases hBX with rfl
    exact vx_out (fun x h => (hxt x h).elim) hlocks hce hcv hcl (fun t ht hW9 => ⟨(), trivial, ⟨rfl, q_RW_mk hP hK hD [0, 1] [0] rfl rfl (by decide) rfl ht hW9⟩, hS.F ht⟩) hS.2.2 (Nat.le_of_ble_eq_true rfl) (Nat.le_of_ble_eq_true rfl)
  · exact w_143.elim
theorem dX6_heat_0 : decode cX6_heat 0 = .ok (.aload_n 0, 1) := by decide +kernel
theorem dX6_heat_1 : decode cX6_heat 1 = .ok (.iload_n 1, 1) := by decide +kernel
theorem dX6_heat_2 : decode cX6_heat 2 = .ok (.invokevirtual 169, 3) := by decide +kernel
def wzEX6_heat_no : List Cond := [.code yX6_heat cX6_heat 4 (some .int), .methodLink RX6 169 yX6_findPiece, .instanceMethod yX6_findPiece, .selects RX6 yX6_findPiece yX6_findPiece, .initialized RX6, .code yX6_findPiece cX6_findPiece 3 (some (.object "Gatherhouse$Piece")), .fieldLink RX6 30 "Gatherhouse" "pieces" "[LGatherhouse$Piece;", .classLink RX6 365 "java/lang/IndexOutOfBoundsException", .initialized "java/lang/IndexOutOfBoundsException"]
def wzX6_heat_no : List Cond := wzEX6_heat_no ++ (u_ws RX6 TX6 16 ++ ((vx_atS RX6 369 "java/lang/IndexOutOfBoundsException" ["java/lang/RuntimeException", "java/lang/Exception"]).filter goodWord))
theorem zgEX6_heat_no : wzEX6_heat_no.all goodWord = true := by decide +kernel
theorem zuX6_heat_no_X6 : ∀ w ∈ u_ws RX6 TX6 16, w ∈ wzX6_heat_no := (fun _ h => (List.mem_append_right _ (List.mem_append_left _ h)))
theorem ztX6_heat_no_X6_369 : ∀ w ∈ (vx_atS RX6 369 "java/lang/IndexOutOfBoundsException" ["java/lang/RuntimeException", "java/lang/Exception"]).filter goodWord, w ∈ wzX6_heat_no := (fun _ h => (List.mem_append_right _ (List.mem_append_right _ h)))
theorem gzX6_heat_no_X6_findPiece_no_169 : GoodIn wzX6_heat_no (wsV RX6 169 RX6 yX6_findPiece wzX6_findPiece_no) := (goodIn_app (z_lift (goodIn_r _ [1, 2, 3, 4] rfl (by decide +kernel))) (goodIn_app (z_lift (goodIn_r wzEX6_findPiece_no [5, 6, 7, 8] rfl zgEX6_findPiece_no)) (goodIn_app (goodIn_sub (fun _ h => (List.mem_append_right _ (List.mem_append_left _ h))) zgU_X6) (goodIn_sub (fun _ h => (List.mem_append_right _ (List.mem_append_right _ h))) zgV_X6_369))))
set_option maxHeartbeats 4000000 in
set_option maxRecDepth 100000 in
theorem zc_X6_heat_no (l : Launch) (hnt : l.stackTraces = false) (D : va_G) (G : Nat × Nat × (Nat → Int32)) (xo : Nat) (xg : Nat) (gc : Int32) (xp : Nat) (pc : Int32) (xq : Nat) (qc : Int32) (r1 : Nat) (r2 : Nat) (r3 : Nat) (r4 : Nat) (se : Nat) (ts : Int32) (hou : Int32) (dr : Int32) (su : Int32) (br : Int32) (cq : ClassId) (sz : Nat) : vx_Met l yX6_heat wzX6_heat_no ({ frames := 7, cells := 1, slots := 6, locals := 104 }) (va_Pc [.ref xo, .int 0, .int 61] (p_RW D G [(cq, .object "Gatherhouse$Piece")] [(xo, .inr (6, [.ref xg, .int gc, .ref xp, .int pc, .ref xq, .int qc, .ref r1, .ref r2, .ref r3, .ref r4, .ref se, .int ts, .int hou, .int dr, .int su, .int br])), (xq, .inl (cq, 16, .inr (.inr (.inr (.inr (zq [none, none, none, none, none, none, none, none, none, none, none, none, none, none, none, none]))))))] sz)) (va_Qi (fun (r : Int32) (u : Unit) => False) (fun (u : Unit) (t : State) => q_RW D [(cq, .object "Gatherhouse$Piece")] [(xo, .inr (6, [.ref xg, .int gc, .ref xp, .int pc, .ref xq, .int qc, .ref r1, .ref r2, .ref r3, .ref r4, .ref se, .int ts, .int hou, .int dr, .int su, .int br])), (xq, .inl (cq, 16, .inr (.inr (.inr (.inr (zq [none, none, none, none, none, none, none, none, none, none, none, none, none, none, none, none]))))))] (va_A [(xo, .inr (6, [.ref xg, .int gc, .ref xp, .int pc, .ref xq, .int qc, .ref r1, .ref r2, .ref r3, .ref r4, .ref se, .int ts, .int hou, .int dr, .int su, .int br])), (xq, .inl (cq, 16, .inr (.inr (.inr (.inr (zq [none, none, none, none, none, none, none, none, none, none, none, none, none, none, none, none]))))))] sz) t) (va_A [(xo, .inr (6, [.ref xg, .int gc, .ref xp, .int pc, .ref xq, .int qc, .ref r1, .ref r2, .ref r3, .ref r4, .ref se, .int ts, .int hou, .int dr, .int su, .int br])), (xq, .inl (cq, 16, .inr (.inr (.inr (.inr (zq [none, none, none, none, none, none, none, none, none, none, none, none, none, none, none, none]))))))] sz)) (vx_X (fun (_ : Unit) => True) (fun E (_ : Unit) (t : State) => ((E = "java/lang/IndexOutOfBoundsException")) ∧ q_RW D [(cq, .object "Gatherhouse$Piece")] [(xo, .inr (6, [.ref xg, .int gc, .ref xp, .int pc, .ref xq, .int qc, .ref r1, .ref r2, .ref r3, .ref r4, .ref se, .int ts, .int hou, .int dr, .int su, .int br])), (xq, .inl (cq, 16, .inr (.inr (.inr (.inr (zq [none, none, none, none, none, none, none, none, none, none, none, none, none, none, none, none]))))))] (va_A [(xo, .inr (6, [.ref xg, .int gc, .ref xp, .int pc, .ref xq, .int qc, .ref r1, .ref r2, .ref r3, .ref r4, .ref se, .int ts, .int hou, .int dr, .int su, .int br])), (xq, .inl (cq, 16, .inr (.inr (.inr (.inr (zq [none, none, none, none, none, none, none, none, none, none, none, none, none, none, none, none]))))))] sz) t) (va_A [(xo, .inr (6, [.ref xg, .int gc, .ref xp, .int pc, .ref xq, .int qc, .ref r1, .ref r2, .ref r3, .ref r4, .ref se, .int ts, .int hou, .int dr, .int su, .int br])), (xq, .inl (cq, 16, .inr (.inr (.inr (.inr (zq [none, none, none, none, none, none, none, none, none, none, none, none, none, none, none, none]))))))] sz)) 1 6 (va_A [(xo, .inr (6, [.ref xg, .int gc, .ref xp, .int pc, .ref xq, .int qc, .ref r1, .ref r2, .ref r3, .ref r4, .ref se, .int ts, .int hou, .int dr, .int su, .int br])), (xq, .inl (cq, 16, .inr (.inr (.inr (.inr (zq [none, none, none, none, none, none, none, none, none, none, none, none, none, none, none, none]))))))] sz) := by
  refine vx_ofW (cc := cX6_heat) (maxL := 4) (ret := (some .int)) (by decide) rfl ?_
  intro p e s m args below meth c s₁ B hml hxt hv
  obtain ⟨rfl, hsz, hP, hK, hD0, hT, hZ⟩ := hv
  have hx := B.exec
  have hb := B.bytes
  have hr := B.returns
  have hts := atoms_spec (ws := wzX6_heat_no) B.pre
  have hown : s.vm.findClass RX6 = some m.cls := findClass_of_methodNamed B.named
  have hlocks := B.notSynchronized
  subst hsz
  have hD := hD0.self (sz := s.heap.size)
  generalize hAe : va_A [(xo, .inr (6, [.ref xg, .int gc, .ref xp, .int pc, .ref xq, .int qc, .ref r1, .ref r2, .ref r3, .ref r4, .ref se, .int ts, .int hou, .int dr, .int su, .int br])), (xq, .inl (cq, 16, .inr (.inr (.inr (.inr (zq [none, none, none, none, none, none, none, none, none, none, none, none, none, none, none, none]))))))] s.heap.size = A at hD hZ ⊢
  have hA : ∀ q : Nat, s.heap.size ≤ q → A q := fun q h => by rw [← hAe]; exact Or.inr h
  have hS : va_S A s.heap s.heap [] := va_S.rf
  have hl := lv_entry ([.ref xo, .int 0, .int 61]) (n := 4) (Nat.le_of_ble_eq_true rfl)
  rw [lg_entry_eq]
  generalize (lg_sl ([.ref xo, .int 0, .int 61]) ++ List.replicate (4 - (lg_sl ([.ref xo, .int 0, .int 61])).length) Slot.unset).toArray = ls at hl ⊢
  have hl : lv_has ls 4 [(0, .ref xo), (1, .int 0), (2, .int 61)] := hl
  refine lv_aload_n hx hb dX6_heat_0 rfl (lv_at hl 0 rfl) ?_
  refine lv_iload_n hx hb dX6_heat_1 rfl (lv_at hl 1 rfl) ?_
  have hFc := va_free (wc := [(xo, .inr (6, [.ref xg, .int gc, .ref xp, .int pc, .ref xq, .int qc, .ref r1, .ref r2, .ref r3, .ref r4, .ref se, .int ts, .int hou, .int dr, .int su, .int br])), (xq, .inl (cq, 16, .inr (.inr (.inr (.inr (zq [none, none, none, none, none, none, none, none, none, none, none, none, none, none, none, none]))))))]) hD hS hA [0, 1] rfl
  refine vx_callq (vx_runV (As := [.int 0]) (rest := []) ⟨hx, hb, hml, hown, hts⟩ (zc_X6_findPiece_no l hnt D G xo 0 xg gc xp pc xq qc r1 r2 r3 r4 se ts hou dr su br cq (zq [none, none, none, none, none, none, none, none, none, none, none, none, none, none, none, none]) s.heap.size (by first | assumption | rfl | omega | exact Nat.le_trans (zS_le _ _ _) (by omega) | decide) (by first | assumption | rfl | omega | exact Nat.le_trans (zS_le _ _ _) (by omega) | decide)) (cwV 1 hts gzX6_heat_no_X6_findPiece_no_169 rfl rfl rfl (by decide +kernel) ⟨(Nat.le_of_ble_eq_true rfl), (Nat.le_of_ble_eq_true rfl)⟩) ⟨p_RW_blind, va_recv hK hP (ci := 6) (q0 := 0) rfl rfl, (p_RW_at (tc := [(cq, .object "Gatherhouse$Piece")]) (wc := [(xo, .inr (6, [.ref xg, .int gc, .ref xp, .int pc, .ref xq, .int qc, .ref r1, .ref r2, .ref r3, .ref r4, .ref se, .int ts, .int hou, .int dr, .int su, .int br])), (xq, .inl (cq, 16, .inr (.inr (.inr (.inr (zq [none, none, none, none, none, none, none, none, none, none, none, none, none, none, none, none]))))))]) hP hK hD hS hA hT hZ [0, 1] [0] rfl rfl (by decide) rfl [.ref xo, .int 0])⟩ rfl rfl hl.1 rfl (lv_room (Nat.le_of_ble_eq_true rfl)) dX6_heat_2 ⟨(Nat.le_of_ble_eq_true rfl), (Nat.le_of_ble_eq_true rfl)⟩) hS (fun q _ h => hFc q h) hFc (fun q _ h => hFc q h) (fun E ce q9 u t H locs ht hvm hpx hBX hz1 hk1 hS hce hcv hcl => ?_) (fun r_144 u t H locs ht hvm w_145 hB hz1 hk1 hS => ?_)
  · obtain ⟨hBX, hB⟩ := hBX
    obtain ⟨hP, hD, hK⟩ := q_join (D := D) (wc := [(xo, .inr (6, [.ref xg, .int gc, .ref xp, .int pc, .ref xq, .int qc, .ref r1, .ref r2, .ref r3, .ref r4, .ref se, .int ts, .int hou, .int dr, .int su, .int br])), (xq, .inl (cq, 16, .inr (.inr (.inr (.inr (zq [none, none, none, none, none, none, none, none, none, none, none, none, none, none, none, none]))))))]) (wr := []) (w1 := [(xo, .inr (6, [.ref xg, .int gc, .ref xp, .int pc, .ref xq, .int qc, .ref r1, .ref r2, .ref r3, .ref r4, .ref se, .int ts, .int hou, .int dr, .int su, .int br])), (xq, .inl (cq, 16, .inr (.inr (.inr (.inr (zq [none, none, none, none, none, none, none, none, none, none, none, none, none, none, none, none]))))))]) (tyr := []) (ty1 := [(cq, .object "Gatherhouse$Piece")]) hP hD hK [0, 1] [] [] rfl rfl (by decide) (by decide) rfl hFc hk1 ht hvm hB
    have hP : va_P D vwCl [(xo, .inr (6, [.ref xg, .int gc, .ref xp, .int pc, .ref xq, .int qc, .ref r1, .ref r2, .ref r3, .ref r4, .ref se, .int ts, .int hou, .int dr, .int su, .int br])), (xq, .inl (cq, 16, .inr (.inr (.inr (.inr (zq [none, none, none, none, none, none, none, none, none, none, none, none, none, none, none, none]))))))] H := hP
    have hD : va_D A [(xo, .inr (6, [.ref xg, .int gc, .ref xp, .int pc, .ref xq, .int qc, .ref r1, .ref r2, .ref r3, .ref r4, .ref se, .int ts, .int hou, .int dr, .int su, .int br])), (xq, .inl (cq, 16, .inr (.inr (.inr (.inr (zq [none, none, none, none, none, none, none, none, none, none, none, none, none, none, none, none]))))))] := hD
    have hK : va_K D vwCl [(cq, .object "Gatherhouse$Piece")] s := hK
    have hBX : (E = "java/lang/IndexOutOfBoundsException") := hBX
    rcases hBX with rfl
    exact vx_out (fun x h => (hxt x h).elim) hlocks hce hcv hcl (fun t ht hW9 => ⟨(), trivial, ⟨rfl, q_RW_mk hP hK hD [0, 1] [0] rfl rfl (by decide) rfl ht hW9⟩, hS.F ht⟩) hS.2.2 (Nat.le_of_ble_eq_true rfl) (Nat.le_of_ble_eq_true rfl)
  · exact w_145.elim
theorem dX6_blow_0 : decode cX6_blow 0 = .ok (.aload_n 0, 1) := by decide +kernel
theorem dX6_blow_1 : decode cX6_blow 1 = .ok (.iload_n 1, 1) := by decide +kernel
theorem dX6_blow_2 : decode cX6_blow 2 = .ok (.invokevirtual 169, 3) := by decide +kernel
def wzEX6_blow_no : List Cond := [.code yX6_blow cX6_blow 7 (some .int), .methodLink RX6 169 yX6_findPiece, .instanceMethod yX6_findPiece, .selects RX6 yX6_findPiece yX6_findPiece, .initialized RX6, .code yX6_findPiece cX6_findPiece 3 (some (.object "Gatherhouse$Piece")), .fieldLink RX6 30 "Gatherhouse" "pieces" "[LGatherhouse$Piece;", .classLink RX6 365 "java/lang/IndexOutOfBoundsException", .initialized "java/lang/IndexOutOfBoundsException"]
def wzX6_blow_no : List Cond := wzEX6_blow_no ++ (u_ws RX6 TX6 16 ++ ((vx_atS RX6 369 "java/lang/IndexOutOfBoundsException" ["java/lang/RuntimeException", "java/lang/Exception"]).filter goodWord))
theorem zgEX6_blow_no : wzEX6_blow_no.all goodWord = true := by decide +kernel
theorem zuX6_blow_no_X6 : ∀ w ∈ u_ws RX6 TX6 16, w ∈ wzX6_blow_no := (fun _ h => (List.mem_append_right _ (List.mem_append_left _ h)))
theorem ztX6_blow_no_X6_369 : ∀ w ∈ (vx_atS RX6 369 "java/lang/IndexOutOfBoundsException" ["java/lang/RuntimeException", "java/lang/Exception"]).filter goodWord, w ∈ wzX6_blow_no := (fun _ h => (List.mem_append_right _ (List.mem_append_right _ h)))
theorem gzX6_blow_no_X6_findPiece_no_169 : GoodIn wzX6_blow_no (wsV RX6 169 RX6 yX6_findPiece wzX6_findPiece_no) := (goodIn_app (z_lift (goodIn_r _ [1, 2, 3, 4] rfl (by decide +kernel))) (goodIn_app (z_lift (goodIn_r wzEX6_findPiece_no [5, 6, 7, 8] rfl zgEX6_findPiece_no)) (goodIn_app (goodIn_sub (fun _ h => (List.mem_append_right _ (List.mem_append_left _ h))) zgU_X6) (goodIn_sub (fun _ h => (List.mem_append_right _ (List.mem_append_right _ h))) zgV_X6_369))))
set_option maxHeartbeats 4000000 in
set_option maxRecDepth 100000 in
theorem zc_X6_blow_no (l : Launch) (hnt : l.stackTraces = false) (D : va_G) (G : Nat × Nat × (Nat → Int32)) (xo : Nat) (xg : Nat) (gc : Int32) (xp : Nat) (pc : Int32) (xq : Nat) (qc : Int32) (r1 : Nat) (r2 : Nat) (r3 : Nat) (r4 : Nat) (se : Nat) (ts : Int32) (hou : Int32) (dr : Int32) (su : Int32) (br : Int32) (cq : ClassId) (sz : Nat) : vx_Met l yX6_blow wzX6_blow_no ({ frames := 7, cells := 1, slots := 6, locals := 104 }) (va_Pc [.ref xo, .int 0, .int 0, .int 31] (p_RW D G [(cq, .object "Gatherhouse$Piece")] [(xo, .inr (6, [.ref xg, .int gc, .ref xp, .int pc, .ref xq, .int qc, .ref r1, .ref r2, .ref r3, .ref r4, .ref se, .int ts, .int hou, .int dr, .int su, .int br])), (xq, .inl (cq, 16, .inr (.inr (.inr (.inr (zq [none, none, none, none, none, none, none, none, none, none, none, none, none, none, none, none]))))))] sz)) (va_Qi (fun (r : Int32) (u : Unit) => False) (fun (u : Unit) (t : State) => q_RW D [(cq, .object "Gatherhouse$Piece")] [(xo, .inr (6, [.ref xg, .int gc, .ref xp, .int pc, .ref xq, .int qc, .ref r1, .ref r2, .ref r3, .ref r4, .ref se, .int ts, .int hou, .int dr, .int su, .int br])), (xq, .inl (cq, 16, .inr (.inr (.inr (.inr (zq [none, none, none, none, none, none, none, none, none, none, none, none, none, none, none, none]))))))] (va_A [(xo, .inr (6, [.ref xg, .int gc, .ref xp, .int pc, .ref xq, .int qc, .ref r1, .ref r2, .ref r3, .ref r4, .ref se, .int ts, .int hou, .int dr, .int su, .int br])), (xq, .inl (cq, 16, .inr (.inr (.inr (.inr (zq [none, none, none, none, none, none, none, none, none, none, none, none, none, none, none, none]))))))] sz) t) (va_A [(xo, .inr (6, [.ref xg, .int gc, .ref xp, .int pc, .ref xq, .int qc, .ref r1, .ref r2, .ref r3, .ref r4, .ref se, .int ts, .int hou, .int dr, .int su, .int br])), (xq, .inl (cq, 16, .inr (.inr (.inr (.inr (zq [none, none, none, none, none, none, none, none, none, none, none, none, none, none, none, none]))))))] sz)) (vx_X (fun (_ : Unit) => True) (fun E (_ : Unit) (t : State) => ((E = "java/lang/IndexOutOfBoundsException")) ∧ q_RW D [(cq, .object "Gatherhouse$Piece")] [(xo, .inr (6, [.ref xg, .int gc, .ref xp, .int pc, .ref xq, .int qc, .ref r1, .ref r2, .ref r3, .ref r4, .ref se, .int ts, .int hou, .int dr, .int su, .int br])), (xq, .inl (cq, 16, .inr (.inr (.inr (.inr (zq [none, none, none, none, none, none, none, none, none, none, none, none, none, none, none, none]))))))] (va_A [(xo, .inr (6, [.ref xg, .int gc, .ref xp, .int pc, .ref xq, .int qc, .ref r1, .ref r2, .ref r3, .ref r4, .ref se, .int ts, .int hou, .int dr, .int su, .int br])), (xq, .inl (cq, 16, .inr (.inr (.inr (.inr (zq [none, none, none, none, none, none, none, none, none, none, none, none, none, none, none, none]))))))] sz) t) (va_A [(xo, .inr (6, [.ref xg, .int gc, .ref xp, .int pc, .ref xq, .int qc, .ref r1, .ref r2, .ref r3, .ref r4, .ref se, .int ts, .int hou, .int dr, .int su, .int br])), (xq, .inl (cq, 16, .inr (.inr (.inr (.inr (zq [none, none, none, none, none, none, none, none, none, none, none, none, none, none, none, none]))))))] sz)) 1 6 (va_A [(xo, .inr (6, [.ref xg, .int gc, .ref xp, .int pc, .ref xq, .int qc, .ref r1, .ref r2, .ref r3, .ref r4, .ref se, .int ts, .int hou, .int dr, .int su, .int br])), (xq, .inl (cq, 16, .inr (.inr (.inr (.inr (zq [none, none, none, none, none, none, none, none, none, none, none, none, none, none, none, none]))))))] sz) := by
  refine vx_ofW (cc := cX6_blow) (maxL := 7) (ret := (some .int)) (by decide) rfl ?_
  intro p e s m args below meth c s₁ B hml hxt hv
  obtain ⟨rfl, hsz, hP, hK, hD0, hT, hZ⟩ := hv
  have hx := B.exec
  have hb := B.bytes
  have hr := B.returns
  have hts := atoms_spec (ws := wzX6_blow_no) B.pre
  have hown : s.vm.findClass RX6 = some m.cls := findClass_of_methodNamed B.named
  have hlocks := B.notSynchronized
  subst hsz
  have hD := hD0.self (sz := s.heap.size)
  generalize hAe : va_A [(xo, .inr (6, [.ref xg, .int gc, .ref xp, .int pc, .ref xq, .int qc, .ref r1, .ref r2, .ref r3, .ref r4, .ref se, .int ts, .int hou, .int dr, .int su, .int br])), (xq, .inl (cq, 16, .inr (.inr (.inr (.inr (zq [none, none, none, none, none, none, none, none, none, none, none, none, none, none, none, none]))))))] s.heap.size = A at hD hZ ⊢
  have hA : ∀ q : Nat, s.heap.size ≤ q → A q := fun q h => by rw [← hAe]; exact Or.inr h
  have hS : va_S A s.heap s.heap [] := va_S.rf
  have hl := lv_entry ([.ref xo, .int 0, .int 0, .int 31]) (n := 7) (Nat.le_of_ble_eq_true rfl)
  rw [lg_entry_eq]
  generalize (lg_sl ([.ref xo, .int 0, .int 0, .int 31]) ++ List.replicate (7 - (lg_sl ([.ref xo, .int 0, .int 0, .int 31])).length) Slot.unset).toArray = ls at hl ⊢
  have hl : lv_has ls 7 [(0, .ref xo), (1, .int 0), (2, .int 0), (3, .int 31)] := hl
  refine lv_aload_n hx hb dX6_blow_0 rfl (lv_at hl 0 rfl) ?_
  refine lv_iload_n hx hb dX6_blow_1 rfl (lv_at hl 1 rfl) ?_
  have hFc := va_free (wc := [(xo, .inr (6, [.ref xg, .int gc, .ref xp, .int pc, .ref xq, .int qc, .ref r1, .ref r2, .ref r3, .ref r4, .ref se, .int ts, .int hou, .int dr, .int su, .int br])), (xq, .inl (cq, 16, .inr (.inr (.inr (.inr (zq [none, none, none, none, none, none, none, none, none, none, none, none, none, none, none, none]))))))]) hD hS hA [0, 1] rfl
  refine vx_callq (vx_runV (As := [.int 0]) (rest := []) ⟨hx, hb, hml, hown, hts⟩ (zc_X6_findPiece_no l hnt D G xo 0 xg gc xp pc xq qc r1 r2 r3 r4 se ts hou dr su br cq (zq [none, none, none, none, none, none, none, none, none, none, none, none, none, none, none, none]) s.heap.size (by first | assumption | rfl | omega | exact Nat.le_trans (zS_le _ _ _) (by omega) | decide) (by first | assumption | rfl | omega | exact Nat.le_trans (zS_le _ _ _) (by omega) | decide)) (cwV 1 hts gzX6_blow_no_X6_findPiece_no_169 rfl rfl rfl (by decide +kernel) ⟨(Nat.le_of_ble_eq_true rfl), (Nat.le_of_ble_eq_true rfl)⟩) ⟨p_RW_blind, va_recv hK hP (ci := 6) (q0 := 0) rfl rfl, (p_RW_at (tc := [(cq, .object "Gatherhouse$Piece")]) (wc := [(xo, .inr (6, [.ref xg, .int gc, .ref xp, .int pc, .ref xq, .int qc, .ref r1, .ref r2, .ref r3, .ref r4, .ref se, .int ts, .int hou, .int dr, .int su, .int br])), (xq, .inl (cq, 16, .inr (.inr (.inr (.inr (zq [none, none, none, none, none, none, none, none, none, none, none, none, none, none, none, none]))))))]) hP hK hD hS hA hT hZ [0, 1] [0] rfl rfl (by decide) rfl [.ref xo, .int 0])⟩ rfl rfl hl.1 rfl (lv_room (Nat.le_of_ble_eq_true rfl)) dX6_blow_2 ⟨(Nat.le_of_ble_eq_true rfl), (Nat.le_of_ble_eq_true rfl)⟩) hS (fun q _ h => hFc q h) hFc (fun q _ h => hFc q h) (fun E ce q9 u t H locs ht hvm hpx hBX hz1 hk1 hS hce hcv hcl => ?_) (fun r_146 u t H locs ht hvm w_147 hB hz1 hk1 hS => ?_)
  · obtain ⟨hBX, hB⟩ := hBX
    obtain ⟨hP, hD, hK⟩ := q_join (D := D) (wc := [(xo, .inr (6, [.ref xg, .int gc, .ref xp, .int pc, .ref xq, .int qc, .ref r1, .ref r2, .ref r3, .ref r4, .ref se, .int ts, .int hou, .int dr, .int su, .int br])), (xq, .inl (cq, 16, .inr (.inr (.inr (.inr (zq [none, none, none, none, none, none, none, none, none, none, none, none, none, none, none, none]))))))]) (wr := []) (w1 := [(xo, .inr (6, [.ref xg, .int gc, .ref xp, .int pc, .ref xq, .int qc, .ref r1, .ref r2, .ref r3, .ref r4, .ref se, .int ts, .int hou, .int dr, .int su, .int br])), (xq, .inl (cq, 16, .inr (.inr (.inr (.inr (zq [none, none, none, none, none, none, none, none, none, none, none, none, none, none, none, none]))))))]) (tyr := []) (ty1 := [(cq, .object "Gatherhouse$Piece")]) hP hD hK [0, 1] [] [] rfl rfl (by decide) (by decide) rfl hFc hk1 ht hvm hB
    have hP : va_P D vwCl [(xo, .inr (6, [.ref xg, .int gc, .ref xp, .int pc, .ref xq, .int qc, .ref r1, .ref r2, .ref r3, .ref r4, .ref se, .int ts, .int hou, .int dr, .int su, .int br])), (xq, .inl (cq, 16, .inr (.inr (.inr (.inr (zq [none, none, none, none, none, none, none, none, none, none, none, none, none, none, none, none]))))))] H := hP
    have hD : va_D A [(xo, .inr (6, [.ref xg, .int gc, .ref xp, .int pc, .ref xq, .int qc, .ref r1, .ref r2, .ref r3, .ref r4, .ref se, .int ts, .int hou, .int dr, .int su, .int br])), (xq, .inl (cq, 16, .inr (.inr (.inr (.inr (zq [none, none, none, none, none, none, none, none, none, none, none, none, none, none, none, none]))))))] := hD
    have hK : va_K D vwCl [(cq, .object "Gatherhouse$Piece")] s := hK
    have hBX : (E = "java/lang/IndexOutOfBoundsException") := hBX
    rcases hBX with rfl
    exact vx_out (fun x h => (hxt x h).elim) hlocks hce hcv hcl (fun t ht hW9 => ⟨(), trivial, ⟨rfl, q_RW_mk hP hK hD [0, 1] [0] rfl rfl (by decide) rfl ht hW9⟩, hS.F ht⟩) hS.2.2 (Nat.le_of_ble_eq_true rfl) (Nat.le_of_ble_eq_true rfl)
  · exact w_147.elim
theorem dX6_swing_0 : decode cX6_swing 0 = .ok (.aload_n 0, 1) := by decide +kernel
theorem dX6_swing_1 : decode cX6_swing 1 = .ok (.iload_n 1, 1) := by decide +kernel
theorem dX6_swing_2 : decode cX6_swing 2 = .ok (.invokevirtual 169, 3) := by decide +kernel
def wzEX6_swing_no : List Cond := [.code yX6_swing cX6_swing 7 (some .int), .methodLink RX6 169 yX6_findPiece, .instanceMethod yX6_findPiece, .selects RX6 yX6_findPiece yX6_findPiece, .initialized RX6, .code yX6_findPiece cX6_findPiece 3 (some (.object "Gatherhouse$Piece")), .fieldLink RX6 30 "Gatherhouse" "pieces" "[LGatherhouse$Piece;", .classLink RX6 365 "java/lang/IndexOutOfBoundsException", .initialized "java/lang/IndexOutOfBoundsException"]
def wzX6_swing_no : List Cond := wzEX6_swing_no ++ (u_ws RX6 TX6 16 ++ ((vx_atS RX6 369 "java/lang/IndexOutOfBoundsException" ["java/lang/RuntimeException", "java/lang/Exception"]).filter goodWord))
theorem zgEX6_swing_no : wzEX6_swing_no.all goodWord = true := by decide +kernel
theorem zuX6_swing_no_X6 : ∀ w ∈ u_ws RX6 TX6 16, w ∈ wzX6_swing_no := (fun _ h => (List.mem_append_right _ (List.mem_append_left _ h)))
theorem ztX6_swing_no_X6_369 : ∀ w ∈ (vx_atS RX6 369 "java/lang/IndexOutOfBoundsException" ["java/lang/RuntimeException", "java/lang/Exception"]).filter goodWord, w ∈ wzX6_swing_no := (fun _ h => (List.mem_append_right _ (List.mem_append_right _ h)))
theorem gzX6_swing_no_X6_findPiece_no_169 : GoodIn wzX6_swing_no (wsV RX6 169 RX6 yX6_findPiece wzX6_findPiece_no) := (goodIn_app (z_lift (goodIn_r _ [1, 2, 3, 4] rfl (by decide +kernel))) (goodIn_app (z_lift (goodIn_r wzEX6_findPiece_no [5, 6, 7, 8] rfl zgEX6_findPiece_no)) (goodIn_app (goodIn_sub (fun _ h => (List.mem_append_right _ (List.mem_append_left _ h))) zgU_X6) (goodIn_sub (fun _ h => (List.mem_append_right _ (List.mem_append_right _ h))) zgV_X6_369))))
set_option maxHeartbeats 4000000 in
set_option maxRecDepth 100000 in
theorem zc_X6_swing_no (l : Launch) (hnt : l.stackTraces = false) (D : va_G) (G : Nat × Nat × (Nat → Int32)) (xo : Nat) (xg : Nat) (gc : Int32) (xp : Nat) (pc : Int32) (xq : Nat) (qc : Int32) (r1 : Nat) (r2 : Nat) (r3 : Nat) (r4 : Nat) (se : Nat) (ts : Int32) (hou : Int32) (dr : Int32) (su : Int32) (br : Int32) (cq : ClassId) (sz : Nat) : vx_Met l yX6_swing wzX6_swing_no ({ frames := 7, cells := 1, slots := 6, locals := 104 }) (va_Pc [.ref xo, .int 0, .int 0, .int 31] (p_RW D G [(cq, .object "Gatherhouse$Piece")] [(xo, .inr (6, [.ref xg, .int gc, .ref xp, .int pc, .ref xq, .int qc, .ref r1, .ref r2, .ref r3, .ref r4, .ref se, .int ts, .int hou, .int dr, .int su, .int br])), (xq, .inl (cq, 16, .inr (.inr (.inr (.inr (zq [none, none, none, none, none, none, none, none, none, none, none, none, none, none, none, none]))))))] sz)) (va_Qi (fun (r : Int32) (u : Unit) => False) (fun (u : Unit) (t : State) => q_RW D [(cq, .object "Gatherhouse$Piece")] [(xo, .inr (6, [.ref xg, .int gc, .ref xp, .int pc, .ref xq, .int qc, .ref r1, .ref r2, .ref r3, .ref r4, .ref se, .int ts, .int hou, .int dr, .int su, .int br])), (xq, .inl (cq, 16, .inr (.inr (.inr (.inr (zq [none, none, none, none, none, none, none, none, none, none, none, none, none, none, none, none]))))))] (va_A [(xo, .inr (6, [.ref xg, .int gc, .ref xp, .int pc, .ref xq, .int qc, .ref r1, .ref r2, .ref r3, .ref r4, .ref se, .int ts, .int hou, .int dr, .int su, .int br])), (xq, .inl (cq, 16, .inr (.inr (.inr (.inr (zq [none, none, none, none, none, none, none, none, none, none, none, none, none, none, none, none]))))))] sz) t) (va_A [(xo, .inr (6, [.ref xg, .int gc, .ref xp, .int pc, .ref xq, .int qc, .ref r1, .ref r2, .ref r3, .ref r4, .ref se, .int ts, .int hou, .int dr, .int su, .int br])), (xq, .inl (cq, 16, .inr (.inr (.inr (.inr (zq [none, none, none, none, none, none, none, none, none, none, none, none, none, none, none, none]))))))] sz)) (vx_X (fun (_ : Unit) => True) (fun E (_ : Unit) (t : State) => ((E = "java/lang/IndexOutOfBoundsException")) ∧ q_RW D [(cq, .object "Gatherhouse$Piece")] [(xo, .inr (6, [.ref xg, .int gc, .ref xp, .int pc, .ref xq, .int qc, .ref r1, .ref r2, .ref r3, .ref r4, .ref se, .int ts, .int hou, .int dr, .int su, .int br])), (xq, .inl (cq, 16, .inr (.inr (.inr (.inr (zq [none, none, none, none, none, none, none, none, none, none, none, none, none, none, none, none]))))))] (va_A [(xo, .inr (6, [.ref xg, .int gc, .ref xp, .int pc, .ref xq, .int qc, .ref r1, .ref r2, .ref r3, .ref r4, .ref se, .int ts, .int hou, .int dr, .int su, .int br])), (xq, .inl (cq, 16, .inr (.inr (.inr (.inr (zq [none, none, none, none, none, none, none, none, none, none, none, none, none, none, none, none]))))))] sz) t) (va_A [(xo, .inr (6, [.ref xg, .int gc, .ref xp, .int pc, .ref xq, .int qc, .ref r1, .ref r2, .ref r3, .ref r4, .ref se, .int ts, .int hou, .int dr, .int su, .int br])), (xq, .inl (cq, 16, .inr (.inr (.inr (.inr (zq [none, none, none, none, none, none, none, none, none, none, none, none, none, none, none, none]))))))] sz)) 1 6 (va_A [(xo, .inr (6, [.ref xg, .int gc, .ref xp, .int pc, .ref xq, .int qc, .ref r1, .ref r2, .ref r3, .ref r4, .ref se, .int ts, .int hou, .int dr, .int su, .int br])), (xq, .inl (cq, 16, .inr (.inr (.inr (.inr (zq [none, none, none, none, none, none, none, none, none, none, none, none, none, none, none, none]))))))] sz) := by
  refine vx_ofW (cc := cX6_swing) (maxL := 7) (ret := (some .int)) (by decide) rfl ?_
  intro p e s m args below meth c s₁ B hml hxt hv
  obtain ⟨rfl, hsz, hP, hK, hD0, hT, hZ⟩ := hv
  have hx := B.exec
  have hb := B.bytes
  have hr := B.returns
  have hts := atoms_spec (ws := wzX6_swing_no) B.pre
  have hown : s.vm.findClass RX6 = some m.cls := findClass_of_methodNamed B.named
  have hlocks := B.notSynchronized
  subst hsz
  have hD := hD0.self (sz := s.heap.size)
  generalize hAe : va_A [(xo, .inr (6, [.ref xg, .int gc, .ref xp, .int pc, .ref xq, .int qc, .ref r1, .ref r2, .ref r3, .ref r4, .ref se, .int ts, .int hou, .int dr, .int su, .int br])), (xq, .inl (cq, 16, .inr (.inr (.inr (.inr (zq [none, none, none, none, none, none, none, none, none, none, none, none, none, none, none, none]))))))] s.heap.size = A at hD hZ ⊢
  have hA : ∀ q : Nat, s.heap.size ≤ q → A q := fun q h => by rw [← hAe]; exact Or.inr h
  have hS : va_S A s.heap s.heap [] := va_S.rf
  have hl := lv_entry ([.ref xo, .int 0, .int 0, .int 31]) (n := 7) (Nat.le_of_ble_eq_true rfl)
  rw [lg_entry_eq]
  generalize (lg_sl ([.ref xo, .int 0, .int 0, .int 31]) ++ List.replicate (7 - (lg_sl ([.ref xo, .int 0, .int 0, .int 31])).length) Slot.unset).toArray = ls at hl ⊢
  have hl : lv_has ls 7 [(0, .ref xo), (1, .int 0), (2, .int 0), (3, .int 31)] := hl
  refine lv_aload_n hx hb dX6_swing_0 rfl (lv_at hl 0 rfl) ?_
  refine lv_iload_n hx hb dX6_swing_1 rfl (lv_at hl 1 rfl) ?_
  have hFc := va_free (wc := [(xo, .inr (6, [.ref xg, .int gc, .ref xp, .int pc, .ref xq, .int qc, .ref r1, .ref r2, .ref r3, .ref r4, .ref se, .int ts, .int hou, .int dr, .int su, .int br])), (xq, .inl (cq, 16, .inr (.inr (.inr (.inr (zq [none, none, none, none, none, none, none, none, none, none, none, none, none, none, none, none]))))))]) hD hS hA [0, 1] rfl
  refine vx_callq (vx_runV (As := [.int 0]) (rest := []) ⟨hx, hb, hml, hown, hts⟩ (zc_X6_findPiece_no l hnt D G xo 0 xg gc xp pc xq qc r1 r2 r3 r4 se ts hou dr su br cq (zq [none, none, none, none, none, none, none, none, none, none, none, none, none, none, none, none]) s.heap.size (by first | assumption | rfl | omega | exact Nat.le_trans (zS_le _ _ _) (by omega) | decide) (by first | assumption | rfl | omega | exact Nat.le_trans (zS_le _ _ _) (by omega) | decide)) (cwV 1 hts gzX6_swing_no_X6_findPiece_no_169 rfl rfl rfl (by decide +kernel) ⟨(Nat.le_of_ble_eq_true rfl), (Nat.le_of_ble_eq_true rfl)⟩) ⟨p_RW_blind, va_recv hK hP (ci := 6) (q0 := 0) rfl rfl, (p_RW_at (tc := [(cq, .object "Gatherhouse$Piece")]) (wc := [(xo, .inr (6, [.ref xg, .int gc, .ref xp, .int pc, .ref xq, .int qc, .ref r1, .ref r2, .ref r3, .ref r4, .ref se, .int ts, .int hou, .int dr, .int su, .int br])), (xq, .inl (cq, 16, .inr (.inr (.inr (.inr (zq [none, none, none, none, none, none, none, none, none, none, none, none, none, none, none, none]))))))]) hP hK hD hS hA hT hZ [0, 1] [0] rfl rfl (by decide) rfl [.ref xo, .int 0])⟩ rfl rfl hl.1 rfl (lv_room (Nat.le_of_ble_eq_true rfl)) dX6_swing_2 ⟨(Nat.le_of_ble_eq_true rfl), (Nat.le_of_ble_eq_true rfl)⟩) hS (fun q _ h => hFc q h) hFc (fun q _ h => hFc q h) (fun E ce q9 u t H locs ht hvm hpx hBX hz1 hk1 hS hce hcv hcl => ?_) (fun r_148 u t H locs ht hvm w_149 hB hz1 hk1 hS => ?_)
  · obtain ⟨hBX, hB⟩ := hBX
    obtain ⟨hP, hD, hK⟩ := q_join (D := D) (wc := [(xo, .inr (6, [.ref xg, .int gc, .ref xp, .int pc, .ref xq, .int qc, .ref r1, .ref r2, .ref r3, .ref r4, .ref se, .int ts, .int hou, .int dr, .int su, .int br])), (xq, .inl (cq, 16, .inr (.inr (.inr (.inr (zq [none, none, none, none, none, none, none, none, none, none, none, none, none, none, none, none]))))))]) (wr := []) (w1 := [(xo, .inr (6, [.ref xg, .int gc, .ref xp, .int pc, .ref xq, .int qc, .ref r1, .ref r2, .ref r3, .ref r4, .ref se, .int ts, .int hou, .int dr, .int su, .int br])), (xq, .inl (cq, 16, .inr (.inr (.inr (.inr (zq [none, none, none, none, none, none, none, none, none, none, none, none, none, none, none, none]))))))]) (tyr := []) (ty1 := [(cq, .object "Gatherhouse$Piece")]) hP hD hK [0, 1] [] [] rfl rfl (by decide) (by decide) rfl hFc hk1 ht hvm hB
    have hP : va_P D vwCl [(xo, .inr (6, [.ref xg, .int gc, .ref xp, .int pc, .ref xq, .int qc, .ref r1, .ref r2, .ref r3, .ref r4, .ref se, .int ts, .int hou, .int dr, .int su, .int br])), (xq, .inl (cq, 16, .inr (.inr (.inr (.inr (zq [none, none, none, none, none, none, none, none, none, none, none, none, none, none, none, none]))))))] H := hP
    have hD : va_D A [(xo, .inr (6, [.ref xg, .int gc, .ref xp, .int pc, .ref xq, .int qc, .ref r1, .ref r2, .ref r3, .ref r4, .ref se, .int ts, .int hou, .int dr, .int su, .int br])), (xq, .inl (cq, 16, .inr (.inr (.inr (.inr (zq [none, none, none, none, none, none, none, none, none, none, none, none, none, none, none, none]))))))] := hD
    have hK : va_K D vwCl [(cq, .object "Gatherhouse$Piece")] s := hK
    have hBX : (E = "java/lang/IndexOutOfBoundsException") := hBX
    rcases hBX with rfl
    exact vx_out (fun x h => (hxt x h).elim) hlocks hce hcv hcl (fun t ht hW9 => ⟨(), trivial, ⟨rfl, q_RW_mk hP hK hD [0, 1] [0] rfl rfl (by decide) rfl ht hW9⟩, hS.F ht⟩) hS.2.2 (Nat.le_of_ble_eq_true rfl) (Nat.le_of_ble_eq_true rfl)
  · exact w_149.elim
theorem dX6_neck_0 : decode cX6_neck 0 = .ok (.aload_n 0, 1) := by decide +kernel
theorem dX6_neck_1 : decode cX6_neck 1 = .ok (.iload_n 1, 1) := by decide +kernel
theorem dX6_neck_2 : decode cX6_neck 2 = .ok (.invokevirtual 169, 3) := by decide +kernel
def wzEX6_neck_no : List Cond := [.code yX6_neck cX6_neck 7 (some .int), .methodLink RX6 169 yX6_findPiece, .instanceMethod yX6_findPiece, .selects RX6 yX6_findPiece yX6_findPiece, .initialized RX6, .code yX6_findPiece cX6_findPiece 3 (some (.object "Gatherhouse$Piece")), .fieldLink RX6 30 "Gatherhouse" "pieces" "[LGatherhouse$Piece;", .classLink RX6 365 "java/lang/IndexOutOfBoundsException", .initialized "java/lang/IndexOutOfBoundsException"]
def wzX6_neck_no : List Cond := wzEX6_neck_no ++ (u_ws RX6 TX6 16 ++ ((vx_atS RX6 369 "java/lang/IndexOutOfBoundsException" ["java/lang/RuntimeException", "java/lang/Exception"]).filter goodWord))
theorem zgEX6_neck_no : wzEX6_neck_no.all goodWord = true := by decide +kernel
theorem zuX6_neck_no_X6 : ∀ w ∈ u_ws RX6 TX6 16, w ∈ wzX6_neck_no := (fun _ h => (List.mem_append_right _ (List.mem_append_left _ h)))
theorem ztX6_neck_no_X6_369 : ∀ w ∈ (vx_atS RX6 369 "java/lang/IndexOutOfBoundsException" ["java/lang/RuntimeException", "java/lang/Exception"]).filter goodWord, w ∈ wzX6_neck_no := (fun _ h => (List.mem_append_right _ (List.mem_append_right _ h)))
theorem gzX6_neck_no_X6_findPiece_no_169 : GoodIn wzX6_neck_no (wsV RX6 169 RX6 yX6_findPiece wzX6_findPiece_no) := (goodIn_app (z_lift (goodIn_r _ [1, 2, 3, 4] rfl (by decide +kernel))) (goodIn_app (z_lift (goodIn_r wzEX6_findPiece_no [5, 6, 7, 8] rfl zgEX6_findPiece_no)) (goodIn_app (goodIn_sub (fun _ h => (List.mem_append_right _ (List.mem_append_left _ h))) zgU_X6) (goodIn_sub (fun _ h => (List.mem_append_right _ (List.mem_append_right _ h))) zgV_X6_369))))
set_option maxHeartbeats 4000000 in
set_option maxRecDepth 100000 in
theorem zc_X6_neck_no (l : Launch) (hnt : l.stackTraces = false) (D : va_G) (G : Nat × Nat × (Nat → Int32)) (xo : Nat) (xg : Nat) (gc : Int32) (xp : Nat) (pc : Int32) (xq : Nat) (qc : Int32) (r1 : Nat) (r2 : Nat) (r3 : Nat) (r4 : Nat) (se : Nat) (ts : Int32) (hou : Int32) (dr : Int32) (su : Int32) (br : Int32) (cq : ClassId) (sz : Nat) : vx_Met l yX6_neck wzX6_neck_no ({ frames := 7, cells := 1, slots := 6, locals := 104 }) (va_Pc [.ref xo, .int 0, .int 0, .int 31] (p_RW D G [(cq, .object "Gatherhouse$Piece")] [(xo, .inr (6, [.ref xg, .int gc, .ref xp, .int pc, .ref xq, .int qc, .ref r1, .ref r2, .ref r3, .ref r4, .ref se, .int ts, .int hou, .int dr, .int su, .int br])), (xq, .inl (cq, 16, .inr (.inr (.inr (.inr (zq [none, none, none, none, none, none, none, none, none, none, none, none, none, none, none, none]))))))] sz)) (va_Qi (fun (r : Int32) (u : Unit) => False) (fun (u : Unit) (t : State) => q_RW D [(cq, .object "Gatherhouse$Piece")] [(xo, .inr (6, [.ref xg, .int gc, .ref xp, .int pc, .ref xq, .int qc, .ref r1, .ref r2, .ref r3, .ref r4, .ref se, .int ts, .int hou, .int dr, .int su, .int br])), (xq, .inl (cq, 16, .inr (.inr (.inr (.inr (zq [none, none, none, none, none, none, none, none, none, none, none, none, none, none, none, none]))))))] (va_A [(xo, .inr (6, [.ref xg, .int gc, .ref xp, .int pc, .ref xq, .int qc, .ref r1, .ref r2, .ref r3, .ref r4, .ref se, .int ts, .int hou, .int dr, .int su, .int br])), (xq, .inl (cq, 16, .inr (.inr (.inr (.inr (zq [none, none, none, none, none, none, none, none, none, none, none, none, none, none, none, none]))))))] sz) t) (va_A [(xo, .inr (6, [.ref xg, .int gc, .ref xp, .int pc, .ref xq, .int qc, .ref r1, .ref r2, .ref r3, .ref r4, .ref se, .int ts, .int hou, .int dr, .int su, .int br])), (xq, .inl (cq, 16, .inr (.inr (.inr (.inr (zq [none, none, none, none, none, none, none, none, none, none, none, none, none, none, none, none]))))))] sz)) (vx_X (fun (_ : Unit) => True) (fun E (_ : Unit) (t : State) => ((E = "java/lang/IndexOutOfBoundsException")) ∧ q_RW D [(cq, .object "Gatherhouse$Piece")] [(xo, .inr (6, [.ref xg, .int gc, .ref xp, .int pc, .ref xq, .int qc, .ref r1, .ref r2, .ref r3, .ref r4, .ref se, .int ts, .int hou, .int dr, .int su, .int br])), (xq, .inl (cq, 16, .inr (.inr (.inr (.inr (zq [none, none, none, none, none, none, none, none, none, none, none, none, none, none, none, none]))))))] (va_A [(xo, .inr (6, [.ref xg, .int gc, .ref xp, .int pc, .ref xq, .int qc, .ref r1, .ref r2, .ref r3, .ref r4, .ref se, .int ts, .int hou, .int dr, .int su, .int br])), (xq, .inl (cq, 16, .inr (.inr (.inr (.inr (zq [none, none, none, none, none, none, none, none, none, none, none, none, none, none, none, none]))))))] sz) t) (va_A [(xo, .inr (6, [.ref xg, .int gc, .ref xp, .int pc, .ref xq, .int qc, .ref r1, .ref r2, .ref r3, .ref r4, .ref se, .int ts, .int hou, .int dr, .int su, .int br])), (xq, .inl (cq, 16, .inr (.inr (.inr (.inr (zq [none, none, none, none, none, none, none, none, none, none, none, none, none, none, none, none]))))))] sz)) 1 6 (va_A [(xo, .inr (6, [.ref xg, .int gc, .ref xp, .int pc, .ref xq, .int qc, .ref r1, .ref r2, .ref r3, .ref r4, .ref se, .int ts, .int hou, .int dr, .int su, .int br])), (xq, .inl (cq, 16, .inr (.inr (.inr (.inr (zq [none, none, none, none, none, none, none, none, none, none, none, none, none, none, none, none]))))))] sz) := by
  refine vx_ofW (cc := cX6_neck) (maxL := 7) (ret := (some .int)) (by decide) rfl ?_
  intro p e s m args below meth c s₁ B hml hxt hv
  obtain ⟨rfl, hsz, hP, hK, hD0, hT, hZ⟩ := hv
  have hx := B.exec
  have hb := B.bytes
  have hr := B.returns
  have hts := atoms_spec (ws := wzX6_neck_no) B.pre
  have hown : s.vm.findClass RX6 = some m.cls := findClass_of_methodNamed B.named
  have hlocks := B.notSynchronized
  subst hsz
  have hD := hD0.self (sz := s.heap.size)
  generalize hAe : va_A [(xo, .inr (6, [.ref xg, .int gc, .ref xp, .int pc, .ref xq, .int qc, .ref r1, .ref r2, .ref r3, .ref r4, .ref se, .int ts, .int hou, .int dr, .int su, .int br])), (xq, .inl (cq, 16, .inr (.inr (.inr (.inr (zq [none, none, none, none, none, none, none, none, none, none, none, none, none, none, none, none]))))))] s.heap.size = A at hD hZ ⊢
  have hA : ∀ q : Nat, s.heap.size ≤ q → A q := fun q h => by rw [← hAe]; exact Or.inr h
  have hS : va_S A s.heap s.heap [] := va_S.rf
  have hl := lv_entry ([.ref xo, .int 0, .int 0, .int 31]) (n := 7) (Nat.le_of_ble_eq_true rfl)
  rw [lg_entry_eq]
  generalize (lg_sl ([.ref xo, .int 0, .int 0, .int 31]) ++ List.replicate (7 - (lg_sl ([.ref xo, .int 0, .int 0, .int 31])).length) Slot.unset).toArray = ls at hl ⊢
  have hl : lv_has ls 7 [(0, .ref xo), (1, .int 0), (2, .int 0), (3, .int 31)] := hl
  refine lv_aload_n hx hb dX6_neck_0 rfl (lv_at hl 0 rfl) ?_
  refine lv_iload_n hx hb dX6_neck_1 rfl (lv_at hl 1 rfl) ?_
  have hFc := va_free (wc := [(xo, .inr (6, [.ref xg, .int gc, .ref xp, .int pc, .ref xq, .int qc, .ref r1, .ref r2, .ref r3, .ref r4, .ref se, .int ts, .int hou, .int dr, .int su, .int br])), (xq, .inl (cq, 16, .inr (.inr (.inr (.inr (zq [none, none, none, none, none, none, none, none, none, none, none, none, none, none, none, none]))))))]) hD hS hA [0, 1] rfl
  refine vx_callq (vx_runV (As := [.int 0]) (rest := []) ⟨hx, hb, hml, hown, hts⟩ (zc_X6_findPiece_no l hnt D G xo 0 xg gc xp pc xq qc r1 r2 r3 r4 se ts hou dr su br cq (zq [none, none, none, none, none, none, none, none, none, none, none, none, none, none, none, none]) s.heap.size (by first | assumption | rfl | omega | exact Nat.le_trans (zS_le _ _ _) (by omega) | decide) (by first | assumption | rfl | omega | exact Nat.le_trans (zS_le _ _ _) (by omega) | decide)) (cwV 1 hts gzX6_neck_no_X6_findPiece_no_169 rfl rfl rfl (by decide +kernel) ⟨(Nat.le_of_ble_eq_true rfl), (Nat.le_of_ble_eq_true rfl)⟩) ⟨p_RW_blind, va_recv hK hP (ci := 6) (q0 := 0) rfl rfl, (p_RW_at (tc := [(cq, .object "Gatherhouse$Piece")]) (wc := [(xo, .inr (6, [.ref xg, .int gc, .ref xp, .int pc, .ref xq, .int qc, .ref r1, .ref r2, .ref r3, .ref r4, .ref se, .int ts, .int hou, .int dr, .int su, .int br])), (xq, .inl (cq, 16, .inr (.inr (.inr (.inr (zq [none, none, none, none, none, none, none, none, none, none, none, none, none, none, none, none]))))))]) hP hK hD hS hA hT hZ [0, 1] [0] rfl rfl (by decide) rfl [.ref xo, .int 0])⟩ rfl rfl hl.1 rfl (lv_room (Nat.le_of_ble_eq_true rfl)) dX6_neck_2 ⟨(Nat.le_of_ble_eq_true rfl), (Nat.le_of_ble_eq_true rfl)⟩) hS (fun q _ h => hFc q h) hFc (fun q _ h => hFc q h) (fun E ce q9 u t H locs ht hvm hpx hBX hz1 hk1 hS hce hcv hcl => ?_) (fun r_150 u t H locs ht hvm w_151 hB hz1 hk1 hS => ?_)
  · obtain ⟨hBX, hB⟩ := hBX
    obtain ⟨hP, hD, hK⟩ := q_join (D := D) (wc := [(xo, .inr (6, [.ref xg, .int gc, .ref xp, .int pc, .ref xq, .int qc, .ref r1, .ref r2, .ref r3, .ref r4, .ref se, .int ts, .int hou, .int dr, .int su, .int br])), (xq, .inl (cq, 16, .inr (.inr (.inr (.inr (zq [none, none, none, none, none, none, none, none, none, none, none, none, none, none, none, none]))))))]) (wr := []) (w1 := [(xo, .inr (6, [.ref xg, .int gc, .ref xp, .int pc, .ref xq, .int qc, .ref r1, .ref r2, .ref r3, .ref r4, .ref se, .int ts, .int hou, .int dr, .int su, .int br])), (xq, .inl (cq, 16, .inr (.inr (.inr (.inr (zq [none, none, none, none, none, none, none, none, none, none, none, none, none, none, none, none]))))))]) (tyr := []) (ty1 := [(cq, .object "Gatherhouse$Piece")]) hP hD hK [0, 1] [] [] rfl rfl (by decide) (by decide) rfl hFc hk1 ht hvm hB
    have hP : va_P D vwCl [(xo, .inr (6, [.ref xg, .int gc, .ref xp, .int pc, .ref xq, .int qc, .ref r1, .ref r2, .ref r3, .ref r4, .ref se, .int ts, .int hou, .int dr, .int su, .int br])), (xq, .inl (cq, 16, .inr (.inr (.inr (.inr (zq [none, none, none, none, none, none, none, none, none, none, none, none, none, none, none, none]))))))] H := hP
    have hD : va_D A [(xo, .inr (6, [.ref xg, .int gc, .ref xp, .int pc, .ref xq, .int qc, .ref r1, .ref r2, .ref r3, .ref r4, .ref se, .int ts, .int hou, .int dr, .int su, .int br])), (xq, .inl (cq, 16, .inr (.inr (.inr (.inr (zq [none, none, none, none, none, none, none, none, none, none, none, none, none, none, none, none]))))))] := hD
    have hK : va_K D vwCl [(cq, .object "Gatherhouse$Piece")] s := hK
    have hBX : (E = "java/lang/IndexOutOfBoundsException") := hBX
    rcases hBX with rfl
    exact vx_out (fun x h => (hxt x h).elim) hlocks hce hcv hcl (fun t ht hW9 => ⟨(), trivial, ⟨rfl, q_RW_mk hP hK hD [0, 1] [0] rfl rfl (by decide) rfl ht hW9⟩, hS.F ht⟩) hS.2.2 (Nat.le_of_ble_eq_true rfl) (Nat.le_of_ble_eq_true rfl)
  · exact w_151.elim
theorem dX6_split_0 : decode cX6_split 0 = .ok (.aload_n 0, 1) := by decide +kernel
theorem dX6_split_1 : decode cX6_split 1 = .ok (.iload_n 1, 1) := by decide +kernel
theorem dX6_split_2 : decode cX6_split 2 = .ok (.invokevirtual 169, 3) := by decide +kernel
def wzEX6_split_no : List Cond := [.code yX6_split cX6_split 6 (some .int), .methodLink RX6 169 yX6_findPiece, .instanceMethod yX6_findPiece, .selects RX6 yX6_findPiece yX6_findPiece, .initialized RX6, .code yX6_findPiece cX6_findPiece 3 (some (.object "Gatherhouse$Piece")), .fieldLink RX6 30 "Gatherhouse" "pieces" "[LGatherhouse$Piece;", .classLink RX6 365 "java/lang/IndexOutOfBoundsException", .initialized "java/lang/IndexOutOfBoundsException"]
def wzX6_split_no : List Cond := wzEX6_split_no ++ (u_ws RX6 TX6 16 ++ ((vx_atS RX6 369 "java/lang/IndexOutOfBoundsException" ["java/lang/RuntimeException", "java/lang/Exception"]).filter goodWord))
theorem zgEX6_split_no : wzEX6_split_no.all goodWord = true := by decide +kernel
theorem zuX6_split_no_X6 : ∀ w ∈ u_ws RX6 TX6 16, w ∈ wzX6_split_no := (fun _ h => (List.mem_append_right _ (List.mem_append_left _ h)))
theorem ztX6_split_no_X6_369 : ∀ w ∈ (vx_atS RX6 369 "java/lang/IndexOutOfBoundsException" ["java/lang/RuntimeException", "java/lang/Exception"]).filter goodWord, w ∈ wzX6_split_no := (fun _ h => (List.mem_append_right _ (List.mem_append_right _ h)))
theorem gzX6_split_no_X6_findPiece_no_169 : GoodIn wzX6_split_no (wsV RX6 169 RX6 yX6_findPiece wzX6_findPiece_no) := (goodIn_app (z_lift (goodIn_r _ [1, 2, 3, 4] rfl (by decide +kernel))) (goodIn_app (z_lift (goodIn_r wzEX6_findPiece_no [5, 6, 7, 8] rfl zgEX6_findPiece_no)) (goodIn_app (goodIn_sub (fun _ h => (List.mem_append_right _ (List.mem_append_left _ h))) zgU_X6) (goodIn_sub (fun _ h => (List.mem_append_right _ (List.mem_append_right _ h))) zgV_X6_369))))
set_option maxHeartbeats 4000000 in
set_option maxRecDepth 100000 in
theorem zc_X6_split_no (l : Launch) (hnt : l.stackTraces = false) (D : va_G) (G : Nat × Nat × (Nat → Int32)) (xo : Nat) (xg : Nat) (gc : Int32) (xp : Nat) (pc : Int32) (xq : Nat) (qc : Int32) (r1 : Nat) (r2 : Nat) (r3 : Nat) (r4 : Nat) (se : Nat) (ts : Int32) (hou : Int32) (dr : Int32) (su : Int32) (br : Int32) (cq : ClassId) (sz : Nat) : vx_Met l yX6_split wzX6_split_no ({ frames := 7, cells := 1, slots := 6, locals := 104 }) (va_Pc [.ref xo, .int 0, .int 0] (p_RW D G [(cq, .object "Gatherhouse$Piece")] [(xo, .inr (6, [.ref xg, .int gc, .ref xp, .int pc, .ref xq, .int qc, .ref r1, .ref r2, .ref r3, .ref r4, .ref se, .int ts, .int hou, .int dr, .int su, .int br])), (xq, .inl (cq, 16, .inr (.inr (.inr (.inr (zq [none, none, none, none, none, none, none, none, none, none, none, none, none, none, none, none]))))))] sz)) (va_Qi (fun (r : Int32) (u : Unit) => False) (fun (u : Unit) (t : State) => q_RW D [(cq, .object "Gatherhouse$Piece")] [(xo, .inr (6, [.ref xg, .int gc, .ref xp, .int pc, .ref xq, .int qc, .ref r1, .ref r2, .ref r3, .ref r4, .ref se, .int ts, .int hou, .int dr, .int su, .int br])), (xq, .inl (cq, 16, .inr (.inr (.inr (.inr (zq [none, none, none, none, none, none, none, none, none, none, none, none, none, none, none, none]))))))] (va_A [(xo, .inr (6, [.ref xg, .int gc, .ref xp, .int pc, .ref xq, .int qc, .ref r1, .ref r2, .ref r3, .ref r4, .ref se, .int ts, .int hou, .int dr, .int su, .int br])), (xq, .inl (cq, 16, .inr (.inr (.inr (.inr (zq [none, none, none, none, none, none, none, none, none, none, none, none, none, none, none, none]))))))] sz) t) (va_A [(xo, .inr (6, [.ref xg, .int gc, .ref xp, .int pc, .ref xq, .int qc, .ref r1, .ref r2, .ref r3, .ref r4, .ref se, .int ts, .int hou, .int dr, .int su, .int br])), (xq, .inl (cq, 16, .inr (.inr (.inr (.inr (zq [none, none, none, none, none, none, none, none, none, none, none, none, none, none, none, none]))))))] sz)) (vx_X (fun (_ : Unit) => True) (fun E (_ : Unit) (t : State) => ((E = "java/lang/IndexOutOfBoundsException")) ∧ q_RW D [(cq, .object "Gatherhouse$Piece")] [(xo, .inr (6, [.ref xg, .int gc, .ref xp, .int pc, .ref xq, .int qc, .ref r1, .ref r2, .ref r3, .ref r4, .ref se, .int ts, .int hou, .int dr, .int su, .int br])), (xq, .inl (cq, 16, .inr (.inr (.inr (.inr (zq [none, none, none, none, none, none, none, none, none, none, none, none, none, none, none, none]))))))] (va_A [(xo, .inr (6, [.ref xg, .int gc, .ref xp, .int pc, .ref xq, .int qc, .ref r1, .ref r2, .ref r3, .ref r4, .ref se, .int ts, .int hou, .int dr, .int su, .int br])), (xq, .inl (cq, 16, .inr (.inr (.inr (.inr (zq [none, none, none, none, none, none, none, none, none, none, none, none, none, none, none, none]))))))] sz) t) (va_A [(xo, .inr (6, [.ref xg, .int gc, .ref xp, .int pc, .ref xq, .int qc, .ref r1, .ref r2, .ref r3, .ref r4, .ref se, .int ts, .int hou, .int dr, .int su, .int br])), (xq, .inl (cq, 16, .inr (.inr (.inr (.inr (zq [none, none, none, none, none, none, none, none, none, none, none, none, none, none, none, none]))))))] sz)) 1 6 (va_A [(xo, .inr (6, [.ref xg, .int gc, .ref xp, .int pc, .ref xq, .int qc, .ref r1, .ref r2, .ref r3, .ref r4, .ref se, .int ts, .int hou, .int dr, .int su, .int br])), (xq, .inl (cq, 16, .inr (.inr (.inr (.inr (zq [none, none, none, none, none, none, none, none, none, none, none, none, none, none, none, none]))))))] sz) := by
  refine vx_ofW (cc := cX6_split) (maxL := 6) (ret := (some .int)) (by decide) rfl ?_
  intro p e s m args below meth c s₁ B hml hxt hv
  obtain ⟨rfl, hsz, hP, hK, hD0, hT, hZ⟩ := hv
  have hx := B.exec
  have hb := B.bytes
  have hr := B.returns
  have hts := atoms_spec (ws := wzX6_split_no) B.pre
  have hown : s.vm.findClass RX6 = some m.cls := findClass_of_methodNamed B.named
  have hlocks := B.notSynchronized
  subst hsz
  have hD := hD0.self (sz := s.heap.size)
  generalize hAe : va_A [(xo, .inr (6, [.ref xg, .int gc, .ref xp, .int pc, .ref xq, .int qc, .ref r1, .ref r2, .ref r3, .ref r4, .ref se, .int ts, .int hou, .int dr, .int su, .int br])), (xq, .inl (cq, 16, .inr (.inr (.inr (.inr (zq [none, none, none, none, none, none, none, none, none, none, none, none, none, none, none, none]))))))] s.heap.size = A at hD hZ ⊢
  have hA : ∀ q : Nat, s.heap.size ≤ q → A q := fun q h => by rw [← hAe]; exact Or.inr h
  have hS : va_S A s.heap s.heap [] := va_S.rf
  have hl := lv_entry ([.ref xo, .int 0, .int 0]) (n := 6) (Nat.le_of_ble_eq_true rfl)
  rw [lg_entry_eq]
  generalize (lg_sl ([.ref xo, .int 0, .int 0]) ++ List.replicate (6 - (lg_sl ([.ref xo, .int 0, .int 0])).length) Slot.unset).toArray = ls at hl ⊢
  have hl : lv_has ls 6 [(0, .ref xo), (1, .int 0), (2, .int 0)] := hl
  refine lv_aload_n hx hb dX6_split_0 rfl (lv_at hl 0 rfl) ?_
  refine lv_iload_n hx hb dX6_split_1 rfl (lv_at hl 1 rfl) ?_
  have hFc := va_free (wc := [(xo, .inr (6, [.ref xg, .int gc, .ref xp, .int pc, .ref xq, .int qc, .ref r1, .ref r2, .ref r3, .ref r4, .ref se, .int ts, .int hou, .int dr, .int su, .int br])), (xq, .inl (cq, 16, .inr (.inr (.inr (.inr (zq [none, none, none, none, none, none, none, none, none, none, none, none, none, none, none, none]))))))]) hD hS hA [0, 1] rfl
  refine vx_callq (vx_runV (As := [.int 0]) (rest := []) ⟨hx, hb, hml, hown, hts⟩ (zc_X6_findPiece_no l hnt D G xo 0 xg gc xp pc xq qc r1 r2 r3 r4 se ts hou dr su br cq (zq [none, none, none, none, none, none, none, none, none, none, none, none, none, none, none, none]) s.heap.size (by first | assumption | rfl | omega | exact Nat.le_trans (zS_le _ _ _) (by omega) | decide) (by first | assumption | rfl | omega | exact Nat.le_trans (zS_le _ _ _) (by omega) | decide)) (cwV 1 hts gzX6_split_no_X6_findPiece_no_169 rfl rfl rfl (by decide +kernel) ⟨(Nat.le_of_ble_eq_true rfl), (Nat.le_of_ble_eq_true rfl)⟩) ⟨p_RW_blind, va_recv hK hP (ci := 6) (q0 := 0) rfl rfl, (p_RW_at (tc := [(cq, .object "Gatherhouse$Piece")]) (wc := [(xo, .inr (6, [.ref xg, .int gc, .ref xp, .int pc, .ref xq, .int qc, .ref r1, .ref r2, .ref r3, .ref r4, .ref se, .int ts, .int hou, .int dr, .int su, .int br])), (xq, .inl (cq, 16, .inr (.inr (.inr (.inr (zq [none, none, none, none, none, none, none, none, none, none, none, none, none, none, none, none]))))))]) hP hK hD hS hA hT hZ [0, 1] [0] rfl rfl (by decide) rfl [.ref xo, .int 0])⟩ rfl rfl hl.1 rfl (lv_room (Nat.le_of_ble_eq_true rfl)) dX6_split_2 ⟨(Nat.le_of_ble_eq_true rfl), (Nat.le_of_ble_eq_true rfl)⟩) hS (fun q _ h => hFc q h) hFc (fun q _ h => hFc q h) (fun E ce q9 u t H locs ht hvm hpx hBX hz1 hk1 hS hce hcv hcl => ?_) (fun r_152 u t H locs ht hvm w_153 hB hz1 hk1 hS => ?_)
  · obtain ⟨hBX, hB⟩ := hBX
    obtain ⟨hP, hD, hK⟩ := q_join (D := D) (wc := [(xo, .inr (6, [.ref xg, .int gc, .ref xp, .int pc, .ref xq, .int qc, .ref r1, .ref r2, .ref r3, .ref r4, .ref se, .int ts, .int hou, .int dr, .int su, .int br])), (xq, .inl (cq, 16, .inr (.inr (.inr (.inr (zq [none, none, none, none, none, none, none, none, none, none, none, none, none, none, none, none]))))))]) (wr := []) (w1 := [(xo, .inr (6, [.ref xg, .int gc, .ref xp, .int pc, .ref xq, .int qc, .ref r1, .ref r2, .ref r3, .ref r4, .ref se, .int ts, .int hou, .int dr, .int su, .int br])), (xq, .inl (cq, 16, .inr (.inr (.inr (.inr (zq [none, none, none, none, none, none, none, none, none, none, none, none, none, none, none, none]))))))]) (tyr := []) (ty1 := [(cq, .object "Gatherhouse$Piece")]) hP hD hK [0, 1] [] [] rfl rfl (by decide) (by decide) rfl hFc hk1 ht hvm hB
    have hP : va_P D vwCl [(xo, .inr (6, [.ref xg, .int gc, .ref xp, .int pc, .ref xq, .int qc, .ref r1, .ref r2, .ref r3, .ref r4, .ref se, .int ts, .int hou, .int dr, .int su, .int br])), (xq, .inl (cq, 16, .inr (.inr (.inr (.inr (zq [none, none, none, none, none, none, none, none, none, none, none, none, none, none, none, none]))))))] H := hP
    have hD : va_D A [(xo, .inr (6, [.ref xg, .int gc, .ref xp, .int pc, .ref xq, .int qc, .ref r1, .ref r2, .ref r3, .ref r4, .ref se, .int ts, .int hou, .int dr, .int su, .int br])), (xq, .inl (cq, 16, .inr (.inr (.inr (.inr (zq [none, none, none, none, none, none, none, none, none, none, none, none, none, none, none, none]))))))] := hD
    have hK : va_K D vwCl [(cq, .object "Gatherhouse$Piece")] s := hK
    have hBX : (E = "java/lang/IndexOutOfBoundsException") := hBX
    rcases hBX with rfl
    exact vx_out (fun x h => (hxt x h).elim) hlocks hce hcv hcl (fun t ht hW9 => ⟨(), trivial, ⟨rfl, q_RW_mk hP hK hD [0, 1] [0] rfl rfl (by decide) rfl ht hW9⟩, hS.F ht⟩) hS.2.2 (Nat.le_of_ble_eq_true rfl) (Nat.le_of_ble_eq_true rfl)
  · exact w_153.elim
theorem dX6_shear_0 : decode cX6_shear 0 = .ok (.aload_n 0, 1) := by decide +kernel
theorem dX6_shear_1 : decode cX6_shear 1 = .ok (.iload_n 1, 1) := by decide +kernel
theorem dX6_shear_2 : decode cX6_shear 2 = .ok (.invokevirtual 169, 3) := by decide +kernel
def wzEX6_shear_no : List Cond := [.code yX6_shear cX6_shear 4 (some .int), .methodLink RX6 169 yX6_findPiece, .instanceMethod yX6_findPiece, .selects RX6 yX6_findPiece yX6_findPiece, .initialized RX6, .code yX6_findPiece cX6_findPiece 3 (some (.object "Gatherhouse$Piece")), .fieldLink RX6 30 "Gatherhouse" "pieces" "[LGatherhouse$Piece;", .classLink RX6 365 "java/lang/IndexOutOfBoundsException", .initialized "java/lang/IndexOutOfBoundsException"]
def wzX6_shear_no : List Cond := wzEX6_shear_no ++ (u_ws RX6 TX6 16 ++ ((vx_atS RX6 369 "java/lang/IndexOutOfBoundsException" ["java/lang/RuntimeException", "java/lang/Exception"]).filter goodWord))
theorem zgEX6_shear_no : wzEX6_shear_no.all goodWord = true := by decide +kernel
theorem zuX6_shear_no_X6 : ∀ w ∈ u_ws RX6 TX6 16, w ∈ wzX6_shear_no := (fun _ h => (List.mem_append_right _ (List.mem_append_left _ h)))
theorem ztX6_shear_no_X6_369 : ∀ w ∈ (vx_atS RX6 369 "java/lang/IndexOutOfBoundsException" ["java/lang/RuntimeException", "java/lang/Exception"]).filter goodWord, w ∈ wzX6_shear_no := (fun _ h => (List.mem_append_right _ (List.mem_append_right _ h)))
theorem gzX6_shear_no_X6_findPiece_no_169 : GoodIn wzX6_shear_no (wsV RX6 169 RX6 yX6_findPiece wzX6_findPiece_no) := (goodIn_app (z_lift (goodIn_r _ [1, 2, 3, 4] rfl (by decide +kernel))) (goodIn_app (z_lift (goodIn_r wzEX6_findPiece_no [5, 6, 7, 8] rfl zgEX6_findPiece_no)) (goodIn_app (goodIn_sub (fun _ h => (List.mem_append_right _ (List.mem_append_left _ h))) zgU_X6) (goodIn_sub (fun _ h => (List.mem_append_right _ (List.mem_append_right _ h))) zgV_X6_369))))
set_option maxHeartbeats 4000000 in
set_option maxRecDepth 100000 in
theorem zc_X6_shear_no (l : Launch) (hnt : l.stackTraces = false) (D : va_G) (G : Nat × Nat × (Nat → Int32)) (xo : Nat) (xg : Nat) (gc : Int32) (xp : Nat) (pc : Int32) (xq : Nat) (qc : Int32) (r1 : Nat) (r2 : Nat) (r3 : Nat) (r4 : Nat) (se : Nat) (ts : Int32) (hou : Int32) (dr : Int32) (su : Int32) (br : Int32) (cq : ClassId) (sz : Nat) : vx_Met l yX6_shear wzX6_shear_no ({ frames := 7, cells := 1, slots := 6, locals := 104 }) (va_Pc [.ref xo, .int 0] (p_RW D G [(cq, .object "Gatherhouse$Piece")] [(xo, .inr (6, [.ref xg, .int gc, .ref xp, .int pc, .ref xq, .int qc, .ref r1, .ref r2, .ref r3, .ref r4, .ref se, .int ts, .int hou, .int dr, .int su, .int br])), (xq, .inl (cq, 16, .inr (.inr (.inr (.inr (zq [none, none, none, none, none, none, none, none, none, none, none, none, none, none, none, none]))))))] sz)) (va_Qi (fun (r : Int32) (u : Unit) => False) (fun (u : Unit) (t : State) => q_RW D [(cq, .object "Gatherhouse$Piece")] [(xo, .inr (6, [.ref xg, .int gc, .ref xp, .int pc, .ref xq, .int qc, .ref r1, .ref r2, .ref r3, .ref r4, .ref se, .int ts, .int hou, .int dr, .int su, .int br])), (xq, .inl (cq, 16, .inr (.inr (.inr (.inr (zq [none, none, none, none, none, none, none, none, none, none, none, none, none, none, none, none]))))))] (va_A [(xo, .inr (6, [.ref xg, .int gc, .ref xp, .int pc, .ref xq, .int qc, .ref r1, .ref r2, .ref r3, .ref r4, .ref se, .int ts, .int hou, .int dr, .int su, .int br])), (xq, .inl (cq, 16, .inr (.inr (.inr (.inr (zq [none, none, none, none, none, none, none, none, none, none, none, none, none, none, none, none]))))))] sz) t) (va_A [(xo, .inr (6, [.ref xg, .int gc, .ref xp, .int pc, .ref xq, .int qc, .ref r1, .ref r2, .ref r3, .ref r4, .ref se, .int ts, .int hou, .int dr, .int su, .int br])), (xq, .inl (cq, 16, .inr (.inr (.inr (.inr (zq [none, none, none, none, none, none, none, none, none, none, none, none, none, none, none, none]))))))] sz)) (vx_X (fun (_ : Unit) => True) (fun E (_ : Unit) (t : State) => ((E = "java/lang/IndexOutOfBoundsException")) ∧ q_RW D [(cq, .object "Gatherhouse$Piece")] [(xo, .inr (6, [.ref xg, .int gc, .ref xp, .int pc, .ref xq, .int qc, .ref r1, .ref r2, .ref r3, .ref r4, .ref se, .int ts, .int hou, .int dr, .int su, .int br])), (xq, .inl (cq, 16, .inr (.inr (.inr (.inr (zq [none, none, none, none, none, none, none, none, none, none, none, none, none, none, none, none]))))))] (va_A [(xo, .inr (6, [.ref xg, .int gc, .ref xp, .int pc, .ref xq, .int qc, .ref r1, .ref r2, .ref r3, .ref r4, .ref se, .int ts, .int hou, .int dr, .int su, .int br])), (xq, .inl (cq, 16, .inr (.inr (.inr (.inr (zq [none, none, none, none, none, none, none, none, none, none, none, none, none, none, none, none]))))))] sz) t) (va_A [(xo, .inr (6, [.ref xg, .int gc, .ref xp, .int pc, .ref xq, .int qc, .ref r1, .ref r2, .ref r3, .ref r4, .ref se, .int ts, .int hou, .int dr, .int su, .int br])), (xq, .inl (cq, 16, .inr (.inr (.inr (.inr (zq [none, none, none, none, none, none, none, none, none, none, none, none, none, none, none, none]))))))] sz)) 1 6 (va_A [(xo, .inr (6, [.ref xg, .int gc, .ref xp, .int pc, .ref xq, .int qc, .ref r1, .ref r2, .ref r3, .ref r4, .ref se, .int ts, .int hou, .int dr, .int su, .int br])), (xq, .inl (cq, 16, .inr (.inr (.inr (.inr (zq [none, none, none, none, none, none, none, none, none, none, none, none, none, none, none, none]))))))] sz) := by
  refine vx_ofW (cc := cX6_shear) (maxL := 4) (ret := (some .int)) (by decide) rfl ?_
  intro p e s m args below meth c s₁ B hml hxt hv
  obtain ⟨rfl, hsz, hP, hK, hD0, hT, hZ⟩ := hv
  have hx := B.exec
  have hb := B.bytes
  have hr := B.returns
  have hts := atoms_spec (ws := wzX6_shear_no) B.pre
  have hown : s.vm.findClass RX6 = some m.cls := findClass_of_methodNamed B.named
  have hlocks := B.notSynchronized
  subst hsz
  have hD := hD0.self (sz := s.heap.size)
  generalize hAe : va_A [(xo, .inr (6, [.ref xg, .int gc, .ref xp, .int pc, .ref xq, .int qc, .ref r1, .ref r2, .ref r3, .ref r4, .ref se, .int ts, .int hou, .int dr, .int su, .int br])), (xq, .inl (cq, 16, .inr (.inr (.inr (.inr (zq [none, none, none, none, none, none, none, none, none, none, none, none, none, none, none, none]))))))] s.heap.size = A at hD hZ ⊢
  have hA : ∀ q : Nat, s.heap.size ≤ q → A q := fun q h => by rw [← hAe]; exact Or.inr h
  have hS : va_S A s.heap s.heap [] := va_S.rf
  have hl := lv_entry ([.ref xo, .int 0]) (n := 4) (Nat.le_of_ble_eq_true rfl)
  rw [lg_entry_eq]
  generalize (lg_sl ([.ref xo, .int 0]) ++ List.replicate (4 - (lg_sl ([.ref xo, .int 0])).length) Slot.unset).toArray = ls at hl ⊢
  have hl : lv_has ls 4 [(0, .ref xo), (1, .int 0)] := hl
  refine lv_aload_n hx hb dX6_shear_0 rfl (lv_at hl 0 rfl) ?_
  refine lv_iload_n hx hb dX6_shear_1 rfl (lv_at hl 1 rfl) ?_
  have hFc := va_free (wc := [(xo, .inr (6, [.ref xg, .int gc, .ref xp, .int pc, .ref xq, .int qc, .ref r1, .ref r2, .ref r3, .ref r4, .ref se, .int ts, .int hou, .int dr, .int su, .int br])), (xq, .inl (cq, 16, .inr (.inr (.inr (.inr (zq [none, none, none, none, none, none, none, none, none, none, none, none, none, none, none, none]))))))]) hD hS hA [0, 1] rfl
  refine vx_callq (vx_runV (As := [.int 0]) (rest := []) ⟨hx, hb, hml, hown, hts⟩ (zc_X6_findPiece_no l hnt D G xo 0 xg gc xp pc xq qc r1 r2 r3 r4 se ts hou dr su br cq (zq [none, none, none, none, none, none, none, none, none, none, none, none, none, none, none, none]) s.heap.size (by first | assumption | rfl | omega | exact Nat.le_trans (zS_le _ _ _) (by omega) | decide) (by first | assumption | rfl | omega | exact Nat.le_trans (zS_le _ _ _) (by omega) | decide)) (cwV 1 hts gzX6_shear_no_X6_findPiece_no_169 rfl rfl rfl (by decide +kernel) ⟨(Nat.le_of_ble_eq_true rfl), (Nat.le_of_ble_eq_true rfl)⟩) ⟨p_RW_blind, va_recv hK hP (ci := 6) (q0 := 0) rfl rfl, (p_RW_at (tc := [(cq, .object "Gatherhouse$Piece")]) (wc := [(xo, .inr (6, [.ref xg, .int gc, .ref xp, .int pc, .ref xq, .int qc, .ref r1, .ref r2, .ref r3, .ref r4, .ref se, .int ts, .int hou, .int dr, .int su, .int br])), (xq, .inl (cq, 16, .inr (.inr (.inr (.inr (zq [none, none, none, none, none, none, none, none, none, none, none, none, none, none, none, none]))))))]) hP hK hD hS hA hT hZ [0, 1] [0] rfl rfl (by decide) rfl [.ref xo, .int 0])⟩ rfl rfl hl.1 rfl (lv_room (Nat.le_of_ble_eq_true rfl)) dX6_shear_2 ⟨(Nat.le_of_ble_eq_true rfl), (Nat.le_of_ble_eq_true rfl)⟩) hS (fun q _ h => hFc q h) hFc (fun q _ h => hFc q h) (fun E ce q9 u t H locs ht hvm hpx hBX hz1 hk1 hS hce hcv hcl => ?_) (fun r_154 u t H locs ht hvm w_155 hB hz1 hk1 hS => ?_)
  · obtain ⟨hBX, hB⟩ := hBX
    obtain ⟨hP, hD, hK⟩ := q_join (D := D) (wc := [(xo, .inr (6, [.ref xg, .int gc, .ref xp, .int pc, .ref xq, .int qc, .ref r1, .ref r2, .ref r3, .ref r4, .ref se, .int ts, .int hou, .int dr, .int su, .int br])), (xq, .inl (cq, 16, .inr (.inr (.inr (.inr (zq [none, none, none, none, none, none, none, none, none, none, none, none, none, none, none, none]))))))]) (wr := []) (w1 := [(xo, .inr (6, [.ref xg, .int gc, .ref xp, .int pc, .ref xq, .int qc, .ref r1, .ref r2, .ref r3, .ref r4, .ref se, .int ts, .int hou, .int dr, .int su, .int br])), (xq, .inl (cq, 16, .inr (.inr (.inr (.inr (zq [none, none, none, none, none, none, none, none, none, none, none, none, none, none, none, none]))))))]) (tyr := []) (ty1 := [(cq, .object "Gatherhouse$Piece")]) hP hD hK [0, 1] [] [] rfl rfl (by decide) (by decide) rfl hFc hk1 ht hvm hB
    have hP : va_P D vwCl [(xo, .inr (6, [.ref xg, .int gc, .ref xp, .int pc, .ref xq, .int qc, .ref r1, .ref r2, .ref r3, .ref r4, .ref se, .int ts, .int hou, .int dr, .int su, .int br])), (xq, .inl (cq, 16, .inr (.inr (.inr (.inr (zq [none, none, none, none, none, none, none, none, none, none, none, none, none, none, none, none]))))))] H := hP
    have hD : va_D A [(xo, .inr (6, [.ref xg, .int gc, .ref xp, .int pc, .ref xq, .int qc, .ref r1, .ref r2, .ref r3, .ref r4, .ref se, .int ts, .int hou, .int dr, .int su, .int br])), (xq, .inl (cq, 16, .inr (.inr (.inr (.inr (zq [none, none, none, none, none, none, none, none, none, none, none, none, none, none, none, none]))))))] := hD
    have hK : va_K D vwCl [(cq, .object "Gatherhouse$Piece")] s := hK
    have hBX : (E = "java/lang/IndexOutOfBoundsException") := hBX
    rcases hBX with rfl
    exact vx_out (fun x h => (hxt x h).elim) hlocks hce hcv hcl (fun t ht hW9 => ⟨(), trivial, ⟨rfl, q_RW_mk hP hK hD [0, 1] [0] rfl rfl (by decide) rfl ht hW9⟩, hS.F ht⟩) hS.2.2 (Nat.le_of_ble_eq_true rfl) (Nat.le_of_ble_eq_true rfl)
  · exact w_155.elim
theorem dX6_lay_0 : decode cX6_lay 0 = .ok (.aload_n 0, 1) := by decide +kernel
theorem dX6_lay_1 : decode cX6_lay 1 = .ok (.iload_n 1, 1) := by decide +kernel
theorem dX6_lay_2 : decode cX6_lay 2 = .ok (.invokevirtual 169, 3) := by decide +kernel
def wzEX6_lay_no : List Cond := [.code yX6_lay cX6_lay 7 (some .int), .methodLink RX6 169 yX6_findPiece, .instanceMethod yX6_findPiece, .selects RX6 yX6_findPiece yX6_findPiece, .initialized RX6, .code yX6_findPiece cX6_findPiece 3 (some (.object "Gatherhouse$Piece")), .fieldLink RX6 30 "Gatherhouse" "pieces" "[LGatherhouse$Piece;", .classLink RX6 365 "java/lang/IndexOutOfBoundsException", .initialized "java/lang/IndexOutOfBoundsException"]
def wzX6_lay_no : List Cond := wzEX6_lay_no ++ (u_ws RX6 TX6 16 ++ ((vx_atS RX6 369 "java/lang/IndexOutOfBoundsException" ["java/lang/RuntimeException", "java/lang/Exception"]).filter goodWord))
theorem zgEX6_lay_no : wzEX6_lay_no.all goodWord = true := by decide +kernel
theorem zuX6_lay_no_X6 : ∀ w ∈ u_ws RX6 TX6 16, w ∈ wzX6_lay_no := (fun _ h => (List.mem_append_right _ (List.mem_append_left _ h)))
theorem ztX6_lay_no_X6_369 : ∀ w ∈ (vx_atS RX6 369 "java/lang/IndexOutOfBoundsException" ["java/lang/RuntimeException", "java/lang/Exception"]).filter goodWord, w ∈ wzX6_lay_no := (fun _ h => (List.mem_append_right _ (List.mem_append_right _ h)))
theorem gzX6_lay_no_X6_findPiece_no_169 : GoodIn wzX6_lay_no (wsV RX6 169 RX6 yX6_findPiece wzX6_findPiece_no) := (goodIn_app (z_lift (goodIn_r _ [1, 2, 3, 4] rfl (by decide +kernel))) (goodIn_app (z_lift (goodIn_r wzEX6_findPiece_no [5, 6, 7, 8] rfl zgEX6_findPiece_no)) (goodIn_app (goodIn_sub (fun _ h => (List.mem_append_right _ (List.mem_append_left _ h))) zgU_X6) (goodIn_sub (fun _ h => (List.mem_append_right _ (List.mem_append_right _ h))) zgV_X6_369))))
set_option maxHeartbeats 4000000 in
set_option maxRecDepth 100000 in
theorem zc_X6_lay_no (l : Launch) (hnt : l.stackTraces = false) (D : va_G) (G : Nat × Nat × (Nat → Int32)) (xo : Nat) (xg : Nat) (gc : Int32) (xp : Nat) (pc : Int32) (xq : Nat) (qc : Int32) (r1 : Nat) (r2 : Nat) (r3 : Nat) (r4 : Nat) (se : Nat) (ts : Int32) (hou : Int32) (dr : Int32) (su : Int32) (br : Int32) (cq : ClassId) (sz : Nat) : vx_Met l yX6_lay wzX6_lay_no ({ frames := 7, cells := 1, slots := 6, locals := 104 }) (va_Pc [.ref xo, .int 0, .int 0, .int 10] (p_RW D G [(cq, .object "Gatherhouse$Piece")] [(xo, .inr (6, [.ref xg, .int gc, .ref xp, .int pc, .ref xq, .int qc, .ref r1, .ref r2, .ref r3, .ref r4, .ref se, .int ts, .int hou, .int dr, .int su, .int br])), (xq, .inl (cq, 16, .inr (.inr (.inr (.inr (zq [none, none, none, none, none, none, none, none, none, none, none, none, none, none, none, none]))))))] sz)) (va_Qi (fun (r : Int32) (u : Unit) => False) (fun (u : Unit) (t : State) => q_RW D [(cq, .object "Gatherhouse$Piece")] [(xo, .inr (6, [.ref xg, .int gc, .ref xp, .int pc, .ref xq, .int qc, .ref r1, .ref r2, .ref r3, .ref r4, .ref se, .int ts, .int hou, .int dr, .int su, .int br])), (xq, .inl (cq, 16, .inr (.inr (.inr (.inr (zq [none, none, none, none, none, none, none, none, none, none, none, none, none, none, none, none]))))))] (va_A [(xo, .inr (6, [.ref xg, .int gc, .ref xp, .int pc, .ref xq, .int qc, .ref r1, .ref r2, .ref r3, .ref r4, .ref se, .int ts, .int hou, .int dr, .int su, .int br])), (xq, .inl (cq, 16, .inr (.inr (.inr (.inr (zq [none, none, none, none, none, none, none, none, none, none, none, none, none, none, none, none]))))))] sz) t) (va_A [(xo, .inr (6, [.ref xg, .int gc, .ref xp, .int pc, .ref xq, .int qc, .ref r1, .ref r2, .ref r3, .ref r4, .ref se, .int ts, .int hou, .int dr, .int su, .int br])), (xq, .inl (cq, 16, .inr (.inr (.inr (.inr (zq [none, none, none, none, none, none, none, none, none, none, none, none, none, none, none, none]))))))] sz)) (vx_X (fun (_ : Unit) => True) (fun E (_ : Unit) (t : State) => ((E = "java/lang/IndexOutOfBoundsException")) ∧ q_RW D [(cq, .object "Gatherhouse$Piece")] [(xo, .inr (6, [.ref xg, .int gc, .ref xp, .int pc, .ref xq, .int qc, .ref r1, .ref r2, .ref r3, .ref r4, .ref se, .int ts, .int hou, .int dr, .int su, .int br])), (xq, .inl (cq, 16, .inr (.inr (.inr (.inr (zq [none, none, none, none, none, none, none, none, none, none, none, none, none, none, none, none]))))))] (va_A [(xo, .inr (6, [.ref xg, .int gc, .ref xp, .int pc, .ref xq, .int qc, .ref r1, .ref r2, .ref r3, .ref r4, .ref se, .int ts, .int hou, .int dr, .int su, .int br])), (xq, .inl (cq, 16, .inr (.inr (.inr (.inr (zq [none, none, none, none, none, none, none, none, none, none, none, none, none, none, none, none]))))))] sz) t) (va_A [(xo, .inr (6, [.ref xg, .int gc, .ref xp, .int pc, .ref xq, .int qc, .ref r1, .ref r2, .ref r3, .ref r4, .ref se, .int ts, .int hou, .int dr, .int su, .int br])), (xq, .inl (cq, 16, .inr (.inr (.inr (.inr (zq [none, none, none, none, none, none, none, none, none, none, none, none, none, none, none, none]))))))] sz)) 1 6 (va_A [(xo, .inr (6, [.ref xg, .int gc, .ref xp, .int pc, .ref xq, .int qc, .ref r1, .ref r2, .ref r3, .ref r4, .ref se, .int ts, .int hou, .int dr, .int su, .int br])), (xq, .inl (cq, 16, .inr (.inr (.inr (.inr (zq [none, none, none, none, none, none, none, none, none, none, none, none, none, none, none, none]))))))] sz) := by
  refine vx_ofW (cc := cX6_lay) (maxL := 7) (ret := (some .int)) (by decide) rfl ?_
  intro p e s m args below meth c s₁ B hml hxt hv
  obtain ⟨rfl, hsz, hP, hK, hD0, hT, hZ⟩ := hv
  have hx := B.exec
  have hb := B.bytes
  have hr := B.returns
  have hts := atoms_spec (ws := wzX6_lay_no) B.pre
  have hown : s.vm.findClass RX6 = some m.cls := findClass_of_methodNamed B.named
  have hlocks := B.notSynchronized
  subst hsz
  have hD := hD0.self (sz := s.heap.size)
  generalize hAe : va_A [(xo, .inr (6, [.ref xg, .int gc, .ref xp, .int pc, .ref xq, .int qc, .ref r1, .ref r2, .ref r3, .ref r4, .ref se, .int ts, .int hou, .int dr, .int su, .int br])), (xq, .inl (cq, 16, .inr (.inr (.inr (.inr (zq [none, none, none, none, none, none, none, none, none, none, none, none, none, none, none, none]))))))] s.heap.size = A at hD hZ ⊢
  have hA : ∀ q : Nat, s.heap.size ≤ q → A q := fun q h => by rw [← hAe]; exact Or.inr h
  have hS : va_S A s.heap s.heap [] := va_S.rf
  have hl := lv_entry ([.ref xo, .int 0, .int 0, .int 10]) (n := 7) (Nat.le_of_ble_eq_true rfl)
  rw [lg_entry_eq]
  generalize (lg_sl ([.ref xo, .int 0, .int 0, .int 10]) ++ List.replicate (7 - (lg_sl ([.ref xo, .int 0, .int 0, .int 10])).length) Slot.unset).toArray = ls at hl ⊢
  have hl : lv_has ls 7 [(0, .ref xo), (1, .int 0), (2, .int 0), (3, .int 10)] := hl
  refine lv_aload_n hx hb dX6_lay_0 rfl (lv_at hl 0 rfl) ?_
  refine lv_iload_n hx hb dX6_lay_1 rfl (lv_at hl 1 rfl) ?_
  have hFc := va_free (wc := [(xo, .inr (6, [.ref xg, .int gc, .ref xp, .int pc, .ref xq, .int qc, .ref r1, .ref r2, .ref r3, .ref r4, .ref se, .int ts, .int hou, .int dr, .int su, .int br])), (xq, .inl (cq, 16, .inr (.inr (.inr (.inr (zq [none, none, none, none, none, none, none, none, none, none, none, none, none, none, none, none]))))))]) hD hS hA [0, 1] rfl
  refine vx_callq (vx_runV (As := [.int 0]) (rest := []) ⟨hx, hb, hml, hown, hts⟩ (zc_X6_findPiece_no l hnt D G xo 0 xg gc xp pc xq qc r1 r2 r3 r4 se ts hou dr su br cq (zq [none, none, none, none, none, none, none, none, none, none, none, none, none, none, none, none]) s.heap.size (by first | assumption | rfl | omega | exact Nat.le_trans (zS_le _ _ _) (by omega) | decide) (by first | assumption | rfl | omega | exact Nat.le_trans (zS_le _ _ _) (by omega) | decide)) (cwV 1 hts gzX6_lay_no_X6_findPiece_no_169 rfl rfl rfl (by decide +kernel) ⟨(Nat.le_of_ble_eq_true rfl), (Nat.le_of_ble_eq_true rfl)⟩) ⟨p_RW_blind, va_recv hK hP (ci := 6) (q0 := 0) rfl rfl, (p_RW_at (tc := [(cq, .object "Gatherhouse$Piece")]) (wc := [(xo, .inr (6, [.ref xg, .int gc, .ref xp, .int pc, .ref xq, .int qc, .ref r1, .ref r2, .ref r3, .ref r4, .ref se, .int ts, .int hou, .int dr, .int su, .int br])), (xq, .inl (cq, 16, .inr (.inr (.inr (.inr (zq [none, none, none, none, none, none, none, none, none, none, none, none, none, none, none, none]))))))]) hP hK hD hS hA hT hZ [0, 1] [0] rfl rfl (by decide) rfl [.ref xo, .int 0])⟩ rfl rfl hl.1 rfl (lv_room (Nat.le_of_ble_eq_true rfl)) dX6_lay_2 ⟨(Nat.le_of_ble_eq_true rfl), (Nat.le_of_ble_eq_true rfl)⟩) hS (fun q _ h => hFc q h) hFc (fun q _ h => hFc q h) (fun E ce q9 u t H locs ht hvm hpx hBX hz1 hk1 hS hce hcv hcl => ?_) (fun r_156 u t H locs ht hvm w_157 hB hz1 hk1 hS => ?_)
  · obtain ⟨hBX, hB⟩ := hBX
    obtain ⟨hP, hD, hK⟩ := q_join (D := D) (wc := [(xo, .inr (6, [.ref xg, .int gc, .ref xp, .int pc, .ref xq, .int qc, .ref r1, .ref r2, .ref r3, .ref r4, .ref se, .int ts, .int hou, .int dr, .int su, .int br])), (xq, .inl (cq, 16, .inr (.inr (.inr (.inr (zq [none, none, none, none, none, none, none, none, none, none, none, none, none, none, none, none]))))))]) (wr := []) (w1 := [(xo, .inr (6, [.ref xg, .int gc, .ref xp, .int pc, .ref xq, .int qc, .ref r1, .ref r2, .ref r3, .ref r4, .ref se, .int ts, .int hou, .int dr, .int su, .int br])), (xq, .inl (cq, 16, .inr (.inr (.inr (.inr (zq [none, none, none, none, none, none, none, none, none, none, none, none, none, none, none, none]))))))]) (tyr := []) (ty1 := [(cq, .object "Gatherhouse$Piece")]) hP hD hK [0, 1] [] [] rfl rfl (by decide) (by decide) rfl hFc hk1 ht hvm hB
    have hP : va_P D vwCl [(xo, .inr (6, [.ref xg, .int gc, .ref xp, .int pc, .ref xq, .int qc, .ref r1, .ref r2, .ref r3, .ref r4, .ref se, .int ts, .int hou, .int dr, .int su, .int br])), (xq, .inl (cq, 16, .inr (.inr (.inr (.inr (zq [none, none, none, none, none, none, none, none, none, none, none, none, none, none, none, none]))))))] H := hP
    have hD : va_D A [(xo, .inr (6, [.ref xg, .int gc, .ref xp, .int pc, .ref xq, .int qc, .ref r1, .ref r2, .ref r3, .ref r4, .ref se, .int ts, .int hou, .int dr, .int su, .int br])), (xq, .inl (cq, 16, .inr (.inr (.inr (.inr (zq [none, none, none, none, none, none, none, none, none, none, none, none, none, none, none, none]))))))] := hD
    have hK : va_K D vwCl [(cq, .object "Gatherhouse$Piece")] s := hK
    have hBX : (E = "java/lang/IndexOutOfBoundsException") := hBX
    rcases hBX with rfl
    exact vx_out (fun x h => (hxt x h).elim) hlocks hce hcv hcl (fun t ht hW9 => ⟨(), trivial, ⟨rfl, q_RW_mk hP hK hD [0, 1] [0] rfl rfl (by decide) rfl ht hW9⟩, hS.F ht⟩) hS.2.2 (Nat.le_of_ble_eq_true rfl) (Nat.le_of_ble_eq_true rfl)
  · exact w_157.elim
theorem dX6_join_0 : decode cX6_join 0 = .ok (.aload_n 0, 1) := by decide +kernel
theorem dX6_join_1 : decode cX6_join 1 = .ok (.iload_n 1, 1) := by decide +kernel
theorem dX6_join_2 : decode cX6_join 2 = .ok (.invokevirtual 169, 3) := by decide +kernel
def wzEX6_join_no : List Cond := [.code yX6_join cX6_join 5 (some .int), .methodLink RX6 169 yX6_findPiece, .instanceMethod yX6_findPiece, .selects RX6 yX6_findPiece yX6_findPiece, .initialized RX6, .code yX6_findPiece cX6_findPiece 3 (some (.object "Gatherhouse$Piece")), .fieldLink RX6 30 "Gatherhouse" "pieces" "[LGatherhouse$Piece;", .classLink RX6 365 "java/lang/IndexOutOfBoundsException", .initialized "java/lang/IndexOutOfBoundsException"]
def wzX6_join_no : List Cond := wzEX6_join_no ++ (u_ws RX6 TX6 16 ++ ((vx_atS RX6 369 "java/lang/IndexOutOfBoundsException" ["java/lang/RuntimeException", "java/lang/Exception"]).filter goodWord))
theorem zgEX6_join_no : wzEX6_join_no.all goodWord = true := by decide +kernel
theorem zuX6_join_no_X6 : ∀ w ∈ u_ws RX6 TX6 16, w ∈ wzX6_join_no := (fun _ h => (List.mem_append_right _ (List.mem_append_left _ h)))
theorem ztX6_join_no_X6_369 : ∀ w ∈ (vx_atS RX6 369 "java/lang/IndexOutOfBoundsException" ["java/lang/RuntimeException", "java/lang/Exception"]).filter goodWord, w ∈ wzX6_join_no := (fun _ h => (List.mem_append_right _ (List.mem_append_right _ h)))
theorem gzX6_join_no_X6_findPiece_no_169 : GoodIn wzX6_join_no (wsV RX6 169 RX6 yX6_findPiece wzX6_findPiece_no) := (goodIn_app (z_lift (goodIn_r _ [1, 2, 3, 4] rfl (by decide +kernel))) (goodIn_app (z_lift (goodIn_r wzEX6_findPiece_no [5, 6, 7, 8] rfl zgEX6_findPiece_no)) (goodIn_app (goodIn_sub (fun _ h => (List.mem_append_right _ (List.mem_append_left _ h))) zgU_X6) (goodIn_sub (fun _ h => (List.mem_append_right _ (List.mem_append_right _ h))) zgV_X6_369))))
set_option maxHeartbeats 4000000 in
set_option maxRecDepth 100000 in
theorem zc_X6_join_no (l : Launch) (hnt : l.stackTraces = false) (D : va_G) (G : Nat × Nat × (Nat → Int32)) (xo : Nat) (xg : Nat) (gc : Int32) (xp : Nat) (pc : Int32) (xq : Nat) (qc : Int32) (r1 : Nat) (r2 : Nat) (r3 : Nat) (r4 : Nat) (se : Nat) (ts : Int32) (hou : Int32) (dr : Int32) (su : Int32) (br : Int32) (cq : ClassId) (sz : Nat) : vx_Met l yX6_join wzX6_join_no ({ frames := 7, cells := 1, slots := 6, locals := 104 }) (va_Pc [.ref xo, .int 0, .int 0] (p_RW D G [(cq, .object "Gatherhouse$Piece")] [(xo, .inr (6, [.ref xg, .int gc, .ref xp, .int pc, .ref xq, .int qc, .ref r1, .ref r2, .ref r3, .ref r4, .ref se, .int ts, .int hou, .int dr, .int su, .int br])), (xq, .inl (cq, 16, .inr (.inr (.inr (.inr (zq [none, none, none, none, none, none, none, none, none, none, none, none, none, none, none, none]))))))] sz)) (va_Qi (fun (r : Int32) (u : Unit) => False) (fun (u : Unit) (t : State) => q_RW D [(cq, .object "Gatherhouse$Piece")] [(xo, .inr (6, [.ref xg, .int gc, .ref xp, .int pc, .ref xq, .int qc, .ref r1, .ref r2, .ref r3, .ref r4, .ref se, .int ts, .int hou, .int dr, .int su, .int br])), (xq, .inl (cq, 16, .inr (.inr (.inr (.inr (zq [none, none, none, none, none, none, none, none, none, none, none, none, none, none, none, none]))))))] (va_A [(xo, .inr (6, [.ref xg, .int gc, .ref xp, .int pc, .ref xq, .int qc, .ref r1, .ref r2, .ref r3, .ref r4, .ref se, .int ts, .int hou, .int dr, .int su, .int br])), (xq, .inl (cq, 16, .inr (.inr (.inr (.inr (zq [none, none, none, none, none, none, none, none, none, none, none, none, none, none, none, none]))))))] sz) t) (va_A [(xo, .inr (6, [.ref xg, .int gc, .ref xp, .int pc, .ref xq, .int qc, .ref r1, .ref r2, .ref r3, .ref r4, .ref se, .int ts, .int hou, .int dr, .int su, .int br])), (xq, .inl (cq, 16, .inr (.inr (.inr (.inr (zq [none, none, none, none, none, none, none, none, none, none, none, none, none, none, none, none]))))))] sz)) (vx_X (fun (_ : Unit) => True) (fun E (_ : Unit) (t : State) => ((E = "java/lang/IndexOutOfBoundsException")) ∧ q_RW D [(cq, .object "Gatherhouse$Piece")] [(xo, .inr (6, [.ref xg, .int gc, .ref xp, .int pc, .ref xq, .int qc, .ref r1, .ref r2, .ref r3, .ref r4, .ref se, .int ts, .int hou, .int dr, .int su, .int br])), (xq, .inl (cq, 16, .inr (.inr (.inr (.inr (zq [none, none, none, none, none, none, none, none, none, none, none, none, none, none, none, none]))))))] (va_A [(xo, .inr (6, [.ref xg, .int gc, .ref xp, .int pc, .ref xq, .int qc, .ref r1, .ref r2, .ref r3, .ref r4, .ref se, .int ts, .int hou, .int dr, .int su, .int br])), (xq, .inl (cq, 16, .inr (.inr (.inr (.inr (zq [none, none, none, none, none, none, none, none, none, none, none, none, none, none, none, none]))))))] sz) t) (va_A [(xo, .inr (6, [.ref xg, .int gc, .ref xp, .int pc, .ref xq, .int qc, .ref r1, .ref r2, .ref r3, .ref r4, .ref se, .int ts, .int hou, .int dr, .int su, .int br])), (xq, .inl (cq, 16, .inr (.inr (.inr (.inr (zq [none, none, none, none, none, none, none, none, none, none, none, none, none, none, none, none]))))))] sz)) 1 6 (va_A [(xo, .inr (6, [.ref xg, .int gc, .ref xp, .int pc, .ref xq, .int qc, .ref r1, .ref r2, .ref r3, .ref r4, .ref se, .int ts, .int hou, .int dr, .int su, .int br])), (xq, .inl (cq, 16, .inr (.inr (.inr (.inr (zq [none, none, none, none, none, none, none, none, none, none, none, none, none, none, none, none]))))))] sz) := by
  refine vx_ofW (cc := cX6_join) (maxL := 5) (ret := (some .int)) (by decide) rfl ?_
  intro p e s m args below meth c s₁ B hml hxt hv
  obtain ⟨rfl, hsz, hP, hK, hD0, hT, hZ⟩ := hv
  have hx := B.exec
  have hb := B.bytes
  have hr := B.returns
  have hts := atoms_spec (ws := wzX6_join_no) B.pre
  have hown : s.vm.findClass RX6 = some m.cls := findClass_of_methodNamed B.named
  have hlocks := B.notSynchronized
  subst hsz
  have hD := hD0.self (sz := s.heap.size)
  generalize hAe : va_A [(xo, .inr (6, [.ref xg, .int gc, .ref xp, .int pc, .ref xq, .int qc, .ref r1, .ref r2, .ref r3, .ref r4, .ref se, .int ts, .int hou, .int dr, .int su, .int br])), (xq, .inl (cq, 16, .inr (.inr (.inr (.inr (zq [none, none, none, none, none, none, none, none, none, none, none, none, none, none, none, none]))))))] s.heap.size = A at hD hZ ⊢
  have hA : ∀ q : Nat, s.heap.size ≤ q → A q := fun q h => by rw [← hAe]; exact Or.inr h
  have hS : va_S A s.heap s.heap [] := va_S.rf
  have hl := lv_entry ([.ref xo, .int 0, .int 0]) (n := 5) (Nat.le_of_ble_eq_true rfl)
  rw [lg_entry_eq]
  generalize (lg_sl ([.ref xo, .int 0, .int 0]) ++ List.replicate (5 - (lg_sl ([.ref xo, .int 0, .int 0])).length) Slot.unset).toArray = ls at hl ⊢
  have hl : lv_has ls 5 [(0, .ref xo), (1, .int 0), (2, .int 0)] := hl
  refine lv_aload_n hx hb dX6_join_0 rfl (lv_at hl 0 rfl) ?_
  refine lv_iload_n hx hb dX6_join_1 rfl (lv_at hl 1 rfl) ?_
  have hFc := va_free (wc := [(xo, .inr (6, [.ref xg, .int gc, .ref xp, .int pc, .ref xq, .int qc, .ref r1, .ref r2, .ref r3, .ref r4, .ref se, .int ts, .int hou, .int dr, .int su, .int br])), (xq, .inl (cq, 16, .inr (.inr (.inr (.inr (zq [none, none, none, none, none, none, none, none, none, none, none, none, none, none, none, none]))))))]) hD hS hA [0, 1] rfl
  refine vx_callq (vx_runV (As := [.int 0]) (rest := []) ⟨hx, hb, hml, hown, hts⟩ (zc_X6_findPiece_no l hnt D G xo 0 xg gc xp pc xq qc r1 r2 r3 r4 se ts hou dr su br cq (zq [none, none, none, none, none, none, none, none, none, none, none, none, none, none, none, none]) s.heap.size (by first | assumption | rfl | omega | exact Nat.le_trans (zS_le _ _ _) (by omega) | decide) (by first | assumption | rfl | omega | exact Nat.le_trans (zS_le _ _ _) (by omega) | decide)) (cwV 1 hts gzX6_join_no_X6_findPiece_no_169 rfl rfl rfl (by decide +kernel) ⟨(Nat.le_of_ble_eq_true rfl), (Nat.le_of_ble_eq_true rfl)⟩) ⟨p_RW_blind, va_recv hK hP (ci := 6) (q0 := 0) rfl rfl, (p_RW_at (tc := [(cq, .object "Gatherhouse$Piece")]) (wc := [(xo, .inr (6, [.ref xg, .int gc, .ref xp, .int pc, .ref xq, .int qc, .ref r1, .ref r2, .ref r3, .ref r4, .ref se, .int ts, .int hou, .int dr, .int su, .int br])), (xq, .inl (cq, 16, .inr (.inr (.inr (.inr (zq [none, none, none, none, none, none, none, none, none, none, none, none, none, none, none, none]))))))]) hP hK hD hS hA hT hZ [0, 1] [0] rfl rfl (by decide) rfl [.ref xo, .int 0])⟩ rfl rfl hl.1 rfl (lv_room (Nat.le_of_ble_eq_true rfl)) dX6_join_2 ⟨(Nat.le_of_ble_eq_true rfl), (Nat.le_of_ble_eq_true rfl)⟩) hS (fun q _ h => hFc q h) hFc (fun q _ h => hFc q h) (fun E ce q9 u t H locs ht hvm hpx hBX hz1 hk1 hS hce hcv hcl => ?_) (fun r_158 u t H locs ht hvm w_159 hB hz1 hk1 hS => ?_)
  · obtain ⟨hBX, hB⟩ := hBX
    obtain ⟨hP, hD, hK⟩ := q_join (D := D) (wc := [(xo, .inr (6, [.ref xg, .int gc, .ref xp, .int pc, .ref xq, .int qc, .ref r1, .ref r2, .ref r3, .ref r4, .ref se, .int ts, .int hou, .int dr, .int su, .int br])), (xq, .inl (cq, 16, .inr (.inr (.inr (.inr (zq [none, none, none, none, none, none, none, none, none, none, none, none, none, none, none, none]))))))]) (wr := []) (w1 := [(xo, .inr (6, [.ref xg, .int gc, .ref xp, .int pc, .ref xq, .int qc, .ref r1, .ref r2, .ref r3, .ref r4, .ref se, .int ts, .int hou, .int dr, .int su, .int br])), (xq, .inl (cq, 16, .inr (.inr (.inr (.inr (zq [none, none, none, none, none, none, none, none, none, none, none, none, none, none, none, none]))))))]) (tyr := []) (ty1 := [(cq, .object "Gatherhouse$Piece")]) hP hD hK [0, 1] [] [] rfl rfl (by decide) (by decide) rfl hFc hk1 ht hvm hB
    have hP : va_P D vwCl [(xo, .inr (6, [.ref xg, .int gc, .ref xp, .int pc, .ref xq, .int qc, .ref r1, .ref r2, .ref r3, .ref r4, .ref se, .int ts, .int hou, .int dr, .int su, .int br])), (xq, .inl (cq, 16, .inr (.inr (.inr (.inr (zq [none, none, none, none, none, none, none, none, none, none, none, none, none, none, none, none]))))))] H := hP
    have hD : va_D A [(xo, .inr (6, [.ref xg, .int gc, .ref xp, .int pc, .ref xq, .int qc, .ref r1, .ref r2, .ref r3, .ref r4, .ref se, .int ts, .int hou, .int dr, .int su, .int br])), (xq, .inl (cq, 16, .inr (.inr (.inr (.inr (zq [none, none, none, none, none, none, none, none, none, none, none, none, none, none, none, none]))))))] := hD
    have hK : va_K D vwCl [(cq, .object "Gatherhouse$Piece")] s := hK
    have hBX : (E = "java/lang/IndexOutOfBoundsException") := hBX
    rcases hBX with rfl
    exact vx_out (fun x h => (hxt x h).elim) hlocks hce hcv hcl (fun t ht hW9 => ⟨(), trivial, ⟨rfl, q_RW_mk hP hK hD [0, 1] [0] rfl rfl (by decide) rfl ht hW9⟩, hS.F ht⟩) hS.2.2 (Nat.le_of_ble_eq_true rfl) (Nat.le_of_ble_eq_true rfl)
  · exact w_159.elim
theorem dX6_crack_0 : decode cX6_crack 0 = .ok (.aload_n 0, 1) := by decide +kernel
theorem dX6_crack_1 : decode cX6_crack 1 = .ok (.iload_n 1, 1) := by decide +kernel
theorem dX6_crack_2 : decode cX6_crack 2 = .ok (.invokevirtual 169, 3) := by decide +kernel
def wzEX6_crack_no : List Cond := [.code yX6_crack cX6_crack 3 (some .int), .methodLink RX6 169 yX6_findPiece, .instanceMethod yX6_findPiece, .selects RX6 yX6_findPiece yX6_findPiece, .initialized RX6, .code yX6_findPiece cX6_findPiece 3 (some (.object "Gatherhouse$Piece")), .fieldLink RX6 30 "Gatherhouse" "pieces" "[LGatherhouse$Piece;", .classLink RX6 365 "java/lang/IndexOutOfBoundsException", .initialized "java/lang/IndexOutOfBoundsException"]
def wzX6_crack_no : List Cond := wzEX6_crack_no ++ (u_ws RX6 TX6 16 ++ ((vx_atS RX6 369 "java/lang/IndexOutOfBoundsException" ["java/lang/RuntimeException", "java/lang/Exception"]).filter goodWord))
theorem zgEX6_crack_no : wzEX6_crack_no.all goodWord = true := by decide +kernel
theorem zuX6_crack_no_X6 : ∀ w ∈ u_ws RX6 TX6 16, w ∈ wzX6_crack_no := (fun _ h => (List.mem_append_right _ (List.mem_append_left _ h)))
theorem ztX6_crack_no_X6_369 : ∀ w ∈ (vx_atS RX6 369 "java/lang/IndexOutOfBoundsException" ["java/lang/RuntimeException", "java/lang/Exception"]).filter goodWord, w ∈ wzX6_crack_no := (fun _ h => (List.mem_append_right _ (List.mem_append_right _ h)))
theorem gzX6_crack_no_X6_findPiece_no_169 : GoodIn wzX6_crack_no (wsV RX6 169 RX6 yX6_findPiece wzX6_findPiece_no) := (goodIn_app (z_lift (goodIn_r _ [1, 2, 3, 4] rfl (by decide +kernel))) (goodIn_app (z_lift (goodIn_r wzEX6_findPiece_no [5, 6, 7, 8] rfl zgEX6_findPiece_no)) (goodIn_app (goodIn_sub (fun _ h => (List.mem_append_right _ (List.mem_append_left _ h))) zgU_X6) (goodIn_sub (fun _ h => (List.mem_append_right _ (List.mem_append_right _ h))) zgV_X6_369))))
set_option maxHeartbeats 4000000 in
set_option maxRecDepth 100000 in
theorem zc_X6_crack_no (l : Launch) (hnt : l.stackTraces = false) (D : va_G) (G : Nat × Nat × (Nat → Int32)) (xo : Nat) (xg : Nat) (gc : Int32) (xp : Nat) (pc : Int32) (xq : Nat) (qc : Int32) (r1 : Nat) (r2 : Nat) (r3 : Nat) (r4 : Nat) (se : Nat) (ts : Int32) (hou : Int32) (dr : Int32) (su : Int32) (br : Int32) (cq : ClassId) (sz : Nat) : vx_Met l yX6_crack wzX6_crack_no ({ frames := 7, cells := 1, slots := 6, locals := 104 }) (va_Pc [.ref xo, .int 0] (p_RW D G [(cq, .object "Gatherhouse$Piece")] [(xo, .inr (6, [.ref xg, .int gc, .ref xp, .int pc, .ref xq, .int qc, .ref r1, .ref r2, .ref r3, .ref r4, .ref se, .int ts, .int hou, .int dr, .int su, .int br])), (xq, .inl (cq, 16, .inr (.inr (.inr (.inr (zq [none, none, none, none, none, none, none, none, none, none, none, none, none, none, none, none]))))))] sz)) (va_Qi (fun (r : Int32) (u : Unit) => False) (fun (u : Unit) (t : State) => q_RW D [(cq, .object "Gatherhouse$Piece")] [(xo, .inr (6, [.ref xg, .int gc, .ref xp, .int pc, .ref xq, .int qc, .ref r1, .ref r2, .ref r3, .ref r4, .ref se, .int ts, .int hou, .int dr, .int su, .int br])), (xq, .inl (cq, 16, .inr (.inr (.inr (.inr (zq [none, none, none, none, none, none, none, none, none, none, none, none, none, none, none, none]))))))] (va_A [(xo, .inr (6, [.ref xg, .int gc, .ref xp, .int pc, .ref xq, .int qc, .ref r1, .ref r2, .ref r3, .ref r4, .ref se, .int ts, .int hou, .int dr, .int su, .int br])), (xq, .inl (cq, 16, .inr (.inr (.inr (.inr (zq [none, none, none, none, none, none, none, none, none, none, none, none, none, none, none, none]))))))] sz) t) (va_A [(xo, .inr (6, [.ref xg, .int gc, .ref xp, .int pc, .ref xq, .int qc, .ref r1, .ref r2, .ref r3, .ref r4, .ref se, .int ts, .int hou, .int dr, .int su, .int br])), (xq, .inl (cq, 16, .inr (.inr (.inr (.inr (zq [none, none, none, none, none, none, none, none, none, none, none, none, none, none, none, none]))))))] sz)) (vx_X (fun (_ : Unit) => True) (fun E (_ : Unit) (t : State) => ((E = "java/lang/IndexOutOfBoundsException")) ∧ q_RW D [(cq, .object "Gatherhouse$Piece")] [(xo, .inr (6, [.ref xg, .int gc, .ref xp, .int pc, .ref xq, .int qc, .ref r1, .ref r2, .ref r3, .ref r4, .ref se, .int ts, .int hou, .int dr, .int su, .int br])), (xq, .inl (cq, 16, .inr (.inr (.inr (.inr (zq [none, none, none, none, none, none, none, none, none, none, none, none, none, none, none, none]))))))] (va_A [(xo, .inr (6, [.ref xg, .int gc, .ref xp, .int pc, .ref xq, .int qc, .ref r1, .ref r2, .ref r3, .ref r4, .ref se, .int ts, .int hou, .int dr, .int su, .int br])), (xq, .inl (cq, 16, .inr (.inr (.inr (.inr (zq [none, none, none, none, none, none, none, none, none, none, none, none, none, none, none, none]))))))] sz) t) (va_A [(xo, .inr (6, [.ref xg, .int gc, .ref xp, .int pc, .ref xq, .int qc, .ref r1, .ref r2, .ref r3, .ref r4, .ref se, .int ts, .int hou, .int dr, .int su, .int br])), (xq, .inl (cq, 16, .inr (.inr (.inr (.inr (zq [none, none, none, none, none, none, none, none, none, none, none, none, none, none, none, none]))))))] sz)) 1 6 (va_A [(xo, .inr (6, [.ref xg, .int gc, .ref xp, .int pc, .ref xq, .int qc, .ref r1, .ref r2, .ref r3, .ref r4, .ref se, .int ts, .int hou, .int dr, .int su, .int br])), (xq, .inl (cq, 16, .inr (.inr (.inr (.inr (zq [none, none, none, none, none, none, none, none, none, none, none, none, none, none, none, none]))))))] sz) := by
  refine vx_ofW (cc := cX6_crack) (maxL := 3) (ret := (some .int)) (by decide) rfl ?_
  intro p e s m args below meth c s₁ B hml hxt hv
  obtain ⟨rfl, hsz, hP, hK, hD0, hT, hZ⟩ := hv
  have hx := B.exec
  have hb := B.bytes
  have hr := B.returns
  have hts := atoms_spec (ws := wzX6_crack_no) B.pre
  have hown : s.vm.findClass RX6 = some m.cls := findClass_of_methodNamed B.named
  have hlocks := B.notSynchronized
  subst hsz
  have hD := hD0.self (sz := s.heap.size)
  generalize hAe : va_A [(xo, .inr (6, [.ref xg, .int gc, .ref xp, .int pc, .ref xq, .int qc, .ref r1, .ref r2, .ref r3, .ref r4, .ref se, .int ts, .int hou, .int dr, .int su, .int br])), (xq, .inl (cq, 16, .inr (.inr (.inr (.inr (zq [none, none, none, none, none, none, none, none, none, none, none, none, none, none, none, none]))))))] s.heap.size = A at hD hZ ⊢
  have hA : ∀ q : Nat, s.heap.size ≤ q → A q := fun q h => by rw [← hAe]; exact Or.inr h
  have hS : va_S A s.heap s.heap [] := va_S.rf
  have hl := lv_entry ([.ref xo, .int 0]) (n := 3) (Nat.le_of_ble_eq_true rfl)
  rw [lg_entry_eq]
  generalize (lg_sl ([.ref xo, .int 0]) ++ List.replicate (3 - (lg_sl ([.ref xo, .int 0])).length) Slot.unset).toArray = ls at hl ⊢
  have hl : lv_has ls 3 [(0, .ref xo), (1, .int 0)] := hl
  refine lv_aload_n hx hb dX6_crack_0 rfl (lv_at hl 0 rfl) ?_
  refine lv_iload_n hx hb dX6_crack_1 rfl (lv_at hl 1 rfl) ?_
  have hFc := va_free (wc := [(xo, .inr (6, [.ref xg, .int gc, .ref xp, .int pc, .ref xq, .int qc, .ref r1, .ref r2, .ref r3, .ref r4, .ref se, .int ts, .int hou, .int dr, .int su, .int br])), (xq, .inl (cq, 16, .inr (.inr (.inr (.inr (zq [none, none, none, none, none, none, none, none, none, none, none, none, none, none, none, none]))))))]) hD hS hA [0, 1] rfl
  refine vx_callq (vx_runV (As := [.int 0]) (rest := []) ⟨hx, hb, hml, hown, hts⟩ (zc_X6_findPiece_no l hnt D G xo 0 xg gc xp pc xq qc r1 r2 r3 r4 se ts hou dr su br cq (zq [none, none, none, none, none, none, none, none, none, none, none, none, none, none, none, none]) s.heap.size (by first | assumption | rfl | omega | exact Nat.le_trans (zS_le _ _ _) (by omega) | decide) (by first | assumption | rfl | omega | exact Nat.le_trans (zS_le _ _ _) (by omega) | decide)) (cwV 1 hts gzX6_crack_no_X6_findPiece_no_169 rfl rfl rfl (by decide +kernel) ⟨(Nat.le_of_ble_eq_true rfl), (Nat.le_of_ble_eq_true rfl)⟩) ⟨p_RW_blind, va_recv hK hP (ci := 6) (q0 := 0) rfl rfl, (p_RW_at (tc := [(cq, .object "Gatherhouse$Piece")]) (wc := [(xo, .inr (6, [.ref xg, .int gc, .ref xp, .int pc, .ref xq, .int qc, .ref r1, .ref r2, .ref r3, .ref r4, .ref se, .int ts, .int hou, .int dr, .int su, .int br])), (xq, .inl (cq, 16, .inr (.inr (.inr (.inr (zq [none, none, none, none, none, none, none, none, none, none, none, none, none, none, none, none]))))))]) hP hK hD hS hA hT hZ [0, 1] [0] rfl rfl (by decide) rfl [.ref xo, .int 0])⟩ rfl rfl hl.1 rfl (lv_room (Nat.le_of_ble_eq_true rfl)) dX6_crack_2 ⟨(Nat.le_of_ble_eq_true rfl), (Nat.le_of_ble_eq_true rfl)⟩) hS (fun q _ h => hFc q h) hFc (fun q _ h => hFc q h) (fun E ce q9 u t H locs ht hvm hpx hBX hz1 hk1 hS hce hcv hcl => ?_) (fun r_160 u t H locs ht hvm w_161 hB hz1 hk1 hS => ?_)
  · obtain ⟨hBX, hB⟩ := hBX
    obtain ⟨hP, hD, hK⟩ := q_join (D := D) (wc := [(xo, .inr (6, [.ref xg, .int gc, .ref xp, .int pc, .ref xq, .int qc, .ref r1, .ref r2, .ref r3, .ref r4, .ref se, .int ts, .int hou, .int dr, .int su, .int br])), (xq, .inl (cq, 16, .inr (.inr (.inr (.inr (zq [none, none, none, none, none, none, none, none, none, none, none, none, none, none, none, none]))))))]) (wr := []) (w1 := [(xo, .inr (6, [.ref xg, .int gc, .ref xp, .int pc, .ref xq, .int qc, .ref r1, .ref r2, .ref r3, .ref r4, .ref se, .int ts, .int hou, .int dr, .int su, .int br])), (xq, .inl (cq, 16, .inr (.inr (.inr (.inr (zq [none, none, none, none, none, none, none, none, none, none, none, none, none, none, none, none]))))))]) (tyr := []) (ty1 := [(cq, .object "Gatherhouse$Piece")]) hP hD hK [0, 1] [] [] rfl rfl (by decide) (by decide) rfl hFc hk1 ht hvm hB
    have hP : va_P D vwCl [(xo, .inr (6, [.ref xg, .int gc, .ref xp, .int pc, .ref xq, .int qc, .ref r1, .ref r2, .ref r3, .ref r4, .ref se, .int ts, .int hou, .int dr, .int su, .int br])), (xq, .inl (cq, 16, .inr (.inr (.inr (.inr (zq [none, none, none, none, none, none, none, none, none, none, none, none, none, none, none, none]))))))] H := hP
    have hD : va_D A [(xo, .inr (6, [.ref xg, .int gc, .ref xp, .int pc, .ref xq, .int qc, .ref r1, .ref r2, .ref r3, .ref r4, .ref se, .int ts, .int hou, .int dr, .int su, .int br])), (xq, .inl (cq, 16, .inr (.inr (.inr (.inr (zq [none, none, none, none, none, none, none, none, none, none, none, none, none, none, none, none]))))))] := hD
    have hK : va_K D vwCl [(cq, .object "Gatherhouse$Piece")] s := hK
    have hBX : (E = "java/lang/IndexOutOfBoundsException") := hBX
    rcases hBX with rfl
    exact vx_out (fun x h => (hxt x h).elim) hlocks hce hcv hcl (fun t ht hW9 => ⟨(), trivial, ⟨rfl, q_RW_mk hP hK hD [0, 1] [0] rfl rfl (by decide) rfl ht hW9⟩, hS.F ht⟩) hS.2.2 (Nat.le_of_ble_eq_true rfl) (Nat.le_of_ble_eq_true rfl)
  · exact w_161.elim
theorem dX6_state_0 : decode cX6_state 0 = .ok (.aload_n 0, 1) := by decide +kernel
theorem dX6_state_1 : decode cX6_state 1 = .ok (.iload_n 1, 1) := by decide +kernel
theorem dX6_state_2 : decode cX6_state 2 = .ok (.invokevirtual 169, 3) := by decide +kernel
def wzEX6_state_no : List Cond := [.code yX6_state cX6_state 2 (some .char), .methodLink RX6 169 yX6_findPiece, .instanceMethod yX6_findPiece, .selects RX6 yX6_findPiece yX6_findPiece, .initialized RX6, .code yX6_findPiece cX6_findPiece 3 (some (.object "Gatherhouse$Piece")), .fieldLink RX6 30 "Gatherhouse" "pieces" "[LGatherhouse$Piece;", .classLink RX6 365 "java/lang/IndexOutOfBoundsException", .initialized "java/lang/IndexOutOfBoundsException"]
def wzX6_state_no : List Cond := wzEX6_state_no ++ (u_ws RX6 TX6 16 ++ ((vx_atS RX6 369 "java/lang/IndexOutOfBoundsException" ["java/lang/RuntimeException", "java/lang/Exception"]).filter goodWord))
theorem zgEX6_state_no : wzEX6_state_no.all goodWord = true := by decide +kernel
theorem zuX6_state_no_X6 : ∀ w ∈ u_ws RX6 TX6 16, w ∈ wzX6_state_no := (fun _ h => (List.mem_append_right _ (List.mem_append_left _ h)))
theorem ztX6_state_no_X6_369 : ∀ w ∈ (vx_atS RX6 369 "java/lang/IndexOutOfBoundsException" ["java/lang/RuntimeException", "java/lang/Exception"]).filter goodWord, w ∈ wzX6_state_no := (fun _ h => (List.mem_append_right _ (List.mem_append_right _ h)))
theorem gzX6_state_no_X6_findPiece_no_169 : GoodIn wzX6_state_no (wsV RX6 169 RX6 yX6_findPiece wzX6_findPiece_no) := (goodIn_app (z_lift (goodIn_r _ [1, 2, 3, 4] rfl (by decide +kernel))) (goodIn_app (z_lift (goodIn_r wzEX6_findPiece_no [5, 6, 7, 8] rfl zgEX6_findPiece_no)) (goodIn_app (goodIn_sub (fun _ h => (List.mem_append_right _ (List.mem_append_left _ h))) zgU_X6) (goodIn_sub (fun _ h => (List.mem_append_right _ (List.mem_append_right _ h))) zgV_X6_369))))
set_option maxHeartbeats 4000000 in
set_option maxRecDepth 100000 in
theorem zc_X6_state_no (l : Launch) (hnt : l.stackTraces = false) (D : va_G) (G : Nat × Nat × (Nat → Int32)) (xo : Nat) (xg : Nat) (gc : Int32) (xp : Nat) (pc : Int32) (xq : Nat) (qc : Int32) (r1 : Nat) (r2 : Nat) (r3 : Nat) (r4 : Nat) (se : Nat) (ts : Int32) (hou : Int32) (dr : Int32) (su : Int32) (br : Int32) (cq : ClassId) (sz : Nat) : vx_Met l yX6_state wzX6_state_no ({ frames := 7, cells := 1, slots := 6, locals := 104 }) (va_Pc [.ref xo, .int 0] (p_RW D G [(cq, .object "Gatherhouse$Piece")] [(xo, .inr (6, [.ref xg, .int gc, .ref xp, .int pc, .ref xq, .int qc, .ref r1, .ref r2, .ref r3, .ref r4, .ref se, .int ts, .int hou, .int dr, .int su, .int br])), (xq, .inl (cq, 16, .inr (.inr (.inr (.inr (zq [none, none, none, none, none, none, none, none, none, none, none, none, none, none, none, none]))))))] sz)) (va_Qi (fun (r : Int32) (u : Unit) => False) (fun (u : Unit) (t : State) => q_RW D [(cq, .object "Gatherhouse$Piece")] [(xo, .inr (6, [.ref xg, .int gc, .ref xp, .int pc, .ref xq, .int qc, .ref r1, .ref r2, .ref r3, .ref r4, .ref se, .int ts, .int hou, .int dr, .int su, .int br])), (xq, .inl (cq, 16, .inr (.inr (.inr (.inr (zq [none, none, none, none, none, none, none, none, none, none, none, none, none, none, none, none]))))))] (va_A [(xo, .inr (6, [.ref xg, .int gc, .ref xp, .int pc, .ref xq, .int qc, .ref r1, .ref r2, .ref r3, .ref r4, .ref se, .int ts, .int hou, .int dr, .int su, .int br])), (xq, .inl (cq, 16, .inr (.inr (.inr (.inr (zq [none, none, none, none, none, none, none, none, none, none, none, none, none, none, none, none]))))))] sz) t) (va_A [(xo, .inr (6, [.ref xg, .int gc, .ref xp, .int pc, .ref xq, .int qc, .ref r1, .ref r2, .ref r3, .ref r4, .ref se, .int ts, .int hou, .int dr, .int su, .int br])), (xq, .inl (cq, 16, .inr (.inr (.inr (.inr (zq [none, none, none, none, none, none, none, none, none, none, none, none, none, none, none, none]))))))] sz)) (vx_X (fun (_ : Unit) => True) (fun E (_ : Unit) (t : State) => ((E = "java/lang/IndexOutOfBoundsException")) ∧ q_RW D [(cq, .object "Gatherhouse$Piece")] [(xo, .inr (6, [.ref xg, .int gc, .ref xp, .int pc, .ref xq, .int qc, .ref r1, .ref r2, .ref r3, .ref r4, .ref se, .int ts, .int hou, .int dr, .int su, .int br])), (xq, .inl (cq, 16, .inr (.inr (.inr (.inr (zq [none, none, none, none, none, none, none, none, none, none, none, none, none, none, none, none]))))))] (va_A [(xo, .inr (6, [.ref xg, .int gc, .ref xp, .int pc, .ref xq, .int qc, .ref r1, .ref r2, .ref r3, .ref r4, .ref se, .int ts, .int hou, .int dr, .int su, .int br])), (xq, .inl (cq, 16, .inr (.inr (.inr (.inr (zq [none, none, none, none, none, none, none, none, none, none, none, none, none, none, none, none]))))))] sz) t) (va_A [(xo, .inr (6, [.ref xg, .int gc, .ref xp, .int pc, .ref xq, .int qc, .ref r1, .ref r2, .ref r3, .ref r4, .ref se, .int ts, .int hou, .int dr, .int su, .int br])), (xq, .inl (cq, 16, .inr (.inr (.inr (.inr (zq [none, none, none, none, none, none, none, none, none, none, none, none, none, none, none, none]))))))] sz)) 1 6 (va_A [(xo, .inr (6, [.ref xg, .int gc, .ref xp, .int pc, .ref xq, .int qc, .ref r1, .ref r2, .ref r3, .ref r4, .ref se, .int ts, .int hou, .int dr, .int su, .int br])), (xq, .inl (cq, 16, .inr (.inr (.inr (.inr (zq [none, none, none, none, none, none, none, none, none, none, none, none, none, none, none, none]))))))] sz) := by
  refine vx_ofW (cc := cX6_state) (maxL := 2) (ret := (some .char)) (by decide) rfl ?_
  intro p e s m args below meth c s₁ B hml hxt hv
  obtain ⟨rfl, hsz, hP, hK, hD0, hT, hZ⟩ := hv
  have hx := B.exec
  have hb := B.bytes
  have hr := B.returns
  have hts := atoms_spec (ws := wzX6_state_no) B.pre
  have hown : s.vm.findClass RX6 = some m.cls := findClass_of_methodNamed B.named
  have hlocks := B.notSynchronized
  subst hsz
  have hD := hD0.self (sz := s.heap.size)
  generalize hAe : va_A [(xo, .inr (6, [.ref xg, .int gc, .ref xp, .int pc, .ref xq, .int qc, .ref r1, .ref r2, .ref r3, .ref r4, .ref se, .int ts, .int hou, .int dr, .int su, .int br])), (xq, .inl (cq, 16, .inr (.inr (.inr (.inr (zq [none, none, none, none, none, none, none, none, none, none, none, none, none, none, none, none]))))))] s.heap.size = A at hD hZ ⊢
  have hA : ∀ q : Nat, s.heap.size ≤ q → A q := fun q h => by rw [← hAe]; exact Or.inr h
  have hS : va_S A s.heap s.heap [] := va_S.rf
  have hl := lv_entry ([.ref xo, .int 0]) (n := 2) (Nat.le_of_ble_eq_true rfl)
  rw [lg_entry_eq]
  generalize (lg_sl ([.ref xo, .int 0]) ++ List.replicate (2 - (lg_sl ([.ref xo, .int 0])).length) Slot.unset).toArray = ls at hl ⊢
  have hl : lv_has ls 2 [(0, .ref xo), (1, .int 0)] := hl
  refine lv_aload_n hx hb dX6_state_0 rfl (lv_at hl 0 rfl) ?_
  refine lv_iload_n hx hb dX6_state_1 rfl (lv_at hl 1 rfl) ?_
  have hFc := va_free (wc := [(xo, .inr (6, [.ref xg, .int gc, .ref xp, .int pc, .ref xq, .int qc, .ref r1, .ref r2, .ref r3, .ref r4, .ref se, .int ts, .int hou, .int dr, .int su, .int br])), (xq, .inl (cq, 16, .inr (.inr (.inr (.inr (zq [none, none, none, none, none, none, none, none, none, none, none, none, none, none, none, none]))))))]) hD hS hA [0, 1] rfl
  refine vx_callq (vx_runV (As := [.int 0]) (rest := []) ⟨hx, hb, hml, hown, hts⟩ (zc_X6_findPiece_no l hnt D G xo 0 xg gc xp pc xq qc r1 r2 r3 r4 se ts hou dr su br cq (zq [none, none, none, none, none, none, none, none, none, none, none, none, none, none, none, none]) s.heap.size (by first | assumption | rfl | omega | exact Nat.le_trans (zS_le _ _ _) (by omega) | decide) (by first | assumption | rfl | omega | exact Nat.le_trans (zS_le _ _ _) (by omega) | decide)) (cwV 1 hts gzX6_state_no_X6_findPiece_no_169 rfl rfl rfl (by decide +kernel) ⟨(Nat.le_of_ble_eq_true rfl), (Nat.le_of_ble_eq_true rfl)⟩) ⟨p_RW_blind, va_recv hK hP (ci := 6) (q0 := 0) rfl rfl, (p_RW_at (tc := [(cq, .object "Gatherhouse$Piece")]) (wc := [(xo, .inr (6, [.ref xg, .int gc, .ref xp, .int pc, .ref xq, .int qc, .ref r1, .ref r2, .ref r3, .ref r4, .ref se, .int ts, .int hou, .int dr, .int su, .int br])), (xq, .inl (cq, 16, .inr (.inr (.inr (.inr (zq [none, none, none, none, none, none, none, none, none, none, none, none, none, none, none, none]))))))]) hP hK hD hS hA hT hZ [0, 1] [0] rfl rfl (by decide) rfl [.ref xo, .int 0])⟩ rfl rfl hl.1 rfl (lv_room (Nat.le_of_ble_eq_true rfl)) dX6_state_2 ⟨(Nat.le_of_ble_eq_true rfl), (Nat.le_of_ble_eq_true rfl)⟩) hS (fun q _ h => hFc q h) hFc (fun q _ h => hFc q h) (fun E ce q9 u t H locs ht hvm hpx hBX hz1 hk1 hS hce hcv hcl => ?_) (fun r_162 u t H locs ht hvm w_163 hB hz1 hk1 hS => ?_)
  · obtain ⟨hBX, hB⟩ := hBX
    obtain ⟨hP, hD, hK⟩ := q_join (D := D) (wc := [(xo, .inr (6, [.ref xg, .int gc, .ref xp, .int pc, .ref xq, .int qc, .ref r1, .ref r2, .ref r3, .ref r4, .ref se, .int ts, .int hou, .int dr, .int su, .int br])), (xq, .inl (cq, 16, .inr (.inr (.inr (.inr (zq [none, none, none, none, none, none, none, none, none, none, none, none, none, none, none, none]))))))]) (wr := []) (w1 := [(xo, .inr (6, [.ref xg, .int gc, .ref xp, .int pc, .ref xq, .int qc, .ref r1, .ref r2, .ref r3, .ref r4, .ref se, .int ts, .int hou, .int dr, .int su, .int br])), (xq, .inl (cq, 16, .inr (.inr (.inr (.inr (zq [none, none, none, none, none, none, none, none, none, none, none, none, none, none, none, none]))))))]) (tyr := []) (ty1 := [(cq, .object "Gatherhouse$Piece")]) hP hD hK [0, 1] [] [] rfl rfl (by decide) (by decide) rfl hFc hk1 ht hvm hB
    have hP : va_P D vwCl [(xo, .inr (6, [.ref xg, .int gc, .ref xp, .int pc, .ref xq, .int qc, .ref r1, .ref r2, .ref r3, .ref r4, .ref se, .int ts, .int hou, .int dr, .int su, .int br])), (xq, .inl (cq, 16, .inr (.inr (.inr (.inr (zq [none, none, none, none, none, none, none, none, none, none, none, none, none, none, none, none]))))))] H := hP
    have hD : va_D A [(xo, .inr (6, [.ref xg, .int gc, .ref xp, .int pc, .ref xq, .int qc, .ref r1, .ref r2, .ref r3, .ref r4, .ref se, .int ts, .int hou, .int dr, .int su, .int br])), (xq, .inl (cq, 16, .inr (.inr (.inr (.inr (zq [none, none, none, none, none, none, none, none, none, none, none, none, none, none, none, none]))))))] := hD
    have hK : va_K D vwCl [(cq, .object "Gatherhouse$Piece")] s := hK
    have hBX : (E = "java/lang/IndexOutOfBoundsException") := hBX
    rcases hBX with rfl
    exact vx_out (fun x h => (hxt x h).elim) hlocks hce hcv hcl (fun t ht hW9 => ⟨(), trivial, ⟨rfl, q_RW_mk hP hK hD [0, 1] [0] rfl rfl (by decide) rfl ht hW9⟩, hS.F ht⟩) hS.2.2 (Nat.le_of_ble_eq_true rfl) (Nat.le_of_ble_eq_true rfl)
  · exact w_163.elim
theorem dX6_heatOf_0 : decode cX6_heatOf 0 = .ok (.aload_n 0, 1) := by decide +kernel
theorem dX6_heatOf_1 : decode cX6_heatOf 1 = .ok (.iload_n 1, 1) := by decide +kernel
theorem dX6_heatOf_2 : decode cX6_heatOf 2 = .ok (.invokevirtual 169, 3) := by decide +kernel
def wzEX6_heatOf_no : List Cond := [.code yX6_heatOf cX6_heatOf 3 (some .int), .methodLink RX6 169 yX6_findPiece, .instanceMethod yX6_findPiece, .selects RX6 yX6_findPiece yX6_findPiece, .initialized RX6, .code yX6_findPiece cX6_findPiece 3 (some (.object "Gatherhouse$Piece")), .fieldLink RX6 30 "Gatherhouse" "pieces" "[LGatherhouse$Piece;", .classLink RX6 365 "java/lang/IndexOutOfBoundsException", .initialized "java/lang/IndexOutOfBoundsException"]
def wzX6_heatOf_no : List Cond := wzEX6_heatOf_no ++ (u_ws RX6 TX6 16 ++ ((vx_atS RX6 369 "java/lang/IndexOutOfBoundsException" ["java/lang/RuntimeException", "java/lang/Exception"]).filter goodWord))
theorem zgEX6_heatOf_no : wzEX6_heatOf_no.all goodWord = true := by decide +kernel
theorem zuX6_heatOf_no_X6 : ∀ w ∈ u_ws RX6 TX6 16, w ∈ wzX6_heatOf_no := (fun _ h => (List.mem_append_right _ (List.mem_append_left _ h)))
theorem ztX6_heatOf_no_X6_369 : ∀ w ∈ (vx_atS RX6 369 "java/lang/IndexOutOfBoundsException" ["java/lang/RuntimeException", "java/lang/Exception"]).filter goodWord, w ∈ wzX6_heatOf_no := (fun _ h => (List.mem_append_right _ (List.mem_append_right _ h)))
theorem gzX6_heatOf_no_X6_findPiece_no_169 : GoodIn wzX6_heatOf_no (wsV RX6 169 RX6 yX6_findPiece wzX6_findPiece_no) := (goodIn_app (z_lift (goodIn_r _ [1, 2, 3, 4] rfl (by decide +kernel))) (goodIn_app (z_lift (goodIn_r wzEX6_findPiece_no [5, 6, 7, 8] rfl zgEX6_findPiece_no)) (goodIn_app (goodIn_sub (fun _ h => (List.mem_append_right _ (List.mem_append_left _ h))) zgU_X6) (goodIn_sub (fun _ h => (List.mem_append_right _ (List.mem_append_right _ h))) zgV_X6_369))))
set_option maxHeartbeats 4000000 in
set_option maxRecDepth 100000 in
theorem zc_X6_heatOf_no (l : Launch) (hnt : l.stackTraces = false) (D : va_G) (G : Nat × Nat × (Nat → Int32)) (xo : Nat) (xg : Nat) (gc : Int32) (xp : Nat) (pc : Int32) (xq : Nat) (qc : Int32) (r1 : Nat) (r2 : Nat) (r3 : Nat) (r4 : Nat) (se : Nat) (ts : Int32) (hou : Int32) (dr : Int32) (su : Int32) (br : Int32) (cq : ClassId) (sz : Nat) : vx_Met l yX6_heatOf wzX6_heatOf_no ({ frames := 7, cells := 1, slots := 6, locals := 104 }) (va_Pc [.ref xo, .int 0] (p_RW D G [(cq, .object "Gatherhouse$Piece")] [(xo, .inr (6, [.ref xg, .int gc, .ref xp, .int pc, .ref xq, .int qc, .ref r1, .ref r2, .ref r3, .ref r4, .ref se, .int ts, .int hou, .int dr, .int su, .int br])), (xq, .inl (cq, 16, .inr (.inr (.inr (.inr (zq [none, none, none, none, none, none, none, none, none, none, none, none, none, none, none, none]))))))] sz)) (va_Qi (fun (r : Int32) (u : Unit) => False) (fun (u : Unit) (t : State) => q_RW D [(cq, .object "Gatherhouse$Piece")] [(xo, .inr (6, [.ref xg, .int gc, .ref xp, .int pc, .ref xq, .int qc, .ref r1, .ref r2, .ref r3, .ref r4, .ref se, .int ts, .int hou, .int dr, .int su, .int br])), (xq, .inl (cq, 16, .inr (.inr (.inr (.inr (zq [none, none, none, none, none, none, none, none, none, none, none, none, none, none, none, none]))))))] (va_A [(xo, .inr (6, [.ref xg, .int gc, .ref xp, .int pc, .ref xq, .int qc, .ref r1, .ref r2, .ref r3, .ref r4, .ref se, .int ts, .int hou, .int dr, .int su, .int br])), (xq, .inl (cq, 16, .inr (.inr (.inr (.inr (zq [none, none, none, none, none, none, none, none, none, none, none, none, none, none, none, none]))))))] sz) t) (va_A [(xo, .inr (6, [.ref xg, .int gc, .ref xp, .int pc, .ref xq, .int qc, .ref r1, .ref r2, .ref r3, .ref r4, .ref se, .int ts, .int hou, .int dr, .int su, .int br])), (xq, .inl (cq, 16, .inr (.inr (.inr (.inr (zq [none, none, none, none, none, none, none, none, none, none, none, none, none, none, none, none]))))))] sz)) (vx_X (fun (_ : Unit) => True) (fun E (_ : Unit) (t : State) => ((E = "java/lang/IndexOutOfBoundsException")) ∧ q_RW D [(cq, .object "Gatherhouse$Piece")] [(xo, .inr (6, [.ref xg, .int gc, .ref xp, .int pc, .ref xq, .int qc, .ref r1, .ref r2, .ref r3, .ref r4, .ref se, .int ts, .int hou, .int dr, .int su, .int br])), (xq, .inl (cq, 16, .inr (.inr (.inr (.inr (zq [none, none, none, none, none, none, none, none, none, none, none, none, none, none, none, none]))))))] (va_A [(xo, .inr (6, [.ref xg, .int gc, .ref xp, .int pc, .ref xq, .int qc, .ref r1, .ref r2, .ref r3, .ref r4, .ref se, .int ts, .int hou, .int dr, .int su, .int br])), (xq, .inl (cq, 16, .inr (.inr (.inr (.inr (zq [none, none, none, none, none, none, none, none, none, none, none, none, none, none, none, none]))))))] sz) t) (va_A [(xo, .inr (6, [.ref xg, .int gc, .ref xp, .int pc, .ref xq, .int qc, .ref r1, .ref r2, .ref r3, .ref r4, .ref se, .int ts, .int hou, .int dr, .int su, .int br])), (xq, .inl (cq, 16, .inr (.inr (.inr (.inr (zq [none, none, none, none, none, none, none, none, none, none, none, none, none, none, none, none]))))))] sz)) 1 6 (va_A [(xo, .inr (6, [.ref xg, .int gc, .ref xp, .int pc, .ref xq, .int qc, .ref r1, .ref r2, .ref r3, .ref r4, .ref se, .int ts, .int hou, .int dr, .int su, .int br])), (xq, .inl (cq, 16, .inr (.inr (.inr (.inr (zq [none, none, none, none, none, none, none, none, none, none, none, none, none, none, none, none]))))))] sz) := by
  refine vx_ofW (cc := cX6_heatOf) (maxL := 3) (ret := (some .int)) (by decide) rfl ?_
  intro p e s m args below meth c s₁ B hml hxt hv
  obtain ⟨rfl, hsz, hP, hK, hD0, hT, hZ⟩ := hv
  have hx := B.exec
  have hb := B.bytes
  have hr := B.returns
  have hts := atoms_spec (ws := wzX6_heatOf_no) B.pre
  have hown : s.vm.findClass RX6 = some m.cls := findClass_of_methodNamed B.named
  have hlocks := B.notSynchronized
  subst hsz
  have hD := hD0.self (sz := s.heap.size)
  generalize hAe : va_A [(xo, .inr (6, [.ref xg, .int gc, .ref xp, .int pc, .ref xq, .int qc, .ref r1, .ref r2, .ref r3, .ref r4, .ref se, .int ts, .int hou, .int dr, .int su, .int br])), (xq, .inl (cq, 16, .inr (.inr (.inr (.inr (zq [none, none, none, none, none, none, none, none, none, none, none, none, none, none, none, none]))))))] s.heap.size = A at hD hZ ⊢
  have hA : ∀ q : Nat, s.heap.size ≤ q → A q := fun q h => by rw [← hAe]; exact Or.inr h
  have hS : va_S A s.heap s.heap [] := va_S.rf
  have hl := lv_entry ([.ref xo, .int 0]) (n := 3) (Nat.le_of_ble_eq_true rfl)
  rw [lg_entry_eq]
  generalize (lg_sl ([.ref xo, .int 0]) ++ List.replicate (3 - (lg_sl ([.ref xo, .int 0])).length) Slot.unset).toArray = ls at hl ⊢
  have hl : lv_has ls 3 [(0, .ref xo), (1, .int 0)] := hl
  refine lv_aload_n hx hb dX6_heatOf_0 rfl (lv_at hl 0 rfl) ?_
  refine lv_iload_n hx hb dX6_heatOf_1 rfl (lv_at hl 1 rfl) ?_
  have hFc := va_free (wc := [(xo, .inr (6, [.ref xg, .int gc, .ref xp, .int pc, .ref xq, .int qc, .ref r1, .ref r2, .ref r3, .ref r4, .ref se, .int ts, .int hou, .int dr, .int su, .int br])), (xq, .inl (cq, 16, .inr (.inr (.inr (.inr (zq [none, none, none, none, none, none, none, none, none, none, none, none, none, none, none, none]))))))]) hD hS hA [0, 1] rfl
  refine vx_callq (vx_runV (As := [.int 0]) (rest := []) ⟨hx, hb, hml, hown, hts⟩ (zc_X6_findPiece_no l hnt D G xo 0 xg gc xp pc xq qc r1 r2 r3 r4 se ts hou dr su br cq (zq [none, none, none, none, none, none, none, none, none, none, none, none, none, none, none, none]) s.heap.size (by first | assumption | rfl | omega | exact Nat.le_trans (zS_le _ _ _) (by omega) | decide) (by first | assumption | rfl | omega | exact Nat.le_trans (zS_le _ _ _) (by omega) | decide)) (cwV 1 hts gzX6_heatOf_no_X6_findPiece_no_169 rfl rfl rfl (by decide +kernel) ⟨(Nat.le_of_ble_eq_true rfl), (Nat.le_of_ble_eq_true rfl)⟩) ⟨p_RW_blind, va_recv hK hP (ci := 6) (q0 := 0) rfl rfl, (p_RW_at (tc := [(cq, .object "Gatherhouse$Piece")]) (wc := [(xo, .inr (6, [.ref xg, .int gc, .ref xp, .int pc, .ref xq, .int qc, .ref r1, .ref r2, .ref r3, .ref r4, .ref se, .int ts, .int hou, .int dr, .int su, .int br])), (xq, .inl (cq, 16, .inr (.inr (.inr (.inr (zq [none, none, none, none, none, none, none, none, none, none, none, none, none, none, none, none]))))))]) hP hK hD hS hA hT hZ [0, 1] [0] rfl rfl (by decide) rfl [.ref xo, .int 0])⟩ rfl rfl hl.1 rfl (lv_room (Nat.le_of_ble_eq_true rfl)) dX6_heatOf_2 ⟨(Nat.le_of_ble_eq_true rfl), (Nat.le_of_ble_eq_true rfl)⟩) hS (fun q _ h => hFc q h) hFc (fun q _ h => hFc q h) (fun E ce q9 u t H locs ht hvm hpx hBX hz1 hk1 hS hce hcv hcl => ?_) (fun r_164 u t H locs ht hvm w_165 hB hz1 hk1 hS => ?_)
  · obtain ⟨hBX, hB⟩ := hBX
    obtain ⟨hP, hD, hK⟩ := q_join (D := D) (wc := [(xo, .inr (6, [.ref xg, .int gc, .ref xp, .int pc, .ref xq, .int qc, .ref r1, .ref r2, .ref r3, .ref r4, .ref se, .int ts, .int hou, .int dr, .int su, .int br])), (xq, .inl (cq, 16, .inr (.inr (.inr (.inr (zq [none, none, none, none, none, none, none, none, none, none, none, none, none, none, none, none]))))))]) (wr := []) (w1 := [(xo, .inr (6, [.ref xg, .int gc, .ref xp, .int pc, .ref xq, .int qc, .ref r1, .ref r2, .ref r3, .ref r4, .ref se, .int ts, .int hou, .int dr, .int su, .int br])), (xq, .inl (cq, 16, .inr (.inr (.inr (.inr (zq [none, none, none, none, none, none, none, none, none, none, none, none, none, none, none, none]))))))]) (tyr := []) (ty1 := [(cq, .object "Gatherhouse$Piece")]) hP hD hK [0, 1] [] [] rfl rfl (by decide) (by decide) rfl hFc hk1 ht hvm hB
    have hP : va_P D vwCl [(xo, .inr (6, [.ref xg, .int gc, .ref xp, .int pc, .ref xq, .int qc, .ref r1, .ref r2, .ref r3, .ref r4, .ref se, .int ts, .int hou, .int dr, .int su, .int br])), (xq, .inl (cq, 16, .inr (.inr (.inr (.inr (zq [none, none, none, none, none, none, none, none, none, none, none, none, none, none, none, none]))))))] H := hP
    have hD : va_D A [(xo, .inr (6, [.ref xg, .int gc, .ref xp, .int pc, .ref xq, .int qc, .ref r1, .ref r2, .ref r3, .ref r4, .ref se, .int ts, .int hou, .int dr, .int su, .int br])), (xq, .inl (cq, 16, .inr (.inr (.inr (.inr (zq [none, none, none, none, none, none, none, none, none, none, none, none, none, none, none, none]))))))] := hD
    have hK : va_K D vwCl [(cq, .object "Gatherhouse$Piece")] s := hK
    have hBX : (E = "java/lang/IndexOutOfBoundsException") := hBX
    rcases hBX with rfl
    exact vx_out (fun x h => (hxt x h).elim) hlocks hce hcv hcl (fun t ht hW9 => ⟨(), trivial, ⟨rfl, q_RW_mk hP hK hD [0, 1] [0] rfl rfl (by decide) rfl ht hW9⟩, hS.F ht⟩) hS.2.2 (Nat.le_of_ble_eq_true rfl) (Nat.le_of_ble_eq_true rfl)
  · exact w_165.elim
theorem dX6_rings_0 : decode cX6_rings 0 = .ok (.aload_n 0, 1) := by decide +kernel
theorem dX6_rings_1 : decode cX6_rings 1 = .ok (.iload_n 1, 1) := by decide +kernel
theorem dX6_rings_2 : decode cX6_rings 2 = .ok (.invokevirtual 169, 3) := by decide +kernel
def wzEX6_rings_no : List Cond := [.code yX6_rings cX6_rings 2 (some .int), .methodLink RX6 169 yX6_findPiece, .instanceMethod yX6_findPiece, .selects RX6 yX6_findPiece yX6_findPiece, .initialized RX6, .code yX6_findPiece cX6_findPiece 3 (some (.object "Gatherhouse$Piece")), .fieldLink RX6 30 "Gatherhouse" "pieces" "[LGatherhouse$Piece;", .classLink RX6 365 "java/lang/IndexOutOfBoundsException", .initialized "java/lang/IndexOutOfBoundsException"]
def wzX6_rings_no : List Cond := wzEX6_rings_no ++ (u_ws RX6 TX6 16 ++ ((vx_atS RX6 369 "java/lang/IndexOutOfBoundsException" ["java/lang/RuntimeException", "java/lang/Exception"]).filter goodWord))
theorem zgEX6_rings_no : wzEX6_rings_no.all goodWord = true := by decide +kernel
theorem zuX6_rings_no_X6 : ∀ w ∈ u_ws RX6 TX6 16, w ∈ wzX6_rings_no := (fun _ h => (List.mem_append_right _ (List.mem_append_left _ h)))
theorem ztX6_rings_no_X6_369 : ∀ w ∈ (vx_atS RX6 369 "java/lang/IndexOutOfBoundsException" ["java/lang/RuntimeException", "java/lang/Exception"]).filter goodWord, w ∈ wzX6_rings_no := (fun _ h => (List.mem_append_right _ (List.mem_append_right _ h)))
theorem gzX6_rings_no_X6_findPiece_no_169 : GoodIn wzX6_rings_no (wsV RX6 169 RX6 yX6_findPiece wzX6_findPiece_no) := (goodIn_app (z_lift (goodIn_r _ [1, 2, 3, 4] rfl (by decide +kernel))) (goodIn_app (z_lift (goodIn_r wzEX6_findPiece_no [5, 6, 7, 8] rfl zgEX6_findPiece_no)) (goodIn_app (goodIn_sub (fun _ h => (List.mem_append_right _ (List.mem_append_left _ h))) zgU_X6) (goodIn_sub (fun _ h => (List.mem_append_right _ (List.mem_append_right _ h))) zgV_X6_369))))
set_option maxHeartbeats 4000000 in
set_option maxRecDepth 100000 in
theorem zc_X6_rings_no (l : Launch) (hnt : l.stackTraces = false) (D : va_G) (G : Nat × Nat × (Nat → Int32)) (xo : Nat) (xg : Nat) (gc : Int32) (xp : Nat) (pc : Int32) (xq : Nat) (qc : Int32) (r1 : Nat) (r2 : Nat) (r3 : Nat) (r4 : Nat) (se : Nat) (ts : Int32) (hou : Int32) (dr : Int32) (su : Int32) (br : Int32) (cq : ClassId) (sz : Nat) : vx_Met l yX6_rings wzX6_rings_no ({ frames := 7, cells := 1, slots := 6, locals := 104 }) (va_Pc [.ref xo, .int 0] (p_RW D G [(cq, .object "Gatherhouse$Piece")] [(xo, .inr (6, [.ref xg, .int gc, .ref xp, .int pc, .ref xq, .int qc, .ref r1, .ref r2, .ref r3, .ref r4, .ref se, .int ts, .int hou, .int dr, .int su, .int br])), (xq, .inl (cq, 16, .inr (.inr (.inr (.inr (zq [none, none, none, none, none, none, none, none, none, none, none, none, none, none, none, none]))))))] sz)) (va_Qi (fun (r : Int32) (u : Unit) => False) (fun (u : Unit) (t : State) => q_RW D [(cq, .object "Gatherhouse$Piece")] [(xo, .inr (6, [.ref xg, .int gc, .ref xp, .int pc, .ref xq, .int qc, .ref r1, .ref r2, .ref r3, .ref r4, .ref se, .int ts, .int hou, .int dr, .int su, .int br])), (xq, .inl (cq, 16, .inr (.inr (.inr (.inr (zq [none, none, none, none, none, none, none, none, none, none, none, none, none, none, none, none]))))))] (va_A [(xo, .inr (6, [.ref xg, .int gc, .ref xp, .int pc, .ref xq, .int qc, .ref r1, .ref r2, .ref r3, .ref r4, .ref se, .int ts, .int hou, .int dr, .int su, .int br])), (xq, .inl (cq, 16, .inr (.inr (.inr (.inr (zq [none, none, none, none, none, none, none, none, none, none, none, none, none, none, none, none]))))))] sz) t) (va_A [(xo, .inr (6, [.ref xg, .int gc, .ref xp, .int pc, .ref xq, .int qc, .ref r1, .ref r2, .ref r3, .ref r4, .ref se, .int ts, .int hou, .int dr, .int su, .int br])), (xq, .inl (cq, 16, .inr (.inr (.inr (.inr (zq [none, none, none, none, none, none, none, none, none, none, none, none, none, none, none, none]))))))] sz)) (vx_X (fun (_ : Unit) => True) (fun E (_ : Unit) (t : State) => ((E = "java/lang/IndexOutOfBoundsException")) ∧ q_RW D [(cq, .object "Gatherhouse$Piece")] [(xo, .inr (6, [.ref xg, .int gc, .ref xp, .int pc, .ref xq, .int qc, .ref r1, .ref r2, .ref r3, .ref r4, .ref se, .int ts, .int hou, .int dr, .int su, .int br])), (xq, .inl (cq, 16, .inr (.inr (.inr (.inr (zq [none, none, none, none, none, none, none, none, none, none, none, none, none, none, none, none]))))))] (va_A [(xo, .inr (6, [.ref xg, .int gc, .ref xp, .int pc, .ref xq, .int qc, .ref r1, .ref r2, .ref r3, .ref r4, .ref se, .int ts, .int hou, .int dr, .int su, .int br])), (xq, .inl (cq, 16, .inr (.inr (.inr (.inr (zq [none, none, none, none, none, none, none, none, none, none, none, none, none, none, none, none]))))))] sz) t) (va_A [(xo, .inr (6, [.ref xg, .int gc, .ref xp, .int pc, .ref xq, .int qc, .ref r1, .ref r2, .ref r3, .ref r4, .ref se, .int ts, .int hou, .int dr, .int su, .int br])), (xq, .inl (cq, 16, .inr (.inr (.inr (.inr (zq [none, none, none, none, none, none, none, none, none, none, none, none, none, none, none, none]))))))] sz)) 1 6 (va_A [(xo, .inr (6, [.ref xg, .int gc, .ref xp, .int pc, .ref xq, .int qc, .ref r1, .ref r2, .ref r3, .ref r4, .ref se, .int ts, .int hou, .int dr, .int su, .int br])), (xq, .inl (cq, 16, .inr (.inr (.inr (.inr (zq [none, none, none, none, none, none, none, none, none, none, none, none, none, none, none, none]))))))] sz) := by
  refine vx_ofW (cc := cX6_rings) (maxL := 2) (ret := (some .int)) (by decide) rfl ?_
  intro p e s m args below meth c s₁ B hml hxt hv
  obtain ⟨rfl, hsz, hP, hK, hD0, hT, hZ⟩ := hv
  have hx := B.exec
  have hb := B.bytes
  have hr := B.returns
  have hts := atoms_spec (ws := wzX6_rings_no) B.pre
  have hown : s.vm.findClass RX6 = some m.cls := findClass_of_methodNamed B.named
  have hlocks := B.notSynchronized
  subst hsz
  have hD := hD0.self (sz := s.heap.size)
  generalize hAe : va_A [(xo, .inr (6, [.ref xg, .int gc, .ref xp, .int pc, .ref xq, .int qc, .ref r1, .ref r2, .ref r3, .ref r4, .ref se, .int ts, .int hou, .int dr, .int su, .int br])), (xq, .inl (cq, 16, .inr (.inr (.inr (.inr (zq [none, none, none, none, none, none, none, none, none, none, none, none, none, none, none, none]))))))] s.heap.size = A at hD hZ ⊢
  have hA : ∀ q : Nat, s.heap.size ≤ q → A q := fun q h => by rw [← hAe]; exact Or.inr h
  have hS : va_S A s.heap s.heap [] := va_S.rf
  have hl := lv_entry ([.ref xo, .int 0]) (n := 2) (Nat.le_of_ble_eq_true rfl)
  rw [lg_entry_eq]
  generalize (lg_sl ([.ref xo, .int 0]) ++ List.replicate (2 - (lg_sl ([.ref xo, .int 0])).length) Slot.unset).toArray = ls at hl ⊢
  have hl : lv_has ls 2 [(0, .ref xo), (1, .int 0)] := hl
  refine lv_aload_n hx hb dX6_rings_0 rfl (lv_at hl 0 rfl) ?_
  refine lv_iload_n hx hb dX6_rings_1 rfl (lv_at hl 1 rfl) ?_
  have hFc := va_free (wc := [(xo, .inr (6, [.ref xg, .int gc, .ref xp, .int pc, .ref xq, .int qc, .ref r1, .ref r2, .ref r3, .ref r4, .ref se, .int ts, .int hou, .int dr, .int su, .int br])), (xq, .inl (cq, 16, .inr (.inr (.inr (.inr (zq [none, none, none, none, none, none, none, none, none, none, none, none, none, none, none, none]))))))]) hD hS hA [0, 1] rfl
  refine vx_callq (vx_runV (As := [.int 0]) (rest := []) ⟨hx, hb, hml, hown, hts⟩ (zc_X6_findPiece_no l hnt D G xo 0 xg gc xp pc xq qc r1 r2 r3 r4 se ts hou dr su br cq (zq [none, none, none, none, none, none, none, none, none, none, none, none, none, none, none, none]) s.heap.size (by first | assumption | rfl | omega | exact Nat.le_trans (zS_le _ _ _) (by omega) | decide) (by first | assumption | rfl | omega | exact Nat.le_trans (zS_le _ _ _) (by omega) | decide)) (cwV 1 hts gzX6_rings_no_X6_findPiece_no_169 rfl rfl rfl (by decide +kernel) ⟨(Nat.le_of_ble_eq_true rfl), (Nat.le_of_ble_eq_true rfl)⟩) ⟨p_RW_blind, va_recv hK hP (ci := 6) (q0 := 0) rfl rfl, (p_RW_at (tc := [(cq, .object "Gatherhouse$Piece")]) (wc := [(xo, .inr (6, [.ref xg, .int gc, .ref xp, .int pc, .ref xq, .int qc, .ref r1, .ref r2, .ref r3, .ref r4, .ref se, .int ts, .int hou, .int dr, .int su, .int br])), (xq, .inl (cq, 16, .inr (.inr (.inr (.inr (zq [none, none, none, none, none, none, none, none, none, none, none, none, none, none, none, none]))))))]) hP hK hD hS hA hT hZ [0, 1] [0] rfl rfl (by decide) rfl [.ref xo, .int 0])⟩ rfl rfl hl.1 rfl (lv_room (Nat.le_of_ble_eq_true rfl)) dX6_rings_2 ⟨(Nat.le_of_ble_eq_true rfl), (Nat.le_of_ble_eq_true rfl)⟩) hS (fun q _ h => hFc q h) hFc (fun q _ h => hFc q h) (fun E ce q9 u t H locs ht hvm hpx hBX hz1 hk1 hS hce hcv hcl => ?_) (fun r_166 u t H locs ht hvm w_167 hB hz1 hk1 hS => ?_)
  · obtain ⟨hBX, hB⟩ := hBX
    obtain ⟨hP, hD, hK⟩ := q_join (D := D) (wc := [(xo, .inr (6, [.ref xg, .int gc, .ref xp, .int pc, .ref xq, .int qc, .ref r1, .ref r2, .ref r3, .ref r4, .ref se, .int ts, .int hou, .int dr, .int su, .int br])), (xq, .inl (cq, 16, .inr (.inr (.inr (.inr (zq [none, none, none, none, none, none, none, none, none, none, none, none, none, none, none, none]))))))]) (wr := []) (w1 := [(xo, .inr (6, [.ref xg, .int gc, .ref xp, .int pc, .ref xq, .int qc, .ref r1, .ref r2, .ref r3, .ref r4, .ref se, .int ts, .int hou, .int dr, .int su, .int br])), (xq, .inl (cq, 16, .inr (.inr (.inr (.inr (zq [none, none, none, none, none, none, none, none, none, none, none, none, none, none, none, none]))))))]) (tyr := []) (ty1 := [(cq, .object "Gatherhouse$Piece")]) hP hD hK [0, 1] [] [] rfl rfl (by decide) (by decide) rfl hFc hk1 ht hvm hB
    have hP : va_P D vwCl [(xo, .inr (6, [.ref xg, .int gc, .ref xp, .int pc, .ref xq, .int qc, .ref r1, .ref r2, .ref r3, .ref r4, .ref se, .int ts, .int hou, .int dr, .int su, .int br])), (xq, .inl (cq, 16, .inr (.inr (.inr (.inr (zq [none, none, none, none, none, none, none, none, none, none, none, none, none, none, none, none]))))))] H := hP
    have hD : va_D A [(xo, .inr (6, [.ref xg, .int gc, .ref xp, .int pc, .ref xq, .int qc, .ref r1, .ref r2, .ref r3, .ref r4, .ref se, .int ts, .int hou, .int dr, .int su, .int br])), (xq, .inl (cq, 16, .inr (.inr (.inr (.inr (zq [none, none, none, none, none, none, none, none, none, none, none, none, none, none, none, none]))))))] := hD
    have hK : va_K D vwCl [(cq, .object "Gatherhouse$Piece")] s := hK
    have hBX : (E = "java/lang/IndexOutOfBoundsException") := hBX
    rcases hBX with rfl
    exact vx_out (fun x h => (hxt x h).elim) hlocks hce hcv hcl (fun t ht hW9 => ⟨(), trivial, ⟨rfl, q_RW_mk hP hK hD [0, 1] [0] rfl rfl (by decide) rfl ht hW9⟩, hS.F ht⟩) hS.2.2 (Nat.le_of_ble_eq_true rfl) (Nat.le_of_ble_eq_true rfl)
  · exact w_167.elim
theorem dX6_ring_0 : decode cX6_ring 0 = .ok (.aload_n 0, 1) := by decide +kernel
theorem dX6_ring_1 : decode cX6_ring 1 = .ok (.iload_n 1, 1) := by decide +kernel
theorem dX6_ring_2 : decode cX6_ring 2 = .ok (.invokevirtual 169, 3) := by decide +kernel
def wzEX6_ring_no : List Cond := [.code yX6_ring cX6_ring 5 (some .int), .methodLink RX6 169 yX6_findPiece, .instanceMethod yX6_findPiece, .selects RX6 yX6_findPiece yX6_findPiece, .initialized RX6, .code yX6_findPiece cX6_findPiece 3 (some (.object "Gatherhouse$Piece")), .fieldLink RX6 30 "Gatherhouse" "pieces" "[LGatherhouse$Piece;", .classLink RX6 365 "java/lang/IndexOutOfBoundsException", .initialized "java/lang/IndexOutOfBoundsException"]
def wzX6_ring_no : List Cond := wzEX6_ring_no ++ (u_ws RX6 TX6 16 ++ ((vx_atS RX6 369 "java/lang/IndexOutOfBoundsException" ["java/lang/RuntimeException", "java/lang/Exception"]).filter goodWord))
theorem zgEX6_ring_no : wzEX6_ring_no.all goodWord = true := by decide +kernel
theorem zuX6_ring_no_X6 : ∀ w ∈ u_ws RX6 TX6 16, w ∈ wzX6_ring_no := (fun _ h => (List.mem_append_right _ (List.mem_append_left _ h)))
theorem ztX6_ring_no_X6_369 : ∀ w ∈ (vx_atS RX6 369 "java/lang/IndexOutOfBoundsException" ["java/lang/RuntimeException", "java/lang/Exception"]).filter goodWord, w ∈ wzX6_ring_no := (fun _ h => (List.mem_append_right _ (List.mem_append_right _ h)))
theorem gzX6_ring_no_X6_findPiece_no_169 : GoodIn wzX6_ring_no (wsV RX6 169 RX6 yX6_findPiece wzX6_findPiece_no) := (goodIn_app (z_lift (goodIn_r _ [1, 2, 3, 4] rfl (by decide +kernel))) (goodIn_app (z_lift (goodIn_r wzEX6_findPiece_no [5, 6, 7, 8] rfl zgEX6_findPiece_no)) (goodIn_app (goodIn_sub (fun _ h => (List.mem_append_right _ (List.mem_append_left _ h))) zgU_X6) (goodIn_sub (fun _ h => (List.mem_append_right _ (List.mem_append_right _ h))) zgV_X6_369))))
set_option maxHeartbeats 4000000 in
set_option maxRecDepth 100000 in
theorem zc_X6_ring_no (l : Launch) (hnt : l.stackTraces = false) (D : va_G) (G : Nat × Nat × (Nat → Int32)) (xo : Nat) (xg : Nat) (gc : Int32) (xp : Nat) (pc : Int32) (xq : Nat) (qc : Int32) (r1 : Nat) (r2 : Nat) (r3 : Nat) (r4 : Nat) (se : Nat) (ts : Int32) (hou : Int32) (dr : Int32) (su : Int32) (br : Int32) (cq : ClassId) (sz : Nat) : vx_Met l yX6_ring wzX6_ring_no ({ frames := 7, cells := 1, slots := 6, locals := 104 }) (va_Pc [.ref xo, .int 0, .int 0, .int 120] (p_RW D G [(cq, .object "Gatherhouse$Piece")] [(xo, .inr (6, [.ref xg, .int gc, .ref xp, .int pc, .ref xq, .int qc, .ref r1, .ref r2, .ref r3, .ref r4, .ref se, .int ts, .int hou, .int dr, .int su, .int br])), (xq, .inl (cq, 16, .inr (.inr (.inr (.inr (zq [none, none, none, none, none, none, none, none, none, none, none, none, none, none, none, none]))))))] sz)) (va_Qi (fun (r : Int32) (u : Unit) => False) (fun (u : Unit) (t : State) => q_RW D [(cq, .object "Gatherhouse$Piece")] [(xo, .inr (6, [.ref xg, .int gc, .ref xp, .int pc, .ref xq, .int qc, .ref r1, .ref r2, .ref r3, .ref r4, .ref se, .int ts, .int hou, .int dr, .int su, .int br])), (xq, .inl (cq, 16, .inr (.inr (.inr (.inr (zq [none, none, none, none, none, none, none, none, none, none, none, none, none, none, none, none]))))))] (va_A [(xo, .inr (6, [.ref xg, .int gc, .ref xp, .int pc, .ref xq, .int qc, .ref r1, .ref r2, .ref r3, .ref r4, .ref se, .int ts, .int hou, .int dr, .int su, .int br])), (xq, .inl (cq, 16, .inr (.inr (.inr (.inr (zq [none, none, none, none, none, none, none, none, none, none, none, none, none, none, none, none]))))))] sz) t) (va_A [(xo, .inr (6, [.ref xg, .int gc, .ref xp, .int pc, .ref xq, .int qc, .ref r1, .ref r2, .ref r3, .ref r4, .ref se, .int ts, .int hou, .int dr, .int su, .int br])), (xq, .inl (cq, 16, .inr (.inr (.inr (.inr (zq [none, none, none, none, none, none, none, none, none, none, none, none, none, none, none, none]))))))] sz)) (vx_X (fun (_ : Unit) => True) (fun E (_ : Unit) (t : State) => ((E = "java/lang/IndexOutOfBoundsException")) ∧ q_RW D [(cq, .object "Gatherhouse$Piece")] [(xo, .inr (6, [.ref xg, .int gc, .ref xp, .int pc, .ref xq, .int qc, .ref r1, .ref r2, .ref r3, .ref r4, .ref se, .int ts, .int hou, .int dr, .int su, .int br])), (xq, .inl (cq, 16, .inr (.inr (.inr (.inr (zq [none, none, none, none, none, none, none, none, none, none, none, none, none, none, none, none]))))))] (va_A [(xo, .inr (6, [.ref xg, .int gc, .ref xp, .int pc, .ref xq, .int qc, .ref r1, .ref r2, .ref r3, .ref r4, .ref se, .int ts, .int hou, .int dr, .int su, .int br])), (xq, .inl (cq, 16, .inr (.inr (.inr (.inr (zq [none, none, none, none, none, none, none, none, none, none, none, none, none, none, none, none]))))))] sz) t) (va_A [(xo, .inr (6, [.ref xg, .int gc, .ref xp, .int pc, .ref xq, .int qc, .ref r1, .ref r2, .ref r3, .ref r4, .ref se, .int ts, .int hou, .int dr, .int su, .int br])), (xq, .inl (cq, 16, .inr (.inr (.inr (.inr (zq [none, none, none, none, none, none, none, none, none, none, none, none, none, none, none, none]))))))] sz)) 1 6 (va_A [(xo, .inr (6, [.ref xg, .int gc, .ref xp, .int pc, .ref xq, .int qc, .ref r1, .ref r2, .ref r3, .ref r4, .ref se, .int ts, .int hou, .int dr, .int su, .int br])), (xq, .inl (cq, 16, .inr (.inr (.inr (.inr (zq [none, none, none, none, none, none, none, none, none, none, none, none, none, none, none, none]))))))] sz) := by
  refine vx_ofW (cc := cX6_ring) (maxL := 5) (ret := (some .int)) (by decide) rfl ?_
  intro p e s m args below meth c s₁ B hml hxt hv
  obtain ⟨rfl, hsz, hP, hK, hD0, hT, hZ⟩ := hv
  have hx := B.exec
  have hb := B.bytes
  have hr := B.returns
  have hts := atoms_spec (ws := wzX6_ring_no) B.pre
  have hown : s.vm.findClass RX6 = some m.cls := findClass_of_methodNamed B.named
  have hlocks := B.notSynchronized
  subst hsz
  have hD := hD0.self (sz := s.heap.size)
  generalize hAe : va_A [(xo, .inr (6, [.ref xg, .int gc, .ref xp, .int pc, .ref xq, .int qc, .ref r1, .ref r2, .ref r3, .ref r4, .ref se, .int ts, .int hou, .int dr, .int su, .int br])), (xq, .inl (cq, 16, .inr (.inr (.inr (.inr (zq [none, none, none, none, none, none, none, none, none, none, none, none, none, none, none, none]))))))] s.heap.size = A at hD hZ ⊢
  have hA : ∀ q : Nat, s.heap.size ≤ q → A q := fun q h => by rw [← hAe]; exact Or.inr h
  have hS : va_S A s.heap s.heap [] := va_S.rf
  have hl := lv_entry ([.ref xo, .int 0, .int 0, .int 120]) (n := 5) (Nat.le_of_ble_eq_true rfl)
  rw [lg_entry_eq]
  generalize (lg_sl ([.ref xo, .int 0, .int 0, .int 120]) ++ List.replicate (5 - (lg_sl ([.ref xo, .int 0, .int 0, .int 120])).length) Slot.unset).toArray = ls at hl ⊢
  have hl : lv_has ls 5 [(0, .ref xo), (1, .int 0), (2, .int 0), (3, .int 120)] := hl
  refine lv_aload_n hx hb dX6_ring_0 rfl (lv_at hl 0 rfl) ?_
  refine lv_iload_n hx hb dX6_ring_1 rfl (lv_at hl 1 rfl) ?_
  have hFc := va_free (wc := [(xo, .inr (6, [.ref xg, .int gc, .ref xp, .int pc, .ref xq, .int qc, .ref r1, .ref r2, .ref r3, .ref r4, .ref se, .int ts, .int hou, .int dr, .int su, .int br])), (xq, .inl (cq, 16, .inr (.inr (.inr (.inr (zq [none, none, none, none, none, none, none, none, none, none, none, none, none, none, none, none]))))))]) hD hS hA [0, 1] rfl
  refine vx_callq (vx_runV (As := [.int 0]) (rest := []) ⟨hx, hb, hml, hown, hts⟩ (zc_X6_findPiece_no l hnt D G xo 0 xg gc xp pc xq qc r1 r2 r3 r4 se ts hou dr su br cq (zq [none, none, none, none, none, none, none, none, none, none, none, none, none, none, none, none]) s.heap.size (by first | assumption | rfl | omega | exact Nat.le_trans (zS_le _ _ _) (by omega) | decide) (by first | assumption | rfl | omega | exact Nat.le_trans (zS_le _ _ _) (by omega) | decide)) (cwV 1 hts gzX6_ring_no_X6_findPiece_no_169 rfl rfl rfl (by decide +kernel) ⟨(Nat.le_of_ble_eq_true rfl), (Nat.le_of_ble_eq_true rfl)⟩) ⟨p_RW_blind, va_recv hK hP (ci := 6) (q0 := 0) rfl rfl, (p_RW_at (tc := [(cq, .object "Gatherhouse$Piece")]) (wc := [(xo, .inr (6, [.ref xg, .int gc, .ref xp, .int pc, .ref xq, .int qc, .ref r1, .ref r2, .ref r3, .ref r4, .ref se, .int ts, .int hou, .int dr, .int su, .int br])), (xq, .inl (cq, 16, .inr (.inr (.inr (.inr (zq [none, none, none, none, none, none, none, none, none, none, none, none, none, none, none, none]))))))]) hP hK hD hS hA hT hZ [0, 1] [0] rfl rfl (by decide) rfl [.ref xo, .int 0])⟩ rfl rfl hl.1 rfl (lv_room (Nat.le_of_ble_eq_true rfl)) dX6_ring_2 ⟨(Nat.le_of_ble_eq_true rfl), (Nat.le_of_ble_eq_true rfl)⟩) hS (fun q _ h => hFc q h) hFc (fun q _ h => hFc q h) (fun E ce q9 u t H locs ht hvm hpx hBX hz1 hk1 hS hce hcv hcl => ?_) (fun r_168 u t H locs ht hvm w_169 hB hz1 hk1 hS => ?_)
  · obtain ⟨hBX, hB⟩ := hBX
    obtain ⟨hP, hD, hK⟩ := q_join (D := D) (wc := [(xo, .inr (6, [.ref xg, .int gc, .ref xp, .int pc, .ref xq, .int qc, .ref r1, .ref r2, .ref r3, .ref r4, .ref se, .int ts, .int hou, .int dr, .int su, .int br])), (xq, .inl (cq, 16, .inr (.inr (.inr (.inr (zq [none, none, none, none, none, none, none, none, none, none, none, none, none, none, none, none]))))))]) (wr := []) (w1 := [(xo, .inr (6, [.ref xg, .int gc, .ref xp, .int pc, .ref xq, .int qc, .ref r1, .ref r2, .ref r3, .ref r4, .ref se, .int ts, .int hou, .int dr, .int su, .int br])), (xq, .inl (cq, 16, .inr (.inr (.inr (.inr (zq [none, none, none, none, none, none, none, none, none, none, none, none, none, none, none, none]))))))]) (tyr := []) (ty1 := [(cq, .object "Gatherhouse$Piece")]) hP hD hK [0, 1] [] [] rfl rfl (by decide) (by decide) rfl hFc hk1 ht hvm hB
    have hP : va_P D vwCl [(xo, .inr (6, [.ref xg, .int gc, .ref xp, .int pc, .ref xq, .int qc, .ref r1, .ref r2, .ref r3, .ref r4, .ref se, .int ts, .int hou, .int dr, .int su, .int br])), (xq, .inl (cq, 16, .inr (.inr (.inr (.inr (zq [none, none, none, none, none, none, none, none, none, none, none, none, none, none, none, none]))))))] H := hP
    have hD : va_D A [(xo, .inr (6, [.ref xg, .int gc, .ref xp, .int pc, .ref xq, .int qc, .ref r1, .ref r2, .ref r3, .ref r4, .ref se, .int ts, .int hou, .int dr, .int su, .int br])), (xq, .inl (cq, 16, .inr (.inr (.inr (.inr (zq [none, none, none, none, none, none, none, none, none, none, none, none, none, none, none, none]))))))] := hD
    have hK : va_K D vwCl [(cq, .object "Gatherhouse$Piece")] s := hK
    have hBX : (E = "java/lang/IndexOutOfBoundsException") := hBX
    rcases hBX with rfl
    exact vx_out (fun x h => (hxt x h).elim) hlocks hce hcv hcl (fun t ht hW9 => ⟨(), trivial, ⟨rfl, q_RW_mk hP hK hD [0, 1] [0] rfl rfl (by decide) rfl ht hW9⟩, hS.F ht⟩) hS.2.2 (Nat.le_of_ble_eq_true rfl) (Nat.le_of_ble_eq_true rfl)
  · exact w_169.elim
theorem dX6_mass_0 : decode cX6_mass 0 = .ok (.aload_n 0, 1) := by decide +kernel
theorem dX6_mass_1 : decode cX6_mass 1 = .ok (.iload_n 1, 1) := by decide +kernel
theorem dX6_mass_2 : decode cX6_mass 2 = .ok (.invokevirtual 169, 3) := by decide +kernel
def wzEX6_mass_no : List Cond := [.code yX6_mass cX6_mass 2 (some .int), .methodLink RX6 169 yX6_findPiece, .instanceMethod yX6_findPiece, .selects RX6 yX6_findPiece yX6_findPiece, .initialized RX6, .code yX6_findPiece cX6_findPiece 3 (some (.object "Gatherhouse$Piece")), .fieldLink RX6 30 "Gatherhouse" "pieces" "[LGatherhouse$Piece;", .classLink RX6 365 "java/lang/IndexOutOfBoundsException", .initialized "java/lang/IndexOutOfBoundsException"]
def wzX6_mass_no : List Cond := wzEX6_mass_no ++ (u_ws RX6 TX6 16 ++ ((vx_atS RX6 369 "java/lang/IndexOutOfBoundsException" ["java/lang/RuntimeException", "java/lang/Exception"]).filter goodWord))
theorem zgEX6_mass_no : wzEX6_mass_no.all goodWord = true := by decide +kernel
theorem zuX6_mass_no_X6 : ∀ w ∈ u_ws RX6 TX6 16, w ∈ wzX6_mass_no := (fun _ h => (List.mem_append_right _ (List.mem_append_left _ h)))
theorem ztX6_mass_no_X6_369 : ∀ w ∈ (vx_atS RX6 369 "java/lang/IndexOutOfBoundsException" ["java/lang/RuntimeException", "java/lang/Exception"]).filter goodWord, w ∈ wzX6_mass_no := (fun _ h => (List.mem_append_right _ (List.mem_append_right _ h)))
theorem gzX6_mass_no_X6_findPiece_no_169 : GoodIn wzX6_mass_no (wsV RX6 169 RX6 yX6_findPiece wzX6_findPiece_no) := (goodIn_app (z_lift (goodIn_r _ [1, 2, 3, 4] rfl (by decide +kernel))) (goodIn_app (z_lift (goodIn_r wzEX6_findPiece_no [5, 6, 7, 8] rfl zgEX6_findPiece_no)) (goodIn_app (goodIn_sub (fun _ h => (List.mem_append_right _ (List.mem_append_left _ h))) zgU_X6) (goodIn_sub (fun _ h => (List.mem_append_right _ (List.mem_append_right _ h))) zgV_X6_369))))
set_option maxHeartbeats 4000000 in
set_option maxRecDepth 100000 in
theorem zc_X6_mass_no (l : Launch) (hnt : l.stackTraces = false) (D : va_G) (G : Nat × Nat × (Nat → Int32)) (xo : Nat) (xg : Nat) (gc : Int32) (xp : Nat) (pc : Int32) (xq : Nat) (qc : Int32) (r1 : Nat) (r2 : Nat) (r3 : Nat) (r4 : Nat) (se : Nat) (ts : Int32) (hou : Int32) (dr : Int32) (su : Int32) (br : Int32) (cq : ClassId) (sz : Nat) : vx_Met l yX6_mass wzX6_mass_no ({ frames := 7, cells := 1, slots := 6, locals := 104 }) (va_Pc [.ref xo, .int 0] (p_RW D G [(cq, .object "Gatherhouse$Piece")] [(xo, .inr (6, [.ref xg, .int gc, .ref xp, .int pc, .ref xq, .int qc, .ref r1, .ref r2, .ref r3, .ref r4, .ref se, .int ts, .int hou, .int dr, .int su, .int br])), (xq, .inl (cq, 16, .inr (.inr (.inr (.inr (zq [none, none, none, none, none, none, none, none, none, none, none, none, none, none, none, none]))))))] sz)) (va_Qi (fun (r : Int32) (u : Unit) => False) (fun (u : Unit) (t : State) => q_RW D [(cq, .object "Gatherhouse$Piece")] [(xo, .inr (6, [.ref xg, .int gc, .ref xp, .int pc, .ref xq, .int qc, .ref r1, .ref r2, .ref r3, .ref r4, .ref se, .int ts, .int hou, .int dr, .int su, .int br])), (xq, .inl (cq, 16, .inr (.inr (.inr (.inr (zq [none, none, none, none, none, none, none, none, none, none, none, none, none, none, none, none]))))))] (va_A [(xo, .inr (6, [.ref xg, .int gc, .ref xp, .int pc, .ref xq, .int qc, .ref r1, .ref r2, .ref r3, .ref r4, .ref se, .int ts, .int hou, .int dr, .int su, .int br])), (xq, .inl (cq, 16, .inr (.inr (.inr (.inr (zq [none, none, none, none, none, none, none, none, none, none, none, none, none, none, none, none]))))))] sz) t) (va_A [(xo, .inr (6, [.ref xg, .int gc, .ref xp, .int pc, .ref xq, .int qc, .ref r1, .ref r2, .ref r3, .ref r4, .ref se, .int ts, .int hou, .int dr, .int su, .int br])), (xq, .inl (cq, 16, .inr (.inr (.inr (.inr (zq [none, none, none, none, none, none, none, none, none, none, none, none, none, none, none, none]))))))] sz)) (vx_X (fun (_ : Unit) => True) (fun E (_ : Unit) (t : State) => ((E = "java/lang/IndexOutOfBoundsException")) ∧ q_RW D [(cq, .object "Gatherhouse$Piece")] [(xo, .inr (6, [.ref xg, .int gc, .ref xp, .int pc, .ref xq, .int qc, .ref r1, .ref r2, .ref r3, .ref r4, .ref se, .int ts, .int hou, .int dr, .int su, .int br])), (xq, .inl (cq, 16, .inr (.inr (.inr (.inr (zq [none, none, none, none, none, none, none, none, none, none, none, none, none, none, none, none]))))))] (va_A [(xo, .inr (6, [.ref xg, .int gc, .ref xp, .int pc, .ref xq, .int qc, .ref r1, .ref r2, .ref r3, .ref r4, .ref se, .int ts, .int hou, .int dr, .int su, .int br])), (xq, .inl (cq, 16, .inr (.inr (.inr (.inr (zq [none, none, none, none, none, none, none, none, none, none, none, none, none, none, none, none]))))))] sz) t) (va_A [(xo, .inr (6, [.ref xg, .int gc, .ref xp, .int pc, .ref xq, .int qc, .ref r1, .ref r2, .ref r3, .ref r4, .ref se, .int ts, .int hou, .int dr, .int su, .int br])), (xq, .inl (cq, 16, .inr (.inr (.inr (.inr (zq [none, none, none, none, none, none, none, none, none, none, none, none, none, none, none, none]))))))] sz)) 1 6 (va_A [(xo, .inr (6, [.ref xg, .int gc, .ref xp, .int pc, .ref xq, .int qc, .ref r1, .ref r2, .ref r3, .ref r4, .ref se, .int ts, .int hou, .int dr, .int su, .int br])), (xq, .inl (cq, 16, .inr (.inr (.inr (.inr (zq [none, none, none, none, none, none, none, none, none, none, none, none, none, none, none, none]))))))] sz) := by
  refine vx_ofW (cc := cX6_mass) (maxL := 2) (ret := (some .int)) (by decide) rfl ?_
  intro p e s m args below meth c s₁ B hml hxt hv
  obtain ⟨rfl, hsz, hP, hK, hD0, hT, hZ⟩ := hv
  have hx := B.exec
  have hb := B.bytes
  have hr := B.returns
  have hts := atoms_spec (ws := wzX6_mass_no) B.pre
  have hown : s.vm.findClass RX6 = some m.cls := findClass_of_methodNamed B.named
  have hlocks := B.notSynchronized
  subst hsz
  have hD := hD0.self (sz := s.heap.size)
  generalize hAe : va_A [(xo, .inr (6, [.ref xg, .int gc, .ref xp, .int pc, .ref xq, .int qc, .ref r1, .ref r2, .ref r3, .ref r4, .ref se, .int ts, .int hou, .int dr, .int su, .int br])), (xq, .inl (cq, 16, .inr (.inr (.inr (.inr (zq [none, none, none, none, none, none, none, none, none, none, none, none, none, none, none, none]))))))] s.heap.size = A at hD hZ ⊢
  have hA : ∀ q : Nat, s.heap.size ≤ q → A q := fun q h => by rw [← hAe]; exact Or.inr h
  have hS : va_S A s.heap s.heap [] := va_S.rf
  have hl := lv_entry ([.ref xo, .int 0]) (n := 2) (Nat.le_of_ble_eq_true rfl)
  rw [lg_entry_eq]
  generalize (lg_sl ([.ref xo, .int 0]) ++ List.replicate (2 - (lg_sl ([.ref xo, .int 0])).length) Slot.unset).toArray = ls at hl ⊢
  have hl : lv_has ls 2 [(0, .ref xo), (1, .int 0)] := hl
  refine lv_aload_n hx hb dX6_mass_0 rfl (lv_at hl 0 rfl) ?_
  refine lv_iload_n hx hb dX6_mass_1 rfl (lv_at hl 1 rfl) ?_
  have hFc := va_free (wc := [(xo, .inr (6, [.ref xg, .int gc, .ref xp, .int pc, .ref xq, .int qc, .ref r1, .ref r2, .ref r3, .ref r4, .ref se, .int ts, .int hou, .int dr, .int su, .int br])), (xq, .inl (cq, 16, .inr (.inr (.inr (.inr (zq [none, none, none, none, none, none, none, none, none, none, none, none, none, none, none, none]))))))]) hD hS hA [0, 1] rfl
  refine vx_callq (vx_runV (As := [.int 0]) (rest := []) ⟨hx, hb, hml, hown, hts⟩ (zc_X6_findPiece_no l hnt D G xo 0 xg gc xp pc xq qc r1 r2 r3 r4 se ts hou dr su br cq (zq [none, none, none, none, none, none, none, none, none, none, none, none, none, none, none, none]) s.heap.size (by first | assumption | rfl | omega | exact Nat.le_trans (zS_le _ _ _) (by omega) | decide) (by first | assumption | rfl | omega | exact Nat.le_trans (zS_le _ _ _) (by omega) | decide)) (cwV 1 hts gzX6_mass_no_X6_findPiece_no_169 rfl rfl rfl (by decide +kernel) ⟨(Nat.le_of_ble_eq_true rfl), (Nat.le_of_ble_eq_true rfl)⟩) ⟨p_RW_blind, va_recv hK hP (ci := 6) (q0 := 0) rfl rfl, (p_RW_at (tc := [(cq, .object "Gatherhouse$Piece")]) (wc := [(xo, .inr (6, [.ref xg, .int gc, .ref xp, .int pc, .ref xq, .int qc, .ref r1, .ref r2, .ref r3, .ref r4, .ref se, .int ts, .int hou, .int dr, .int su, .int br])), (xq, .inl (cq, 16, .inr (.inr (.inr (.inr (zq [none, none, none, none, none, none, none, none, none, none, none, none, none, none, none, none]))))))]) hP hK hD hS hA hT hZ [0, 1] [0] rfl rfl (by decide) rfl [.ref xo, .int 0])⟩ rfl rfl hl.1 rfl (lv_room (Nat.le_of_ble_eq_true rfl)) dX6_mass_2 ⟨(Nat.le_of_ble_eq_true rfl), (Nat.le_of_ble_eq_true rfl)⟩) hS (fun q _ h => hFc q h) hFc (fun q _ h => hFc q h) (fun E ce q9 u t H locs ht hvm hpx hBX hz1 hk1 hS hce hcv hcl => ?_) (fun r_170 u t H locs ht hvm w_171 hB hz1 hk1 hS => ?_)
  · obtain ⟨hBX, hB⟩ := hBX
    obtain ⟨hP, hD, hK⟩ := q_join (D := D) (wc := [(xo, .inr (6, [.ref xg, .int gc, .ref xp, .int pc, .ref xq, .int qc, .ref r1, .ref r2, .ref r3, .ref r4, .ref se, .int ts, .int hou, .int dr, .int su, .int br])), (xq, .inl (cq, 16, .inr (.inr (.inr (.inr (zq [none, none, none, none, none, none, none, none, none, none, none, none, none, none, none, none]))))))]) (wr := []) (w1 := [(xo, .inr (6, [.ref xg, .int gc, .ref xp, .int pc, .ref xq, .int qc, .ref r1, .ref r2, .ref r3, .ref r4, .ref se, .int ts, .int hou, .int dr, .int su, .int br])), (xq, .inl (cq, 16, .inr (.inr (.inr (.inr (zq [none, none, none, none, none, none, none, none, none, none, none, none, none, none, none, none]))))))]) (tyr := []) (ty1 := [(cq, .object "Gatherhouse$Piece")]) hP hD hK [0, 1] [] [] rfl rfl (by decide) (by decide) rfl hFc hk1 ht hvm hB
    have hP : va_P D vwCl [(xo, .inr (6, [.ref xg, .int gc, .ref xp, .int pc, .ref xq, .int qc, .ref r1, .ref r2, .ref r3, .ref r4, .ref se, .int ts, .int hou, .int dr, .int su, .int br])), (xq, .inl (cq, 16, .inr (.inr (.inr (.inr (zq [none, none, none, none, none, none, none, none, none, none, none, none, none, none, none, none]))))))] H := hP
    have hD : va_D A [(xo, .inr (6, [.ref xg, .int gc, .ref xp, .int pc, .ref xq, .int qc, .ref r1, .ref r2, .ref r3, .ref r4, .ref se, .int ts, .int hou, .int dr, .int su, .int br])), (xq, .inl (cq, 16, .inr (.inr (.inr (.inr (zq [none, none, none, none, none, none, none, none, none, none, none, none, none, none, none, none]))))))] := hD
    have hK : va_K D vwCl [(cq, .object "Gatherhouse$Piece")] s := hK
    have hBX : (E = "java/lang/IndexOutOfBoundsException") := hBX
    rcases hBX with rfl
    exact vx_out (fun x h => (hxt x h).elim) hlocks hce hcv hcl (fun t ht hW9 => ⟨(), trivial, ⟨rfl, q_RW_mk hP hK hD [0, 1] [0] rfl rfl (by decide) rfl ht hW9⟩, hS.F ht⟩) hS.2.2 (Nat.le_of_ble_eq_true rfl) (Nat.le_of_ble_eq_true rfl)
  · exact w_171.elim
theorem dX6_height_0 : decode cX6_height 0 = .ok (.aload_n 0, 1) := by decide +kernel
theorem dX6_height_1 : decode cX6_height 1 = .ok (.iload_n 1, 1) := by decide +kernel
theorem dX6_height_2 : decode cX6_height 2 = .ok (.invokevirtual 169, 3) := by decide +kernel
def wzEX6_height_no : List Cond := [.code yX6_height cX6_height 2 (some .int), .methodLink RX6 169 yX6_findPiece, .instanceMethod yX6_findPiece, .selects RX6 yX6_findPiece yX6_findPiece, .initialized RX6, .code yX6_findPiece cX6_findPiece 3 (some (.object "Gatherhouse$Piece")), .fieldLink RX6 30 "Gatherhouse" "pieces" "[LGatherhouse$Piece;", .classLink RX6 365 "java/lang/IndexOutOfBoundsException", .initialized "java/lang/IndexOutOfBoundsException"]
def wzX6_height_no : List Cond := wzEX6_height_no ++ (u_ws RX6 TX6 16 ++ ((vx_atS RX6 369 "java/lang/IndexOutOfBoundsException" ["java/lang/RuntimeException", "java/lang/Exception"]).filter goodWord))
theorem zgEX6_height_no : wzEX6_height_no.all goodWord = true := by decide +kernel
theorem zuX6_height_no_X6 : ∀ w ∈ u_ws RX6 TX6 16, w ∈ wzX6_height_no := (fun _ h => (List.mem_append_right _ (List.mem_append_left _ h)))
theorem ztX6_height_no_X6_369 : ∀ w ∈ (vx_atS RX6 369 "java/lang/IndexOutOfBoundsException" ["java/lang/RuntimeException", "java/lang/Exception"]).filter goodWord, w ∈ wzX6_height_no := (fun _ h => (List.mem_append_right _ (List.mem_append_right _ h)))
theorem gzX6_height_no_X6_findPiece_no_169 : GoodIn wzX6_height_no (wsV RX6 169 RX6 yX6_findPiece wzX6_findPiece_no) := (goodIn_app (z_lift (goodIn_r _ [1, 2, 3, 4] rfl (by decide +kernel))) (goodIn_app (z_lift (goodIn_r wzEX6_findPiece_no [5, 6, 7, 8] rfl zgEX6_findPiece_no)) (goodIn_app (goodIn_sub (fun _ h => (List.mem_append_right _ (List.mem_append_left _ h))) zgU_X6) (goodIn_sub (fun _ h => (List.mem_append_right _ (List.mem_append_right _ h))) zgV_X6_369))))
set_option maxHeartbeats 4000000 in
set_option maxRecDepth 100000 in
theorem zc_X6_height_no (l : Launch) (hnt : l.stackTraces = false) (D : va_G) (G : Nat × Nat × (Nat → Int32)) (xo : Nat) (xg : Nat) (gc : Int32) (xp : Nat) (pc : Int32) (xq : Nat) (qc : Int32) (r1 : Nat) (r2 : Nat) (r3 : Nat) (r4 : Nat) (se : Nat) (ts : Int32) (hou : Int32) (dr : Int32) (su : Int32) (br : Int32) (cq : ClassId) (sz : Nat) : vx_Met l yX6_height wzX6_height_no ({ frames := 7, cells := 1, slots := 6, locals := 104 }) (va_Pc [.ref xo, .int 0] (p_RW D G [(cq, .object "Gatherhouse$Piece")] [(xo, .inr (6, [.ref xg, .int gc, .ref xp, .int pc, .ref xq, .int qc, .ref r1, .ref r2, .ref r3, .ref r4, .ref se, .int ts, .int hou, .int dr, .int su, .int br])), (xq, .inl (cq, 16, .inr (.inr (.inr (.inr (zq [none, none, none, none, none, none, none, none, none, none, none, none, none, none, none, none]))))))] sz)) (va_Qi (fun (r : Int32) (u : Unit) => False) (fun (u : Unit) (t : State) => q_RW D [(cq, .object "Gatherhouse$Piece")] [(xo, .inr (6, [.ref xg, .int gc, .ref xp, .int pc, .ref xq, .int qc, .ref r1, .ref r2, .ref r3, .ref r4, .ref se, .int ts, .int hou, .int dr, .int su, .int br])), (xq, .inl (cq, 16, .inr (.inr (.inr (.inr (zq [none, none, none, none, none, none, none, none, none, none, none, none, none, none, none, none]))))))] (va_A [(xo, .inr (6, [.ref xg, .int gc, .ref xp, .int pc, .ref xq, .int qc, .ref r1, .ref r2, .ref r3, .ref r4, .ref se, .int ts, .int hou, .int dr, .int su, .int br])), (xq, .inl (cq, 16, .inr (.inr (.inr (.inr (zq [none, none, none, none, none, none, none, none, none, none, none, none, none, none, none, none]))))))] sz) t) (va_A [(xo, .inr (6, [.ref xg, .int gc, .ref xp, .int pc, .ref xq, .int qc, .ref r1, .ref r2, .ref r3, .ref r4, .ref se, .int ts, .int hou, .int dr, .int su, .int br])), (xq, .inl (cq, 16, .inr (.inr (.inr (.inr (zq [none, none, none, none, none, none, none, none, none, none, none, none, none, none, none, none]))))))] sz)) (vx_X (fun (_ : Unit) => True) (fun E (_ : Unit) (t : State) => ((E = "java/lang/IndexOutOfBoundsException")) ∧ q_RW D [(cq, .object "Gatherhouse$Piece")] [(xo, .inr (6, [.ref xg, .int gc, .ref xp, .int pc, .ref xq, .int qc, .ref r1, .ref r2, .ref r3, .ref r4, .ref se, .int ts, .int hou, .int dr, .int su, .int br])), (xq, .inl (cq, 16, .inr (.inr (.inr (.inr (zq [none, none, none, none, none, none, none, none, none, none, none, none, none, none, none, none]))))))] (va_A [(xo, .inr (6, [.ref xg, .int gc, .ref xp, .int pc, .ref xq, .int qc, .ref r1, .ref r2, .ref r3, .ref r4, .ref se, .int ts, .int hou, .int dr, .int su, .int br])), (xq, .inl (cq, 16, .inr (.inr (.inr (.inr (zq [none, none, none, none, none, none, none, none, none, none, none, none, none, none, none, none]))))))] sz) t) (va_A [(xo, .inr (6, [.ref xg, .int gc, .ref xp, .int pc, .ref xq, .int qc, .ref r1, .ref r2, .ref r3, .ref r4, .ref se, .int ts, .int hou, .int dr, .int su, .int br])), (xq, .inl (cq, 16, .inr (.inr (.inr (.inr (zq [none, none, none, none, none, none, none, none, none, none, none, none, none, none, none, none]))))))] sz)) 1 6 (va_A [(xo, .inr (6, [.ref xg, .int gc, .ref xp, .int pc, .ref xq, .int qc, .ref r1, .ref r2, .ref r3, .ref r4, .ref se, .int ts, .int hou, .int dr, .int su, .int br])), (xq, .inl (cq, 16, .inr (.inr (.inr (.inr (zq [none, none, none, none, none, none, none, none, none, none, none, none, none, none, none, none]))))))] sz) := by
  refine vx_ofW (cc := cX6_height) (maxL := 2) (ret := (some .int)) (by decide) rfl ?_
  intro p e s m args below meth c s₁ B hml hxt hv
  obtain ⟨rfl, hsz, hP, hK, hD0, hT, hZ⟩ := hv
  have hx := B.exec
  have hb := B.bytes
  have hr := B.returns
  have hts := atoms_spec (ws := wzX6_height_no) B.pre
  have hown : s.vm.findClass RX6 = some m.cls := findClass_of_methodNamed B.named
  have hlocks := B.notSynchronized
  subst hsz
  have hD := hD0.self (sz := s.heap.size)
  generalize hAe : va_A [(xo, .inr (6, [.ref xg, .int gc, .ref xp, .int pc, .ref xq, .int qc, .ref r1, .ref r2, .ref r3, .ref r4, .ref se, .int ts, .int hou, .int dr, .int su, .int br])), (xq, .inl (cq, 16, .inr (.inr (.inr (.inr (zq [none, none, none, none, none, none, none, none, none, none, none, none, none, none, none, none]))))))] s.heap.size = A at hD hZ ⊢
  have hA : ∀ q : Nat, s.heap.size ≤ q → A q := fun q h => by rw [← hAe]; exact Or.inr h
  have hS : va_S A s.heap s.heap [] := va_S.rf
  have hl := lv_entry ([.ref xo, .int 0]) (n := 2) (Nat.le_of_ble_eq_true rfl)
  rw [lg_entry_eq]
  generalize (lg_sl ([.ref xo, .int 0]) ++ List.replicate (2 - (lg_sl ([.ref xo, .int 0])).length) Slot.unset).toArray = ls at hl ⊢
  have hl : lv_has ls 2 [(0, .ref xo), (1, .int 0)] := hl
  refine lv_aload_n hx hb dX6_height_0 rfl (lv_at hl 0 rfl) ?_
  refine lv_iload_n hx hb dX6_height_1 rfl (lv_at hl 1 rfl) ?_
  have hFc := va_free (wc := [(xo, .inr (6, [.ref xg, .int gc, .ref xp, .int pc, .ref xq, .int qc, .ref r1, .ref r2, .ref r3, .ref r4, .ref se, .int ts, .int hou, .int dr, .int su, .int br])), (xq, .inl (cq, 16, .inr (.inr (.inr (.inr (zq [none, none, none, none, none, none, none, none, none, none, none, none, none, none, none, none]))))))]) hD hS hA [0, 1] rfl
  refine vx_callq (vx_runV (As := [.int 0]) (rest := []) ⟨hx, hb, hml, hown, hts⟩ (zc_X6_findPiece_no l hnt D G xo 0 xg gc xp pc xq qc r1 r2 r3 r4 se ts hou dr su br cq (zq [none, none, none, none, none, none, none, none, none, none, none, none, none, none, none, none]) s.heap.size (by first | assumption | rfl | omega | exact Nat.le_trans (zS_le _ _ _) (by omega) | decide) (by first | assumption | rfl | omega | exact Nat.le_trans (zS_le _ _ _) (by omega) | decide)) (cwV 1 hts gzX6_height_no_X6_findPiece_no_169 rfl rfl rfl (by decide +kernel) ⟨(Nat.le_of_ble_eq_true rfl), (Nat.le_of_ble_eq_true rfl)⟩) ⟨p_RW_blind, va_recv hK hP (ci := 6) (q0 := 0) rfl rfl, (p_RW_at (tc := [(cq, .object "Gatherhouse$Piece")]) (wc := [(xo, .inr (6, [.ref xg, .int gc, .ref xp, .int pc, .ref xq, .int qc, .ref r1, .ref r2, .ref r3, .ref r4, .ref se, .int ts, .int hou, .int dr, .int su, .int br])), (xq, .inl (cq, 16, .inr (.inr (.inr (.inr (zq [none, none, none, none, none, none, none, none, none, none, none, none, none, none, none, none]))))))]) hP hK hD hS hA hT hZ [0, 1] [0] rfl rfl (by decide) rfl [.ref xo, .int 0])⟩ rfl rfl hl.1 rfl (lv_room (Nat.le_of_ble_eq_true rfl)) dX6_height_2 ⟨(Nat.le_of_ble_eq_true rfl), (Nat.le_of_ble_eq_true rfl)⟩) hS (fun q _ h => hFc q h) hFc (fun q _ h => hFc q h) (fun E ce q9 u t H locs ht hvm hpx hBX hz1 hk1 hS hce hcv hcl => ?_) (fun r_172 u t H locs ht hvm w_173 hB hz1 hk1 hS => ?_)
  · obtain ⟨hBX, hB⟩ := hBX
    obtain ⟨hP, hD, hK⟩ := q_join (D := D) (wc := [(xo, .inr (6, [.ref xg, .int gc, .ref xp, .int pc, .ref xq, .int qc, .ref r1, .ref r2, .ref r3, .ref r4, .ref se, .int ts, .int hou, .int dr, .int su, .int br])), (xq, .inl (cq, 16, .inr (.inr (.inr (.inr (zq [none, none, none, none, none, none, none, none, none, none, none, none, none, none, none, none]))))))]) (wr := []) (w1 := [(xo, .inr (6, [.ref xg, .int gc, .ref xp, .int pc, .ref xq, .int qc, .ref r1, .ref r2, .ref r3, .ref r4, .ref se, .int ts, .int hou, .int dr, .int su, .int br])), (xq, .inl (cq, 16, .inr (.inr (.inr (.inr (zq [none, none, none, none, none, none, none, none, none, none, none, none, none, none, none, none]))))))]) (tyr := []) (ty1 := [(cq, .object "Gatherhouse$Piece")]) hP hD hK [0, 1] [] [] rfl rfl (by decide) (by decide) rfl hFc hk1 ht hvm hB
    have hP : va_P D vwCl [(xo, .inr (6, [.ref xg, .int gc, .ref xp, .int pc, .ref xq, .int qc, .ref r1, .ref r2, .ref r3, .ref r4, .ref se, .int ts, .int hou, .int dr, .int su, .int br])), (xq, .inl (cq, 16, .inr (.inr (.inr (.inr (zq [none, none, none, none, none, none, none, none, none, none, none, none, none, none, none, none]))))))] H := hP
    have hD : va_D A [(xo, .inr (6, [.ref xg, .int gc, .ref xp, .int pc, .ref xq, .int qc, .ref r1, .ref r2, .ref r3, .ref r4, .ref se, .int ts, .int hou, .int dr, .int su, .int br])), (xq, .inl (cq, 16, .inr (.inr (.inr (.inr (zq [none, none, none, none, none, none, none, none, none, none, none, none, none, none, none, none]))))))] := hD
    have hK : va_K D vwCl [(cq, .object "Gatherhouse$Piece")] s := hK
    have hBX : (E = "java/lang/IndexOutOfBoundsException") := hBX
    rcases hBX with rfl
    exact vx_out (fun x h => (hxt x h).elim) hlocks hce hcv hcl (fun t ht hW9 => ⟨(), trivial, ⟨rfl, q_RW_mk hP hK hD [0, 1] [0] rfl rfl (by decide) rfl ht hW9⟩, hS.F ht⟩) hS.2.2 (Nat.le_of_ble_eq_true rfl) (Nat.le_of_ble_eq_true rfl)
  · exact w_173.elim
theorem dX6_layers_0 : decode cX6_layers 0 = .ok (.aload_n 0, 1) := by decide +kernel
theorem dX6_layers_1 : decode cX6_layers 1 = .ok (.iload_n 1, 1) := by decide +kernel
theorem dX6_layers_2 : decode cX6_layers 2 = .ok (.invokevirtual 169, 3) := by decide +kernel
def wzEX6_layers_no : List Cond := [.code yX6_layers cX6_layers 2 (some .int), .methodLink RX6 169 yX6_findPiece, .instanceMethod yX6_findPiece, .selects RX6 yX6_findPiece yX6_findPiece, .initialized RX6, .code yX6_findPiece cX6_findPiece 3 (some (.object "Gatherhouse$Piece")), .fieldLink RX6 30 "Gatherhouse" "pieces" "[LGatherhouse$Piece;", .classLink RX6 365 "java/lang/IndexOutOfBoundsException", .initialized "java/lang/IndexOutOfBoundsException"]
def wzX6_layers_no : List Cond := wzEX6_layers_no ++ (u_ws RX6 TX6 16 ++ ((vx_atS RX6 369 "java/lang/IndexOutOfBoundsException" ["java/lang/RuntimeException", "java/lang/Exception"]).filter goodWord))
theorem zgEX6_layers_no : wzEX6_layers_no.all goodWord = true := by decide +kernel
theorem zuX6_layers_no_X6 : ∀ w ∈ u_ws RX6 TX6 16, w ∈ wzX6_layers_no := (fun _ h => (List.mem_append_right _ (List.mem_append_left _ h)))
theorem ztX6_layers_no_X6_369 : ∀ w ∈ (vx_atS RX6 369 "java/lang/IndexOutOfBoundsException" ["java/lang/RuntimeException", "java/lang/Exception"]).filter goodWord, w ∈ wzX6_layers_no := (fun _ h => (List.mem_append_right _ (List.mem_append_right _ h)))
theorem gzX6_layers_no_X6_findPiece_no_169 : GoodIn wzX6_layers_no (wsV RX6 169 RX6 yX6_findPiece wzX6_findPiece_no) := (goodIn_app (z_lift (goodIn_r _ [1, 2, 3, 4] rfl (by decide +kernel))) (goodIn_app (z_lift (goodIn_r wzEX6_findPiece_no [5, 6, 7, 8] rfl zgEX6_findPiece_no)) (goodIn_app (goodIn_sub (fun _ h => (List.mem_append_right _ (List.mem_append_left _ h))) zgU_X6) (goodIn_sub (fun _ h => (List.mem_append_right _ (List.mem_append_right _ h))) zgV_X6_369))))
set_option maxHeartbeats 4000000 in
set_option maxRecDepth 100000 in
theorem zc_X6_layers_no (l : Launch) (hnt : l.stackTraces = false) (D : va_G) (G : Nat × Nat × (Nat → Int32)) (xo : Nat) (xg : Nat) (gc : Int32) (xp : Nat) (pc : Int32) (xq : Nat) (qc : Int32) (r1 : Nat) (r2 : Nat) (r3 : Nat) (r4 : Nat) (se : Nat) (ts : Int32) (hou : Int32) (dr : Int32) (su : Int32) (br : Int32) (cq : ClassId) (sz : Nat) : vx_Met l yX6_layers wzX6_layers_no ({ frames := 7, cells := 1, slots := 6, locals := 104 }) (va_Pc [.ref xo, .int 0] (p_RW D G [(cq, .object "Gatherhouse$Piece")] [(xo, .inr (6, [.ref xg, .int gc, .ref xp, .int pc, .ref xq, .int qc, .ref r1, .ref r2, .ref r3, .ref r4, .ref se, .int ts, .int hou, .int dr, .int su, .int br])), (xq, .inl (cq, 16, .inr (.inr (.inr (.inr (zq [none, none, none, none, none, none, none, none, none, none, none, none, none, none, none, none]))))))] sz)) (va_Qi (fun (r : Int32) (u : Unit) => False) (fun (u : Unit) (t : State) => q_RW D [(cq, .object "Gatherhouse$Piece")] [(xo, .inr (6, [.ref xg, .int gc, .ref xp, .int pc, .ref xq, .int qc, .ref r1, .ref r2, .ref r3, .ref r4, .ref se, .int ts, .int hou, .int dr, .int su, .int br])), (xq, .inl (cq, 16, .inr (.inr (.inr (.inr (zq [none, none, none, none, none, none, none, none, none, none, none, none, none, none, none, none]))))))] (va_A [(xo, .inr (6, [.ref xg, .int gc, .ref xp, .int pc, .ref xq, .int qc, .ref r1, .ref r2, .ref r3, .ref r4, .ref se, .int ts, .int hou, .int dr, .int su, .int br])), (xq, .inl (cq, 16, .inr (.inr (.inr (.inr (zq [none, none, none, none, none, none, none, none, none, none, none, none, none, none, none, none]))))))] sz) t) (va_A [(xo, .inr (6, [.ref xg, .int gc, .ref xp, .int pc, .ref xq, .int qc, .ref r1, .ref r2, .ref r3, .ref r4, .ref se, .int ts, .int hou, .int dr, .int su, .int br])), (xq, .inl (cq, 16, .inr (.inr (.inr (.inr (zq [none, none, none, none, none, none, none, none, none, none, none, none, none, none, none, none]))))))] sz)) (vx_X (fun (_ : Unit) => True) (fun E (_ : Unit) (t : State) => ((E = "java/lang/IndexOutOfBoundsException")) ∧ q_RW D [(cq, .object "Gatherhouse$Piece")] [(xo, .inr (6, [.ref xg, .int gc, .ref xp, .int pc, .ref xq, .int qc, .ref r1, .ref r2, .ref r3, .ref r4, .ref se, .int ts, .int hou, .int dr, .int su, .int br])), (xq, .inl (cq, 16, .inr (.inr (.inr (.inr (zq [none, none, none, none, none, none, none, none, none, none, none, none, none, none, none, none]))))))] (va_A [(xo, .inr (6, [.ref xg, .int gc, .ref xp, .int pc, .ref xq, .int qc, .ref r1, .ref r2, .ref r3, .ref r4, .ref se, .int ts, .int hou, .int dr, .int su, .int br])), (xq, .inl (cq, 16, .inr (.inr (.inr (.inr (zq [none, none, none, none, none, none, none, none, none, none, none, none, none, none, none, none]))))))] sz) t) (va_A [(xo, .inr (6, [.ref xg, .int gc, .ref xp, .int pc, .ref xq, .int qc, .ref r1, .ref r2, .ref r3, .ref r4, .ref se, .int ts, .int hou, .int dr, .int su, .int br])), (xq, .inl (cq, 16, .inr (.inr (.inr (.inr (zq [none, none, none, none, none, none, none, none, none, none, none, none, none, none, none, none]))))))] sz)) 1 6 (va_A [(xo, .inr (6, [.ref xg, .int gc, .ref xp, .int pc, .ref xq, .int qc, .ref r1, .ref r2, .ref r3, .ref r4, .ref se, .int ts, .int hou, .int dr, .int su, .int br])), (xq, .inl (cq, 16, .inr (.inr (.inr (.inr (zq [none, none, none, none, none, none, none, none, none, none, none, none, none, none, none, none]))))))] sz) := by
  refine vx_ofW (cc := cX6_layers) (maxL := 2) (ret := (some .int)) (by decide) rfl ?_
  intro p e s m args below meth c s₁ B hml hxt hv
  obtain ⟨rfl, hsz, hP, hK, hD0, hT, hZ⟩ := hv
  have hx := B.exec
  have hb := B.bytes
  have hr := B.returns
  have hts := atoms_spec (ws := wzX6_layers_no) B.pre
  have hown : s.vm.findClass RX6 = some m.cls := findClass_of_methodNamed B.named
  have hlocks := B.notSynchronized
  subst hsz
  have hD := hD0.self (sz := s.heap.size)
  generalize hAe : va_A [(xo, .inr (6, [.ref xg, .int gc, .ref xp, .int pc, .ref xq, .int qc, .ref r1, .ref r2, .ref r3, .ref r4, .ref se, .int ts, .int hou, .int dr, .int su, .int br])), (xq, .inl (cq, 16, .inr (.inr (.inr (.inr (zq [none, none, none, none, none, none, none, none, none, none, none, none, none, none, none, none]))))))] s.heap.size = A at hD hZ ⊢
  have hA : ∀ q : Nat, s.heap.size ≤ q → A q := fun q h => by rw [← hAe]; exact Or.inr h
  have hS : va_S A s.heap s.heap [] := va_S.rf
  have hl := lv_entry ([.ref xo, .int 0]) (n := 2) (Nat.le_of_ble_eq_true rfl)
  rw [lg_entry_eq]
  generalize (lg_sl ([.ref xo, .int 0]) ++ List.replicate (2 - (lg_sl ([.ref xo, .int 0])).length) Slot.unset).toArray = ls at hl ⊢
  have hl : lv_has ls 2 [(0, .ref xo), (1, .int 0)] := hl
  refine lv_aload_n hx hb dX6_layers_0 rfl (lv_at hl 0 rfl) ?_
  refine lv_iload_n hx hb dX6_layers_1 rfl (lv_at hl 1 rfl) ?_
  have hFc := va_free (wc := [(xo, .inr (6, [.ref xg, .int gc, .ref xp, .int pc, .ref xq, .int qc, .ref r1, .ref r2, .ref r3, .ref r4, .ref se, .int ts, .int hou, .int dr, .int su, .int br])), (xq, .inl (cq, 16, .inr (.inr (.inr (.inr (zq [none, none, none, none, none, none, none, none, none, none, none, none, none, none, none, none]))))))]) hD hS hA [0, 1] rfl
  refine vx_callq (vx_runV (As := [.int 0]) (rest := []) ⟨hx, hb, hml, hown, hts⟩ (zc_X6_findPiece_no l hnt D G xo 0 xg gc xp pc xq qc r1 r2 r3 r4 se ts hou dr su br cq (zq [none, none, none, none, none, none, none, none, none, none, none, none, none, none, none, none]) s.heap.size (by first | assumption | rfl | omega | exact Nat.le_trans (zS_le _ _ _) (by omega) | decide) (by first | assumption | rfl | omega | exact Nat.le_trans (zS_le _ _ _) (by omega) | decide)) (cwV 1 hts gzX6_layers_no_X6_findPiece_no_169 rfl rfl rfl (by decide +kernel) ⟨(Nat.le_of_ble_eq_true rfl), (Nat.le_of_ble_eq_true rfl)⟩) ⟨p_RW_blind, va_recv hK hP (ci := 6) (q0 := 0) rfl rfl, (p_RW_at (tc := [(cq, .object "Gatherhouse$Piece")]) (wc := [(xo, .inr (6, [.ref xg, .int gc, .ref xp, .int pc, .ref xq, .int qc, .ref r1, .ref r2, .ref r3, .ref r4, .ref se, .int ts, .int hou, .int dr, .int su, .int br])), (xq, .inl (cq, 16, .inr (.inr (.inr (.inr (zq [none, none, none, none, none, none, none, none, none, none, none, none, none, none, none, none]))))))]) hP hK hD hS hA hT hZ [0, 1] [0] rfl rfl (by decide) rfl [.ref xo, .int 0])⟩ rfl rfl hl.1 rfl (lv_room (Nat.le_of_ble_eq_true rfl)) dX6_layers_2 ⟨(Nat.le_of_ble_eq_true rfl), (Nat.le_of_ble_eq_true rfl)⟩) hS (fun q _ h => hFc q h) hFc (fun q _ h => hFc q h) (fun E ce q9 u t H locs ht hvm hpx hBX hz1 hk1 hS hce hcv hcl => ?_) (fun r_174 u t H locs ht hvm w_175 hB hz1 hk1 hS => ?_)
  · obtain ⟨hBX, hB⟩ := hBX
    obtain ⟨hP, hD, hK⟩ := q_join (D := D) (wc := [(xo, .inr (6, [.ref xg, .int gc, .ref xp, .int pc, .ref xq, .int qc, .ref r1, .ref r2, .ref r3, .ref r4, .ref se, .int ts, .int hou, .int dr, .int su, .int br])), (xq, .inl (cq, 16, .inr (.inr (.inr (.inr (zq [none, none, none, none, none, none, none, none, none, none, none, none, none, none, none, none]))))))]) (wr := []) (w1 := [(xo, .inr (6, [.ref xg, .int gc, .ref xp, .int pc, .ref xq, .int qc, .ref r1, .ref r2, .ref r3, .ref r4, .ref se, .int ts, .int hou, .int dr, .int su, .int br])), (xq, .inl (cq, 16, .inr (.inr (.inr (.inr (zq [none, none, none, none, none, none, none, none, none, none, none, none, none, none, none, none]))))))]) (tyr := []) (ty1 := [(cq, .object "Gatherhouse$Piece")]) hP hD hK [0, 1] [] [] rfl rfl (by decide) (by decide) rfl hFc hk1 ht hvm hB
    have hP : va_P D vwCl [(xo, .inr (6, [.ref xg, .int gc, .ref xp, .int pc, .ref xq, .int qc, .ref r1, .ref r2, .ref r3, .ref r4, .ref se, .int ts, .int hou, .int dr, .int su, .int br])), (xq, .inl (cq, 16, .inr (.inr (.inr (.inr (zq [none, none, none, none, none, none, none, none, none, none, none, none, none, none, none, none]))))))] H := hP
    have hD : va_D A [(xo, .inr (6, [.ref xg, .int gc, .ref xp, .int pc, .ref xq, .int qc, .ref r1, .ref r2, .ref r3, .ref r4, .ref se, .int ts, .int hou, .int dr, .int su, .int br])), (xq, .inl (cq, 16, .inr (.inr (.inr (.inr (zq [none, none, none, none, none, none, none, none, none, none, none, none, none, none, none, none]))))))] := hD
    have hK : va_K D vwCl [(cq, .object "Gatherhouse$Piece")] s := hK
    have hBX : (E = "java/lang/IndexOutOfBoundsException") := hBX
    rcases hBX with rfl
    exact vx_out (fun x h => (hxt x h).elim) hlocks hce hcv hcl (fun t ht hW9 => ⟨(), trivial, ⟨rfl, q_RW_mk hP hK hD [0, 1] [0] rfl rfl (by decide) rfl ht hW9⟩, hS.F ht⟩) hS.2.2 (Nat.le_of_ble_eq_true rfl) (Nat.le_of_ble_eq_true rfl)
  · exact w_175.elim
theorem dX6_flaws_0 : decode cX6_flaws 0 = .ok (.aload_n 0, 1) := by decide +kernel
theorem dX6_flaws_1 : decode cX6_flaws 1 = .ok (.iload_n 1, 1) := by decide +kernel
theorem dX6_flaws_2 : decode cX6_flaws 2 = .ok (.invokevirtual 169, 3) := by decide +kernel
def wzEX6_flaws_no : List Cond := [.code yX6_flaws cX6_flaws 2 (some .int), .methodLink RX6 169 yX6_findPiece, .instanceMethod yX6_findPiece, .selects RX6 yX6_findPiece yX6_findPiece, .initialized RX6, .code yX6_findPiece cX6_findPiece 3 (some (.object "Gatherhouse$Piece")), .fieldLink RX6 30 "Gatherhouse" "pieces" "[LGatherhouse$Piece;", .classLink RX6 365 "java/lang/IndexOutOfBoundsException", .initialized "java/lang/IndexOutOfBoundsException"]
def wzX6_flaws_no : List Cond := wzEX6_flaws_no ++ (u_ws RX6 TX6 16 ++ ((vx_atS RX6 369 "java/lang/IndexOutOfBoundsException" ["java/lang/RuntimeException", "java/lang/Exception"]).filter goodWord))
theorem zgEX6_flaws_no : wzEX6_flaws_no.all goodWord = true := by decide +kernel
theorem zuX6_flaws_no_X6 : ∀ w ∈ u_ws RX6 TX6 16, w ∈ wzX6_flaws_no := (fun _ h => (List.mem_append_right _ (List.mem_append_left _ h)))
theorem ztX6_flaws_no_X6_369 : ∀ w ∈ (vx_atS RX6 369 "java/lang/IndexOutOfBoundsException" ["java/lang/RuntimeException", "java/lang/Exception"]).filter goodWord, w ∈ wzX6_flaws_no := (fun _ h => (List.mem_append_right _ (List.mem_append_right _ h)))
theorem gzX6_flaws_no_X6_findPiece_no_169 : GoodIn wzX6_flaws_no (wsV RX6 169 RX6 yX6_findPiece wzX6_findPiece_no) := (goodIn_app (z_lift (goodIn_r _ [1, 2, 3, 4] rfl (by decide +kernel))) (goodIn_app (z_lift (goodIn_r wzEX6_findPiece_no [5, 6, 7, 8] rfl zgEX6_findPiece_no)) (goodIn_app (goodIn_sub (fun _ h => (List.mem_append_right _ (List.mem_append_left _ h))) zgU_X6) (goodIn_sub (fun _ h => (List.mem_append_right _ (List.mem_append_right _ h))) zgV_X6_369))))
set_option maxHeartbeats 4000000 in
set_option maxRecDepth 100000 in
theorem zc_X6_flaws_no (l : Launch) (hnt : l.stackTraces = false) (D : va_G) (G : Nat × Nat × (Nat → Int32)) (xo : Nat) (xg : Nat) (gc : Int32) (xp : Nat) (pc : Int32) (xq : Nat) (qc : Int32) (r1 : Nat) (r2 : Nat) (r3 : Nat) (r4 : Nat) (se : Nat) (ts : Int32) (hou : Int32) (dr : Int32) (su : Int32) (br : Int32) (cq : ClassId) (sz : Nat) : vx_Met l yX6_flaws wzX6_flaws_no ({ frames := 7, cells := 1, slots := 6, locals := 104 }) (va_Pc [.ref xo, .int 0] (p_RW D G [(cq, .object "Gatherhouse$Piece")] [(xo, .inr (6, [.ref xg, .int gc, .ref xp, .int pc, .ref xq, .int qc, .ref r1, .ref r2, .ref r3, .ref r4, .ref se, .int ts, .int hou, .int dr, .int su, .int br])), (xq, .inl (cq, 16, .inr (.inr (.inr (.inr (zq [none, none, none, none, none, none, none, none, none, none, none, none, none, none, none, none]))))))] sz)) (va_Qi (fun (r : Int32) (u : Unit) => False) (fun (u : Unit) (t : State) => q_RW D [(cq, .object "Gatherhouse$Piece")] [(xo, .inr (6, [.ref xg, .int gc, .ref xp, .int pc, .ref xq, .int qc, .ref r1, .ref r2, .ref r3, .ref r4, .ref se, .int ts, .int hou, .int dr, .int su, .int br])), (xq, .inl (cq, 16, .inr (.inr (.inr (.inr (zq [none, none, none, none, none, none, none, none, none, none, none, none, none, none, none, none]))))))] (va_A [(xo, .inr (6, [.ref xg, .int gc, .ref xp, .int pc, .ref xq, .int qc, .ref r1, .ref r2, .ref r3, .ref r4, .ref se, .int ts, .int hou, .int dr, .int su, .int br])), (xq, .inl (cq, 16, .inr (.inr (.inr (.inr (zq [none, none, none, none, none, none, none, none, none, none, none, none, none, none, none, none]))))))] sz) t) (va_A [(xo, .inr (6, [.ref xg, .int gc, .ref xp, .int pc, .ref xq, .int qc, .ref r1, .ref r2, .ref r3, .ref r4, .ref se, .int ts, .int hou, .int dr, .int su, .int br])), (xq, .inl (cq, 16, .inr (.inr (.inr (.inr (zq [none, none, none, none, none, none, none, none, none, none, none, none, none, none, none, none]))))))] sz)) (vx_X (fun (_ : Unit) => True) (fun E (_ : Unit) (t : State) => ((E = "java/lang/IndexOutOfBoundsException")) ∧ q_RW D [(cq, .object "Gatherhouse$Piece")] [(xo, .inr (6, [.ref xg, .int gc, .ref xp, .int pc, .ref xq, .int qc, .ref r1, .ref r2, .ref r3, .ref r4, .ref se, .int ts, .int hou, .int dr, .int su, .int br])), (xq, .inl (cq, 16, .inr (.inr (.inr (.inr (zq [none, none, none, none, none, none, none, none, none, none, none, none, none, none, none, none]))))))] (va_A [(xo, .inr (6, [.ref xg, .int gc, .ref xp, .int pc, .ref xq, .int qc, .ref r1, .ref r2, .ref r3, .ref r4, .ref se, .int ts, .int hou, .int dr, .int su, .int br])), (xq, .inl (cq, 16, .inr (.inr (.inr (.inr (zq [none, none, none, none, none, none, none, none, none, none, none, none, none, none, none, none]))))))] sz) t) (va_A [(xo, .inr (6, [.ref xg, .int gc, .ref xp, .int pc, .ref xq, .int qc, .ref r1, .ref r2, .ref r3, .ref r4, .ref se, .int ts, .int hou, .int dr, .int su, .int br])), (xq, .inl (cq, 16, .inr (.inr (.inr (.inr (zq [none, none, none, none, none, none, none, none, none, none, none, none, none, none, none, none]))))))] sz)) 1 6 (va_A [(xo, .inr (6, [.ref xg, .int gc, .ref xp, .int pc, .ref xq, .int qc, .ref r1, .ref r2, .ref r3, .ref r4, .ref se, .int ts, .int hou, .int dr, .int su, .int br])), (xq, .inl (cq, 16, .inr (.inr (.inr (.inr (zq [none, none, none, none, none, none, none, none, none, none, none, none, none, none, none, none]))))))] sz) := by
  refine vx_ofW (cc := cX6_flaws) (maxL := 2) (ret := (some .int)) (by decide) rfl ?_
  intro p e s m args below meth c s₁ B hml hxt hv
  obtain ⟨rfl, hsz, hP, hK, hD0, hT, hZ⟩ := hv
  have hx := B.exec
  have hb := B.bytes
  have hr := B.returns
  have hts := atoms_spec (ws := wzX6_flaws_no) B.pre
  have hown : s.vm.findClass RX6 = some m.cls := findClass_of_methodNamed B.named
  have hlocks := B.notSynchronized
  subst hsz
  have hD := hD0.self (sz := s.heap.size)
  generalize hAe : va_A [(xo, .inr (6, [.ref xg, .int gc, .ref xp, .int pc, .ref xq, .int qc, .ref r1, .ref r2, .ref r3, .ref r4, .ref se, .int ts, .int hou, .int dr, .int su, .int br])), (xq, .inl (cq, 16, .inr (.inr (.inr (.inr (zq [none, none, none, none, none, none, none, none, none, none, none, none, none, none, none, none]))))))] s.heap.size = A at hD hZ ⊢
  have hA : ∀ q : Nat, s.heap.size ≤ q → A q := fun q h => by rw [← hAe]; exact Or.inr h
  have hS : va_S A s.heap s.heap [] := va_S.rf
  have hl := lv_entry ([.ref xo, .int 0]) (n := 2) (Nat.le_of_ble_eq_true rfl)
  rw [lg_entry_eq]
  generalize (lg_sl ([.ref xo, .int 0]) ++ List.replicate (2 - (lg_sl ([.ref xo, .int 0])).length) Slot.unset).toArray = ls at hl ⊢
  have hl : lv_has ls 2 [(0, .ref xo), (1, .int 0)] := hl
  refine lv_aload_n hx hb dX6_flaws_0 rfl (lv_at hl 0 rfl) ?_
  refine lv_iload_n hx hb dX6_flaws_1 rfl (lv_at hl 1 rfl) ?_
  have hFc := va_free (wc := [(xo, .inr (6, [.ref xg, .int gc, .ref xp, .int pc, .ref xq, .int qc, .ref r1, .ref r2, .ref r3, .ref r4, .ref se, .int ts, .int hou, .int dr, .int su, .int br])), (xq, .inl (cq, 16, .inr (.inr (.inr (.inr (zq [none, none, none, none, none, none, none, none, none, none, none, none, none, none, none, none]))))))]) hD hS hA [0, 1] rfl
  refine vx_callq (vx_runV (As := [.int 0]) (rest := []) ⟨hx, hb, hml, hown, hts⟩ (zc_X6_findPiece_no l hnt D G xo 0 xg gc xp pc xq qc r1 r2 r3 r4 se ts hou dr su br cq (zq [none, none, none, none, none, none, none, none, none, none, none, none, none, none, none, none]) s.heap.size (by first | assumption | rfl | omega | exact Nat.le_trans (zS_le _ _ _) (by omega) | decide) (by first | assumption | rfl | omega | exact Nat.le_trans (zS_le _ _ _) (by omega) | decide)) (cwV 1 hts gzX6_flaws_no_X6_findPiece_no_169 rfl rfl rfl (by decide +kernel) ⟨(Nat.le_of_ble_eq_true rfl), (Nat.le_of_ble_eq_true rfl)⟩) ⟨p_RW_blind, va_recv hK hP (ci := 6) (q0 := 0) rfl rfl, (p_RW_at (tc := [(cq, .object "Gatherhouse$Piece")]) (wc := [(xo, .inr (6, [.ref xg, .int gc, .ref xp, .int pc, .ref xq, .int qc, .ref r1, .ref r2, .ref r3, .ref r4, .ref se, .int ts, .int hou, .int dr, .int su, .int br])), (xq, .inl (cq, 16, .inr (.inr (.inr (.inr (zq [none, none, none, none, none, none, none, none, none, none, none, none, none, none, none, none]))))))]) hP hK hD hS hA hT hZ [0, 1] [0] rfl rfl (by decide) rfl [.ref xo, .int 0])⟩ rfl rfl hl.1 rfl (lv_room (Nat.le_of_ble_eq_true rfl)) dX6_flaws_2 ⟨(Nat.le_of_ble_eq_true rfl), (Nat.le_of_ble_eq_true rfl)⟩) hS (fun q _ h => hFc q h) hFc (fun q _ h => hFc q h) (fun E ce q9 u t H locs ht hvm hpx hBX hz1 hk1 hS hce hcv hcl => ?_) (fun r_176 u t H locs ht hvm w_177 hB hz1 hk1 hS => ?_)
  · obtain ⟨hBX, hB⟩ := hBX
    obtain ⟨hP, hD, hK⟩ := q_join (D := D) (wc := [(xo, .inr (6, [.ref xg, .int gc, .ref xp, .int pc, .ref xq, .int qc, .ref r1, .ref r2, .ref r3, .ref r4, .ref se, .int ts, .int hou, .int dr, .int su, .int br])), (xq, .inl (cq, 16, .inr (.inr (.inr (.inr (zq [none, none, none, none, none, none, none, none, none, none, none, none, none, none, none, none]))))))]) (wr := []) (w1 := [(xo, .inr (6, [.ref xg, .int gc, .ref xp, .int pc, .ref xq, .int qc, .ref r1, .ref r2, .ref r3, .ref r4, .ref se, .int ts, .int hou, .int dr, .int su, .int br])), (xq, .inl (cq, 16, .inr (.inr (.inr (.inr (zq [none, none, none, none, none, none, none, none, none, none, none, none, none, none, none, none]))))))]) (tyr := []) (ty1 := [(cq, .object "Gatherhouse$Piece")]) hP hD hK [0, 1] [] [] rfl rfl (by decide) (by decide) rfl hFc hk1 ht hvm hB
    have hP : va_P D vwCl [(xo, .inr (6, [.ref xg, .int gc, .ref xp, .int pc, .ref xq, .int qc, .ref r1, .ref r2, .ref r3, .ref r4, .ref se, .int ts, .int hou, .int dr, .int su, .int br])), (xq, .inl (cq, 16, .inr (.inr (.inr (.inr (zq [none, none, none, none, none, none, none, none, none, none, none, none, none, none, none, none]))))))] H := hP
    have hD : va_D A [(xo, .inr (6, [.ref xg, .int gc, .ref xp, .int pc, .ref xq, .int qc, .ref r1, .ref r2, .ref r3, .ref r4, .ref se, .int ts, .int hou, .int dr, .int su, .int br])), (xq, .inl (cq, 16, .inr (.inr (.inr (.inr (zq [none, none, none, none, none, none, none, none, none, none, none, none, none, none, none, none]))))))] := hD
    have hK : va_K D vwCl [(cq, .object "Gatherhouse$Piece")] s := hK
    have hBX : (E = "java/lang/IndexOutOfBoundsException") := hBX
    rcases hBX with rfl
    exact vx_out (fun x h => (hxt x h).elim) hlocks hce hcv hcl (fun t ht hW9 => ⟨(), trivial, ⟨rfl, q_RW_mk hP hK hD [0, 1] [0] rfl rfl (by decide) rfl ht hW9⟩, hS.F ht⟩) hS.2.2 (Nat.le_of_ble_eq_true rfl) (Nat.le_of_ble_eq_true rfl)
  · exact w_177.elim
theorem dX6_low_0 : decode cX6_low 0 = .ok (.aload_n 0, 1) := by decide +kernel
theorem dX6_low_1 : decode cX6_low 1 = .ok (.iload_n 1, 1) := by decide +kernel
theorem dX6_low_2 : decode cX6_low 2 = .ok (.invokevirtual 169, 3) := by decide +kernel
def wzEX6_low_no : List Cond := [.code yX6_low cX6_low 4 (some .int), .methodLink RX6 169 yX6_findPiece, .instanceMethod yX6_findPiece, .selects RX6 yX6_findPiece yX6_findPiece, .initialized RX6, .code yX6_findPiece cX6_findPiece 3 (some (.object "Gatherhouse$Piece")), .fieldLink RX6 30 "Gatherhouse" "pieces" "[LGatherhouse$Piece;", .classLink RX6 365 "java/lang/IndexOutOfBoundsException", .initialized "java/lang/IndexOutOfBoundsException"]
def wzX6_low_no : List Cond := wzEX6_low_no ++ (u_ws RX6 TX6 16 ++ ((vx_atS RX6 369 "java/lang/IndexOutOfBoundsException" ["java/lang/RuntimeException", "java/lang/Exception"]).filter goodWord))
theorem zgEX6_low_no : wzEX6_low_no.all goodWord = true := by decide +kernel
theorem zuX6_low_no_X6 : ∀ w ∈ u_ws RX6 TX6 16, w ∈ wzX6_low_no := (fun _ h => (List.mem_append_right _ (List.mem_append_left _ h)))
theorem ztX6_low_no_X6_369 : ∀ w ∈ (vx_atS RX6 369 "java/lang/IndexOutOfBoundsException" ["java/lang/RuntimeException", "java/lang/Exception"]).filter goodWord, w ∈ wzX6_low_no := (fun _ h => (List.mem_append_right _ (List.mem_append_right _ h)))
theorem gzX6_low_no_X6_findPiece_no_169 : GoodIn wzX6_low_no (wsV RX6 169 RX6 yX6_findPiece wzX6_findPiece_no) := (goodIn_app (z_lift (goodIn_r _ [1, 2, 3, 4] rfl (by decide +kernel))) (goodIn_app (z_lift (goodIn_r wzEX6_findPiece_no [5, 6, 7, 8] rfl zgEX6_findPiece_no)) (goodIn_app (goodIn_sub (fun _ h => (List.mem_append_right _ (List.mem_append_left _ h))) zgU_X6) (goodIn_sub (fun _ h => (List.mem_append_right _ (List.mem_append_right _ h))) zgV_X6_369))))
set_option maxHeartbeats 4000000 in
set_option maxRecDepth 100000 in
theorem zc_X6_low_no (l : Launch) (hnt : l.stackTraces = false) (D : va_G) (G : Nat × Nat × (Nat → Int32)) (xo : Nat) (xg : Nat) (gc : Int32) (xp : Nat) (pc : Int32) (xq : Nat) (qc : Int32) (r1 : Nat) (r2 : Nat) (r3 : Nat) (r4 : Nat) (se : Nat) (ts : Int32) (hou : Int32) (dr : Int32) (su : Int32) (br : Int32) (cq : ClassId) (sz : Nat) : vx_Met l yX6_low wzX6_low_no ({ frames := 7, cells := 1, slots := 6, locals := 104 }) (va_Pc [.ref xo, .int 0, .int 0] (p_RW D G [(cq, .object "Gatherhouse$Piece")] [(xo, .inr (6, [.ref xg, .int gc, .ref xp, .int pc, .ref xq, .int qc, .ref r1, .ref r2, .ref r3, .ref r4, .ref se, .int ts, .int hou, .int dr, .int su, .int br])), (xq, .inl (cq, 16, .inr (.inr (.inr (.inr (zq [none, none, none, none, none, none, none, none, none, none, none, none, none, none, none, none]))))))] sz)) (va_Qi (fun (r : Int32) (u : Unit) => False) (fun (u : Unit) (t : State) => q_RW D [(cq, .object "Gatherhouse$Piece")] [(xo, .inr (6, [.ref xg, .int gc, .ref xp, .int pc, .ref xq, .int qc, .ref r1, .ref r2, .ref r3, .ref r4, .ref se, .int ts, .int hou, .int dr, .int su, .int br])), (xq, .inl (cq, 16, .inr (.inr (.inr (.inr (zq [none, none, none, none, none, none, none, none, none, none, none, none, none, none, none, none]))))))] (va_A [(xo, .inr (6, [.ref xg, .int gc, .ref xp, .int pc, .ref xq, .int qc, .ref r1, .ref r2, .ref r3, .ref r4, .ref se, .int ts, .int hou, .int dr, .int su, .int br])), (xq, .inl (cq, 16, .inr (.inr (.inr (.inr (zq [none, none, none, none, none, none, none, none, none, none, none, none, none, none, none, none]))))))] sz) t) (va_A [(xo, .inr (6, [.ref xg, .int gc, .ref xp, .int pc, .ref xq, .int qc, .ref r1, .ref r2, .ref r3, .ref r4, .ref se, .int ts, .int hou, .int dr, .int su, .int br])), (xq, .inl (cq, 16, .inr (.inr (.inr (.inr (zq [none, none, none, none, none, none, none, none, none, none, none, none, none, none, none, none]))))))] sz)) (vx_X (fun (_ : Unit) => True) (fun E (_ : Unit) (t : State) => ((E = "java/lang/IndexOutOfBoundsException")) ∧ q_RW D [(cq, .object "Gatherhouse$Piece")] [(xo, .inr (6, [.ref xg, .int gc, .ref xp, .int pc, .ref xq, .int qc, .ref r1, .ref r2, .ref r3, .ref r4, .ref se, .int ts, .int hou, .int dr, .int su, .int br])), (xq, .inl (cq, 16, .inr (.inr (.inr (.inr (zq [none, none, none, none, none, none, none, none, none, none, none, none, none, none, none, none]))))))] (va_A [(xo, .inr (6, [.ref xg, .int gc, .ref xp, .int pc, .ref xq, .int qc, .ref r1, .ref r2, .ref r3, .ref r4, .ref se, .int ts, .int hou, .int dr, .int su, .int br])), (xq, .inl (cq, 16, .inr (.inr (.inr (.inr (zq [none, none, none, none, none, none, none, none, none, none, none, none, none, none, none, none]))))))] sz) t) (va_A [(xo, .inr (6, [.ref xg, .int gc, .ref xp, .int pc, .ref xq, .int qc, .ref r1, .ref r2, .ref r3, .ref r4, .ref se, .int ts, .int hou, .int dr, .int su, .int br])), (xq, .inl (cq, 16, .inr (.inr (.inr (.inr (zq [none, none, none, none, none, none, none, none, none, none, none, none, none, none, none, none]))))))] sz)) 1 6 (va_A [(xo, .inr (6, [.ref xg, .int gc, .ref xp, .int pc, .ref xq, .int qc, .ref r1, .ref r2, .ref r3, .ref r4, .ref se, .int ts, .int hou, .int dr, .int su, .int br])), (xq, .inl (cq, 16, .inr (.inr (.inr (.inr (zq [none, none, none, none, none, none, none, none, none, none, none, none, none, none, none, none]))))))] sz) := by
  refine vx_ofW (cc := cX6_low) (maxL := 4) (ret := (some .int)) (by decide) rfl ?_
  intro p e s m args below meth c s₁ B hml hxt hv
  obtain ⟨rfl, hsz, hP, hK, hD0, hT, hZ⟩ := hv
  have hx := B.exec
  have hb := B.bytes
  have hr := B.returns
  have hts := atoms_spec (ws := wzX6_low_no) B.pre
  have hown : s.vm.findClass RX6 = some m.cls := findClass_of_methodNamed B.named
  have hlocks := B.notSynchronized
  subst hsz
  have hD := hD0.self (sz := s.heap.size)
  generalize hAe : va_A [(xo, .inr (6, [.ref xg, .int gc, .ref xp, .int pc, .ref xq, .int qc, .ref r1, .ref r2, .ref r3, .ref r4, .ref se, .int ts, .int hou, .int dr, .int su, .int br])), (xq, .inl (cq, 16, .inr (.inr (.inr (.inr (zq [none, none, none, none, none, none, none, none, none, none, none, none, none, none, none, none]))))))] s.heap.size = A at hD hZ ⊢
  have hA : ∀ q : Nat, s.heap.size ≤ q → A q := fun q h => by rw [← hAe]; exact Or.inr h
  have hS : va_S A s.heap s.heap [] := va_S.rf
  have hl := lv_entry ([.ref xo, .int 0, .int 0]) (n := 4) (Nat.le_of_ble_eq_true rfl)
  rw [lg_entry_eq]
  generalize (lg_sl ([.ref xo, .int 0, .int 0]) ++ List.replicate (4 - (lg_sl ([.ref xo, .int 0, .int 0])).length) Slot.unset).toArray = ls at hl ⊢
  have hl : lv_has ls 4 [(0, .ref xo), (1, .int 0), (2, .int 0)] := hl
  refine lv_aload_n hx hb dX6_low_0 rfl (lv_at hl 0 rfl) ?_
  refine lv_iload_n hx hb dX6_low_1 rfl (lv_at hl 1 rfl) ?_
  have hFc := va_free (wc := [(xo, .inr (6, [.ref xg, .int gc, .ref xp, .int pc, .ref xq, .int qc, .ref r1, .ref r2, .ref r3, .ref r4, .ref se, .int ts, .int hou, .int dr, .int su, .int br])), (xq, .inl (cq, 16, .inr (.inr (.inr (.inr (zq [none, none, none, none, none, none, none, none, none, none, none, none, none, none, none, none]))))))]) hD hS hA [0, 1] rfl
  refine vx_callq (vx_runV (As := [.int 0]) (rest := []) ⟨hx, hb, hml, hown, hts⟩ (zc_X6_findPiece_no l hnt D G xo 0 xg gc xp pc xq qc r1 r2 r3 r4 se ts hou dr su br cq (zq [none, none, none, none, none, none, none, none, none, none, none, none, none, none, none, none]) s.heap.size (by first | assumption | rfl | omega | exact Nat.le_trans (zS_le _ _ _) (by omega) | decide) (by first | assumption | rfl | omega | exact Nat.le_trans (zS_le _ _ _) (by omega) | decide)) (cwV 1 hts gzX6_low_no_X6_findPiece_no_169 rfl rfl rfl (by decide +kernel) ⟨(Nat.le_of_ble_eq_true rfl), (Nat.le_of_ble_eq_true rfl)⟩) ⟨p_RW_blind, va_recv hK hP (ci := 6) (q0 := 0) rfl rfl, (p_RW_at (tc := [(cq, .object "Gatherhouse$Piece")]) (wc := [(xo, .inr (6, [.ref xg, .int gc, .ref xp, .int pc, .ref xq, .int qc, .ref r1, .ref r2, .ref r3, .ref r4, .ref se, .int ts, .int hou, .int dr, .int su, .int br])), (xq, .inl (cq, 16, .inr (.inr (.inr (.inr (zq [none, none, none, none, none, none, none, none, none, none, none, none, none, none, none, none]))))))]) hP hK hD hS hA hT hZ [0, 1] [0] rfl rfl (by decide) rfl [.ref xo, .int 0])⟩ rfl rfl hl.1 rfl (lv_room (Nat.le_of_ble_eq_true rfl)) dX6_low_2 ⟨(Nat.le_of_ble_eq_true rfl), (Nat.le_of_ble_eq_true rfl)⟩) hS (fun q _ h => hFc q h) hFc (fun q _ h => hFc q h) (fun E ce q9 u t H locs ht hvm hpx hBX hz1 hk1 hS hce hcv hcl => ?_) (fun r_178 u t H locs ht hvm w_179 hB hz1 hk1 hS => ?_)
  · obtain ⟨hBX, hB⟩ := hBX
    obtain ⟨hP, hD, hK⟩ := q_join (D := D) (wc := [(xo, .inr (6, [.ref xg, .int gc, .ref xp, .int pc, .ref xq, .int qc, .ref r1, .ref r2, .ref r3, .ref r4, .ref se, .int ts, .int hou, .int dr, .int su, .int br])), (xq, .inl (cq, 16, .inr (.inr (.inr (.inr (zq [none, none, none, none, none, none, none, none, none, none, none, none, none, none, none, none]))))))]) (wr := []) (w1 := [(xo, .inr (6, [.ref xg, .int gc, .ref xp, .int pc, .ref xq, .int qc, .ref r1, .ref r2, .ref r3, .ref r4, .ref se, .int ts, .int hou, .int dr, .int su, .int br])), (xq, .inl (cq, 16, .inr (.inr (.inr (.inr (zq [none, none, none, none, none, none, none, none, none, none, none, none, none, none, none, none]))))))]) (tyr := []) (ty1 := [(cq, .object "Gatherhouse$Piece")]) hP hD hK [0, 1] [] [] rfl rfl (by decide) (by decide) rfl hFc hk1 ht hvm hB
    have hP : va_P D vwCl [(xo, .inr (6, [.ref xg, .int gc, .ref xp, .int pc, .ref xq, .int qc, .ref r1, .ref r2, .ref r3, .ref r4, .ref se, .int ts, .int hou, .int dr, .int su, .int br])), (xq, .inl (cq, 16, .inr (.inr (.inr (.inr (zq [none, none, none, none, none, none, none, none, none, none, none, none, none, none, none, none]))))))] H := hP
    have hD : va_D A [(xo, .inr (6, [.ref xg, .int gc, .ref xp, .int pc, .ref xq, .int qc, .ref r1, .ref r2, .ref r3, .ref r4, .ref se, .int ts, .int hou, .int dr, .int su, .int br])), (xq, .inl (cq, 16, .inr (.inr (.inr (.inr (zq [none, none, none, none, none, none, none, none, none, none, none, none, none, none, none, none]))))))] := hD
    have hK : va_K D vwCl [(cq, .object "Gatherhouse$Piece")] s := hK
    have hBX : (E = "java/lang/IndexOutOfBoundsException") := hBX
    rcases hBX with rfl
    exact vx_out (fun x h => (hxt x h).elim) hlocks hce hcv hcl (fun t ht hW9 => ⟨(), trivial, ⟨rfl, q_RW_mk hP hK hD [0, 1] [0] rfl rfl (by decide) rfl ht hW9⟩, hS.F ht⟩) hS.2.2 (Nat.le_of_ble_eq_true rfl) (Nat.le_of_ble_eq_true rfl)
  · exact w_179.elim
theorem dX6_strain_0 : decode cX6_strain 0 = .ok (.aload_n 0, 1) := by decide +kernel
theorem dX6_strain_1 : decode cX6_strain 1 = .ok (.iload_n 1, 1) := by decide +kernel
theorem dX6_strain_2 : decode cX6_strain 2 = .ok (.invokevirtual 169, 3) := by decide +kernel
def wzEX6_strain_no : List Cond := [.code yX6_strain cX6_strain 2 (some .int), .methodLink RX6 169 yX6_findPiece, .instanceMethod yX6_findPiece, .selects RX6 yX6_findPiece yX6_findPiece, .initialized RX6, .code yX6_findPiece cX6_findPiece 3 (some (.object "Gatherhouse$Piece")), .fieldLink RX6 30 "Gatherhouse" "pieces" "[LGatherhouse$Piece;", .classLink RX6 365 "java/lang/IndexOutOfBoundsException", .initialized "java/lang/IndexOutOfBoundsException"]
def wzX6_strain_no : List Cond := wzEX6_strain_no ++ (u_ws RX6 TX6 16 ++ ((vx_atS RX6 369 "java/lang/IndexOutOfBoundsException" ["java/lang/RuntimeException", "java/lang/Exception"]).filter goodWord))
theorem zgEX6_strain_no : wzEX6_strain_no.all goodWord = true := by decide +kernel
theorem zuX6_strain_no_X6 : ∀ w ∈ u_ws RX6 TX6 16, w ∈ wzX6_strain_no := (fun _ h => (List.mem_append_right _ (List.mem_append_left _ h)))
theorem ztX6_strain_no_X6_369 : ∀ w ∈ (vx_atS RX6 369 "java/lang/IndexOutOfBoundsException" ["java/lang/RuntimeException", "java/lang/Exception"]).filter goodWord, w ∈ wzX6_strain_no := (fun _ h => (List.mem_append_right _ (List.mem_append_right _ h)))
theorem gzX6_strain_no_X6_findPiece_no_169 : GoodIn wzX6_strain_no (wsV RX6 169 RX6 yX6_findPiece wzX6_findPiece_no) := (goodIn_app (z_lift (goodIn_r _ [1, 2, 3, 4] rfl (by decide +kernel))) (goodIn_app (z_lift (goodIn_r wzEX6_findPiece_no [5, 6, 7, 8] rfl zgEX6_findPiece_no)) (goodIn_app (goodIn_sub (fun _ h => (List.mem_append_right _ (List.mem_append_left _ h))) zgU_X6) (goodIn_sub (fun _ h => (List.mem_append_right _ (List.mem_append_right _ h))) zgV_X6_369))))
set_option maxHeartbeats 4000000 in
set_option maxRecDepth 100000 in
theorem zc_X6_strain_no (l : Launch) (hnt : l.stackTraces = false) (D : va_G) (G : Nat × Nat × (Nat → Int32)) (xo : Nat) (xg : Nat) (gc : Int32) (xp : Nat) (pc : Int32) (xq : Nat) (qc : Int32) (r1 : Nat) (r2 : Nat) (r3 : Nat) (r4 : Nat) (se : Nat) (ts : Int32) (hou : Int32) (dr : Int32) (su : Int32) (br : Int32) (cq : ClassId) (sz : Nat) : vx_Met l yX6_strain wzX6_strain_no ({ frames := 7, cells := 1, slots := 6, locals := 104 }) (va_Pc [.ref xo, .int 0] (p_RW D G [(cq, .object "Gatherhouse$Piece")] [(xo, .inr (6, [.ref xg, .int gc, .ref xp, .int pc, .ref xq, .int qc, .ref r1, .ref r2, .ref r3, .ref r4, .ref se, .int ts, .int hou, .int dr, .int su, .int br])), (xq, .inl (cq, 16, .inr (.inr (.inr (.inr (zq [none, none, none, none, none, none, none, none, none, none, none, none, none, none, none, none]))))))] sz)) (va_Qi (fun (r : Int32) (u : Unit) => False) (fun (u : Unit) (t : State) => q_RW D [(cq, .object "Gatherhouse$Piece")] [(xo, .inr (6, [.ref xg, .int gc, .ref xp, .int pc, .ref xq, .int qc, .ref r1, .ref r2, .ref r3, .ref r4, .ref se, .int ts, .int hou, .int dr, .int su, .int br])), (xq, .inl (cq, 16, .inr (.inr (.inr (.inr (zq [none, none, none, none, none, none, none, none, none, none, none, none, none, none, none, none]))))))] (va_A [(xo, .inr (6, [.ref xg, .int gc, .ref xp, .int pc, .ref xq, .int qc, .ref r1, .ref r2, .ref r3, .ref r4, .ref se, .int ts, .int hou, .int dr, .int su, .int br])), (xq, .inl (cq, 16, .inr (.inr (.inr (.inr (zq [none, none, none, none, none, none, none, none, none, none, none, none, none, none, none, none]))))))] sz) t) (va_A [(xo, .inr (6, [.ref xg, .int gc, .ref xp, .int pc, .ref xq, .int qc, .ref r1, .ref r2, .ref r3, .ref r4, .ref se, .int ts, .int hou, .int dr, .int su, .int br])), (xq, .inl (cq, 16, .inr (.inr (.inr (.inr (zq [none, none, none, none, none, none, none, none, none, none, none, none, none, none, none, none]))))))] sz)) (vx_X (fun (_ : Unit) => True) (fun E (_ : Unit) (t : State) => ((E = "java/lang/IndexOutOfBoundsException")) ∧ q_RW D [(cq, .object "Gatherhouse$Piece")] [(xo, .inr (6, [.ref xg, .int gc, .ref xp, .int pc, .ref xq, .int qc, .ref r1, .ref r2, .ref r3, .ref r4, .ref se, .int ts, .int hou, .int dr, .int su, .int br])), (xq, .inl (cq, 16, .inr (.inr (.inr (.inr (zq [none, none, none, none, none, none, none, none, none, none, none, none, none, none, none, none]))))))] (va_A [(xo, .inr (6, [.ref xg, .int gc, .ref xp, .int pc, .ref xq, .int qc, .ref r1, .ref r2, .ref r3, .ref r4, .ref se, .int ts, .int hou, .int dr, .int su, .int br])), (xq, .inl (cq, 16, .inr (.inr (.inr (.inr (zq [none, none, none, none, none, none, none, none, none, none, none, none, none, none, none, none]))))))] sz) t) (va_A [(xo, .inr (6, [.ref xg, .int gc, .ref xp, .int pc, .ref xq, .int qc, .ref r1, .ref r2, .ref r3, .ref r4, .ref se, .int ts, .int hou, .int dr, .int su, .int br])), (xq, .inl (cq, 16, .inr (.inr (.inr (.inr (zq [none, none, none, none, none, none, none, none, none, none, none, none, none, none, none, none]))))))] sz)) 1 6 (va_A [(xo, .inr (6, [.ref xg, .int gc, .ref xp, .int pc, .ref xq, .int qc, .ref r1, .ref r2, .ref r3, .ref r4, .ref se, .int ts, .int hou, .int dr, .int su, .int br])), (xq, .inl (cq, 16, .inr (.inr (.inr (.inr (zq [none, none, none, none, none, none, none, none, none, none, none, none, none, none, none, none]))))))] sz) := by
  refine vx_ofW (cc := cX6_strain) (maxL := 2) (ret := (some .int)) (by decide) rfl ?_
  intro p e s m args below meth c s₁ B hml hxt hv
  obtain ⟨rfl, hsz, hP, hK, hD0, hT, hZ⟩ := hv
  have hx := B.exec
  have hb := B.bytes
  have hr := B.returns
  have hts := atoms_spec (ws := wzX6_strain_no) B.pre
  have hown : s.vm.findClass RX6 = some m.cls := findClass_of_methodNamed B.named
  have hlocks := B.notSynchronized
  subst hsz
  have hD := hD0.self (sz := s.heap.size)
  generalize hAe : va_A [(xo, .inr (6, [.ref xg, .int gc, .ref xp, .int pc, .ref xq, .int qc, .ref r1, .ref r2, .ref r3, .ref r4, .ref se, .int ts, .int hou, .int dr, .int su, .int br])), (xq, .inl (cq, 16, .inr (.inr (.inr (.inr (zq [none, none, none, none, none, none, none, none, none, none, none, none, none, none, none, none]))))))] s.heap.size = A at hD hZ ⊢
  have hA : ∀ q : Nat, s.heap.size ≤ q → A q := fun q h => by rw [← hAe]; exact Or.inr h
  have hS : va_S A s.heap s.heap [] := va_S.rf
  have hl := lv_entry ([.ref xo, .int 0]) (n := 2) (Nat.le_of_ble_eq_true rfl)
  rw [lg_entry_eq]
  generalize (lg_sl ([.ref xo, .int 0]) ++ List.replicate (2 - (lg_sl ([.ref xo, .int 0])).length) Slot.unset).toArray = ls at hl ⊢
  have hl : lv_has ls 2 [(0, .ref xo), (1, .int 0)] := hl
  refine lv_aload_n hx hb dX6_strain_0 rfl (lv_at hl 0 rfl) ?_
  refine lv_iload_n hx hb dX6_strain_1 rfl (lv_at hl 1 rfl) ?_
  have hFc := va_free (wc := [(xo, .inr (6, [.ref xg, .int gc, .ref xp, .int pc, .ref xq, .int qc, .ref r1, .ref r2, .ref r3, .ref r4, .ref se, .int ts, .int hou, .int dr, .int su, .int br])), (xq, .inl (cq, 16, .inr (.inr (.inr (.inr (zq [none, none, none, none, none, none, none, none, none, none, none, none, none, none, none, none]))))))]) hD hS hA [0, 1] rfl
  refine vx_callq (vx_runV (As := [.int 0]) (rest := []) ⟨hx, hb, hml, hown, hts⟩ (zc_X6_findPiece_no l hnt D G xo 0 xg gc xp pc xq qc r1 r2 r3 r4 se ts hou dr su br cq (zq [none, none, none, none, none, none, none, none, none, none, none, none, none, none, none, none]) s.heap.size (by first | assumption | rfl | omega | exact Nat.le_trans (zS_le _ _ _) (by omega) | decide) (by first | assumption | rfl | omega | exact Nat.le_trans (zS_le _ _ _) (by omega) | decide)) (cwV 1 hts gzX6_strain_no_X6_findPiece_no_169 rfl rfl rfl (by decide +kernel) ⟨(Nat.le_of_ble_eq_true rfl), (Nat.le_of_ble_eq_true rfl)⟩) ⟨p_RW_blind, va_recv hK hP (ci := 6) (q0 := 0) rfl rfl, (p_RW_at (tc := [(cq, .object "Gatherhouse$Piece")]) (wc := [(xo, .inr (6, [.ref xg, .int gc, .ref xp, .int pc, .ref xq, .int qc, .ref r1, .ref r2, .ref r3, .ref r4, .ref se, .int ts, .int hou, .int dr, .int su, .int br])), (xq, .inl (cq, 16, .inr (.inr (.inr (.inr (zq [none, none, none, none, none, none, none, none, none, none, none, none, none, none, none, none]))))))]) hP hK hD hS hA hT hZ [0, 1] [0] rfl rfl (by decide) rfl [.ref xo, .int 0])⟩ rfl rfl hl.1 rfl (lv_room (Nat.le_of_ble_eq_true rfl)) dX6_strain_2 ⟨(Nat.le_of_ble_eq_true rfl), (Nat.le_of_ble_eq_true rfl)⟩) hS (fun q _ h => hFc q h) hFc (fun q _ h => hFc q h) (fun E ce q9 u t H locs ht hvm hpx hBX hz1 hk1 hS hce hcv hcl => ?_) (fun r_180 u t H locs ht hvm w_181 hB hz1 hk1 hS => ?_)
  · obtain ⟨hBX, hB⟩ := hBX
    obtain ⟨hP, hD, hK⟩ := q_join (D := D) (wc := [(xo, .inr (6, [.ref xg, .int gc, .ref xp, .int pc, .ref xq, .int qc, .ref r1, .ref r2, .ref r3, .ref r4, .ref se, .int ts, .int hou, .int dr, .int su, .int br])), (xq, .inl (cq, 16, .inr (.inr (.inr (.inr (zq [none, none, none, none, none, none, none, none, none, none, none, none, none, none, none, none]))))))]) (wr := []) (w1 := [(xo, .inr (6, [.ref xg, .int gc, .ref xp, .int pc, .ref xq, .int qc, .ref r1, .ref r2, .ref r3, .ref r4, .ref se, .int ts, .int hou, .int dr, .int su, .int br])), (xq, .inl (cq, 16, .inr (.inr (.inr (.inr (zq [none, none, none, none, none, none, none, none, none, none, none, none, none, none, none, none]))))))]) (tyr := []) (ty1 := [(cq, .object "Gatherhouse$Piece")]) hP hD hK [0, 1] [] [] rfl rfl (by decide) (by decide) rfl hFc hk1 ht hvm hB
    have hP : va_P D vwCl [(xo, .inr (6, [.ref xg, .int gc, .ref xp, .int pc, .ref xq, .int qc, .ref r1, .ref r2, .ref r3, .ref r4, .ref se, .int ts, .int hou, .int dr, .int su, .int br])), (xq, .inl (cq, 16, .inr (.inr (.inr (.inr (zq [none, none, none, none, none, none, none, none, none, none, none, none, none, none, none, none]))))))] H := hP
    have hD : va_D A [(xo, .inr (6, [.ref xg, .int gc, .ref xp, .int pc, .ref xq, .int qc, .ref r1, .ref r2, .ref r3, .ref r4, .ref se, .int ts, .int hou, .int dr, .int su, .int br])), (xq, .inl (cq, 16, .inr (.inr (.inr (.inr (zq [none, none, none, none, none, none, none, none, none, none, none, none, none, none, none, none]))))))] := hD
    have hK : va_K D vwCl [(cq, .object "Gatherhouse$Piece")] s := hK
    have hBX : (E = "java/lang/IndexOutOfBoundsException") := hBX
    rcases hBX with rfl
    exact vx_out (fun x h => (hxt x h).elim) hlocks hce hcv hcl (fun t ht hW9 => ⟨(), trivial, ⟨rfl, q_RW_mk hP hK hD [0, 1] [0] rfl rfl (by decide) rfl ht hW9⟩, hS.F ht⟩) hS.2.2 (Nat.le_of_ble_eq_true rfl) (Nat.le_of_ble_eq_true rfl)
  · exact w_181.elim
theorem dX6_isFirst_0 : decode cX6_isFirst 0 = .ok (.aload_n 0, 1) := by decide +kernel
theorem dX6_isFirst_1 : decode cX6_isFirst 1 = .ok (.iload_n 1, 1) := by decide +kernel
theorem dX6_isFirst_2 : decode cX6_isFirst 2 = .ok (.invokevirtual 169, 3) := by decide +kernel
def wzEX6_isFirst_no : List Cond := [.code yX6_isFirst cX6_isFirst 3 (some .boolean), .methodLink RX6 169 yX6_findPiece, .instanceMethod yX6_findPiece, .selects RX6 yX6_findPiece yX6_findPiece, .initialized RX6, .code yX6_findPiece cX6_findPiece 3 (some (.object "Gatherhouse$Piece")), .fieldLink RX6 30 "Gatherhouse" "pieces" "[LGatherhouse$Piece;", .classLink RX6 365 "java/lang/IndexOutOfBoundsException", .initialized "java/lang/IndexOutOfBoundsException"]
def wzX6_isFirst_no : List Cond := wzEX6_isFirst_no ++ (u_ws RX6 TX6 16 ++ ((vx_atS RX6 369 "java/lang/IndexOutOfBoundsException" ["java/lang/RuntimeException", "java/lang/Exception"]).filter goodWord))
theorem zgEX6_isFirst_no : wzEX6_isFirst_no.all goodWord = true := by decide +kernel
theorem zuX6_isFirst_no_X6 : ∀ w ∈ u_ws RX6 TX6 16, w ∈ wzX6_isFirst_no := (fun _ h => (List.mem_append_right _ (List.mem_append_left _ h)))
theorem ztX6_isFirst_no_X6_369 : ∀ w ∈ (vx_atS RX6 369 "java/lang/IndexOutOfBoundsException" ["java/lang/RuntimeException", "java/lang/Exception"]).filter goodWord, w ∈ wzX6_isFirst_no := (fun _ h => (List.mem_append_right _ (List.mem_append_right _ h)))
theorem gzX6_isFirst_no_X6_findPiece_no_169 : GoodIn wzX6_isFirst_no (wsV RX6 169 RX6 yX6_findPiece wzX6_findPiece_no) := (goodIn_app (z_lift (goodIn_r _ [1, 2, 3, 4] rfl (by decide +kernel))) (goodIn_app (z_lift (goodIn_r wzEX6_findPiece_no [5, 6, 7, 8] rfl zgEX6_findPiece_no)) (goodIn_app (goodIn_sub (fun _ h => (List.mem_append_right _ (List.mem_append_left _ h))) zgU_X6) (goodIn_sub (fun _ h => (List.mem_append_right _ (List.mem_append_right _ h))) zgV_X6_369))))
set_option maxHeartbeats 4000000 in
set_option maxRecDepth 100000 in
theorem zc_X6_isFirst_no (l : Launch) (hnt : l.stackTraces = false) (D : va_G) (G : Nat × Nat × (Nat → Int32)) (xo : Nat) (xg : Nat) (gc : Int32) (xp : Nat) (pc : Int32) (xq : Nat) (qc : Int32) (r1 : Nat) (r2 : Nat) (r3 : Nat) (r4 : Nat) (se : Nat) (ts : Int32) (hou : Int32) (dr : Int32) (su : Int32) (br : Int32) (cq : ClassId) (sz : Nat) : vx_Met l yX6_isFirst wzX6_isFirst_no ({ frames := 7, cells := 1, slots := 6, locals := 104 }) (va_Pc [.ref xo, .int 0] (p_RW D G [(cq, .object "Gatherhouse$Piece")] [(xo, .inr (6, [.ref xg, .int gc, .ref xp, .int pc, .ref xq, .int qc, .ref r1, .ref r2, .ref r3, .ref r4, .ref se, .int ts, .int hou, .int dr, .int su, .int br])), (xq, .inl (cq, 16, .inr (.inr (.inr (.inr (zq [none, none, none, none, none, none, none, none, none, none, none, none, none, none, none, none]))))))] sz)) (va_Qi (fun (r : Int32) (u : Unit) => False) (fun (u : Unit) (t : State) => q_RW D [(cq, .object "Gatherhouse$Piece")] [(xo, .inr (6, [.ref xg, .int gc, .ref xp, .int pc, .ref xq, .int qc, .ref r1, .ref r2, .ref r3, .ref r4, .ref se, .int ts, .int hou, .int dr, .int su, .int br])), (xq, .inl (cq, 16, .inr (.inr (.inr (.inr (zq [none, none, none, none, none, none, none, none, none, none, none, none, none, none, none, none]))))))] (va_A [(xo, .inr (6, [.ref xg, .int gc, .ref xp, .int pc, .ref xq, .int qc, .ref r1, .ref r2, .ref r3, .ref r4, .ref se, .int ts, .int hou, .int dr, .int su, .int br])), (xq, .inl (cq, 16, .inr (.inr (.inr (.inr (zq [none, none, none, none, none, none, none, none, none, none, none, none, none, none, none, none]))))))] sz) t) (va_A [(xo, .inr (6, [.ref xg, .int gc, .ref xp, .int pc, .ref xq, .int qc, .ref r1, .ref r2, .ref r3, .ref r4, .ref se, .int ts, .int hou, .int dr, .int su, .int br])), (xq, .inl (cq, 16, .inr (.inr (.inr (.inr (zq [none, none, none, none, none, none, none, none, none, none, none, none, none, none, none, none]))))))] sz)) (vx_X (fun (_ : Unit) => True) (fun E (_ : Unit) (t : State) => ((E = "java/lang/IndexOutOfBoundsException")) ∧ q_RW D [(cq, .object "Gatherhouse$Piece")] [(xo, .inr (6, [.ref xg, .int gc, .ref xp, .int pc, .ref xq, .int qc, .ref r1, .ref r2, .ref r3, .ref r4, .ref se, .int ts, .int hou, .int dr, .int su, .int br])), (xq, .inl (cq, 16, .inr (.inr (.inr (.inr (zq [none, none, none, none, none, none, none, none, none, none, none, none, none, none, none, none]))))))] (va_A [(xo, .inr (6, [.ref xg, .int gc, .ref xp, .int pc, .ref xq, .int qc, .ref r1, .ref r2, .ref r3, .ref r4, .ref se, .int ts, .int hou, .int dr, .int su, .int br])), (xq, .inl (cq, 16, .inr (.inr (.inr (.inr (zq [none, none, none, none, none, none, none, none, none, none, none, none, none, none, none, none]))))))] sz) t) (va_A [(xo, .inr (6, [.ref xg, .int gc, .ref xp, .int pc, .ref xq, .int qc, .ref r1, .ref r2, .ref r3, .ref r4, .ref se, .int ts, .int hou, .int dr, .int su, .int br])), (xq, .inl (cq, 16, .inr (.inr (.inr (.inr (zq [none, none, none, none, none, none, none, none, none, none, none, none, none, none, none, none]))))))] sz)) 1 6 (va_A [(xo, .inr (6, [.ref xg, .int gc, .ref xp, .int pc, .ref xq, .int qc, .ref r1, .ref r2, .ref r3, .ref r4, .ref se, .int ts, .int hou, .int dr, .int su, .int br])), (xq, .inl (cq, 16, .inr (.inr (.inr (.inr (zq [none, none, none, none, none, none, none, none, none, none, none, none, none, none, none, none]))))))] sz) := by
  refine vx_ofW (cc := cX6_isFirst) (maxL := 3) (ret := (some .boolean)) (by decide) rfl ?_
  intro p e s m args below meth c s₁ B hml hxt hv
  obtain ⟨rfl, hsz, hP, hK, hD0, hT, hZ⟩ := hv
  have hx := B.exec
  have hb := B.bytes
  have hr := B.returns
  have hts := atoms_spec (ws := wzX6_isFirst_no) B.pre
  have hown : s.vm.findClass RX6 = some m.cls := findClass_of_methodNamed B.named
  have hlocks := B.notSynchronized
  subst hsz
  have hD := hD0.self (sz := s.heap.size)
  generalize hAe : va_A [(xo, .inr (6, [.ref xg, .int gc, .ref xp, .int pc, .ref xq, .int qc, .ref r1, .ref r2, .ref r3, .ref r4, .ref se, .int ts, .int hou, .int dr, .int su, .int br])), (xq, .inl (cq, 16, .inr (.inr (.inr (.inr (zq [none, none, none, none, none, none, none, none, none, none, none, none, none, none, none, none]))))))] s.heap.size = A at hD hZ ⊢
  have hA : ∀ q : Nat, s.heap.size ≤ q → A q := fun q h => by rw [← hAe]; exact Or.inr h
  have hS : va_S A s.heap s.heap [] := va_S.rf
  have hl := lv_entry ([.ref xo, .int 0]) (n := 3) (Nat.le_of_ble_eq_true rfl)
  rw [lg_entry_eq]
  generalize (lg_sl ([.ref xo, .int 0]) ++ List.replicate (3 - (lg_sl ([.ref xo, .int 0])).length) Slot.unset).toArray = ls at hl ⊢
  have hl : lv_has ls 3 [(0, .ref xo), (1, .int 0)] := hl
  refine lv_aload_n hx hb dX6_isFirst_0 rfl (lv_at hl 0 rfl) ?_
  refine lv_iload_n hx hb dX6_isFirst_1 rfl (lv_at hl 1 rfl) ?_
  have hFc := va_free (wc := [(xo, .inr (6, [.ref xg, .int gc, .ref xp, .int pc, .ref xq, .int qc, .ref r1, .ref r2, .ref r3, .ref r4, .ref se, .int ts, .int hou, .int dr, .int su, .int br])), (xq, .inl (cq, 16, .inr (.inr (.inr (.inr (zq [none, none, none, none, none, none, none, none, none, none, none, none, none, none, none, none]))))))]) hD hS hA [0, 1] rfl
  refine vx_callq (vx_runV (As := [.int 0]) (rest := []) ⟨hx, hb, hml, hown, hts⟩ (zc_X6_findPiece_no l hnt D G xo 0 xg gc xp pc xq qc r1 r2 r3 r4 se ts hou dr su br cq (zq [none, none, none, none, none, none, none, none, none, none, none, none, none, none, none, none]) s.heap.size (by first | assumption | rfl | omega | exact Nat.le_trans (zS_le _ _ _) (by omega) | decide) (by first | assumption | rfl | omega | exact Nat.le_trans (zS_le _ _ _) (by omega) | decide)) (cwV 1 hts gzX6_isFirst_no_X6_findPiece_no_169 rfl rfl rfl (by decide +kernel) ⟨(Nat.le_of_ble_eq_true rfl), (Nat.le_of_ble_eq_true rfl)⟩) ⟨p_RW_blind, va_recv hK hP (ci := 6) (q0 := 0) rfl rfl, (p_RW_at (tc := [(cq, .object "Gatherhouse$Piece")]) (wc := [(xo, .inr (6, [.ref xg, .int gc, .ref xp, .int pc, .ref xq, .int qc, .ref r1, .ref r2, .ref r3, .ref r4, .ref se, .int ts, .int hou, .int dr, .int su, .int br])), (xq, .inl (cq, 16, .inr (.inr (.inr (.inr (zq [none, none, none, none, none, none, none, none, none, none, none, none, none, none, none, none]))))))]) hP hK hD hS hA hT hZ [0, 1] [0] rfl rfl (by decide) rfl [.ref xo, .int 0])⟩ rfl rfl hl.1 rfl (lv_room (Nat.le_of_ble_eq_true rfl)) dX6_isFirst_2 ⟨(Nat.le_of_ble_eq_true rfl), (Nat.le_of_ble_eq_true rfl)⟩) hS (fun q _ h => hFc q h) hFc (fun q _ h => hFc q h) (fun E ce q9 u t H locs ht hvm hpx hBX hz1 hk1 hS hce hcv hcl => ?_) (fun r_182 u t H locs ht hvm w_183 hB hz1 hk1 hS => ?_)
  · obtain ⟨hBX, hB⟩ := hBX
    obtain ⟨hP, hD, hK⟩ := q_join (D := D) (wc := [(xo, .inr (6, [.ref xg, .int gc, .ref xp, .int pc, .ref xq, .int qc, .ref r1, .ref r2, .ref r3, .ref r4, .ref se, .int ts, .int hou, .int dr, .int su, .int br])), (xq, .inl (cq, 16, .inr (.inr (.inr (.inr (zq [none, none, none, none, none, none, none, none, none, none, none, none, none, none, none, none]))))))]) (wr := []) (w1 := [(xo, .inr (6, [.ref xg, .int gc, .ref xp, .int pc, .ref xq, .int qc, .ref r1, .ref r2, .ref r3, .ref r4, .ref se, .int ts, .int hou, .int dr, .int su, .int br])), (xq, .inl (cq, 16, .inr (.inr (.inr (.inr (zq [none, none, none, none, none, none, none, none, none, none, none, none, none, none, none, none]))))))]) (tyr := []) (ty1 := [(cq, .object "Gatherhouse$Piece")]) hP hD hK [0, 1] [] [] rfl rfl (by decide) (by decide) rfl hFc hk1 ht hvm hB
    have hP : va_P D vwCl [(xo, .inr (6, [.ref xg, .int gc, .ref xp, .int pc, .ref xq, .int qc, .ref r1, .ref r2, .ref r3, .ref r4, .ref se, .int ts, .int hou, .int dr, .int su, .int br])), (xq, .inl (cq, 16, .inr (.inr (.inr (.inr (zq [none, none, none, none, none, none, none, none, none, none, none, none, none, none, none, none]))))))] H := hP
    have hD : va_D A [(xo, .inr (6, [.ref xg, .int gc, .ref xp, .int pc, .ref xq, .int qc, .ref r1, .ref r2, .ref r3, .ref r4, .ref se, .int ts, .int hou, .int dr, .int su, .int br])), (xq, .inl (cq, 16, .inr (.inr (.inr (.inr (zq [none, none, none, none, none, none, none, none, none, none, none, none, none, none, none, none]))))))] := hD
    have hK : va_K D vwCl [(cq, .object "Gatherhouse$Piece")] s := hK
    have hBX : (E = "java/lang/IndexOutOfBoundsException") := hBX
    rcases hBX with rfl
    exact vx_out (fun x h => (hxt x h).elim) hlocks hce hcv hcl (fun t ht hW9 => ⟨(), trivial, ⟨rfl, q_RW_mk hP hK hD [0, 1] [0] rfl rfl (by decide) rfl ht hW9⟩, hS.F ht⟩) hS.2.2 (Nat.le_of_ble_eq_true rfl) (Nat.le_of_ble_eq_true rfl)
  · exact w_183.elim
theorem dX6_cut_0 : decode cX6_cut 0 = .ok (.aload_n 0, 1) := by decide +kernel
theorem dX6_cut_1 : decode cX6_cut 1 = .ok (.iload_n 1, 1) := by decide +kernel
theorem dX6_cut_2 : decode cX6_cut 2 = .ok (.invokevirtual 169, 3) := by decide +kernel
def wzEX6_cut_no : List Cond := [.code yX6_cut cX6_cut 6 (some .int), .methodLink RX6 169 yX6_findPiece, .instanceMethod yX6_findPiece, .selects RX6 yX6_findPiece yX6_findPiece, .initialized RX6, .code yX6_findPiece cX6_findPiece 3 (some (.object "Gatherhouse$Piece")), .fieldLink RX6 30 "Gatherhouse" "pieces" "[LGatherhouse$Piece;", .classLink RX6 365 "java/lang/IndexOutOfBoundsException", .initialized "java/lang/IndexOutOfBoundsException"]
def wzX6_cut_no : List Cond := wzEX6_cut_no ++ (u_ws RX6 TX6 16 ++ ((vx_atS RX6 369 "java/lang/IndexOutOfBoundsException" ["java/lang/RuntimeException", "java/lang/Exception"]).filter goodWord))
theorem zgEX6_cut_no : wzEX6_cut_no.all goodWord = true := by decide +kernel
theorem zuX6_cut_no_X6 : ∀ w ∈ u_ws RX6 TX6 16, w ∈ wzX6_cut_no := (fun _ h => (List.mem_append_right _ (List.mem_append_left _ h)))
theorem ztX6_cut_no_X6_369 : ∀ w ∈ (vx_atS RX6 369 "java/lang/IndexOutOfBoundsException" ["java/lang/RuntimeException", "java/lang/Exception"]).filter goodWord, w ∈ wzX6_cut_no := (fun _ h => (List.mem_append_right _ (List.mem_append_right _ h)))
theorem gzX6_cut_no_X6_findPiece_no_169 : GoodIn wzX6_cut_no (wsV RX6 169 RX6 yX6_findPiece wzX6_findPiece_no) := (goodIn_app (z_lift (goodIn_r _ [1, 2, 3, 4] rfl (by decide +kernel))) (goodIn_app (z_lift (goodIn_r wzEX6_findPiece_no [5, 6, 7, 8] rfl zgEX6_findPiece_no)) (goodIn_app (goodIn_sub (fun _ h => (List.mem_append_right _ (List.mem_append_left _ h))) zgU_X6) (goodIn_sub (fun _ h => (List.mem_append_right _ (List.mem_append_right _ h))) zgV_X6_369))))
set_option maxHeartbeats 4000000 in
set_option maxRecDepth 100000 in
theorem zc_X6_cut_no (l : Launch) (hnt : l.stackTraces = false) (D : va_G) (G : Nat × Nat × (Nat → Int32)) (xo : Nat) (xg : Nat) (gc : Int32) (xp : Nat) (pc : Int32) (xq : Nat) (qc : Int32) (r1 : Nat) (r2 : Nat) (r3 : Nat) (r4 : Nat) (se : Nat) (ts : Int32) (hou : Int32) (dr : Int32) (su : Int32) (br : Int32) (cq : ClassId) (sz : Nat) : vx_Met l yX6_cut wzX6_cut_no ({ frames := 7, cells := 1, slots := 6, locals := 104 }) (va_Pc [.ref xo, .int 0, .int 0, .int 10] (p_RW D G [(cq, .object "Gatherhouse$Piece")] [(xo, .inr (6, [.ref xg, .int gc, .ref xp, .int pc, .ref xq, .int qc, .ref r1, .ref r2, .ref r3, .ref r4, .ref se, .int ts, .int hou, .int dr, .int su, .int br])), (xq, .inl (cq, 16, .inr (.inr (.inr (.inr (zq [none, none, none, none, none, none, none, none, none, none, none, none, none, none, none, none]))))))] sz)) (va_Qi (fun (r : Int32) (u : Unit) => False) (fun (u : Unit) (t : State) => q_RW D [(cq, .object "Gatherhouse$Piece")] [(xo, .inr (6, [.ref xg, .int gc, .ref xp, .int pc, .ref xq, .int qc, .ref r1, .ref r2, .ref r3, .ref r4, .ref se, .int ts, .int hou, .int dr, .int su, .int br])), (xq, .inl (cq, 16, .inr (.inr (.inr (.inr (zq [none, none, none, none, none, none, none, none, none, none, none, none, none, none, none, none]))))))] (va_A [(xo, .inr (6, [.ref xg, .int gc, .ref xp, .int pc, .ref xq, .int qc, .ref r1, .ref r2, .ref r3, .ref r4, .ref se, .int ts, .int hou, .int dr, .int su, .int br])), (xq, .inl (cq, 16, .inr (.inr (.inr (.inr (zq [none, none, none, none, none, none, none, none, none, none, none, none, none, none, none, none]))))))] sz) t) (va_A [(xo, .inr (6, [.ref xg, .int gc, .ref xp, .int pc, .ref xq, .int qc, .ref r1, .ref r2, .ref r3, .ref r4, .ref se, .int ts, .int hou, .int dr, .int su, .int br])), (xq, .inl (cq, 16, .inr (.inr (.inr (.inr (zq [none, none, none, none, none, none, none, none, none, none, none, none, none, none, none, none]))))))] sz)) (vx_X (fun (_ : Unit) => True) (fun E (_ : Unit) (t : State) => ((E = "java/lang/IndexOutOfBoundsException")) ∧ q_RW D [(cq, .object "Gatherhouse$Piece")] [(xo, .inr (6, [.ref xg, .int gc, .ref xp, .int pc, .ref xq, .int qc, .ref r1, .ref r2, .ref r3, .ref r4, .ref se, .int ts, .int hou, .int dr, .int su, .int br])), (xq, .inl (cq, 16, .inr (.inr (.inr (.inr (zq [none, none, none, none, none, none, none, none, none, none, none, none, none, none, none, none]))))))] (va_A [(xo, .inr (6, [.ref xg, .int gc, .ref xp, .int pc, .ref xq, .int qc, .ref r1, .ref r2, .ref r3, .ref r4, .ref se, .int ts, .int hou, .int dr, .int su, .int br])), (xq, .inl (cq, 16, .inr (.inr (.inr (.inr (zq [none, none, none, none, none, none, none, none, none, none, none, none, none, none, none, none]))))))] sz) t) (va_A [(xo, .inr (6, [.ref xg, .int gc, .ref xp, .int pc, .ref xq, .int qc, .ref r1, .ref r2, .ref r3, .ref r4, .ref se, .int ts, .int hou, .int dr, .int su, .int br])), (xq, .inl (cq, 16, .inr (.inr (.inr (.inr (zq [none, none, none, none, none, none, none, none, none, none, none, none, none, none, none, none]))))))] sz)) 1 6 (va_A [(xo, .inr (6, [.ref xg, .int gc, .ref xp, .int pc, .ref xq, .int qc, .ref r1, .ref r2, .ref r3, .ref r4, .ref se, .int ts, .int hou, .int dr, .int su, .int br])), (xq, .inl (cq, 16, .inr (.inr (.inr (.inr (zq [none, none, none, none, none, none, none, none, none, none, none, none, none, none, none, none]))))))] sz) := by
  refine vx_ofW (cc := cX6_cut) (maxL := 6) (ret := (some .int)) (by decide) rfl ?_
  intro p e s m args below meth c s₁ B hml hxt hv
  obtain ⟨rfl, hsz, hP, hK, hD0, hT, hZ⟩ := hv
  have hx := B.exec
  have hb := B.bytes
  have hr := B.returns
  have hts := atoms_spec (ws := wzX6_cut_no) B.pre
  have hown : s.vm.findClass RX6 = some m.cls := findClass_of_methodNamed B.named
  have hlocks := B.notSynchronized
  subst hsz
  have hD := hD0.self (sz := s.heap.size)
  generalize hAe : va_A [(xo, .inr (6, [.ref xg, .int gc, .ref xp, .int pc, .ref xq, .int qc, .ref r1, .ref r2, .ref r3, .ref r4, .ref se, .int ts, .int hou, .int dr, .int su, .int br])), (xq, .inl (cq, 16, .inr (.inr (.inr (.inr (zq [none, none, none, none, none, none, none, none, none, none, none, none, none, none, none, none]))))))] s.heap.size = A at hD hZ ⊢
  have hA : ∀ q : Nat, s.heap.size ≤ q → A q := fun q h => by rw [← hAe]; exact Or.inr h
  have hS : va_S A s.heap s.heap [] := va_S.rf
  have hl := lv_entry ([.ref xo, .int 0, .int 0, .int 10]) (n := 6) (Nat.le_of_ble_eq_true rfl)
  rw [lg_entry_eq]
  generalize (lg_sl ([.ref xo, .int 0, .int 0, .int 10]) ++ List.replicate (6 - (lg_sl ([.ref xo, .int 0, .int 0, .int 10])).length) Slot.unset).toArray = ls at hl ⊢
  have hl : lv_has ls 6 [(0, .ref xo), (1, .int 0), (2, .int 0), (3, .int 10)] := hl
  refine lv_aload_n hx hb dX6_cut_0 rfl (lv_at hl 0 rfl) ?_
  refine lv_iload_n hx hb dX6_cut_1 rfl (lv_at hl 1 rfl) ?_
  have hFc := va_free (wc := [(xo, .inr (6, [.ref xg, .int gc, .ref xp, .int pc, .ref xq, .int qc, .ref r1, .ref r2, .ref r3, .ref r4, .ref se, .int ts, .int hou, .int dr, .int su, .int br])), (xq, .inl (cq, 16, .inr (.inr (.inr (.inr (zq [none, none, none, none, none, none, none, none, none, none, none, none, none, none, none, none]))))))]) hD hS hA [0, 1] rfl
  refine vx_callq (vx_runV (As := [.int 0]) (rest := []) ⟨hx, hb, hml, hown, hts⟩ (zc_X6_findPiece_no l hnt D G xo 0 xg gc xp pc xq qc r1 r2 r3 r4 se ts hou dr su br cq (zq [none, none, none, none, none, none, none, none, none, none, none, none, none, none, none, none]) s.heap.size (by first | assumption | rfl | omega | exact Nat.le_trans (zS_le _ _ _) (by omega) | decide) (by first | assumption | rfl | omega | exact Nat.le_trans (zS_le _ _ _) (by omega) | decide)) (cwV 1 hts gzX6_cut_no_X6_findPiece_no_169 rfl rfl rfl (by decide +kernel) ⟨(Nat.le_of_ble_eq_true rfl), (Nat.le_of_ble_eq_true rfl)⟩) ⟨p_RW_blind, va_recv hK hP (ci := 6) (q0 := 0) rfl rfl, (p_RW_at (tc := [(cq, .object "Gatherhouse$Piece")]) (wc := [(xo, .inr (6, [.ref xg, .int gc, .ref xp, .int pc, .ref xq, .int qc, .ref r1, .ref r2, .ref r3, .ref r4, .ref se, .int ts, .int hou, .int dr, .int su, .int br])), (xq, .inl (cq, 16, .inr (.inr (.inr (.inr (zq [none, none, none, none, none, none, none, none, none, none, none, none, none, none, none, none]))))))]) hP hK hD hS hA hT hZ [0, 1] [0] rfl rfl (by decide) rfl [.ref xo, .int 0])⟩ rfl rfl hl.1 rfl (lv_room (Nat.le_of_ble_eq_true rfl)) dX6_cut_2 ⟨(Nat.le_of_ble_eq_true rfl), (Nat.le_of_ble_eq_true rfl)⟩) hS (fun q _ h => hFc q h) hFc (fun q _ h => hFc q h) (fun E ce q9 u t H locs ht hvm hpx hBX hz1 hk1 hS hce hcv hcl => ?_) (fun r_184 u t H locs ht hvm w_185 hB hz1 hk1 hS => ?_)
  · obtain ⟨hBX, hB⟩ := hBX
    obtain ⟨hP, hD, hK⟩ := q_join (D := D) (wc := [(xo, .inr (6, [.ref xg, .int gc, .ref xp, .int pc, .ref xq, .int qc, .ref r1, .ref r2, .ref r3, .ref r4, .ref se, .int ts, .int hou, .int dr, .int su, .int br])), (xq, .inl (cq, 16, .inr (.inr (.inr (.inr (zq [none, none, none, none, none, none, none, none, none, none, none, none, none, none, none, none]))))))]) (wr := []) (w1 := [(xo, .inr (6, [.ref xg, .int gc, .ref xp, .int pc, .ref xq, .int qc, .ref r1, .ref r2, .ref r3, .ref r4, .ref se, .int ts, .int hou, .int dr, .int su, .int br])), (xq, .inl (cq, 16, .inr (.inr (.inr (.inr (zq [none, none, none, none, none, none, none, none, none, none, none, none, none, none, none, none]))))))]) (tyr := []) (ty1 := [(cq, .object "Gatherhouse$Piece")]) hP hD hK [0, 1] [] [] rfl rfl (by decide) (by decide) rfl hFc hk1 ht hvm hB
    have hP : va_P D vwCl [(xo, .inr (6, [.ref xg, .int gc, .ref xp, .int pc, .ref xq, .int qc, .ref r1, .ref r2, .ref r3, .ref r4, .ref se, .int ts, .int hou, .int dr, .int su, .int br])), (xq, .inl (cq, 16, .inr (.inr (.inr (.inr (zq [none, none, none, none, none, none, none, none, none, none, none, none, none, none, none, none]))))))] H := hP
    have hD : va_D A [(xo, .inr (6, [.ref xg, .int gc, .ref xp, .int pc, .ref xq, .int qc, .ref r1, .ref r2, .ref r3, .ref r4, .ref se, .int ts, .int hou, .int dr, .int su, .int br])), (xq, .inl (cq, 16, .inr (.inr (.inr (.inr (zq [none, none, none, none, none, none, none, none, none, none, none, none, none, none, none, none]))))))] := hD
    have hK : va_K D vwCl [(cq, .object "Gatherhouse$Piece")] s := hK
    have hBX : (E = "java/lang/IndexOutOfBoundsException") := hBX
    rcases hBX with rfl
    exact vx_out (fun x h => (hxt x h).elim) hlocks hce hcv hcl (fun t ht hW9 => ⟨(), trivial, ⟨rfl, q_RW_mk hP hK hD [0, 1] [0] rfl rfl (by decide) rfl ht hW9⟩, hS.F ht⟩) hS.2.2 (Nat.le_of_ble_eq_true rfl) (Nat.le_of_ble_eq_true rfl)
  · exact w_185.elim
theorem dX6_colour_0 : decode cX6_colour 0 = .ok (.aload_n 0, 1) := by decide +kernel
theorem dX6_colour_1 : decode cX6_colour 1 = .ok (.iload_n 1, 1) := by decide +kernel
theorem dX6_colour_2 : decode cX6_colour 2 = .ok (.invokevirtual 169, 3) := by decide +kernel
def wzEX6_colour_no : List Cond := [.code yX6_colour cX6_colour 3 (some .int), .methodLink RX6 169 yX6_findPiece, .instanceMethod yX6_findPiece, .selects RX6 yX6_findPiece yX6_findPiece, .initialized RX6, .code yX6_findPiece cX6_findPiece 3 (some (.object "Gatherhouse$Piece")), .fieldLink RX6 30 "Gatherhouse" "pieces" "[LGatherhouse$Piece;", .classLink RX6 365 "java/lang/IndexOutOfBoundsException", .initialized "java/lang/IndexOutOfBoundsException"]
def wzX6_colour_no : List Cond := wzEX6_colour_no ++ (u_ws RX6 TX6 16 ++ ((vx_atS RX6 369 "java/lang/IndexOutOfBoundsException" ["java/lang/RuntimeException", "java/lang/Exception"]).filter goodWord))
theorem zgEX6_colour_no : wzEX6_colour_no.all goodWord = true := by decide +kernel
theorem zuX6_colour_no_X6 : ∀ w ∈ u_ws RX6 TX6 16, w ∈ wzX6_colour_no := (fun _ h => (List.mem_append_right _ (List.mem_append_left _ h)))
theorem ztX6_colour_no_X6_369 : ∀ w ∈ (vx_atS RX6 369 "java/lang/IndexOutOfBoundsException" ["java/lang/RuntimeException", "java/lang/Exception"]).filter goodWord, w ∈ wzX6_colour_no := (fun _ h => (List.mem_append_right _ (List.mem_append_right _ h)))
theorem gzX6_colour_no_X6_findPiece_no_169 : GoodIn wzX6_colour_no (wsV RX6 169 RX6 yX6_findPiece wzX6_findPiece_no) := (goodIn_app (z_lift (goodIn_r _ [1, 2, 3, 4] rfl (by decide +kernel))) (goodIn_app (z_lift (goodIn_r wzEX6_findPiece_no [5, 6, 7, 8] rfl zgEX6_findPiece_no)) (goodIn_app (goodIn_sub (fun _ h => (List.mem_append_right _ (List.mem_append_left _ h))) zgU_X6) (goodIn_sub (fun _ h => (List.mem_append_right _ (List.mem_append_right _ h))) zgV_X6_369))))
set_option maxHeartbeats 4000000 in
set_option maxRecDepth 100000 in
theorem zc_X6_colour_no (l : Launch) (hnt : l.stackTraces = false) (D : va_G) (G : Nat × Nat × (Nat → Int32)) (xo : Nat) (xg : Nat) (gc : Int32) (xp : Nat) (pc : Int32) (xq : Nat) (qc : Int32) (r1 : Nat) (r2 : Nat) (r3 : Nat) (r4 : Nat) (se : Nat) (ts : Int32) (hou : Int32) (dr : Int32) (su : Int32) (br : Int32) (cq : ClassId) (sz : Nat) : vx_Met l yX6_colour wzX6_colour_no ({ frames := 7, cells := 1, slots := 6, locals := 104 }) (va_Pc [.ref xo, .int 0, .int 0] (p_RW D G [(cq, .object "Gatherhouse$Piece")] [(xo, .inr (6, [.ref xg, .int gc, .ref xp, .int pc, .ref xq, .int qc, .ref r1, .ref r2, .ref r3, .ref r4, .ref se, .int ts, .int hou, .int dr, .int su, .int br])), (xq, .inl (cq, 16, .inr (.inr (.inr (.inr (zq [none, none, none, none, none, none, none, none, none, none, none, none, none, none, none, none]))))))] sz)) (va_Qi (fun (r : Int32) (u : Unit) => False) (fun (u : Unit) (t : State) => q_RW D [(cq, .object "Gatherhouse$Piece")] [(xo, .inr (6, [.ref xg, .int gc, .ref xp, .int pc, .ref xq, .int qc, .ref r1, .ref r2, .ref r3, .ref r4, .ref se, .int ts, .int hou, .int dr, .int su, .int br])), (xq, .inl (cq, 16, .inr (.inr (.inr (.inr (zq [none, none, none, none, none, none, none, none, none, none, none, none, none, none, none, none]))))))] (va_A [(xo, .inr (6, [.ref xg, .int gc, .ref xp, .int pc, .ref xq, .int qc, .ref r1, .ref r2, .ref r3, .ref r4, .ref se, .int ts, .int hou, .int dr, .int su, .int br])), (xq, .inl (cq, 16, .inr (.inr (.inr (.inr (zq [none, none, none, none, none, none, none, none, none, none, none, none, none, none, none, none]))))))] sz) t) (va_A [(xo, .inr (6, [.ref xg, .int gc, .ref xp, .int pc, .ref xq, .int qc, .ref r1, .ref r2, .ref r3, .ref r4, .ref se, .int ts, .int hou, .int dr, .int su, .int br])), (xq, .inl (cq, 16, .inr (.inr (.inr (.inr (zq [none, none, none, none, none, none, none, none, none, none, none, none, none, none, none, none]))))))] sz)) (vx_X (fun (_ : Unit) => True) (fun E (_ : Unit) (t : State) => ((E = "java/lang/IndexOutOfBoundsException")) ∧ q_RW D [(cq, .object "Gatherhouse$Piece")] [(xo, .inr (6, [.ref xg, .int gc, .ref xp, .int pc, .ref xq, .int qc, .ref r1, .ref r2, .ref r3, .ref r4, .ref se, .int ts, .int hou, .int dr, .int su, .int br])), (xq, .inl (cq, 16, .inr (.inr (.inr (.inr (zq [none, none, none, none, none, none, none, none, none, none, none, none, none, none, none, none]))))))] (va_A [(xo, .inr (6, [.ref xg, .int gc, .ref xp, .int pc, .ref xq, .int qc, .ref r1, .ref r2, .ref r3, .ref r4, .ref se, .int ts, .int hou, .int dr, .int su, .int br])), (xq, .inl (cq, 16, .inr (.inr (.inr (.inr (zq [none, none, none, none, none, none, none, none, none, none, none, none, none, none, none, none]))))))] sz) t) (va_A [(xo, .inr (6, [.ref xg, .int gc, .ref xp, .int pc, .ref xq, .int qc, .ref r1, .ref r2, .ref r3, .ref r4, .ref se, .int ts, .int hou, .int dr, .int su, .int br])), (xq, .inl (cq, 16, .inr (.inr (.inr (.inr (zq [none, none, none, none, none, none, none, none, none, none, none, none, none, none, none, none]))))))] sz)) 1 6 (va_A [(xo, .inr (6, [.ref xg, .int gc, .ref xp, .int pc, .ref xq, .int qc, .ref r1, .ref r2, .ref r3, .ref r4, .ref se, .int ts, .int hou, .int dr, .int su, .int br])), (xq, .inl (cq, 16, .inr (.inr (.inr (.inr (zq [none, none, none, none, none, none, none, none, none, none, none, none, none, none, none, none]))))))] sz) := by
  refine vx_ofW (cc := cX6_colour) (maxL := 3) (ret := (some .int)) (by decide) rfl ?_
  intro p e s m args below meth c s₁ B hml hxt hv
  obtain ⟨rfl, hsz, hP, hK, hD0, hT, hZ⟩ := hv
  have hx := B.exec
  have hb := B.bytes
  have hr := B.returns
  have hts := atoms_spec (ws := wzX6_colour_no) B.pre
  have hown : s.vm.findClass RX6 = some m.cls := findClass_of_methodNamed B.named
  have hlocks := B.notSynchronized
  subst hsz
  have hD := hD0.self (sz := s.heap.size)
  generalize hAe : va_A [(xo, .inr (6, [.ref xg, .int gc, .ref xp, .int pc, .ref xq, .int qc, .ref r1, .ref r2, .ref r3, .ref r4, .ref se, .int ts, .int hou, .int dr, .int su, .int br])), (xq, .inl (cq, 16, .inr (.inr (.inr (.inr (zq [none, none, none, none, none, none, none, none, none, none, none, none, none, none, none, none]))))))] s.heap.size = A at hD hZ ⊢
  have hA : ∀ q : Nat, s.heap.size ≤ q → A q := fun q h => by rw [← hAe]; exact Or.inr h
  have hS : va_S A s.heap s.heap [] := va_S.rf
  have hl := lv_entry ([.ref xo, .int 0, .int 0]) (n := 3) (Nat.le_of_ble_eq_true rfl)
  rw [lg_entry_eq]
  generalize (lg_sl ([.ref xo, .int 0, .int 0]) ++ List.replicate (3 - (lg_sl ([.ref xo, .int 0, .int 0])).length) Slot.unset).toArray = ls at hl ⊢
  have hl : lv_has ls 3 [(0, .ref xo), (1, .int 0), (2, .int 0)] := hl
  refine lv_aload_n hx hb dX6_colour_0 rfl (lv_at hl 0 rfl) ?_
  refine lv_iload_n hx hb dX6_colour_1 rfl (lv_at hl 1 rfl) ?_
  have hFc := va_free (wc := [(xo, .inr (6, [.ref xg, .int gc, .ref xp, .int pc, .ref xq, .int qc, .ref r1, .ref r2, .ref r3, .ref r4, .ref se, .int ts, .int hou, .int dr, .int su, .int br])), (xq, .inl (cq, 16, .inr (.inr (.inr (.inr (zq [none, none, none, none, none, none, none, none, none, none, none, none, none, none, none, none]))))))]) hD hS hA [0, 1] rfl
  refine vx_callq (vx_runV (As := [.int 0]) (rest := []) ⟨hx, hb, hml, hown, hts⟩ (zc_X6_findPiece_no l hnt D G xo 0 xg gc xp pc xq qc r1 r2 r3 r4 se ts hou dr su br cq (zq [none, none, none, none, none, none, none, none, none, none, none, none, none, none, none, none]) s.heap.size (by first | assumption | rfl | omega | exact Nat.le_trans (zS_le _ _ _) (by omega) | decide) (by first | assumption | rfl | omega | exact Nat.le_trans (zS_le _ _ _) (by omega) | decide)) (cwV 1 hts gzX6_colour_no_X6_findPiece_no_169 rfl rfl rfl (by decide +kernel) ⟨(Nat.le_of_ble_eq_true rfl), (Nat.le_of_ble_eq_true rfl)⟩) ⟨p_RW_blind, va_recv hK hP (ci := 6) (q0 := 0) rfl rfl, (p_RW_at (tc := [(cq, .object "Gatherhouse$Piece")]) (wc := [(xo, .inr (6, [.ref xg, .int gc, .ref xp, .int pc, .ref xq, .int qc, .ref r1, .ref r2, .ref r3, .ref r4, .ref se, .int ts, .int hou, .int dr, .int su, .int br])), (xq, .inl (cq, 16, .inr (.inr (.inr (.inr (zq [none, none, none, none, none, none, none, none, none, none, none, none, none, none, none, none]))))))]) hP hK hD hS hA hT hZ [0, 1] [0] rfl rfl (by decide) rfl [.ref xo, .int 0])⟩ rfl rfl hl.1 rfl (lv_room (Nat.le_of_ble_eq_true rfl)) dX6_colour_2 ⟨(Nat.le_of_ble_eq_true rfl), (Nat.le_of_ble_eq_true rfl)⟩) hS (fun q _ h => hFc q h) hFc (fun q _ h => hFc q h) (fun E ce q9 u t H locs ht hvm hpx hBX hz1 hk1 hS hce hcv hcl => ?_) (fun r_186 u t H locs ht hvm w_187 hB hz1 hk1 hS => ?_)
  · obtain ⟨hBX, hB⟩ := hBX
    obtain ⟨hP, hD, hK⟩ := q_join (D := D) (wc := [(xo, .inr (6, [.ref xg, .int gc, .ref xp, .int pc, .ref xq, .int qc, .ref r1, .ref r2, .ref r3, .ref r4, .ref se, .int ts, .int hou, .int dr, .int su, .int br])), (xq, .inl (cq, 16, .inr (.inr (.inr (.inr (zq [none, none, none, none, none, none, none, none, none, none, none, none, none, none, none, none]))))))]) (wr := []) (w1 := [(xo, .inr (6, [.ref xg, .int gc, .ref xp, .int pc, .ref xq, .int qc, .ref r1, .ref r2, .ref r3, .ref r4, .ref se, .int ts, .int hou, .int dr, .int su, .int br])), (xq, .inl (cq, 16, .inr (.inr (.inr (.inr (zq [none, none, none, none, none, none, none, none, none, none, none, none, none, none, none, none]))))))]) (tyr := []) (ty1 := [(cq, .object "Gatherhouse$Piece")]) hP hD hK [0, 1] [] [] rfl rfl (by decide) (by decide) rfl hFc hk1 ht hvm hB
    have hP : va_P D vwCl [(xo, .inr (6, [.ref xg, .int gc, .ref xp, .int pc, .ref xq, .int qc, .ref r1, .ref r2, .ref r3, .ref r4, .ref se, .int ts, .int hou, .int dr, .int su, .int br])), (xq, .inl (cq, 16, .inr (.inr (.inr (.inr (zq [none, none, none, none, none, none, none, none, none, none, none, none, none, none, none, none]))))))] H := hP
    have hD : va_D A [(xo, .inr (6, [.ref xg, .int gc, .ref xp, .int pc, .ref xq, .int qc, .ref r1, .ref r2, .ref r3, .ref r4, .ref se, .int ts, .int hou, .int dr, .int su, .int br])), (xq, .inl (cq, 16, .inr (.inr (.inr (.inr (zq [none, none, none, none, none, none, none, none, none, none, none, none, none, none, none, none]))))))] := hD
    have hK : va_K D vwCl [(cq, .object "Gatherhouse$Piece")] s := hK
    have hBX : (E = "java/lang/IndexOutOfBoundsException") := hBX
    rcases hBX with rfl
    exact vx_out (fun x h => (hxt x h).elim) hlocks hce hcv hcl (fun t ht hW9 => ⟨(), trivial, ⟨rfl, q_RW_mk hP hK hD [0, 1] [0] rfl rfl (by decide) rfl ht hW9⟩, hS.F ht⟩) hS.2.2 (Nat.le_of_ble_eq_true rfl) (Nat.le_of_ble_eq_true rfl)
  · exact w_187.elim
theorem dX6_isInSet_0 : decode cX6_isInSet 0 = .ok (.aload_n 0, 1) := by decide +kernel
theorem dX6_isInSet_1 : decode cX6_isInSet 1 = .ok (.iload_n 1, 1) := by decide +kernel
theorem dX6_isInSet_2 : decode cX6_isInSet 2 = .ok (.invokevirtual 169, 3) := by decide +kernel
def wzEX6_isInSet_no : List Cond := [.code yX6_isInSet cX6_isInSet 2 (some .boolean), .methodLink RX6 169 yX6_findPiece, .instanceMethod yX6_findPiece, .selects RX6 yX6_findPiece yX6_findPiece, .initialized RX6, .code yX6_findPiece cX6_findPiece 3 (some (.object "Gatherhouse$Piece")), .fieldLink RX6 30 "Gatherhouse" "pieces" "[LGatherhouse$Piece;", .classLink RX6 365 "java/lang/IndexOutOfBoundsException", .initialized "java/lang/IndexOutOfBoundsException"]
def wzX6_isInSet_no : List Cond := wzEX6_isInSet_no ++ (u_ws RX6 TX6 16 ++ ((vx_atS RX6 369 "java/lang/IndexOutOfBoundsException" ["java/lang/RuntimeException", "java/lang/Exception"]).filter goodWord))
theorem zgEX6_isInSet_no : wzEX6_isInSet_no.all goodWord = true := by decide +kernel
theorem zuX6_isInSet_no_X6 : ∀ w ∈ u_ws RX6 TX6 16, w ∈ wzX6_isInSet_no := (fun _ h => (List.mem_append_right _ (List.mem_append_left _ h)))
theorem ztX6_isInSet_no_X6_369 : ∀ w ∈ (vx_atS RX6 369 "java/lang/IndexOutOfBoundsException" ["java/lang/RuntimeException", "java/lang/Exception"]).filter goodWord, w ∈ wzX6_isInSet_no := (fun _ h => (List.mem_append_right _ (List.mem_append_right _ h)))
theorem gzX6_isInSet_no_X6_findPiece_no_169 : GoodIn wzX6_isInSet_no (wsV RX6 169 RX6 yX6_findPiece wzX6_findPiece_no) := (goodIn_app (z_lift (goodIn_r _ [1, 2, 3, 4] rfl (by decide +kernel))) (goodIn_app (z_lift (goodIn_r wzEX6_findPiece_no [5, 6, 7, 8] rfl zgEX6_findPiece_no)) (goodIn_app (goodIn_sub (fun _ h => (List.mem_append_right _ (List.mem_append_left _ h))) zgU_X6) (goodIn_sub (fun _ h => (List.mem_append_right _ (List.mem_append_right _ h))) zgV_X6_369))))
set_option maxHeartbeats 4000000 in
set_option maxRecDepth 100000 in
theorem zc_X6_isInSet_no (l : Launch) (hnt : l.stackTraces = false) (D : va_G) (G : Nat × Nat × (Nat → Int32)) (xo : Nat) (xg : Nat) (gc : Int32) (xp : Nat) (pc : Int32) (xq : Nat) (qc : Int32) (r1 : Nat) (r2 : Nat) (r3 : Nat) (r4 : Nat) (se : Nat) (ts : Int32) (hou : Int32) (dr : Int32) (su : Int32) (br : Int32) (cq : ClassId) (sz : Nat) : vx_Met l yX6_isInSet wzX6_isInSet_no ({ frames := 7, cells := 1, slots := 6, locals := 104 }) (va_Pc [.ref xo, .int 0] (p_RW D G [(cq, .object "Gatherhouse$Piece")] [(xo, .inr (6, [.ref xg, .int gc, .ref xp, .int pc, .ref xq, .int qc, .ref r1, .ref r2, .ref r3, .ref r4, .ref se, .int ts, .int hou, .int dr, .int su, .int br])), (xq, .inl (cq, 16, .inr (.inr (.inr (.inr (zq [none, none, none, none, none, none, none, none, none, none, none, none, none, none, none, none]))))))] sz)) (va_Qi (fun (r : Int32) (u : Unit) => False) (fun (u : Unit) (t : State) => q_RW D [(cq, .object "Gatherhouse$Piece")] [(xo, .inr (6, [.ref xg, .int gc, .ref xp, .int pc, .ref xq, .int qc, .ref r1, .ref r2, .ref r3, .ref r4, .ref se, .int ts, .int hou, .int dr, .int su, .int br])), (xq, .inl (cq, 16, .inr (.inr (.inr (.inr (zq [none, none, none, none, none, none, none, none, none, none, none, none, none, none, none, none]))))))] (va_A [(xo, .inr (6, [.ref xg, .int gc, .ref xp, .int pc, .ref xq, .int qc, .ref r1, .ref r2, .ref r3, .ref r4, .ref se, .int ts, .int hou, .int dr, .int su, .int br])), (xq, .inl (cq, 16, .inr (.inr (.inr (.inr (zq [none, none, none, none, none, none, none, none, none, none, none, none, none, none, none, none]))))))] sz) t) (va_A [(xo, .inr (6, [.ref xg, .int gc, .ref xp, .int pc, .ref xq, .int qc, .ref r1, .ref r2, .ref r3, .ref r4, .ref se, .int ts, .int hou, .int dr, .int su, .int br])), (xq, .inl (cq, 16, .inr (.inr (.inr (.inr (zq [none, none, none, none, none, none, none, none, none, none, none, none, none, none, none, none]))))))] sz)) (vx_X (fun (_ : Unit) => True) (fun E (_ : Unit) (t : State) => ((E = "java/lang/IndexOutOfBoundsException")) ∧ q_RW D [(cq, .object "Gatherhouse$Piece")] [(xo, .inr (6, [.ref xg, .int gc, .ref xp, .int pc, .ref xq, .int qc, .ref r1, .ref r2, .ref r3, .ref r4, .ref se, .int ts, .int hou, .int dr, .int su, .int br])), (xq, .inl (cq, 16, .inr (.inr (.inr (.inr (zq [none, none, none, none, none, none, none, none, none, none, none, none, none, none, none, none]))))))] (va_A [(xo, .inr (6, [.ref xg, .int gc, .ref xp, .int pc, .ref xq, .int qc, .ref r1, .ref r2, .ref r3, .ref r4, .ref se, .int ts, .int hou, .int dr, .int su, .int br])), (xq, .inl (cq, 16, .inr (.inr (.inr (.inr (zq [none, none, none, none, none, none, none, none, none, none, none, none, none, none, none, none]))))))] sz) t) (va_A [(xo, .inr (6, [.ref xg, .int gc, .ref xp, .int pc, .ref xq, .int qc, .ref r1, .ref r2, .ref r3, .ref r4, .ref se, .int ts, .int hou, .int dr, .int su, .int br])), (xq, .inl (cq, 16, .inr (.inr (.inr (.inr (zq [none, none, none, none, none, none, none, none, none, none, none, none, none, none, none, none]))))))] sz)) 1 6 (va_A [(xo, .inr (6, [.ref xg, .int gc, .ref xp, .int pc, .ref xq, .int qc, .ref r1, .ref r2, .ref r3, .ref r4, .ref se, .int ts, .int hou, .int dr, .int su, .int br])), (xq, .inl (cq, 16, .inr (.inr (.inr (.inr (zq [none, none, none, none, none, none, none, none, none, none, none, none, none, none, none, none]))))))] sz) := by
  refine vx_ofW (cc := cX6_isInSet) (maxL := 2) (ret := (some .boolean)) (by decide) rfl ?_
  intro p e s m args below meth c s₁ B hml hxt hv
  obtain ⟨rfl, hsz, hP, hK, hD0, hT, hZ⟩ := hv
  have hx := B.exec
  have hb := B.bytes
  have hr := B.returns
  have hts := atoms_spec (ws := wzX6_isInSet_no) B.pre
  have hown : s.vm.findClass RX6 = some m.cls := findClass_of_methodNamed B.named
  have hlocks := B.notSynchronized
  subst hsz
  have hD := hD0.self (sz := s.heap.size)
  generalize hAe : va_A [(xo, .inr (6, [.ref xg, .int gc, .ref xp, .int pc, .ref xq, .int qc, .ref r1, .ref r2, .ref r3, .ref r4, .ref se, .int ts, .int hou, .int dr, .int su, .int br])), (xq, .inl (cq, 16, .inr (.inr (.inr (.inr (zq [none, none, none, none, none, none, none, none, none, none, none, none, none, none, none, none]))))))] s.heap.size = A at hD hZ ⊢
  have hA : ∀ q : Nat, s.heap.size ≤ q → A q := fun q h => by rw [← hAe]; exact Or.inr h
  have hS : va_S A s.heap s.heap [] := va_S.rf
  have hl := lv_entry ([.ref xo, .int 0]) (n := 2) (Nat.le_of_ble_eq_true rfl)
  rw [lg_entry_eq]
  generalize (lg_sl ([.ref xo, .int 0]) ++ List.replicate (2 - (lg_sl ([.ref xo, .int 0])).length) Slot.unset).toArray = ls at hl ⊢
  have hl : lv_has ls 2 [(0, .ref xo), (1, .int 0)] := hl
  refine lv_aload_n hx hb dX6_isInSet_0 rfl (lv_at hl 0 rfl) ?_
  refine lv_iload_n hx hb dX6_isInSet_1 rfl (lv_at hl 1 rfl) ?_
  have hFc := va_free (wc := [(xo, .inr (6, [.ref xg, .int gc, .ref xp, .int pc, .ref xq, .int qc, .ref r1, .ref r2, .ref r3, .ref r4, .ref se, .int ts, .int hou, .int dr, .int su, .int br])), (xq, .inl (cq, 16, .inr (.inr (.inr (.inr (zq [none, none, none, none, none, none, none, none, none, none, none, none, none, none, none, none]))))))]) hD hS hA [0, 1] rfl
  refine vx_callq (vx_runV (As := [.int 0]) (rest := []) ⟨hx, hb, hml, hown, hts⟩ (zc_X6_findPiece_no l hnt D G xo 0 xg gc xp pc xq qc r1 r2 r3 r4 se ts hou dr su br cq (zq [none, none, none, none, none, none, none, none, none, none, none, none, none, none, none, none]) s.heap.size (by first | assumption | rfl | omega | exact Nat.le_trans (zS_le _ _ _) (by omega) | decide) (by first | assumption | rfl | omega | exact Nat.le_trans (zS_le _ _ _) (by omega) | decide)) (cwV 1 hts gzX6_isInSet_no_X6_findPiece_no_169 rfl rfl rfl (by decide +kernel) ⟨(Nat.le_of_ble_eq_true rfl), (Nat.le_of_ble_eq_true rfl)⟩) ⟨p_RW_blind, va_recv hK hP (ci := 6) (q0 := 0) rfl rfl, (p_RW_at (tc := [(cq, .object "Gatherhouse$Piece")]) (wc := [(xo, .inr (6, [.ref xg, .int gc, .ref xp, .int pc, .ref xq, .int qc, .ref r1, .ref r2, .ref r3, .ref r4, .ref se, .int ts, .int hou, .int dr, .int su, .int br])), (xq, .inl (cq, 16, .inr (.inr (.inr (.inr (zq [none, none, none, none, none, none, none, none, none, none, none, none, none, none, none, none]))))))]) hP hK hD hS hA hT hZ [0, 1] [0] rfl rfl (by decide) rfl [.ref xo, .int 0])⟩ rfl rfl hl.1 rfl (lv_room (Nat.le_of_ble_eq_true rfl)) dX6_isInSet_2 ⟨(Nat.le_of_ble_eq_true rfl), (Nat.le_of_ble_eq_true rfl)⟩) hS (fun q _ h => hFc q h) hFc (fun q _ h => hFc q h) (fun E ce q9 u t H locs ht hvm hpx hBX hz1 hk1 hS hce hcv hcl => ?_) (fun r_188 u t H locs ht hvm w_189 hB hz1 hk1 hS => ?_)
  · obtain ⟨hBX, hB⟩ := hBX
    obtain ⟨hP, hD, hK⟩ := q_join (D := D) (wc := [(xo, .inr (6, [.ref xg, .int gc, .ref xp, .int pc, .ref xq, .int qc, .ref r1, .ref r2, .ref r3, .ref r4, .ref se, .int ts, .int hou, .int dr, .int su, .int br])), (xq, .inl (cq, 16, .inr (.inr (.inr (.inr (zq [none, none, none, none, none, none, none, none, none, none, none, none, none, none, none, none]))))))]) (wr := []) (w1 := [(xo, .inr (6, [.ref xg, .int gc, .ref xp, .int pc, .ref xq, .int qc, .ref r1, .ref r2, .ref r3, .ref r4, .ref se, .int ts, .int hou, .int dr, .int su, .int br])), (xq, .inl (cq, 16, .inr (.inr (.inr (.inr (zq [none, none, none, none, none, none, none, none, none, none, none, none, none, none, none, none]))))))]) (tyr := []) (ty1 := [(cq, .object "Gatherhouse$Piece")]) hP hD hK [0, 1] [] [] rfl rfl (by decide) (by decide) rfl hFc hk1 ht hvm hB
    have hP : va_P D vwCl [(xo, .inr (6, [.ref xg, .int gc, .ref xp, .int pc, .ref xq, .int qc, .ref r1, .ref r2, .ref r3, .ref r4, .ref se, .int ts, .int hou, .int dr, .int su, .int br])), (xq, .inl (cq, 16, .inr (.inr (.inr (.inr (zq [none, none, none, none, none, none, none, none, none, none, none, none, none, none, none, none]))))))] H := hP
    have hD : va_D A [(xo, .inr (6, [.ref xg, .int gc, .ref xp, .int pc, .ref xq, .int qc, .ref r1, .ref r2, .ref r3, .ref r4, .ref se, .int ts, .int hou, .int dr, .int su, .int br])), (xq, .inl (cq, 16, .inr (.inr (.inr (.inr (zq [none, none, none, none, none, none, none, none, none, none, none, none, none, none, none, none]))))))] := hD
    have hK : va_K D vwCl [(cq, .object "Gatherhouse$Piece")] s := hK
    have hBX : (E = "java/lang/IndexOutOfBoundsException") := hBX
    rcases hBX with rfl
    exact vx_out (fun x h => (hxt x h).elim) hlocks hce hcv hcl (fun t ht hW9 => ⟨(), trivial, ⟨rfl, q_RW_mk hP hK hD [0, 1] [0] rfl rfl (by decide) rfl ht hW9⟩, hS.F ht⟩) hS.2.2 (Nat.le_of_ble_eq_true rfl) (Nat.le_of_ble_eq_true rfl)
  · exact w_189.elim
theorem dX6_price_0 : decode cX6_price 0 = .ok (.aload_n 0, 1) := by decide +kernel
theorem dX6_price_1 : decode cX6_price 1 = .ok (.iload_n 1, 1) := by decide +kernel
theorem dX6_price_2 : decode cX6_price 2 = .ok (.invokevirtual 169, 3) := by decide +kernel
def wzEX6_price_no : List Cond := [.code yX6_price cX6_price 2 (some .int), .methodLink RX6 169 yX6_findPiece, .instanceMethod yX6_findPiece, .selects RX6 yX6_findPiece yX6_findPiece, .initialized RX6, .code yX6_findPiece cX6_findPiece 3 (some (.object "Gatherhouse$Piece")), .fieldLink RX6 30 "Gatherhouse" "pieces" "[LGatherhouse$Piece;", .classLink RX6 365 "java/lang/IndexOutOfBoundsException", .initialized "java/lang/IndexOutOfBoundsException"]
def wzX6_price_no : List Cond := wzEX6_price_no ++ (u_ws RX6 TX6 16 ++ ((vx_atS RX6 369 "java/lang/IndexOutOfBoundsException" ["java/lang/RuntimeException", "java/lang/Exception"]).filter goodWord))
theorem zgEX6_price_no : wzEX6_price_no.all goodWord = true := by decide +kernel
theorem zuX6_price_no_X6 : ∀ w ∈ u_ws RX6 TX6 16, w ∈ wzX6_price_no := (fun _ h => (List.mem_append_right _ (List.mem_append_left _ h)))
theorem ztX6_price_no_X6_369 : ∀ w ∈ (vx_atS RX6 369 "java/lang/IndexOutOfBoundsException" ["java/lang/RuntimeException", "java/lang/Exception"]).filter goodWord, w ∈ wzX6_price_no := (fun _ h => (List.mem_append_right _ (List.mem_append_right _ h)))
theorem gzX6_price_no_X6_findPiece_no_169 : GoodIn wzX6_price_no (wsV RX6 169 RX6 yX6_findPiece wzX6_findPiece_no) := (goodIn_app (z_lift (goodIn_r _ [1, 2, 3, 4] rfl (by decide +kernel))) (goodIn_app (z_lift (goodIn_r wzEX6_findPiece_no [5, 6, 7, 8] rfl zgEX6_findPiece_no)) (goodIn_app (goodIn_sub (fun _ h => (List.mem_append_right _ (List.mem_append_left _ h))) zgU_X6) (goodIn_sub (fun _ h => (List.mem_append_right _ (List.mem_append_right _ h))) zgV_X6_369))))
set_option maxHeartbeats 4000000 in
set_option maxRecDepth 100000 in
theorem zc_X6_price_no (l : Launch) (hnt : l.stackTraces = false) (D : va_G) (G : Nat × Nat × (Nat → Int32)) (xo : Nat) (xg : Nat) (gc : Int32) (xp : Nat) (pc : Int32) (xq : Nat) (qc : Int32) (r1 : Nat) (r2 : Nat) (r3 : Nat) (r4 : Nat) (se : Nat) (ts : Int32) (hou : Int32) (dr : Int32) (su : Int32) (br : Int32) (cq : ClassId) (sz : Nat) : vx_Met l yX6_price wzX6_price_no ({ frames := 7, cells := 1, slots := 6, locals := 104 }) (va_Pc [.ref xo, .int 0] (p_RW D G [(cq, .object "Gatherhouse$Piece")] [(xo, .inr (6, [.ref xg, .int gc, .ref xp, .int pc, .ref xq, .int qc, .ref r1, .ref r2, .ref r3, .ref r4, .ref se, .int ts, .int hou, .int dr, .int su, .int br])), (xq, .inl (cq, 16, .inr (.inr (.inr (.inr (zq [none, none, none, none, none, none, none, none, none, none, none, none, none, none, none, none]))))))] sz)) (va_Qi (fun (r : Int32) (u : Unit) => False) (fun (u : Unit) (t : State) => q_RW D [(cq, .object "Gatherhouse$Piece")] [(xo, .inr (6, [.ref xg, .int gc, .ref xp, .int pc, .ref xq, .int qc, .ref r1, .ref r2, .ref r3, .ref r4, .ref se, .int ts, .int hou, .int dr, .int su, .int br])), (xq, .inl (cq, 16, .inr (.inr (.inr (.inr (zq [none, none, none, none, none, none, none, none, none, none, none, none, none, none, none, none]))))))] (va_A [(xo, .inr (6, [.ref xg, .int gc, .ref xp, .int pc, .ref xq, .int qc, .ref r1, .ref r2, .ref r3, .ref r4, .ref se, .int ts, .int hou, .int dr, .int su, .int br])), (xq, .inl (cq, 16, .inr (.inr (.inr (.inr (zq [none, none, none, none, none, none, none, none, none, none, none, none, none, none, none, none]))))))] sz) t) (va_A [(xo, .inr (6, [.ref xg, .int gc, .ref xp, .int pc, .ref xq, .int qc, .ref r1, .ref r2, .ref r3, .ref r4, .ref se, .int ts, .int hou, .int dr, .int su, .int br])), (xq, .inl (cq, 16, .inr (.inr (.inr (.inr (zq [none, none, none, none, none, none, none, none, none, none, none, none, none, none, none, none]))))))] sz)) (vx_X (fun (_ : Unit) => True) (fun E (_ : Unit) (t : State) => ((E = "java/lang/IndexOutOfBoundsException")) ∧ q_RW D [(cq, .object "Gatherhouse$Piece")] [(xo, .inr (6, [.ref xg, .int gc, .ref xp, .int pc, .ref xq, .int qc, .ref r1, .ref r2, .ref r3, .ref r4, .ref se, .int ts, .int hou, .int dr, .int su, .int br])), (xq, .inl (cq, 16, .inr (.inr (.inr (.inr (zq [none, none, none, none, none, none, none, none, none, none, none, none, none, none, none, none]))))))] (va_A [(xo, .inr (6, [.ref xg, .int gc, .ref xp, .int pc, .ref xq, .int qc, .ref r1, .ref r2, .ref r3, .ref r4, .ref se, .int ts, .int hou, .int dr, .int su, .int br])), (xq, .inl (cq, 16, .inr (.inr (.inr (.inr (zq [none, none, none, none, none, none, none, none, none, none, none, none, none, none, none, none]))))))] sz) t) (va_A [(xo, .inr (6, [.ref xg, .int gc, .ref xp, .int pc, .ref xq, .int qc, .ref r1, .ref r2, .ref r3, .ref r4, .ref se, .int ts, .int hou, .int dr, .int su, .int br])), (xq, .inl (cq, 16, .inr (.inr (.inr (.inr (zq [none, none, none, none, none, none, none, none, none, none, none, none, none, none, none, none]))))))] sz)) 1 6 (va_A [(xo, .inr (6, [.ref xg, .int gc, .ref xp, .int pc, .ref xq, .int qc, .ref r1, .ref r2, .ref r3, .ref r4, .ref se, .int ts, .int hou, .int dr, .int su, .int br])), (xq, .inl (cq, 16, .inr (.inr (.inr (.inr (zq [none, none, none, none, none, none, none, none, none, none, none, none, none, none, none, none]))))))] sz) := by
  refine vx_ofW (cc := cX6_price) (maxL := 2) (ret := (some .int)) (by decide) rfl ?_
  intro p e s m args below meth c s₁ B hml hxt hv
  obtain ⟨rfl, hsz, hP, hK, hD0, hT, hZ⟩ := hv
  have hx := B.exec
  have hb := B.bytes
  have hr := B.returns
  have hts := atoms_spec (ws := wzX6_price_no) B.pre
  have hown : s.vm.findClass RX6 = some m.cls := findClass_of_methodNamed B.named
  have hlocks := B.notSynchronized
  subst hsz
  have hD := hD0.self (sz := s.heap.size)
  generalize hAe : va_A [(xo, .inr (6, [.ref xg, .int gc, .ref xp, .int pc, .ref xq, .int qc, .ref r1, .ref r2, .ref r3, .ref r4, .ref se, .int ts, .int hou, .int dr, .int su, .int br])), (xq, .inl (cq, 16, .inr (.inr (.inr (.inr (zq [none, none, none, none, none, none, none, none, none, none, none, none, none, none, none, none]))))))] s.heap.size = A at hD hZ ⊢
  have hA : ∀ q : Nat, s.heap.size ≤ q → A q := fun q h => by rw [← hAe]; exact Or.inr h
  have hS : va_S A s.heap s.heap [] := va_S.rf
  have hl := lv_entry ([.ref xo, .int 0]) (n := 2) (Nat.le_of_ble_eq_true rfl)
  rw [lg_entry_eq]
  generalize (lg_sl ([.ref xo, .int 0]) ++ List.replicate (2 - (lg_sl ([.ref xo, .int 0])).length) Slot.unset).toArray = ls at hl ⊢
  have hl : lv_has ls 2 [(0, .ref xo), (1, .int 0)] := hl
  refine lv_aload_n hx hb dX6_price_0 rfl (lv_at hl 0 rfl) ?_
  refine lv_iload_n hx hb dX6_price_1 rfl (lv_at hl 1 rfl) ?_
  have hFc := va_free (wc := [(xo, .inr (6, [.ref xg, .int gc, .ref xp, .int pc, .ref xq, .int qc, .ref r1, .ref r2, .ref r3, .ref r4, .ref se, .int ts, .int hou, .int dr, .int su, .int br])), (xq, .inl (cq, 16, .inr (.inr (.inr (.inr (zq [none, none, none, none, none, none, none, none, none, none, none, none, none, none, none, none]))))))]) hD hS hA [0, 1] rfl
  refine vx_callq (vx_runV (As := [.int 0]) (rest := []) ⟨hx, hb, hml, hown, hts⟩ (zc_X6_findPiece_no l hnt D G xo 0 xg gc xp pc xq qc r1 r2 r3 r4 se ts hou dr su br cq (zq [none, none, none, none, none, none, none, none, none, none, none, none, none, none, none, none]) s.heap.size (by first | assumption | rfl | omega | exact Nat.le_trans (zS_le _ _ _) (by omega) | decide) (by first | assumption | rfl | omega | exact Nat.le_trans (zS_le _ _ _) (by omega) | decide)) (cwV 1 hts gzX6_price_no_X6_findPiece_no_169 rfl rfl rfl (by decide +kernel) ⟨(Nat.le_of_ble_eq_true rfl), (Nat.le_of_ble_eq_true rfl)⟩) ⟨p_RW_blind, va_recv hK hP (ci := 6) (q0 := 0) rfl rfl, (p_RW_at (tc := [(cq, .object "Gatherhouse$Piece")]) (wc := [(xo, .inr (6, [.ref xg, .int gc, .ref xp, .int pc, .ref xq, .int qc, .ref r1, .ref r2, .ref r3, .ref r4, .ref se, .int ts, .int hou, .int dr, .int su, .int br])), (xq, .inl (cq, 16, .inr (.inr (.inr (.inr (zq [none, none, none, none, none, none, none, none, none, none, none, none, none, none, none, none]))))))]) hP hK hD hS hA hT hZ [0, 1] [0] rfl rfl (by decide) rfl [.ref xo, .int 0])⟩ rfl rfl hl.1 rfl (lv_room (Nat.le_of_ble_eq_true rfl)) dX6_price_2 ⟨(Nat.le_of_ble_eq_true rfl), (Nat.le_of_ble_eq_true rfl)⟩) hS (fun q _ h => hFc q h) hFc (fun q _ h => hFc q h) (fun E ce q9 u t H locs ht hvm hpx hBX hz1 hk1 hS hce hcv hcl => ?_) (fun r_190 u t H locs ht hvm w_191 hB hz1 hk1 hS => ?_)
  · obtain ⟨hBX, hB⟩ := hBX
    obtain ⟨hP, hD, hK⟩ := q_join (D := D) (wc := [(xo, .inr (6, [.ref xg, .int gc, .ref xp, .int pc, .ref xq, .int qc, .ref r1, .ref r2, .ref r3, .ref r4, .ref se, .int ts, .int hou, .int dr, .int su, .int br])), (xq, .inl (cq, 16, .inr (.inr (.inr (.inr (zq [none, none, none, none, none, none, none, none, none, none, none, none, none, none, none, none]))))))]) (wr := []) (w1 := [(xo, .inr (6, [.ref xg, .int gc, .ref xp, .int pc, .ref xq, .int qc, .ref r1, .ref r2, .ref r3, .ref r4, .ref se, .int ts, .int hou, .int dr, .int su, .int br])), (xq, .inl (cq, 16, .inr (.inr (.inr (.inr (zq [none, none, none, none, none, none, none, none, none, none, none, none, none, none, none, none]))))))]) (tyr := []) (ty1 := [(cq, .object "Gatherhouse$Piece")]) hP hD hK [0, 1] [] [] rfl rfl (by decide) (by decide) rfl hFc hk1 ht hvm hB
    have hP : va_P D vwCl [(xo, .inr (6, [.ref xg, .int gc, .ref xp, .int pc, .ref xq, .int qc, .ref r1, .ref r2, .ref r3, .ref r4, .ref se, .int ts, .int hou, .int dr, .int su, .int br])), (xq, .inl (cq, 16, .inr (.inr (.inr (.inr (zq [none, none, none, none, none, none, none, none, none, none, none, none, none, none, none, none]))))))] H := hP
    have hD : va_D A [(xo, .inr (6, [.ref xg, .int gc, .ref xp, .int pc, .ref xq, .int qc, .ref r1, .ref r2, .ref r3, .ref r4, .ref se, .int ts, .int hou, .int dr, .int su, .int br])), (xq, .inl (cq, 16, .inr (.inr (.inr (.inr (zq [none, none, none, none, none, none, none, none, none, none, none, none, none, none, none, none]))))))] := hD
    have hK : va_K D vwCl [(cq, .object "Gatherhouse$Piece")] s := hK
    have hBX : (E = "java/lang/IndexOutOfBoundsException") := hBX
    rcases hBX with rfl
    exact vx_out (fun x h => (hxt x h).elim) hlocks hce hcv hcl (fun t ht hW9 => ⟨(), trivial, ⟨rfl, q_RW_mk hP hK hD [0, 1] [0] rfl rfl (by decide) rfl ht hW9⟩, hS.F ht⟩) hS.2.2 (Nat.le_of_ble_eq_true rfl) (Nat.le_of_ble_eq_true rfl)
  · exact w_191.elim
theorem dX6_sell_0 : decode cX6_sell 0 = .ok (.aload_n 0, 1) := by decide +kernel
theorem dX6_sell_1 : decode cX6_sell 1 = .ok (.iload_n 1, 1) := by decide +kernel
theorem dX6_sell_2 : decode cX6_sell 2 = .ok (.invokevirtual 169, 3) := by decide +kernel
def wzEX6_sell_no : List Cond := [.code yX6_sell cX6_sell 4 (some .int), .methodLink RX6 169 yX6_findPiece, .instanceMethod yX6_findPiece, .selects RX6 yX6_findPiece yX6_findPiece, .initialized RX6, .code yX6_findPiece cX6_findPiece 3 (some (.object "Gatherhouse$Piece")), .fieldLink RX6 30 "Gatherhouse" "pieces" "[LGatherhouse$Piece;", .classLink RX6 365 "java/lang/IndexOutOfBoundsException", .initialized "java/lang/IndexOutOfBoundsException"]
def wzX6_sell_no : List Cond := wzEX6_sell_no ++ (u_ws RX6 TX6 16 ++ ((vx_atS RX6 369 "java/lang/IndexOutOfBoundsException" ["java/lang/RuntimeException", "java/lang/Exception"]).filter goodWord))
theorem zgEX6_sell_no : wzEX6_sell_no.all goodWord = true := by decide +kernel
theorem zuX6_sell_no_X6 : ∀ w ∈ u_ws RX6 TX6 16, w ∈ wzX6_sell_no := (fun _ h => (List.mem_append_right _ (List.mem_append_left _ h)))
theorem ztX6_sell_no_X6_369 : ∀ w ∈ (vx_atS RX6 369 "java/lang/IndexOutOfBoundsException" ["java/lang/RuntimeException", "java/lang/Exception"]).filter goodWord, w ∈ wzX6_sell_no := (fun _ h => (List.mem_append_right _ (List.mem_append_right _ h)))
theorem gzX6_sell_no_X6_findPiece_no_169 : GoodIn wzX6_sell_no (wsV RX6 169 RX6 yX6_findPiece wzX6_findPiece_no) := (goodIn_app (z_lift (goodIn_r _ [1, 2, 3, 4] rfl (by decide +kernel))) (goodIn_app (z_lift (goodIn_r wzEX6_findPiece_no [5, 6, 7, 8] rfl zgEX6_findPiece_no)) (goodIn_app (goodIn_sub (fun _ h => (List.mem_append_right _ (List.mem_append_left _ h))) zgU_X6) (goodIn_sub (fun _ h => (List.mem_append_right _ (List.mem_append_right _ h))) zgV_X6_369))))
set_option maxHeartbeats 4000000 in
set_option maxRecDepth 100000 in
theorem zc_X6_sell_no (l : Launch) (hnt : l.stackTraces = false) (D : va_G) (G : Nat × Nat × (Nat → Int32)) (xo : Nat) (xg : Nat) (gc : Int32) (xp : Nat) (pc : Int32) (xq : Nat) (qc : Int32) (r1 : Nat) (r2 : Nat) (r3 : Nat) (r4 : Nat) (se : Nat) (ts : Int32) (hou : Int32) (dr : Int32) (su : Int32) (br : Int32) (cq : ClassId) (sz : Nat) : vx_Met l yX6_sell wzX6_sell_no ({ frames := 7, cells := 1, slots := 6, locals := 104 }) (va_Pc [.ref xo, .int 0] (p_RW D G [(cq, .object "Gatherhouse$Piece")] [(xo, .inr (6, [.ref xg, .int gc, .ref xp, .int pc, .ref xq, .int qc, .ref r1, .ref r2, .ref r3, .ref r4, .ref se, .int ts, .int hou, .int dr, .int su, .int br])), (xq, .inl (cq, 16, .inr (.inr (.inr (.inr (zq [none, none, none, none, none, none, none, none, none, none, none, none, none, none, none, none]))))))] sz)) (va_Qi (fun (r : Int32) (u : Unit) => False) (fun (u : Unit) (t : State) => q_RW D [(cq, .object "Gatherhouse$Piece")] [(xo, .inr (6, [.ref xg, .int gc, .ref xp, .int pc, .ref xq, .int qc, .ref r1, .ref r2, .ref r3, .ref r4, .ref se, .int ts, .int hou, .int dr, .int su, .int br])), (xq, .inl (cq, 16, .inr (.inr (.inr (.inr (zq [none, none, none, none, none, none, none, none, none, none, none, none, none, none, none, none]))))))] (va_A [(xo, .inr (6, [.ref xg, .int gc, .ref xp, .int pc, .ref xq, .int qc, .ref r1, .ref r2, .ref r3, .ref r4, .ref se, .int ts, .int hou, .int dr, .int su, .int br])), (xq, .inl (cq, 16, .inr (.inr (.inr (.inr (zq [none, none, none, none, none, none, none, none, none, none, none, none, none, none, none, none]))))))] sz) t) (va_A [(xo, .inr (6, [.ref xg, .int gc, .ref xp, .int pc, .ref xq, .int qc, .ref r1, .ref r2, .ref r3, .ref r4, .ref se, .int ts, .int hou, .int dr, .int su, .int br])), (xq, .inl (cq, 16, .inr (.inr (.inr (.inr (zq [none, none, none, none, none, none, none, none, none, none, none, none, none, none, none, none]))))))] sz)) (vx_X (fun (_ : Unit) => True) (fun E (_ : Unit) (t : State) => ((E = "java/lang/IndexOutOfBoundsException")) ∧ q_RW D [(cq, .object "Gatherhouse$Piece")] [(xo, .inr (6, [.ref xg, .int gc, .ref xp, .int pc, .ref xq, .int qc, .ref r1, .ref r2, .ref r3, .ref r4, .ref se, .int ts, .int hou, .int dr, .int su, .int br])), (xq, .inl (cq, 16, .inr (.inr (.inr (.inr (zq [none, none, none, none, none, none, none, none, none, none, none, none, none, none, none, none]))))))] (va_A [(xo, .inr (6, [.ref xg, .int gc, .ref xp, .int pc, .ref xq, .int qc, .ref r1, .ref r2, .ref r3, .ref r4, .ref se, .int ts, .int hou, .int dr, .int su, .int br])), (xq, .inl (cq, 16, .inr (.inr (.inr (.inr (zq [none, none, none, none, none, none, none, none, none, none, none, none, none, none, none, none]))))))] sz) t) (va_A [(xo, .inr (6, [.ref xg, .int gc, .ref xp, .int pc, .ref xq, .int qc, .ref r1, .ref r2, .ref r3, .ref r4, .ref se, .int ts, .int hou, .int dr, .int su, .int br])), (xq, .inl (cq, 16, .inr (.inr (.inr (.inr (zq [none, none, none, none, none, none, none, none, none, none, none, none, none, none, none, none]))))))] sz)) 1 6 (va_A [(xo, .inr (6, [.ref xg, .int gc, .ref xp, .int pc, .ref xq, .int qc, .ref r1, .ref r2, .ref r3, .ref r4, .ref se, .int ts, .int hou, .int dr, .int su, .int br])), (xq, .inl (cq, 16, .inr (.inr (.inr (.inr (zq [none, none, none, none, none, none, none, none, none, none, none, none, none, none, none, none]))))))] sz) := by
  refine vx_ofW (cc := cX6_sell) (maxL := 4) (ret := (some .int)) (by decide) rfl ?_
  intro p e s m args below meth c s₁ B hml hxt hv
  obtain ⟨rfl, hsz, hP, hK, hD0, hT, hZ⟩ := hv
  have hx := B.exec
  have hb := B.bytes
  have hr := B.returns
  have hts := atoms_spec (ws := wzX6_sell_no) B.pre
  have hown : s.vm.findClass RX6 = some m.cls := findClass_of_methodNamed B.named
  have hlocks := B.notSynchronized
  subst hsz
  have hD := hD0.self (sz := s.heap.size)
  generalize hAe : va_A [(xo, .inr (6, [.ref xg, .int gc, .ref xp, .int pc, .ref xq, .int qc, .ref r1, .ref r2, .ref r3, .ref r4, .ref se, .int ts, .int hou, .int dr, .int su, .int br])), (xq, .inl (cq, 16, .inr (.inr (.inr (.inr (zq [none, none, none, none, none, none, none, none, none, none, none, none, none, none, none, none]))))))] s.heap.size = A at hD hZ ⊢
  have hA : ∀ q : Nat, s.heap.size ≤ q → A q := fun q h => by rw [← hAe]; exact Or.inr h
  have hS : va_S A s.heap s.heap [] := va_S.rf
  have hl := lv_entry ([.ref xo, .int 0]) (n := 4) (Nat.le_of_ble_eq_true rfl)
  rw [lg_entry_eq]
  generalize (lg_sl ([.ref xo, .int 0]) ++ List.replicate (4 - (lg_sl ([.ref xo, .int 0])).length) Slot.unset).toArray = ls at hl ⊢
  have hl : lv_has ls 4 [(0, .ref xo), (1, .int 0)] := hl
  refine lv_aload_n hx hb dX6_sell_0 rfl (lv_at hl 0 rfl) ?_
  refine lv_iload_n hx hb dX6_sell_1 rfl (lv_at hl 1 rfl) ?_
  have hFc := va_free (wc := [(xo, .inr (6, [.ref xg, .int gc, .ref xp, .int pc, .ref xq, .int qc, .ref r1, .ref r2, .ref r3, .ref r4, .ref se, .int ts, .int hou, .int dr, .int su, .int br])), (xq, .inl (cq, 16, .inr (.inr (.inr (.inr (zq [none, none, none, none, none, none, none, none, none, none, none, none, none, none, none, none]))))))]) hD hS hA [0, 1] rfl
  refine vx_callq (vx_runV (As := [.int 0]) (rest := []) ⟨hx, hb, hml, hown, hts⟩ (zc_X6_findPiece_no l hnt D G xo 0 xg gc xp pc xq qc r1 r2 r3 r4 se ts hou dr su br cq (zq [none, none, none, none, none, none, none, none, none, none, none, none, none, none, none, none]) s.heap.size (by first | assumption | rfl | omega | exact Nat.le_trans (zS_le _ _ _) (by omega) | decide) (by first | assumption | rfl | omega | exact Nat.le_trans (zS_le _ _ _) (by omega) | decide)) (cwV 1 hts gzX6_sell_no_X6_findPiece_no_169 rfl rfl rfl (by decide +kernel) ⟨(Nat.le_of_ble_eq_true rfl), (Nat.le_of_ble_eq_true rfl)⟩) ⟨p_RW_blind, va_recv hK hP (ci := 6) (q0 := 0) rfl rfl, (p_RW_at (tc := [(cq, .object "Gatherhouse$Piece")]) (wc := [(xo, .inr (6, [.ref xg, .int gc, .ref xp, .int pc, .ref xq, .int qc, .ref r1, .ref r2, .ref r3, .ref r4, .ref se, .int ts, .int hou, .int dr, .int su, .int br])), (xq, .inl (cq, 16, .inr (.inr (.inr (.inr (zq [none, none, none, none, none, none, none, none, none, none, none, none, none, none, none, none]))))))]) hP hK hD hS hA hT hZ [0, 1] [0] rfl rfl (by decide) rfl [.ref xo, .int 0])⟩ rfl rfl hl.1 rfl (lv_room (Nat.le_of_ble_eq_true rfl)) dX6_sell_2 ⟨(Nat.le_of_ble_eq_true rfl), (Nat.le_of_ble_eq_true rfl)⟩) hS (fun q _ h => hFc q h) hFc (fun q _ h => hFc q h) (fun E ce q9 u t H locs ht hvm hpx hBX hz1 hk1 hS hce hcv hcl => ?_) (fun r_192 u t H locs ht hvm w_193 hB hz1 hk1 hS => ?_)
  · obtain ⟨hBX, hB⟩ := hBX
    obtain ⟨hP, hD, hK⟩ := q_join (D := D) (wc := [(xo, .inr (6, [.ref xg, .int gc, .ref xp, .int pc, .ref xq, .int qc, .ref r1, .ref r2, .ref r3, .ref r4, .ref se, .int ts, .int hou, .int dr, .int su, .int br])), (xq, .inl (cq, 16, .inr (.inr (.inr (.inr (zq [none, none, none, none, none, none, none, none, none, none, none, none, none, none, none, none]))))))]) (wr := []) (w1 := [(xo, .inr (6, [.ref xg, .int gc, .ref xp, .int pc, .ref xq, .int qc, .ref r1, .ref r2, .ref r3, .ref r4, .ref se, .int ts, .int hou, .int dr, .int su, .int br])), (xq, .inl (cq, 16, .inr (.inr (.inr (.inr (zq [none, none, none, none, none, none, none, none, none, none, none, none, none, none, none, none]))))))]) (tyr := []) (ty1 := [(cq, .object "Gatherhouse$Piece")]) hP hD hK [0, 1] [] [] rfl rfl (by decide) (by decide) rfl hFc hk1 ht hvm hB
    have hP : va_P D vwCl [(xo, .inr (6, [.ref xg, .int gc, .ref xp, .int pc, .ref xq, .int qc, .ref r1, .ref r2, .ref r3, .ref r4, .ref se, .int ts, .int hou, .int dr, .int su, .int br])), (xq, .inl (cq, 16, .inr (.inr (.inr (.inr (zq [none, none, none, none, none, none, none, none, none, none, none, none, none, none, none, none]))))))] H := hP
    have hD : va_D A [(xo, .inr (6, [.ref xg, .int gc, .ref xp, .int pc, .ref xq, .int qc, .ref r1, .ref r2, .ref r3, .ref r4, .ref se, .int ts, .int hou, .int dr, .int su, .int br])), (xq, .inl (cq, 16, .inr (.inr (.inr (.inr (zq [none, none, none, none, none, none, none, none, none, none, none, none, none, none, none, none]))))))] := hD
    have hK : va_K D vwCl [(cq, .object "Gatherhouse$Piece")] s := hK
    have hBX : (E = "java/lang/IndexOutOfBoundsException") := hBX
    rcases hBX with rfl
    exact vx_out (fun x h => (hxt x h).elim) hlocks hce hcv hcl (fun t ht hW9 => ⟨(), trivial, ⟨rfl, q_RW_mk hP hK hD [0, 1] [0] rfl rfl (by decide) rfl ht hW9⟩, hS.F ht⟩) hS.2.2 (Nat.le_of_ble_eq_true rfl) (Nat.le_of_ble_eq_true rfl)
  · exact w_193.elim
theorem dX6_hours_0 : decode cX6_hours 0 = .ok (.iload_n 1, 1) := by decide +kernel
theorem dX6_hours_1 : decode cX6_hours 1 = .ok (.iconst 1, 1) := by decide +kernel
theorem dX6_hours_2 : decode cX6_hours 2 = .ok (.sipush 240, 3) := by decide +kernel
theorem dX6_hours_5 : decode cX6_hours 5 = .ok (.invokestatic 75, 3) := by decide +kernel
def wzEX6_hours_b : List Cond := [.code yX6_hours cX6_hours 4 (some .int), .methodLink RX6 75 yX6_checkRange, .static yX6_checkRange, .initialized RX6, .code yX6_checkRange cX6_checkRange 3 none, .classLink RX6 118 "java/lang/IllegalArgumentException", .initialized "java/lang/IllegalArgumentException"]
def wzX6_hours_b : List Cond := wzEX6_hours_b ++ ((vx_atS RX6 122 "java/lang/IllegalArgumentException" ["java/lang/RuntimeException", "java/lang/Exception"]).filter goodWord)
theorem zgEX6_hours_b : wzEX6_hours_b.all goodWord = true := by decide +kernel
theorem ztX6_hours_b_X6_122 : ∀ w ∈ (vx_atS RX6 122 "java/lang/IllegalArgumentException" ["java/lang/RuntimeException", "java/lang/Exception"]).filter goodWord, w ∈ wzX6_hours_b := (fun _ h => (List.mem_append_right _ h))
theorem gzX6_hours_b_X6_checkRange_hi_75 : GoodIn wzX6_hours_b (va_wsS RX6 75 yX6_checkRange wzX6_checkRange_hi) := (goodIn_app (z_lift (goodIn_r _ [1, 2, 3] rfl (by decide +kernel))) (goodIn_app (z_lift (goodIn_r wzEX6_checkRange_hi [4, 5, 6] rfl zgEX6_checkRange_hi)) (goodIn_sub (fun _ h => (List.mem_append_right _ h)) zgV_X6_122)))
set_option maxHeartbeats 4000000 in
set_option maxRecDepth 100000 in
theorem zc_X6_hours_b (l : Launch) (hnt : l.stackTraces = false) (D : va_G) (G : Nat × Nat × (Nat → Int32)) (xo : Nat) (xg : Nat) (gc : Int32) (xp : Nat) (pc : Int32) (xq : Nat) (qc : Int32) (r1 : Nat) (r2 : Nat) (r3 : Nat) (r4 : Nat) (se : Nat) (ts : Int32) (hou : Int32) (dr : Int32) (su : Int32) (br : Int32) (sz : Nat) : vx_Met l yX6_hours wzX6_hours_b ({ frames := 7, cells := 1, slots := 6, locals := 104 }) (va_Pc [.ref xo, .int 241] (p_RW D G [] [(xo, .inr (6, [.ref xg, .int gc, .ref xp, .int pc, .ref xq, .int qc, .ref r1, .ref r2, .ref r3, .ref r4, .ref se, .int ts, .int hou, .int dr, .int su, .int br]))] sz)) (va_Qi (fun (r : Int32) (u : Unit) => False) (fun (u : Unit) (t : State) => q_RW D [] [(xo, .inr (6, [.ref xg, .int gc, .ref xp, .int pc, .ref xq, .int qc, .ref r1, .ref r2, .ref r3, .ref r4, .ref se, .int ts, .int hou, .int dr, .int su, .int br]))] (va_A [(xo, .inr (6, [.ref xg, .int gc, .ref xp, .int pc, .ref xq, .int qc, .ref r1, .ref r2, .ref r3, .ref r4, .ref se, .int ts, .int hou, .int dr, .int su, .int br]))] sz) t) (va_A [(xo, .inr (6, [.ref xg, .int gc, .ref xp, .int pc, .ref xq, .int qc, .ref r1, .ref r2, .ref r3, .ref r4, .ref se, .int ts, .int hou, .int dr, .int su, .int br]))] sz)) (vx_X (fun (_ : Unit) => True) (fun E (_ : Unit) (t : State) => ((E = "java/lang/IllegalArgumentException")) ∧ q_RW D [] [(xo, .inr (6, [.ref xg, .int gc, .ref xp, .int pc, .ref xq, .int qc, .ref r1, .ref r2, .ref r3, .ref r4, .ref se, .int ts, .int hou, .int dr, .int su, .int br]))] (va_A [(xo, .inr (6, [.ref xg, .int gc, .ref xp, .int pc, .ref xq, .int qc, .ref r1, .ref r2, .ref r3, .ref r4, .ref se, .int ts, .int hou, .int dr, .int su, .int br]))] sz) t) (va_A [(xo, .inr (6, [.ref xg, .int gc, .ref xp, .int pc, .ref xq, .int qc, .ref r1, .ref r2, .ref r3, .ref r4, .ref se, .int ts, .int hou, .int dr, .int su, .int br]))] sz)) 1 6 (va_A [(xo, .inr (6, [.ref xg, .int gc, .ref xp, .int pc, .ref xq, .int qc, .ref r1, .ref r2, .ref r3, .ref r4, .ref se, .int ts, .int hou, .int dr, .int su, .int br]))] sz) := by
  refine vx_ofW (cc := cX6_hours) (maxL := 4) (ret := (some .int)) (by decide) rfl ?_
  intro p e s m args below meth c s₁ B hml hxt hv
  obtain ⟨rfl, hsz, hP, hK, hD0, hT, hZ⟩ := hv
  have hx := B.exec
  have hb := B.bytes
  have hr := B.returns
  have hts := atoms_spec (ws := wzX6_hours_b) B.pre
  have hown : s.vm.findClass RX6 = some m.cls := findClass_of_methodNamed B.named
  have hlocks := B.notSynchronized
  subst hsz
  have hD := hD0.self (sz := s.heap.size)
  generalize hAe : va_A [(xo, .inr (6, [.ref xg, .int gc, .ref xp, .int pc, .ref xq, .int qc, .ref r1, .ref r2, .ref r3, .ref r4, .ref se, .int ts, .int hou, .int dr, .int su, .int br]))] s.heap.size = A at hD hZ ⊢
  have hA : ∀ q : Nat, s.heap.size ≤ q → A q := fun q h => by rw [← hAe]; exact Or.inr h
  have hS : va_S A s.heap s.heap [] := va_S.rf
  have hl := lv_entry ([.ref xo, .int 241]) (n := 4) (Nat.le_of_ble_eq_true rfl)
  rw [lg_entry_eq]
  generalize (lg_sl ([.ref xo, .int 241]) ++ List.replicate (4 - (lg_sl ([.ref xo, .int 241])).length) Slot.unset).toArray = ls at hl ⊢
  have hl : lv_has ls 4 [(0, .ref xo), (1, .int 241)] := hl
  refine lv_iload_n hx hb dX6_hours_0 rfl (lv_at hl 1 rfl) ?_
  refine lv_iconst (v := 1) hx hb dX6_hours_1 (by decide) ?_
  refine lv_sipush (v := 240) hx hb dX6_hours_2 (by decide) ?_
  have hFc := va_free (wc := []) hD hS hA [] rfl
  refine vx_callv (vx_runS (As := [.int 241, .int 1, .int 240]) (rest := []) ⟨hx, hb, hml, hown, hts⟩ (zc_X6_checkRange_hi l hnt D G 241 1 240 s.heap.size (by first | assumption | rfl | omega | exact Nat.le_trans (zS_le _ _ _) (by omega) | decide) (by first | assumption | rfl | omega | exact Nat.le_trans (zS_le _ _ _) (by omega) | decide) (by first | assumption | rfl | omega | exact Nat.le_trans (zS_le _ _ _) (by omega) | decide) (by first | assumption | rfl | omega | exact Nat.le_trans (zS_le _ _ _) (by omega) | decide) (by first | assumption | rfl | omega | exact Nat.le_trans (zS_le _ _ _) (by omega) | decide)) (cwS 3 hts gzX6_hours_b_X6_checkRange_hi_75 rfl rfl rfl (by decide +kernel) ⟨(Nat.le_of_ble_eq_true rfl), (Nat.le_of_ble_eq_true rfl)⟩) ⟨p_RW_blind, (p_RW_at (tc := []) (wc := []) hP hK hD hS hA hT hZ [] [] rfl rfl (by decide) rfl [.int 241, .int 1, .int 240])⟩ rfl rfl hl.1 rfl (lv_room (Nat.le_of_ble_eq_true rfl)) dX6_hours_5 ⟨(Nat.le_of_ble_eq_true rfl), (Nat.le_of_ble_eq_true rfl)⟩) hS (fun q _ h => hFc q h) hFc (fun q _ h => hFc q h) (fun E ce q9 u t H locs ht hvm hpx hBX hz1 hk1 hS hce hcv hcl => ?_) (fun u t H locs ht hvm w_195 hB hz1 hk1 hS => ?_)
  · obtain ⟨hP, hD, hK⟩ := q_join (D := D) (wc := []) (wr := [(xo, .inr (6, [.ref xg, .int gc, .ref xp, .int pc, .ref xq, .int qc, .ref r1, .ref r2, .ref r3, .ref r4, .ref se, .int ts, .int hou, .int dr, .int su, .int br]))]) (w1 := []) (tyr := []) (ty1 := []) hP hD hK [] [0] [] rfl rfl (by decide) (by decide) rfl hFc hk1 ht hvm (q_none hK hvm)
    have hP : va_P D vwCl [(xo, .inr (6, [.ref xg, .int gc, .ref xp, .int pc, .ref xq, .int qc, .ref r1, .ref r2, .ref r3, .ref r4, .ref se, .int ts, .int hou, .int dr, .int su, .int br]))] H := hP
    have hD : va_D A [(xo, .inr (6, [.ref xg, .int gc, .ref xp, .int pc, .ref xq, .int qc, .ref r1, .ref r2, .ref r3, .ref r4, .ref se, .int ts, .int hou, .int dr, .int su, .int br]))] := hD
    have hK : va_K D vwCl [] s := hK
    have hBX : (E = "java/lang/IllegalArgumentException") := hBX
    rcases hBX with rfl
    exact vx_out (fun x h => (hxt x h).elim) hlocks hce hcv hcl (fun t ht hW9 => ⟨(), trivial, ⟨rfl, q_RW_mk hP hK hD [0] [] rfl rfl (by decide) rfl ht hW9⟩, hS.F ht⟩) hS.2.2 (Nat.le_of_ble_eq_true rfl) (Nat.le_of_ble_eq_true rfl)
  · exact w_195.elim
theorem dX6_pass_0 : decode cX6_pass 0 = .ok (.iload_n 1, 1) := by decide +kernel
theorem dX6_pass_1 : decode cX6_pass 1 = .ok (.iconst 1, 1) := by decide +kernel
theorem dX6_pass_2 : decode cX6_pass 2 = .ok (.sipush 600, 3) := by decide +kernel
theorem dX6_pass_5 : decode cX6_pass 5 = .ok (.invokestatic 75, 3) := by decide +kernel
def wzEX6_pass_b : List Cond := [.code yX6_pass cX6_pass 4 (some .int), .methodLink RX6 75 yX6_checkRange, .static yX6_checkRange, .initialized RX6, .code yX6_checkRange cX6_checkRange 3 none, .classLink RX6 118 "java/lang/IllegalArgumentException", .initialized "java/lang/IllegalArgumentException"]
def wzX6_pass_b : List Cond := wzEX6_pass_b ++ ((vx_atS RX6 122 "java/lang/IllegalArgumentException" ["java/lang/RuntimeException", "java/lang/Exception"]).filter goodWord)
theorem zgEX6_pass_b : wzEX6_pass_b.all goodWord = true := by decide +kernel
theorem ztX6_pass_b_X6_122 : ∀ w ∈ (vx_atS RX6 122 "java/lang/IllegalArgumentException" ["java/lang/RuntimeException", "java/lang/Exception"]).filter goodWord, w ∈ wzX6_pass_b := (fun _ h => (List.mem_append_right _ h))
theorem gzX6_pass_b_X6_checkRange_hi_75 : GoodIn wzX6_pass_b (va_wsS RX6 75 yX6_checkRange wzX6_checkRange_hi) := (goodIn_app (z_lift (goodIn_r _ [1, 2, 3] rfl (by decide +kernel))) (goodIn_app (z_lift (goodIn_r wzEX6_checkRange_hi [4, 5, 6] rfl zgEX6_checkRange_hi)) (goodIn_sub (fun _ h => (List.mem_append_right _ h)) zgV_X6_122)))
set_option maxHeartbeats 4000000 in
set_option maxRecDepth 100000 in
theorem zc_X6_pass_b (l : Launch) (hnt : l.stackTraces = false) (D : va_G) (G : Nat × Nat × (Nat → Int32)) (xo : Nat) (xg : Nat) (gc : Int32) (xp : Nat) (pc : Int32) (xq : Nat) (qc : Int32) (r1 : Nat) (r2 : Nat) (r3 : Nat) (r4 : Nat) (se : Nat) (ts : Int32) (hou : Int32) (dr : Int32) (su : Int32) (br : Int32) (sz : Nat) : vx_Met l yX6_pass wzX6_pass_b ({ frames := 7, cells := 1, slots := 6, locals := 104 }) (va_Pc [.ref xo, .int 601] (p_RW D G [] [(xo, .inr (6, [.ref xg, .int gc, .ref xp, .int pc, .ref xq, .int qc, .ref r1, .ref r2, .ref r3, .ref r4, .ref se, .int ts, .int hou, .int dr, .int su, .int br]))] sz)) (va_Qi (fun (r : Int32) (u : Unit) => False) (fun (u : Unit) (t : State) => q_RW D [] [(xo, .inr (6, [.ref xg, .int gc, .ref xp, .int pc, .ref xq, .int qc, .ref r1, .ref r2, .ref r3, .ref r4, .ref se, .int ts, .int hou, .int dr, .int su, .int br]))] (va_A [(xo, .inr (6, [.ref xg, .int gc, .ref xp, .int pc, .ref xq, .int qc, .ref r1, .ref r2, .ref r3, .ref r4, .ref se, .int ts, .int hou, .int dr, .int su, .int br]))] sz) t) (va_A [(xo, .inr (6, [.ref xg, .int gc, .ref xp, .int pc, .ref xq, .int qc, .ref r1, .ref r2, .ref r3, .ref r4, .ref se, .int ts, .int hou, .int dr, .int su, .int br]))] sz)) (vx_X (fun (_ : Unit) => True) (fun E (_ : Unit) (t : State) => ((E = "java/lang/IllegalArgumentException")) ∧ q_RW D [] [(xo, .inr (6, [.ref xg, .int gc, .ref xp, .int pc, .ref xq, .int qc, .ref r1, .ref r2, .ref r3, .ref r4, .ref se, .int ts, .int hou, .int dr, .int su, .int br]))] (va_A [(xo, .inr (6, [.ref xg, .int gc, .ref xp, .int pc, .ref xq, .int qc, .ref r1, .ref r2, .ref r3, .ref r4, .ref se, .int ts, .int hou, .int dr, .int su, .int br]))] sz) t) (va_A [(xo, .inr (6, [.ref xg, .int gc, .ref xp, .int pc, .ref xq, .int qc, .ref r1, .ref r2, .ref r3, .ref r4, .ref se, .int ts, .int hou, .int dr, .int su, .int br]))] sz)) 1 6 (va_A [(xo, .inr (6, [.ref xg, .int gc, .ref xp, .int pc, .ref xq, .int qc, .ref r1, .ref r2, .ref r3, .ref r4, .ref se, .int ts, .int hou, .int dr, .int su, .int br]))] sz) := by
  refine vx_ofW (cc := cX6_pass) (maxL := 4) (ret := (some .int)) (by decide) rfl ?_
  intro p e s m args below meth c s₁ B hml hxt hv
  obtain ⟨rfl, hsz, hP, hK, hD0, hT, hZ⟩ := hv
  have hx := B.exec
  have hb := B.bytes
  have hr := B.returns
  have hts := atoms_spec (ws := wzX6_pass_b) B.pre
  have hown : s.vm.findClass RX6 = some m.cls := findClass_of_methodNamed B.named
  have hlocks := B.notSynchronized
  subst hsz
  have hD := hD0.self (sz := s.heap.size)
  generalize hAe : va_A [(xo, .inr (6, [.ref xg, .int gc, .ref xp, .int pc, .ref xq, .int qc, .ref r1, .ref r2, .ref r3, .ref r4, .ref se, .int ts, .int hou, .int dr, .int su, .int br]))] s.heap.size = A at hD hZ ⊢
  have hA : ∀ q : Nat, s.heap.size ≤ q → A q := fun q h => by rw [← hAe]; exact Or.inr h
  have hS : va_S A s.heap s.heap [] := va_S.rf
  have hl := lv_entry ([.ref xo, .int 601]) (n := 4) (Nat.le_of_ble_eq_true rfl)
  rw [lg_entry_eq]
  generalize (lg_sl ([.ref xo, .int 601]) ++ List.replicate (4 - (lg_sl ([.ref xo, .int 601])).length) Slot.unset).toArray = ls at hl ⊢
  have hl : lv_has ls 4 [(0, .ref xo), (1, .int 601)] := hl
  refine lv_iload_n hx hb dX6_pass_0 rfl (lv_at hl 1 rfl) ?_
  refine lv_iconst (v := 1) hx hb dX6_pass_1 (by decide) ?_
  refine lv_sipush (v := 600) hx hb dX6_pass_2 (by decide) ?_
  have hFc := va_free (wc := []) hD hS hA [] rfl
  refine vx_callv (vx_runS (As := [.int 601, .int 1, .int 600]) (rest := []) ⟨hx, hb, hml, hown, hts⟩ (zc_X6_checkRange_hi l hnt D G 601 1 600 s.heap.size (by first | assumption | rfl | omega | exact Nat.le_trans (zS_le _ _ _) (by omega) | decide) (by first | assumption | rfl | omega | exact Nat.le_trans (zS_le _ _ _) (by omega) | decide) (by first | assumption | rfl | omega | exact Nat.le_trans (zS_le _ _ _) (by omega) | decide) (by first | assumption | rfl | omega | exact Nat.le_trans (zS_le _ _ _) (by omega) | decide) (by first | assumption | rfl | omega | exact Nat.le_trans (zS_le _ _ _) (by omega) | decide)) (cwS 3 hts gzX6_pass_b_X6_checkRange_hi_75 rfl rfl rfl (by decide +kernel) ⟨(Nat.le_of_ble_eq_true rfl), (Nat.le_of_ble_eq_true rfl)⟩) ⟨p_RW_blind, (p_RW_at (tc := []) (wc := []) hP hK hD hS hA hT hZ [] [] rfl rfl (by decide) rfl [.int 601, .int 1, .int 600])⟩ rfl rfl hl.1 rfl (lv_room (Nat.le_of_ble_eq_true rfl)) dX6_pass_5 ⟨(Nat.le_of_ble_eq_true rfl), (Nat.le_of_ble_eq_true rfl)⟩) hS (fun q _ h => hFc q h) hFc (fun q _ h => hFc q h) (fun E ce q9 u t H locs ht hvm hpx hBX hz1 hk1 hS hce hcv hcl => ?_) (fun u t H locs ht hvm w_197 hB hz1 hk1 hS => ?_)
  · obtain ⟨hP, hD, hK⟩ := q_join (D := D) (wc := []) (wr := [(xo, .inr (6, [.ref xg, .int gc, .ref xp, .int pc, .ref xq, .int qc, .ref r1, .ref r2, .ref r3, .ref r4, .ref se, .int ts, .int hou, .int dr, .int su, .int br]))]) (w1 := []) (tyr := []) (ty1 := []) hP hD hK [] [0] [] rfl rfl (by decide) (by decide) rfl hFc hk1 ht hvm (q_none hK hvm)
    have hP : va_P D vwCl [(xo, .inr (6, [.ref xg, .int gc, .ref xp, .int pc, .ref xq, .int qc, .ref r1, .ref r2, .ref r3, .ref r4, .ref se, .int ts, .int hou, .int dr, .int su, .int br]))] H := hP
    have hD : va_D A [(xo, .inr (6, [.ref xg, .int gc, .ref xp, .int pc, .ref xq, .int qc, .ref r1, .ref r2, .ref r3, .ref r4, .ref se, .int ts, .int hou, .int dr, .int su, .int br]))] := hD
    have hK : va_K D vwCl [] s := hK
    have hBX : (E = "java/lang/IllegalArgumentException") := hBX
    rcases hBX with rfl
    exact vx_out (fun x h => (hxt x h).elim) hlocks hce hcv hcl (fun t ht hW9 => ⟨(), trivial, ⟨rfl, q_RW_mk hP hK hD [0] [] rfl rfl (by decide) rfl ht hW9⟩, hS.F ht⟩) hS.2.2 (Nat.le_of_ble_eq_true rfl) (Nat.le_of_ble_eq_true rfl)
  · exact w_197.elim
theorem dX6_busy_0 : decode cX6_busy 0 = .ok (.aload_n 0, 1) := by decide +kernel
theorem dX6_busy_1 : decode cX6_busy 1 = .ok (.iload_n 1, 1) := by decide +kernel
theorem dX6_busy_2 : decode cX6_busy 2 = .ok (.invokevirtual 133, 3) := by decide +kernel
def wzEX6_busy_b : List Cond := [.code yX6_busy cX6_busy 2 (some .int), .methodLink RX6 133 yX6_findRole, .instanceMethod yX6_findRole, .selects RX6 yX6_findRole yX6_findRole, .initialized RX6, .code yX6_findRole cX6_findRole 2 (some (.object "Gatherhouse$Role")), .classLink RX6 118 "java/lang/IllegalArgumentException", .initialized "java/lang/IllegalArgumentException"]
def wzX6_busy_b : List Cond := wzEX6_busy_b ++ ((vx_atS RX6 122 "java/lang/IllegalArgumentException" ["java/lang/RuntimeException", "java/lang/Exception"]).filter goodWord)
theorem zgEX6_busy_b : wzEX6_busy_b.all goodWord = true := by decide +kernel
theorem ztX6_busy_b_X6_122 : ∀ w ∈ (vx_atS RX6 122 "java/lang/IllegalArgumentException" ["java/lang/RuntimeException", "java/lang/Exception"]).filter goodWord, w ∈ wzX6_busy_b := (fun _ h => (List.mem_append_right _ h))
theorem gzX6_busy_b_X6_findRole_x_133 : GoodIn wzX6_busy_b (wsV RX6 133 RX6 yX6_findRole wzX6_findRole_x) := (goodIn_app (z_lift (goodIn_r _ [1, 2, 3, 4] rfl (by decide +kernel))) (goodIn_app (z_lift (goodIn_r wzEX6_findRole_x [5, 6, 7] rfl zgEX6_findRole_x)) (goodIn_sub (fun _ h => (List.mem_append_right _ h)) zgV_X6_122)))
set_option maxHeartbeats 4000000 in
set_option maxRecDepth 100000 in
theorem zc_X6_busy_b (l : Launch) (hnt : l.stackTraces = false) (D : va_G) (G : Nat × Nat × (Nat → Int32)) (xo : Nat) (xg : Nat) (gc : Int32) (xp : Nat) (pc : Int32) (xq : Nat) (qc : Int32) (r1 : Nat) (r2 : Nat) (r3 : Nat) (r4 : Nat) (se : Nat) (ts : Int32) (hou : Int32) (dr : Int32) (su : Int32) (br : Int32) (sz : Nat) : vx_Met l yX6_busy wzX6_busy_b ({ frames := 7, cells := 1, slots := 6, locals := 103 }) (va_Pc [.ref xo, .int 120] (p_RW D G [] [(xo, .inr (6, [.ref xg, .int gc, .ref xp, .int pc, .ref xq, .int qc, .ref r1, .ref r2, .ref r3, .ref r4, .ref se, .int ts, .int hou, .int dr, .int su, .int br]))] sz)) (va_Qi (fun (r : Int32) (u : Unit) => False) (fun (u : Unit) (t : State) => q_RW D [] [(xo, .inr (6, [.ref xg, .int gc, .ref xp, .int pc, .ref xq, .int qc, .ref r1, .ref r2, .ref r3, .ref r4, .ref se, .int ts, .int hou, .int dr, .int su, .int br]))] (va_A [(xo, .inr (6, [.ref xg, .int gc, .ref xp, .int pc, .ref xq, .int qc, .ref r1, .ref r2, .ref r3, .ref r4, .ref se, .int ts, .int hou, .int dr, .int su, .int br]))] sz) t) (va_A [(xo, .inr (6, [.ref xg, .int gc, .ref xp, .int pc, .ref xq, .int qc, .ref r1, .ref r2, .ref r3, .ref r4, .ref se, .int ts, .int hou, .int dr, .int su, .int br]))] sz)) (vx_X (fun (_ : Unit) => True) (fun E (_ : Unit) (t : State) => ((E = "java/lang/IllegalArgumentException")) ∧ q_RW D [] [(xo, .inr (6, [.ref xg, .int gc, .ref xp, .int pc, .ref xq, .int qc, .ref r1, .ref r2, .ref r3, .ref r4, .ref se, .int ts, .int hou, .int dr, .int su, .int br]))] (va_A [(xo, .inr (6, [.ref xg, .int gc, .ref xp, .int pc, .ref xq, .int qc, .ref r1, .ref r2, .ref r3, .ref r4, .ref se, .int ts, .int hou, .int dr, .int su, .int br]))] sz) t) (va_A [(xo, .inr (6, [.ref xg, .int gc, .ref xp, .int pc, .ref xq, .int qc, .ref r1, .ref r2, .ref r3, .ref r4, .ref se, .int ts, .int hou, .int dr, .int su, .int br]))] sz)) 1 6 (va_A [(xo, .inr (6, [.ref xg, .int gc, .ref xp, .int pc, .ref xq, .int qc, .ref r1, .ref r2, .ref r3, .ref r4, .ref se, .int ts, .int hou, .int dr, .int su, .int br]))] sz) := by
  refine vx_ofW (cc := cX6_busy) (maxL := 2) (ret := (some .int)) (by decide) rfl ?_
  intro p e s m args below meth c s₁ B hml hxt hv
  obtain ⟨rfl, hsz, hP, hK, hD0, hT, hZ⟩ := hv
  have hx := B.exec
  have hb := B.bytes
  have hr := B.returns
  have hts := atoms_spec (ws := wzX6_busy_b) B.pre
  have hown : s.vm.findClass RX6 = some m.cls := findClass_of_methodNamed B.named
  have hlocks := B.notSynchronized
  subst hsz
  have hD := hD0.self (sz := s.heap.size)
  generalize hAe : va_A [(xo, .inr (6, [.ref xg, .int gc, .ref xp, .int pc, .ref xq, .int qc, .ref r1, .ref r2, .ref r3, .ref r4, .ref se, .int ts, .int hou, .int dr, .int su, .int br]))] s.heap.size = A at hD hZ ⊢
  have hA : ∀ q : Nat, s.heap.size ≤ q → A q := fun q h => by rw [← hAe]; exact Or.inr h
  have hS : va_S A s.heap s.heap [] := va_S.rf
  have hl := lv_entry ([.ref xo, .int 120]) (n := 2) (Nat.le_of_ble_eq_true rfl)
  rw [lg_entry_eq]
  generalize (lg_sl ([.ref xo, .int 120]) ++ List.replicate (2 - (lg_sl ([.ref xo, .int 120])).length) Slot.unset).toArray = ls at hl ⊢
  have hl : lv_has ls 2 [(0, .ref xo), (1, .int 120)] := hl
  refine lv_aload_n hx hb dX6_busy_0 rfl (lv_at hl 0 rfl) ?_
  refine lv_iload_n hx hb dX6_busy_1 rfl (lv_at hl 1 rfl) ?_
  have hFc := va_free (wc := [(xo, .inr (6, [.ref xg, .int gc, .ref xp, .int pc, .ref xq, .int qc, .ref r1, .ref r2, .ref r3, .ref r4, .ref se, .int ts, .int hou, .int dr, .int su, .int br]))]) hD hS hA [0] rfl
  refine vx_callq (vx_runV (As := [.int 120]) (rest := []) ⟨hx, hb, hml, hown, hts⟩ (zc_X6_findRole_x l hnt D G xo xg gc xp pc xq qc r1 r2 r3 r4 se ts hou dr su br s.heap.size) (cwV 1 hts gzX6_busy_b_X6_findRole_x_133 rfl rfl rfl (by decide +kernel) ⟨(Nat.le_of_ble_eq_true rfl), (Nat.le_of_ble_eq_true rfl)⟩) ⟨p_RW_blind, va_recv hK hP (ci := 6) (q0 := 0) rfl rfl, (p_RW_at (tc := []) (wc := [(xo, .inr (6, [.ref xg, .int gc, .ref xp, .int pc, .ref xq, .int qc, .ref r1, .ref r2, .ref r3, .ref r4, .ref se, .int ts, .int hou, .int dr, .int su, .int br]))]) hP hK hD hS hA hT hZ [0] [] rfl rfl (by decide) rfl [.ref xo, .int 120])⟩ rfl rfl hl.1 rfl (lv_room (Nat.le_of_ble_eq_true rfl)) dX6_busy_2 ⟨(Nat.le_of_ble_eq_true rfl), (Nat.le_of_ble_eq_true rfl)⟩) hS (fun q _ h => hFc q h) hFc (fun q _ h => hFc q h) (fun E ce q9 u t H locs ht hvm hpx hBX hz1 hk1 hS hce hcv hcl => ?_) (fun r_198 u t H locs ht hvm w_199 hB hz1 hk1 hS => ?_)
  · obtain ⟨hBX, hB⟩ := hBX
    obtain ⟨hP, hD, hK⟩ := q_join (D := D) (wc := [(xo, .inr (6, [.ref xg, .int gc, .ref xp, .int pc, .ref xq, .int qc, .ref r1, .ref r2, .ref r3, .ref r4, .ref se, .int ts, .int hou, .int dr, .int su, .int br]))]) (wr := []) (w1 := [(xo, .inr (6, [.ref xg, .int gc, .ref xp, .int pc, .ref xq, .int qc, .ref r1, .ref r2, .ref r3, .ref r4, .ref se, .int ts, .int hou, .int dr, .int su, .int br]))]) (tyr := []) (ty1 := []) hP hD hK [0] [] [] rfl rfl (by decide) (by decide) rfl hFc hk1 ht hvm hB
    have hP : va_P D vwCl [(xo, .inr (6, [.ref xg, .int gc, .ref xp, .int pc, .ref xq, .int qc, .ref r1, .ref r2, .ref r3, .ref r4, .ref se, .int ts, .int hou, .int dr, .int su, .int br]))] H := hP
    have hD : va_D A [(xo, .inr (6, [.ref xg, .int gc, .ref xp, .int pc, .ref xq, .int qc, .ref r1, .ref r2, .ref r3, .ref r4, .ref se, .int ts, .int hou, .int dr, .int su, .int br]))] := hD
    have hK : va_K D vwCl [] s := hK
    have hBX : (E = "java/lang/IllegalArgumentException") := hBX
    rcases hBX with rfl
    exact vx_out (fun x h => (hxt x h).elim) hlocks hce hcv hcl (fun t ht hW9 => ⟨(), trivial, ⟨rfl, q_RW_mk hP hK hD [0] [] rfl rfl (by decide) rfl ht hW9⟩, hS.F ht⟩) hS.2.2 (Nat.le_of_ble_eq_true rfl) (Nat.le_of_ble_eq_true rfl)
  · exact w_199.elim
theorem dX6_pay_0 : decode cX6_pay 0 = .ok (.aload_n 0, 1) := by decide +kernel
theorem dX6_pay_1 : decode cX6_pay 1 = .ok (.iload_n 1, 1) := by decide +kernel
theorem dX6_pay_2 : decode cX6_pay 2 = .ok (.invokevirtual 133, 3) := by decide +kernel
def wzEX6_pay_b : List Cond := [.code yX6_pay cX6_pay 2 (some .int), .methodLink RX6 133 yX6_findRole, .instanceMethod yX6_findRole, .selects RX6 yX6_findRole yX6_findRole, .initialized RX6, .code yX6_findRole cX6_findRole 2 (some (.object "Gatherhouse$Role")), .classLink RX6 118 "java/lang/IllegalArgumentException", .initialized "java/lang/IllegalArgumentException"]
def wzX6_pay_b : List Cond := wzEX6_pay_b ++ ((vx_atS RX6 122 "java/lang/IllegalArgumentException" ["java/lang/RuntimeException", "java/lang/Exception"]).filter goodWord)
theorem zgEX6_pay_b : wzEX6_pay_b.all goodWord = true := by decide +kernel
theorem ztX6_pay_b_X6_122 : ∀ w ∈ (vx_atS RX6 122 "java/lang/IllegalArgumentException" ["java/lang/RuntimeException", "java/lang/Exception"]).filter goodWord, w ∈ wzX6_pay_b := (fun _ h => (List.mem_append_right _ h))
theorem gzX6_pay_b_X6_findRole_x_133 : GoodIn wzX6_pay_b (wsV RX6 133 RX6 yX6_findRole wzX6_findRole_x) := (goodIn_app (z_lift (goodIn_r _ [1, 2, 3, 4] rfl (by decide +kernel))) (goodIn_app (z_lift (goodIn_r wzEX6_findRole_x [5, 6, 7] rfl zgEX6_findRole_x)) (goodIn_sub (fun _ h => (List.mem_append_right _ h)) zgV_X6_122)))
set_option maxHeartbeats 4000000 in
set_option maxRecDepth 100000 in
theorem zc_X6_pay_b (l : Launch) (hnt : l.stackTraces = false) (D : va_G) (G : Nat × Nat × (Nat → Int32)) (xo : Nat) (xg : Nat) (gc : Int32) (xp : Nat) (pc : Int32) (xq : Nat) (qc : Int32) (r1 : Nat) (r2 : Nat) (r3 : Nat) (r4 : Nat) (se : Nat) (ts : Int32) (hou : Int32) (dr : Int32) (su : Int32) (br : Int32) (sz : Nat) : vx_Met l yX6_pay wzX6_pay_b ({ frames := 7, cells := 1, slots := 6, locals := 103 }) (va_Pc [.ref xo, .int 120] (p_RW D G [] [(xo, .inr (6, [.ref xg, .int gc, .ref xp, .int pc, .ref xq, .int qc, .ref r1, .ref r2, .ref r3, .ref r4, .ref se, .int ts, .int hou, .int dr, .int su, .int br]))] sz)) (va_Qi (fun (r : Int32) (u : Unit) => False) (fun (u : Unit) (t : State) => q_RW D [] [(xo, .inr (6, [.ref xg, .int gc, .ref xp, .int pc, .ref xq, .int qc, .ref r1, .ref r2, .ref r3, .ref r4, .ref se, .int ts, .int hou, .int dr, .int su, .int br]))] (va_A [(xo, .inr (6, [.ref xg, .int gc, .ref xp, .int pc, .ref xq, .int qc, .ref r1, .ref r2, .ref r3, .ref r4, .ref se, .int ts, .int hou, .int dr, .int su, .int br]))] sz) t) (va_A [(xo, .inr (6, [.ref xg, .int gc, .ref xp, .int pc, .ref xq, .int qc, .ref r1, .ref r2, .ref r3, .ref r4, .ref se, .int ts, .int hou, .int dr, .int su, .int br]))] sz)) (vx_X (fun (_ : Unit) => True) (fun E (_ : Unit) (t : State) => ((E = "java/lang/IllegalArgumentException")) ∧ q_RW D [] [(xo, .inr (6, [.ref xg, .int gc, .ref xp, .int pc, .ref xq, .int qc, .ref r1, .ref r2, .ref r3, .ref r4, .ref se, .int ts, .int hou, .int dr, .int su, .int br]))] (va_A [(xo, .inr (6, [.ref xg, .int gc, .ref xp, .int pc, .ref xq, .int qc, .ref r1, .ref r2, .ref r3, .ref r4, .ref se, .int ts, .int hou, .int dr, .int su, .int br]))] sz) t) (va_A [(xo, .inr (6, [.ref xg, .int gc, .ref xp, .int pc, .ref xq, .int qc, .ref r1, .ref r2, .ref r3, .ref r4, .ref se, .int ts, .int hou, .int dr, .int su, .int br]))] sz)) 1 6 (va_A [(xo, .inr (6, [.ref xg, .int gc, .ref xp, .int pc, .ref xq, .int qc, .ref r1, .ref r2, .ref r3, .ref r4, .ref se, .int ts, .int hou, .int dr, .int su, .int br]))] sz) := by
  refine vx_ofW (cc := cX6_pay) (maxL := 2) (ret := (some .int)) (by decide) rfl ?_
  intro p e s m args below meth c s₁ B hml hxt hv
  obtain ⟨rfl, hsz, hP, hK, hD0, hT, hZ⟩ := hv
  have hx := B.exec
  have hb := B.bytes
  have hr := B.returns
  have hts := atoms_spec (ws := wzX6_pay_b) B.pre
  have hown : s.vm.findClass RX6 = some m.cls := findClass_of_methodNamed B.named
  have hlocks := B.notSynchronized
  subst hsz
  have hD := hD0.self (sz := s.heap.size)
  generalize hAe : va_A [(xo, .inr (6, [.ref xg, .int gc, .ref xp, .int pc, .ref xq, .int qc, .ref r1, .ref r2, .ref r3, .ref r4, .ref se, .int ts, .int hou, .int dr, .int su, .int br]))] s.heap.size = A at hD hZ ⊢
  have hA : ∀ q : Nat, s.heap.size ≤ q → A q := fun q h => by rw [← hAe]; exact Or.inr h
  have hS : va_S A s.heap s.heap [] := va_S.rf
  have hl := lv_entry ([.ref xo, .int 120]) (n := 2) (Nat.le_of_ble_eq_true rfl)
  rw [lg_entry_eq]
  generalize (lg_sl ([.ref xo, .int 120]) ++ List.replicate (2 - (lg_sl ([.ref xo, .int 120])).length) Slot.unset).toArray = ls at hl ⊢
  have hl : lv_has ls 2 [(0, .ref xo), (1, .int 120)] := hl
  refine lv_aload_n hx hb dX6_pay_0 rfl (lv_at hl 0 rfl) ?_
  refine lv_iload_n hx hb dX6_pay_1 rfl (lv_at hl 1 rfl) ?_
  have hFc := va_free (wc := [(xo, .inr (6, [.ref xg, .int gc, .ref xp, .int pc, .ref xq, .int qc, .ref r1, .ref r2, .ref r3, .ref r4, .ref se, .int ts, .int hou, .int dr, .int su, .int br]))]) hD hS hA [0] rfl
  refine vx_callq (vx_runV (As := [.int 120]) (rest := []) ⟨hx, hb, hml, hown, hts⟩ (zc_X6_findRole_x l hnt D G xo xg gc xp pc xq qc r1 r2 r3 r4 se ts hou dr su br s.heap.size) (cwV 1 hts gzX6_pay_b_X6_findRole_x_133 rfl rfl rfl (by decide +kernel) ⟨(Nat.le_of_ble_eq_true rfl), (Nat.le_of_ble_eq_true rfl)⟩) ⟨p_RW_blind, va_recv hK hP (ci := 6) (q0 := 0) rfl rfl, (p_RW_at (tc := []) (wc := [(xo, .inr (6, [.ref xg, .int gc, .ref xp, .int pc, .ref xq, .int qc, .ref r1, .ref r2, .ref r3, .ref r4, .ref se, .int ts, .int hou, .int dr, .int su, .int br]))]) hP hK hD hS hA hT hZ [0] [] rfl rfl (by decide) rfl [.ref xo, .int 120])⟩ rfl rfl hl.1 rfl (lv_room (Nat.le_of_ble_eq_true rfl)) dX6_pay_2 ⟨(Nat.le_of_ble_eq_true rfl), (Nat.le_of_ble_eq_true rfl)⟩) hS (fun q _ h => hFc q h) hFc (fun q _ h => hFc q h) (fun E ce q9 u t H locs ht hvm hpx hBX hz1 hk1 hS hce hcv hcl => ?_) (fun r_200 u t H locs ht hvm w_201 hB hz1 hk1 hS => ?_)
  · obtain ⟨hBX, hB⟩ := hBX
    obtain ⟨hP, hD, hK⟩ := q_join (D := D) (wc := [(xo, .inr (6, [.ref xg, .int gc, .ref xp, .int pc, .ref xq, .int qc, .ref r1, .ref r2, .ref r3, .ref r4, .ref se, .int ts, .int hou, .int dr, .int su, .int br]))]) (wr := []) (w1 := [(xo, .inr (6, [.ref xg, .int gc, .ref xp, .int pc, .ref xq, .int qc, .ref r1, .ref r2, .ref r3, .ref r4, .ref se, .int ts, .int hou, .int dr, .int su, .int br]))]) (tyr := []) (ty1 := []) hP hD hK [0] [] [] rfl rfl (by decide) (by decide) rfl hFc hk1 ht hvm hB
    have hP : va_P D vwCl [(xo, .inr (6, [.ref xg, .int gc, .ref xp, .int pc, .ref xq, .int qc, .ref r1, .ref r2, .ref r3, .ref r4, .ref se, .int ts, .int hou, .int dr, .int su, .int br]))] H := hP
    have hD : va_D A [(xo, .inr (6, [.ref xg, .int gc, .ref xp, .int pc, .ref xq, .int qc, .ref r1, .ref r2, .ref r3, .ref r4, .ref se, .int ts, .int hou, .int dr, .int su, .int br]))] := hD
    have hK : va_K D vwCl [] s := hK
    have hBX : (E = "java/lang/IllegalArgumentException") := hBX
    rcases hBX with rfl
    exact vx_out (fun x h => (hxt x h).elim) hlocks hce hcv hcl (fun t ht hW9 => ⟨(), trivial, ⟨rfl, q_RW_mk hP hK hD [0] [] rfl rfl (by decide) rfl ht hW9⟩, hS.F ht⟩) hS.2.2 (Nat.le_of_ble_eq_true rfl) (Nat.le_of_ble_eq_true rfl)
  · exact w_201.elim
theorem dX6_drop_0 : decode cX6_drop 0 = .ok (.iload_n 1, 1) := by decide +kernel
theorem dX6_drop_1 : decode cX6_drop 1 = .ok (.bipush 10, 2) := by decide +kernel
theorem dX6_drop_3 : decode cX6_drop 3 = .ok (.sipush 200, 3) := by decide +kernel
theorem dX6_drop_6 : decode cX6_drop 6 = .ok (.invokestatic 75, 3) := by decide +kernel
def wzEX6_drop_b : List Cond := [.code yX6_drop cX6_drop 3 (some .int), .methodLink RX6 75 yX6_checkRange, .static yX6_checkRange, .initialized RX6, .code yX6_checkRange cX6_checkRange 3 none, .classLink RX6 118 "java/lang/IllegalArgumentException", .initialized "java/lang/IllegalArgumentException"]
def wzX6_drop_b : List Cond := wzEX6_drop_b ++ ((vx_atS RX6 122 "java/lang/IllegalArgumentException" ["java/lang/RuntimeException", "java/lang/Exception"]).filter goodWord)
theorem zgEX6_drop_b : wzEX6_drop_b.all goodWord = true := by decide +kernel
theorem ztX6_drop_b_X6_122 : ∀ w ∈ (vx_atS RX6 122 "java/lang/IllegalArgumentException" ["java/lang/RuntimeException", "java/lang/Exception"]).filter goodWord, w ∈ wzX6_drop_b := (fun _ h => (List.mem_append_right _ h))
theorem gzX6_drop_b_X6_checkRange_lo_75 : GoodIn wzX6_drop_b (va_wsS RX6 75 yX6_checkRange wzX6_checkRange_lo) := (goodIn_app (z_lift (goodIn_r _ [1, 2, 3] rfl (by decide +kernel))) (goodIn_app (z_lift (goodIn_r wzEX6_checkRange_lo [4, 5, 6] rfl zgEX6_checkRange_lo)) (goodIn_sub (fun _ h => (List.mem_append_right _ h)) zgV_X6_122)))
set_option maxHeartbeats 4000000 in
set_option maxRecDepth 100000 in
theorem zc_X6_drop_b (l : Launch) (hnt : l.stackTraces = false) (D : va_G) (G : Nat × Nat × (Nat → Int32)) (xo : Nat) (xg : Nat) (gc : Int32) (xp : Nat) (pc : Int32) (xq : Nat) (qc : Int32) (r1 : Nat) (r2 : Nat) (r3 : Nat) (r4 : Nat) (se : Nat) (ts : Int32) (hou : Int32) (dr : Int32) (su : Int32) (br : Int32) (sz : Nat) : vx_Met l yX6_drop wzX6_drop_b ({ frames := 7, cells := 1, slots := 6, locals := 104 }) (va_Pc [.ref xo, .int 9] (p_RW D G [] [(xo, .inr (6, [.ref xg, .int gc, .ref xp, .int pc, .ref xq, .int qc, .ref r1, .ref r2, .ref r3, .ref r4, .ref se, .int ts, .int hou, .int dr, .int su, .int br]))] sz)) (va_Qi (fun (r : Int32) (u : Unit) => False) (fun (u : Unit) (t : State) => q_RW D [] [(xo, .inr (6, [.ref xg, .int gc, .ref xp, .int pc, .ref xq, .int qc, .ref r1, .ref r2, .ref r3, .ref r4, .ref se, .int ts, .int hou, .int dr, .int su, .int br]))] (va_A [(xo, .inr (6, [.ref xg, .int gc, .ref xp, .int pc, .ref xq, .int qc, .ref r1, .ref r2, .ref r3, .ref r4, .ref se, .int ts, .int hou, .int dr, .int su, .int br]))] sz) t) (va_A [(xo, .inr (6, [.ref xg, .int gc, .ref xp, .int pc, .ref xq, .int qc, .ref r1, .ref r2, .ref r3, .ref r4, .ref se, .int ts, .int hou, .int dr, .int su, .int br]))] sz)) (vx_X (fun (_ : Unit) => True) (fun E (_ : Unit) (t : State) => ((E = "java/lang/IllegalArgumentException")) ∧ q_RW D [] [(xo, .inr (6, [.ref xg, .int gc, .ref xp, .int pc, .ref xq, .int qc, .ref r1, .ref r2, .ref r3, .ref r4, .ref se, .int ts, .int hou, .int dr, .int su, .int br]))] (va_A [(xo, .inr (6, [.ref xg, .int gc, .ref xp, .int pc, .ref xq, .int qc, .ref r1, .ref r2, .ref r3, .ref r4, .ref se, .int ts, .int hou, .int dr, .int su, .int br]))] sz) t) (va_A [(xo, .inr (6, [.ref xg, .int gc, .ref xp, .int pc, .ref xq, .int qc, .ref r1, .ref r2, .ref r3, .ref r4, .ref se, .int ts, .int hou, .int dr, .int su, .int br]))] sz)) 1 6 (va_A [(xo, .inr (6, [.ref xg, .int gc, .ref xp, .int pc, .ref xq, .int qc, .ref r1, .ref r2, .ref r3, .ref r4, .ref se, .int ts, .int hou, .int dr, .int su, .int br]))] sz) := by
  refine vx_ofW (cc := cX6_drop) (maxL := 3) (ret := (some .int)) (by decide) rfl ?_
  intro p e s m args below meth c s₁ B hml hxt hv
  obtain ⟨rfl, hsz, hP, hK, hD0, hT, hZ⟩ := hv
  have hx := B.exec
  have hb := B.bytes
  have hr := B.returns
  have hts := atoms_spec (ws := wzX6_drop_b) B.pre
  have hown : s.vm.findClass RX6 = some m.cls := findClass_of_methodNamed B.named
  have hlocks := B.notSynchronized
  subst hsz
  have hD := hD0.self (sz := s.heap.size)
  generalize hAe : va_A [(xo, .inr (6, [.ref xg, .int gc, .ref xp, .int pc, .ref xq, .int qc, .ref r1, .ref r2, .ref r3, .ref r4, .ref se, .int ts, .int hou, .int dr, .int su, .int br]))] s.heap.size = A at hD hZ ⊢
  have hA : ∀ q : Nat, s.heap.size ≤ q → A q := fun q h => by rw [← hAe]; exact Or.inr h
  have hS : va_S A s.heap s.heap [] := va_S.rf
  have hl := lv_entry ([.ref xo, .int 9]) (n := 3) (Nat.le_of_ble_eq_true rfl)
  rw [lg_entry_eq]
  generalize (lg_sl ([.ref xo, .int 9]) ++ List.replicate (3 - (lg_sl ([.ref xo, .int 9])).length) Slot.unset).toArray = ls at hl ⊢
  have hl : lv_has ls 3 [(0, .ref xo), (1, .int 9)] := hl
  refine lv_iload_n hx hb dX6_drop_0 rfl (lv_at hl 1 rfl) ?_
  refine lv_bipush (v := 10) hx hb dX6_drop_1 (by decide) ?_
  refine lv_sipush (v := 200) hx hb dX6_drop_3 (by decide) ?_
  have hFc := va_free (wc := []) hD hS hA [] rfl
  refine vx_callv (vx_runS (As := [.int 9, .int 10, .int 200]) (rest := []) ⟨hx, hb, hml, hown, hts⟩ (zc_X6_checkRange_lo l hnt D G 9 10 200 s.heap.size (by first | assumption | rfl | omega | exact Nat.le_trans (zS_le _ _ _) (by omega) | decide) (by first | assumption | rfl | omega | exact Nat.le_trans (zS_le _ _ _) (by omega) | decide) (by first | assumption | rfl | omega | exact Nat.le_trans (zS_le _ _ _) (by omega) | decide) (by first | assumption | rfl | omega | exact Nat.le_trans (zS_le _ _ _) (by omega) | decide)) (cwS 3 hts gzX6_drop_b_X6_checkRange_lo_75 rfl rfl rfl (by decide +kernel) ⟨(Nat.le_of_ble_eq_true rfl), (Nat.le_of_ble_eq_true rfl)⟩) ⟨p_RW_blind, (p_RW_at (tc := []) (wc := []) hP hK hD hS hA hT hZ [] [] rfl rfl (by decide) rfl [.int 9, .int 10, .int 200])⟩ rfl rfl hl.1 rfl (lv_room (Nat.le_of_ble_eq_true rfl)) dX6_drop_6 ⟨(Nat.le_of_ble_eq_true rfl), (Nat.le_of_ble_eq_true rfl)⟩) hS (fun q _ h => hFc q h) hFc (fun q _ h => hFc q h) (fun E ce q9 u t H locs ht hvm hpx hBX hz1 hk1 hS hce hcv hcl => ?_) (fun u t H locs ht hvm w_203 hB hz1 hk1 hS => ?_)
  · obtain ⟨hP, hD, hK⟩ := q_join (D := D) (wc := []) (wr := [(xo, .inr (6, [.ref xg, .int gc, .ref xp, .int pc, .ref xq, .int qc, .ref r1, .ref r2, .ref r3, .ref r4, .ref se, .int ts, .int hou, .int dr, .int su, .int br]))]) (w1 := []) (tyr := []) (ty1 := []) hP hD hK [] [0] [] rfl rfl (by decide) (by decide) rfl hFc hk1 ht hvm (q_none hK hvm)
    have hP : va_P D vwCl [(xo, .inr (6, [.ref xg, .int gc, .ref xp, .int pc, .ref xq, .int qc, .ref r1, .ref r2, .ref r3, .ref r4, .ref se, .int ts, .int hou, .int dr, .int su, .int br]))] H := hP
    have hD : va_D A [(xo, .inr (6, [.ref xg, .int gc, .ref xp, .int pc, .ref xq, .int qc, .ref r1, .ref r2, .ref r3, .ref r4, .ref se, .int ts, .int hou, .int dr, .int su, .int br]))] := hD
    have hK : va_K D vwCl [] s := hK
    have hBX : (E = "java/lang/IllegalArgumentException") := hBX
    rcases hBX with rfl
    exact vx_out (fun x h => (hxt x h).elim) hlocks hce hcv hcl (fun t ht hW9 => ⟨(), trivial, ⟨rfl, q_RW_mk hP hK hD [0] [] rfl rfl (by decide) rfl ht hW9⟩, hS.F ht⟩) hS.2.2 (Nat.le_of_ble_eq_true rfl) (Nat.le_of_ble_eq_true rfl)
  · exact w_203.elim
theorem dX6_days_0 : decode cX6_days 0 = .ok (.iload_n 1, 1) := by decide +kernel
theorem dX6_days_1 : decode cX6_days 1 = .ok (.iconst 1, 1) := by decide +kernel
theorem dX6_days_2 : decode cX6_days 2 = .ok (.bipush 60, 2) := by decide +kernel
theorem dX6_days_4 : decode cX6_days 4 = .ok (.invokestatic 75, 3) := by decide +kernel
def wzEX6_days_b : List Cond := [.code yX6_days cX6_days 4 (some .int), .methodLink RX6 75 yX6_checkRange, .static yX6_checkRange, .initialized RX6, .code yX6_checkRange cX6_checkRange 3 none, .classLink RX6 118 "java/lang/IllegalArgumentException", .initialized "java/lang/IllegalArgumentException"]
def wzX6_days_b : List Cond := wzEX6_days_b ++ ((vx_atS RX6 122 "java/lang/IllegalArgumentException" ["java/lang/RuntimeException", "java/lang/Exception"]).filter goodWord)
theorem zgEX6_days_b : wzEX6_days_b.all goodWord = true := by decide +kernel
theorem ztX6_days_b_X6_122 : ∀ w ∈ (vx_atS RX6 122 "java/lang/IllegalArgumentException" ["java/lang/RuntimeException", "java/lang/Exception"]).filter goodWord, w ∈ wzX6_days_b := (fun _ h => (List.mem_append_right _ h))
theorem gzX6_days_b_X6_checkRange_hi_75 : GoodIn wzX6_days_b (va_wsS RX6 75 yX6_checkRange wzX6_checkRange_hi) := (goodIn_app (z_lift (goodIn_r _ [1, 2, 3] rfl (by decide +kernel))) (goodIn_app (z_lift (goodIn_r wzEX6_checkRange_hi [4, 5, 6] rfl zgEX6_checkRange_hi)) (goodIn_sub (fun _ h => (List.mem_append_right _ h)) zgV_X6_122)))
set_option maxHeartbeats 4000000 in
set_option maxRecDepth 100000 in
theorem zc_X6_days_b (l : Launch) (hnt : l.stackTraces = false) (D : va_G) (G : Nat × Nat × (Nat → Int32)) (xo : Nat) (xg : Nat) (gc : Int32) (xp : Nat) (pc : Int32) (xq : Nat) (qc : Int32) (r1 : Nat) (r2 : Nat) (r3 : Nat) (r4 : Nat) (se : Nat) (ts : Int32) (hou : Int32) (dr : Int32) (su : Int32) (br : Int32) (sz : Nat) : vx_Met l yX6_days wzX6_days_b ({ frames := 7, cells := 1, slots := 6, locals := 104 }) (va_Pc [.ref xo, .int 61] (p_RW D G [] [(xo, .inr (6, [.ref xg, .int gc, .ref xp, .int pc, .ref xq, .int qc, .ref r1, .ref r2, .ref r3, .ref r4, .ref se, .int ts, .int hou, .int dr, .int su, .int br]))] sz)) (va_Qi (fun (r : Int32) (u : Unit) => False) (fun (u : Unit) (t : State) => q_RW D [] [(xo, .inr (6, [.ref xg, .int gc, .ref xp, .int pc, .ref xq, .int qc, .ref r1, .ref r2, .ref r3, .ref r4, .ref se, .int ts, .int hou, .int dr, .int su, .int br]))] (va_A [(xo, .inr (6, [.ref xg, .int gc, .ref xp, .int pc, .ref xq, .int qc, .ref r1, .ref r2, .ref r3, .ref r4, .ref se, .int ts, .int hou, .int dr, .int su, .int br]))] sz) t) (va_A [(xo, .inr (6, [.ref xg, .int gc, .ref xp, .int pc, .ref xq, .int qc, .ref r1, .ref r2, .ref r3, .ref r4, .ref se, .int ts, .int hou, .int dr, .int su, .int br]))] sz)) (vx_X (fun (_ : Unit) => True) (fun E (_ : Unit) (t : State) => ((E = "java/lang/IllegalArgumentException")) ∧ q_RW D [] [(xo, .inr (6, [.ref xg, .int gc, .ref xp, .int pc, .ref xq, .int qc, .ref r1, .ref r2, .ref r3, .ref r4, .ref se, .int ts, .int hou, .int dr, .int su, .int br]))] (va_A [(xo, .inr (6, [.ref xg, .int gc, .ref xp, .int pc, .ref xq, .int qc, .ref r1, .ref r2, .ref r3, .ref r4, .ref se, .int ts, .int hou, .int dr, .int su, .int br]))] sz) t) (va_A [(xo, .inr (6, [.ref xg, .int gc, .ref xp, .int pc, .ref xq, .int qc, .ref r1, .ref r2, .ref r3, .ref r4, .ref se, .int ts, .int hou, .int dr, .int su, .int br]))] sz)) 1 6 (va_A [(xo, .inr (6, [.ref xg, .int gc, .ref xp, .int pc, .ref xq, .int qc, .ref r1, .ref r2, .ref r3, .ref r4, .ref se, .int ts, .int hou, .int dr, .int su, .int br]))] sz) := by
  refine vx_ofW (cc := cX6_days) (maxL := 4) (ret := (some .int)) (by decide) rfl ?_
  intro p e s m args below meth c s₁ B hml hxt hv
  obtain ⟨rfl, hsz, hP, hK, hD0, hT, hZ⟩ := hv
  have hx := B.exec
  have hb := B.bytes
  have hr := B.returns
  have hts := atoms_spec (ws := wzX6_days_b) B.pre
  have hown : s.vm.findClass RX6 = some m.cls := findClass_of_methodNamed B.named
  have hlocks := B.notSynchronized
  subst hsz
  have hD := hD0.self (sz := s.heap.size)
  generalize hAe : va_A [(xo, .inr (6, [.ref xg, .int gc, .ref xp, .int pc, .ref xq, .int qc, .ref r1, .ref r2, .ref r3, .ref r4, .ref se, .int ts, .int hou, .int dr, .int su, .int br]))] s.heap.size = A at hD hZ ⊢
  have hA : ∀ q : Nat, s.heap.size ≤ q → A q := fun q h => by rw [← hAe]; exact Or.inr h
  have hS : va_S A s.heap s.heap [] := va_S.rf
  have hl := lv_entry ([.ref xo, .int 61]) (n := 4) (Nat.le_of_ble_eq_true rfl)
  rw [lg_entry_eq]
  generalize (lg_sl ([.ref xo, .int 61]) ++ List.replicate (4 - (lg_sl ([.ref xo, .int 61])).length) Slot.unset).toArray = ls at hl ⊢
  have hl : lv_has ls 4 [(0, .ref xo), (1, .int 61)] := hl
  refine lv_iload_n hx hb dX6_days_0 rfl (lv_at hl 1 rfl) ?_
  refine lv_iconst (v := 1) hx hb dX6_days_1 (by decide) ?_
  refine lv_bipush (v := 60) hx hb dX6_days_2 (by decide) ?_
  have hFc := va_free (wc := []) hD hS hA [] rfl
  refine vx_callv (vx_runS (As := [.int 61, .int 1, .int 60]) (rest := []) ⟨hx, hb, hml, hown, hts⟩ (zc_X6_checkRange_hi l hnt D G 61 1 60 s.heap.size (by first | assumption | rfl | omega | exact Nat.le_trans (zS_le _ _ _) (by omega) | decide) (by first | assumption | rfl | omega | exact Nat.le_trans (zS_le _ _ _) (by omega) | decide) (by first | assumption | rfl | omega | exact Nat.le_trans (zS_le _ _ _) (by omega) | decide) (by first | assumption | rfl | omega | exact Nat.le_trans (zS_le _ _ _) (by omega) | decide) (by first | assumption | rfl | omega | exact Nat.le_trans (zS_le _ _ _) (by omega) | decide)) (cwS 3 hts gzX6_days_b_X6_checkRange_hi_75 rfl rfl rfl (by decide +kernel) ⟨(Nat.le_of_ble_eq_true rfl), (Nat.le_of_ble_eq_true rfl)⟩) ⟨p_RW_blind, (p_RW_at (tc := []) (wc := []) hP hK hD hS hA hT hZ [] [] rfl rfl (by decide) rfl [.int 61, .int 1, .int 60])⟩ rfl rfl hl.1 rfl (lv_room (Nat.le_of_ble_eq_true rfl)) dX6_days_4 ⟨(Nat.le_of_ble_eq_true rfl), (Nat.le_of_ble_eq_true rfl)⟩) hS (fun q _ h => hFc q h) hFc (fun q _ h => hFc q h) (fun E ce q9 u t H locs ht hvm hpx hBX hz1 hk1 hS hce hcv hcl => ?_) (fun u t H locs ht hvm w_205 hB hz1 hk1 hS => ?_)
  · obtain ⟨hP, hD, hK⟩ := q_join (D := D) (wc := []) (wr := [(xo, .inr (6, [.ref xg, .int gc, .ref xp, .int pc, .ref xq, .int qc, .ref r1, .ref r2, .ref r3, .ref r4, .ref se, .int ts, .int hou, .int dr, .int su, .int br]))]) (w1 := []) (tyr := []) (ty1 := []) hP hD hK [] [0] [] rfl rfl (by decide) (by decide) rfl hFc hk1 ht hvm (q_none hK hvm)
    have hP : va_P D vwCl [(xo, .inr (6, [.ref xg, .int gc, .ref xp, .int pc, .ref xq, .int qc, .ref r1, .ref r2, .ref r3, .ref r4, .ref se, .int ts, .int hou, .int dr, .int su, .int br]))] H := hP
    have hD : va_D A [(xo, .inr (6, [.ref xg, .int gc, .ref xp, .int pc, .ref xq, .int qc, .ref r1, .ref r2, .ref r3, .ref r4, .ref se, .int ts, .int hou, .int dr, .int su, .int br]))] := hD
    have hK : va_K D vwCl [] s := hK
    have hBX : (E = "java/lang/IllegalArgumentException") := hBX
    rcases hBX with rfl
    exact vx_out (fun x h => (hxt x h).elim) hlocks hce hcv hcl (fun t ht hW9 => ⟨(), trivial, ⟨rfl, q_RW_mk hP hK hD [0] [] rfl rfl (by decide) rfl ht hW9⟩, hS.F ht⟩) hS.2.2 (Nat.le_of_ble_eq_true rfl) (Nat.le_of_ble_eq_true rfl)
  · exact w_205.elim
theorem dX6_set_0 : decode cX6_set 0 = .ok (.iload_n 1, 1) := by decide +kernel
theorem dX6_set_1 : decode cX6_set 1 = .ok (.iconst 2, 1) := by decide +kernel
theorem dX6_set_2 : decode cX6_set 2 = .ok (.bipush 6, 2) := by decide +kernel
theorem dX6_set_4 : decode cX6_set 4 = .ok (.invokestatic 75, 3) := by decide +kernel
def wzEX6_set_b : List Cond := [.code yX6_set cX6_set 6 (some .int), .methodLink RX6 75 yX6_checkRange, .static yX6_checkRange, .initialized RX6, .code yX6_checkRange cX6_checkRange 3 none, .classLink RX6 118 "java/lang/IllegalArgumentException", .initialized "java/lang/IllegalArgumentException"]
def wzX6_set_b : List Cond := wzEX6_set_b ++ ((vx_atS RX6 122 "java/lang/IllegalArgumentException" ["java/lang/RuntimeException", "java/lang/Exception"]).filter goodWord)
theorem zgEX6_set_b : wzEX6_set_b.all goodWord = true := by decide +kernel
theorem ztX6_set_b_X6_122 : ∀ w ∈ (vx_atS RX6 122 "java/lang/IllegalArgumentException" ["java/lang/RuntimeException", "java/lang/Exception"]).filter goodWord, w ∈ wzX6_set_b := (fun _ h => (List.mem_append_right _ h))
theorem gzX6_set_b_X6_checkRange_lo_75 : GoodIn wzX6_set_b (va_wsS RX6 75 yX6_checkRange wzX6_checkRange_lo) := (goodIn_app (z_lift (goodIn_r _ [1, 2, 3] rfl (by decide +kernel))) (goodIn_app (z_lift (goodIn_r wzEX6_checkRange_lo [4, 5, 6] rfl zgEX6_checkRange_lo)) (goodIn_sub (fun _ h => (List.mem_append_right _ h)) zgV_X6_122)))
set_option maxHeartbeats 4000000 in
set_option maxRecDepth 100000 in
theorem zc_X6_set_b (l : Launch) (hnt : l.stackTraces = false) (D : va_G) (G : Nat × Nat × (Nat → Int32)) (xo : Nat) (xg : Nat) (gc : Int32) (xp : Nat) (pc : Int32) (xq : Nat) (qc : Int32) (r1 : Nat) (r2 : Nat) (r3 : Nat) (r4 : Nat) (se : Nat) (ts : Int32) (hou : Int32) (dr : Int32) (su : Int32) (br : Int32) (sz : Nat) : vx_Met l yX6_set wzX6_set_b ({ frames := 7, cells := 1, slots := 6, locals := 104 }) (va_Pc [.ref xo, .int 1, .int 1, .int 0] (p_RW D G [] [(xo, .inr (6, [.ref xg, .int gc, .ref xp, .int pc, .ref xq, .int qc, .ref r1, .ref r2, .ref r3, .ref r4, .ref se, .int ts, .int hou, .int dr, .int su, .int br]))] sz)) (va_Qi (fun (r : Int32) (u : Unit) => False) (fun (u : Unit) (t : State) => q_RW D [] [(xo, .inr (6, [.ref xg, .int gc, .ref xp, .int pc, .ref xq, .int qc, .ref r1, .ref r2, .ref r3, .ref r4, .ref se, .int ts, .int hou, .int dr, .int su, .int br]))] (va_A [(xo, .inr (6, [.ref xg, .int gc, .ref xp, .int pc, .ref xq, .int qc, .ref r1, .ref r2, .ref r3, .ref r4, .ref se, .int ts, .int hou, .int dr, .int su, .int br]))] sz) t) (va_A [(xo, .inr (6, [.ref xg, .int gc, .ref xp, .int pc, .ref xq, .int qc, .ref r1, .ref r2, .ref r3, .ref r4, .ref se, .int ts, .int hou, .int dr, .int su, .int br]))] sz)) (vx_X (fun (_ : Unit) => True) (fun E (_ : Unit) (t : State) => ((E = "java/lang/IllegalArgumentException")) ∧ q_RW D [] [(xo, .inr (6, [.ref xg, .int gc, .ref xp, .int pc, .ref xq, .int qc, .ref r1, .ref r2, .ref r3, .ref r4, .ref se, .int ts, .int hou, .int dr, .int su, .int br]))] (va_A [(xo, .inr (6, [.ref xg, .int gc, .ref xp, .int pc, .ref xq, .int qc, .ref r1, .ref r2, .ref r3, .ref r4, .ref se, .int ts, .int hou, .int dr, .int su, .int br]))] sz) t) (va_A [(xo, .inr (6, [.ref xg, .int gc, .ref xp, .int pc, .ref xq, .int qc, .ref r1, .ref r2, .ref r3, .ref r4, .ref se, .int ts, .int hou, .int dr, .int su, .int br]))] sz)) 1 6 (va_A [(xo, .inr (6, [.ref xg, .int gc, .ref xp, .int pc, .ref xq, .int qc, .ref r1, .ref r2, .ref r3, .ref r4, .ref se, .int ts, .int hou, .int dr, .int su, .int br]))] sz) := by
  refine vx_ofW (cc := cX6_set) (maxL := 6) (ret := (some .int)) (by decide) rfl ?_
  intro p e s m args below meth c s₁ B hml hxt hv
  obtain ⟨rfl, hsz, hP, hK, hD0, hT, hZ⟩ := hv
  have hx := B.exec
  have hb := B.bytes
  have hr := B.returns
  have hts := atoms_spec (ws := wzX6_set_b) B.pre
  have hown : s.vm.findClass RX6 = some m.cls := findClass_of_methodNamed B.named
  have hlocks := B.notSynchronized
  subst hsz
  have hD := hD0.self (sz := s.heap.size)
  generalize hAe : va_A [(xo, .inr (6, [.ref xg, .int gc, .ref xp, .int pc, .ref xq, .int qc, .ref r1, .ref r2, .ref r3, .ref r4, .ref se, .int ts, .int hou, .int dr, .int su, .int br]))] s.heap.size = A at hD hZ ⊢
  have hA : ∀ q : Nat, s.heap.size ≤ q → A q := fun q h => by rw [← hAe]; exact Or.inr h
  have hS : va_S A s.heap s.heap [] := va_S.rf
  have hl := lv_entry ([.ref xo, .int 1, .int 1, .int 0]) (n := 6) (Nat.le_of_ble_eq_true rfl)
  rw [lg_entry_eq]
  generalize (lg_sl ([.ref xo, .int 1, .int 1, .int 0]) ++ List.replicate (6 - (lg_sl ([.ref xo, .int 1, .int 1, .int 0])).length) Slot.unset).toArray = ls at hl ⊢
  have hl : lv_has ls 6 [(0, .ref xo), (1, .int 1), (2, .int 1), (3, .int 0)] := hl
  refine lv_iload_n hx hb dX6_set_0 rfl (lv_at hl 1 rfl) ?_
  refine lv_iconst (v := 2) hx hb dX6_set_1 (by decide) ?_
  refine lv_bipush (v := 6) hx hb dX6_set_2 (by decide) ?_
  have hFc := va_free (wc := []) hD hS hA [] rfl
  refine vx_callv (vx_runS (As := [.int 1, .int 2, .int 6]) (rest := []) ⟨hx, hb, hml, hown, hts⟩ (zc_X6_checkRange_lo l hnt D G 1 2 6 s.heap.size (by first | assumption | rfl | omega | exact Nat.le_trans (zS_le _ _ _) (by omega) | decide) (by first | assumption | rfl | omega | exact Nat.le_trans (zS_le _ _ _) (by omega) | decide) (by first | assumption | rfl | omega | exact Nat.le_trans (zS_le _ _ _) (by omega) | decide) (by first | assumption | rfl | omega | exact Nat.le_trans (zS_le _ _ _) (by omega) | decide)) (cwS 3 hts gzX6_set_b_X6_checkRange_lo_75 rfl rfl rfl (by decide +kernel) ⟨(Nat.le_of_ble_eq_true rfl), (Nat.le_of_ble_eq_true rfl)⟩) ⟨p_RW_blind, (p_RW_at (tc := []) (wc := []) hP hK hD hS hA hT hZ [] [] rfl rfl (by decide) rfl [.int 1, .int 2, .int 6])⟩ rfl rfl hl.1 rfl (lv_room (Nat.le_of_ble_eq_true rfl)) dX6_set_4 ⟨(Nat.le_of_ble_eq_true rfl), (Nat.le_of_ble_eq_true rfl)⟩) hS (fun q _ h => hFc q h) hFc (fun q _ h => hFc q h) (fun E ce q9 u t H locs ht hvm hpx hBX hz1 hk1 hS hce hcv hcl => ?_) (fun u t H locs ht hvm w_207 hB hz1 hk1 hS => ?_)
  · obtain ⟨hP, hD, hK⟩ := q_join (D := D) (wc := []) (wr := [(xo, .inr (6, [.ref xg, .int gc, .ref xp, .int pc, .ref xq, .int qc, .ref r1, .ref r2, .ref r3, .ref r4, .ref se, .int ts, .int hou, .int dr, .int su, .int br]))]) (w1 := []) (tyr := []) (ty1 := []) hP hD hK [] [0] [] rfl rfl (by decide) (by decide) rfl hFc hk1 ht hvm (q_none hK hvm)
    have hP : va_P D vwCl [(xo, .inr (6, [.ref xg, .int gc, .ref xp, .int pc, .ref xq, .int qc, .ref r1, .ref r2, .ref r3, .ref r4, .ref se, .int ts, .int hou, .int dr, .int su, .int br]))] H := hP
    have hD : va_D A [(xo, .inr (6, [.ref xg, .int gc, .ref xp, .int pc, .ref xq, .int qc, .ref r1, .ref r2, .ref r3, .ref r4, .ref se, .int ts, .int hou, .int dr, .int su, .int br]))] := hD
    have hK : va_K D vwCl [] s := hK
    have hBX : (E = "java/lang/IllegalArgumentException") := hBX
    rcases hBX with rfl
    exact vx_out (fun x h => (hxt x h).elim) hlocks hce hcv hcl (fun t ht hW9 => ⟨(), trivial, ⟨rfl, q_RW_mk hP hK hD [0] [] rfl rfl (by decide) rfl ht hW9⟩, hS.F ht⟩) hS.2.2 (Nat.le_of_ble_eq_true rfl) (Nat.le_of_ble_eq_true rfl)
  · exact w_207.elim
theorem dX6_set_7 : decode cX6_set 7 = .ok (.iload_n 2, 1) := by decide +kernel
theorem dX6_set_8 : decode cX6_set 8 = .ok (.iconst 1, 1) := by decide +kernel
theorem dX6_set_9 : decode cX6_set 9 = .ok (.bipush 8, 2) := by decide +kernel
theorem dX6_set_11 : decode cX6_set 11 = .ok (.invokestatic 75, 3) := by decide +kernel
theorem dX6_set_14 : decode cX6_set 14 = .ok (.iload_n 3, 1) := by decide +kernel
theorem dX6_set_15 : decode cX6_set 15 = .ok (.iconst 0, 1) := by decide +kernel
theorem dX6_set_16 : decode cX6_set 16 = .ok (.bipush 99, 2) := by decide +kernel
theorem dX6_set_18 : decode cX6_set 18 = .ok (.invokestatic 75, 3) := by decide +kernel
theorem dX6_set_21 : decode cX6_set 21 = .ok (.aload_n 0, 1) := by decide +kernel
theorem dX6_set_22 : decode cX6_set 22 = .ok (.getfield 56, 3) := by decide +kernel
theorem dX6_set_25 : decode cX6_set 25 = .ok (.invokevirtual 320, 3) := by decide +kernel
theorem dX6_set_28 : decode cX6_set 28 = .ok (.iconst 0, 1) := by decide +kernel
theorem dX6_set_29 : decode cX6_set 29 = .ok (.istore 4, 2) := by decide +kernel
theorem dX6_set_31 : decode cX6_set 31 = .ok (.iload 4, 2) := by decide +kernel
theorem dX6_set_33 : decode cX6_set 33 = .ok (.aload_n 0, 1) := by decide +kernel
theorem dX6_set_34 : decode cX6_set 34 = .ok (.getfield 30, 3) := by decide +kernel
theorem dX6_set_37 : decode cX6_set 37 = .ok (.arraylength, 1) := by decide +kernel
theorem dX6_set_38 : decode cX6_set 38 = .ok (.if_icmp .ge 51, 3) := by decide +kernel
theorem dX6_set_41 : decode cX6_set 41 = .ok (.aload_n 0, 1) := by decide +kernel
theorem dX6_set_42 : decode cX6_set 42 = .ok (.getfield 30, 3) := by decide +kernel
theorem dX6_set_45 : decode cX6_set 45 = .ok (.iload 4, 2) := by decide +kernel
theorem dX6_set_47 : decode cX6_set 47 = .ok (.aaload, 1) := by decide +kernel
theorem dX6_set_48 : decode cX6_set 48 = .ok (.astore 5, 2) := by decide +kernel
theorem dX6_set_50 : decode cX6_set 50 = .ok (.aload 5, 2) := by decide +kernel
theorem dX6_set_52 : decode cX6_set 52 = .ok (.ifnull 31, 3) := by decide +kernel
theorem dX6_set_83 : decode cX6_set 83 = .ok (.iinc 4 1, 3) := by decide +kernel
theorem dX6_set_86 : decode cX6_set 86 = .ok (.goto (-55), 3) := by decide +kernel
theorem dX6_set_89 : decode cX6_set 89 = .ok (.aload_n 0, 1) := by decide +kernel
theorem dX6_set_90 : decode cX6_set 90 = .ok (.getfield 56, 3) := by decide +kernel
theorem dX6_set_93 : decode cX6_set 93 = .ok (.getfield 329, 3) := by decide +kernel
theorem dX6_set_96 : decode cX6_set 96 = .ok (.iload_n 1, 1) := by decide +kernel
theorem dX6_set_97 : decode cX6_set 97 = .ok (.if_icmp .ge 14, 3) := by decide +kernel
theorem dX6_set_100 : decode cX6_set 100 = .ok (.new 280, 3) := by decide +kernel
theorem dX6_set_103 : decode cX6_set 103 = .ok (.dup, 1) := by decide +kernel
theorem dX6_set_104 : decode cX6_set 104 = .ok (.ldc_w 332, 3) := by decide +kernel
theorem dX6_set_107 : decode cX6_set 107 = .ok (.invokespecial 284, 3) := by decide +kernel
theorem dX6_set_110 : decode cX6_set 110 = .ok (.athrow, 1) := by decide +kernel
def wzEX6_set_n : List Cond := [.code yX6_set cX6_set 6 (some .int), .methodLink RX6 75 yX6_checkRange, .static yX6_checkRange, .initialized RX6, .code yX6_checkRange cX6_checkRange 3 none, .fieldLink RX6 56 "Gatherhouse" "search" "LGatherhouse$SetSearch;", .code yX5_begin cX5_begin 1 none, .fieldLink RX5 21 "Gatherhouse$SetSearch" "size" "I", .constant RX5 36 (2147483647), .fieldLink RX5 25 "Gatherhouse$SetSearch" "bestApart" "I", .fieldLink RX5 28 "Gatherhouse$SetSearch" "bestMass" "I", .fieldLink RX5 31 "Gatherhouse$SetSearch" "bestChoice" "I", .initialized RX5, .instanceMethod yX5_begin, .selects RX5 yX5_begin yX5_begin, .fieldLink RX6 30 "Gatherhouse" "pieces" "[LGatherhouse$Piece;", .classLink RX6 280 "java/util/NoSuchElementException", .initialized "java/util/NoSuchElementException"]
def wzX6_set_n : List Cond := wzEX6_set_n ++ (u_ws RX6 TX6 16 ++ (u_ws RX5 TX5 7 ++ ((z_atN RX6 284 "java/util/NoSuchElementException" "java/lang/RuntimeException" ["java/lang/Exception"]).filter goodWord)))
theorem zgEX6_set_n : wzEX6_set_n.all goodWord = true := by decide +kernel
theorem zuX6_set_n_X6 : ∀ w ∈ u_ws RX6 TX6 16, w ∈ wzX6_set_n := (fun _ h => (List.mem_append_right _ (List.mem_append_left _ h)))
theorem zuX6_set_n_X5 : ∀ w ∈ u_ws RX5 TX5 7, w ∈ wzX6_set_n := (fun _ h => (List.mem_append_right _ (List.mem_append_right _ (List.mem_append_left _ h))))
theorem ztX6_set_n_X6_284 : ∀ w ∈ (z_atN RX6 284 "java/util/NoSuchElementException" "java/lang/RuntimeException" ["java/lang/Exception"]).filter goodWord, w ∈ wzX6_set_n := (fun _ h => (List.mem_append_right _ (List.mem_append_right _ (List.mem_append_right _ h))))
theorem gzX6_set_n_X6_checkRange_ok_75 : GoodIn wzX6_set_n (va_wsS RX6 75 yX6_checkRange wzX6_checkRange_ok) := (goodIn_app (z_lift (goodIn_r _ [1, 2, 3] rfl (by decide +kernel))) (goodIn_app (z_lift (goodIn_r wzEX6_checkRange_ok [4] rfl zgEX6_checkRange_ok)) z_gnil))
theorem gzX6_set_n_X5_begin_320 : GoodIn wzX6_set_n (wzX5_begin) := (goodIn_app (z_lift (goodIn_r wzEX5_begin [6, 7, 8, 9, 10, 11] rfl zgEX5_begin)) (goodIn_sub (fun _ h => (List.mem_append_right _ (List.mem_append_right _ (List.mem_append_left _ h)))) zgU_X5))
set_option maxHeartbeats 4000000 in
set_option maxRecDepth 100000 in
theorem zc_X6_set_n (l : Launch) (hnt : l.stackTraces = false) (D : va_G) (G : Nat × Nat × (Nat → Int32)) (xo : Nat) (xg : Nat) (gc : Int32) (xp : Nat) (pc : Int32) (xq : Nat) (qc : Int32) (r1 : Nat) (r2 : Nat) (r3 : Nat) (r4 : Nat) (se : Nat) (ts : Int32) (hou : Int32) (dr : Int32) (su : Int32) (br : Int32) (cq : ClassId) (n1 : Nat) (n2 : Nat) (n3 : Nat) (sz : Nat) : vx_Met l yX6_set wzX6_set_n ({ frames := 6, cells := 1, slots := 6, locals := 82 }) (va_Pc [.ref xo, .int 2, .int 1, .int 0] (p_RW D G [(cq, .object "Gatherhouse$Piece")] [(xo, .inr (6, [.ref xg, .int gc, .ref xp, .int pc, .ref xq, .int qc, .ref r1, .ref r2, .ref r3, .ref r4, .ref se, .int ts, .int hou, .int dr, .int su, .int br])), (xq, .inl (cq, 16, .inr (.inr (.inr (.inr (zq [none, none, none, none, none, none, none, none, none, none, none, none, none, none, none, none])))))), (se, .inr (5, [.ref n1, .ref n2, .ref n3, .int 0, .int 0, .int 0, .int 0]))] sz)) (va_Qi (fun (r : Int32) (u : Unit) => False) (fun (u : Unit) (t : State) => q_RW D [(cq, .object "Gatherhouse$Piece")] [(xo, .inr (6, [.ref xg, .int gc, .ref xp, .int pc, .ref xq, .int qc, .ref r1, .ref r2, .ref r3, .ref r4, .ref se, .int ts, .int hou, .int dr, .int su, .int br])), (xq, .inl (cq, 16, .inr (.inr (.inr (.inr (zq [none, none, none, none, none, none, none, none, none, none, none, none, none, none, none, none])))))), (se, .inr (5, [.ref n1, .ref n2, .ref n3, .int 0, .int 0, .int 0, .int 0]))] (va_A [(xo, .inr (6, [.ref xg, .int gc, .ref xp, .int pc, .ref xq, .int qc, .ref r1, .ref r2, .ref r3, .ref r4, .ref se, .int ts, .int hou, .int dr, .int su, .int br])), (xq, .inl (cq, 16, .inr (.inr (.inr (.inr (zq [none, none, none, none, none, none, none, none, none, none, none, none, none, none, none, none])))))), (se, .inr (5, [.ref n1, .ref n2, .ref n3, .int 0, .int 0, .int 0, .int 0]))] sz) t) (va_A [(xo, .inr (6, [.ref xg, .int gc, .ref xp, .int pc, .ref xq, .int qc, .ref r1, .ref r2, .ref r3, .ref r4, .ref se, .int ts, .int hou, .int dr, .int su, .int br])), (xq, .inl (cq, 16, .inr (.inr (.inr (.inr (zq [none, none, none, none, none, none, none, none, none, none, none, none, none, none, none, none])))))), (se, .inr (5, [.ref n1, .ref n2, .ref n3, .int 0, .int 0, .int 0, .int 0]))] sz)) (vx_X (fun (_ : Unit) => True) (fun E (_ : Unit) (t : State) => ((E = "java/util/NoSuchElementException")) ∧ q_RW D [(cq, .object "Gatherhouse$Piece")] [(xo, .inr (6, [.ref xg, .int gc, .ref xp, .int pc, .ref xq, .int qc, .ref r1, .ref r2, .ref r3, .ref r4, .ref se, .int ts, .int hou, .int dr, .int su, .int br])), (xq, .inl (cq, 16, .inr (.inr (.inr (.inr (zq [none, none, none, none, none, none, none, none, none, none, none, none, none, none, none, none])))))), (se, .inr (5, [.ref n1, .ref n2, .ref n3, .int 0, .int 2147483647, .int 2147483647, .int 0]))] (va_A [(xo, .inr (6, [.ref xg, .int gc, .ref xp, .int pc, .ref xq, .int qc, .ref r1, .ref r2, .ref r3, .ref r4, .ref se, .int ts, .int hou, .int dr, .int su, .int br])), (xq, .inl (cq, 16, .inr (.inr (.inr (.inr (zq [none, none, none, none, none, none, none, none, none, none, none, none, none, none, none, none])))))), (se, .inr (5, [.ref n1, .ref n2, .ref n3, .int 0, .int 0, .int 0, .int 0]))] sz) t) (va_A [(xo, .inr (6, [.ref xg, .int gc, .ref xp, .int pc, .ref xq, .int qc, .ref r1, .ref r2, .ref r3, .ref r4, .ref se, .int ts, .int hou, .int dr, .int su, .int br])), (xq, .inl (cq, 16, .inr (.inr (.inr (.inr (zq [none, none, none, none, none, none, none, none, none, none, none, none, none, none, none, none])))))), (se, .inr (5, [.ref n1, .ref n2, .ref n3, .int 0, .int 0, .int 0, .int 0]))] sz)) 1 6 (va_A [(xo, .inr (6, [.ref xg, .int gc, .ref xp, .int pc, .ref xq, .int qc, .ref r1, .ref r2, .ref r3, .ref r4, .ref se, .int ts, .int hou, .int dr, .int su, .int br])), (xq, .inl (cq, 16, .inr (.inr (.inr (.inr (zq [none, none, none, none, none, none, none, none, none, none, none, none, none, none, none, none])))))), (se, .inr (5, [.ref n1, .ref n2, .ref n3, .int 0, .int 0, .int 0, .int 0]))] sz) := by
  refine vx_ofW (cc := cX6_set) (maxL := 6) (ret := (some .int)) (by decide) rfl ?_
  intro p e s m args below meth c s₁ B hml hxt hv
  obtain ⟨rfl, hsz, hP, hK, hD0, hT, hZ⟩ := hv
  have hx := B.exec
  have hb := B.bytes
  have hr := B.returns
  have hts := atoms_spec (ws := wzX6_set_n) B.pre
  have hown : s.vm.findClass RX6 = some m.cls := findClass_of_methodNamed B.named
  have hlocks := B.notSynchronized
  subst hsz
  have hD := hD0.self (sz := s.heap.size)
  generalize hAe : va_A [(xo, .inr (6, [.ref xg, .int gc, .ref xp, .int pc, .ref xq, .int qc, .ref r1, .ref r2, .ref r3, .ref r4, .ref se, .int ts, .int hou, .int dr, .int su, .int br])), (xq, .inl (cq, 16, .inr (.inr (.inr (.inr (zq [none, none, none, none, none, none, none, none, none, none, none, none, none, none, none, none])))))), (se, .inr (5, [.ref n1, .ref n2, .ref n3, .int 0, .int 0, .int 0, .int 0]))] s.heap.size = A at hD hZ ⊢
  have hA : ∀ q : Nat, s.heap.size ≤ q → A q := fun q h => by rw [← hAe]; exact Or.inr h
  have hS : va_S A s.heap s.heap [] := va_S.rf
  have hl := lv_entry ([.ref xo, .int 2, .int 1, .int 0]) (n := 6) (Nat.le_of_ble_eq_true rfl)
  rw [lg_entry_eq]
  generalize (lg_sl ([.ref xo, .int 2, .int 1, .int 0]) ++ List.replicate (6 - (lg_sl ([.ref xo, .int 2, .int 1, .int 0])).length) Slot.unset).toArray = ls at hl ⊢
  have hl : lv_has ls 6 [(0, .ref xo), (1, .int 2), (2, .int 1), (3, .int 0)] := hl
  refine lv_iload_n hx hb dX6_set_0 rfl (lv_at hl 1 rfl) ?_
  refine lv_iconst (v := 2) hx hb dX6_set_1 (by decide) ?_
  refine lv_bipush (v := 6) hx hb dX6_set_2 (by decide) ?_
  have hFc := va_free (wc := []) hD hS hA [] rfl
  refine vx_callv (vx_runS (As := [.int 2, .int 2, .int 6]) (rest := []) ⟨hx, hb, hml, hown, hts⟩ (zc_X6_checkRange_ok l hnt D G 2 2 6 s.heap.size (by first | assumption | rfl | omega | exact Nat.le_trans (zS_le _ _ _) (by omega) | decide) (by first | assumption | rfl | omega | exact Nat.le_trans (zS_le _ _ _) (by omega) | decide) (by first | assumption | rfl | omega | exact Nat.le_trans (zS_le _ _ _) (by omega) | decide) (by first | assumption | rfl | omega | exact Nat.le_trans (zS_le _ _ _) (by omega) | decide) (by first | assumption | rfl | omega | exact Nat.le_trans (zS_le _ _ _) (by omega) | decide)) (cwS 3 hts gzX6_set_n_X6_checkRange_ok_75 rfl rfl rfl (by decide +kernel) ⟨(Nat.le_of_ble_eq_true rfl), (Nat.le_of_ble_eq_true rfl)⟩) ⟨p_RW_blind, (p_RW_at (tc := []) (wc := []) hP hK hD hS hA hT hZ [] [] rfl rfl (by decide) rfl [.int 2, .int 2, .int 6])⟩ rfl rfl hl.1 rfl (lv_room (Nat.le_of_ble_eq_true rfl)) dX6_set_4 ⟨(Nat.le_of_ble_eq_true rfl), (Nat.le_of_ble_eq_true rfl)⟩) hS (fun q _ h => hFc q h) hFc (fun q _ h => hFc q h) (fun E ce q9 u t H locs ht hvm hpx hBX hz1 hk1 hS hce hcv hcl => ?_) (fun u t H locs ht hvm w_209 hB hz1 hk1 hS => ?_)
  · exact (show False from hBX).elim
  · obtain ⟨hP, hD, hK⟩ := q_join (D := D) (wc := []) (wr := [(xo, .inr (6, [.ref xg, .int gc, .ref xp, .int pc, .ref xq, .int qc, .ref r1, .ref r2, .ref r3, .ref r4, .ref se, .int ts, .int hou, .int dr, .int su, .int br])), (xq, .inl (cq, 16, .inr (.inr (.inr (.inr (zq [none, none, none, none, none, none, none, none, none, none, none, none, none, none, none, none])))))), (se, .inr (5, [.ref n1, .ref n2, .ref n3, .int 0, .int 0, .int 0, .int 0]))]) (w1 := []) (tyr := [(cq, .object "Gatherhouse$Piece")]) (ty1 := []) hP hD hK [] [0, 1, 2] [0] rfl rfl (by decide) (by decide) rfl hFc hk1 ht hvm hB
    have hP : va_P D vwCl [(xo, .inr (6, [.ref xg, .int gc, .ref xp, .int pc, .ref xq, .int qc, .ref r1, .ref r2, .ref r3, .ref r4, .ref se, .int ts, .int hou, .int dr, .int su, .int br])), (xq, .inl (cq, 16, .inr (.inr (.inr (.inr (zq [none, none, none, none, none, none, none, none, none, none, none, none, none, none, none, none])))))), (se, .inr (5, [.ref n1, .ref n2, .ref n3, .int 0, .int 0, .int 0, .int 0]))] H := hP
    have hD : va_D A [(xo, .inr (6, [.ref xg, .int gc, .ref xp, .int pc, .ref xq, .int qc, .ref r1, .ref r2, .ref r3, .ref r4, .ref se, .int ts, .int hou, .int dr, .int su, .int br])), (xq, .inl (cq, 16, .inr (.inr (.inr (.inr (zq [none, none, none, none, none, none, none, none, none, none, none, none, none, none, none, none])))))), (se, .inr (5, [.ref n1, .ref n2, .ref n3, .int 0, .int 0, .int 0, .int 0]))] := hD
    have hK : va_K D vwCl [(cq, .object "Gatherhouse$Piece")] s := hK
    refine lv_iload_n hx hb dX6_set_7 rfl (lv_at hl 2 rfl) ?_
    refine lv_iconst (v := 1) hx hb dX6_set_8 (by decide) ?_
    refine lv_bipush (v := 8) hx hb dX6_set_9 (by decide) ?_
    have hFc := va_free (wc := []) hD hS hA [] rfl
    refine vx_callv (vx_runS (As := [.int 1, .int 1, .int 8]) (rest := []) ⟨hx, hb, hml, hown, hts⟩ (zc_X6_checkRange_ok l hnt D G 1 1 8 H.size (by first | assumption | rfl | omega | exact Nat.le_trans (zS_le _ _ _) (by omega) | decide) (by first | assumption | rfl | omega | exact Nat.le_trans (zS_le _ _ _) (by omega) | decide) (by first | assumption | rfl | omega | exact Nat.le_trans (zS_le _ _ _) (by omega) | decide) (by first | assumption | rfl | omega | exact Nat.le_trans (zS_le _ _ _) (by omega) | decide) (by first | assumption | rfl | omega | exact Nat.le_trans (zS_le _ _ _) (by omega) | decide)) (cwS 3 hts gzX6_set_n_X6_checkRange_ok_75 rfl rfl rfl (by decide +kernel) ⟨(Nat.le_of_ble_eq_true rfl), (Nat.le_of_ble_eq_true rfl)⟩) ⟨p_RW_blind, (p_RW_at (tc := []) (wc := []) hP hK hD hS hA hT hZ [] [] rfl rfl (by decide) rfl [.int 1, .int 1, .int 8])⟩ rfl rfl hl.1 rfl (lv_room (Nat.le_of_ble_eq_true rfl)) dX6_set_11 ⟨(Nat.le_of_ble_eq_true rfl), (Nat.le_of_ble_eq_true rfl)⟩) hS (fun q _ h => hFc q h) hFc (fun q _ h => hFc q h) (fun E ce q9 u t H locs ht hvm hpx hBX hz1 hk1 hS hce hcv hcl => ?_) (fun u t H locs ht hvm w_211 hB hz1 hk1 hS => ?_)
    · exact (show False from hBX).elim
    · obtain ⟨hP, hD, hK⟩ := q_join (D := D) (wc := []) (wr := [(xo, .inr (6, [.ref xg, .int gc, .ref xp, .int pc, .ref xq, .int qc, .ref r1, .ref r2, .ref r3, .ref r4, .ref se, .int ts, .int hou, .int dr, .int su, .int br])), (xq, .inl (cq, 16, .inr (.inr (.inr (.inr (zq [none, none, none, none, none, none, none, none, none, none, none, none, none, none, none, none])))))), (se, .inr (5, [.ref n1, .ref n2, .ref n3, .int 0, .int 0, .int 0, .int 0]))]) (w1 := []) (tyr := [(cq, .object "Gatherhouse$Piece")]) (ty1 := []) hP hD hK [] [0, 1, 2] [0] rfl rfl (by decide) (by decide) rfl hFc hk1 ht hvm hB
      have hP : va_P D vwCl [(xo, .inr (6, [.ref xg, .int gc, .ref xp, .int pc, .ref xq, .int qc, .ref r1, .ref r2, .ref r3, .ref r4, .ref se, .int ts, .int hou, .int dr, .int su, .int br])), (xq, .inl (cq, 16, .inr (.inr (.inr (.inr (zq [none, none, none, none, none, none, none, none, none, none, none, none, none, none, none, none])))))), (se, .inr (5, [.ref n1, .ref n2, .ref n3, .int 0, .int 0, .int 0, .int 0]))] H := hP
      have hD : va_D A [(xo, .inr (6, [.ref xg, .int gc, .ref xp, .int pc, .ref xq, .int qc, .ref r1, .ref r2, .ref r3, .ref r4, .ref se, .int ts, .int hou, .int dr, .int su, .int br])), (xq, .inl (cq, 16, .inr (.inr (.inr (.inr (zq [none, none, none, none, none, none, none, none, none, none, none, none, none, none, none, none])))))), (se, .inr (5, [.ref n1, .ref n2, .ref n3, .int 0, .int 0, .int 0, .int 0]))] := hD
      have hK : va_K D vwCl [(cq, .object "Gatherhouse$Piece")] s := hK
      refine lv_iload_n hx hb dX6_set_14 rfl (lv_at hl 3 rfl) ?_
      refine lv_iconst (v := 0) hx hb dX6_set_15 (by decide) ?_
      refine lv_bipush (v := 99) hx hb dX6_set_16 (by decide) ?_
      have hFc := va_free (wc := []) hD hS hA [] rfl
      refine vx_callv (vx_runS (As := [.int 0, .int 0, .int 99]) (rest := []) ⟨hx, hb, hml, hown, hts⟩ (zc_X6_checkRange_ok l hnt D G 0 0 99 H.size (by first | assumption | rfl | omega | exact Nat.le_trans (zS_le _ _ _) (by omega) | decide) (by first | assumption | rfl | omega | exact Nat.le_trans (zS_le _ _ _) (by omega) | decide) (by first | assumption | rfl | omega | exact Nat.le_trans (zS_le _ _ _) (by omega) | decide) (by first | assumption | rfl | omega | exact Nat.le_trans (zS_le _ _ _) (by omega) | decide) (by first | assumption | rfl | omega | exact Nat.le_trans (zS_le _ _ _) (by omega) | decide)) (cwS 3 hts gzX6_set_n_X6_checkRange_ok_75 rfl rfl rfl (by decide +kernel) ⟨(Nat.le_of_ble_eq_true rfl), (Nat.le_of_ble_eq_true rfl)⟩) ⟨p_RW_blind, (p_RW_at (tc := []) (wc := []) hP hK hD hS hA hT hZ [] [] rfl rfl (by decide) rfl [.int 0, .int 0, .int 99])⟩ rfl rfl hl.1 rfl (lv_room (Nat.le_of_ble_eq_true rfl)) dX6_set_18 ⟨(Nat.le_of_ble_eq_true rfl), (Nat.le_of_ble_eq_true rfl)⟩) hS (fun q _ h => hFc q h) hFc (fun q _ h => hFc q h) (fun E ce q9 u t H locs ht hvm hpx hBX hz1 hk1 hS hce hcv hcl => ?_) (fun u t H locs ht hvm w_213 hB hz1 hk1 hS => ?_)
      · exact (show False from hBX).elim
      · obtain ⟨hP, hD, hK⟩ := q_join (D := D) (wc := []) (wr := [(xo, .inr (6, [.ref xg, .int gc, .ref xp, .int pc, .ref xq, .int qc, .ref r1, .ref r2, .ref r3, .ref r4, .ref se, .int ts, .int hou, .int dr, .int su, .int br])), (xq, .inl (cq, 16, .inr (.inr (.inr (.inr (zq [none, none, none, none, none, none, none, none, none, none, none, none, none, none, none, none])))))), (se, .inr (5, [.ref n1, .ref n2, .ref n3, .int 0, .int 0, .int 0, .int 0]))]) (w1 := []) (tyr := [(cq, .object "Gatherhouse$Piece")]) (ty1 := []) hP hD hK [] [0, 1, 2] [0] rfl rfl (by decide) (by decide) rfl hFc hk1 ht hvm hB
        have hP : va_P D vwCl [(xo, .inr (6, [.ref xg, .int gc, .ref xp, .int pc, .ref xq, .int qc, .ref r1, .ref r2, .ref r3, .ref r4, .ref se, .int ts, .int hou, .int dr, .int su, .int br])), (xq, .inl (cq, 16, .inr (.inr (.inr (.inr (zq [none, none, none, none, none, none, none, none, none, none, none, none, none, none, none, none])))))), (se, .inr (5, [.ref n1, .ref n2, .ref n3, .int 0, .int 0, .int 0, .int 0]))] H := hP
        have hD : va_D A [(xo, .inr (6, [.ref xg, .int gc, .ref xp, .int pc, .ref xq, .int qc, .ref r1, .ref r2, .ref r3, .ref r4, .ref se, .int ts, .int hou, .int dr, .int su, .int br])), (xq, .inl (cq, 16, .inr (.inr (.inr (.inr (zq [none, none, none, none, none, none, none, none, none, none, none, none, none, none, none, none])))))), (se, .inr (5, [.ref n1, .ref n2, .ref n3, .int 0, .int 0, .int 0, .int 0]))] := hD
        have hK : va_K D vwCl [(cq, .object "Gatherhouse$Piece")] s := hK
        refine lv_aload_n hx hb dX6_set_21 rfl (lv_at hl 0 rfl) ?_
        refine va_get (D := D) (cl := vwCl) (ci := 6) (v := .ref se) (C := RX6) (T := TX6) (N := 16) hx hb hts zuX6_set_n_X6 hown hK hP 0 rfl rfl 10 (by decide) (hts (.fieldLink RX6 56 "Gatherhouse" "search" "LGatherhouse$SetSearch;") (by decide +kernel)) (fun _ h9 => h9) rfl dX6_set_22 ?_
        have hFc := va_free (wc := [(se, .inr (5, [.ref n1, .ref n2, .ref n3, .int 0, .int 0, .int 0, .int 0]))]) hD hS hA [2] rfl
        refine va_callv (va_runVN (As := []) (rest := []) ⟨hx, hb, hml, hown, hts⟩ (zc_X5_begin l D G se n1 n2 n3 H.size) ⟨va_cnB 0 hts gzX6_set_n_X5_begin_320 rfl rfl rfl (hT.1 ("Gatherhouse", 320, ⟨"Gatherhouse$SetSearch", "begin", "()V"⟩, "Gatherhouse") (by decide +kernel)) (hts (.initialized RX5) (by decide +kernel)) (by decide +kernel) ⟨(Nat.le_of_ble_eq_true rfl), (Nat.le_of_ble_eq_true rfl)⟩, (hts (.instanceMethod yX5_begin) (by decide +kernel)), (hts (.selects RX5 yX5_begin yX5_begin) (by decide +kernel))⟩ ⟨p_RW_blind, va_recv hK hP (ci := 5) (q0 := 2) rfl rfl, (p_RW_at (tc := []) (wc := [(se, .inr (5, [.ref n1, .ref n2, .ref n3, .int 0, .int 0, .int 0, .int 0]))]) hP hK hD hS hA hT hZ [2] [] rfl rfl (by decide) rfl [.ref se])⟩ rfl rfl hl.1 rfl (lv_room (Nat.le_of_ble_eq_true rfl)) dX6_set_25 ⟨(Nat.le_of_ble_eq_true rfl), (Nat.le_of_ble_eq_true rfl)⟩) hS (fun q _ h => hFc q h) hFc (fun u t H locs ht hvm w_215 hB hz1 hk1 hS => ?_)
        obtain ⟨hP, hD, hK⟩ := q_join (D := D) (wc := [(se, .inr (5, [.ref n1, .ref n2, .ref n3, .int 0, .int 0, .int 0, .int 0]))]) (wr := [(xo, .inr (6, [.ref xg, .int gc, .ref xp, .int pc, .ref xq, .int qc, .ref r1, .ref r2, .ref r3, .ref r4, .ref se, .int ts, .int hou, .int dr, .int su, .int br])), (xq, .inl (cq, 16, .inr (.inr (.inr (.inr (zq [none, none, none, none, none, none, none, none, none, none, none, none, none, none, none, none]))))))]) (w1 := [(se, .inr (5, [.ref n1, .ref n2, .ref n3, .int 0, .int 2147483647, .int 2147483647, .int 0]))]) (tyr := [(cq, .object "Gatherhouse$Piece")]) (ty1 := []) hP hD hK [2] [0, 1] [0] rfl rfl (by decide) (by decide) rfl hFc hk1 ht hvm hB
        have hP : va_P D vwCl [(xo, .inr (6, [.ref xg, .int gc, .ref xp, .int pc, .ref xq, .int qc, .ref r1, .ref r2, .ref r3, .ref r4, .ref se, .int ts, .int hou, .int dr, .int su, .int br])), (xq, .inl (cq, 16, .inr (.inr (.inr (.inr (zq [none, none, none, none, none, none, none, none, none, none, none, none, none, none, none, none])))))), (se, .inr (5, [.ref n1, .ref n2, .ref n3, .int 0, .int 2147483647, .int 2147483647, .int 0]))] H := hP
        have hD : va_D A [(xo, .inr (6, [.ref xg, .int gc, .ref xp, .int pc, .ref xq, .int qc, .ref r1, .ref r2, .ref r3, .ref r4, .ref se, .int ts, .int hou, .int dr, .int su, .int br])), (xq, .inl (cq, 16, .inr (.inr (.inr (.inr (zq [none, none, none, none, none, none, none, none, none, none, none, none, none, none, none, none])))))), (se, .inr (5, [.ref n1, .ref n2, .ref n3, .int 0, .int 2147483647, .int 2147483647, .int 0]))] := hD
        have hK : va_K D vwCl [(cq, .object "Gatherhouse$Piece")] s := hK
        refine lv_iconst (v := 0) hx hb dX6_set_28 (by decide) ?_
        refine lv_istore (lv' := [(4, .int 0), (0, .ref xo), (1, .int 2), (2, .int 1), (3, .int 0)]) hx hb dX6_set_29 hl (by decide) rfl (fun ls hl => ?_)
        refine lv_iload hx hb dX6_set_31 (lv_at hl 0 rfl) ?_
        refine lv_aload_n hx hb dX6_set_33 rfl (lv_at hl 1 rfl) ?_
        refine va_get (D := D) (cl := vwCl) (ci := 6) (v := .ref xq) (C := RX6) (T := TX6) (N := 16) hx hb hts zuX6_set_n_X6 hown hK hP 0 rfl rfl 4 (by decide) (hts (.fieldLink RX6 30 "Gatherhouse" "pieces" "[LGatherhouse$Piece;") (by decide +kernel)) (fun _ h9 => h9) rfl dX6_set_34 ?_
        refine va_alen (D := D) (cl := vwCl) (v := 16) hx hb hK hP 1 0 rfl rfl rfl dX6_set_37 ?_
        refine lv_icmp_ge (tgt := 89) hx hb dX6_set_38 (by decide) (fun cc => absurd cc (by decide)) (fun _ => ?_)
        refine lv_aload_n hx hb dX6_set_41 rfl (lv_at hl 1 rfl) ?_
        refine va_get (D := D) (cl := vwCl) (ci := 6) (v := .ref xq) (C := RX6) (T := TX6) (N := 16) hx hb hts zuX6_set_n_X6 hown hK hP 0 rfl rfl 4 (by decide) (hts (.fieldLink RX6 30 "Gatherhouse" "pieces" "[LGatherhouse$Piece;") (by decide +kernel)) (fun _ h9 => h9) rfl dX6_set_42 ?_
        refine lv_iload hx hb dX6_set_45 (lv_at hl 0 rfl) ?_
        refine va_aldq (D := D) (cl := vwCl) hx hb hK hP 1 0 rfl rfl (vp_in_nI (n := 0) (N := 16) (by decide) (by decide)) dX6_set_47 ?_
        refine W.eq (g2 := F0 m 48 ls [.null]) rfl ?_
        refine lv_astoreN (lv' := [(5, .null), (4, .int 0), (0, .ref xo), (1, .int 2), (2, .int 1), (3, .int 0)]) hx hb dX6_set_48 hl (by decide) rfl (fun ls hl => ?_)
        refine lv_aloadN hx hb dX6_set_50 (lv_at hl 0 rfl) ?_
        refine lv_ifnullN (tgt := 83) hx hb dX6_set_52 (by decide) ?_
        obtain ⟨x_216, ex_216⟩ : ∃ y : Int32, y = 0 + 1 := ⟨_, rfl⟩
        have ex_216 : x_216 = 1 := ex_216.trans (by decide)
        subst ex_216
        refine lv_iinc (v := 1) (lv' := [(4, .int 1), (5, .null), (0, .ref xo), (1, .int 2), (2, .int 1), (3, .int 0)]) hx hb dX6_set_83 hl (k := 1) rfl (by decide) (by decide) rfl (fun ls hl => ?_)
        refine lv_goto (tgt := 31) hx hb dX6_set_86 (by decide) ?_
        refine lv_iload hx hb dX6_set_31 (lv_at hl 0 rfl) ?_
        refine lv_aload_n hx hb dX6_set_33 rfl (lv_at hl 2 rfl) ?_
        refine va_get (D := D) (cl := vwCl) (ci := 6) (v := .ref xq) (C := RX6) (T := TX6) (N := 16) hx hb hts zuX6_set_n_X6 hown hK hP 0 rfl rfl 4 (by decide) (hts (.fieldLink RX6 30 "Gatherhouse" "pieces" "[LGatherhouse$Piece;") (by decide +kernel)) (fun _ h9 => h9) rfl dX6_set_34 ?_
        refine va_alen (D := D) (cl := vwCl) (v := 16) hx hb hK hP 1 0 rfl rfl rfl dX6_set_37 ?_
        refine lv_icmp_ge (tgt := 89) hx hb dX6_set_38 (by decide) (fun cc => absurd cc (by decide)) (fun _ => ?_)
        refine lv_aload_n hx hb dX6_set_41 rfl (lv_at hl 2 rfl) ?_
        refine va_get (D := D) (cl := vwCl) (ci := 6) (v := .ref xq) (C := RX6) (T := TX6) (N := 16) hx hb hts zuX6_set_n_X6 hown hK hP 0 rfl rfl 4 (by decide) (hts (.fieldLink RX6 30 "Gatherhouse" "pieces" "[LGatherhouse$Piece;") (by decide +kernel)) (fun _ h9 => h9) rfl dX6_set_42 ?_
        refine lv_iload hx hb dX6_set_45 (lv_at hl 0 rfl) ?_
        refine va_aldq (D := D) (cl := vwCl) hx hb hK hP 1 0 rfl rfl (vp_in_nI (n := 1) (N := 16) (by decide) (by decide)) dX6_set_47 ?_
        refine W.eq (g2 := F0 m 48 ls [.null]) rfl ?_
        refine lv_astoreN (lv' := [(5, .null), (4, .int 1), (0, .ref xo), (1, .int 2), (2, .int 1), (3, .int 0)]) hx hb dX6_set_48 hl (by decide) rfl (fun ls hl => ?_)
        refine lv_aloadN hx hb dX6_set_50 (lv_at hl 0 rfl) ?_
        refine lv_ifnullN (tgt := 83) hx hb dX6_set_52 (by decide) ?_
        obtain ⟨x_217, ex_217⟩ : ∃ y : Int32, y = 1 + 1 := ⟨_, rfl⟩
        have ex_217 : x_217 = 2 := ex_217.trans (by decide)
        subst ex_217
        refine lv_iinc (v := 2) (lv' := [(4, .int 2), (5, .null), (0, .ref xo), (1, .int 2), (2, .int 1), (3, .int 0)]) hx hb dX6_set_83 hl (k := 1) rfl (by decide) (by decide) rfl (fun ls hl => ?_)
        refine lv_goto (tgt := 31) hx hb dX6_set_86 (by decide) ?_
        refine lv_iload hx hb dX6_set_31 (lv_at hl 0 rfl) ?_
        refine lv_aload_n hx hb dX6_set_33 rfl (lv_at hl 2 rfl) ?_
        refine va_get (D := D) (cl := vwCl) (ci := 6) (v := .ref xq) (C := RX6) (T := TX6) (N := 16) hx hb hts zuX6_set_n_X6 hown hK hP 0 rfl rfl 4 (by decide) (hts (.fieldLink RX6 30 "Gatherhouse" "pieces" "[LGatherhouse$Piece;") (by decide +kernel)) (fun _ h9 => h9) rfl dX6_set_34 ?_
        refine va_alen (D := D) (cl := vwCl) (v := 16) hx hb hK hP 1 0 rfl rfl rfl dX6_set_37 ?_
        refine lv_icmp_ge (tgt := 89) hx hb dX6_set_38 (by decide) (fun cc => absurd cc (by decide)) (fun _ => ?_)
        refine lv_aload_n hx hb dX6_set_41 rfl (lv_at hl 2 rfl) ?_
        refine va_get (D := D) (cl := vwCl) (ci := 6) (v := .ref xq) (C := RX6) (T := TX6) (N := 16) hx hb hts zuX6_set_n_X6 hown hK hP 0 rfl rfl 4 (by decide) (hts (.fieldLink RX6 30 "Gatherhouse" "pieces" "[LGatherhouse$Piece;") (by decide +kernel)) (fun _ h9 => h9) rfl dX6_set_42 ?_
        refine lv_iload hx hb dX6_set_45 (lv_at hl 0 rfl) ?_
        refine va_aldq (D := D) (cl := vwCl) hx hb hK hP 1 0 rfl rfl (vp_in_nI (n := 2) (N := 16) (by decide) (by decide)) dX6_set_47 ?_
        refine W.eq (g2 := F0 m 48 ls [.null]) rfl ?_
        refine lv_astoreN (lv' := [(5, .null), (4, .int 2), (0, .ref xo), (1, .int 2), (2, .int 1), (3, .int 0)]) hx hb dX6_set_48 hl (by decide) rfl (fun ls hl => ?_)
        refine lv_aloadN hx hb dX6_set_50 (lv_at hl 0 rfl) ?_
        refine lv_ifnullN (tgt := 83) hx hb dX6_set_52 (by decide) ?_
        obtain ⟨x_218, ex_218⟩ : ∃ y : Int32, y = 2 + 1 := ⟨_, rfl⟩
        have ex_218 : x_218 = 3 := ex_218.trans (by decide)
        subst ex_218
        refine lv_iinc (v := 3) (lv' := [(4, .int 3), (5, .null), (0, .ref xo), (1, .int 2), (2, .int 1), (3, .int 0)]) hx hb dX6_set_83 hl (k := 1) rfl (by decide) (by decide) rfl (fun ls hl => ?_)
        refine lv_goto (tgt := 31) hx hb dX6_set_86 (by decide) ?_
        refine lv_iload hx hb dX6_set_31 (lv_at hl 0 rfl) ?_
        refine lv_aload_n hx hb dX6_set_33 rfl (lv_at hl 2 rfl) ?_
        refine va_get (D := D) (cl := vwCl) (ci := 6) (v := .ref xq) (C := RX6) (T := TX6) (N := 16) hx hb hts zuX6_set_n_X6 hown hK hP 0 rfl rfl 4 (by decide) (hts (.fieldLink RX6 30 "Gatherhouse" "pieces" "[LGatherhouse$Piece;") (by decide +kernel)) (fun _ h9 => h9) rfl dX6_set_34 ?_
        refine va_alen (D := D) (cl := vwCl) (v := 16) hx hb hK hP 1 0 rfl rfl rfl dX6_set_37 ?_
        refine lv_icmp_ge (tgt := 89) hx hb dX6_set_38 (by decide) (fun cc => absurd cc (by decide)) (fun _ => ?_)
        refine lv_aload_n hx hb dX6_set_41 rfl (lv_at hl 2 rfl) ?_
        refine va_get (D := D) (cl := vwCl) (ci := 6) (v := .ref xq) (C := RX6) (T := TX6) (N := 16) hx hb hts zuX6_set_n_X6 hown hK hP 0 rfl rfl 4 (by decide) (hts (.fieldLink RX6 30 "Gatherhouse" "pieces" "[LGatherhouse$Piece;") (by decide +kernel)) (fun _ h9 => h9) rfl dX6_set_42 ?_
        refine lv_iload hx hb dX6_set_45 (lv_at hl 0 rfl) ?_
        refine va_aldq (D := D) (cl := vwCl) hx hb hK hP 1 0 rfl rfl (vp_in_nI (n := 3) (N := 16) (by decide) (by decide)) dX6_set_47 ?_
        refine W.eq (g2 := F0 m 48 ls [.null]) rfl ?_
        refine lv_astoreN (lv' := [(5, .null), (4, .int 3), (0, .ref xo), (1, .int 2), (2, .int 1), (3, .int 0)]) hx hb dX6_set_48 hl (by decide) rfl (fun ls hl => ?_)
        refine lv_aloadN hx hb dX6_set_50 (lv_at hl 0 rfl) ?_
        refine lv_ifnullN (tgt := 83) hx hb dX6_set_52 (by decide) ?_
        obtain ⟨x_219, ex_219⟩ : ∃ y : Int32, y = 3 + 1 := ⟨_, rfl⟩
        have ex_219 : x_219 = 4 := ex_219.trans (by decide)
        subst ex_219
        refine lv_iinc (v := 4) (lv' := [(4, .int 4), (5, .null), (0, .ref xo), (1, .int 2), (2, .int 1), (3, .int 0)]) hx hb dX6_set_83 hl (k := 1) rfl (by decide) (by decide) rfl (fun ls hl => ?_)
        refine lv_goto (tgt := 31) hx hb dX6_set_86 (by decide) ?_
        refine lv_iload hx hb dX6_set_31 (lv_at hl 0 rfl) ?_
        refine lv_aload_n hx hb dX6_set_33 rfl (lv_at hl 2 rfl) ?_
        refine va_get (D := D) (cl := vwCl) (ci := 6) (v := .ref xq) (C := RX6) (T := TX6) (N := 16) hx hb hts zuX6_set_n_X6 hown hK hP 0 rfl rfl 4 (by decide) (hts (.fieldLink RX6 30 "Gatherhouse" "pieces" "[LGatherhouse$Piece;") (by decide +kernel)) (fun _ h9 => h9) rfl dX6_set_34 ?_
        refine va_alen (D := D) (cl := vwCl) (v := 16) hx hb hK hP 1 0 rfl rfl rfl dX6_set_37 ?_
        refine lv_icmp_ge (tgt := 89) hx hb dX6_set_38 (by decide) (fun cc => absurd cc (by decide)) (fun _ => ?_)
        refine lv_aload_n hx hb dX6_set_41 rfl (lv_at hl 2 rfl) ?_
        refine va_get (D := D) (cl := vwCl) (ci := 6) (v := .ref xq) (C := RX6) (T := TX6) (N := 16) hx hb hts zuX6_set_n_X6 hown hK hP 0 rfl rfl 4 (by decide) (hts (.fieldLink RX6 30 "Gatherhouse" "pieces" "[LGatherhouse$Piece;") (by decide +kernel)) (fun _ h9 => h9) rfl dX6_set_42 ?_
        refine lv_iload hx hb dX6_set_45 (lv_at hl 0 rfl) ?_
        refine va_aldq (D := D) (cl := vwCl) hx hb hK hP 1 0 rfl rfl (vp_in_nI (n := 4) (N := 16) (by decide) (by decide)) dX6_set_47 ?_
        refine W.eq (g2 := F0 m 48 ls [.null]) rfl ?_
        refine lv_astoreN (lv' := [(5, .null), (4, .int 4), (0, .ref xo), (1, .int 2), (2, .int 1), (3, .int 0)]) hx hb dX6_set_48 hl (by decide) rfl (fun ls hl => ?_)
        refine lv_aloadN hx hb dX6_set_50 (lv_at hl 0 rfl) ?_
        refine lv_ifnullN (tgt := 83) hx hb dX6_set_52 (by decide) ?_
        obtain ⟨x_220, ex_220⟩ : ∃ y : Int32, y = 4 + 1 := ⟨_, rfl⟩
        have ex_220 : x_220 = 5 := ex_220.trans (by decide)
        subst ex_220
        refine lv_iinc (v := 5) (lv' := [(4, .int 5), (5, .null), (0, .ref xo), (1, .int 2), (2, .int 1), (3, .int 0)]) hx hb dX6_set_83 hl (k := 1) rfl (by decide) (by decide) rfl (fun ls hl => ?_)
        refine lv_goto (tgt := 31) hx hb dX6_set_86 (by decide) ?_
        refine lv_iload hx hb dX6_set_31 (lv_at hl 0 rfl) ?_
        refine lv_aload_n hx hb dX6_set_33 rfl (lv_at hl 2 rfl) ?_
        refine va_get (D := D) (cl := vwCl) (ci := 6) (v := .ref xq) (C := RX6) (T := TX6) (N := 16) hx hb hts zuX6_set_n_X6 hown hK hP 0 rfl rfl 4 (by decide) (hts (.fieldLink RX6 30 "Gatherhouse" "pieces" "[LGatherhouse$Piece;") (by decide +kernel)) (fun _ h9 => h9) rfl dX6_set_34 ?_
        refine va_alen (D := D) (cl := vwCl) (v := 16) hx hb hK hP 1 0 rfl rfl rfl dX6_set_37 ?_
        refine lv_icmp_ge (tgt := 89) hx hb dX6_set_38 (by decide) (fun cc => absurd cc (by decide)) (fun _ => ?_)
        refine lv_aload_n hx hb dX6_set_41 rfl (lv_at hl 2 rfl) ?_
        refine va_get (D := D) (cl := vwCl) (ci := 6) (v := .ref xq) (C := RX6) (T := TX6) (N := 16) hx hb hts zuX6_set_n_X6 hown hK hP 0 rfl rfl 4 (by decide) (hts (.fieldLink RX6 30 "Gatherhouse" "pieces" "[LGatherhouse$Piece;") (by decide +kernel)) (fun _ h9 => h9) rfl dX6_set_42 ?_
        refine lv_iload hx hb dX6_set_45 (lv_at hl 0 rfl) ?_
        refine va_aldq (D := D) (cl := vwCl) hx hb hK hP 1 0 rfl rfl (vp_in_nI (n := 5) (N := 16) (by decide) (by decide)) dX6_set_47 ?_
        refine W.eq (g2 := F0 m 48 ls [.null]) rfl ?_
        refine lv_astoreN (lv' := [(5, .null), (4, .int 5), (0, .ref xo), (1, .int 2), (2, .int 1), (3, .int 0)]) hx hb dX6_set_48 hl (by decide) rfl (fun ls hl => ?_)
        refine lv_aloadN hx hb dX6_set_50 (lv_at hl 0 rfl) ?_
        refine lv_ifnullN (tgt := 83) hx hb dX6_set_52 (by decide) ?_
        obtain ⟨x_221, ex_221⟩ : ∃ y : Int32, y = 5 + 1 := ⟨_, rfl⟩
        have ex_221 : x_221 = 6 := ex_221.trans (by decide)
        subst ex_221
        refine lv_iinc (v := 6) (lv' := [(4, .int 6), (5, .null), (0, .ref xo), (1, .int 2), (2, .int 1), (3, .int 0)]) hx hb dX6_set_83 hl (k := 1) rfl (by decide) (by decide) rfl (fun ls hl => ?_)
        refine lv_goto (tgt := 31) hx hb dX6_set_86 (by decide) ?_
        refine lv_iload hx hb dX6_set_31 (lv_at hl 0 rfl) ?_
        refine lv_aload_n hx hb dX6_set_33 rfl (lv_at hl 2 rfl) ?_
        refine va_get (D := D) (cl := vwCl) (ci := 6) (v := .ref xq) (C := RX6) (T := TX6) (N := 16) hx hb hts zuX6_set_n_X6 hown hK hP 0 rfl rfl 4 (by decide) (hts (.fieldLink RX6 30 "Gatherhouse" "pieces" "[LGatherhouse$Piece;") (by decide +kernel)) (fun _ h9 => h9) rfl dX6_set_34 ?_
        refine va_alen (D := D) (cl := vwCl) (v := 16) hx hb hK hP 1 0 rfl rfl rfl dX6_set_37 ?_
        refine lv_icmp_ge (tgt := 89) hx hb dX6_set_38 (by decide) (fun cc => absurd cc (by decide)) (fun _ => ?_)
        refine lv_aload_n hx hb dX6_set_41 rfl (lv_at hl 2 rfl) ?_
        refine va_get (D := D) (cl := vwCl) (ci := 6) (v := .ref xq) (C := RX6) (T := TX6) (N := 16) hx hb hts zuX6_set_n_X6 hown hK hP 0 rfl rfl 4 (by decide) (hts (.fieldLink RX6 30 "Gatherhouse" "pieces" "[LGatherhouse$Piece;") (by decide +kernel)) (fun _ h9 => h9) rfl dX6_set_42 ?_
        refine lv_iload hx hb dX6_set_45 (lv_at hl 0 rfl) ?_
        refine va_aldq (D := D) (cl := vwCl) hx hb hK hP 1 0 rfl rfl (vp_in_nI (n := 6) (N := 16) (by decide) (by decide)) dX6_set_47 ?_
        refine W.eq (g2 := F0 m 48 ls [.null]) rfl ?_
        refine lv_astoreN (lv' := [(5, .null), (4, .int 6), (0, .ref xo), (1, .int 2), (2, .int 1), (3, .int 0)]) hx hb dX6_set_48 hl (by decide) rfl (fun ls hl => ?_)
        refine lv_aloadN hx hb dX6_set_50 (lv_at hl 0 rfl) ?_
        refine lv_ifnullN (tgt := 83) hx hb dX6_set_52 (by decide) ?_
        obtain ⟨x_222, ex_222⟩ : ∃ y : Int32, y = 6 + 1 := ⟨_, rfl⟩
        have ex_222 : x_222 = 7 := ex_222.trans (by decide)
        subst ex_222
        refine lv_iinc (v := 7) (lv' := [(4, .int 7), (5, .null), (0, .ref xo), (1, .int 2), (2, .int 1), (3, .int 0)]) hx hb dX6_set_83 hl (k := 1) rfl (by decide) (by decide) rfl (fun ls hl => ?_)
        refine lv_goto (tgt := 31) hx hb dX6_set_86 (by decide) ?_
        refine lv_iload hx hb dX6_set_31 (lv_at hl 0 rfl) ?_
        refine lv_aload_n hx hb dX6_set_33 rfl (lv_at hl 2 rfl) ?_
        refine va_get (D := D) (cl := vwCl) (ci := 6) (v := .ref xq) (C := RX6) (T := TX6) (N := 16) hx hb hts zuX6_set_n_X6 hown hK hP 0 rfl rfl 4 (by decide) (hts (.fieldLink RX6 30 "Gatherhouse" "pieces" "[LGatherhouse$Piece;") (by decide +kernel)) (fun _ h9 => h9) rfl dX6_set_34 ?_
        refine va_alen (D := D) (cl := vwCl) (v := 16) hx hb hK hP 1 0 rfl rfl rfl dX6_set_37 ?_
        refine lv_icmp_ge (tgt := 89) hx hb dX6_set_38 (by decide) (fun cc => absurd cc (by decide)) (fun _ => ?_)
        refine lv_aload_n hx hb dX6_set_41 rfl (lv_at hl 2 rfl) ?_
        refine va_get (D := D) (cl := vwCl) (ci := 6) (v := .ref xq) (C := RX6) (T := TX6) (N := 16) hx hb hts zuX6_set_n_X6 hown hK hP 0 rfl rfl 4 (by decide) (hts (.fieldLink RX6 30 "Gatherhouse" "pieces" "[LGatherhouse$Piece;") (by decide +kernel)) (fun _ h9 => h9) rfl dX6_set_42 ?_
        refine lv_iload hx hb dX6_set_45 (lv_at hl 0 rfl) ?_
        refine va_aldq (D := D) (cl := vwCl) hx hb hK hP 1 0 rfl rfl (vp_in_nI (n := 7) (N := 16) (by decide) (by decide)) dX6_set_47 ?_
        refine W.eq (g2 := F0 m 48 ls [.null]) rfl ?_
        refine lv_astoreN (lv' := [(5, .null), (4, .int 7), (0, .ref xo), (1, .int 2), (2, .int 1), (3, .int 0)]) hx hb dX6_set_48 hl (by decide) rfl (fun ls hl => ?_)
        refine lv_aloadN hx hb dX6_set_50 (lv_at hl 0 rfl) ?_
        refine lv_ifnullN (tgt := 83) hx hb dX6_set_52 (by decide) ?_
        obtain ⟨x_223, ex_223⟩ : ∃ y : Int32, y = 7 + 1 := ⟨_, rfl⟩
        have ex_223 : x_223 = 8 := ex_223.trans (by decide)
        subst ex_223
        refine lv_iinc (v := 8) (lv' := [(4, .int 8), (5, .null), (0, .ref xo), (1, .int 2), (2, .int 1), (3, .int 0)]) hx hb dX6_set_83 hl (k := 1) rfl (by decide) (by decide) rfl (fun ls hl => ?_)
        refine lv_goto (tgt := 31) hx hb dX6_set_86 (by decide) ?_
        refine lv_iload hx hb dX6_set_31 (lv_at hl 0 rfl) ?_
        refine lv_aload_n hx hb dX6_set_33 rfl (lv_at hl 2 rfl) ?_
        refine va_get (D := D) (cl := vwCl) (ci := 6) (v := .ref xq) (C := RX6) (T := TX6) (N := 16) hx hb hts zuX6_set_n_X6 hown hK hP 0 rfl rfl 4 (by decide) (hts (.fieldLink RX6 30 "Gatherhouse" "pieces" "[LGatherhouse$Piece;") (by decide +kernel)) (fun _ h9 => h9) rfl dX6_set_34 ?_
        refine va_alen (D := D) (cl := vwCl) (v := 16) hx hb hK hP 1 0 rfl rfl rfl dX6_set_37 ?_
        refine lv_icmp_ge (tgt := 89) hx hb dX6_set_38 (by decide) (fun cc => absurd cc (by decide)) (fun _ => ?_)
        refine lv_aload_n hx hb dX6_set_41 rfl (lv_at hl 2 rfl) ?_
        refine va_get (D := D) (cl := vwCl) (ci := 6) (v := .ref xq) (C := RX6) (T := TX6) (N := 16) hx hb hts zuX6_set_n_X6 hown hK hP 0 rfl rfl 4 (by decide) (hts (.fieldLink RX6 30 "Gatherhouse" "pieces" "[LGatherhouse$Piece;") (by decide +kernel)) (fun _ h9 => h9) rfl dX6_set_42 ?_
        refine lv_iload hx hb dX6_set_45 (lv_at hl 0 rfl) ?_
        refine va_aldq (D := D) (cl := vwCl) hx hb hK hP 1 0 rfl rfl (vp_in_nI (n := 8) (N := 16) (by decide) (by decide)) dX6_set_47 ?_
        refine W.eq (g2 := F0 m 48 ls [.null]) rfl ?_
        refine lv_astoreN (lv' := [(5, .null), (4, .int 8), (0, .ref xo), (1, .int 2), (2, .int 1), (3, .int 0)]) hx hb dX6_set_48 hl (by decide) rfl (fun ls hl => ?_)
        refine lv_aloadN hx hb dX6_set_50 (lv_at hl 0 rfl) ?_
        refine lv_ifnullN (tgt := 83) hx hb dX6_set_52 (by decide) ?_
        obtain ⟨x_224, ex_224⟩ : ∃ y : Int32, y = 8 + 1 := ⟨_, rfl⟩
        have ex_224 : x_224 = 9 := ex_224.trans (by decide)
        subst ex_224
        refine lv_iinc (v := 9) (lv' := [(4, .int 9), (5, .null), (0, .ref xo), (1, .int 2), (2, .int 1), (3, .int 0)]) hx hb dX6_set_83 hl (k := 1) rfl (by decide) (by decide) rfl (fun ls hl => ?_)
        refine lv_goto (tgt := 31) hx hb dX6_set_86 (by decide) ?_
        refine lv_iload hx hb dX6_set_31 (lv_at hl 0 rfl) ?_
        refine lv_aload_n hx hb dX6_set_33 rfl (lv_at hl 2 rfl) ?_
        refine va_get (D := D) (cl := vwCl) (ci := 6) (v := .ref xq) (C := RX6) (T := TX6) (N := 16) hx hb hts zuX6_set_n_X6 hown hK hP 0 rfl rfl 4 (by decide) (hts (.fieldLink RX6 30 "Gatherhouse" "pieces" "[LGatherhouse$Piece;") (by decide +kernel)) (fun _ h9 => h9) rfl dX6_set_34 ?_
        refine va_alen (D := D) (cl := vwCl) (v := 16) hx hb hK hP 1 0 rfl rfl rfl dX6_set_37 ?_
        refine lv_icmp_ge (tgt := 89) hx hb dX6_set_38 (by decide) (fun cc => absurd cc (by decide)) (fun _ => ?_)
        refine lv_aload_n hx hb dX6_set_41 rfl (lv_at hl 2 rfl) ?_
        refine va_get (D := D) (cl := vwCl) (ci := 6) (v := .ref xq) (C := RX6) (T := TX6) (N := 16) hx hb hts zuX6_set_n_X6 hown hK hP 0 rfl rfl 4 (by decide) (hts (.fieldLink RX6 30 "Gatherhouse" "pieces" "[LGatherhouse$Piece;") (by decide +kernel)) (fun _ h9 => h9) rfl dX6_set_42 ?_
        refine lv_iload hx hb dX6_set_45 (lv_at hl 0 rfl) ?_
        refine va_aldq (D := D) (cl := vwCl) hx hb hK hP 1 0 rfl rfl (vp_in_nI (n := 9) (N := 16) (by decide) (by decide)) dX6_set_47 ?_
        refine W.eq (g2 := F0 m 48 ls [.null]) rfl ?_
        refine lv_astoreN (lv' := [(5, .null), (4, .int 9), (0, .ref xo), (1, .int 2), (2, .int 1), (3, .int 0)]) hx hb dX6_set_48 hl (by decide) rfl (fun ls hl => ?_)
        refine lv_aloadN hx hb dX6_set_50 (lv_at hl 0 rfl) ?_
        refine lv_ifnullN (tgt := 83) hx hb dX6_set_52 (by decide) ?_
        obtain ⟨x_225, ex_225⟩ : ∃ y : Int32, y = 9 + 1 := ⟨_, rfl⟩
        have ex_225 : x_225 = 10 := ex_225.trans (by decide)
        subst ex_225
        refine lv_iinc (v := 10) (lv' := [(4, .int 10), (5, .null), (0, .ref xo), (1, .int 2), (2, .int 1), (3, .int 0)]) hx hb dX6_set_83 hl (k := 1) rfl (by decide) (by decide) rfl (fun ls hl => ?_)
        refine lv_goto (tgt := 31) hx hb dX6_set_86 (by decide) ?_
        refine lv_iload hx hb dX6_set_31 (lv_at hl 0 rfl) ?_
        refine lv_aload_n hx hb dX6_set_33 rfl (lv_at hl 2 rfl) ?_
        refine va_get (D := D) (cl := vwCl) (ci := 6) (v := .ref xq) (C := RX6) (T := TX6) (N := 16) hx hb hts zuX6_set_n_X6 hown hK hP 0 rfl rfl 4 (by decide) (hts (.fieldLink RX6 30 "Gatherhouse" "pieces" "[LGatherhouse$Piece;") (by decide +kernel)) (fun _ h9 => h9) rfl dX6_set_34 ?_
        refine va_alen (D := D) (cl := vwCl) (v := 16) hx hb hK hP 1 0 rfl rfl rfl dX6_set_37 ?_
        refine lv_icmp_ge (tgt := 89) hx hb dX6_set_38 (by decide) (fun cc => absurd cc (by decide)) (fun _ => ?_)
        refine lv_aload_n hx hb dX6_set_41 rfl (lv_at hl 2 rfl) ?_
        refine va_get (D := D) (cl := vwCl) (ci := 6) (v := .ref xq) (C := RX6) (T := TX6) (N := 16) hx hb hts zuX6_set_n_X6 hown hK hP 0 rfl rfl 4 (by decide) (hts (.fieldLink RX6 30 "Gatherhouse" "pieces" "[LGatherhouse$Piece;") (by decide +kernel)) (fun _ h9 => h9) rfl dX6_set_42 ?_
        refine lv_iload hx hb dX6_set_45 (lv_at hl 0 rfl) ?_
        refine va_aldq (D := D) (cl := vwCl) hx hb hK hP 1 0 rfl rfl (vp_in_nI (n := 10) (N := 16) (by decide) (by decide)) dX6_set_47 ?_
        refine W.eq (g2 := F0 m 48 ls [.null]) rfl ?_
        refine lv_astoreN (lv' := [(5, .null), (4, .int 10), (0, .ref xo), (1, .int 2), (2, .int 1), (3, .int 0)]) hx hb dX6_set_48 hl (by decide) rfl (fun ls hl => ?_)
        refine lv_aloadN hx hb dX6_set_50 (lv_at hl 0 rfl) ?_
        refine lv_ifnullN (tgt := 83) hx hb dX6_set_52 (by decide) ?_
        obtain ⟨x_226, ex_226⟩ : ∃ y : Int32, y = 10 + 1 := ⟨_, rfl⟩
        have ex_226 : x_226 = 11 := ex_226.trans (by decide)
        subst ex_226
        refine lv_iinc (v := 11) (lv' := [(4, .int 11), (5, .null), (0, .ref xo), (1, .int 2), (2, .int 1), (3, .int 0)]) hx hb dX6_set_83 hl (k := 1) rfl (by decide) (by decide) rfl (fun ls hl => ?_)
        refine lv_goto (tgt := 31) hx hb dX6_set_86 (by decide) ?_
        refine lv_iload hx hb dX6_set_31 (lv_at hl 0 rfl) ?_
        refine lv_aload_n hx hb dX6_set_33 rfl (lv_at hl 2 rfl) ?_
        refine va_get (D := D) (cl := vwCl) (ci := 6) (v := .ref xq) (C := RX6) (T := TX6) (N := 16) hx hb hts zuX6_set_n_X6 hown hK hP 0 rfl rfl 4 (by decide) (hts (.fieldLink RX6 30 "Gatherhouse" "pieces" "[LGatherhouse$Piece;") (by decide +kernel)) (fun _ h9 => h9) rfl dX6_set_34 ?_
        refine va_alen (D := D) (cl := vwCl) (v := 16) hx hb hK hP 1 0 rfl rfl rfl dX6_set_37 ?_
        refine lv_icmp_ge (tgt := 89) hx hb dX6_set_38 (by decide) (fun cc => absurd cc (by decide)) (fun _ => ?_)
        refine lv_aload_n hx hb dX6_set_41 rfl (lv_at hl 2 rfl) ?_
        refine va_get (D := D) (cl := vwCl) (ci := 6) (v := .ref xq) (C := RX6) (T := TX6) (N := 16) hx hb hts zuX6_set_n_X6 hown hK hP 0 rfl rfl 4 (by decide) (hts (.fieldLink RX6 30 "Gatherhouse" "pieces" "[LGatherhouse$Piece;") (by decide +kernel)) (fun _ h9 => h9) rfl dX6_set_42 ?_
        refine lv_iload hx hb dX6_set_45 (lv_at hl 0 rfl) ?_
        refine va_aldq (D := D) (cl := vwCl) hx hb hK hP 1 0 rfl rfl (vp_in_nI (n := 11) (N := 16) (by decide) (by decide)) dX6_set_47 ?_
        refine W.eq (g2 := F0 m 48 ls [.null]) rfl ?_
        refine lv_astoreN (lv' := [(5, .null), (4, .int 11), (0, .ref xo), (1, .int 2), (2, .int 1), (3, .int 0)]) hx hb dX6_set_48 hl (by decide) rfl (fun ls hl => ?_)
        refine lv_aloadN hx hb dX6_set_50 (lv_at hl 0 rfl) ?_
        refine lv_ifnullN (tgt := 83) hx hb dX6_set_52 (by decide) ?_
        obtain ⟨x_227, ex_227⟩ : ∃ y : Int32, y = 11 + 1 := ⟨_, rfl⟩
        have ex_227 : x_227 = 12 := ex_227.trans (by decide)
        subst ex_227
        refine lv_iinc (v := 12) (lv' := [(4, .int 12), (5, .null), (0, .ref xo), (1, .int 2), (2, .int 1), (3, .int 0)]) hx hb dX6_set_83 hl (k := 1) rfl (by decide) (by decide) rfl (fun ls hl => ?_)
        refine lv_goto (tgt := 31) hx hb dX6_set_86 (by decide) ?_
        refine lv_iload hx hb dX6_set_31 (lv_at hl 0 rfl) ?_
        refine lv_aload_n hx hb dX6_set_33 rfl (lv_at hl 2 rfl) ?_
        refine va_get (D := D) (cl := vwCl) (ci := 6) (v := .ref xq) (C := RX6) (T := TX6) (N := 16) hx hb hts zuX6_set_n_X6 hown hK hP 0 rfl rfl 4 (by decide) (hts (.fieldLink RX6 30 "Gatherhouse" "pieces" "[LGatherhouse$Piece;") (by decide +kernel)) (fun _ h9 => h9) rfl dX6_set_34 ?_
        refine va_alen (D := D) (cl := vwCl) (v := 16) hx hb hK hP 1 0 rfl rfl rfl dX6_set_37 ?_
        refine lv_icmp_ge (tgt := 89) hx hb dX6_set_38 (by decide) (fun cc => absurd cc (by decide)) (fun _ => ?_)
        refine lv_aload_n hx hb dX6_set_41 rfl (lv_at hl 2 rfl) ?_
        refine va_get (D := D) (cl := vwCl) (ci := 6) (v := .ref xq) (C := RX6) (T := TX6) (N := 16) hx hb hts zuX6_set_n_X6 hown hK hP 0 rfl rfl 4 (by decide) (hts (.fieldLink RX6 30 "Gatherhouse" "pieces" "[LGatherhouse$Piece;") (by decide +kernel)) (fun _ h9 => h9) rfl dX6_set_42 ?_
        refine lv_iload hx hb dX6_set_45 (lv_at hl 0 rfl) ?_
        refine va_aldq (D := D) (cl := vwCl) hx hb hK hP 1 0 rfl rfl (vp_in_nI (n := 12) (N := 16) (by decide) (by decide)) dX6_set_47 ?_
        refine W.eq (g2 := F0 m 48 ls [.null]) rfl ?_
        refine lv_astoreN (lv' := [(5, .null), (4, .int 12), (0, .ref xo), (1, .int 2), (2, .int 1), (3, .int 0)]) hx hb dX6_set_48 hl (by decide) rfl (fun ls hl => ?_)
        refine lv_aloadN hx hb dX6_set_50 (lv_at hl 0 rfl) ?_
        refine lv_ifnullN (tgt := 83) hx hb dX6_set_52 (by decide) ?_
        obtain ⟨x_228, ex_228⟩ : ∃ y : Int32, y = 12 + 1 := ⟨_, rfl⟩
        have ex_228 : x_228 = 13 := ex_228.trans (by decide)
        subst ex_228
        refine lv_iinc (v := 13) (lv' := [(4, .int 13), (5, .null), (0, .ref xo), (1, .int 2), (2, .int 1), (3, .int 0)]) hx hb dX6_set_83 hl (k := 1) rfl (by decide) (by decide) rfl (fun ls hl => ?_)
        refine lv_goto (tgt := 31) hx hb dX6_set_86 (by decide) ?_
        refine lv_iload hx hb dX6_set_31 (lv_at hl 0 rfl) ?_
        refine lv_aload_n hx hb dX6_set_33 rfl (lv_at hl 2 rfl) ?_
        refine va_get (D := D) (cl := vwCl) (ci := 6) (v := .ref xq) (C := RX6) (T := TX6) (N := 16) hx hb hts zuX6_set_n_X6 hown hK hP 0 rfl rfl 4 (by decide) (hts (.fieldLink RX6 30 "Gatherhouse" "pieces" "[LGatherhouse$Piece;") (by decide +kernel)) (fun _ h9 => h9) rfl dX6_set_34 ?_
        refine va_alen (D := D) (cl := vwCl) (v := 16) hx hb hK hP 1 0 rfl rfl rfl dX6_set_37 ?_
        refine lv_icmp_ge (tgt := 89) hx hb dX6_set_38 (by decide) (fun cc => absurd cc (by decide)) (fun _ => ?_)
        refine lv_aload_n hx hb dX6_set_41 rfl (lv_at hl 2 rfl) ?_
        refine va_get (D := D) (cl := vwCl) (ci := 6) (v := .ref xq) (C := RX6) (T := TX6) (N := 16) hx hb hts zuX6_set_n_X6 hown hK hP 0 rfl rfl 4 (by decide) (hts (.fieldLink RX6 30 "Gatherhouse" "pieces" "[LGatherhouse$Piece;") (by decide +kernel)) (fun _ h9 => h9) rfl dX6_set_42 ?_
        refine lv_iload hx hb dX6_set_45 (lv_at hl 0 rfl) ?_
        refine va_aldq (D := D) (cl := vwCl) hx hb hK hP 1 0 rfl rfl (vp_in_nI (n := 13) (N := 16) (by decide) (by decide)) dX6_set_47 ?_
        refine W.eq (g2 := F0 m 48 ls [.null]) rfl ?_
        refine lv_astoreN (lv' := [(5, .null), (4, .int 13), (0, .ref xo), (1, .int 2), (2, .int 1), (3, .int 0)]) hx hb dX6_set_48 hl (by decide) rfl (fun ls hl => ?_)
        refine lv_aloadN hx hb dX6_set_50 (lv_at hl 0 rfl) ?_
        refine lv_ifnullN (tgt := 83) hx hb dX6_set_52 (by decide) ?_
        obtain ⟨x_229, ex_229⟩ : ∃ y : Int32, y = 13 + 1 := ⟨_, rfl⟩
        have ex_229 : x_229 = 14 := ex_229.trans (by decide)
        subst ex_229
        refine lv_iinc (v := 14) (lv' := [(4, .int 14), (5, .null), (0, .ref xo), (1, .int 2), (2, .int 1), (3, .int 0)]) hx hb dX6_set_83 hl (k := 1) rfl (by decide) (by decide) rfl (fun ls hl => ?_)
        refine lv_goto (tgt := 31) hx hb dX6_set_86 (by decide) ?_
        refine lv_iload hx hb dX6_set_31 (lv_at hl 0 rfl) ?_
        refine lv_aload_n hx hb dX6_set_33 rfl (lv_at hl 2 rfl) ?_
        refine va_get (D := D) (cl := vwCl) (ci := 6) (v := .ref xq) (C := RX6) (T := TX6) (N := 16) hx hb hts zuX6_set_n_X6 hown hK hP 0 rfl rfl 4 (by decide) (hts (.fieldLink RX6 30 "Gatherhouse" "pieces" "[LGatherhouse$Piece;") (by decide +kernel)) (fun _ h9 => h9) rfl dX6_set_34 ?_
        refine va_alen (D := D) (cl := vwCl) (v := 16) hx hb hK hP 1 0 rfl rfl rfl dX6_set_37 ?_
        refine lv_icmp_ge (tgt := 89) hx hb dX6_set_38 (by decide) (fun cc => absurd cc (by decide)) (fun _ => ?_)
        refine lv_aload_n hx hb dX6_set_41 rfl (lv_at hl 2 rfl) ?_
        refine va_get (D := D) (cl := vwCl) (ci := 6) (v := .ref xq) (C := RX6) (T := TX6) (N := 16) hx hb hts zuX6_set_n_X6 hown hK hP 0 rfl rfl 4 (by decide) (hts (.fieldLink RX6 30 "Gatherhouse" "pieces" "[LGatherhouse$Piece;") (by decide +kernel)) (fun _ h9 => h9) rfl dX6_set_42 ?_
        refine lv_iload hx hb dX6_set_45 (lv_at hl 0 rfl) ?_
        refine va_aldq (D := D) (cl := vwCl) hx hb hK hP 1 0 rfl rfl (vp_in_nI (n := 14) (N := 16) (by decide) (by decide)) dX6_set_47 ?_
        refine W.eq (g2 := F0 m 48 ls [.null]) rfl ?_
        refine lv_astoreN (lv' := [(5, .null), (4, .int 14), (0, .ref xo), (1, .int 2), (2, .int 1), (3, .int 0)]) hx hb dX6_set_48 hl (by decide) rfl (fun ls hl => ?_)
        refine lv_aloadN hx hb dX6_set_50 (lv_at hl 0 rfl) ?_
        refine lv_ifnullN (tgt := 83) hx hb dX6_set_52 (by decide) ?_
        obtain ⟨x_230, ex_230⟩ : ∃ y : Int32, y = 14 + 1 := ⟨_, rfl⟩
        have ex_230 : x_230 = 15 := ex_230.trans (by decide)
        subst ex_230
        refine lv_iinc (v := 15) (lv' := [(4, .int 15), (5, .null), (0, .ref xo), (1, .int 2), (2, .int 1), (3, .int 0)]) hx hb dX6_set_83 hl (k := 1) rfl (by decide) (by decide) rfl (fun ls hl => ?_)
        refine lv_goto (tgt := 31) hx hb dX6_set_86 (by decide) ?_
        refine lv_iload hx hb dX6_set_31 (lv_at hl 0 rfl) ?_
        refine lv_aload_n hx hb dX6_set_33 rfl (lv_at hl 2 rfl) ?_
        refine va_get (D := D) (cl := vwCl) (ci := 6) (v := .ref xq) (C := RX6) (T := TX6) (N := 16) hx hb hts zuX6_set_n_X6 hown hK hP 0 rfl rfl 4 (by decide) (hts (.fieldLink RX6 30 "Gatherhouse" "pieces" "[LGatherhouse$Piece;") (by decide +kernel)) (fun _ h9 => h9) rfl dX6_set_34 ?_
        refine va_alen (D := D) (cl := vwCl) (v := 16) hx hb hK hP 1 0 rfl rfl rfl dX6_set_37 ?_
        refine lv_icmp_ge (tgt := 89) hx hb dX6_set_38 (by decide) (fun cc => absurd cc (by decide)) (fun _ => ?_)
        refine lv_aload_n hx hb dX6_set_41 rfl (lv_at hl 2 rfl) ?_
        refine va_get (D := D) (cl := vwCl) (ci := 6) (v := .ref xq) (C := RX6) (T := TX6) (N := 16) hx hb hts zuX6_set_n_X6 hown hK hP 0 rfl rfl 4 (by decide) (hts (.fieldLink RX6 30 "Gatherhouse" "pieces" "[LGatherhouse$Piece;") (by decide +kernel)) (fun _ h9 => h9) rfl dX6_set_42 ?_
        refine lv_iload hx hb dX6_set_45 (lv_at hl 0 rfl) ?_
        refine va_aldq (D := D) (cl := vwCl) hx hb hK hP 1 0 rfl rfl (vp_in_nI (n := 15) (N := 16) (by decide) (by decide)) dX6_set_47 ?_
        refine W.eq (g2 := F0 m 48 ls [.null]) rfl ?_
        refine lv_astoreN (lv' := [(5, .null), (4, .int 15), (0, .ref xo), (1, .int 2), (2, .int 1), (3, .int 0)]) hx hb dX6_set_48 hl (by decide) rfl (fun ls hl => ?_)
        refine lv_aloadN hx hb dX6_set_50 (lv_at hl 0 rfl) ?_
        refine lv_ifnullN (tgt := 83) hx hb dX6_set_52 (by decide) ?_
        obtain ⟨x_231, ex_231⟩ : ∃ y : Int32, y = 15 + 1 := ⟨_, rfl⟩
        have ex_231 : x_231 = 16 := ex_231.trans (by decide)
        subst ex_231
        refine lv_iinc (v := 16) (lv' := [(4, .int 16), (5, .null), (0, .ref xo), (1, .int 2), (2, .int 1), (3, .int 0)]) hx hb dX6_set_83 hl (k := 1) rfl (by decide) (by decide) rfl (fun ls hl => ?_)
        refine lv_goto (tgt := 31) hx hb dX6_set_86 (by decide) ?_
        refine lv_iload hx hb dX6_set_31 (lv_at hl 0 rfl) ?_
        refine lv_aload_n hx hb dX6_set_33 rfl (lv_at hl 2 rfl) ?_
        refine va_get (D := D) (cl := vwCl) (ci := 6) (v := .ref xq) (C := RX6) (T := TX6) (N := 16) hx hb hts zuX6_set_n_X6 hown hK hP 0 rfl rfl 4 (by decide) (hts (.fieldLink RX6 30 "Gatherhouse" "pieces" "[LGatherhouse$Piece;") (by decide +kernel)) (fun _ h9 => h9) rfl dX6_set_34 ?_
        refine va_alen (D := D) (cl := vwCl) (v := 16) hx hb hK hP 1 0 rfl rfl rfl dX6_set_37 ?_
        refine lv_icmp_ge (tgt := 89) hx hb dX6_set_38 (by decide) (fun _ => ?_) (fun cc => absurd (by decide) cc)
        refine lv_aload_n hx hb dX6_set_89 rfl (lv_at hl 2 rfl) ?_
        refine va_get (D := D) (cl := vwCl) (ci := 6) (v := .ref se) (C := RX6) (T := TX6) (N := 16) hx hb hts zuX6_set_n_X6 hown hK hP 0 rfl rfl 10 (by decide) (hts (.fieldLink RX6 56 "Gatherhouse" "search" "LGatherhouse$SetSearch;") (by decide +kernel)) (fun _ h9 => h9) rfl dX6_set_90 ?_
        refine va_getN (D := D) (cl := vwCl) (ci := 5) (v := .int 0) (C := RX5) (T := TX5) (N := 7) hx hb hts zuX6_set_n_X5 hown hK hP 2 rfl rfl 3 (by decide) (va_Nw.use rfl (hT.2.1 ("Gatherhouse", 329, "Gatherhouse$SetSearch", "size", "I", "Gatherhouse") (by decide +kernel))) (fun _ h9 => h9) rfl dX6_set_93 ?_
        refine lv_iload_n hx hb dX6_set_96 rfl (lv_at hl 3 rfl) ?_
        refine lv_icmp_ge (tgt := 111) hx hb dX6_set_97 (by decide) (fun cc => absurd cc (by decide)) (fun _ => ?_)
        obtain ⟨sa_232, hsa_232⟩ := hT.2.2.2.2.2.1 ("Gatherhouse", 332, "there are not so many") (by decide +kernel)
        refine zx_throw (own := RX6) (cls := "java/util/NoSuchElementException") (up := "java/lang/RuntimeException") (r := ["java/lang/Exception"]) (A := A) hx hb hnt hown (by decide +kernel) (by decide +kernel) (by decide +kernel) (hts (.classLink RX6 280 "java/util/NoSuchElementException") (by decide +kernel)) (hts (.initialized "java/util/NoSuchElementException") (by decide +kernel)) hsa_232 (z_throwN (fun w h => hts w (ztX6_set_n_X6_284 w h)) (hT.2.2.1 ("java/util/NoSuchElementException", "java/util/NoSuchElementException") (by decide +kernel)) hT.2.2.2.2.2.2.2.1 (by decide +kernel)) (by decide +kernel) hZ.1 hZ.2.1 hS (hl.1.trans hml.symm) dX6_set_100 dX6_set_103 dX6_set_104 dX6_set_107 dX6_set_110 (fun x h => (hxt x h).elim) (Nat.le_of_ble_eq_true rfl) (Nat.le_of_ble_eq_true rfl) (Nat.le_of_ble_eq_true rfl) (Nat.le_of_ble_eq_true rfl) hlocks (fun t hvm hz1 hk1 => ⟨(), trivial, ⟨rfl, q_RW_th hP hK hD [0, 1, 2] [0] rfl rfl (by decide) rfl hk1 hvm⟩, ⟨Nat.le_trans hS.1 hz1, fun q h1 h2 => (hk1 q (Nat.lt_of_lt_of_le h1 hS.1)).trans (hS.2.1 q h1 h2)⟩⟩) hS.2.2 (Nat.le_of_ble_eq_true rfl) (Nat.le_of_ble_eq_true rfl)
