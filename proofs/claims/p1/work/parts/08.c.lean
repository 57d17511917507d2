theorem dX11_in_0 : decode cX11_in 0 = .ok (.iload_n 0, 1) := by decide +kernel
theorem dX11_in_1 : decode cX11_in 1 = .ok (.iload_n 1, 1) := by decide +kernel
theorem dX11_in_2 : decode cX11_in 2 = .ok (.if_icmp .lt 12, 3) := by decide +kernel
theorem dX11_in_14 : decode cX11_in 14 = .ok (.iconst 0, 1) := by decide +kernel
theorem dX11_in_15 : decode cX11_in 15 = .ok (.ireturn, 1) := by decide +kernel
theorem dX11_in_5 : decode cX11_in 5 = .ok (.iload_n 0, 1) := by decide +kernel
theorem dX11_in_6 : decode cX11_in 6 = .ok (.iload_n 2, 1) := by decide +kernel
theorem dX11_in_7 : decode cX11_in 7 = .ok (.if_icmp .gt 7, 3) := by decide +kernel
theorem dX11_in_10 : decode cX11_in 10 = .ok (.iconst 1, 1) := by decide +kernel
theorem dX11_in_11 : decode cX11_in 11 = .ok (.goto 4, 3) := by decide +kernel
def wzEX11_in : List Cond := [.code yX11_in cX11_in 3 (some .boolean)]
def wzX11_in : List Cond := wzEX11_in ++ []
theorem zgEX11_in : wzEX11_in.all goodWord = true := by decide +kernel
set_option maxHeartbeats 4000000 in
set_option maxRecDepth 100000 in
theorem zc_X11_in (l : Launch) (D : va_G) (G : Nat × Nat × Nat) (v : Int32) (lo : Int32) (hi : Int32) : Met l yX11_in wzX11_in ({ frames := 0, cells := 0, slots := 0, locals := 0 }) (va_Pc [.int v, .int lo, .int hi] (p_RO D G [] [])) (vp_Si (fun r => (inR v lo hi ∧ r = 1) ∨ (¬ inR v lo hi ∧ r = 0))) 0 0 (fun _ => False) := by
  refine Met.ofW (cc := cX11_in) (maxL := 3) (ret := (some .boolean)) (by decide) rfl ?_
  intro p e s m args below meth c s₁ B hml hv
  obtain ⟨rfl, hP, hK, hT⟩ := hv
  have hx := B.exec
  have hb := B.bytes
  have hr := B.returns
  have hts := atoms_spec (ws := wzX11_in) B.pre
  have hown : s.vm.findClass RX11 = some m.cls := findClass_of_methodNamed B.named
  have hlocks := B.notSynchronized
  have hl := lv_entry ([.int v, .int lo, .int hi]) (n := 3) (Nat.le_of_ble_eq_true rfl)
  rw [lg_entry_eq]
  generalize (lg_sl ([.int v, .int lo, .int hi]) ++ List.replicate (3 - (lg_sl ([.int v, .int lo, .int hi])).length) Slot.unset).toArray = ls at hl ⊢
  have hl : lv_has ls 3 [(0, .int v), (1, .int lo), (2, .int hi)] := hl
  refine lv_iload_n hx hb dX11_in_0 rfl (lv_at hl 0 rfl) ?_
  refine lv_iload_n hx hb dX11_in_1 rfl (lv_at hl 1 rfl) ?_
  refine lv_icmp_lt (tgt := 14) hx hb dX11_in_2 (by decide) (fun c_344 => ?_) (fun c_344 => ?_)
  · refine lv_iconst (v := 0) hx hb dX11_in_14 (by decide) ?_
    exact W.zret (v := 0) hx hb hr rfl (fun t ht hW => ⟨0, rfl, (Or.inr (⟨(by first | assumption | exact inR_1 (by assumption) (by assumption) | exact inR_2 (by assumption) (by assumption) | exact inR_3 (by assumption) | exact inR_4 (by assumption) | exact inR_5 (by assumption) | exact ⟨by assumption, by assumption, by assumption, by assumption⟩ | exact ⟨by assumption, by assumption, by assumption⟩ | exact (fun q => absurd q.1 (by assumption)) | exact (fun q => absurd q.2.1 (by assumption)) | exact (fun q => absurd q.2.2 (by assumption)) | exact (fun q => absurd q.2.2.1 (by assumption)) | exact (fun q => absurd q.2.2.2 (by assumption)) | exact isRole_no (by assumption) (by assumption) (by assumption) (by assumption) | exact isRole_nb (by assumption) (by assumption) (by assumption) (by assumption) | exact isRole_out (by assumption) | exact enc_use (by assumption) (by assumption) (by assumption) | exact enc_103 (by assumption) | exact enc_103 (Eq.symm (by assumption)) | exact enc_115 (Eq.symm (by assumption)) | exact enc_102 (Eq.symm (by assumption)) | exact enc_98 (Eq.symm (by assumption)) | exact isRole_nc (by assumption) (by assumption) (by assumption) (by assumption) | exact enc_115 (by assumption) | exact enc_102 (by assumption) | exact enc_98 (by assumption) | exact Or.inr (by assumption) | rfl | exact Or.inl (by assumption) | exact Or.inr (Or.inl (by assumption)) | exact Or.inr (Or.inr (Or.inl (by assumption))) | exact Or.inr (Or.inr (Or.inr (by assumption))) | decide), rfl⟩)), ht⟩) (fun q h => by cases h) dX11_in_15
  · refine lv_iload_n hx hb dX11_in_5 rfl (lv_at hl 0 rfl) ?_
    refine lv_iload_n hx hb dX11_in_6 rfl (lv_at hl 2 rfl) ?_
    refine lv_icmp_gt (tgt := 14) hx hb dX11_in_7 (by decide) (fun c_345 => ?_) (fun c_345 => ?_)
    · refine lv_iconst (v := 0) hx hb dX11_in_14 (by decide) ?_
      exact W.zret (v := 0) hx hb hr rfl (fun t ht hW => ⟨0, rfl, (Or.inr (⟨(by first | assumption | exact inR_1 (by assumption) (by assumption) | exact inR_2 (by assumption) (by assumption) | exact inR_3 (by assumption) | exact inR_4 (by assumption) | exact inR_5 (by assumption) | exact ⟨by assumption, by assumption, by assumption, by assumption⟩ | exact ⟨by assumption, by assumption, by assumption⟩ | exact (fun q => absurd q.1 (by assumption)) | exact (fun q => absurd q.2.1 (by assumption)) | exact (fun q => absurd q.2.2 (by assumption)) | exact (fun q => absurd q.2.2.1 (by assumption)) | exact (fun q => absurd q.2.2.2 (by assumption)) | exact isRole_no (by assumption) (by assumption) (by assumption) (by assumption) | exact isRole_nb (by assumption) (by assumption) (by assumption) (by assumption) | exact isRole_out (by assumption) | exact enc_use (by assumption) (by assumption) (by assumption) | exact enc_103 (by assumption) | exact enc_103 (Eq.symm (by assumption)) | exact enc_115 (Eq.symm (by assumption)) | exact enc_102 (Eq.symm (by assumption)) | exact enc_98 (Eq.symm (by assumption)) | exact isRole_nc (by assumption) (by assumption) (by assumption) (by assumption) | exact enc_115 (by assumption) | exact enc_102 (by assumption) | exact enc_98 (by assumption) | exact Or.inr (by assumption) | rfl | exact Or.inl (by assumption) | exact Or.inr (Or.inl (by assumption)) | exact Or.inr (Or.inr (Or.inl (by assumption))) | exact Or.inr (Or.inr (Or.inr (by assumption))) | decide), rfl⟩)), ht⟩) (fun q h => by cases h) dX11_in_15
    · refine lv_iconst (v := 1) hx hb dX11_in_10 (by decide) ?_
      refine lv_goto (tgt := 15) hx hb dX11_in_11 (by decide) ?_
      exact W.zret (v := 1) hx hb hr rfl (fun t ht hW => ⟨1, rfl, (Or.inl (⟨(by first | assumption | exact inR_1 (by assumption) (by assumption) | exact inR_2 (by assumption) (by assumption) | exact inR_3 (by assumption) | exact inR_4 (by assumption) | exact inR_5 (by assumption) | exact ⟨by assumption, by assumption, by assumption, by assumption⟩ | exact ⟨by assumption, by assumption, by assumption⟩ | exact (fun q => absurd q.1 (by assumption)) | exact (fun q => absurd q.2.1 (by assumption)) | exact (fun q => absurd q.2.2 (by assumption)) | exact (fun q => absurd q.2.2.1 (by assumption)) | exact (fun q => absurd q.2.2.2 (by assumption)) | exact isRole_no (by assumption) (by assumption) (by assumption) (by assumption) | exact isRole_nb (by assumption) (by assumption) (by assumption) (by assumption) | exact isRole_out (by assumption) | exact enc_use (by assumption) (by assumption) (by assumption) | exact enc_103 (by assumption) | exact enc_103 (Eq.symm (by assumption)) | exact enc_115 (Eq.symm (by assumption)) | exact enc_102 (Eq.symm (by assumption)) | exact enc_98 (Eq.symm (by assumption)) | exact isRole_nc (by assumption) (by assumption) (by assumption) (by assumption) | exact enc_115 (by assumption) | exact enc_102 (by assumption) | exact enc_98 (by assumption) | exact Or.inr (by assumption) | rfl | exact Or.inl (by assumption) | exact Or.inr (Or.inl (by assumption)) | exact Or.inr (Or.inr (Or.inl (by assumption))) | exact Or.inr (Or.inr (Or.inr (by assumption))) | decide), rfl⟩)), ht⟩) (fun q h => by cases h) dX11_in_15
theorem dJx4a65c_size_8abf5_0 : decode cJx4a65c_size_8abf5 0 = .ok (.aload_n 0, 1) := by decide +kernel
theorem dJx4a65c_size_8abf5_1 : decode cJx4a65c_size_8abf5 1 = .ok (.getfield 48, 3) := by decide +kernel
theorem dJx4a65c_size_8abf5_4 : decode cJx4a65c_size_8abf5 4 = .ok (.ireturn, 1) := by decide +kernel
def wzEJx4a65c_size_8abf5 : List Cond := [.code yJx4a65c_size_8abf5 cJx4a65c_size_8abf5 1 (some .int), .fieldLink RJx4a65c 48 "java/util/ArrayList" "size" "I"]
def wzJx4a65c_size_8abf5 : List Cond := wzEJx4a65c_size_8abf5 ++ (u_ws RJx4a65c TJx4a65c 3)
theorem zgEJx4a65c_size_8abf5 : wzEJx4a65c_size_8abf5.all goodWord = true := by decide +kernel
theorem zuJx4a65c_size_8abf5_Jx4a65c : ∀ w ∈ u_ws RJx4a65c TJx4a65c 3, w ∈ wzJx4a65c_size_8abf5 := (fun _ h => (List.mem_append_right _ h))
set_option maxHeartbeats 4000000 in
set_option maxRecDepth 100000 in
theorem zc_Jx4a65c_size_8abf5 (l : Launch) (D : va_G) (G : Nat × Nat × Nat) (li : Nat) (ed : Nat) (mc : Int32) (nz : Int32) : Met l yJx4a65c_size_8abf5 wzJx4a65c_size_8abf5 ({ frames := 0, cells := 0, slots := 0, locals := 0 }) (va_Pc [.ref li] (p_RO D G [] [(li, .inr (4, [.int mc, .ref ed, .int nz]))])) (vp_Si (fun r => r = nz)) 0 0 (fun _ => False) := by
  refine Met.ofW (cc := cJx4a65c_size_8abf5) (maxL := 1) (ret := (some .int)) (by decide) rfl ?_
  intro p e s m args below meth c s₁ B hml hv
  obtain ⟨rfl, hP, hK, hT⟩ := hv
  have hx := B.exec
  have hb := B.bytes
  have hr := B.returns
  have hts := atoms_spec (ws := wzJx4a65c_size_8abf5) B.pre
  have hown : s.vm.findClass RJx4a65c = some m.cls := findClass_of_methodNamed B.named
  have hlocks := B.notSynchronized
  have hl := lv_entry ([.ref li]) (n := 1) (Nat.le_of_ble_eq_true rfl)
  rw [lg_entry_eq]
  generalize (lg_sl ([.ref li]) ++ List.replicate (1 - (lg_sl ([.ref li])).length) Slot.unset).toArray = ls at hl ⊢
  have hl : lv_has ls 1 [(0, .ref li)] := hl
  refine lv_aload_n hx hb dJx4a65c_size_8abf5_0 rfl (lv_at hl 0 rfl) ?_
  refine va_get (D := D) (cl := vwCl) (ci := 4) (v := .int nz) (C := RJx4a65c) (T := TJx4a65c) (N := 3) hx hb hts zuJx4a65c_size_8abf5_Jx4a65c hown hK hP 0 rfl rfl 2 (by decide) (hts (.fieldLink RJx4a65c 48 "java/util/ArrayList" "size" "I") (by decide +kernel)) (fun _ h9 => h9) rfl dJx4a65c_size_8abf5_1 ?_
  exact W.iret (v := nz) hx hb hr (fun t ht hW => ⟨nz, rfl, rfl, ht⟩) (fun q h => by cases h) dJx4a65c_size_8abf5_4
theorem dJx4a65c_isEmpty_aae02_0 : decode cJx4a65c_isEmpty_aae02 0 = .ok (.aload_n 0, 1) := by decide +kernel
theorem dJx4a65c_isEmpty_aae02_1 : decode cJx4a65c_isEmpty_aae02 1 = .ok (.getfield 48, 3) := by decide +kernel
theorem dJx4a65c_isEmpty_aae02_4 : decode cJx4a65c_isEmpty_aae02 4 = .ok (.ifCond .ne 7, 3) := by decide +kernel
theorem dJx4a65c_isEmpty_aae02_7 : decode cJx4a65c_isEmpty_aae02 7 = .ok (.iconst 1, 1) := by decide +kernel
theorem dJx4a65c_isEmpty_aae02_8 : decode cJx4a65c_isEmpty_aae02 8 = .ok (.goto 4, 3) := by decide +kernel
theorem dJx4a65c_isEmpty_aae02_12 : decode cJx4a65c_isEmpty_aae02 12 = .ok (.ireturn, 1) := by decide +kernel
def wzEJx4a65c_isEmpty_aae02 : List Cond := [.code yJx4a65c_isEmpty_aae02 cJx4a65c_isEmpty_aae02 1 (some .boolean), .fieldLink RJx4a65c 48 "java/util/ArrayList" "size" "I"]
def wzJx4a65c_isEmpty_aae02 : List Cond := wzEJx4a65c_isEmpty_aae02 ++ (u_ws RJx4a65c TJx4a65c 3)
theorem zgEJx4a65c_isEmpty_aae02 : wzEJx4a65c_isEmpty_aae02.all goodWord = true := by decide +kernel
theorem zuJx4a65c_isEmpty_aae02_Jx4a65c : ∀ w ∈ u_ws RJx4a65c TJx4a65c 3, w ∈ wzJx4a65c_isEmpty_aae02 := (fun _ h => (List.mem_append_right _ h))
set_option maxHeartbeats 4000000 in
set_option maxRecDepth 100000 in
theorem zc_Jx4a65c_isEmpty_aae02 (l : Launch) (D : va_G) (G : Nat × Nat × Nat) (li : Nat) : Met l yJx4a65c_isEmpty_aae02 wzJx4a65c_isEmpty_aae02 ({ frames := 0, cells := 0, slots := 0, locals := 0 }) (va_Pc [.ref li] (p_RO D G [] [(li, .inr (4, [.int 0, .ref G.1, .int 0]))])) (vp_Si (fun r => r = 1)) 0 0 (fun _ => False) := by
  refine Met.ofW (cc := cJx4a65c_isEmpty_aae02) (maxL := 1) (ret := (some .boolean)) (by decide) rfl ?_
  intro p e s m args below meth c s₁ B hml hv
  obtain ⟨rfl, hP, hK, hT⟩ := hv
  have hx := B.exec
  have hb := B.bytes
  have hr := B.returns
  have hts := atoms_spec (ws := wzJx4a65c_isEmpty_aae02) B.pre
  have hown : s.vm.findClass RJx4a65c = some m.cls := findClass_of_methodNamed B.named
  have hlocks := B.notSynchronized
  have hl := lv_entry ([.ref li]) (n := 1) (Nat.le_of_ble_eq_true rfl)
  rw [lg_entry_eq]
  generalize (lg_sl ([.ref li]) ++ List.replicate (1 - (lg_sl ([.ref li])).length) Slot.unset).toArray = ls at hl ⊢
  have hl : lv_has ls 1 [(0, .ref li)] := hl
  refine lv_aload_n hx hb dJx4a65c_isEmpty_aae02_0 rfl (lv_at hl 0 rfl) ?_
  refine va_get (D := D) (cl := vwCl) (ci := 4) (v := .int 0) (C := RJx4a65c) (T := TJx4a65c) (N := 3) hx hb hts zuJx4a65c_isEmpty_aae02_Jx4a65c hown hK hP 0 rfl rfl 2 (by decide) (hts (.fieldLink RJx4a65c 48 "java/util/ArrayList" "size" "I") (by decide +kernel)) (fun _ h9 => h9) rfl dJx4a65c_isEmpty_aae02_1 ?_
  refine lv_if_ne (tgt := 11) hx hb dJx4a65c_isEmpty_aae02_4 (by decide) (fun cc => absurd (by decide) cc) (fun _ => ?_)
  refine lv_iconst (v := 1) hx hb dJx4a65c_isEmpty_aae02_7 (by decide) ?_
  refine lv_goto (tgt := 12) hx hb dJx4a65c_isEmpty_aae02_8 (by decide) ?_
  exact W.zret (v := 1) hx hb hr rfl (fun t ht hW => ⟨1, rfl, rfl, ht⟩) (fun q h => by cases h) dJx4a65c_isEmpty_aae02_12
theorem dJxa1e45_init_da8c8_0 : decode cJxa1e45_init_da8c8 0 = .ok (.aload_n 0, 1) := by decide +kernel
theorem dJxa1e45_init_da8c8_1 : decode cJxa1e45_init_da8c8 1 = .ok (.invokespecial 1, 3) := by decide +kernel
theorem dJxa1e45_init_da8c8_4 : decode cJxa1e45_init_da8c8 4 = .ok (.return_, 1) := by decide +kernel
def wzEJxa1e45_init_da8c8 : List Cond := [.code yJxa1e45_init_da8c8 cJxa1e45_init_da8c8 1 none, .methodLink RJxa1e45 1 objectInit, .instanceMethod objectInit, .code objectInit ⟨#[0xb1]⟩ 1 none]
def wzJxa1e45_init_da8c8 : List Cond := wzEJxa1e45_init_da8c8 ++ []
theorem zgEJxa1e45_init_da8c8 : wzEJxa1e45_init_da8c8.all goodWord = true := by decide +kernel
set_option maxHeartbeats 4000000 in
set_option maxRecDepth 100000 in
theorem zc_Jxa1e45_init_da8c8 (l : Launch) (D : va_G) (G : Nat × Nat × Nat) (li : Nat) (sz : Nat) : Met l yJxa1e45_init_da8c8 wzJxa1e45_init_da8c8 ({ frames := 1, cells := 0, slots := 0, locals := 12 }) (va_Pc [.ref li] (p_RW D G [] [(li, .inr (4, [.int 0, .null, .int 0]))] sz)) (va_Qv (fun (u : Unit) => True) (fun (u : Unit) (t : State) => q_RW D [] [(li, .inr (4, [.int 0, .null, .int 0]))] (va_A [(li, .inr (4, [.int 0, .null, .int 0]))] sz) t) (va_A [(li, .inr (4, [.int 0, .null, .int 0]))] sz)) 0 0 (va_A [(li, .inr (4, [.int 0, .null, .int 0]))] sz) := by
  refine Met.ofW (cc := cJxa1e45_init_da8c8) (maxL := 1) (ret := none) (by decide) rfl ?_
  intro p e s m args below meth c s₁ B hml hv
  obtain ⟨rfl, hsz, hP, hK, hD0, hT, hZ⟩ := hv
  have hx := B.exec
  have hb := B.bytes
  have hr := B.returns
  have hts := atoms_spec (ws := wzJxa1e45_init_da8c8) B.pre
  have hown : s.vm.findClass RJxa1e45 = some m.cls := findClass_of_methodNamed B.named
  have hlocks := B.notSynchronized
  have hin : meth.name = "<init>" := (name_of_methodNamed B.named B.method).1
  subst hsz
  have hD := hD0.self (sz := s.heap.size)
  generalize hAe : va_A [(li, .inr (4, [.int 0, .null, .int 0]))] s.heap.size = A at hD hZ ⊢
  have hA : ∀ q : Nat, s.heap.size ≤ q → A q := fun q h => by rw [← hAe]; exact Or.inr h
  have hS : va_S A s.heap s.heap [] := va_S.rf
  have hl := lv_entry ([.ref li]) (n := 1) (Nat.le_of_ble_eq_true rfl)
  rw [lg_entry_eq]
  generalize (lg_sl ([.ref li]) ++ List.replicate (1 - (lg_sl ([.ref li])).length) Slot.unset).toArray = ls at hl ⊢
  have hl : lv_has ls 1 [(0, .ref li)] := hl
  refine lv_aload_n hx hb dJxa1e45_init_da8c8_0 rfl (lv_at hl 0 rfl) ?_
  refine W.objInit hx hb hown (hts (.methodLink RJxa1e45 1 objectInit) (by decide +kernel)) (hts (.instanceMethod objectInit) (by decide +kernel)) (hts (.code objectInit ⟨#[0xb1]⟩ 1 none) (by decide +kernel)) rfl (by rw [hml]; exact hl.1) rfl dJxa1e45_init_da8c8_1 (Nat.le_of_ble_eq_true rfl) (Nat.le_of_ble_eq_true rfl) ?_
  refine W.eq (g2 := F0 m 4 ls []) rfl ?_
  exact W.vret hx hb hr (fun t ht hW => ⟨⟨(), rfl, trivial, q_RW_mk hP hK hD [0] [] rfl rfl (by decide) rfl ht hW.alike⟩, hS.F ht⟩) hS.2.2 dJxa1e45_init_da8c8_4
theorem dJxc12de_init_da8c8_0 : decode cJxc12de_init_da8c8 0 = .ok (.aload_n 0, 1) := by decide +kernel
theorem dJxc12de_init_da8c8_1 : decode cJxc12de_init_da8c8 1 = .ok (.invokespecial 1, 3) := by decide +kernel
theorem dJxc12de_init_da8c8_4 : decode cJxc12de_init_da8c8 4 = .ok (.aload_n 0, 1) := by decide +kernel
theorem dJxc12de_init_da8c8_5 : decode cJxc12de_init_da8c8 5 = .ok (.iconst 0, 1) := by decide +kernel
theorem dJxc12de_init_da8c8_6 : decode cJxc12de_init_da8c8 6 = .ok (.putfield 7, 3) := by decide +kernel
theorem dJxc12de_init_da8c8_9 : decode cJxc12de_init_da8c8 9 = .ok (.return_, 1) := by decide +kernel
def wzEJxc12de_init_da8c8 : List Cond := [.code yJxc12de_init_da8c8 cJxc12de_init_da8c8 1 none, .code yJxa1e45_init_da8c8 cJxa1e45_init_da8c8 1 none, .methodLink RJxa1e45 1 objectInit, .instanceMethod objectInit, .code objectInit ⟨#[0xb1]⟩ 1 none, .initialized RJxa1e45, .instanceMethod yJxa1e45_init_da8c8, .methodLink RJxc12de 1 yJxa1e45_init_da8c8, .fieldLink RJxc12de 7 "java/util/AbstractList" "modCount" "I"]
def wzJxc12de_init_da8c8 : List Cond := wzEJxc12de_init_da8c8 ++ (u_ws RJx4a65c TJx4a65c 3)
theorem zgEJxc12de_init_da8c8 : wzEJxc12de_init_da8c8.all goodWord = true := by decide +kernel
theorem zuJxc12de_init_da8c8_Jx4a65c : ∀ w ∈ u_ws RJx4a65c TJx4a65c 3, w ∈ wzJxc12de_init_da8c8 := (fun _ h => (List.mem_append_right _ h))
theorem gzJxc12de_init_da8c8_Jxa1e45_init_da8c8_1 : GoodIn wzJxc12de_init_da8c8 (wzJxa1e45_init_da8c8) := (goodIn_app (z_lift (goodIn_r wzEJxa1e45_init_da8c8 [1, 2, 3, 4] rfl zgEJxa1e45_init_da8c8)) z_gnil)
set_option maxHeartbeats 4000000 in
set_option maxRecDepth 100000 in
theorem zc_Jxc12de_init_da8c8 (l : Launch) (D : va_G) (G : Nat × Nat × Nat) (li : Nat) (sz : Nat) : Met l yJxc12de_init_da8c8 wzJxc12de_init_da8c8 ({ frames := 2, cells := 0, slots := 0, locals := 32 }) (va_Pc [.ref li] (p_RW D G [] [(li, .inr (4, [.int 0, .null, .int 0]))] sz)) (va_Qv (fun (u : Unit) => True) (fun (u : Unit) (t : State) => q_RW D [] [(li, .inr (4, [.int 0, .null, .int 0]))] (va_A [(li, .inr (4, [.int 0, .null, .int 0]))] sz) t) (va_A [(li, .inr (4, [.int 0, .null, .int 0]))] sz)) 0 0 (va_A [(li, .inr (4, [.int 0, .null, .int 0]))] sz) := by
  refine Met.ofW (cc := cJxc12de_init_da8c8) (maxL := 1) (ret := none) (by decide) rfl ?_
  intro p e s m args below meth c s₁ B hml hv
  obtain ⟨rfl, hsz, hP, hK, hD0, hT, hZ⟩ := hv
  have hx := B.exec
  have hb := B.bytes
  have hr := B.returns
  have hts := atoms_spec (ws := wzJxc12de_init_da8c8) B.pre
  have hown : s.vm.findClass RJxc12de = some m.cls := findClass_of_methodNamed B.named
  have hlocks := B.notSynchronized
  have hin : meth.name = "<init>" := (name_of_methodNamed B.named B.method).1
  subst hsz
  have hD := hD0.self (sz := s.heap.size)
  generalize hAe : va_A [(li, .inr (4, [.int 0, .null, .int 0]))] s.heap.size = A at hD hZ ⊢
  have hA : ∀ q : Nat, s.heap.size ≤ q → A q := fun q h => by rw [← hAe]; exact Or.inr h
  have hS : va_S A s.heap s.heap [] := va_S.rf
  have hl := lv_entry ([.ref li]) (n := 1) (Nat.le_of_ble_eq_true rfl)
  rw [lg_entry_eq]
  generalize (lg_sl ([.ref li]) ++ List.replicate (1 - (lg_sl ([.ref li])).length) Slot.unset).toArray = ls at hl ⊢
  have hl : lv_has ls 1 [(0, .ref li)] := hl
  refine lv_aload_n hx hb dJxc12de_init_da8c8_0 rfl (lv_at hl 0 rfl) ?_
  have hFc := va_free (wc := [(li, .inr (4, [.int 0, .null, .int 0]))]) hD hS hA [0] rfl
  refine va_callv (va_runI (As := []) (rest := []) ⟨hx, hb, hml, hown, hts⟩ (zc_Jxa1e45_init_da8c8 l D G li s.heap.size) (cwI 0 hts gzJxc12de_init_da8c8_Jxa1e45_init_da8c8_1 rfl rfl rfl (hts (.initialized RJxa1e45) (by decide +kernel)) (hts (.methodLink RJxc12de 1 yJxa1e45_init_da8c8) (by decide +kernel)) (hts (.instanceMethod yJxa1e45_init_da8c8) (by decide +kernel)) rfl (by decide +kernel) ⟨(Nat.le_of_ble_eq_true rfl), (Nat.le_of_ble_eq_true rfl)⟩) ⟨p_RW_blind, (p_RW_at (tc := []) (wc := [(li, .inr (4, [.int 0, .null, .int 0]))]) hP hK hD hS hA hT hZ [0] [] rfl rfl (by decide) rfl [.ref li])⟩ rfl rfl hl.1 rfl (lv_room (Nat.le_of_ble_eq_true rfl)) dJxc12de_init_da8c8_1 ⟨(Nat.le_of_ble_eq_true rfl), (Nat.le_of_ble_eq_true rfl)⟩) hS (fun q _ h => hFc q h) hFc (fun u t H locs ht hvm w_347 hB hz1 hk1 hS => ?_)
  obtain ⟨hP, hD, hK⟩ := q_join (D := D) (wc := [(li, .inr (4, [.int 0, .null, .int 0]))]) (wr := []) (w1 := [(li, .inr (4, [.int 0, .null, .int 0]))]) (tyr := []) (ty1 := []) hP hD hK [0] [] [] rfl rfl (by decide) (by decide) rfl hFc hk1 ht hvm hB
  have hP : va_P D vwCl [(li, .inr (4, [.int 0, .null, .int 0]))] H := hP
  have hD : va_D A [(li, .inr (4, [.int 0, .null, .int 0]))] := hD
  have hK : va_K D vwCl [] s := hK
  refine lv_aload_n hx hb dJxc12de_init_da8c8_4 rfl (lv_at hl 0 rfl) ?_
  refine lv_iconst (v := 0) hx hb dJxc12de_init_da8c8_5 (by decide) ?_
  refine va_put (D := D) (cl := vwCl) (ci := 4) (v := .int 0) (ty := .int) (C := RJx4a65c) (T := TJx4a65c) (N := 3) hx hb hts zuJxc12de_init_da8c8_Jx4a65c tyJx4a65c tyJx4a65c_ok nmJx4a65c hown hK hP hD hS 0 rfl rfl 0 (by decide) (hts (.fieldLink RJxc12de 7 "java/util/AbstractList" "modCount" "I") (by decide +kernel)) (fun _ h9 => h9) rfl (by decide +kernel) rfl rfl (Nat.le_of_ble_eq_true rfl) dJxc12de_init_da8c8_6 (fun H locs hP hD hS => ?_)
  have hP : va_P D vwCl [(li, .inr (4, [.int 0, .null, .int 0]))] H := hP
  have hD : va_D A [(li, .inr (4, [.int 0, .null, .int 0]))] := hD
  exact W.vret hx hb hr (fun t ht hW => ⟨⟨(), rfl, trivial, q_RW_mk hP hK hD [0] [] rfl rfl (by decide) rfl ht hW.alike⟩, hS.F ht⟩) hS.2.2 dJxc12de_init_da8c8_9
theorem zgU_Jx4a65c : (u_ws RJx4a65c TJx4a65c 3).all goodWord = true := by decide +kernel
theorem dJx4a65c_init_da8c8_0 : decode cJx4a65c_init_da8c8 0 = .ok (.aload_n 0, 1) := by decide +kernel
theorem dJx4a65c_init_da8c8_1 : decode cJx4a65c_init_da8c8 1 = .ok (.invokespecial 1, 3) := by decide +kernel
theorem dJx4a65c_init_da8c8_4 : decode cJx4a65c_init_da8c8 4 = .ok (.aload_n 0, 1) := by decide +kernel
theorem dJx4a65c_init_da8c8_5 : decode cJx4a65c_init_da8c8 5 = .ok (.getstatic 39, 3) := by decide +kernel
theorem dJx4a65c_init_da8c8_8 : decode cJx4a65c_init_da8c8 8 = .ok (.putfield 9, 3) := by decide +kernel
theorem dJx4a65c_init_da8c8_11 : decode cJx4a65c_init_da8c8 11 = .ok (.return_, 1) := by decide +kernel
def wzEJx4a65c_init_da8c8 : List Cond := [.code yJx4a65c_init_da8c8 cJx4a65c_init_da8c8 1 none, .code yJxc12de_init_da8c8 cJxc12de_init_da8c8 1 none, .code yJxa1e45_init_da8c8 cJxa1e45_init_da8c8 1 none, .methodLink RJxa1e45 1 objectInit, .instanceMethod objectInit, .code objectInit ⟨#[0xb1]⟩ 1 none, .initialized RJxa1e45, .instanceMethod yJxa1e45_init_da8c8, .methodLink RJxc12de 1 yJxa1e45_init_da8c8, .fieldLink RJxc12de 7 "java/util/AbstractList" "modCount" "I", .initialized RJxc12de, .instanceMethod yJxc12de_init_da8c8, .methodLink RJx4a65c 1 yJxc12de_init_da8c8, .fieldLink RJx4a65c 39 "java/util/ArrayList" "DEFAULTCAPACITY_EMPTY_ELEMENTDATA" "[Ljava/lang/Object;", .fieldLink RJx4a65c 9 "java/util/ArrayList" "elementData" "[Ljava/lang/Object;"]
def wzJx4a65c_init_da8c8 : List Cond := wzEJx4a65c_init_da8c8 ++ (u_ws RJx4a65c TJx4a65c 3)
theorem zgEJx4a65c_init_da8c8 : wzEJx4a65c_init_da8c8.all goodWord = true := by decide +kernel
theorem zuJx4a65c_init_da8c8_Jx4a65c : ∀ w ∈ u_ws RJx4a65c TJx4a65c 3, w ∈ wzJx4a65c_init_da8c8 := (fun _ h => (List.mem_append_right _ h))
theorem gzJx4a65c_init_da8c8_Jxc12de_init_da8c8_1 : GoodIn wzJx4a65c_init_da8c8 (wzJxc12de_init_da8c8) := (goodIn_app (z_lift (goodIn_r wzEJxc12de_init_da8c8 [1, 2, 3, 4, 5, 6, 7, 8, 9] rfl zgEJxc12de_init_da8c8)) (goodIn_sub (fun _ h => (List.mem_append_right _ h)) zgU_Jx4a65c))
set_option maxHeartbeats 4000000 in
set_option maxRecDepth 100000 in
theorem zc_Jx4a65c_init_da8c8 (l : Launch) (D : va_G) (G : Nat × Nat × Nat) (li : Nat) (sz : Nat) : Met l yJx4a65c_init_da8c8 wzJx4a65c_init_da8c8 ({ frames := 3, cells := 0, slots := 0, locals := 52 }) (va_Pc [.ref li] (p_RW D G [] [(li, .inr (4, [.int 0, .null, .int 0]))] sz)) (va_Qv (fun (u : Unit) => True) (fun (u : Unit) (t : State) => q_RW D [] [(li, .inr (4, [.int 0, .ref G.1, .int 0]))] (va_A [(li, .inr (4, [.int 0, .null, .int 0]))] sz) t) (va_A [(li, .inr (4, [.int 0, .null, .int 0]))] sz)) 0 0 (va_A [(li, .inr (4, [.int 0, .null, .int 0]))] sz) := by
  refine Met.ofW (cc := cJx4a65c_init_da8c8) (maxL := 1) (ret := none) (by decide) rfl ?_
  intro p e s m args below meth c s₁ B hml hv
  obtain ⟨rfl, hsz, hP, hK, hD0, hT, hZ⟩ := hv
  have hx := B.exec
  have hb := B.bytes
  have hr := B.returns
  have hts := atoms_spec (ws := wzJx4a65c_init_da8c8) B.pre
  have hown : s.vm.findClass RJx4a65c = some m.cls := findClass_of_methodNamed B.named
  have hlocks := B.notSynchronized
  have hin : meth.name = "<init>" := (name_of_methodNamed B.named B.method).1
  subst hsz
  have hD := hD0.self (sz := s.heap.size)
  generalize hAe : va_A [(li, .inr (4, [.int 0, .null, .int 0]))] s.heap.size = A at hD hZ ⊢
  have hA : ∀ q : Nat, s.heap.size ≤ q → A q := fun q h => by rw [← hAe]; exact Or.inr h
  have hS : va_S A s.heap s.heap [] := va_S.rf
  have hl := lv_entry ([.ref li]) (n := 1) (Nat.le_of_ble_eq_true rfl)
  rw [lg_entry_eq]
  generalize (lg_sl ([.ref li]) ++ List.replicate (1 - (lg_sl ([.ref li])).length) Slot.unset).toArray = ls at hl ⊢
  have hl : lv_has ls 1 [(0, .ref li)] := hl
  refine lv_aload_n hx hb dJx4a65c_init_da8c8_0 rfl (lv_at hl 0 rfl) ?_
  have hFc := va_free (wc := [(li, .inr (4, [.int 0, .null, .int 0]))]) hD hS hA [0] rfl
  refine va_callv (va_runI (As := []) (rest := []) ⟨hx, hb, hml, hown, hts⟩ (zc_Jxc12de_init_da8c8 l D G li s.heap.size) (cwI 0 hts gzJx4a65c_init_da8c8_Jxc12de_init_da8c8_1 rfl rfl rfl (hts (.initialized RJxc12de) (by decide +kernel)) (hts (.methodLink RJx4a65c 1 yJxc12de_init_da8c8) (by decide +kernel)) (hts (.instanceMethod yJxc12de_init_da8c8) (by decide +kernel)) rfl (by decide +kernel) ⟨(Nat.le_of_ble_eq_true rfl), (Nat.le_of_ble_eq_true rfl)⟩) ⟨p_RW_blind, (p_RW_at (tc := []) (wc := [(li, .inr (4, [.int 0, .null, .int 0]))]) hP hK hD hS hA hT hZ [0] [] rfl rfl (by decide) rfl [.ref li])⟩ rfl rfl hl.1 rfl (lv_room (Nat.le_of_ble_eq_true rfl)) dJx4a65c_init_da8c8_1 ⟨(Nat.le_of_ble_eq_true rfl), (Nat.le_of_ble_eq_true rfl)⟩) hS (fun q _ h => hFc q h) hFc (fun u t H locs ht hvm w_349 hB hz1 hk1 hS => ?_)
  obtain ⟨hP, hD, hK⟩ := q_join (D := D) (wc := [(li, .inr (4, [.int 0, .null, .int 0]))]) (wr := []) (w1 := [(li, .inr (4, [.int 0, .null, .int 0]))]) (tyr := []) (ty1 := []) hP hD hK [0] [] [] rfl rfl (by decide) (by decide) rfl hFc hk1 ht hvm hB
  have hP : va_P D vwCl [(li, .inr (4, [.int 0, .null, .int 0]))] H := hP
  have hD : va_D A [(li, .inr (4, [.int 0, .null, .int 0]))] := hD
  have hK : va_K D vwCl [] s := hK
  refine lv_aload_n hx hb dJx4a65c_init_da8c8_4 rfl (lv_at hl 0 rfl) ?_
  refine va_gets hx hb hZ.2.2.1 hS hown (hts (.fieldLink RJx4a65c 39 "java/util/ArrayList" "DEFAULTCAPACITY_EMPTY_ELEMENTDATA" "[Ljava/lang/Object;") (by decide +kernel)) (fun _ h9 => h9) dJx4a65c_init_da8c8_5 ?_
  refine va_put (D := D) (cl := vwCl) (ci := 4) (v := .ref G.1) (ty := (.array (.object "java/lang/Object"))) (C := RJx4a65c) (T := TJx4a65c) (N := 3) hx hb hts zuJx4a65c_init_da8c8_Jx4a65c tyJx4a65c tyJx4a65c_ok nmJx4a65c hown hK hP hD hS 0 rfl rfl 1 (by decide) (hts (.fieldLink RJx4a65c 9 "java/util/ArrayList" "elementData" "[Ljava/lang/Object;") (by decide +kernel)) (fun _ h9 => h9) rfl (by decide +kernel) rfl rfl (Nat.le_of_ble_eq_true rfl) dJx4a65c_init_da8c8_8 (fun H locs hP hD hS => ?_)
  have hP : va_P D vwCl [(li, .inr (4, [.int 0, .ref G.1, .int 0]))] H := hP
  have hD : va_D A [(li, .inr (4, [.int 0, .ref G.1, .int 0]))] := hD
  exact W.vret hx hb hr (fun t ht hW => ⟨⟨(), rfl, trivial, q_RW_mk hP hK hD [0] [] rfl rfl (by decide) rfl ht hW.alike⟩, hS.F ht⟩) hS.2.2 dJx4a65c_init_da8c8_11
theorem dJx35411_init_45d68_0 : decode cJx35411_init_45d68 0 = .ok (.aload_n 0, 1) := by decide +kernel
theorem dJx35411_init_45d68_1 : decode cJx35411_init_45d68 1 = .ok (.aload_n 1, 1) := by decide +kernel
theorem dJx35411_init_45d68_2 : decode cJx35411_init_45d68 2 = .ok (.putfield 1, 3) := by decide +kernel
theorem dJx35411_init_45d68_5 : decode cJx35411_init_45d68 5 = .ok (.aload_n 0, 1) := by decide +kernel
theorem dJx35411_init_45d68_6 : decode cJx35411_init_45d68 6 = .ok (.invokespecial 7, 3) := by decide +kernel
theorem dJx35411_init_45d68_9 : decode cJx35411_init_45d68 9 = .ok (.aload_n 0, 1) := by decide +kernel
theorem dJx35411_init_45d68_10 : decode cJx35411_init_45d68 10 = .ok (.iconst (-1), 1) := by decide +kernel
theorem dJx35411_init_45d68_11 : decode cJx35411_init_45d68 11 = .ok (.putfield 13, 3) := by decide +kernel
theorem dJx35411_init_45d68_14 : decode cJx35411_init_45d68 14 = .ok (.aload_n 0, 1) := by decide +kernel
theorem dJx35411_init_45d68_15 : decode cJx35411_init_45d68 15 = .ok (.aload_n 0, 1) := by decide +kernel
theorem dJx35411_init_45d68_16 : decode cJx35411_init_45d68 16 = .ok (.getfield 1, 3) := by decide +kernel
theorem dJx35411_init_45d68_19 : decode cJx35411_init_45d68 19 = .ok (.getfield 17, 3) := by decide +kernel
theorem dJx35411_init_45d68_22 : decode cJx35411_init_45d68 22 = .ok (.putfield 22, 3) := by decide +kernel
theorem dJx35411_init_45d68_25 : decode cJx35411_init_45d68 25 = .ok (.return_, 1) := by decide +kernel
def wzEJx35411_init_45d68 : List Cond := [.code yJx35411_init_45d68 cJx35411_init_45d68 2 none, .fieldLink RJx35411 1 "java/util/ArrayList$Itr" "this$0" "Ljava/util/ArrayList;", .methodLink RJx35411 7 objectInit, .instanceMethod objectInit, .code objectInit ⟨#[0xb1]⟩ 1 none, .fieldLink RJx35411 13 "java/util/ArrayList$Itr" "lastRet" "I", .sameField "java/util/ArrayList" "java/util/AbstractList" "modCount" "I", .fieldLink RJx35411 17 "java/util/ArrayList" "modCount" "I", .fieldLink RJx35411 22 "java/util/ArrayList$Itr" "expectedModCount" "I"]
def wzJx35411_init_45d68 : List Cond := wzEJx35411_init_45d68 ++ (u_ws RJx35411 TJx35411 4 ++ (u_ws RJx4a65c TJx4a65c 3))
theorem zgEJx35411_init_45d68 : wzEJx35411_init_45d68.all goodWord = true := by decide +kernel
theorem zuJx35411_init_45d68_Jx35411 : ∀ w ∈ u_ws RJx35411 TJx35411 4, w ∈ wzJx35411_init_45d68 := (fun _ h => (List.mem_append_right _ (List.mem_append_left _ h)))
theorem zuJx35411_init_45d68_Jx4a65c : ∀ w ∈ u_ws RJx4a65c TJx4a65c 3, w ∈ wzJx35411_init_45d68 := (fun _ h => (List.mem_append_right _ (List.mem_append_right _ h)))
set_option maxHeartbeats 4000000 in
set_option maxRecDepth 100000 in
theorem zc_Jx35411_init_45d68 (l : Launch) (D : va_G) (G : Nat × Nat × Nat) (it : Nat) (li : Nat) (sz : Nat) : Met l yJx35411_init_45d68 wzJx35411_init_45d68 ({ frames := 1, cells := 0, slots := 0, locals := 12 }) (va_Pc [.ref it, .ref li] (p_RW D G [] [(it, .inr (3, [.int 0, .int 0, .int 0, .null])), (li, .inr (4, [.int 0, .ref G.1, .int 0]))] sz)) (va_Qv (fun (u : Unit) => True) (fun (u : Unit) (t : State) => q_RW D [] [(it, .inr (3, [.int 0, .int (-1), .int 0, .ref li])), (li, .inr (4, [.int 0, .ref G.1, .int 0]))] (va_A [(it, .inr (3, [.int 0, .int 0, .int 0, .null])), (li, .inr (4, [.int 0, .ref G.1, .int 0]))] sz) t) (va_A [(it, .inr (3, [.int 0, .int 0, .int 0, .null])), (li, .inr (4, [.int 0, .ref G.1, .int 0]))] sz)) 0 0 (va_A [(it, .inr (3, [.int 0, .int 0, .int 0, .null])), (li, .inr (4, [.int 0, .ref G.1, .int 0]))] sz) := by
  refine Met.ofW (cc := cJx35411_init_45d68) (maxL := 2) (ret := none) (by decide) rfl ?_
  intro p e s m args below meth c s₁ B hml hv
  obtain ⟨rfl, hsz, hP, hK, hD0, hT, hZ⟩ := hv
  have hx := B.exec
  have hb := B.bytes
  have hr := B.returns
  have hts := atoms_spec (ws := wzJx35411_init_45d68) B.pre
  have hown : s.vm.findClass RJx35411 = some m.cls := findClass_of_methodNamed B.named
  have hlocks := B.notSynchronized
  have hin : meth.name = "<init>" := (name_of_methodNamed B.named B.method).1
  subst hsz
  have hD := hD0.self (sz := s.heap.size)
  generalize hAe : va_A [(it, .inr (3, [.int 0, .int 0, .int 0, .null])), (li, .inr (4, [.int 0, .ref G.1, .int 0]))] s.heap.size = A at hD hZ ⊢
  have hA : ∀ q : Nat, s.heap.size ≤ q → A q := fun q h => by rw [← hAe]; exact Or.inr h
  have hS : va_S A s.heap s.heap [] := va_S.rf
  have hl := lv_entry ([.ref it, .ref li]) (n := 2) (Nat.le_of_ble_eq_true rfl)
  rw [lg_entry_eq]
  generalize (lg_sl ([.ref it, .ref li]) ++ List.replicate (2 - (lg_sl ([.ref it, .ref li])).length) Slot.unset).toArray = ls at hl ⊢
  have hl : lv_has ls 2 [(0, .ref it), (1, .ref li)] := hl
  refine lv_aload_n hx hb dJx35411_init_45d68_0 rfl (lv_at hl 0 rfl) ?_
  refine lv_aload_n hx hb dJx35411_init_45d68_1 rfl (lv_at hl 1 rfl) ?_
  refine va_putF (D := D) (cl := vwCl) (ci := 3) (v := .ref li) (ty := (.object "java/util/ArrayList")) (C := RJx35411) (T := TJx35411) (N := 4) hx hb hts zuJx35411_init_45d68_Jx35411 tyJx35411 tyJx35411_ok nmJx35411 hown hK hP hD hS 0 rfl rfl 3 (by decide) (hts (.fieldLink RJx35411 1 "java/util/ArrayList$Itr" "this$0" "Ljava/util/ArrayList;") (by decide +kernel)) (fun _ h9 => h9) rfl hin rfl (by decide +kernel) rfl rfl (Nat.le_of_ble_eq_true rfl) dJx35411_init_45d68_2 (fun H locs hP hD hS => ?_)
  have hP : va_P D vwCl [(it, .inr (3, [.int 0, .int 0, .int 0, .ref li])), (li, .inr (4, [.int 0, .ref G.1, .int 0]))] H := hP
  have hD : va_D A [(it, .inr (3, [.int 0, .int 0, .int 0, .ref li])), (li, .inr (4, [.int 0, .ref G.1, .int 0]))] := hD
  refine lv_aload_n hx hb dJx35411_init_45d68_5 rfl (lv_at hl 0 rfl) ?_
  refine W.objInit hx hb hown (hts (.methodLink RJx35411 7 objectInit) (by decide +kernel)) (hts (.instanceMethod objectInit) (by decide +kernel)) (hts (.code objectInit ⟨#[0xb1]⟩ 1 none) (by decide +kernel)) rfl (by rw [hml]; exact hl.1) rfl dJx35411_init_45d68_6 (Nat.le_of_ble_eq_true rfl) (Nat.le_of_ble_eq_true rfl) ?_
  refine W.eq (g2 := F0 m 9 ls []) rfl ?_
  refine lv_aload_n hx hb dJx35411_init_45d68_9 rfl (lv_at hl 0 rfl) ?_
  refine lv_iconst (v := (-1)) hx hb dJx35411_init_45d68_10 (by decide) ?_
  refine va_put (D := D) (cl := vwCl) (ci := 3) (v := .int (-1)) (ty := .int) (C := RJx35411) (T := TJx35411) (N := 4) hx hb hts zuJx35411_init_45d68_Jx35411 tyJx35411 tyJx35411_ok nmJx35411 hown hK hP hD hS 0 rfl rfl 1 (by decide) (hts (.fieldLink RJx35411 13 "java/util/ArrayList$Itr" "lastRet" "I") (by decide +kernel)) (fun _ h9 => h9) rfl (by decide +kernel) rfl rfl (Nat.le_of_ble_eq_true rfl) dJx35411_init_45d68_11 (fun H locs hP hD hS => ?_)
  have hP : va_P D vwCl [(it, .inr (3, [.int 0, .int (-1), .int 0, .ref li])), (li, .inr (4, [.int 0, .ref G.1, .int 0]))] H := hP
  have hD : va_D A [(it, .inr (3, [.int 0, .int (-1), .int 0, .ref li])), (li, .inr (4, [.int 0, .ref G.1, .int 0]))] := hD
  refine lv_aload_n hx hb dJx35411_init_45d68_14 rfl (lv_at hl 0 rfl) ?_
  refine lv_aload_n hx hb dJx35411_init_45d68_15 rfl (lv_at hl 0 rfl) ?_
  refine va_get (D := D) (cl := vwCl) (ci := 3) (v := .ref li) (C := RJx35411) (T := TJx35411) (N := 4) hx hb hts zuJx35411_init_45d68_Jx35411 hown hK hP 0 rfl rfl 3 (by decide) (hts (.fieldLink RJx35411 1 "java/util/ArrayList$Itr" "this$0" "Ljava/util/ArrayList;") (by decide +kernel)) (fun _ h9 => h9) rfl dJx35411_init_45d68_16 ?_
  refine va_get (D := D) (cl := vwCl) (ci := 4) (v := .int 0) (C := RJx4a65c) (T := TJx4a65c) (N := 3) hx hb hts zuJx35411_init_45d68_Jx4a65c hown hK hP 1 rfl rfl 0 (by decide) (hts (.fieldLink RJx35411 17 "java/util/ArrayList" "modCount" "I") (by decide +kernel)) (fun x9 h9 => u_same (hts (.sameField "java/util/ArrayList" "java/util/AbstractList" "modCount" "I") (by decide +kernel)) x9 h9) rfl dJx35411_init_45d68_19 ?_
  refine va_put (D := D) (cl := vwCl) (ci := 3) (v := .int 0) (ty := .int) (C := RJx35411) (T := TJx35411) (N := 4) hx hb hts zuJx35411_init_45d68_Jx35411 tyJx35411 tyJx35411_ok nmJx35411 hown hK hP hD hS 0 rfl rfl 2 (by decide) (hts (.fieldLink RJx35411 22 "java/util/ArrayList$Itr" "expectedModCount" "I") (by decide +kernel)) (fun _ h9 => h9) rfl (by decide +kernel) rfl rfl (Nat.le_of_ble_eq_true rfl) dJx35411_init_45d68_22 (fun H locs hP hD hS => ?_)
  have hP : va_P D vwCl [(it, .inr (3, [.int 0, .int (-1), .int 0, .ref li])), (li, .inr (4, [.int 0, .ref G.1, .int 0]))] H := hP
  have hD : va_D A [(it, .inr (3, [.int 0, .int (-1), .int 0, .ref li])), (li, .inr (4, [.int 0, .ref G.1, .int 0]))] := hD
  exact W.vret hx hb hr (fun t ht hW => ⟨⟨(), rfl, trivial, q_RW_mk hP hK hD [0, 1] [] rfl rfl (by decide) rfl ht hW.alike⟩, hS.F ht⟩) hS.2.2 dJx35411_init_45d68_25
theorem zgU_Jx35411 : (u_ws RJx35411 TJx35411 4).all goodWord = true := by decide +kernel
theorem dJx4a65c_iterator_32c93_0 : decode cJx4a65c_iterator_32c93 0 = .ok (.new 267, 3) := by decide +kernel
theorem dJx4a65c_iterator_32c93_3 : decode cJx4a65c_iterator_32c93 3 = .ok (.dup, 1) := by decide +kernel
theorem dJx4a65c_iterator_32c93_4 : decode cJx4a65c_iterator_32c93 4 = .ok (.aload_n 0, 1) := by decide +kernel
theorem dJx4a65c_iterator_32c93_5 : decode cJx4a65c_iterator_32c93 5 = .ok (.invokespecial 269, 3) := by decide +kernel
theorem dJx4a65c_iterator_32c93_8 : decode cJx4a65c_iterator_32c93 8 = .ok (.areturn, 1) := by decide +kernel
def wzEJx4a65c_iterator_32c93 : List Cond := [.code yJx4a65c_iterator_32c93 cJx4a65c_iterator_32c93 1 (some (.object "java/util/Iterator")), .classLink RJx4a65c 267 RJx35411, .instantiable RJx35411 4, .initialized RJx35411, .code yJx35411_init_45d68 cJx35411_init_45d68 2 none, .fieldLink RJx35411 1 "java/util/ArrayList$Itr" "this$0" "Ljava/util/ArrayList;", .methodLink RJx35411 7 objectInit, .instanceMethod objectInit, .code objectInit ⟨#[0xb1]⟩ 1 none, .fieldLink RJx35411 13 "java/util/ArrayList$Itr" "lastRet" "I", .sameField "java/util/ArrayList" "java/util/AbstractList" "modCount" "I", .fieldLink RJx35411 17 "java/util/ArrayList" "modCount" "I", .fieldLink RJx35411 22 "java/util/ArrayList$Itr" "expectedModCount" "I", .instanceMethod yJx35411_init_45d68, .methodLink RJx4a65c 269 yJx35411_init_45d68]
def wzJx4a65c_iterator_32c93 : List Cond := wzEJx4a65c_iterator_32c93 ++ (u_ws RJx35411 TJx35411 4 ++ (u_ws RJx4a65c TJx4a65c 3))
theorem zgEJx4a65c_iterator_32c93 : wzEJx4a65c_iterator_32c93.all goodWord = true := by decide +kernel
theorem zuJx4a65c_iterator_32c93_Jx35411 : ∀ w ∈ u_ws RJx35411 TJx35411 4, w ∈ wzJx4a65c_iterator_32c93 := (fun _ h => (List.mem_append_right _ (List.mem_append_left _ h)))
theorem zuJx4a65c_iterator_32c93_Jx4a65c : ∀ w ∈ u_ws RJx4a65c TJx4a65c 3, w ∈ wzJx4a65c_iterator_32c93 := (fun _ h => (List.mem_append_right _ (List.mem_append_right _ h)))
theorem gzJx4a65c_iterator_32c93_Jx35411_init_45d68_269 : GoodIn wzJx4a65c_iterator_32c93 (wzJx35411_init_45d68) := (goodIn_app (z_lift (goodIn_r wzEJx35411_init_45d68 [4, 5, 6, 7, 8, 9, 10, 11, 12] rfl zgEJx35411_init_45d68)) (goodIn_app (goodIn_sub (fun _ h => (List.mem_append_right _ (List.mem_append_left _ h))) zgU_Jx35411) (goodIn_sub (fun _ h => (List.mem_append_right _ (List.mem_append_right _ h))) zgU_Jx4a65c)))
set_option maxHeartbeats 4000000 in
set_option maxRecDepth 100000 in
theorem zc_Jx4a65c_iterator_32c93 (l : Launch) (D : va_G) (G : Nat × Nat × Nat) (li : Nat) (sz : Nat) : Met l yJx4a65c_iterator_32c93 wzJx4a65c_iterator_32c93 ({ frames := 2, cells := 1, slots := 4, locals := 33 }) (va_Pc [.ref li] (p_RW D G [] [(li, .inr (4, [.int 0, .ref G.1, .int 0]))] sz)) (va_Qr (fun (u : Unit) => True) (fun (u : Unit) (ret : Nat) (t : State) => q_RW D [] [(li, .inr (4, [.int 0, .ref G.1, .int 0])), (ret, .inr (3, [.int 0, .int (-1), .int 0, .ref li]))] (va_A [(li, .inr (4, [.int 0, .ref G.1, .int 0]))] sz) t) (va_A [(li, .inr (4, [.int 0, .ref G.1, .int 0]))] sz)) 1 4 (va_A [(li, .inr (4, [.int 0, .ref G.1, .int 0]))] sz) := by
  refine Met.ofW (cc := cJx4a65c_iterator_32c93) (maxL := 1) (ret := (some (.object "java/util/Iterator"))) (by decide) rfl ?_
  intro p e s m args below meth c s₁ B hml hv
  obtain ⟨rfl, hsz, hP, hK, hD0, hT, hZ⟩ := hv
  have hx := B.exec
  have hb := B.bytes
  have hr := B.returns
  have hts := atoms_spec (ws := wzJx4a65c_iterator_32c93) B.pre
  have hown : s.vm.findClass RJx4a65c = some m.cls := findClass_of_methodNamed B.named
  have hlocks := B.notSynchronized
  subst hsz
  have hD := hD0.self (sz := s.heap.size)
  generalize hAe : va_A [(li, .inr (4, [.int 0, .ref G.1, .int 0]))] s.heap.size = A at hD hZ ⊢
  have hA : ∀ q : Nat, s.heap.size ≤ q → A q := fun q h => by rw [← hAe]; exact Or.inr h
  have hS : va_S A s.heap s.heap [] := va_S.rf
  have hl := lv_entry ([.ref li]) (n := 1) (Nat.le_of_ble_eq_true rfl)
  rw [lg_entry_eq]
  generalize (lg_sl ([.ref li]) ++ List.replicate (1 - (lg_sl ([.ref li])).length) Slot.unset).toArray = ls at hl ⊢
  have hl : lv_has ls 1 [(0, .ref li)] := hl
  refine va_new (D := D) (cl := vwCl) (ci := 3) (fs := [.int 0, .int 0, .int 0, .null]) (C := RJx35411) (T := TJx35411) (N := 4) hx hb hts zuJx4a65c_iterator_32c93_Jx35411 tyJx35411 tyJx35411_ok hown (hts (.classLink RJx4a65c 267 RJx35411) (by decide +kernel)) (hts (.instantiable RJx35411 4) (by decide +kernel)) (hts (.initialized RJx35411) (by decide +kernel)) hK hP hD hS hA rfl (fun j hj => by rcases (show j = 0 ∨ j = 1 ∨ j = 2 ∨ j = 3 by omega) with rfl | rfl | rfl | rfl <;> rfl) (Nat.le_of_ble_eq_true rfl) (Nat.le_of_ble_eq_true rfl) dJx4a65c_iterator_32c93_0 (fun o_350 H hP hD hS => ?_)
  have hP : va_P D vwCl [(li, .inr (4, [.int 0, .ref G.1, .int 0])), (o_350, .inr (3, [.int 0, .int 0, .int 0, .null]))] H := hP
  have hD : va_D A [(li, .inr (4, [.int 0, .ref G.1, .int 0])), (o_350, .inr (3, [.int 0, .int 0, .int 0, .null]))] := hD
  refine W.widen (k := 1) (n := 4) (Nat.le_of_ble_eq_true rfl) (Nat.le_of_ble_eq_true rfl) ?_
  refine lv_dup hx hb dJx4a65c_iterator_32c93_3 rfl ?_
  refine lv_aload_n hx hb dJx4a65c_iterator_32c93_4 rfl (lv_at hl 0 rfl) ?_
  have hFc := va_free (wc := [(o_350, .inr (3, [.int 0, .int 0, .int 0, .null])), (li, .inr (4, [.int 0, .ref G.1, .int 0]))]) hD hS hA [1, 0] rfl
  refine va_callv (va_runI (As := [.ref li]) (rest := [.ref o_350]) ⟨hx, hb, hml, hown, hts⟩ (zc_Jx35411_init_45d68 l D G o_350 li H.size) (cwI 1 hts gzJx4a65c_iterator_32c93_Jx35411_init_45d68_269 rfl rfl rfl (hts (.initialized RJx35411) (by decide +kernel)) (hts (.methodLink RJx4a65c 269 yJx35411_init_45d68) (by decide +kernel)) (hts (.instanceMethod yJx35411_init_45d68) (by decide +kernel)) rfl (by decide +kernel) ⟨(Nat.le_of_ble_eq_true rfl), (Nat.le_of_ble_eq_true rfl)⟩) ⟨p_RW_blind, (p_RW_at (tc := []) (wc := [(o_350, .inr (3, [.int 0, .int 0, .int 0, .null])), (li, .inr (4, [.int 0, .ref G.1, .int 0]))]) hP hK hD hS hA hT hZ [1, 0] [] rfl rfl (by decide) rfl [.ref o_350, .ref li])⟩ rfl rfl hl.1 rfl (lv_room (Nat.le_of_ble_eq_true rfl)) dJx4a65c_iterator_32c93_5 ⟨(Nat.le_of_ble_eq_true rfl), (Nat.le_of_ble_eq_true rfl)⟩) hS (fun q _ h => hFc q h) hFc (fun u t H locs ht hvm w_352 hB hz1 hk1 hS => ?_)
  obtain ⟨hP, hD, hK⟩ := q_join (D := D) (wc := [(o_350, .inr (3, [.int 0, .int 0, .int 0, .null])), (li, .inr (4, [.int 0, .ref G.1, .int 0]))]) (wr := []) (w1 := [(o_350, .inr (3, [.int 0, .int (-1), .int 0, .ref li])), (li, .inr (4, [.int 0, .ref G.1, .int 0]))]) (tyr := []) (ty1 := []) hP hD hK [1, 0] [] [] rfl rfl (by decide) (by decide) rfl hFc hk1 ht hvm hB
  have hP : va_P D vwCl [(o_350, .inr (3, [.int 0, .int (-1), .int 0, .ref li])), (li, .inr (4, [.int 0, .ref G.1, .int 0]))] H := hP
  have hD : va_D A [(o_350, .inr (3, [.int 0, .int (-1), .int 0, .ref li])), (li, .inr (4, [.int 0, .ref G.1, .int 0]))] := hD
  have hK : va_K D vwCl [] s := hK
  exact W.aret (v := .ref o_350) hx hb hr (Or.inl ⟨_, rfl⟩) (Or.inr ⟨_, rfl⟩) (fun t ht hW => ⟨⟨(), o_350, rfl, trivial, q_RW_mk hP hK hD [1, 0] [] rfl rfl (by decide) rfl ht hW.alike⟩, hS.F ht⟩) hS.2.2 dJx4a65c_iterator_32c93_8
theorem dJx35411_hasNext_aae02_0 : decode cJx35411_hasNext_aae02 0 = .ok (.aload_n 0, 1) := by decide +kernel
theorem dJx35411_hasNext_aae02_1 : decode cJx35411_hasNext_aae02 1 = .ok (.getfield 25, 3) := by decide +kernel
theorem dJx35411_hasNext_aae02_4 : decode cJx35411_hasNext_aae02 4 = .ok (.aload_n 0, 1) := by decide +kernel
theorem dJx35411_hasNext_aae02_5 : decode cJx35411_hasNext_aae02 5 = .ok (.getfield 1, 3) := by decide +kernel
theorem dJx35411_hasNext_aae02_8 : decode cJx35411_hasNext_aae02 8 = .ok (.getfield 28, 3) := by decide +kernel
theorem dJx35411_hasNext_aae02_11 : decode cJx35411_hasNext_aae02 11 = .ok (.if_icmp .eq 7, 3) := by decide +kernel
theorem dJx35411_hasNext_aae02_18 : decode cJx35411_hasNext_aae02 18 = .ok (.iconst 0, 1) := by decide +kernel
theorem dJx35411_hasNext_aae02_19 : decode cJx35411_hasNext_aae02 19 = .ok (.ireturn, 1) := by decide +kernel
def wzEJx35411_hasNext_aae02 : List Cond := [.code yJx35411_hasNext_aae02 cJx35411_hasNext_aae02 1 (some .boolean), .fieldLink RJx35411 25 "java/util/ArrayList$Itr" "cursor" "I", .fieldLink RJx35411 1 "java/util/ArrayList$Itr" "this$0" "Ljava/util/ArrayList;"]
def wzJx35411_hasNext_aae02 : List Cond := wzEJx35411_hasNext_aae02 ++ (u_ws RJx35411 TJx35411 4 ++ (u_ws RJx4a65c TJx4a65c 3))
theorem zgEJx35411_hasNext_aae02 : wzEJx35411_hasNext_aae02.all goodWord = true := by decide +kernel
theorem zuJx35411_hasNext_aae02_Jx35411 : ∀ w ∈ u_ws RJx35411 TJx35411 4, w ∈ wzJx35411_hasNext_aae02 := (fun _ h => (List.mem_append_right _ (List.mem_append_left _ h)))
theorem zuJx35411_hasNext_aae02_Jx4a65c : ∀ w ∈ u_ws RJx4a65c TJx4a65c 3, w ∈ wzJx35411_hasNext_aae02 := (fun _ h => (List.mem_append_right _ (List.mem_append_right _ h)))
set_option maxHeartbeats 4000000 in
set_option maxRecDepth 100000 in
theorem zc_Jx35411_hasNext_aae02 (l : Launch) (D : va_G) (G : Nat × Nat × Nat) (it : Nat) (li : Nat) : Met l yJx35411_hasNext_aae02 wzJx35411_hasNext_aae02 ({ frames := 0, cells := 0, slots := 0, locals := 0 }) (va_Pc [.ref it] (p_RO D G [] [(it, .inr (3, [.int 0, .int (-1), .int 0, .ref li])), (li, .inr (4, [.int 0, .ref G.1, .int 0]))])) (vp_Si (fun r => r = 0)) 0 0 (fun _ => False) := by
  refine Met.ofW (cc := cJx35411_hasNext_aae02) (maxL := 1) (ret := (some .boolean)) (by decide) rfl ?_
  intro p e s m args below meth c s₁ B hml hv
  obtain ⟨rfl, hP, hK, hT⟩ := hv
  have hx := B.exec
  have hb := B.bytes
  have hr := B.returns
  have hts := atoms_spec (ws := wzJx35411_hasNext_aae02) B.pre
  have hown : s.vm.findClass RJx35411 = some m.cls := findClass_of_methodNamed B.named
  have hlocks := B.notSynchronized
  have hl := lv_entry ([.ref it]) (n := 1) (Nat.le_of_ble_eq_true rfl)
  rw [lg_entry_eq]
  generalize (lg_sl ([.ref it]) ++ List.replicate (1 - (lg_sl ([.ref it])).length) Slot.unset).toArray = ls at hl ⊢
  have hl : lv_has ls 1 [(0, .ref it)] := hl
  refine lv_aload_n hx hb dJx35411_hasNext_aae02_0 rfl (lv_at hl 0 rfl) ?_
  refine va_get (D := D) (cl := vwCl) (ci := 3) (v := .int 0) (C := RJx35411) (T := TJx35411) (N := 4) hx hb hts zuJx35411_hasNext_aae02_Jx35411 hown hK hP 0 rfl rfl 0 (by decide) (hts (.fieldLink RJx35411 25 "java/util/ArrayList$Itr" "cursor" "I") (by decide +kernel)) (fun _ h9 => h9) rfl dJx35411_hasNext_aae02_1 ?_
  refine lv_aload_n hx hb dJx35411_hasNext_aae02_4 rfl (lv_at hl 0 rfl) ?_
  refine va_get (D := D) (cl := vwCl) (ci := 3) (v := .ref li) (C := RJx35411) (T := TJx35411) (N := 4) hx hb hts zuJx35411_hasNext_aae02_Jx35411 hown hK hP 0 rfl rfl 3 (by decide) (hts (.fieldLink RJx35411 1 "java/util/ArrayList$Itr" "this$0" "Ljava/util/ArrayList;") (by decide +kernel)) (fun _ h9 => h9) rfl dJx35411_hasNext_aae02_5 ?_
  refine va_getN (D := D) (cl := vwCl) (ci := 4) (v := .int 0) (C := RJx4a65c) (T := TJx4a65c) (N := 3) hx hb hts zuJx35411_hasNext_aae02_Jx4a65c hown hK hP 1 rfl rfl 2 (by decide) (va_Nw.use rfl (hT.2.1 ("java/util/ArrayList$Itr", 28, "java/util/ArrayList", "size", "I", "java/util/ArrayList") (by decide +kernel))) (fun _ h9 => h9) rfl dJx35411_hasNext_aae02_8 ?_
  refine lv_icmp_eq (tgt := 18) hx hb dJx35411_hasNext_aae02_11 (by decide) (fun _ => ?_) (fun cc => absurd (by decide) cc)
  refine lv_iconst (v := 0) hx hb dJx35411_hasNext_aae02_18 (by decide) ?_
  exact W.zret (v := 0) hx hb hr rfl (fun t ht hW => ⟨0, rfl, rfl, ht⟩) (fun q h => by cases h) dJx35411_hasNext_aae02_19
theorem dJ0_coder_7d493_0 : decode cJ0_coder_7d493 0 = .ok (.getstatic 38, 3) := by decide +kernel
theorem dJ0_coder_7d493_3 : decode cJ0_coder_7d493 3 = .ok (.ifCond .eq 10, 3) := by decide +kernel
theorem dJ0_coder_7d493_6 : decode cJ0_coder_7d493 6 = .ok (.aload_n 0, 1) := by decide +kernel
theorem dJ0_coder_7d493_7 : decode cJ0_coder_7d493 7 = .ok (.getfield 15, 3) := by decide +kernel
theorem dJ0_coder_7d493_10 : decode cJ0_coder_7d493 10 = .ok (.goto 4, 3) := by decide +kernel
theorem dJ0_coder_7d493_14 : decode cJ0_coder_7d493 14 = .ok (.ireturn, 1) := by decide +kernel
def wzEJ0_coder_7d493 : List Cond := [.code yJ0_coder_7d493 cJ0_coder_7d493 1 (some .byte), .fieldLink RJ0 38 "java/lang/String" "COMPACT_STRINGS" "Z", .fieldLink RJ0 15 "java/lang/String" "coder" "B"]
def wzJ0_coder_7d493 : List Cond := wzEJ0_coder_7d493 ++ []
theorem zgEJ0_coder_7d493 : wzEJ0_coder_7d493.all goodWord = true := by decide +kernel
set_option maxHeartbeats 4000000 in
set_option maxRecDepth 100000 in
theorem zc_J0_coder_7d493 (l : Launch) (D : va_G) (G : Nat × Nat × Nat) (sz : Nat) : Met l yJ0_coder_7d493 wzJ0_coder_7d493 ({ frames := 0, cells := 0, slots := 0, locals := 0 }) (va_Pc [.ref G.2.1] (p_RW D G [] [] sz)) (va_Qi (fun (r : Int32) (u : Unit) => r = 0) (fun (u : Unit) (t : State) => q_RW D [] [] (va_A [] sz) t) (va_A [] sz)) 0 0 (va_A [] sz) := by
  refine Met.ofW (cc := cJ0_coder_7d493) (maxL := 1) (ret := (some .byte)) (by decide) rfl ?_
  intro p e s m args below meth c s₁ B hml hv
  obtain ⟨rfl, hsz, hP, hK, hD0, hT, hZ⟩ := hv
  have hx := B.exec
  have hb := B.bytes
  have hr := B.returns
  have hts := atoms_spec (ws := wzJ0_coder_7d493) B.pre
  have hown : s.vm.findClass RJ0 = some m.cls := findClass_of_methodNamed B.named
  have hlocks := B.notSynchronized
  subst hsz
  have hD := hD0.self (sz := s.heap.size)
  generalize hAe : va_A [] s.heap.size = A at hD hZ ⊢
  have hA : ∀ q : Nat, s.heap.size ≤ q → A q := fun q h => by rw [← hAe]; exact Or.inr h
  have hS : va_S A s.heap s.heap [] := va_S.rf
  have hl := lv_entry ([.ref G.2.1]) (n := 1) (Nat.le_of_ble_eq_true rfl)
  rw [lg_entry_eq]
  generalize (lg_sl ([.ref G.2.1]) ++ List.replicate (1 - (lg_sl ([.ref G.2.1])).length) Slot.unset).toArray = ls at hl ⊢
  have hl : lv_has ls 1 [(0, .ref G.2.1)] := hl
  refine va_gets hx hb hZ.2.2.2.2.1 hS hown (hts (.fieldLink RJ0 38 "java/lang/String" "COMPACT_STRINGS" "Z") (by decide +kernel)) (fun _ h9 => h9) dJ0_coder_7d493_0 ?_
  refine lv_if_eq (tgt := 13) hx hb dJ0_coder_7d493_3 (by decide) (fun cc => absurd cc (by decide)) (fun _ => ?_)
  refine lv_aload_n hx hb dJ0_coder_7d493_6 rfl (lv_at hl 0 rfl) ?_
  refine vk_getf hx hb (hZ.2.2.2.2.2.1 0 (by decide)).2.1 hS hown (hts (.fieldLink RJ0 15 "java/lang/String" "coder" "B") (by decide +kernel)) (fun _ h9 => h9) dJ0_coder_7d493_7 ?_
  refine lv_goto (tgt := 14) hx hb dJ0_coder_7d493_10 (by decide) ?_
  exact W.zret (v := 0) hx hb hr rfl (fun t ht hW => ⟨⟨0, (), rfl, rfl, q_RW_mk hP hK hD [] [] rfl rfl (by decide) rfl ht hW.alike⟩, hS.F ht⟩) hS.2.2 dJ0_coder_7d493_14
theorem dJ0_length_8abf5_0 : decode cJ0_length_8abf5 0 = .ok (.aload_n 0, 1) := by decide +kernel
theorem dJ0_length_8abf5_1 : decode cJ0_length_8abf5 1 = .ok (.getfield 9, 3) := by decide +kernel
theorem dJ0_length_8abf5_4 : decode cJ0_length_8abf5 4 = .ok (.arraylength, 1) := by decide +kernel
theorem dJ0_length_8abf5_5 : decode cJ0_length_8abf5 5 = .ok (.aload_n 0, 1) := by decide +kernel
theorem dJ0_length_8abf5_6 : decode cJ0_length_8abf5 6 = .ok (.invokevirtual 335, 3) := by decide +kernel
theorem dJ0_length_8abf5_9 : decode cJ0_length_8abf5 9 = .ok (.ishr, 1) := by decide +kernel
theorem dJ0_length_8abf5_10 : decode cJ0_length_8abf5 10 = .ok (.ireturn, 1) := by decide +kernel
def wzEJ0_length_8abf5 : List Cond := [.code yJ0_length_8abf5 cJ0_length_8abf5 1 (some .int), .fieldLink RJ0 9 "java/lang/String" "value" "[B", .methodLink RJ0 335 yJ0_coder_7d493, .instanceMethod yJ0_coder_7d493, .selects RJ0 yJ0_coder_7d493 yJ0_coder_7d493, .initialized RJ0, .code yJ0_coder_7d493 cJ0_coder_7d493 1 (some .byte), .fieldLink RJ0 38 "java/lang/String" "COMPACT_STRINGS" "Z", .fieldLink RJ0 15 "java/lang/String" "coder" "B"]
def wzJ0_length_8abf5 : List Cond := wzEJ0_length_8abf5 ++ []
theorem zgEJ0_length_8abf5 : wzEJ0_length_8abf5.all goodWord = true := by decide +kernel
theorem gzJ0_length_8abf5_J0_coder_7d493_335 : GoodIn wzJ0_length_8abf5 (wsV RJ0 335 RJ0 yJ0_coder_7d493 wzJ0_coder_7d493) := (goodIn_app (z_lift (goodIn_r _ [2, 3, 4, 5] rfl (by decide +kernel))) (goodIn_app (z_lift (goodIn_r wzEJ0_coder_7d493 [6, 7, 8] rfl zgEJ0_coder_7d493)) z_gnil))
set_option maxHeartbeats 4000000 in
set_option maxRecDepth 100000 in
theorem zc_J0_length_8abf5 (l : Launch) (D : va_G) (G : Nat × Nat × Nat) (sz : Nat) : Met l yJ0_length_8abf5 wzJ0_length_8abf5 ({ frames := 1, cells := 0, slots := 0, locals := 20 }) (va_Pc [.ref G.2.1] (p_RW D G [] [] sz)) (va_Qi (fun (r : Int32) (u : Unit) => r = 4) (fun (u : Unit) (t : State) => q_RW D [] [] (va_A [] sz) t) (va_A [] sz)) 0 0 (va_A [] sz) := by
  refine Met.ofW (cc := cJ0_length_8abf5) (maxL := 1) (ret := (some .int)) (by decide) rfl ?_
  intro p e s m args below meth c s₁ B hml hv
  obtain ⟨rfl, hsz, hP, hK, hD0, hT, hZ⟩ := hv
  have hx := B.exec
  have hb := B.bytes
  have hr := B.returns
  have hts := atoms_spec (ws := wzJ0_length_8abf5) B.pre
  have hown : s.vm.findClass RJ0 = some m.cls := findClass_of_methodNamed B.named
  have hlocks := B.notSynchronized
  subst hsz
  have hD := hD0.self (sz := s.heap.size)
  generalize hAe : va_A [] s.heap.size = A at hD hZ ⊢
  have hA : ∀ q : Nat, s.heap.size ≤ q → A q := fun q h => by rw [← hAe]; exact Or.inr h
  have hS : va_S A s.heap s.heap [] := va_S.rf
  have hl := lv_entry ([.ref G.2.1]) (n := 1) (Nat.le_of_ble_eq_true rfl)
  rw [lg_entry_eq]
  generalize (lg_sl ([.ref G.2.1]) ++ List.replicate (1 - (lg_sl ([.ref G.2.1])).length) Slot.unset).toArray = ls at hl ⊢
  have hl : lv_has ls 1 [(0, .ref G.2.1)] := hl
  refine lv_aload_n hx hb dJ0_length_8abf5_0 rfl (lv_at hl 0 rfl) ?_
  refine vk_getf hx hb (hZ.2.2.2.2.2.1 0 (by decide)).2.2.1 hS hown (hts (.fieldLink RJ0 9 "java/lang/String" "value" "[B") (by decide +kernel)) (fun _ h9 => h9) dJ0_length_8abf5_1 ?_
  refine va_tlen hx hb (hZ.2.2.2.2.2.1 0 (by decide)).2.2.2 hS (v := 4) (by decide) dJ0_length_8abf5_4 ?_
  refine lv_aload_n hx hb dJ0_length_8abf5_5 rfl (lv_at hl 0 rfl) ?_
  have hFc := va_free (wc := []) hD hS hA [] rfl
  refine va_calli (va_runV (As := []) (rest := [.int 4]) ⟨hx, hb, hml, hown, hts⟩ (zc_J0_coder_7d493 l D G s.heap.size) (cwV 0 hts gzJ0_length_8abf5_J0_coder_7d493_335 rfl rfl rfl (by decide +kernel) ⟨(Nat.le_of_ble_eq_true rfl), (Nat.le_of_ble_eq_true rfl)⟩) ⟨p_RW_blind, vk_recv hZ.2.2.2.2.2 (i := 0) (by decide) hS, (p_RW_at (tc := []) (wc := []) hP hK hD hS hA hT hZ [] [] rfl rfl (by decide) rfl [.ref G.2.1])⟩ rfl rfl hl.1 rfl (lv_room (Nat.le_of_ble_eq_true rfl)) dJ0_length_8abf5_6 ⟨(Nat.le_of_ble_eq_true rfl), (Nat.le_of_ble_eq_true rfl)⟩) hS (fun q _ h => hFc q h) hFc (fun r_353 u t H locs ht hvm w_354 hB hz1 hk1 hS => ?_)
  obtain ⟨hP, hD, hK⟩ := q_join (D := D) (wc := []) (wr := []) (w1 := []) (tyr := []) (ty1 := []) hP hD hK [] [] [] rfl rfl (by decide) (by decide) rfl hFc hk1 ht hvm hB
  have hP : va_P D vwCl [] H := hP
  have hD : va_D A [] := hD
  have hK : va_K D vwCl [] s := hK
  obtain rfl := w_354
  refine lv_ishr hx hb dJ0_length_8abf5_9 ?_
  refine lv_topi (fun y_355 ey_355 => ?_)
  have ey_355 : y_355 = 4 := ey_355.trans (by decide +kernel)
  subst ey_355
  exact W.iret (v := 4) hx hb hr (fun t ht hW => ⟨⟨4, (), rfl, rfl, q_RW_mk hP hK hD [] [] rfl rfl (by decide) rfl ht hW.alike⟩, hS.F ht⟩) hS.2.2 dJ0_length_8abf5_10
theorem dJ0_isLatin1_aae02_0 : decode cJ0_isLatin1_aae02 0 = .ok (.getstatic 38, 3) := by decide +kernel
theorem dJ0_isLatin1_aae02_3 : decode cJ0_isLatin1_aae02 3 = .ok (.ifCond .eq 14, 3) := by decide +kernel
theorem dJ0_isLatin1_aae02_6 : decode cJ0_isLatin1_aae02 6 = .ok (.aload_n 0, 1) := by decide +kernel
theorem dJ0_isLatin1_aae02_7 : decode cJ0_isLatin1_aae02 7 = .ok (.getfield 15, 3) := by decide +kernel
theorem dJ0_isLatin1_aae02_10 : decode cJ0_isLatin1_aae02 10 = .ok (.ifCond .ne 7, 3) := by decide +kernel
theorem dJ0_isLatin1_aae02_13 : decode cJ0_isLatin1_aae02 13 = .ok (.iconst 1, 1) := by decide +kernel
theorem dJ0_isLatin1_aae02_14 : decode cJ0_isLatin1_aae02 14 = .ok (.goto 4, 3) := by decide +kernel
theorem dJ0_isLatin1_aae02_18 : decode cJ0_isLatin1_aae02 18 = .ok (.ireturn, 1) := by decide +kernel
def wzEJ0_isLatin1_aae02 : List Cond := [.code yJ0_isLatin1_aae02 cJ0_isLatin1_aae02 1 (some .boolean), .fieldLink RJ0 38 "java/lang/String" "COMPACT_STRINGS" "Z", .fieldLink RJ0 15 "java/lang/String" "coder" "B"]
def wzJ0_isLatin1_aae02 : List Cond := wzEJ0_isLatin1_aae02 ++ []
theorem zgEJ0_isLatin1_aae02 : wzEJ0_isLatin1_aae02.all goodWord = true := by decide +kernel
set_option maxHeartbeats 4000000 in
set_option maxRecDepth 100000 in
theorem zc_J0_isLatin1_aae02 (l : Launch) (D : va_G) (G : Nat × Nat × Nat) (sz : Nat) : Met l yJ0_isLatin1_aae02 wzJ0_isLatin1_aae02 ({ frames := 0, cells := 0, slots := 0, locals := 0 }) (va_Pc [.ref G.2.1] (p_RW D G [] [] sz)) (va_Qi (fun (r : Int32) (u : Unit) => r = 1) (fun (u : Unit) (t : State) => q_RW D [] [] (va_A [] sz) t) (va_A [] sz)) 0 0 (va_A [] sz) := by
  refine Met.ofW (cc := cJ0_isLatin1_aae02) (maxL := 1) (ret := (some .boolean)) (by decide) rfl ?_
  intro p e s m args below meth c s₁ B hml hv
  obtain ⟨rfl, hsz, hP, hK, hD0, hT, hZ⟩ := hv
  have hx := B.exec
  have hb := B.bytes
  have hr := B.returns
  have hts := atoms_spec (ws := wzJ0_isLatin1_aae02) B.pre
  have hown : s.vm.findClass RJ0 = some m.cls := findClass_of_methodNamed B.named
  have hlocks := B.notSynchronized
  subst hsz
  have hD := hD0.self (sz := s.heap.size)
  generalize hAe : va_A [] s.heap.size = A at hD hZ ⊢
  have hA : ∀ q : Nat, s.heap.size ≤ q → A q := fun q h => by rw [← hAe]; exact Or.inr h
  have hS : va_S A s.heap s.heap [] := va_S.rf
  have hl := lv_entry ([.ref G.2.1]) (n := 1) (Nat.le_of_ble_eq_true rfl)
  rw [lg_entry_eq]
  generalize (lg_sl ([.ref G.2.1]) ++ List.replicate (1 - (lg_sl ([.ref G.2.1])).length) Slot.unset).toArray = ls at hl ⊢
  have hl : lv_has ls 1 [(0, .ref G.2.1)] := hl
  refine va_gets hx hb hZ.2.2.2.2.1 hS hown (hts (.fieldLink RJ0 38 "java/lang/String" "COMPACT_STRINGS" "Z") (by decide +kernel)) (fun _ h9 => h9) dJ0_isLatin1_aae02_0 ?_
  refine lv_if_eq (tgt := 17) hx hb dJ0_isLatin1_aae02_3 (by decide) (fun cc => absurd cc (by decide)) (fun _ => ?_)
  refine lv_aload_n hx hb dJ0_isLatin1_aae02_6 rfl (lv_at hl 0 rfl) ?_
  refine vk_getf hx hb (hZ.2.2.2.2.2.1 0 (by decide)).2.1 hS hown (hts (.fieldLink RJ0 15 "java/lang/String" "coder" "B") (by decide +kernel)) (fun _ h9 => h9) dJ0_isLatin1_aae02_7 ?_
  refine lv_if_ne (tgt := 17) hx hb dJ0_isLatin1_aae02_10 (by decide) (fun cc => absurd (by decide) cc) (fun _ => ?_)
  refine lv_iconst (v := 1) hx hb dJ0_isLatin1_aae02_13 (by decide) ?_
  refine lv_goto (tgt := 18) hx hb dJ0_isLatin1_aae02_14 (by decide) ?_
  exact W.zret (v := 1) hx hb hr rfl (fun t ht hW => ⟨⟨1, (), rfl, rfl, q_RW_mk hP hK hD [] [] rfl rfl (by decide) rfl ht hW.alike⟩, hS.F ht⟩) hS.2.2 dJ0_isLatin1_aae02_18
theorem dJ1_canEncode_9a6ad_0 : decode cJ1_canEncode_9a6ad 0 = .ok (.iload_n 0, 1) := by decide +kernel
theorem dJ1_canEncode_9a6ad_1 : decode cJ1_canEncode_9a6ad 1 = .ok (.ifCond .lt 14, 3) := by decide +kernel
theorem dJ1_canEncode_9a6ad_15 : decode cJ1_canEncode_9a6ad 15 = .ok (.iconst 0, 1) := by decide +kernel
theorem dJ1_canEncode_9a6ad_16 : decode cJ1_canEncode_9a6ad 16 = .ok (.ireturn, 1) := by decide +kernel
theorem dJ1_canEncode_9a6ad_4 : decode cJ1_canEncode_9a6ad 4 = .ok (.iload_n 0, 1) := by decide +kernel
theorem dJ1_canEncode_9a6ad_5 : decode cJ1_canEncode_9a6ad 5 = .ok (.sipush 255, 3) := by decide +kernel
theorem dJ1_canEncode_9a6ad_8 : decode cJ1_canEncode_9a6ad 8 = .ok (.if_icmp .gt 7, 3) := by decide +kernel
theorem dJ1_canEncode_9a6ad_11 : decode cJ1_canEncode_9a6ad 11 = .ok (.iconst 1, 1) := by decide +kernel
theorem dJ1_canEncode_9a6ad_12 : decode cJ1_canEncode_9a6ad 12 = .ok (.goto 4, 3) := by decide +kernel
def wzEJ1_canEncode_9a6ad : List Cond := [.code yJ1_canEncode_9a6ad cJ1_canEncode_9a6ad 1 (some .boolean)]
def wzJ1_canEncode_9a6ad : List Cond := wzEJ1_canEncode_9a6ad ++ []
theorem zgEJ1_canEncode_9a6ad : wzEJ1_canEncode_9a6ad.all goodWord = true := by decide +kernel
set_option maxHeartbeats 4000000 in
set_option maxRecDepth 100000 in
theorem zc_J1_canEncode_9a6ad (l : Launch) (D : va_G) (G : Nat × Nat × Nat) (ch : Int32) : Met l yJ1_canEncode_9a6ad wzJ1_canEncode_9a6ad ({ frames := 0, cells := 0, slots := 0, locals := 0 }) (va_Pc [.int ch] (p_RO D G [] [])) (vp_Si (fun r => (¬ ch < 0 ∧ ¬ 255 < ch ∧ r = 1) ∨ ((ch < 0 ∨ 255 < ch) ∧ r = 0))) 0 0 (fun _ => False) := by
  refine Met.ofW (cc := cJ1_canEncode_9a6ad) (maxL := 1) (ret := (some .boolean)) (by decide) rfl ?_
  intro p e s m args below meth c s₁ B hml hv
  obtain ⟨rfl, hP, hK, hT⟩ := hv
  have hx := B.exec
  have hb := B.bytes
  have hr := B.returns
  have hts := atoms_spec (ws := wzJ1_canEncode_9a6ad) B.pre
  have hown : s.vm.findClass RJ1 = some m.cls := findClass_of_methodNamed B.named
  have hlocks := B.notSynchronized
  have hl := lv_entry ([.int ch]) (n := 1) (Nat.le_of_ble_eq_true rfl)
  rw [lg_entry_eq]
  generalize (lg_sl ([.int ch]) ++ List.replicate (1 - (lg_sl ([.int ch])).length) Slot.unset).toArray = ls at hl ⊢
  have hl : lv_has ls 1 [(0, .int ch)] := hl
  refine lv_iload_n hx hb dJ1_canEncode_9a6ad_0 rfl (lv_at hl 0 rfl) ?_
  refine lv_if_lt (tgt := 15) hx hb dJ1_canEncode_9a6ad_1 (by decide) (fun c_356 => ?_) (fun c_356 => ?_)
  · refine lv_iconst (v := 0) hx hb dJ1_canEncode_9a6ad_15 (by decide) ?_
    exact W.zret (v := 0) hx hb hr rfl (fun t ht hW => ⟨0, rfl, (Or.inr (⟨(by first | assumption | exact inR_1 (by assumption) (by assumption) | exact inR_2 (by assumption) (by assumption) | exact inR_3 (by assumption) | exact inR_4 (by assumption) | exact inR_5 (by assumption) | exact ⟨by assumption, by assumption, by assumption, by assumption⟩ | exact ⟨by assumption, by assumption, by assumption⟩ | exact (fun q => absurd q.1 (by assumption)) | exact (fun q => absurd q.2.1 (by assumption)) | exact (fun q => absurd q.2.2 (by assumption)) | exact (fun q => absurd q.2.2.1 (by assumption)) | exact (fun q => absurd q.2.2.2 (by assumption)) | exact isRole_no (by assumption) (by assumption) (by assumption) (by assumption) | exact isRole_nb (by assumption) (by assumption) (by assumption) (by assumption) | exact isRole_out (by assumption) | exact enc_use (by assumption) (by assumption) (by assumption) | exact enc_103 (by assumption) | exact enc_103 (Eq.symm (by assumption)) | exact enc_115 (Eq.symm (by assumption)) | exact enc_102 (Eq.symm (by assumption)) | exact enc_98 (Eq.symm (by assumption)) | exact isRole_nc (by assumption) (by assumption) (by assumption) (by assumption) | exact enc_115 (by assumption) | exact enc_102 (by assumption) | exact enc_98 (by assumption) | exact Or.inr (by assumption) | rfl | exact Or.inl (by assumption) | exact Or.inr (Or.inl (by assumption)) | exact Or.inr (Or.inr (Or.inl (by assumption))) | exact Or.inr (Or.inr (Or.inr (by assumption))) | decide), rfl⟩)), ht⟩) (fun q h => by cases h) dJ1_canEncode_9a6ad_16
  · refine lv_iload_n hx hb dJ1_canEncode_9a6ad_4 rfl (lv_at hl 0 rfl) ?_
    refine lv_sipush (v := 255) hx hb dJ1_canEncode_9a6ad_5 (by decide) ?_
    refine lv_icmp_gt (tgt := 15) hx hb dJ1_canEncode_9a6ad_8 (by decide) (fun c_357 => ?_) (fun c_357 => ?_)
    · refine lv_iconst (v := 0) hx hb dJ1_canEncode_9a6ad_15 (by decide) ?_
      exact W.zret (v := 0) hx hb hr rfl (fun t ht hW => ⟨0, rfl, (Or.inr (⟨(by first | assumption | exact inR_1 (by assumption) (by assumption) | exact inR_2 (by assumption) (by assumption) | exact inR_3 (by assumption) | exact inR_4 (by assumption) | exact inR_5 (by assumption) | exact ⟨by assumption, by assumption, by assumption, by assumption⟩ | exact ⟨by assumption, by assumption, by assumption⟩ | exact (fun q => absurd q.1 (by assumption)) | exact (fun q => absurd q.2.1 (by assumption)) | exact (fun q => absurd q.2.2 (by assumption)) | exact (fun q => absurd q.2.2.1 (by assumption)) | exact (fun q => absurd q.2.2.2 (by assumption)) | exact isRole_no (by assumption) (by assumption) (by assumption) (by assumption) | exact isRole_nb (by assumption) (by assumption) (by assumption) (by assumption) | exact isRole_out (by assumption) | exact enc_use (by assumption) (by assumption) (by assumption) | exact enc_103 (by assumption) | exact enc_103 (Eq.symm (by assumption)) | exact enc_115 (Eq.symm (by assumption)) | exact enc_102 (Eq.symm (by assumption)) | exact enc_98 (Eq.symm (by assumption)) | exact isRole_nc (by assumption) (by assumption) (by assumption) (by assumption) | exact enc_115 (by assumption) | exact enc_102 (by assumption) | exact enc_98 (by assumption) | exact Or.inr (by assumption) | rfl | exact Or.inl (by assumption) | exact Or.inr (Or.inl (by assumption)) | exact Or.inr (Or.inr (Or.inl (by assumption))) | exact Or.inr (Or.inr (Or.inr (by assumption))) | decide), rfl⟩)), ht⟩) (fun q h => by cases h) dJ1_canEncode_9a6ad_16
    · refine lv_iconst (v := 1) hx hb dJ1_canEncode_9a6ad_11 (by decide) ?_
      refine lv_goto (tgt := 16) hx hb dJ1_canEncode_9a6ad_12 (by decide) ?_
      exact W.zret (v := 1) hx hb hr rfl (fun t ht hW => ⟨1, rfl, (Or.inl (⟨(by first | assumption | exact inR_1 (by assumption) (by assumption) | exact inR_2 (by assumption) (by assumption) | exact inR_3 (by assumption) | exact inR_4 (by assumption) | exact inR_5 (by assumption) | exact ⟨by assumption, by assumption, by assumption, by assumption⟩ | exact ⟨by assumption, by assumption, by assumption⟩ | exact (fun q => absurd q.1 (by assumption)) | exact (fun q => absurd q.2.1 (by assumption)) | exact (fun q => absurd q.2.2 (by assumption)) | exact (fun q => absurd q.2.2.1 (by assumption)) | exact (fun q => absurd q.2.2.2 (by assumption)) | exact isRole_no (by assumption) (by assumption) (by assumption) (by assumption) | exact isRole_nb (by assumption) (by assumption) (by assumption) (by assumption) | exact isRole_out (by assumption) | exact enc_use (by assumption) (by assumption) (by assumption) | exact enc_103 (by assumption) | exact enc_103 (Eq.symm (by assumption)) | exact enc_115 (Eq.symm (by assumption)) | exact enc_102 (Eq.symm (by assumption)) | exact enc_98 (Eq.symm (by assumption)) | exact isRole_nc (by assumption) (by assumption) (by assumption) (by assumption) | exact enc_115 (by assumption) | exact enc_102 (by assumption) | exact enc_98 (by assumption) | exact Or.inr (by assumption) | rfl | exact Or.inl (by assumption) | exact Or.inr (Or.inl (by assumption)) | exact Or.inr (Or.inr (Or.inl (by assumption))) | exact Or.inr (Or.inr (Or.inr (by assumption))) | decide), (by first | assumption | exact inR_1 (by assumption) (by assumption) | exact inR_2 (by assumption) (by assumption) | exact inR_3 (by assumption) | exact inR_4 (by assumption) | exact inR_5 (by assumption) | exact ⟨by assumption, by assumption, by assumption, by assumption⟩ | exact ⟨by assumption, by assumption, by assumption⟩ | exact (fun q => absurd q.1 (by assumption)) | exact (fun q => absurd q.2.1 (by assumption)) | exact (fun q => absurd q.2.2 (by assumption)) | exact (fun q => absurd q.2.2.1 (by assumption)) | exact (fun q => absurd q.2.2.2 (by assumption)) | exact isRole_no (by assumption) (by assumption) (by assumption) (by assumption) | exact isRole_nb (by assumption) (by assumption) (by assumption) (by assumption) | exact isRole_out (by assumption) | exact enc_use (by assumption) (by assumption) (by assumption) | exact enc_103 (by assumption) | exact enc_103 (Eq.symm (by assumption)) | exact enc_115 (Eq.symm (by assumption)) | exact enc_102 (Eq.symm (by assumption)) | exact enc_98 (Eq.symm (by assumption)) | exact isRole_nc (by assumption) (by assumption) (by assumption) (by assumption) | exact enc_115 (by assumption) | exact enc_102 (by assumption) | exact enc_98 (by assumption) | exact Or.inr (by assumption) | rfl | exact Or.inl (by assumption) | exact Or.inr (Or.inl (by assumption)) | exact Or.inr (Or.inr (Or.inl (by assumption))) | exact Or.inr (Or.inr (Or.inr (by assumption))) | decide), rfl⟩)), ht⟩) (fun q h => by cases h) dJ1_canEncode_9a6ad_16
theorem dJ1_indexOfChar_4cfef_0 : decode cJ1_indexOfChar_4cfef 0 = .ok (.iload_n 1, 1) := by decide +kernel
theorem dJ1_indexOfChar_4cfef_1 : decode cJ1_indexOfChar_4cfef 1 = .ok (.i2b, 1) := by decide +kernel
theorem dJ1_indexOfChar_4cfef_2 : decode cJ1_indexOfChar_4cfef 2 = .ok (.istore 4, 2) := by decide +kernel
theorem dJ1_indexOfChar_4cfef_4 : decode cJ1_indexOfChar_4cfef 4 = .ok (.iload_n 2, 1) := by decide +kernel
theorem dJ1_indexOfChar_4cfef_5 : decode cJ1_indexOfChar_4cfef 5 = .ok (.istore 5, 2) := by decide +kernel
theorem dJ1_indexOfChar_4cfef_7 : decode cJ1_indexOfChar_4cfef 7 = .ok (.iload 5, 2) := by decide +kernel
theorem dJ1_indexOfChar_4cfef_9 : decode cJ1_indexOfChar_4cfef 9 = .ok (.iload_n 3, 1) := by decide +kernel
theorem dJ1_indexOfChar_4cfef_10 : decode cJ1_indexOfChar_4cfef 10 = .ok (.if_icmp .ge 21, 3) := by decide +kernel
theorem dJ1_indexOfChar_4cfef_13 : decode cJ1_indexOfChar_4cfef 13 = .ok (.aload_n 0, 1) := by decide +kernel
theorem dJ1_indexOfChar_4cfef_14 : decode cJ1_indexOfChar_4cfef 14 = .ok (.iload 5, 2) := by decide +kernel
theorem dJ1_indexOfChar_4cfef_16 : decode cJ1_indexOfChar_4cfef 16 = .ok (.baload, 1) := by decide +kernel
theorem dJ1_indexOfChar_4cfef_17 : decode cJ1_indexOfChar_4cfef 17 = .ok (.iload 4, 2) := by decide +kernel
theorem dJ1_indexOfChar_4cfef_19 : decode cJ1_indexOfChar_4cfef 19 = .ok (.if_icmp .ne 6, 3) := by decide +kernel
theorem dJ1_indexOfChar_4cfef_25 : decode cJ1_indexOfChar_4cfef 25 = .ok (.iinc 5 1, 3) := by decide +kernel
theorem dJ1_indexOfChar_4cfef_28 : decode cJ1_indexOfChar_4cfef 28 = .ok (.goto (-21), 3) := by decide +kernel
theorem dJ1_indexOfChar_4cfef_31 : decode cJ1_indexOfChar_4cfef 31 = .ok (.iconst (-1), 1) := by decide +kernel
theorem dJ1_indexOfChar_4cfef_32 : decode cJ1_indexOfChar_4cfef 32 = .ok (.ireturn, 1) := by decide +kernel
theorem dJ1_indexOfChar_4cfef_22 : decode cJ1_indexOfChar_4cfef 22 = .ok (.iload 5, 2) := by decide +kernel
theorem dJ1_indexOfChar_4cfef_24 : decode cJ1_indexOfChar_4cfef 24 = .ok (.ireturn, 1) := by decide +kernel
def wzEJ1_indexOfChar_4cfef : List Cond := [.code yJ1_indexOfChar_4cfef cJ1_indexOfChar_4cfef 6 (some .int)]
def wzJ1_indexOfChar_4cfef : List Cond := wzEJ1_indexOfChar_4cfef ++ []
theorem zgEJ1_indexOfChar_4cfef : wzEJ1_indexOfChar_4cfef.all goodWord = true := by decide +kernel
set_option maxHeartbeats 4000000 in
set_option maxRecDepth 100000 in
theorem zc_J1_indexOfChar_4cfef (l : Launch) (D : va_G) (G : Nat × Nat × Nat) (ch : Int32) (sz : Nat) : Met l yJ1_indexOfChar_4cfef wzJ1_indexOfChar_4cfef ({ frames := 0, cells := 0, slots := 0, locals := 0 }) (va_Pc [.ref G.2.2, .int ch, .int 0, .int 4] (p_RW D G [] [] sz)) (va_Qi (fun (r : Int32) (u : Unit) => (enc ch 103 ∧ r = 0) ∨ (enc ch 115 ∧ r = 1) ∨ (enc ch 102 ∧ r = 2) ∨ (enc ch 98 ∧ r = 3) ∨ (¬ isRole ch ∧ r = (-1))) (fun (u : Unit) (t : State) => q_RW D [] [] (va_A [] sz) t) (va_A [] sz)) 0 0 (va_A [] sz) := by
  refine Met.ofW (cc := cJ1_indexOfChar_4cfef) (maxL := 6) (ret := (some .int)) (by decide) rfl ?_
  intro p e s m args below meth c s₁ B hml hv
  obtain ⟨rfl, hsz, hP, hK, hD0, hT, hZ⟩ := hv
  have hx := B.exec
  have hb := B.bytes
  have hr := B.returns
  have hts := atoms_spec (ws := wzJ1_indexOfChar_4cfef) B.pre
  have hown : s.vm.findClass RJ1 = some m.cls := findClass_of_methodNamed B.named
  have hlocks := B.notSynchronized
  subst hsz
  have hD := hD0.self (sz := s.heap.size)
  generalize hAe : va_A [] s.heap.size = A at hD hZ ⊢
  have hA : ∀ q : Nat, s.heap.size ≤ q → A q := fun q h => by rw [← hAe]; exact Or.inr h
  have hS : va_S A s.heap s.heap [] := va_S.rf
  have hl := lv_entry ([.ref G.2.2, .int ch, .int 0, .int 4]) (n := 6) (Nat.le_of_ble_eq_true rfl)
  rw [lg_entry_eq]
  generalize (lg_sl ([.ref G.2.2, .int ch, .int 0, .int 4]) ++ List.replicate (6 - (lg_sl ([.ref G.2.2, .int ch, .int 0, .int 4])).length) Slot.unset).toArray = ls at hl ⊢
  have hl : lv_has ls 6 [(0, .ref G.2.2), (1, .int ch), (2, .int 0), (3, .int 4)] := hl
  refine lv_iload_n hx hb dJ1_indexOfChar_4cfef_0 rfl (lv_at hl 1 rfl) ?_
  refine lv_i2b hx hb dJ1_indexOfChar_4cfef_1 rfl ?_
  refine lv_istore (lv' := [(4, .int ch.toInt8.toInt32), (0, .ref G.2.2), (1, .int ch), (2, .int 0), (3, .int 4)]) hx hb dJ1_indexOfChar_4cfef_2 hl (by decide) rfl (fun ls hl => ?_)
  refine lv_iload_n hx hb dJ1_indexOfChar_4cfef_4 rfl (lv_at hl 3 rfl) ?_
  refine lv_istore (lv' := [(5, .int 0), (4, .int ch.toInt8.toInt32), (0, .ref G.2.2), (1, .int ch), (2, .int 0), (3, .int 4)]) hx hb dJ1_indexOfChar_4cfef_5 hl (by decide) rfl (fun ls hl => ?_)
  refine lv_iload hx hb dJ1_indexOfChar_4cfef_7 (lv_at hl 0 rfl) ?_
  refine lv_iload_n hx hb dJ1_indexOfChar_4cfef_9 rfl (lv_at hl 5 rfl) ?_
  refine lv_icmp_ge (tgt := 31) hx hb dJ1_indexOfChar_4cfef_10 (by decide) (fun cc => absurd cc (by decide)) (fun _ => ?_)
  refine lv_aload_n hx hb dJ1_indexOfChar_4cfef_13 rfl (lv_at hl 2 rfl) ?_
  refine lv_iload hx hb dJ1_indexOfChar_4cfef_14 (lv_at hl 0 rfl) ?_
  refine va_tb hx hb (hZ.2.2.2.2.2.1 0 (by decide)).2.2.2 hS (vp_in_nI (n := 0) (N := 4) (by decide) (by decide)) (v := .int 103) (by rfl) dJ1_indexOfChar_4cfef_16 ?_
  refine lv_iload hx hb dJ1_indexOfChar_4cfef_17 (lv_at hl 1 rfl) ?_
  refine lv_icmp_ne (tgt := 25) hx hb dJ1_indexOfChar_4cfef_19 (by decide) (fun c_358 => ?_) (fun c_358 => ?_)
  · obtain ⟨x_359, ex_359⟩ : ∃ y : Int32, y = 0 + 1 := ⟨_, rfl⟩
    have ex_359 : x_359 = 1 := ex_359.trans (by decide)
    subst ex_359
    refine lv_iinc (v := 1) (lv' := [(5, .int 1), (4, .int ch.toInt8.toInt32), (0, .ref G.2.2), (1, .int ch), (2, .int 0), (3, .int 4)]) hx hb dJ1_indexOfChar_4cfef_25 hl (k := 0) rfl (by decide) (by decide) rfl (fun ls hl => ?_)
    refine lv_goto (tgt := 7) hx hb dJ1_indexOfChar_4cfef_28 (by decide) ?_
    refine lv_iload hx hb dJ1_indexOfChar_4cfef_7 (lv_at hl 0 rfl) ?_
    refine lv_iload_n hx hb dJ1_indexOfChar_4cfef_9 rfl (lv_at hl 5 rfl) ?_
    refine lv_icmp_ge (tgt := 31) hx hb dJ1_indexOfChar_4cfef_10 (by decide) (fun cc => absurd cc (by decide)) (fun _ => ?_)
    refine lv_aload_n hx hb dJ1_indexOfChar_4cfef_13 rfl (lv_at hl 2 rfl) ?_
    refine lv_iload hx hb dJ1_indexOfChar_4cfef_14 (lv_at hl 0 rfl) ?_
    refine va_tb hx hb (hZ.2.2.2.2.2.1 0 (by decide)).2.2.2 hS (vp_in_nI (n := 1) (N := 4) (by decide) (by decide)) (v := .int 115) (by rfl) dJ1_indexOfChar_4cfef_16 ?_
    refine lv_iload hx hb dJ1_indexOfChar_4cfef_17 (lv_at hl 1 rfl) ?_
    refine lv_icmp_ne (tgt := 25) hx hb dJ1_indexOfChar_4cfef_19 (by decide) (fun c_360 => ?_) (fun c_360 => ?_)
    · obtain ⟨x_361, ex_361⟩ : ∃ y : Int32, y = 1 + 1 := ⟨_, rfl⟩
      have ex_361 : x_361 = 2 := ex_361.trans (by decide)
      subst ex_361
      refine lv_iinc (v := 2) (lv' := [(5, .int 2), (4, .int ch.toInt8.toInt32), (0, .ref G.2.2), (1, .int ch), (2, .int 0), (3, .int 4)]) hx hb dJ1_indexOfChar_4cfef_25 hl (k := 0) rfl (by decide) (by decide) rfl (fun ls hl => ?_)
      refine lv_goto (tgt := 7) hx hb dJ1_indexOfChar_4cfef_28 (by decide) ?_
      refine lv_iload hx hb dJ1_indexOfChar_4cfef_7 (lv_at hl 0 rfl) ?_
      refine lv_iload_n hx hb dJ1_indexOfChar_4cfef_9 rfl (lv_at hl 5 rfl) ?_
      refine lv_icmp_ge (tgt := 31) hx hb dJ1_indexOfChar_4cfef_10 (by decide) (fun cc => absurd cc (by decide)) (fun _ => ?_)
      refine lv_aload_n hx hb dJ1_indexOfChar_4cfef_13 rfl (lv_at hl 2 rfl) ?_
      refine lv_iload hx hb dJ1_indexOfChar_4cfef_14 (lv_at hl 0 rfl) ?_
      refine va_tb hx hb (hZ.2.2.2.2.2.1 0 (by decide)).2.2.2 hS (vp_in_nI (n := 2) (N := 4) (by decide) (by decide)) (v := .int 102) (by rfl) dJ1_indexOfChar_4cfef_16 ?_
      refine lv_iload hx hb dJ1_indexOfChar_4cfef_17 (lv_at hl 1 rfl) ?_
      refine lv_icmp_ne (tgt := 25) hx hb dJ1_indexOfChar_4cfef_19 (by decide) (fun c_362 => ?_) (fun c_362 => ?_)
      · obtain ⟨x_363, ex_363⟩ : ∃ y : Int32, y = 2 + 1 := ⟨_, rfl⟩
        have ex_363 : x_363 = 3 := ex_363.trans (by decide)
        subst ex_363
        refine lv_iinc (v := 3) (lv' := [(5, .int 3), (4, .int ch.toInt8.toInt32), (0, .ref G.2.2), (1, .int ch), (2, .int 0), (3, .int 4)]) hx hb dJ1_indexOfChar_4cfef_25 hl (k := 0) rfl (by decide) (by decide) rfl (fun ls hl => ?_)
        refine lv_goto (tgt := 7) hx hb dJ1_indexOfChar_4cfef_28 (by decide) ?_
        refine lv_iload hx hb dJ1_indexOfChar_4cfef_7 (lv_at hl 0 rfl) ?_
        refine lv_iload_n hx hb dJ1_indexOfChar_4cfef_9 rfl (lv_at hl 5 rfl) ?_
        refine lv_icmp_ge (tgt := 31) hx hb dJ1_indexOfChar_4cfef_10 (by decide) (fun cc => absurd cc (by decide)) (fun _ => ?_)
        refine lv_aload_n hx hb dJ1_indexOfChar_4cfef_13 rfl (lv_at hl 2 rfl) ?_
        refine lv_iload hx hb dJ1_indexOfChar_4cfef_14 (lv_at hl 0 rfl) ?_
        refine va_tb hx hb (hZ.2.2.2.2.2.1 0 (by decide)).2.2.2 hS (vp_in_nI (n := 3) (N := 4) (by decide) (by decide)) (v := .int 98) (by rfl) dJ1_indexOfChar_4cfef_16 ?_
        refine lv_iload hx hb dJ1_indexOfChar_4cfef_17 (lv_at hl 1 rfl) ?_
        refine lv_icmp_ne (tgt := 25) hx hb dJ1_indexOfChar_4cfef_19 (by decide) (fun c_364 => ?_) (fun c_364 => ?_)
        · obtain ⟨x_365, ex_365⟩ : ∃ y : Int32, y = 3 + 1 := ⟨_, rfl⟩
          have ex_365 : x_365 = 4 := ex_365.trans (by decide)
          subst ex_365
          refine lv_iinc (v := 4) (lv' := [(5, .int 4), (4, .int ch.toInt8.toInt32), (0, .ref G.2.2), (1, .int ch), (2, .int 0), (3, .int 4)]) hx hb dJ1_indexOfChar_4cfef_25 hl (k := 0) rfl (by decide) (by decide) rfl (fun ls hl => ?_)
          refine lv_goto (tgt := 7) hx hb dJ1_indexOfChar_4cfef_28 (by decide) ?_
          refine lv_iload hx hb dJ1_indexOfChar_4cfef_7 (lv_at hl 0 rfl) ?_
          refine lv_iload_n hx hb dJ1_indexOfChar_4cfef_9 rfl (lv_at hl 5 rfl) ?_
          refine lv_icmp_ge (tgt := 31) hx hb dJ1_indexOfChar_4cfef_10 (by decide) (fun _ => ?_) (fun cc => absurd (by decide) cc)
          refine lv_iconst (v := (-1)) hx hb dJ1_indexOfChar_4cfef_31 (by decide) ?_
          exact W.iret (v := (-1)) hx hb hr (fun t ht hW => ⟨⟨(-1), (), rfl, (Or.inr (Or.inr (Or.inr (Or.inr (⟨(by first | assumption | exact inR_1 (by assumption) (by assumption) | exact inR_2 (by assumption) (by assumption) | exact inR_3 (by assumption) | exact inR_4 (by assumption) | exact inR_5 (by assumption) | exact ⟨by assumption, by assumption, by assumption, by assumption⟩ | exact ⟨by assumption, by assumption, by assumption⟩ | exact (fun q => absurd q.1 (by assumption)) | exact (fun q => absurd q.2.1 (by assumption)) | exact (fun q => absurd q.2.2 (by assumption)) | exact (fun q => absurd q.2.2.1 (by assumption)) | exact (fun q => absurd q.2.2.2 (by assumption)) | exact isRole_no (by assumption) (by assumption) (by assumption) (by assumption) | exact isRole_nb (by assumption) (by assumption) (by assumption) (by assumption) | exact isRole_out (by assumption) | exact enc_use (by assumption) (by assumption) (by assumption) | exact enc_103 (by assumption) | exact enc_103 (Eq.symm (by assumption)) | exact enc_115 (Eq.symm (by assumption)) | exact enc_102 (Eq.symm (by assumption)) | exact enc_98 (Eq.symm (by assumption)) | exact isRole_nc (by assumption) (by assumption) (by assumption) (by assumption) | exact enc_115 (by assumption) | exact enc_102 (by assumption) | exact enc_98 (by assumption) | exact Or.inr (by assumption) | rfl | exact Or.inl (by assumption) | exact Or.inr (Or.inl (by assumption)) | exact Or.inr (Or.inr (Or.inl (by assumption))) | exact Or.inr (Or.inr (Or.inr (by assumption))) | decide), rfl⟩))))), q_RW_mk hP hK hD [] [] rfl rfl (by decide) rfl ht hW.alike⟩, hS.F ht⟩) hS.2.2 dJ1_indexOfChar_4cfef_32
        · refine lv_iload hx hb dJ1_indexOfChar_4cfef_22 (lv_at hl 0 rfl) ?_
          exact W.iret (v := 3) hx hb hr (fun t ht hW => ⟨⟨3, (), rfl, (Or.inr (Or.inr (Or.inr (Or.inl (⟨(by first | assumption | exact inR_1 (by assumption) (by assumption) | exact inR_2 (by assumption) (by assumption) | exact inR_3 (by assumption) | exact inR_4 (by assumption) | exact inR_5 (by assumption) | exact ⟨by assumption, by assumption, by assumption, by assumption⟩ | exact ⟨by assumption, by assumption, by assumption⟩ | exact (fun q => absurd q.1 (by assumption)) | exact (fun q => absurd q.2.1 (by assumption)) | exact (fun q => absurd q.2.2 (by assumption)) | exact (fun q => absurd q.2.2.1 (by assumption)) | exact (fun q => absurd q.2.2.2 (by assumption)) | exact isRole_no (by assumption) (by assumption) (by assumption) (by assumption) | exact isRole_nb (by assumption) (by assumption) (by assumption) (by assumption) | exact isRole_out (by assumption) | exact enc_use (by assumption) (by assumption) (by assumption) | exact enc_103 (by assumption) | exact enc_103 (Eq.symm (by assumption)) | exact enc_115 (Eq.symm (by assumption)) | exact enc_102 (Eq.symm (by assumption)) | exact enc_98 (Eq.symm (by assumption)) | exact isRole_nc (by assumption) (by assumption) (by assumption) (by assumption) | exact enc_115 (by assumption) | exact enc_102 (by assumption) | exact enc_98 (by assumption) | exact Or.inr (by assumption) | rfl | exact Or.inl (by assumption) | exact Or.inr (Or.inl (by assumption)) | exact Or.inr (Or.inr (Or.inl (by assumption))) | exact Or.inr (Or.inr (Or.inr (by assumption))) | decide), rfl⟩))))), q_RW_mk hP hK hD [] [] rfl rfl (by decide) rfl ht hW.alike⟩, hS.F ht⟩) hS.2.2 dJ1_indexOfChar_4cfef_24
      · refine lv_iload hx hb dJ1_indexOfChar_4cfef_22 (lv_at hl 0 rfl) ?_
        exact W.iret (v := 2) hx hb hr (fun t ht hW => ⟨⟨2, (), rfl, (Or.inr (Or.inr (Or.inl (⟨(by first | assumption | exact inR_1 (by assumption) (by assumption) | exact inR_2 (by assumption) (by assumption) | exact inR_3 (by assumption) | exact inR_4 (by assumption) | exact inR_5 (by assumption) | exact ⟨by assumption, by assumption, by assumption, by assumption⟩ | exact ⟨by assumption, by assumption, by assumption⟩ | exact (fun q => absurd q.1 (by assumption)) | exact (fun q => absurd q.2.1 (by assumption)) | exact (fun q => absurd q.2.2 (by assumption)) | exact (fun q => absurd q.2.2.1 (by assumption)) | exact (fun q => absurd q.2.2.2 (by assumption)) | exact isRole_no (by assumption) (by assumption) (by assumption) (by assumption) | exact isRole_nb (by assumption) (by assumption) (by assumption) (by assumption) | exact isRole_out (by assumption) | exact enc_use (by assumption) (by assumption) (by assumption) | exact enc_103 (by assumption) | exact enc_103 (Eq.symm (by assumption)) | exact enc_115 (Eq.symm (by assumption)) | exact enc_102 (Eq.symm (by assumption)) | exact enc_98 (Eq.symm (by assumption)) | exact isRole_nc (by assumption) (by assumption) (by assumption) (by assumption) | exact enc_115 (by assumption) | exact enc_102 (by assumption) | exact enc_98 (by assumption) | exact Or.inr (by assumption) | rfl | exact Or.inl (by assumption) | exact Or.inr (Or.inl (by assumption)) | exact Or.inr (Or.inr (Or.inl (by assumption))) | exact Or.inr (Or.inr (Or.inr (by assumption))) | decide), rfl⟩)))), q_RW_mk hP hK hD [] [] rfl rfl (by decide) rfl ht hW.alike⟩, hS.F ht⟩) hS.2.2 dJ1_indexOfChar_4cfef_24
    · refine lv_iload hx hb dJ1_indexOfChar_4cfef_22 (lv_at hl 0 rfl) ?_
      exact W.iret (v := 1) hx hb hr (fun t ht hW => ⟨⟨1, (), rfl, (Or.inr (Or.inl (⟨(by first | assumption | exact inR_1 (by assumption) (by assumption) | exact inR_2 (by assumption) (by assumption) | exact inR_3 (by assumption) | exact inR_4 (by assumption) | exact inR_5 (by assumption) | exact ⟨by assumption, by assumption, by assumption, by assumption⟩ | exact ⟨by assumption, by assumption, by assumption⟩ | exact (fun q => absurd q.1 (by assumption)) | exact (fun q => absurd q.2.1 (by assumption)) | exact (fun q => absurd q.2.2 (by assumption)) | exact (fun q => absurd q.2.2.1 (by assumption)) | exact (fun q => absurd q.2.2.2 (by assumption)) | exact isRole_no (by assumption) (by assumption) (by assumption) (by assumption) | exact isRole_nb (by assumption) (by assumption) (by assumption) (by assumption) | exact isRole_out (by assumption) | exact enc_use (by assumption) (by assumption) (by assumption) | exact enc_103 (by assumption) | exact enc_103 (Eq.symm (by assumption)) | exact enc_115 (Eq.symm (by assumption)) | exact enc_102 (Eq.symm (by assumption)) | exact enc_98 (Eq.symm (by assumption)) | exact isRole_nc (by assumption) (by assumption) (by assumption) (by assumption) | exact enc_115 (by assumption) | exact enc_102 (by assumption) | exact enc_98 (by assumption) | exact Or.inr (by assumption) | rfl | exact Or.inl (by assumption) | exact Or.inr (Or.inl (by assumption)) | exact Or.inr (Or.inr (Or.inl (by assumption))) | exact Or.inr (Or.inr (Or.inr (by assumption))) | decide), rfl⟩))), q_RW_mk hP hK hD [] [] rfl rfl (by decide) rfl ht hW.alike⟩, hS.F ht⟩) hS.2.2 dJ1_indexOfChar_4cfef_24
  · refine lv_iload hx hb dJ1_indexOfChar_4cfef_22 (lv_at hl 0 rfl) ?_
    exact W.iret (v := 0) hx hb hr (fun t ht hW => ⟨⟨0, (), rfl, (Or.inl (⟨(by first | assumption | exact inR_1 (by assumption) (by assumption) | exact inR_2 (by assumption) (by assumption) | exact inR_3 (by assumption) | exact inR_4 (by assumption) | exact inR_5 (by assumption) | exact ⟨by assumption, by assumption, by assumption, by assumption⟩ | exact ⟨by assumption, by assumption, by assumption⟩ | exact (fun q => absurd q.1 (by assumption)) | exact (fun q => absurd q.2.1 (by assumption)) | exact (fun q => absurd q.2.2 (by assumption)) | exact (fun q => absurd q.2.2.1 (by assumption)) | exact (fun q => absurd q.2.2.2 (by assumption)) | exact isRole_no (by assumption) (by assumption) (by assumption) (by assumption) | exact isRole_nb (by assumption) (by assumption) (by assumption) (by assumption) | exact isRole_out (by assumption) | exact enc_use (by assumption) (by assumption) (by assumption) | exact enc_103 (by assumption) | exact enc_103 (Eq.symm (by assumption)) | exact enc_115 (Eq.symm (by assumption)) | exact enc_102 (Eq.symm (by assumption)) | exact enc_98 (Eq.symm (by assumption)) | exact isRole_nc (by assumption) (by assumption) (by assumption) (by assumption) | exact enc_115 (by assumption) | exact enc_102 (by assumption) | exact enc_98 (by assumption) | exact Or.inr (by assumption) | rfl | exact Or.inl (by assumption) | exact Or.inr (Or.inl (by assumption)) | exact Or.inr (Or.inr (Or.inl (by assumption))) | exact Or.inr (Or.inr (Or.inr (by assumption))) | decide), rfl⟩)), q_RW_mk hP hK hD [] [] rfl rfl (by decide) rfl ht hW.alike⟩, hS.F ht⟩) hS.2.2 dJ1_indexOfChar_4cfef_24
theorem dJ1_indexOf_4cfef_0 : decode cJ1_indexOf_4cfef 0 = .ok (.iload_n 1, 1) := by decide +kernel
theorem dJ1_indexOf_4cfef_1 : decode cJ1_indexOf_4cfef 1 = .ok (.invokestatic 88, 3) := by decide +kernel
theorem dJ1_indexOf_4cfef_4 : decode cJ1_indexOf_4cfef 4 = .ok (.ifCond .ne 5, 3) := by decide +kernel
theorem dJ1_indexOf_4cfef_9 : decode cJ1_indexOf_4cfef 9 = .ok (.iload_n 2, 1) := by decide +kernel
theorem dJ1_indexOf_4cfef_10 : decode cJ1_indexOf_4cfef 10 = .ok (.iconst 0, 1) := by decide +kernel
theorem dJ1_indexOf_4cfef_11 : decode cJ1_indexOf_4cfef 11 = .ok (.invokestatic 92, 3) := by decide +kernel
theorem dJ1_indexOf_4cfef_14 : decode cJ1_indexOf_4cfef 14 = .ok (.istore_n 2, 1) := by decide +kernel
theorem dJ1_indexOf_4cfef_15 : decode cJ1_indexOf_4cfef 15 = .ok (.iload_n 3, 1) := by decide +kernel
theorem dJ1_indexOf_4cfef_16 : decode cJ1_indexOf_4cfef 16 = .ok (.aload_n 0, 1) := by decide +kernel
theorem dJ1_indexOf_4cfef_17 : decode cJ1_indexOf_4cfef 17 = .ok (.arraylength, 1) := by decide +kernel
theorem dJ1_indexOf_4cfef_18 : decode cJ1_indexOf_4cfef 18 = .ok (.invokestatic 38, 3) := by decide +kernel
theorem dJ1_indexOf_4cfef_21 : decode cJ1_indexOf_4cfef 21 = .ok (.istore_n 3, 1) := by decide +kernel
theorem dJ1_indexOf_4cfef_22 : decode cJ1_indexOf_4cfef 22 = .ok (.iload_n 2, 1) := by decide +kernel
theorem dJ1_indexOf_4cfef_23 : decode cJ1_indexOf_4cfef 23 = .ok (.iload_n 3, 1) := by decide +kernel
theorem dJ1_indexOf_4cfef_24 : decode cJ1_indexOf_4cfef 24 = .ok (.if_icmp .lt 5, 3) := by decide +kernel
theorem dJ1_indexOf_4cfef_29 : decode cJ1_indexOf_4cfef 29 = .ok (.aload_n 0, 1) := by decide +kernel
theorem dJ1_indexOf_4cfef_30 : decode cJ1_indexOf_4cfef 30 = .ok (.iload_n 1, 1) := by decide +kernel
theorem dJ1_indexOf_4cfef_31 : decode cJ1_indexOf_4cfef 31 = .ok (.iload_n 2, 1) := by decide +kernel
theorem dJ1_indexOf_4cfef_32 : decode cJ1_indexOf_4cfef 32 = .ok (.iload_n 3, 1) := by decide +kernel
theorem dJ1_indexOf_4cfef_33 : decode cJ1_indexOf_4cfef 33 = .ok (.invokestatic 95, 3) := by decide +kernel
theorem dJ1_indexOf_4cfef_36 : decode cJ1_indexOf_4cfef 36 = .ok (.ireturn, 1) := by decide +kernel
theorem dJ1_indexOf_4cfef_7 : decode cJ1_indexOf_4cfef 7 = .ok (.iconst (-1), 1) := by decide +kernel
theorem dJ1_indexOf_4cfef_8 : decode cJ1_indexOf_4cfef 8 = .ok (.ireturn, 1) := by decide +kernel
def wzEJ1_indexOf_4cfef : List Cond := [.code yJ1_indexOf_4cfef cJ1_indexOf_4cfef 4 (some .int), .methodLink RJ1 88 yJ1_canEncode_9a6ad, .static yJ1_canEncode_9a6ad, .initialized RJ1, .code yJ1_canEncode_9a6ad cJ1_canEncode_9a6ad 1 (some .boolean), .methodLink RJ1 92 Lib.Math.max.name, .static Lib.Math.max.name, .initialized "java/lang/Math", .code Lib.Math.max.name Lib.Math.max.code 2 (some .int), .methodLink RJ1 38 Lib.Math.min.name, .static Lib.Math.min.name, .code Lib.Math.min.name Lib.Math.min.code 2 (some .int), .methodLink RJ1 95 yJ1_indexOfChar_4cfef, .static yJ1_indexOfChar_4cfef, .code yJ1_indexOfChar_4cfef cJ1_indexOfChar_4cfef 6 (some .int)]
def wzJ1_indexOf_4cfef : List Cond := wzEJ1_indexOf_4cfef ++ []
theorem zgEJ1_indexOf_4cfef : wzEJ1_indexOf_4cfef.all goodWord = true := by decide +kernel
theorem gzJ1_indexOf_4cfef_J1_canEncode_9a6ad_88 : GoodIn wzJ1_indexOf_4cfef (va_wsS RJ1 88 yJ1_canEncode_9a6ad wzJ1_canEncode_9a6ad) := (goodIn_app (z_lift (goodIn_r _ [1, 2, 3] rfl (by decide +kernel))) (goodIn_app (z_lift (goodIn_r wzEJ1_canEncode_9a6ad [4] rfl zgEJ1_canEncode_9a6ad)) z_gnil))
theorem gzJ1_indexOf_4cfef_J1_indexOfChar_4cfef_95 : GoodIn wzJ1_indexOf_4cfef (va_wsS RJ1 95 yJ1_indexOfChar_4cfef wzJ1_indexOfChar_4cfef) := (goodIn_app (z_lift (goodIn_r _ [12, 13, 3] rfl (by decide +kernel))) (goodIn_app (z_lift (goodIn_r wzEJ1_indexOfChar_4cfef [14] rfl zgEJ1_indexOfChar_4cfef)) z_gnil))
set_option maxHeartbeats 4000000 in
set_option maxRecDepth 100000 in
theorem zc_J1_indexOf_4cfef (l : Launch) (D : va_G) (G : Nat × Nat × Nat) (ch : Int32) (sz : Nat) : Met l yJ1_indexOf_4cfef wzJ1_indexOf_4cfef ({ frames := 1, cells := 0, slots := 0, locals := 25 }) (va_Pc [.ref G.2.2, .int ch, .int 0, .int 4] (p_RW D G [] [] sz)) (va_Qi (fun (r : Int32) (u : Unit) => (ch = 103 ∧ r = 0) ∨ (ch = 115 ∧ r = 1) ∨ (ch = 102 ∧ r = 2) ∨ (ch = 98 ∧ r = 3) ∨ (¬ isRole ch ∧ r = (-1))) (fun (u : Unit) (t : State) => q_RW D [] [] (va_A [] sz) t) (va_A [] sz)) 0 0 (va_A [] sz) := by
  refine Met.ofW (cc := cJ1_indexOf_4cfef) (maxL := 4) (ret := (some .int)) (by decide) rfl ?_
  intro p e s m args below meth c s₁ B hml hv
  obtain ⟨rfl, hsz, hP, hK, hD0, hT, hZ⟩ := hv
  have hx := B.exec
  have hb := B.bytes
  have hr := B.returns
  have hts := atoms_spec (ws := wzJ1_indexOf_4cfef) B.pre
  have hown : s.vm.findClass RJ1 = some m.cls := findClass_of_methodNamed B.named
  have hlocks := B.notSynchronized
  subst hsz
  have hD := hD0.self (sz := s.heap.size)
  generalize hAe : va_A [] s.heap.size = A at hD hZ ⊢
  have hA : ∀ q : Nat, s.heap.size ≤ q → A q := fun q h => by rw [← hAe]; exact Or.inr h
  have hS : va_S A s.heap s.heap [] := va_S.rf
  have hl := lv_entry ([.ref G.2.2, .int ch, .int 0, .int 4]) (n := 4) (Nat.le_of_ble_eq_true rfl)
  rw [lg_entry_eq]
  generalize (lg_sl ([.ref G.2.2, .int ch, .int 0, .int 4]) ++ List.replicate (4 - (lg_sl ([.ref G.2.2, .int ch, .int 0, .int 4])).length) Slot.unset).toArray = ls at hl ⊢
  have hl : lv_has ls 4 [(0, .ref G.2.2), (1, .int ch), (2, .int 0), (3, .int 4)] := hl
  refine lv_iload_n hx hb dJ1_indexOf_4cfef_0 rfl (lv_at hl 1 rfl) ?_
  refine vp_callSi (va_runS (As := [.int ch]) (rest := []) ⟨hx, hb, hml, hown, hts⟩ (zc_J1_canEncode_9a6ad l D G ch) (cwS 1 hts gzJ1_indexOf_4cfef_J1_canEncode_9a6ad_88 rfl rfl rfl (by decide +kernel) ⟨(Nat.le_of_ble_eq_true rfl), (Nat.le_of_ble_eq_true rfl)⟩) ⟨p_RO_blind, (p_RO_at (tc := []) (wc := []) hP hK hT [] [] rfl rfl [.int ch])⟩ rfl rfl hl.1 rfl (lv_room (Nat.le_of_ble_eq_true rfl)) dJ1_indexOf_4cfef_1 ⟨(Nat.le_of_ble_eq_true rfl), (Nat.le_of_ble_eq_true rfl)⟩).run (fun r_366 w_367 => ?_)
  rcases w_367 with ⟨c_368, c_369, rfl⟩ | ⟨c_370, rfl⟩
  · refine lv_if_ne (tgt := 9) hx hb dJ1_indexOf_4cfef_4 (by decide) (fun _ => ?_) (fun cc => absurd cc (by decide))
    refine lv_iload_n hx hb dJ1_indexOf_4cfef_9 rfl (lv_at hl 2 rfl) ?_
    refine lv_iconst (v := 0) hx hb dJ1_indexOf_4cfef_10 (by decide) ?_
    refine va_mmax hx hb (hml.trans hl.1.symm) hown (hts (.methodLink RJ1 92 Lib.Math.max.name) (by decide +kernel)) (hts (.static Lib.Math.max.name) (by decide +kernel)) (hts (.initialized "java/lang/Math") (by decide +kernel)) (hts (.code Lib.Math.max.name Lib.Math.max.code 2 (some .int)) (by decide +kernel)) (Nat.le_of_ble_eq_true rfl) (Nat.le_of_ble_eq_true rfl) (Nat.le_of_ble_eq_true rfl) (Nat.le_of_ble_eq_true rfl) dJ1_indexOf_4cfef_11 ?_
    refine lv_topi (fun y_371 ey_371 => ?_)
    have ey_371 : y_371 = 0 := ey_371.trans (by decide +kernel)
    subst ey_371
    refine lv_istore_n (lv' := [(2, .int 0), (0, .ref G.2.2), (1, .int ch), (3, .int 4)]) hx hb dJ1_indexOf_4cfef_14 rfl hl (by decide) rfl (fun ls hl => ?_)
    refine lv_iload_n hx hb dJ1_indexOf_4cfef_15 rfl (lv_at hl 3 rfl) ?_
    refine lv_aload_n hx hb dJ1_indexOf_4cfef_16 rfl (lv_at hl 1 rfl) ?_
    refine va_tlen hx hb (hZ.2.2.2.2.2.1 0 (by decide)).2.2.2 hS (v := 4) (by decide) dJ1_indexOf_4cfef_17 ?_
    refine va_mmin hx hb (hml.trans hl.1.symm) hown (hts (.methodLink RJ1 38 Lib.Math.min.name) (by decide +kernel)) (hts (.static Lib.Math.min.name) (by decide +kernel)) (hts (.initialized "java/lang/Math") (by decide +kernel)) (hts (.code Lib.Math.min.name Lib.Math.min.code 2 (some .int)) (by decide +kernel)) (Nat.le_of_ble_eq_true rfl) (Nat.le_of_ble_eq_true rfl) (Nat.le_of_ble_eq_true rfl) (Nat.le_of_ble_eq_true rfl) dJ1_indexOf_4cfef_18 ?_
    refine lv_topi (fun y_372 ey_372 => ?_)
    have ey_372 : y_372 = 4 := ey_372.trans (by decide +kernel)
    subst ey_372
    refine lv_istore_n (lv' := [(3, .int 4), (2, .int 0), (0, .ref G.2.2), (1, .int ch)]) hx hb dJ1_indexOf_4cfef_21 rfl hl (by decide) rfl (fun ls hl => ?_)
    refine lv_iload_n hx hb dJ1_indexOf_4cfef_22 rfl (lv_at hl 1 rfl) ?_
    refine lv_iload_n hx hb dJ1_indexOf_4cfef_23 rfl (lv_at hl 0 rfl) ?_
    refine lv_icmp_lt (tgt := 29) hx hb dJ1_indexOf_4cfef_24 (by decide) (fun _ => ?_) (fun cc => absurd (by decide) cc)
    refine lv_aload_n hx hb dJ1_indexOf_4cfef_29 rfl (lv_at hl 2 rfl) ?_
    refine lv_iload_n hx hb dJ1_indexOf_4cfef_30 rfl (lv_at hl 3 rfl) ?_
    refine lv_iload_n hx hb dJ1_indexOf_4cfef_31 rfl (lv_at hl 1 rfl) ?_
    refine lv_iload_n hx hb dJ1_indexOf_4cfef_32 rfl (lv_at hl 0 rfl) ?_
    have hFc := va_free (wc := []) hD hS hA [] rfl
    refine va_calli (va_runS (As := [.ref G.2.2, .int ch, .int 0, .int 4]) (rest := []) ⟨hx, hb, hml, hown, hts⟩ (zc_J1_indexOfChar_4cfef l D G ch s.heap.size) (cwS 4 hts gzJ1_indexOf_4cfef_J1_indexOfChar_4cfef_95 rfl rfl rfl (by decide +kernel) ⟨(Nat.le_of_ble_eq_true rfl), (Nat.le_of_ble_eq_true rfl)⟩) ⟨p_RW_blind, (p_RW_at (tc := []) (wc := []) hP hK hD hS hA hT hZ [] [] rfl rfl (by decide) rfl [.ref G.2.2, .int ch, .int 0, .int 4])⟩ rfl rfl hl.1 rfl (lv_room (Nat.le_of_ble_eq_true rfl)) dJ1_indexOf_4cfef_33 ⟨(Nat.le_of_ble_eq_true rfl), (Nat.le_of_ble_eq_true rfl)⟩) hS (fun q _ h => hFc q h) hFc (fun r_373 u t H locs ht hvm w_374 hB hz1 hk1 hS => ?_)
    obtain ⟨hP, hD, hK⟩ := q_join (D := D) (wc := []) (wr := []) (w1 := []) (tyr := []) (ty1 := []) hP hD hK [] [] [] rfl rfl (by decide) (by decide) rfl hFc hk1 ht hvm hB
    have hP : va_P D vwCl [] H := hP
    have hD : va_D A [] := hD
    have hK : va_K D vwCl [] s := hK
    rcases w_374 with ⟨c_375, rfl⟩ | ⟨c_376, rfl⟩ | ⟨c_377, rfl⟩ | ⟨c_378, rfl⟩ | ⟨c_379, rfl⟩
    · exact W.iret (v := 0) hx hb hr (fun t ht hW => ⟨⟨0, (), rfl, (Or.inl (⟨(by first | assumption | exact inR_1 (by assumption) (by assumption) | exact inR_2 (by assumption) (by assumption) | exact inR_3 (by assumption) | exact inR_4 (by assumption) | exact inR_5 (by assumption) | exact ⟨by assumption, by assumption, by assumption, by assumption⟩ | exact ⟨by assumption, by assumption, by assumption⟩ | exact (fun q => absurd q.1 (by assumption)) | exact (fun q => absurd q.2.1 (by assumption)) | exact (fun q => absurd q.2.2 (by assumption)) | exact (fun q => absurd q.2.2.1 (by assumption)) | exact (fun q => absurd q.2.2.2 (by assumption)) | exact isRole_no (by assumption) (by assumption) (by assumption) (by assumption) | exact isRole_nb (by assumption) (by assumption) (by assumption) (by assumption) | exact isRole_out (by assumption) | exact enc_use (by assumption) (by assumption) (by assumption) | exact enc_103 (by assumption) | exact enc_103 (Eq.symm (by assumption)) | exact enc_115 (Eq.symm (by assumption)) | exact enc_102 (Eq.symm (by assumption)) | exact enc_98 (Eq.symm (by assumption)) | exact isRole_nc (by assumption) (by assumption) (by assumption) (by assumption) | exact enc_115 (by assumption) | exact enc_102 (by assumption) | exact enc_98 (by assumption) | exact Or.inr (by assumption) | rfl | exact Or.inl (by assumption) | exact Or.inr (Or.inl (by assumption)) | exact Or.inr (Or.inr (Or.inl (by assumption))) | exact Or.inr (Or.inr (Or.inr (by assumption))) | decide), rfl⟩)), q_RW_mk hP hK hD [] [] rfl rfl (by decide) rfl ht hW.alike⟩, hS.F ht⟩) hS.2.2 dJ1_indexOf_4cfef_36
    · exact W.iret (v := 1) hx hb hr (fun t ht hW => ⟨⟨1, (), rfl, (Or.inr (Or.inl (⟨(by first | assumption | exact inR_1 (by assumption) (by assumption) | exact inR_2 (by assumption) (by assumption) | exact inR_3 (by assumption) | exact inR_4 (by assumption) | exact inR_5 (by assumption) | exact ⟨by assumption, by assumption, by assumption, by assumption⟩ | exact ⟨by assumption, by assumption, by assumption⟩ | exact (fun q => absurd q.1 (by assumption)) | exact (fun q => absurd q.2.1 (by assumption)) | exact (fun q => absurd q.2.2 (by assumption)) | exact (fun q => absurd q.2.2.1 (by assumption)) | exact (fun q => absurd q.2.2.2 (by assumption)) | exact isRole_no (by assumption) (by assumption) (by assumption) (by assumption) | exact isRole_nb (by assumption) (by assumption) (by assumption) (by assumption) | exact isRole_out (by assumption) | exact enc_use (by assumption) (by assumption) (by assumption) | exact enc_103 (by assumption) | exact enc_103 (Eq.symm (by assumption)) | exact enc_115 (Eq.symm (by assumption)) | exact enc_102 (Eq.symm (by assumption)) | exact enc_98 (Eq.symm (by assumption)) | exact isRole_nc (by assumption) (by assumption) (by assumption) (by assumption) | exact enc_115 (by assumption) | exact enc_102 (by assumption) | exact enc_98 (by assumption) | exact Or.inr (by assumption) | rfl | exact Or.inl (by assumption) | exact Or.inr (Or.inl (by assumption)) | exact Or.inr (Or.inr (Or.inl (by assumption))) | exact Or.inr (Or.inr (Or.inr (by assumption))) | decide), rfl⟩))), q_RW_mk hP hK hD [] [] rfl rfl (by decide) rfl ht hW.alike⟩, hS.F ht⟩) hS.2.2 dJ1_indexOf_4cfef_36
    · exact W.iret (v := 2) hx hb hr (fun t ht hW => ⟨⟨2, (), rfl, (Or.inr (Or.inr (Or.inl (⟨(by first | assumption | exact inR_1 (by assumption) (by assumption) | exact inR_2 (by assumption) (by assumption) | exact inR_3 (by assumption) | exact inR_4 (by assumption) | exact inR_5 (by assumption) | exact ⟨by assumption, by assumption, by assumption, by assumption⟩ | exact ⟨by assumption, by assumption, by assumption⟩ | exact (fun q => absurd q.1 (by assumption)) | exact (fun q => absurd q.2.1 (by assumption)) | exact (fun q => absurd q.2.2 (by assumption)) | exact (fun q => absurd q.2.2.1 (by assumption)) | exact (fun q => absurd q.2.2.2 (by assumption)) | exact isRole_no (by assumption) (by assumption) (by assumption) (by assumption) | exact isRole_nb (by assumption) (by assumption) (by assumption) (by assumption) | exact isRole_out (by assumption) | exact enc_use (by assumption) (by assumption) (by assumption) | exact enc_103 (by assumption) | exact enc_103 (Eq.symm (by assumption)) | exact enc_115 (Eq.symm (by assumption)) | exact enc_102 (Eq.symm (by assumption)) | exact enc_98 (Eq.symm (by assumption)) | exact isRole_nc (by assumption) (by assumption) (by assumption) (by assumption) | exact enc_115 (by assumption) | exact enc_102 (by assumption) | exact enc_98 (by assumption) | exact Or.inr (by assumption) | rfl | exact Or.inl (by assumption) | exact Or.inr (Or.inl (by assumption)) | exact Or.inr (Or.inr (Or.inl (by assumption))) | exact Or.inr (Or.inr (Or.inr (by assumption))) | decide), rfl⟩)))), q_RW_mk hP hK hD [] [] rfl rfl (by decide) rfl ht hW.alike⟩, hS.F ht⟩) hS.2.2 dJ1_indexOf_4cfef_36
    · exact W.iret (v := 3) hx hb hr (fun t ht hW => ⟨⟨3, (), rfl, (Or.inr (Or.inr (Or.inr (Or.inl (⟨(by first | assumption | exact inR_1 (by assumption) (by assumption) | exact inR_2 (by assumption) (by assumption) | exact inR_3 (by assumption) | exact inR_4 (by assumption) | exact inR_5 (by assumption) | exact ⟨by assumption, by assumption, by assumption, by assumption⟩ | exact ⟨by assumption, by assumption, by assumption⟩ | exact (fun q => absurd q.1 (by assumption)) | exact (fun q => absurd q.2.1 (by assumption)) | exact (fun q => absurd q.2.2 (by assumption)) | exact (fun q => absurd q.2.2.1 (by assumption)) | exact (fun q => absurd q.2.2.2 (by assumption)) | exact isRole_no (by assumption) (by assumption) (by assumption) (by assumption) | exact isRole_nb (by assumption) (by assumption) (by assumption) (by assumption) | exact isRole_out (by assumption) | exact enc_use (by assumption) (by assumption) (by assumption) | exact enc_103 (by assumption) | exact enc_103 (Eq.symm (by assumption)) | exact enc_115 (Eq.symm (by assumption)) | exact enc_102 (Eq.symm (by assumption)) | exact enc_98 (Eq.symm (by assumption)) | exact isRole_nc (by assumption) (by assumption) (by assumption) (by assumption) | exact enc_115 (by assumption) | exact enc_102 (by assumption) | exact enc_98 (by assumption) | exact Or.inr (by assumption) | rfl | exact Or.inl (by assumption) | exact Or.inr (Or.inl (by assumption)) | exact Or.inr (Or.inr (Or.inl (by assumption))) | exact Or.inr (Or.inr (Or.inr (by assumption))) | decide), rfl⟩))))), q_RW_mk hP hK hD [] [] rfl rfl (by decide) rfl ht hW.alike⟩, hS.F ht⟩) hS.2.2 dJ1_indexOf_4cfef_36
    · exact W.iret (v := (-1)) hx hb hr (fun t ht hW => ⟨⟨(-1), (), rfl, (Or.inr (Or.inr (Or.inr (Or.inr (⟨(by first | assumption | exact inR_1 (by assumption) (by assumption) | exact inR_2 (by assumption) (by assumption) | exact inR_3 (by assumption) | exact inR_4 (by assumption) | exact inR_5 (by assumption) | exact ⟨by assumption, by assumption, by assumption, by assumption⟩ | exact ⟨by assumption, by assumption, by assumption⟩ | exact (fun q => absurd q.1 (by assumption)) | exact (fun q => absurd q.2.1 (by assumption)) | exact (fun q => absurd q.2.2 (by assumption)) | exact (fun q => absurd q.2.2.1 (by assumption)) | exact (fun q => absurd q.2.2.2 (by assumption)) | exact isRole_no (by assumption) (by assumption) (by assumption) (by assumption) | exact isRole_nb (by assumption) (by assumption) (by assumption) (by assumption) | exact isRole_out (by assumption) | exact enc_use (by assumption) (by assumption) (by assumption) | exact enc_103 (by assumption) | exact enc_103 (Eq.symm (by assumption)) | exact enc_115 (Eq.symm (by assumption)) | exact enc_102 (Eq.symm (by assumption)) | exact enc_98 (Eq.symm (by assumption)) | exact isRole_nc (by assumption) (by assumption) (by assumption) (by assumption) | exact enc_115 (by assumption) | exact enc_102 (by assumption) | exact enc_98 (by assumption) | exact Or.inr (by assumption) | rfl | exact Or.inl (by assumption) | exact Or.inr (Or.inl (by assumption)) | exact Or.inr (Or.inr (Or.inl (by assumption))) | exact Or.inr (Or.inr (Or.inr (by assumption))) | decide), rfl⟩))))), q_RW_mk hP hK hD [] [] rfl rfl (by decide) rfl ht hW.alike⟩, hS.F ht⟩) hS.2.2 dJ1_indexOf_4cfef_36
  · refine lv_if_ne (tgt := 9) hx hb dJ1_indexOf_4cfef_4 (by decide) (fun cc => absurd (by decide) cc) (fun _ => ?_)
    refine lv_iconst (v := (-1)) hx hb dJ1_indexOf_4cfef_7 (by decide) ?_
    exact W.iret (v := (-1)) hx hb hr (fun t ht hW => ⟨⟨(-1), (), rfl, (Or.inr (Or.inr (Or.inr (Or.inr (⟨(by first | assumption | exact inR_1 (by assumption) (by assumption) | exact inR_2 (by assumption) (by assumption) | exact inR_3 (by assumption) | exact inR_4 (by assumption) | exact inR_5 (by assumption) | exact ⟨by assumption, by assumption, by assumption, by assumption⟩ | exact ⟨by assumption, by assumption, by assumption⟩ | exact (fun q => absurd q.1 (by assumption)) | exact (fun q => absurd q.2.1 (by assumption)) | exact (fun q => absurd q.2.2 (by assumption)) | exact (fun q => absurd q.2.2.1 (by assumption)) | exact (fun q => absurd q.2.2.2 (by assumption)) | exact isRole_no (by assumption) (by assumption) (by assumption) (by assumption) | exact isRole_nb (by assumption) (by assumption) (by assumption) (by assumption) | exact isRole_out (by assumption) | exact enc_use (by assumption) (by assumption) (by assumption) | exact enc_103 (by assumption) | exact enc_103 (Eq.symm (by assumption)) | exact enc_115 (Eq.symm (by assumption)) | exact enc_102 (Eq.symm (by assumption)) | exact enc_98 (Eq.symm (by assumption)) | exact isRole_nc (by assumption) (by assumption) (by assumption) (by assumption) | exact enc_115 (by assumption) | exact enc_102 (by assumption) | exact enc_98 (by assumption) | exact Or.inr (by assumption) | rfl | exact Or.inl (by assumption) | exact Or.inr (Or.inl (by assumption)) | exact Or.inr (Or.inr (Or.inl (by assumption))) | exact Or.inr (Or.inr (Or.inr (by assumption))) | decide), rfl⟩))))), q_RW_mk hP hK hD [] [] rfl rfl (by decide) rfl ht hW.alike⟩, hS.F ht⟩) hS.2.2 dJ1_indexOf_4cfef_8
theorem dJ0_indexOf_7cf53_0 : decode cJ0_indexOf_7cf53 0 = .ok (.aload_n 0, 1) := by decide +kernel
theorem dJ0_indexOf_7cf53_1 : decode cJ0_indexOf_7cf53 1 = .ok (.invokevirtual 492, 3) := by decide +kernel
theorem dJ0_indexOf_7cf53_4 : decode cJ0_indexOf_7cf53 4 = .ok (.ifCond .eq 19, 3) := by decide +kernel
theorem dJ0_indexOf_7cf53_7 : decode cJ0_indexOf_7cf53 7 = .ok (.aload_n 0, 1) := by decide +kernel
theorem dJ0_indexOf_7cf53_8 : decode cJ0_indexOf_7cf53 8 = .ok (.getfield 9, 3) := by decide +kernel
theorem dJ0_indexOf_7cf53_11 : decode cJ0_indexOf_7cf53 11 = .ok (.iload_n 1, 1) := by decide +kernel
theorem dJ0_indexOf_7cf53_12 : decode cJ0_indexOf_7cf53 12 = .ok (.iload_n 2, 1) := by decide +kernel
theorem dJ0_indexOf_7cf53_13 : decode cJ0_indexOf_7cf53 13 = .ok (.aload_n 0, 1) := by decide +kernel
theorem dJ0_indexOf_7cf53_14 : decode cJ0_indexOf_7cf53 14 = .ok (.invokevirtual 505, 3) := by decide +kernel
theorem dJ0_indexOf_7cf53_17 : decode cJ0_indexOf_7cf53 17 = .ok (.invokestatic 637, 3) := by decide +kernel
theorem dJ0_indexOf_7cf53_20 : decode cJ0_indexOf_7cf53 20 = .ok (.goto 16, 3) := by decide +kernel
theorem dJ0_indexOf_7cf53_36 : decode cJ0_indexOf_7cf53 36 = .ok (.ireturn, 1) := by decide +kernel
def wzEJ0_indexOf_7cf53 : List Cond := [.code yJ0_indexOf_7cf53 cJ0_indexOf_7cf53 3 (some .int), .methodLink RJ0 492 yJ0_isLatin1_aae02, .instanceMethod yJ0_isLatin1_aae02, .selects RJ0 yJ0_isLatin1_aae02 yJ0_isLatin1_aae02, .initialized RJ0, .code yJ0_isLatin1_aae02 cJ0_isLatin1_aae02 1 (some .boolean), .fieldLink RJ0 38 "java/lang/String" "COMPACT_STRINGS" "Z", .fieldLink RJ0 15 "java/lang/String" "coder" "B", .fieldLink RJ0 9 "java/lang/String" "value" "[B", .methodLink RJ0 505 yJ0_length_8abf5, .instanceMethod yJ0_length_8abf5, .selects RJ0 yJ0_length_8abf5 yJ0_length_8abf5, .code yJ0_length_8abf5 cJ0_length_8abf5 1 (some .int), .methodLink RJ0 335 yJ0_coder_7d493, .instanceMethod yJ0_coder_7d493, .selects RJ0 yJ0_coder_7d493 yJ0_coder_7d493, .code yJ0_coder_7d493 cJ0_coder_7d493 1 (some .byte), .methodLink RJ0 637 yJ1_indexOf_4cfef, .static yJ1_indexOf_4cfef, .initialized RJ1, .code yJ1_indexOf_4cfef cJ1_indexOf_4cfef 4 (some .int), .methodLink RJ1 88 yJ1_canEncode_9a6ad, .static yJ1_canEncode_9a6ad, .code yJ1_canEncode_9a6ad cJ1_canEncode_9a6ad 1 (some .boolean), .methodLink RJ1 92 Lib.Math.max.name, .static Lib.Math.max.name, .initialized "java/lang/Math", .code Lib.Math.max.name Lib.Math.max.code 2 (some .int), .methodLink RJ1 38 Lib.Math.min.name, .static Lib.Math.min.name, .code Lib.Math.min.name Lib.Math.min.code 2 (some .int), .methodLink RJ1 95 yJ1_indexOfChar_4cfef, .static yJ1_indexOfChar_4cfef, .code yJ1_indexOfChar_4cfef cJ1_indexOfChar_4cfef 6 (some .int)]
def wzJ0_indexOf_7cf53 : List Cond := wzEJ0_indexOf_7cf53 ++ []
theorem zgEJ0_indexOf_7cf53 : wzEJ0_indexOf_7cf53.all goodWord = true := by decide +kernel
theorem gzJ0_indexOf_7cf53_J0_isLatin1_aae02_492 : GoodIn wzJ0_indexOf_7cf53 (wsV RJ0 492 RJ0 yJ0_isLatin1_aae02 wzJ0_isLatin1_aae02) := (goodIn_app (z_lift (goodIn_r _ [1, 2, 3, 4] rfl (by decide +kernel))) (goodIn_app (z_lift (goodIn_r wzEJ0_isLatin1_aae02 [5, 6, 7] rfl zgEJ0_isLatin1_aae02)) z_gnil))
theorem gzJ0_indexOf_7cf53_J0_length_8abf5_505 : GoodIn wzJ0_indexOf_7cf53 (wsV RJ0 505 RJ0 yJ0_length_8abf5 wzJ0_length_8abf5) := (goodIn_app (z_lift (goodIn_r _ [9, 10, 11, 4] rfl (by decide +kernel))) (goodIn_app (z_lift (goodIn_r wzEJ0_length_8abf5 [12, 8, 13, 14, 15, 4, 16, 6, 7] rfl zgEJ0_length_8abf5)) z_gnil))
theorem gzJ0_indexOf_7cf53_J1_indexOf_4cfef_637 : GoodIn wzJ0_indexOf_7cf53 (va_wsS RJ0 637 yJ1_indexOf_4cfef wzJ1_indexOf_4cfef) := (goodIn_app (z_lift (goodIn_r _ [17, 18, 19] rfl (by decide +kernel))) (goodIn_app (z_lift (goodIn_r wzEJ1_indexOf_4cfef [20, 21, 22, 19, 23, 24, 25, 26, 27, 28, 29, 30, 31, 32, 33] rfl zgEJ1_indexOf_4cfef)) z_gnil))
set_option maxHeartbeats 4000000 in
set_option maxRecDepth 100000 in
theorem zc_J0_indexOf_7cf53 (l : Launch) (D : va_G) (G : Nat × Nat × Nat) (ch : Int32) (sz : Nat) : Met l yJ0_indexOf_7cf53 wzJ0_indexOf_7cf53 ({ frames := 2, cells := 0, slots := 0, locals := 48 }) (va_Pc [.ref G.2.1, .int ch, .int 0] (p_RW D G [] [] sz)) (va_Qi (fun (r : Int32) (u : Unit) => (ch = 103 ∧ r = 0) ∨ (ch = 115 ∧ r = 1) ∨ (ch = 102 ∧ r = 2) ∨ (ch = 98 ∧ r = 3) ∨ (¬ isRole ch ∧ r = (-1))) (fun (u : Unit) (t : State) => q_RW D [] [] (va_A [] sz) t) (va_A [] sz)) 0 0 (va_A [] sz) := by
  refine Met.ofW (cc := cJ0_indexOf_7cf53) (maxL := 3) (ret := (some .int)) (by decide) rfl ?_
  intro p e s m args below meth c s₁ B hml hv
  obtain ⟨rfl, hsz, hP, hK, hD0, hT, hZ⟩ := hv
  have hx := B.exec
  have hb := B.bytes
  have hr := B.returns
  have hts := atoms_spec (ws := wzJ0_indexOf_7cf53) B.pre
  have hown : s.vm.findClass RJ0 = some m.cls := findClass_of_methodNamed B.named
  have hlocks := B.notSynchronized
  subst hsz
  have hD := hD0.self (sz := s.heap.size)
  generalize hAe : va_A [] s.heap.size = A at hD hZ ⊢
  have hA : ∀ q : Nat, s.heap.size ≤ q → A q := fun q h => by rw [← hAe]; exact Or.inr h
  have hS : va_S A s.heap s.heap [] := va_S.rf
  have hl := lv_entry ([.ref G.2.1, .int ch, .int 0]) (n := 3) (Nat.le_of_ble_eq_true rfl)
  rw [lg_entry_eq]
  generalize (lg_sl ([.ref G.2.1, .int ch, .int 0]) ++ List.replicate (3 - (lg_sl ([.ref G.2.1, .int ch, .int 0])).length) Slot.unset).toArray = ls at hl ⊢
  have hl : lv_has ls 3 [(0, .ref G.2.1), (1, .int ch), (2, .int 0)] := hl
  refine lv_aload_n hx hb dJ0_indexOf_7cf53_0 rfl (lv_at hl 0 rfl) ?_
  have hFc := va_free (wc := []) hD hS hA [] rfl
  refine va_calli (va_runV (As := []) (rest := []) ⟨hx, hb, hml, hown, hts⟩ (zc_J0_isLatin1_aae02 l D G s.heap.size) (cwV 0 hts gzJ0_indexOf_7cf53_J0_isLatin1_aae02_492 rfl rfl rfl (by decide +kernel) ⟨(Nat.le_of_ble_eq_true rfl), (Nat.le_of_ble_eq_true rfl)⟩) ⟨p_RW_blind, vk_recv hZ.2.2.2.2.2 (i := 0) (by decide) hS, (p_RW_at (tc := []) (wc := []) hP hK hD hS hA hT hZ [] [] rfl rfl (by decide) rfl [.ref G.2.1])⟩ rfl rfl hl.1 rfl (lv_room (Nat.le_of_ble_eq_true rfl)) dJ0_indexOf_7cf53_1 ⟨(Nat.le_of_ble_eq_true rfl), (Nat.le_of_ble_eq_true rfl)⟩) hS (fun q _ h => hFc q h) hFc (fun r_380 u t H locs ht hvm w_381 hB hz1 hk1 hS => ?_)
  obtain ⟨hP, hD, hK⟩ := q_join (D := D) (wc := []) (wr := []) (w1 := []) (tyr := []) (ty1 := []) hP hD hK [] [] [] rfl rfl (by decide) (by decide) rfl hFc hk1 ht hvm hB
  have hP : va_P D vwCl [] H := hP
  have hD : va_D A [] := hD
  have hK : va_K D vwCl [] s := hK
  obtain rfl := w_381
  refine lv_if_eq (tgt := 23) hx hb dJ0_indexOf_7cf53_4 (by decide) (fun cc => absurd cc (by decide)) (fun _ => ?_)
  refine lv_aload_n hx hb dJ0_indexOf_7cf53_7 rfl (lv_at hl 0 rfl) ?_
  refine vk_getf hx hb (hZ.2.2.2.2.2.1 0 (by decide)).2.2.1 hS hown (hts (.fieldLink RJ0 9 "java/lang/String" "value" "[B") (by decide +kernel)) (fun _ h9 => h9) dJ0_indexOf_7cf53_8 ?_
  refine lv_iload_n hx hb dJ0_indexOf_7cf53_11 rfl (lv_at hl 1 rfl) ?_
  refine lv_iload_n hx hb dJ0_indexOf_7cf53_12 rfl (lv_at hl 2 rfl) ?_
  refine lv_aload_n hx hb dJ0_indexOf_7cf53_13 rfl (lv_at hl 0 rfl) ?_
  have hFc := va_free (wc := []) hD hS hA [] rfl
  refine va_calli (va_runV (As := []) (rest := [.int 0, .int ch, .ref G.2.2]) ⟨hx, hb, hml, hown, hts⟩ (zc_J0_length_8abf5 l D G H.size) (cwV 0 hts gzJ0_indexOf_7cf53_J0_length_8abf5_505 rfl rfl rfl (by decide +kernel) ⟨(Nat.le_of_ble_eq_true rfl), (Nat.le_of_ble_eq_true rfl)⟩) ⟨p_RW_blind, vk_recv hZ.2.2.2.2.2 (i := 0) (by decide) hS, (p_RW_at (tc := []) (wc := []) hP hK hD hS hA hT hZ [] [] rfl rfl (by decide) rfl [.ref G.2.1])⟩ rfl rfl hl.1 rfl (lv_room (Nat.le_of_ble_eq_true rfl)) dJ0_indexOf_7cf53_14 ⟨(Nat.le_of_ble_eq_true rfl), (Nat.le_of_ble_eq_true rfl)⟩) hS (fun q _ h => hFc q h) hFc (fun r_382 u t H locs ht hvm w_383 hB hz1 hk1 hS => ?_)
  obtain ⟨hP, hD, hK⟩ := q_join (D := D) (wc := []) (wr := []) (w1 := []) (tyr := []) (ty1 := []) hP hD hK [] [] [] rfl rfl (by decide) (by decide) rfl hFc hk1 ht hvm hB
  have hP : va_P D vwCl [] H := hP
  have hD : va_D A [] := hD
  have hK : va_K D vwCl [] s := hK
  obtain rfl := w_383
  have hFc := va_free (wc := []) hD hS hA [] rfl
  refine va_calli (va_runS (As := [.ref G.2.2, .int ch, .int 0, .int 4]) (rest := []) ⟨hx, hb, hml, hown, hts⟩ (zc_J1_indexOf_4cfef l D G ch H.size) (va_cwS 4 hts gzJ0_indexOf_7cf53_J1_indexOf_4cfef_637 rfl rfl rfl (by decide +kernel) ⟨(Nat.le_of_ble_eq_true rfl), (Nat.le_of_ble_eq_true rfl)⟩) ⟨p_RW_blind, (p_RW_at (tc := []) (wc := []) hP hK hD hS hA hT hZ [] [] rfl rfl (by decide) rfl [.ref G.2.2, .int ch, .int 0, .int 4])⟩ rfl rfl hl.1 rfl (lv_room (Nat.le_of_ble_eq_true rfl)) dJ0_indexOf_7cf53_17 ⟨(Nat.le_of_ble_eq_true rfl), (Nat.le_of_ble_eq_true rfl)⟩) hS (fun q _ h => hFc q h) hFc (fun r_384 u t H locs ht hvm w_385 hB hz1 hk1 hS => ?_)
  obtain ⟨hP, hD, hK⟩ := q_join (D := D) (wc := []) (wr := []) (w1 := []) (tyr := []) (ty1 := []) hP hD hK [] [] [] rfl rfl (by decide) (by decide) rfl hFc hk1 ht hvm hB
  have hP : va_P D vwCl [] H := hP
  have hD : va_D A [] := hD
  have hK : va_K D vwCl [] s := hK
  rcases w_385 with ⟨c_386, rfl⟩ | ⟨c_387, rfl⟩ | ⟨c_388, rfl⟩ | ⟨c_389, rfl⟩ | ⟨c_390, rfl⟩
  · refine lv_goto (tgt := 36) hx hb dJ0_indexOf_7cf53_20 (by decide) ?_
    exact W.iret (v := 0) hx hb hr (fun t ht hW => ⟨⟨0, (), rfl, (Or.inl (⟨(by first | assumption | exact inR_1 (by assumption) (by assumption) | exact inR_2 (by assumption) (by assumption) | exact inR_3 (by assumption) | exact inR_4 (by assumption) | exact inR_5 (by assumption) | exact ⟨by assumption, by assumption, by assumption, by assumption⟩ | exact ⟨by assumption, by assumption, by assumption⟩ | exact (fun q => absurd q.1 (by assumption)) | exact (fun q => absurd q.2.1 (by assumption)) | exact (fun q => absurd q.2.2 (by assumption)) | exact (fun q => absurd q.2.2.1 (by assumption)) | exact (fun q => absurd q.2.2.2 (by assumption)) | exact isRole_no (by assumption) (by assumption) (by assumption) (by assumption) | exact isRole_nb (by assumption) (by assumption) (by assumption) (by assumption) | exact isRole_out (by assumption) | exact enc_use (by assumption) (by assumption) (by assumption) | exact enc_103 (by assumption) | exact enc_103 (Eq.symm (by assumption)) | exact enc_115 (Eq.symm (by assumption)) | exact enc_102 (Eq.symm (by assumption)) | exact enc_98 (Eq.symm (by assumption)) | exact isRole_nc (by assumption) (by assumption) (by assumption) (by assumption) | exact enc_115 (by assumption) | exact enc_102 (by assumption) | exact enc_98 (by assumption) | exact Or.inr (by assumption) | rfl | exact Or.inl (by assumption) | exact Or.inr (Or.inl (by assumption)) | exact Or.inr (Or.inr (Or.inl (by assumption))) | exact Or.inr (Or.inr (Or.inr (by assumption))) | decide), rfl⟩)), q_RW_mk hP hK hD [] [] rfl rfl (by decide) rfl ht hW.alike⟩, hS.F ht⟩) hS.2.2 dJ0_indexOf_7cf53_36
  · refine lv_goto (tgt := 36) hx hb dJ0_indexOf_7cf53_20 (by decide) ?_
    exact W.iret (v := 1) hx hb hr (fun t ht hW => ⟨⟨1, (), rfl, (Or.inr (Or.inl (⟨(by first | assumption | exact inR_1 (by assumption) (by assumption) | exact inR_2 (by assumption) (by assumption) | exact inR_3 (by assumption) | exact inR_4 (by assumption) | exact inR_5 (by assumption) | exact ⟨by assumption, by assumption, by assumption, by assumption⟩ | exact ⟨by assumption, by assumption, by assumption⟩ | exact (fun q => absurd q.1 (by assumption)) | exact (fun q => absurd q.2.1 (by assumption)) | exact (fun q => absurd q.2.2 (by assumption)) | exact (fun q => absurd q.2.2.1 (by assumption)) | exact (fun q => absurd q.2.2.2 (by assumption)) | exact isRole_no (by assumption) (by assumption) (by assumption) (by assumption) | exact isRole_nb (by assumption) (by assumption) (by assumption) (by assumption) | exact isRole_out (by assumption) | exact enc_use (by assumption) (by assumption) (by assumption) | exact enc_103 (by assumption) | exact enc_103 (Eq.symm (by assumption)) | exact enc_115 (Eq.symm (by assumption)) | exact enc_102 (Eq.symm (by assumption)) | exact enc_98 (Eq.symm (by assumption)) | exact isRole_nc (by assumption) (by assumption) (by assumption) (by assumption) | exact enc_115 (by assumption) | exact enc_102 (by assumption) | exact enc_98 (by assumption) | exact Or.inr (by assumption) | rfl | exact Or.inl (by assumption) | exact Or.inr (Or.inl (by assumption)) | exact Or.inr (Or.inr (Or.inl (by assumption))) | exact Or.inr (Or.inr (Or.inr (by assumption))) | decide), rfl⟩))), q_RW_mk hP hK hD [] [] rfl rfl (by decide) rfl ht hW.alike⟩, hS.F ht⟩) hS.2.2 dJ0_indexOf_7cf53_36
  · refine lv_goto (tgt := 36) hx hb dJ0_indexOf_7cf53_20 (by decide) ?_
    exact W.iret (v := 2) hx hb hr (fun t ht hW => ⟨⟨2, (), rfl, (Or.inr (Or.inr (Or.inl (⟨(by first | assumption | exact inR_1 (by assumption) (by assumption) | exact inR_2 (by assumption) (by assumption) | exact inR_3 (by assumption) | exact inR_4 (by assumption) | exact inR_5 (by assumption) | exact ⟨by assumption, by assumption, by assumption, by assumption⟩ | exact ⟨by assumption, by assumption, by assumption⟩ | exact (fun q => absurd q.1 (by assumption)) | exact (fun q => absurd q.2.1 (by assumption)) | exact (fun q => absurd q.2.2 (by assumption)) | exact (fun q => absurd q.2.2.1 (by assumption)) | exact (fun q => absurd q.2.2.2 (by assumption)) | exact isRole_no (by assumption) (by assumption) (by assumption) (by assumption) | exact isRole_nb (by assumption) (by assumption) (by assumption) (by assumption) | exact isRole_out (by assumption) | exact enc_use (by assumption) (by assumption) (by assumption) | exact enc_103 (by assumption) | exact enc_103 (Eq.symm (by assumption)) | exact enc_115 (Eq.symm (by assumption)) | exact enc_102 (Eq.symm (by assumption)) | exact enc_98 (Eq.symm (by assumption)) | exact isRole_nc (by assumption) (by assumption) (by assumption) (by assumption) | exact enc_115 (by assumption) | exact enc_102 (by assumption) | exact enc_98 (by assumption) | exact Or.inr (by assumption) | rfl | exact Or.inl (by assumption) | exact Or.inr (Or.inl (by assumption)) | exact Or.inr (Or.inr (Or.inl (by assumption))) | exact Or.inr (Or.inr (Or.inr (by assumption))) | decide), rfl⟩)))), q_RW_mk hP hK hD [] [] rfl rfl (by decide) rfl ht hW.alike⟩, hS.F ht⟩) hS.2.2 dJ0_indexOf_7cf53_36
  · refine lv_goto (tgt := 36) hx hb dJ0_indexOf_7cf53_20 (by decide) ?_
    exact W.iret (v := 3) hx hb hr (fun t ht hW => ⟨⟨3, (), rfl, (Or.inr (Or.inr (Or.inr (Or.inl (⟨(by first | assumption | exact inR_1 (by assumption) (by assumption) | exact inR_2 (by assumption) (by assumption) | exact inR_3 (by assumption) | exact inR_4 (by assumption) | exact inR_5 (by assumption) | exact ⟨by assumption, by assumption, by assumption, by assumption⟩ | exact ⟨by assumption, by assumption, by assumption⟩ | exact (fun q => absurd q.1 (by assumption)) | exact (fun q => absurd q.2.1 (by assumption)) | exact (fun q => absurd q.2.2 (by assumption)) | exact (fun q => absurd q.2.2.1 (by assumption)) | exact (fun q => absurd q.2.2.2 (by assumption)) | exact isRole_no (by assumption) (by assumption) (by assumption) (by assumption) | exact isRole_nb (by assumption) (by assumption) (by assumption) (by assumption) | exact isRole_out (by assumption) | exact enc_use (by assumption) (by assumption) (by assumption) | exact enc_103 (by assumption) | exact enc_103 (Eq.symm (by assumption)) | exact enc_115 (Eq.symm (by assumption)) | exact enc_102 (Eq.symm (by assumption)) | exact enc_98 (Eq.symm (by assumption)) | exact isRole_nc (by assumption) (by assumption) (by assumption) (by assumption) | exact enc_115 (by assumption) | exact enc_102 (by assumption) | exact enc_98 (by assumption) | exact Or.inr (by assumption) | rfl | exact Or.inl (by assumption) | exact Or.inr (Or.inl (by assumption)) | exact Or.inr (Or.inr (Or.inl (by assumption))) | exact Or.inr (Or.inr (Or.inr (by assumption))) | decide), rfl⟩))))), q_RW_mk hP hK hD [] [] rfl rfl (by decide) rfl ht hW.alike⟩, hS.F ht⟩) hS.2.2 dJ0_indexOf_7cf53_36
  · refine lv_goto (tgt := 36) hx hb dJ0_indexOf_7cf53_20 (by decide) ?_
    exact W.iret (v := (-1)) hx hb hr (fun t ht hW => ⟨⟨(-1), (), rfl, (Or.inr (Or.inr (Or.inr (Or.inr (⟨(by first | assumption | exact inR_1 (by assumption) (by assumption) | exact inR_2 (by assumption) (by assumption) | exact inR_3 (by assumption) | exact inR_4 (by assumption) | exact inR_5 (by assumption) | exact ⟨by assumption, by assumption, by assumption, by assumption⟩ | exact ⟨by assumption, by assumption, by assumption⟩ | exact (fun q => absurd q.1 (by assumption)) | exact (fun q => absurd q.2.1 (by assumption)) | exact (fun q => absurd q.2.2 (by assumption)) | exact (fun q => absurd q.2.2.1 (by assumption)) | exact (fun q => absurd q.2.2.2 (by assumption)) | exact isRole_no (by assumption) (by assumption) (by assumption) (by assumption) | exact isRole_nb (by assumption) (by assumption) (by assumption) (by assumption) | exact isRole_out (by assumption) | exact enc_use (by assumption) (by assumption) (by assumption) | exact enc_103 (by assumption) | exact enc_103 (Eq.symm (by assumption)) | exact enc_115 (Eq.symm (by assumption)) | exact enc_102 (Eq.symm (by assumption)) | exact enc_98 (Eq.symm (by assumption)) | exact isRole_nc (by assumption) (by assumption) (by assumption) (by assumption) | exact enc_115 (by assumption) | exact enc_102 (by assumption) | exact enc_98 (by assumption) | exact Or.inr (by assumption) | rfl | exact Or.inl (by assumption) | exact Or.inr (Or.inl (by assumption)) | exact Or.inr (Or.inr (Or.inl (by assumption))) | exact Or.inr (Or.inr (Or.inr (by assumption))) | decide), rfl⟩))))), q_RW_mk hP hK hD [] [] rfl rfl (by decide) rfl ht hW.alike⟩, hS.F ht⟩) hS.2.2 dJ0_indexOf_7cf53_36
theorem dJ0_indexOf_0f7a4_0 : decode cJ0_indexOf_0f7a4 0 = .ok (.aload_n 0, 1) := by decide +kernel
theorem dJ0_indexOf_0f7a4_1 : decode cJ0_indexOf_0f7a4 1 = .ok (.iload_n 1, 1) := by decide +kernel
theorem dJ0_indexOf_0f7a4_2 : decode cJ0_indexOf_0f7a4 2 = .ok (.iconst 0, 1) := by decide +kernel
theorem dJ0_indexOf_0f7a4_3 : decode cJ0_indexOf_0f7a4 3 = .ok (.invokevirtual 633, 3) := by decide +kernel
theorem dJ0_indexOf_0f7a4_6 : decode cJ0_indexOf_0f7a4 6 = .ok (.ireturn, 1) := by decide +kernel
def wzEJ0_indexOf_0f7a4 : List Cond := [.code yJ0_indexOf_0f7a4 cJ0_indexOf_0f7a4 2 (some .int), .methodLink RJ0 633 yJ0_indexOf_7cf53, .instanceMethod yJ0_indexOf_7cf53, .selects RJ0 yJ0_indexOf_7cf53 yJ0_indexOf_7cf53, .initialized RJ0, .code yJ0_indexOf_7cf53 cJ0_indexOf_7cf53 3 (some .int), .methodLink RJ0 492 yJ0_isLatin1_aae02, .instanceMethod yJ0_isLatin1_aae02, .selects RJ0 yJ0_isLatin1_aae02 yJ0_isLatin1_aae02, .code yJ0_isLatin1_aae02 cJ0_isLatin1_aae02 1 (some .boolean), .fieldLink RJ0 38 "java/lang/String" "COMPACT_STRINGS" "Z", .fieldLink RJ0 15 "java/lang/String" "coder" "B", .fieldLink RJ0 9 "java/lang/String" "value" "[B", .methodLink RJ0 505 yJ0_length_8abf5, .instanceMethod yJ0_length_8abf5, .selects RJ0 yJ0_length_8abf5 yJ0_length_8abf5, .code yJ0_length_8abf5 cJ0_length_8abf5 1 (some .int), .methodLink RJ0 335 yJ0_coder_7d493, .instanceMethod yJ0_coder_7d493, .selects RJ0 yJ0_coder_7d493 yJ0_coder_7d493, .code yJ0_coder_7d493 cJ0_coder_7d493 1 (some .byte), .methodLink RJ0 637 yJ1_indexOf_4cfef, .static yJ1_indexOf_4cfef, .initialized RJ1, .code yJ1_indexOf_4cfef cJ1_indexOf_4cfef 4 (some .int), .methodLink RJ1 88 yJ1_canEncode_9a6ad, .static yJ1_canEncode_9a6ad, .code yJ1_canEncode_9a6ad cJ1_canEncode_9a6ad 1 (some .boolean), .methodLink RJ1 92 Lib.Math.max.name, .static Lib.Math.max.name, .initialized "java/lang/Math", .code Lib.Math.max.name Lib.Math.max.code 2 (some .int), .methodLink RJ1 38 Lib.Math.min.name, .static Lib.Math.min.name, .code Lib.Math.min.name Lib.Math.min.code 2 (some .int), .methodLink RJ1 95 yJ1_indexOfChar_4cfef, .static yJ1_indexOfChar_4cfef, .code yJ1_indexOfChar_4cfef cJ1_indexOfChar_4cfef 6 (some .int)]
def wzJ0_indexOf_0f7a4 : List Cond := wzEJ0_indexOf_0f7a4 ++ []
theorem zgEJ0_indexOf_0f7a4 : wzEJ0_indexOf_0f7a4.all goodWord = true := by decide +kernel
theorem gzJ0_indexOf_0f7a4_J0_indexOf_7cf53_633 : GoodIn wzJ0_indexOf_0f7a4 (wsV RJ0 633 RJ0 yJ0_indexOf_7cf53 wzJ0_indexOf_7cf53) := (goodIn_app (z_lift (goodIn_r _ [1, 2, 3, 4] rfl (by decide +kernel))) (goodIn_app (z_lift (goodIn_r wzEJ0_indexOf_7cf53 [5, 6, 7, 8, 4, 9, 10, 11, 12, 13, 14, 15, 16, 17, 18, 19, 20, 21, 22, 23, 24, 25, 26, 27, 28, 29, 30, 31, 32, 33, 34, 35, 36, 37] rfl zgEJ0_indexOf_7cf53)) z_gnil))
set_option maxHeartbeats 4000000 in
set_option maxRecDepth 100000 in
theorem zc_J0_indexOf_0f7a4 (l : Launch) (D : va_G) (G : Nat × Nat × Nat) (ch : Int32) (sz : Nat) : Met l yJ0_indexOf_0f7a4 wzJ0_indexOf_0f7a4 ({ frames := 3, cells := 0, slots := 0, locals := 70 }) (va_Pc [.ref G.2.1, .int ch] (p_RW D G [] [] sz)) (va_Qi (fun (r : Int32) (u : Unit) => (ch = 103 ∧ r = 0) ∨ (ch = 115 ∧ r = 1) ∨ (ch = 102 ∧ r = 2) ∨ (ch = 98 ∧ r = 3) ∨ (¬ isRole ch ∧ r = (-1))) (fun (u : Unit) (t : State) => q_RW D [] [] (va_A [] sz) t) (va_A [] sz)) 0 0 (va_A [] sz) := by
  refine Met.ofW (cc := cJ0_indexOf_0f7a4) (maxL := 2) (ret := (some .int)) (by decide) rfl ?_
  intro p e s m args below meth c s₁ B hml hv
  obtain ⟨rfl, hsz, hP, hK, hD0, hT, hZ⟩ := hv
  have hx := B.exec
  have hb := B.bytes
  have hr := B.returns
  have hts := atoms_spec (ws := wzJ0_indexOf_0f7a4) B.pre
  have hown : s.vm.findClass RJ0 = some m.cls := findClass_of_methodNamed B.named
  have hlocks := B.notSynchronized
  subst hsz
  have hD := hD0.self (sz := s.heap.size)
  generalize hAe : va_A [] s.heap.size = A at hD hZ ⊢
  have hA : ∀ q : Nat, s.heap.size ≤ q → A q := fun q h => by rw [← hAe]; exact Or.inr h
  have hS : va_S A s.heap s.heap [] := va_S.rf
  have hl := lv_entry ([.ref G.2.1, .int ch]) (n := 2) (Nat.le_of_ble_eq_true rfl)
  rw [lg_entry_eq]
  generalize (lg_sl ([.ref G.2.1, .int ch]) ++ List.replicate (2 - (lg_sl ([.ref G.2.1, .int ch])).length) Slot.unset).toArray = ls at hl ⊢
  have hl : lv_has ls 2 [(0, .ref G.2.1), (1, .int ch)] := hl
  refine lv_aload_n hx hb dJ0_indexOf_0f7a4_0 rfl (lv_at hl 0 rfl) ?_
  refine lv_iload_n hx hb dJ0_indexOf_0f7a4_1 rfl (lv_at hl 1 rfl) ?_
  refine lv_iconst (v := 0) hx hb dJ0_indexOf_0f7a4_2 (by decide) ?_
  have hFc := va_free (wc := []) hD hS hA [] rfl
  refine va_calli (va_runV (As := [.int ch, .int 0]) (rest := []) ⟨hx, hb, hml, hown, hts⟩ (zc_J0_indexOf_7cf53 l D G ch s.heap.size) (cwV 2 hts gzJ0_indexOf_0f7a4_J0_indexOf_7cf53_633 rfl rfl rfl (by decide +kernel) ⟨(Nat.le_of_ble_eq_true rfl), (Nat.le_of_ble_eq_true rfl)⟩) ⟨p_RW_blind, vk_recv hZ.2.2.2.2.2 (i := 0) (by decide) hS, (p_RW_at (tc := []) (wc := []) hP hK hD hS hA hT hZ [] [] rfl rfl (by decide) rfl [.ref G.2.1, .int ch, .int 0])⟩ rfl rfl hl.1 rfl (lv_room (Nat.le_of_ble_eq_true rfl)) dJ0_indexOf_0f7a4_3 ⟨(Nat.le_of_ble_eq_true rfl), (Nat.le_of_ble_eq_true rfl)⟩) hS (fun q _ h => hFc q h) hFc (fun r_391 u t H locs ht hvm w_392 hB hz1 hk1 hS => ?_)
  obtain ⟨hP, hD, hK⟩ := q_join (D := D) (wc := []) (wr := []) (w1 := []) (tyr := []) (ty1 := []) hP hD hK [] [] [] rfl rfl (by decide) (by decide) rfl hFc hk1 ht hvm hB
  have hP : va_P D vwCl [] H := hP
  have hD : va_D A [] := hD
  have hK : va_K D vwCl [] s := hK
  rcases w_392 with ⟨c_393, rfl⟩ | ⟨c_394, rfl⟩ | ⟨c_395, rfl⟩ | ⟨c_396, rfl⟩ | ⟨c_397, rfl⟩
  · exact W.iret (v := 0) hx hb hr (fun t ht hW => ⟨⟨0, (), rfl, (Or.inl (⟨(by first | assumption | exact inR_1 (by assumption) (by assumption) | exact inR_2 (by assumption) (by assumption) | exact inR_3 (by assumption) | exact inR_4 (by assumption) | exact inR_5 (by assumption) | exact ⟨by assumption, by assumption, by assumption, by assumption⟩ | exact ⟨by assumption, by assumption, by assumption⟩ | exact (fun q => absurd q.1 (by assumption)) | exact (fun q => absurd q.2.1 (by assumption)) | exact (fun q => absurd q.2.2 (by assumption)) | exact (fun q => absurd q.2.2.1 (by assumption)) | exact (fun q => absurd q.2.2.2 (by assumption)) | exact isRole_no (by assumption) (by assumption) (by assumption) (by assumption) | exact isRole_nb (by assumption) (by assumption) (by assumption) (by assumption) | exact isRole_out (by assumption) | exact enc_use (by assumption) (by assumption) (by assumption) | exact enc_103 (by assumption) | exact enc_103 (Eq.symm (by assumption)) | exact enc_115 (Eq.symm (by assumption)) | exact enc_102 (Eq.symm (by assumption)) | exact enc_98 (Eq.symm (by assumption)) | exact isRole_nc (by assumption) (by assumption) (by assumption) (by assumption) | exact enc_115 (by assumption) | exact enc_102 (by assumption) | exact enc_98 (by assumption) | exact Or.inr (by assumption) | rfl | exact Or.inl (by assumption) | exact Or.inr (Or.inl (by assumption)) | exact Or.inr (Or.inr (Or.inl (by assumption))) | exact Or.inr (Or.inr (Or.inr (by assumption))) | decide), rfl⟩)), q_RW_mk hP hK hD [] [] rfl rfl (by decide) rfl ht hW.alike⟩, hS.F ht⟩) hS.2.2 dJ0_indexOf_0f7a4_6
  · exact W.iret (v := 1) hx hb hr (fun t ht hW => ⟨⟨1, (), rfl, (Or.inr (Or.inl (⟨(by first | assumption | exact inR_1 (by assumption) (by assumption) | exact inR_2 (by assumption) (by assumption) | exact inR_3 (by assumption) | exact inR_4 (by assumption) | exact inR_5 (by assumption) | exact ⟨by assumption, by assumption, by assumption, by assumption⟩ | exact ⟨by assumption, by assumption, by assumption⟩ | exact (fun q => absurd q.1 (by assumption)) | exact (fun q => absurd q.2.1 (by assumption)) | exact (fun q => absurd q.2.2 (by assumption)) | exact (fun q => absurd q.2.2.1 (by assumption)) | exact (fun q => absurd q.2.2.2 (by assumption)) | exact isRole_no (by assumption) (by assumption) (by assumption) (by assumption) | exact isRole_nb (by assumption) (by assumption) (by assumption) (by assumption) | exact isRole_out (by assumption) | exact enc_use (by assumption) (by assumption) (by assumption) | exact enc_103 (by assumption) | exact enc_103 (Eq.symm (by assumption)) | exact enc_115 (Eq.symm (by assumption)) | exact enc_102 (Eq.symm (by assumption)) | exact enc_98 (Eq.symm (by assumption)) | exact isRole_nc (by assumption) (by assumption) (by assumption) (by assumption) | exact enc_115 (by assumption) | exact enc_102 (by assumption) | exact enc_98 (by assumption) | exact Or.inr (by assumption) | rfl | exact Or.inl (by assumption) | exact Or.inr (Or.inl (by assumption)) | exact Or.inr (Or.inr (Or.inl (by assumption))) | exact Or.inr (Or.inr (Or.inr (by assumption))) | decide), rfl⟩))), q_RW_mk hP hK hD [] [] rfl rfl (by decide) rfl ht hW.alike⟩, hS.F ht⟩) hS.2.2 dJ0_indexOf_0f7a4_6
  · exact W.iret (v := 2) hx hb hr (fun t ht hW => ⟨⟨2, (), rfl, (Or.inr (Or.inr (Or.inl (⟨(by first | assumption | exact inR_1 (by assumption) (by assumption) | exact inR_2 (by assumption) (by assumption) | exact inR_3 (by assumption) | exact inR_4 (by assumption) | exact inR_5 (by assumption) | exact ⟨by assumption, by assumption, by assumption, by assumption⟩ | exact ⟨by assumption, by assumption, by assumption⟩ | exact (fun q => absurd q.1 (by assumption)) | exact (fun q => absurd q.2.1 (by assumption)) | exact (fun q => absurd q.2.2 (by assumption)) | exact (fun q => absurd q.2.2.1 (by assumption)) | exact (fun q => absurd q.2.2.2 (by assumption)) | exact isRole_no (by assumption) (by assumption) (by assumption) (by assumption) | exact isRole_nb (by assumption) (by assumption) (by assumption) (by assumption) | exact isRole_out (by assumption) | exact enc_use (by assumption) (by assumption) (by assumption) | exact enc_103 (by assumption) | exact enc_103 (Eq.symm (by assumption)) | exact enc_115 (Eq.symm (by assumption)) | exact enc_102 (Eq.symm (by assumption)) | exact enc_98 (Eq.symm (by assumption)) | exact isRole_nc (by assumption) (by assumption) (by assumption) (by assumption) | exact enc_115 (by assumption) | exact enc_102 (by assumption) | exact enc_98 (by assumption) | exact Or.inr (by assumption) | rfl | exact Or.inl (by assumption) | exact Or.inr (Or.inl (by assumption)) | exact Or.inr (Or.inr (Or.inl (by assumption))) | exact Or.inr (Or.inr (Or.inr (by assumption))) | decide), rfl⟩)))), q_RW_mk hP hK hD [] [] rfl rfl (by decide) rfl ht hW.alike⟩, hS.F ht⟩) hS.2.2 dJ0_indexOf_0f7a4_6
  · exact W.iret (v := 3) hx hb hr (fun t ht hW => ⟨⟨3, (), rfl, (Or.inr (Or.inr (Or.inr (Or.inl (⟨(by first | assumption | exact inR_1 (by assumption) (by assumption) | exact inR_2 (by assumption) (by assumption) | exact inR_3 (by assumption) | exact inR_4 (by assumption) | exact inR_5 (by assumption) | exact ⟨by assumption, by assumption, by assumption, by assumption⟩ | exact ⟨by assumption, by assumption, by assumption⟩ | exact (fun q => absurd q.1 (by assumption)) | exact (fun q => absurd q.2.1 (by assumption)) | exact (fun q => absurd q.2.2 (by assumption)) | exact (fun q => absurd q.2.2.1 (by assumption)) | exact (fun q => absurd q.2.2.2 (by assumption)) | exact isRole_no (by assumption) (by assumption) (by assumption) (by assumption) | exact isRole_nb (by assumption) (by assumption) (by assumption) (by assumption) | exact isRole_out (by assumption) | exact enc_use (by assumption) (by assumption) (by assumption) | exact enc_103 (by assumption) | exact enc_103 (Eq.symm (by assumption)) | exact enc_115 (Eq.symm (by assumption)) | exact enc_102 (Eq.symm (by assumption)) | exact enc_98 (Eq.symm (by assumption)) | exact isRole_nc (by assumption) (by assumption) (by assumption) (by assumption) | exact enc_115 (by assumption) | exact enc_102 (by assumption) | exact enc_98 (by assumption) | exact Or.inr (by assumption) | rfl | exact Or.inl (by assumption) | exact Or.inr (Or.inl (by assumption)) | exact Or.inr (Or.inr (Or.inl (by assumption))) | exact Or.inr (Or.inr (Or.inr (by assumption))) | decide), rfl⟩))))), q_RW_mk hP hK hD [] [] rfl rfl (by decide) rfl ht hW.alike⟩, hS.F ht⟩) hS.2.2 dJ0_indexOf_0f7a4_6
  · exact W.iret (v := (-1)) hx hb hr (fun t ht hW => ⟨⟨(-1), (), rfl, (Or.inr (Or.inr (Or.inr (Or.inr (⟨(by first | assumption | exact inR_1 (by assumption) (by assumption) | exact inR_2 (by assumption) (by assumption) | exact inR_3 (by assumption) | exact inR_4 (by assumption) | exact inR_5 (by assumption) | exact ⟨by assumption, by assumption, by assumption, by assumption⟩ | exact ⟨by assumption, by assumption, by assumption⟩ | exact (fun q => absurd q.1 (by assumption)) | exact (fun q => absurd q.2.1 (by assumption)) | exact (fun q => absurd q.2.2 (by assumption)) | exact (fun q => absurd q.2.2.1 (by assumption)) | exact (fun q => absurd q.2.2.2 (by assumption)) | exact isRole_no (by assumption) (by assumption) (by assumption) (by assumption) | exact isRole_nb (by assumption) (by assumption) (by assumption) (by assumption) | exact isRole_out (by assumption) | exact enc_use (by assumption) (by assumption) (by assumption) | exact enc_103 (by assumption) | exact enc_103 (Eq.symm (by assumption)) | exact enc_115 (Eq.symm (by assumption)) | exact enc_102 (Eq.symm (by assumption)) | exact enc_98 (Eq.symm (by assumption)) | exact isRole_nc (by assumption) (by assumption) (by assumption) (by assumption) | exact enc_115 (by assumption) | exact enc_102 (by assumption) | exact enc_98 (by assumption) | exact Or.inr (by assumption) | rfl | exact Or.inl (by assumption) | exact Or.inr (Or.inl (by assumption)) | exact Or.inr (Or.inr (Or.inl (by assumption))) | exact Or.inr (Or.inr (Or.inr (by assumption))) | decide), rfl⟩))))), q_RW_mk hP hK hD [] [] rfl rfl (by decide) rfl ht hW.alike⟩, hS.F ht⟩) hS.2.2 dJ0_indexOf_0f7a4_6
theorem dX7_init_0 : decode cX7_init 0 = .ok (.aload_n 0, 1) := by decide +kernel
theorem dX7_init_1 : decode cX7_init 1 = .ok (.invokespecial 1, 3) := by decide +kernel
theorem dX7_init_4 : decode cX7_init 4 = .ok (.aload_n 0, 1) := by decide +kernel
theorem dX7_init_5 : decode cX7_init 5 = .ok (.iload_n 1, 1) := by decide +kernel
theorem dX7_init_6 : decode cX7_init 6 = .ok (.putfield 7, 3) := by decide +kernel
theorem dX7_init_9 : decode cX7_init 9 = .ok (.aload_n 0, 1) := by decide +kernel
theorem dX7_init_10 : decode cX7_init 10 = .ok (.iload_n 2, 1) := by decide +kernel
theorem dX7_init_11 : decode cX7_init 11 = .ok (.putfield 13, 3) := by decide +kernel
theorem dX7_init_14 : decode cX7_init 14 = .ok (.aload_n 0, 1) := by decide +kernel
theorem dX7_init_15 : decode cX7_init 15 = .ok (.iload_n 3, 1) := by decide +kernel
theorem dX7_init_16 : decode cX7_init 16 = .ok (.putfield 16, 3) := by decide +kernel
theorem dX7_init_19 : decode cX7_init 19 = .ok (.aload_n 0, 1) := by decide +kernel
theorem dX7_init_20 : decode cX7_init 20 = .ok (.iload 4, 2) := by decide +kernel
theorem dX7_init_22 : decode cX7_init 22 = .ok (.putfield 19, 3) := by decide +kernel
theorem dX7_init_25 : decode cX7_init 25 = .ok (.return_, 1) := by decide +kernel
def wzEX7_init : List Cond := [.code yX7_init cX7_init 5 none, .methodLink RX7 1 objectInit, .instanceMethod objectInit, .code objectInit ⟨#[0xb1]⟩ 1 none, .fieldLink RX7 7 "GatherhouseModel$Glass" "low" "I", .fieldLink RX7 13 "GatherhouseModel$Glass" "high" "I", .fieldLink RX7 16 "GatherhouseModel$Glass" "expansion" "I", .fieldLink RX7 19 "GatherhouseModel$Glass" "colour" "I"]
def wzX7_init : List Cond := wzEX7_init ++ (u_ws RX7 TX7 4)
theorem zgEX7_init : wzEX7_init.all goodWord = true := by decide +kernel
theorem zuX7_init_X7 : ∀ w ∈ u_ws RX7 TX7 4, w ∈ wzX7_init := (fun _ h => (List.mem_append_right _ h))
set_option maxHeartbeats 4000000 in
set_option maxRecDepth 100000 in
theorem zc_X7_init (l : Launch) (D : va_G) (G : Nat × Nat × Nat) (go : Nat) (lo : Int32) (hi : Int32) (xe : Int32) (co : Int32) (sz : Nat) : Met l yX7_init wzX7_init ({ frames := 1, cells := 0, slots := 0, locals := 12 }) (va_Pc [.ref go, .int lo, .int hi, .int xe, .int co] (p_RW D G [] [(go, .inr (12, [.int 0, .int 0, .int 0, .int 0]))] sz)) (va_Qv (fun (u : Unit) => True) (fun (u : Unit) (t : State) => q_RW D [] [(go, .inr (12, [.int lo, .int hi, .int xe, .int co]))] (va_A [(go, .inr (12, [.int 0, .int 0, .int 0, .int 0]))] sz) t) (va_A [(go, .inr (12, [.int 0, .int 0, .int 0, .int 0]))] sz)) 0 0 (va_A [(go, .inr (12, [.int 0, .int 0, .int 0, .int 0]))] sz) := by
  refine Met.ofW (cc := cX7_init) (maxL := 5) (ret := none) (by decide) rfl ?_
  intro p e s m args below meth c s₁ B hml hv
  obtain ⟨rfl, hsz, hP, hK, hD0, hT, hZ⟩ := hv
  have hx := B.exec
  have hb := B.bytes
  have hr := B.returns
  have hts := atoms_spec (ws := wzX7_init) B.pre
  have hown : s.vm.findClass RX7 = some m.cls := findClass_of_methodNamed B.named
  have hlocks := B.notSynchronized
  have hin : meth.name = "<init>" := (name_of_methodNamed B.named B.method).1
  subst hsz
  have hD := hD0.self (sz := s.heap.size)
  generalize hAe : va_A [(go, .inr (12, [.int 0, .int 0, .int 0, .int 0]))] s.heap.size = A at hD hZ ⊢
  have hA : ∀ q : Nat, s.heap.size ≤ q → A q := fun q h => by rw [← hAe]; exact Or.inr h
  have hS : va_S A s.heap s.heap [] := va_S.rf
  have hl := lv_entry ([.ref go, .int lo, .int hi, .int xe, .int co]) (n := 5) (Nat.le_of_ble_eq_true rfl)
  rw [lg_entry_eq]
  generalize (lg_sl ([.ref go, .int lo, .int hi, .int xe, .int co]) ++ List.replicate (5 - (lg_sl ([.ref go, .int lo, .int hi, .int xe, .int co])).length) Slot.unset).toArray = ls at hl ⊢
  have hl : lv_has ls 5 [(0, .ref go), (1, .int lo), (2, .int hi), (3, .int xe), (4, .int co)] := hl
  refine lv_aload_n hx hb dX7_init_0 rfl (lv_at hl 0 rfl) ?_
  refine W.objInit hx hb hown (hts (.methodLink RX7 1 objectInit) (by decide +kernel)) (hts (.instanceMethod objectInit) (by decide +kernel)) (hts (.code objectInit ⟨#[0xb1]⟩ 1 none) (by decide +kernel)) rfl (by rw [hml]; exact hl.1) rfl dX7_init_1 (Nat.le_of_ble_eq_true rfl) (Nat.le_of_ble_eq_true rfl) ?_
  refine W.eq (g2 := F0 m 4 ls []) rfl ?_
  refine lv_aload_n hx hb dX7_init_4 rfl (lv_at hl 0 rfl) ?_
  refine lv_iload_n hx hb dX7_init_5 rfl (lv_at hl 1 rfl) ?_
  refine va_putF (D := D) (cl := vwCl) (ci := 12) (v := .int lo) (ty := .int) (C := RX7) (T := TX7) (N := 4) hx hb hts zuX7_init_X7 tyX7 tyX7_ok nmX7 hown hK hP hD hS 0 rfl rfl 0 (by decide) (hts (.fieldLink RX7 7 "GatherhouseModel$Glass" "low" "I") (by decide +kernel)) (fun _ h9 => h9) rfl hin rfl (by decide +kernel) rfl rfl (Nat.le_of_ble_eq_true rfl) dX7_init_6 (fun H locs hP hD hS => ?_)
  have hP : va_P D vwCl [(go, .inr (12, [.int lo, .int 0, .int 0, .int 0]))] H := hP
  have hD : va_D A [(go, .inr (12, [.int lo, .int 0, .int 0, .int 0]))] := hD
  refine lv_aload_n hx hb dX7_init_9 rfl (lv_at hl 0 rfl) ?_
  refine lv_iload_n hx hb dX7_init_10 rfl (lv_at hl 2 rfl) ?_
  refine va_putF (D := D) (cl := vwCl) (ci := 12) (v := .int hi) (ty := .int) (C := RX7) (T := TX7) (N := 4) hx hb hts zuX7_init_X7 tyX7 tyX7_ok nmX7 hown hK hP hD hS 0 rfl rfl 1 (by decide) (hts (.fieldLink RX7 13 "GatherhouseModel$Glass" "high" "I") (by decide +kernel)) (fun _ h9 => h9) rfl hin rfl (by decide +kernel) rfl rfl (Nat.le_of_ble_eq_true rfl) dX7_init_11 (fun H locs hP hD hS => ?_)
  have hP : va_P D vwCl [(go, .inr (12, [.int lo, .int hi, .int 0, .int 0]))] H := hP
  have hD : va_D A [(go, .inr (12, [.int lo, .int hi, .int 0, .int 0]))] := hD
  refine lv_aload_n hx hb dX7_init_14 rfl (lv_at hl 0 rfl) ?_
  refine lv_iload_n hx hb dX7_init_15 rfl (lv_at hl 3 rfl) ?_
  refine va_putF (D := D) (cl := vwCl) (ci := 12) (v := .int xe) (ty := .int) (C := RX7) (T := TX7) (N := 4) hx hb hts zuX7_init_X7 tyX7 tyX7_ok nmX7 hown hK hP hD hS 0 rfl rfl 2 (by decide) (hts (.fieldLink RX7 16 "GatherhouseModel$Glass" "expansion" "I") (by decide +kernel)) (fun _ h9 => h9) rfl hin rfl (by decide +kernel) rfl rfl (Nat.le_of_ble_eq_true rfl) dX7_init_16 (fun H locs hP hD hS => ?_)
  have hP : va_P D vwCl [(go, .inr (12, [.int lo, .int hi, .int xe, .int 0]))] H := hP
  have hD : va_D A [(go, .inr (12, [.int lo, .int hi, .int xe, .int 0]))] := hD
  refine lv_aload_n hx hb dX7_init_19 rfl (lv_at hl 0 rfl) ?_
  refine lv_iload hx hb dX7_init_20 (lv_at hl 4 rfl) ?_
  refine va_putF (D := D) (cl := vwCl) (ci := 12) (v := .int co) (ty := .int) (C := RX7) (T := TX7) (N := 4) hx hb hts zuX7_init_X7 tyX7 tyX7_ok nmX7 hown hK hP hD hS 0 rfl rfl 3 (by decide) (hts (.fieldLink RX7 19 "GatherhouseModel$Glass" "colour" "I") (by decide +kernel)) (fun _ h9 => h9) rfl hin rfl (by decide +kernel) rfl rfl (Nat.le_of_ble_eq_true rfl) dX7_init_22 (fun H locs hP hD hS => ?_)
  have hP : va_P D vwCl [(go, .inr (12, [.int lo, .int hi, .int xe, .int co]))] H := hP
  have hD : va_D A [(go, .inr (12, [.int lo, .int hi, .int xe, .int co]))] := hD
  exact W.vret hx hb hr (fun t ht hW => ⟨⟨(), rfl, trivial, q_RW_mk hP hK hD [0] [] rfl rfl (by decide) rfl ht hW.alike⟩, hS.F ht⟩) hS.2.2 dX7_init_25
theorem dX11_thrown_0 : decode cX11_thrown 0 = .ok (.aload_n 0, 1) := by decide +kernel
theorem dX11_thrown_1 : decode cX11_thrown 1 = .ok (.getfield 41, 3) := by decide +kernel
theorem dX11_thrown_4 : decode cX11_thrown 4 = .ok (.ireturn, 1) := by decide +kernel
def wzEX11_thrown : List Cond := [.code yX11_thrown cX11_thrown 1 (some .int), .fieldLink RX11 41 "GatherhouseModel" "thrown" "I"]
def wzX11_thrown : List Cond := wzEX11_thrown ++ (u_ws RX11 TX11 13)
theorem zgEX11_thrown : wzEX11_thrown.all goodWord = true := by decide +kernel
theorem zuX11_thrown_X11 : ∀ w ∈ u_ws RX11 TX11 13, w ∈ wzX11_thrown := (fun _ h => (List.mem_append_right _ h))
set_option maxHeartbeats 4000000 in
set_option maxRecDepth 100000 in
theorem zc_X11_thrown (l : Launch) (D : va_G) (G : Nat × Nat × Nat) (mo : Nat) (gl : Nat) (po : Nat) (pi : Nat) (bu : Nat) (pa : Nat) (th : Int32) (mh : Int32) (mt : Int32) (md : Int32) : Met l yX11_thrown wzX11_thrown ({ frames := 0, cells := 0, slots := 0, locals := 0 }) (va_Pc [.ref mo] (p_RO D G [] [(mo, .inr (16, [.int th, .ref gl, .ref po, .ref pi, .ref bu, .ref pa, .int mt, .int mh, .int md, .int 0, .null, .int 0, .int 0]))])) (vp_Si (fun r => r = th)) 0 0 (fun _ => False) := by
  refine Met.ofW (cc := cX11_thrown) (maxL := 1) (ret := (some .int)) (by decide) rfl ?_
  intro p e s m args below meth c s₁ B hml hv
  obtain ⟨rfl, hP, hK, hT⟩ := hv
  have hx := B.exec
  have hb := B.bytes
  have hr := B.returns
  have hts := atoms_spec (ws := wzX11_thrown) B.pre
  have hown : s.vm.findClass RX11 = some m.cls := findClass_of_methodNamed B.named
  have hlocks := B.notSynchronized
  have hl := lv_entry ([.ref mo]) (n := 1) (Nat.le_of_ble_eq_true rfl)
  rw [lg_entry_eq]
  generalize (lg_sl ([.ref mo]) ++ List.replicate (1 - (lg_sl ([.ref mo])).length) Slot.unset).toArray = ls at hl ⊢
  have hl : lv_has ls 1 [(0, .ref mo)] := hl
  refine lv_aload_n hx hb dX11_thrown_0 rfl (lv_at hl 0 rfl) ?_
  refine va_get (D := D) (cl := vwCl) (ci := 16) (v := .int th) (C := RX11) (T := TX11) (N := 13) hx hb hts zuX11_thrown_X11 hown hK hP 0 rfl rfl 0 (by decide) (hts (.fieldLink RX11 41 "GatherhouseModel" "thrown" "I") (by decide +kernel)) (fun _ h9 => h9) rfl dX11_thrown_1 ?_
  exact W.iret (v := th) hx hb hr (fun t ht hW => ⟨th, rfl, rfl, ht⟩) (fun q h => by cases h) dX11_thrown_4
theorem dX11_isGlass_0 : decode cX11_isGlass 0 = .ok (.iload_n 1, 1) := by decide +kernel
theorem dX11_isGlass_1 : decode cX11_isGlass 1 = .ok (.iconst 0, 1) := by decide +kernel
theorem dX11_isGlass_2 : decode cX11_isGlass 2 = .ok (.aload_n 0, 1) := by decide +kernel
theorem dX11_isGlass_3 : decode cX11_isGlass 3 = .ok (.getfield 10, 3) := by decide +kernel
theorem dX11_isGlass_6 : decode cX11_isGlass 6 = .ok (.invokevirtual 44, 3) := by decide +kernel
theorem dX11_isGlass_9 : decode cX11_isGlass 9 = .ok (.iconst 1, 1) := by decide +kernel
theorem dX11_isGlass_10 : decode cX11_isGlass 10 = .ok (.isub, 1) := by decide +kernel
theorem dX11_isGlass_11 : decode cX11_isGlass 11 = .ok (.invokestatic 47, 3) := by decide +kernel
theorem dX11_isGlass_14 : decode cX11_isGlass 14 = .ok (.ireturn, 1) := by decide +kernel
def wzEX11_isGlass : List Cond := [.code yX11_isGlass cX11_isGlass 2 (some .boolean), .fieldLink RX11 10 "GatherhouseModel" "glasses" "Ljava/util/ArrayList;", .methodLink RX11 44 yJx4a65c_size_8abf5, .instanceMethod yJx4a65c_size_8abf5, .selects RJx4a65c yJx4a65c_size_8abf5 yJx4a65c_size_8abf5, .initialized RJx4a65c, .code yJx4a65c_size_8abf5 cJx4a65c_size_8abf5 1 (some .int), .fieldLink RJx4a65c 48 "java/util/ArrayList" "size" "I", .methodLink RX11 47 yX11_in, .static yX11_in, .initialized RX11, .code yX11_in cX11_in 3 (some .boolean)]
def wzX11_isGlass : List Cond := wzEX11_isGlass ++ (u_ws RX11 TX11 13 ++ (u_ws RJx4a65c TJx4a65c 3))
theorem zgEX11_isGlass : wzEX11_isGlass.all goodWord = true := by decide +kernel
theorem zuX11_isGlass_X11 : ∀ w ∈ u_ws RX11 TX11 13, w ∈ wzX11_isGlass := (fun _ h => (List.mem_append_right _ (List.mem_append_left _ h)))
theorem zuX11_isGlass_Jx4a65c : ∀ w ∈ u_ws RJx4a65c TJx4a65c 3, w ∈ wzX11_isGlass := (fun _ h => (List.mem_append_right _ (List.mem_append_right _ h)))
theorem gzX11_isGlass_Jx4a65c_size_8abf5_44 : GoodIn wzX11_isGlass (wsV RX11 44 RJx4a65c yJx4a65c_size_8abf5 wzJx4a65c_size_8abf5) := (goodIn_app (z_lift (goodIn_r _ [2, 3, 4, 5] rfl (by decide +kernel))) (goodIn_app (z_lift (goodIn_r wzEJx4a65c_size_8abf5 [6, 7] rfl zgEJx4a65c_size_8abf5)) (goodIn_sub (fun _ h => (List.mem_append_right _ (List.mem_append_right _ h))) zgU_Jx4a65c)))
theorem gzX11_isGlass_X11_in_47 : GoodIn wzX11_isGlass (va_wsS RX11 47 yX11_in wzX11_in) := (goodIn_app (z_lift (goodIn_r _ [8, 9, 10] rfl (by decide +kernel))) (goodIn_app (z_lift (goodIn_r wzEX11_in [11] rfl zgEX11_in)) z_gnil))
set_option maxHeartbeats 4000000 in
set_option maxRecDepth 100000 in
theorem zc_X11_isGlass (l : Launch) (D : va_G) (G : Nat × Nat × Nat) (mo : Nat) (gl : Nat) (po : Nat) (pi : Nat) (bu : Nat) (pa : Nat) (th : Int32) (mh : Int32) (mt : Int32) (ii : Int32) : Met l yX11_isGlass wzX11_isGlass ({ frames := 1, cells := 0, slots := 0, locals := 22 }) (va_Pc [.ref mo, .int ii] (p_RO D G [] [(mo, .inr (16, [.int th, .ref gl, .ref po, .ref pi, .ref bu, .ref pa, .int mt, .int mh, .int 40, .int 0, .null, .int 0, .int 0])), (gl, .inr (4, [.int 0, .ref G.1, .int 0]))])) (vp_Si (fun r => r = 0)) 0 0 (fun _ => False) := by
  refine Met.ofW (cc := cX11_isGlass) (maxL := 2) (ret := (some .boolean)) (by decide) rfl ?_
  intro p e s m args below meth c s₁ B hml hv
  obtain ⟨rfl, hP, hK, hT⟩ := hv
  have hx := B.exec
  have hb := B.bytes
  have hr := B.returns
  have hts := atoms_spec (ws := wzX11_isGlass) B.pre
  have hown : s.vm.findClass RX11 = some m.cls := findClass_of_methodNamed B.named
  have hlocks := B.notSynchronized
  have hl := lv_entry ([.ref mo, .int ii]) (n := 2) (Nat.le_of_ble_eq_true rfl)
  rw [lg_entry_eq]
  generalize (lg_sl ([.ref mo, .int ii]) ++ List.replicate (2 - (lg_sl ([.ref mo, .int ii])).length) Slot.unset).toArray = ls at hl ⊢
  have hl : lv_has ls 2 [(0, .ref mo), (1, .int ii)] := hl
  refine lv_iload_n hx hb dX11_isGlass_0 rfl (lv_at hl 1 rfl) ?_
  refine lv_iconst (v := 0) hx hb dX11_isGlass_1 (by decide) ?_
  refine lv_aload_n hx hb dX11_isGlass_2 rfl (lv_at hl 0 rfl) ?_
  refine va_get (D := D) (cl := vwCl) (ci := 16) (v := .ref gl) (C := RX11) (T := TX11) (N := 13) hx hb hts zuX11_isGlass_X11 hown hK hP 0 rfl rfl 1 (by decide) (hts (.fieldLink RX11 10 "GatherhouseModel" "glasses" "Ljava/util/ArrayList;") (by decide +kernel)) (fun _ h9 => h9) rfl dX11_isGlass_3 ?_
  refine vp_callSi (va_runV (As := []) (rest := [.int 0, .int ii]) ⟨hx, hb, hml, hown, hts⟩ (zc_Jx4a65c_size_8abf5 l D G gl G.1 0 0) (cwV 0 hts gzX11_isGlass_Jx4a65c_size_8abf5_44 rfl rfl rfl (by decide +kernel) ⟨(Nat.le_of_ble_eq_true rfl), (Nat.le_of_ble_eq_true rfl)⟩) ⟨p_RO_blind, va_recv hK hP (ci := 4) (q0 := 1) rfl rfl, (p_RO_at (tc := []) (wc := [(gl, .inr (4, [.int 0, .ref G.1, .int 0]))]) hP hK hT [1] [] rfl rfl [.ref gl])⟩ rfl rfl hl.1 rfl (lv_room (Nat.le_of_ble_eq_true rfl)) dX11_isGlass_6 ⟨(Nat.le_of_ble_eq_true rfl), (Nat.le_of_ble_eq_true rfl)⟩).run (fun r_398 w_399 => ?_)
  obtain rfl := w_399
  refine lv_iconst (v := 1) hx hb dX11_isGlass_9 (by decide) ?_
  refine lv_isub hx hb dX11_isGlass_10 ?_
  refine lv_topi (fun y_400 ey_400 => ?_)
  have ey_400 : y_400 = (-1) := ey_400.trans (by decide +kernel)
  subst ey_400
  refine vp_callSi (va_runS (As := [.int ii, .int 0, .int (-1)]) (rest := []) ⟨hx, hb, hml, hown, hts⟩ (zc_X11_in l D G ii 0 (-1)) (cwS 3 hts gzX11_isGlass_X11_in_47 rfl rfl rfl (by decide +kernel) ⟨(Nat.le_of_ble_eq_true rfl), (Nat.le_of_ble_eq_true rfl)⟩) ⟨p_RO_blind, (p_RO_at (tc := []) (wc := []) hP hK hT [] [] rfl rfl [.int ii, .int 0, .int (-1)])⟩ rfl rfl hl.1 rfl (lv_room (Nat.le_of_ble_eq_true rfl)) dX11_isGlass_11 ⟨(Nat.le_of_ble_eq_true rfl), (Nat.le_of_ble_eq_true rfl)⟩).run (fun r_401 w_402 => ?_)
  rcases w_402 with ⟨c_403, rfl⟩ | ⟨c_404, rfl⟩
  · exact absurd c_403 (inR_none _)
  · exact W.zret (v := 0) hx hb hr rfl (fun t ht hW => ⟨0, rfl, rfl, ht⟩) (fun q h => by cases h) dX11_isGlass_14
theorem dX11_noPiece_0 : decode cX11_noPiece 0 = .ok (.aload_n 0, 1) := by decide +kernel
theorem dX11_noPiece_1 : decode cX11_noPiece 1 = .ok (.iload_n 1, 1) := by decide +kernel
theorem dX11_noPiece_2 : decode cX11_noPiece 2 = .ok (.iconst 0, 1) := by decide +kernel
theorem dX11_noPiece_3 : decode cX11_noPiece 3 = .ok (.aload_n 0, 1) := by decide +kernel
theorem dX11_noPiece_4 : decode cX11_noPiece 4 = .ok (.getfield 19, 3) := by decide +kernel
theorem dX11_noPiece_7 : decode cX11_noPiece 7 = .ok (.invokevirtual 44, 3) := by decide +kernel
theorem dX11_noPiece_10 : decode cX11_noPiece 10 = .ok (.iconst 1, 1) := by decide +kernel
theorem dX11_noPiece_11 : decode cX11_noPiece 11 = .ok (.isub, 1) := by decide +kernel
theorem dX11_noPiece_12 : decode cX11_noPiece 12 = .ok (.invokestatic 47, 3) := by decide +kernel
theorem dX11_noPiece_15 : decode cX11_noPiece 15 = .ok (.ifCond .eq 7, 3) := by decide +kernel
theorem dX11_noPiece_22 : decode cX11_noPiece 22 = .ok (.iconst 1, 1) := by decide +kernel
theorem dX11_noPiece_23 : decode cX11_noPiece 23 = .ok (.putfield 41, 3) := by decide +kernel
theorem dX11_noPiece_26 : decode cX11_noPiece 26 = .ok (.aload_n 0, 1) := by decide +kernel
theorem dX11_noPiece_27 : decode cX11_noPiece 27 = .ok (.getfield 41, 3) := by decide +kernel
theorem dX11_noPiece_30 : decode cX11_noPiece 30 = .ok (.ifCond .le 7, 3) := by decide +kernel
theorem dX11_noPiece_33 : decode cX11_noPiece 33 = .ok (.iconst 1, 1) := by decide +kernel
theorem dX11_noPiece_34 : decode cX11_noPiece 34 = .ok (.goto 4, 3) := by decide +kernel
theorem dX11_noPiece_38 : decode cX11_noPiece 38 = .ok (.ireturn, 1) := by decide +kernel
def wzEX11_noPiece : List Cond := [.code yX11_noPiece cX11_noPiece 2 (some .boolean), .fieldLink RX11 19 "GatherhouseModel" "pieces" "Ljava/util/ArrayList;", .methodLink RX11 44 yJx4a65c_size_8abf5, .instanceMethod yJx4a65c_size_8abf5, .selects RJx4a65c yJx4a65c_size_8abf5 yJx4a65c_size_8abf5, .initialized RJx4a65c, .code yJx4a65c_size_8abf5 cJx4a65c_size_8abf5 1 (some .int), .fieldLink RJx4a65c 48 "java/util/ArrayList" "size" "I", .methodLink RX11 47 yX11_in, .static yX11_in, .initialized RX11, .code yX11_in cX11_in 3 (some .boolean), .fieldLink RX11 41 "GatherhouseModel" "thrown" "I"]
def wzX11_noPiece : List Cond := wzEX11_noPiece ++ (u_ws RX11 TX11 13 ++ (u_ws RJx4a65c TJx4a65c 3))
theorem zgEX11_noPiece : wzEX11_noPiece.all goodWord = true := by decide +kernel
theorem zuX11_noPiece_X11 : ∀ w ∈ u_ws RX11 TX11 13, w ∈ wzX11_noPiece := (fun _ h => (List.mem_append_right _ (List.mem_append_left _ h)))
theorem zuX11_noPiece_Jx4a65c : ∀ w ∈ u_ws RJx4a65c TJx4a65c 3, w ∈ wzX11_noPiece := (fun _ h => (List.mem_append_right _ (List.mem_append_right _ h)))
theorem gzX11_noPiece_Jx4a65c_size_8abf5_44 : GoodIn wzX11_noPiece (wsV RX11 44 RJx4a65c yJx4a65c_size_8abf5 wzJx4a65c_size_8abf5) := (goodIn_app (z_lift (goodIn_r _ [2, 3, 4, 5] rfl (by decide +kernel))) (goodIn_app (z_lift (goodIn_r wzEJx4a65c_size_8abf5 [6, 7] rfl zgEJx4a65c_size_8abf5)) (goodIn_sub (fun _ h => (List.mem_append_right _ (List.mem_append_right _ h))) zgU_Jx4a65c)))
theorem gzX11_noPiece_X11_in_47 : GoodIn wzX11_noPiece (va_wsS RX11 47 yX11_in wzX11_in) := (goodIn_app (z_lift (goodIn_r _ [8, 9, 10] rfl (by decide +kernel))) (goodIn_app (z_lift (goodIn_r wzEX11_in [11] rfl zgEX11_in)) z_gnil))
set_option maxHeartbeats 4000000 in
set_option maxRecDepth 100000 in
theorem zc_X11_noPiece (l : Launch) (D : va_G) (G : Nat × Nat × Nat) (mo : Nat) (gl : Nat) (po : Nat) (pi : Nat) (bu : Nat) (pa : Nat) (th : Int32) (mh : Int32) (mt : Int32) (ii : Int32) (sz : Nat) : Met l yX11_noPiece wzX11_noPiece ({ frames := 1, cells := 0, slots := 0, locals := 22 }) (va_Pc [.ref mo, .int ii] (p_RW D G [] [(mo, .inr (16, [.int th, .ref gl, .ref po, .ref pi, .ref bu, .ref pa, .int mt, .int mh, .int 40, .int 0, .null, .int 0, .int 0])), (pi, .inr (4, [.int 0, .ref G.1, .int 0]))] sz)) (va_Qi (fun (r : Int32) (u : Unit) => r = 1) (fun (u : Unit) (t : State) => q_RW D [] [(mo, .inr (16, [.int 1, .ref gl, .ref po, .ref pi, .ref bu, .ref pa, .int mt, .int mh, .int 40, .int 0, .null, .int 0, .int 0])), (pi, .inr (4, [.int 0, .ref G.1, .int 0]))] (va_A [(mo, .inr (16, [.int th, .ref gl, .ref po, .ref pi, .ref bu, .ref pa, .int mt, .int mh, .int 40, .int 0, .null, .int 0, .int 0])), (pi, .inr (4, [.int 0, .ref G.1, .int 0]))] sz) t) (va_A [(mo, .inr (16, [.int th, .ref gl, .ref po, .ref pi, .ref bu, .ref pa, .int mt, .int mh, .int 40, .int 0, .null, .int 0, .int 0])), (pi, .inr (4, [.int 0, .ref G.1, .int 0]))] sz)) 0 0 (va_A [(mo, .inr (16, [.int th, .ref gl, .ref po, .ref pi, .ref bu, .ref pa, .int mt, .int mh, .int 40, .int 0, .null, .int 0, .int 0])), (pi, .inr (4, [.int 0, .ref G.1, .int 0]))] sz) := by
  refine Met.ofW (cc := cX11_noPiece) (maxL := 2) (ret := (some .boolean)) (by decide) rfl ?_
  intro p e s m args below meth c s₁ B hml hv
  obtain ⟨rfl, hsz, hP, hK, hD0, hT, hZ⟩ := hv
  have hx := B.exec
  have hb := B.bytes
  have hr := B.returns
  have hts := atoms_spec (ws := wzX11_noPiece) B.pre
  have hown : s.vm.findClass RX11 = some m.cls := findClass_of_methodNamed B.named
  have hlocks := B.notSynchronized
  subst hsz
  have hD := hD0.self (sz := s.heap.size)
  generalize hAe : va_A [(mo, .inr (16, [.int th, .ref gl, .ref po, .ref pi, .ref bu, .ref pa, .int mt, .int mh, .int 40, .int 0, .null, .int 0, .int 0])), (pi, .inr (4, [.int 0, .ref G.1, .int 0]))] s.heap.size = A at hD hZ ⊢
  have hA : ∀ q : Nat, s.heap.size ≤ q → A q := fun q h => by rw [← hAe]; exact Or.inr h
  have hS : va_S A s.heap s.heap [] := va_S.rf
  have hl := lv_entry ([.ref mo, .int ii]) (n := 2) (Nat.le_of_ble_eq_true rfl)
  rw [lg_entry_eq]
  generalize (lg_sl ([.ref mo, .int ii]) ++ List.replicate (2 - (lg_sl ([.ref mo, .int ii])).length) Slot.unset).toArray = ls at hl ⊢
  have hl : lv_has ls 2 [(0, .ref mo), (1, .int ii)] := hl
  refine lv_aload_n hx hb dX11_noPiece_0 rfl (lv_at hl 0 rfl) ?_
  refine lv_iload_n hx hb dX11_noPiece_1 rfl (lv_at hl 1 rfl) ?_
  refine lv_iconst (v := 0) hx hb dX11_noPiece_2 (by decide) ?_
  refine lv_aload_n hx hb dX11_noPiece_3 rfl (lv_at hl 0 rfl) ?_
  refine va_get (D := D) (cl := vwCl) (ci := 16) (v := .ref pi) (C := RX11) (T := TX11) (N := 13) hx hb hts zuX11_noPiece_X11 hown hK hP 0 rfl rfl 3 (by decide) (hts (.fieldLink RX11 19 "GatherhouseModel" "pieces" "Ljava/util/ArrayList;") (by decide +kernel)) (fun _ h9 => h9) rfl dX11_noPiece_4 ?_
  refine vp_callSi (va_runV (As := []) (rest := [.int 0, .int ii, .ref mo]) ⟨hx, hb, hml, hown, hts⟩ (zc_Jx4a65c_size_8abf5 l D G pi G.1 0 0) (cwV 0 hts gzX11_noPiece_Jx4a65c_size_8abf5_44 rfl rfl rfl (by decide +kernel) ⟨(Nat.le_of_ble_eq_true rfl), (Nat.le_of_ble_eq_true rfl)⟩) ⟨p_RO_blind, va_recv hK hP (ci := 4) (q0 := 1) rfl rfl, (p_RO_at (tc := []) (wc := [(pi, .inr (4, [.int 0, .ref G.1, .int 0]))]) hP hK hT [1] [] rfl rfl [.ref pi])⟩ rfl rfl hl.1 rfl (lv_room (Nat.le_of_ble_eq_true rfl)) dX11_noPiece_7 ⟨(Nat.le_of_ble_eq_true rfl), (Nat.le_of_ble_eq_true rfl)⟩).run (fun r_405 w_406 => ?_)
  obtain rfl := w_406
  refine lv_iconst (v := 1) hx hb dX11_noPiece_10 (by decide) ?_
  refine lv_isub hx hb dX11_noPiece_11 ?_
  refine lv_topi (fun y_407 ey_407 => ?_)
  have ey_407 : y_407 = (-1) := ey_407.trans (by decide +kernel)
  subst ey_407
  refine vp_callSi (va_runS (As := [.int ii, .int 0, .int (-1)]) (rest := [.ref mo]) ⟨hx, hb, hml, hown, hts⟩ (zc_X11_in l D G ii 0 (-1)) (cwS 3 hts gzX11_noPiece_X11_in_47 rfl rfl rfl (by decide +kernel) ⟨(Nat.le_of_ble_eq_true rfl), (Nat.le_of_ble_eq_true rfl)⟩) ⟨p_RO_blind, (p_RO_at (tc := []) (wc := []) hP hK hT [] [] rfl rfl [.int ii, .int 0, .int (-1)])⟩ rfl rfl hl.1 rfl (lv_room (Nat.le_of_ble_eq_true rfl)) dX11_noPiece_12 ⟨(Nat.le_of_ble_eq_true rfl), (Nat.le_of_ble_eq_true rfl)⟩).run (fun r_408 w_409 => ?_)
  rcases w_409 with ⟨c_410, rfl⟩ | ⟨c_411, rfl⟩
  · exact absurd c_410 (inR_none _)
  · refine lv_if_eq (tgt := 22) hx hb dX11_noPiece_15 (by decide) (fun _ => ?_) (fun cc => absurd (by decide) cc)
    refine lv_iconst (v := 1) hx hb dX11_noPiece_22 (by decide) ?_
    refine va_put (D := D) (cl := vwCl) (ci := 16) (v := .int 1) (ty := .int) (C := RX11) (T := TX11) (N := 13) hx hb hts zuX11_noPiece_X11 tyX11 tyX11_ok nmX11 hown hK hP hD hS 0 rfl rfl 0 (by decide) (hts (.fieldLink RX11 41 "GatherhouseModel" "thrown" "I") (by decide +kernel)) (fun _ h9 => h9) rfl (by decide +kernel) rfl rfl (Nat.le_of_ble_eq_true rfl) dX11_noPiece_23 (fun H locs hP hD hS => ?_)
    have hP : va_P D vwCl [(mo, .inr (16, [.int 1, .ref gl, .ref po, .ref pi, .ref bu, .ref pa, .int mt, .int mh, .int 40, .int 0, .null, .int 0, .int 0])), (pi, .inr (4, [.int 0, .ref G.1, .int 0]))] H := hP
    have hD : va_D A [(mo, .inr (16, [.int 1, .ref gl, .ref po, .ref pi, .ref bu, .ref pa, .int mt, .int mh, .int 40, .int 0, .null, .int 0, .int 0])), (pi, .inr (4, [.int 0, .ref G.1, .int 0]))] := hD
    refine lv_aload_n hx hb dX11_noPiece_26 rfl (lv_at hl 0 rfl) ?_
    refine va_get (D := D) (cl := vwCl) (ci := 16) (v := .int 1) (C := RX11) (T := TX11) (N := 13) hx hb hts zuX11_noPiece_X11 hown hK hP 0 rfl rfl 0 (by decide) (hts (.fieldLink RX11 41 "GatherhouseModel" "thrown" "I") (by decide +kernel)) (fun _ h9 => h9) rfl dX11_noPiece_27 ?_
    refine lv_if_le (tgt := 37) hx hb dX11_noPiece_30 (by decide) (fun cc => absurd cc (by decide)) (fun _ => ?_)
    refine lv_iconst (v := 1) hx hb dX11_noPiece_33 (by decide) ?_
    refine lv_goto (tgt := 38) hx hb dX11_noPiece_34 (by decide) ?_
    exact W.zret (v := 1) hx hb hr rfl (fun t ht hW => ⟨⟨1, (), rfl, rfl, q_RW_mk hP hK hD [0, 1] [] rfl rfl (by decide) rfl ht hW.alike⟩, hS.F ht⟩) hS.2.2 dX11_noPiece_38
theorem dX11_noPot_0 : decode cX11_noPot 0 = .ok (.aload_n 0, 1) := by decide +kernel
theorem dX11_noPot_1 : decode cX11_noPot 1 = .ok (.iload_n 1, 1) := by decide +kernel
theorem dX11_noPot_2 : decode cX11_noPot 2 = .ok (.iconst 0, 1) := by decide +kernel
theorem dX11_noPot_3 : decode cX11_noPot 3 = .ok (.aload_n 0, 1) := by decide +kernel
theorem dX11_noPot_4 : decode cX11_noPot 4 = .ok (.getfield 16, 3) := by decide +kernel
theorem dX11_noPot_7 : decode cX11_noPot 7 = .ok (.invokevirtual 44, 3) := by decide +kernel
theorem dX11_noPot_10 : decode cX11_noPot 10 = .ok (.iconst 1, 1) := by decide +kernel
theorem dX11_noPot_11 : decode cX11_noPot 11 = .ok (.isub, 1) := by decide +kernel
theorem dX11_noPot_12 : decode cX11_noPot 12 = .ok (.invokestatic 47, 3) := by decide +kernel
theorem dX11_noPot_15 : decode cX11_noPot 15 = .ok (.ifCond .eq 7, 3) := by decide +kernel
theorem dX11_noPot_22 : decode cX11_noPot 22 = .ok (.iconst 1, 1) := by decide +kernel
theorem dX11_noPot_23 : decode cX11_noPot 23 = .ok (.putfield 41, 3) := by decide +kernel
theorem dX11_noPot_26 : decode cX11_noPot 26 = .ok (.aload_n 0, 1) := by decide +kernel
theorem dX11_noPot_27 : decode cX11_noPot 27 = .ok (.getfield 41, 3) := by decide +kernel
theorem dX11_noPot_30 : decode cX11_noPot 30 = .ok (.ifCond .le 7, 3) := by decide +kernel
theorem dX11_noPot_33 : decode cX11_noPot 33 = .ok (.iconst 1, 1) := by decide +kernel
theorem dX11_noPot_34 : decode cX11_noPot 34 = .ok (.goto 4, 3) := by decide +kernel
theorem dX11_noPot_38 : decode cX11_noPot 38 = .ok (.ireturn, 1) := by decide +kernel
def wzEX11_noPot : List Cond := [.code yX11_noPot cX11_noPot 2 (some .boolean), .fieldLink RX11 16 "GatherhouseModel" "pots" "Ljava/util/ArrayList;", .methodLink RX11 44 yJx4a65c_size_8abf5, .instanceMethod yJx4a65c_size_8abf5, .selects RJx4a65c yJx4a65c_size_8abf5 yJx4a65c_size_8abf5, .initialized RJx4a65c, .code yJx4a65c_size_8abf5 cJx4a65c_size_8abf5 1 (some .int), .fieldLink RJx4a65c 48 "java/util/ArrayList" "size" "I", .methodLink RX11 47 yX11_in, .static yX11_in, .initialized RX11, .code yX11_in cX11_in 3 (some .boolean), .fieldLink RX11 41 "GatherhouseModel" "thrown" "I"]
def wzX11_noPot : List Cond := wzEX11_noPot ++ (u_ws RX11 TX11 13 ++ (u_ws RJx4a65c TJx4a65c 3))
theorem zgEX11_noPot : wzEX11_noPot.all goodWord = true := by decide +kernel
theorem zuX11_noPot_X11 : ∀ w ∈ u_ws RX11 TX11 13, w ∈ wzX11_noPot := (fun _ h => (List.mem_append_right _ (List.mem_append_left _ h)))
theorem zuX11_noPot_Jx4a65c : ∀ w ∈ u_ws RJx4a65c TJx4a65c 3, w ∈ wzX11_noPot := (fun _ h => (List.mem_append_right _ (List.mem_append_right _ h)))
theorem gzX11_noPot_Jx4a65c_size_8abf5_44 : GoodIn wzX11_noPot (wsV RX11 44 RJx4a65c yJx4a65c_size_8abf5 wzJx4a65c_size_8abf5) := (goodIn_app (z_lift (goodIn_r _ [2, 3, 4, 5] rfl (by decide +kernel))) (goodIn_app (z_lift (goodIn_r wzEJx4a65c_size_8abf5 [6, 7] rfl zgEJx4a65c_size_8abf5)) (goodIn_sub (fun _ h => (List.mem_append_right _ (List.mem_append_right _ h))) zgU_Jx4a65c)))
theorem gzX11_noPot_X11_in_47 : GoodIn wzX11_noPot (va_wsS RX11 47 yX11_in wzX11_in) := (goodIn_app (z_lift (goodIn_r _ [8, 9, 10] rfl (by decide +kernel))) (goodIn_app (z_lift (goodIn_r wzEX11_in [11] rfl zgEX11_in)) z_gnil))
set_option maxHeartbeats 4000000 in
set_option maxRecDepth 100000 in
theorem zc_X11_noPot (l : Launch) (D : va_G) (G : Nat × Nat × Nat) (mo : Nat) (gl : Nat) (po : Nat) (pi : Nat) (bu : Nat) (pa : Nat) (th : Int32) (mh : Int32) (mt : Int32) (ii : Int32) (sz : Nat) : Met l yX11_noPot wzX11_noPot ({ frames := 1, cells := 0, slots := 0, locals := 22 }) (va_Pc [.ref mo, .int ii] (p_RW D G [] [(mo, .inr (16, [.int th, .ref gl, .ref po, .ref pi, .ref bu, .ref pa, .int mt, .int mh, .int 40, .int 0, .null, .int 0, .int 0])), (po, .inr (4, [.int 0, .ref G.1, .int 0]))] sz)) (va_Qi (fun (r : Int32) (u : Unit) => r = 1) (fun (u : Unit) (t : State) => q_RW D [] [(mo, .inr (16, [.int 1, .ref gl, .ref po, .ref pi, .ref bu, .ref pa, .int mt, .int mh, .int 40, .int 0, .null, .int 0, .int 0])), (po, .inr (4, [.int 0, .ref G.1, .int 0]))] (va_A [(mo, .inr (16, [.int th, .ref gl, .ref po, .ref pi, .ref bu, .ref pa, .int mt, .int mh, .int 40, .int 0, .null, .int 0, .int 0])), (po, .inr (4, [.int 0, .ref G.1, .int 0]))] sz) t) (va_A [(mo, .inr (16, [.int th, .ref gl, .ref po, .ref pi, .ref bu, .ref pa, .int mt, .int mh, .int 40, .int 0, .null, .int 0, .int 0])), (po, .inr (4, [.int 0, .ref G.1, .int 0]))] sz)) 0 0 (va_A [(mo, .inr (16, [.int th, .ref gl, .ref po, .ref pi, .ref bu, .ref pa, .int mt, .int mh, .int 40, .int 0, .null, .int 0, .int 0])), (po, .inr (4, [.int 0, .ref G.1, .int 0]))] sz) := by
  refine Met.ofW (cc := cX11_noPot) (maxL := 2) (ret := (some .boolean)) (by decide) rfl ?_
  intro p e s m args below meth c s₁ B hml hv
  obtain ⟨rfl, hsz, hP, hK, hD0, hT, hZ⟩ := hv
  have hx := B.exec
  have hb := B.bytes
  have hr := B.returns
  have hts := atoms_spec (ws := wzX11_noPot) B.pre
  have hown : s.vm.findClass RX11 = some m.cls := findClass_of_methodNamed B.named
  have hlocks := B.notSynchronized
  subst hsz
  have hD := hD0.self (sz := s.heap.size)
  generalize hAe : va_A [(mo, .inr (16, [.int th, .ref gl, .ref po, .ref pi, .ref bu, .ref pa, .int mt, .int mh, .int 40, .int 0, .null, .int 0, .int 0])), (po, .inr (4, [.int 0, .ref G.1, .int 0]))] s.heap.size = A at hD hZ ⊢
  have hA : ∀ q : Nat, s.heap.size ≤ q → A q := fun q h => by rw [← hAe]; exact Or.inr h
  have hS : va_S A s.heap s.heap [] := va_S.rf
  have hl := lv_entry ([.ref mo, .int ii]) (n := 2) (Nat.le_of_ble_eq_true rfl)
  rw [lg_entry_eq]
  generalize (lg_sl ([.ref mo, .int ii]) ++ List.replicate (2 - (lg_sl ([.ref mo, .int ii])).length) Slot.unset).toArray = ls at hl ⊢
  have hl : lv_has ls 2 [(0, .ref mo), (1, .int ii)] := hl
  refine lv_aload_n hx hb dX11_noPot_0 rfl (lv_at hl 0 rfl) ?_
  refine lv_iload_n hx hb dX11_noPot_1 rfl (lv_at hl 1 rfl) ?_
  refine lv_iconst (v := 0) hx hb dX11_noPot_2 (by decide) ?_
  refine lv_aload_n hx hb dX11_noPot_3 rfl (lv_at hl 0 rfl) ?_
  refine va_get (D := D) (cl := vwCl) (ci := 16) (v := .ref po) (C := RX11) (T := TX11) (N := 13) hx hb hts zuX11_noPot_X11 hown hK hP 0 rfl rfl 2 (by decide) (hts (.fieldLink RX11 16 "GatherhouseModel" "pots" "Ljava/util/ArrayList;") (by decide +kernel)) (fun _ h9 => h9) rfl dX11_noPot_4 ?_
  refine vp_callSi (va_runV (As := []) (rest := [.int 0, .int ii, .ref mo]) ⟨hx, hb, hml, hown, hts⟩ (zc_Jx4a65c_size_8abf5 l D G po G.1 0 0) (cwV 0 hts gzX11_noPot_Jx4a65c_size_8abf5_44 rfl rfl rfl (by decide +kernel) ⟨(Nat.le_of_ble_eq_true rfl), (Nat.le_of_ble_eq_true rfl)⟩) ⟨p_RO_blind, va_recv hK hP (ci := 4) (q0 := 1) rfl rfl, (p_RO_at (tc := []) (wc := [(po, .inr (4, [.int 0, .ref G.1, .int 0]))]) hP hK hT [1] [] rfl rfl [.ref po])⟩ rfl rfl hl.1 rfl (lv_room (Nat.le_of_ble_eq_true rfl)) dX11_noPot_7 ⟨(Nat.le_of_ble_eq_true rfl), (Nat.le_of_ble_eq_true rfl)⟩).run (fun r_412 w_413 => ?_)
  obtain rfl := w_413
  refine lv_iconst (v := 1) hx hb dX11_noPot_10 (by decide) ?_
  refine lv_isub hx hb dX11_noPot_11 ?_
  refine lv_topi (fun y_414 ey_414 => ?_)
  have ey_414 : y_414 = (-1) := ey_414.trans (by decide +kernel)
  subst ey_414
  refine vp_callSi (va_runS (As := [.int ii, .int 0, .int (-1)]) (rest := [.ref mo]) ⟨hx, hb, hml, hown, hts⟩ (zc_X11_in l D G ii 0 (-1)) (cwS 3 hts gzX11_noPot_X11_in_47 rfl rfl rfl (by decide +kernel) ⟨(Nat.le_of_ble_eq_true rfl), (Nat.le_of_ble_eq_true rfl)⟩) ⟨p_RO_blind, (p_RO_at (tc := []) (wc := []) hP hK hT [] [] rfl rfl [.int ii, .int 0, .int (-1)])⟩ rfl rfl hl.1 rfl (lv_room (Nat.le_of_ble_eq_true rfl)) dX11_noPot_12 ⟨(Nat.le_of_ble_eq_true rfl), (Nat.le_of_ble_eq_true rfl)⟩).run (fun r_415 w_416 => ?_)
  rcases w_416 with ⟨c_417, rfl⟩ | ⟨c_418, rfl⟩
  · exact absurd c_417 (inR_none _)
  · refine lv_if_eq (tgt := 22) hx hb dX11_noPot_15 (by decide) (fun _ => ?_) (fun cc => absurd (by decide) cc)
    refine lv_iconst (v := 1) hx hb dX11_noPot_22 (by decide) ?_
    refine va_put (D := D) (cl := vwCl) (ci := 16) (v := .int 1) (ty := .int) (C := RX11) (T := TX11) (N := 13) hx hb hts zuX11_noPot_X11 tyX11 tyX11_ok nmX11 hown hK hP hD hS 0 rfl rfl 0 (by decide) (hts (.fieldLink RX11 41 "GatherhouseModel" "thrown" "I") (by decide +kernel)) (fun _ h9 => h9) rfl (by decide +kernel) rfl rfl (Nat.le_of_ble_eq_true rfl) dX11_noPot_23 (fun H locs hP hD hS => ?_)
    have hP : va_P D vwCl [(mo, .inr (16, [.int 1, .ref gl, .ref po, .ref pi, .ref bu, .ref pa, .int mt, .int mh, .int 40, .int 0, .null, .int 0, .int 0])), (po, .inr (4, [.int 0, .ref G.1, .int 0]))] H := hP
    have hD : va_D A [(mo, .inr (16, [.int 1, .ref gl, .ref po, .ref pi, .ref bu, .ref pa, .int mt, .int mh, .int 40, .int 0, .null, .int 0, .int 0])), (po, .inr (4, [.int 0, .ref G.1, .int 0]))] := hD
    refine lv_aload_n hx hb dX11_noPot_26 rfl (lv_at hl 0 rfl) ?_
    refine va_get (D := D) (cl := vwCl) (ci := 16) (v := .int 1) (C := RX11) (T := TX11) (N := 13) hx hb hts zuX11_noPot_X11 hown hK hP 0 rfl rfl 0 (by decide) (hts (.fieldLink RX11 41 "GatherhouseModel" "thrown" "I") (by decide +kernel)) (fun _ h9 => h9) rfl dX11_noPot_27 ?_
    refine lv_if_le (tgt := 37) hx hb dX11_noPot_30 (by decide) (fun cc => absurd cc (by decide)) (fun _ => ?_)
    refine lv_iconst (v := 1) hx hb dX11_noPot_33 (by decide) ?_
    refine lv_goto (tgt := 38) hx hb dX11_noPot_34 (by decide) ?_
    exact W.zret (v := 1) hx hb hr rfl (fun t ht hW => ⟨⟨1, (), rfl, rfl, q_RW_mk hP hK hD [0, 1] [] rfl rfl (by decide) rfl ht hW.alike⟩, hS.F ht⟩) hS.2.2 dX11_noPot_38
theorem zgU_X11 : (u_ws RX11 TX11 13).all goodWord = true := by decide +kernel
theorem dX11_noRing_0 : decode cX11_noRing 0 = .ok (.aload_n 0, 1) := by decide +kernel
theorem dX11_noRing_1 : decode cX11_noRing 1 = .ok (.aload_n 0, 1) := by decide +kernel
theorem dX11_noRing_2 : decode cX11_noRing 2 = .ok (.iload_n 1, 1) := by decide +kernel
theorem dX11_noRing_3 : decode cX11_noRing 3 = .ok (.invokevirtual 51, 3) := by decide +kernel
theorem dX11_noRing_6 : decode cX11_noRing 6 = .ok (.ifCond .ne 34, 3) := by decide +kernel
theorem dX11_noRing_40 : decode cX11_noRing 40 = .ok (.iconst 1, 1) := by decide +kernel
theorem dX11_noRing_41 : decode cX11_noRing 41 = .ok (.putfield 41, 3) := by decide +kernel
theorem dX11_noRing_44 : decode cX11_noRing 44 = .ok (.aload_n 0, 1) := by decide +kernel
theorem dX11_noRing_45 : decode cX11_noRing 45 = .ok (.getfield 41, 3) := by decide +kernel
theorem dX11_noRing_48 : decode cX11_noRing 48 = .ok (.ifCond .le 7, 3) := by decide +kernel
theorem dX11_noRing_51 : decode cX11_noRing 51 = .ok (.iconst 1, 1) := by decide +kernel
theorem dX11_noRing_52 : decode cX11_noRing 52 = .ok (.goto 4, 3) := by decide +kernel
theorem dX11_noRing_56 : decode cX11_noRing 56 = .ok (.ireturn, 1) := by decide +kernel
def wzEX11_noRing : List Cond := [.code yX11_noRing cX11_noRing 3 (some .boolean), .methodLink RX11 51 yX11_noPiece, .instanceMethod yX11_noPiece, .selects RX11 yX11_noPiece yX11_noPiece, .initialized RX11, .code yX11_noPiece cX11_noPiece 2 (some .boolean), .fieldLink RX11 19 "GatherhouseModel" "pieces" "Ljava/util/ArrayList;", .methodLink RX11 44 yJx4a65c_size_8abf5, .instanceMethod yJx4a65c_size_8abf5, .selects RJx4a65c yJx4a65c_size_8abf5 yJx4a65c_size_8abf5, .initialized RJx4a65c, .code yJx4a65c_size_8abf5 cJx4a65c_size_8abf5 1 (some .int), .fieldLink RJx4a65c 48 "java/util/ArrayList" "size" "I", .methodLink RX11 47 yX11_in, .static yX11_in, .code yX11_in cX11_in 3 (some .boolean), .fieldLink RX11 41 "GatherhouseModel" "thrown" "I"]
def wzX11_noRing : List Cond := wzEX11_noRing ++ (u_ws RX11 TX11 13 ++ (u_ws RJx4a65c TJx4a65c 3))
theorem zgEX11_noRing : wzEX11_noRing.all goodWord = true := by decide +kernel
theorem zuX11_noRing_X11 : ∀ w ∈ u_ws RX11 TX11 13, w ∈ wzX11_noRing := (fun _ h => (List.mem_append_right _ (List.mem_append_left _ h)))
theorem zuX11_noRing_Jx4a65c : ∀ w ∈ u_ws RJx4a65c TJx4a65c 3, w ∈ wzX11_noRing := (fun _ h => (List.mem_append_right _ (List.mem_append_right _ h)))
theorem gzX11_noRing_X11_noPiece_51 : GoodIn wzX11_noRing (wsV RX11 51 RX11 yX11_noPiece wzX11_noPiece) := (goodIn_app (z_lift (goodIn_r _ [1, 2, 3, 4] rfl (by decide +kernel))) (goodIn_app (z_lift (goodIn_r wzEX11_noPiece [5, 6, 7, 8, 9, 10, 11, 12, 13, 14, 4, 15, 16] rfl zgEX11_noPiece)) (goodIn_app (goodIn_sub (fun _ h => (List.mem_append_right _ (List.mem_append_left _ h))) zgU_X11) (goodIn_sub (fun _ h => (List.mem_append_right _ (List.mem_append_right _ h))) zgU_Jx4a65c))))
set_option maxHeartbeats 4000000 in
set_option maxRecDepth 100000 in
theorem zc_X11_noRing (l : Launch) (D : va_G) (G : Nat × Nat × Nat) (mo : Nat) (gl : Nat) (po : Nat) (pi : Nat) (bu : Nat) (pa : Nat) (th : Int32) (mh : Int32) (mt : Int32) (ii : Int32) (jj : Int32) (sz : Nat) : Met l yX11_noRing wzX11_noRing ({ frames := 2, cells := 0, slots := 0, locals := 43 }) (va_Pc [.ref mo, .int ii, .int jj] (p_RW D G [] [(mo, .inr (16, [.int th, .ref gl, .ref po, .ref pi, .ref bu, .ref pa, .int mt, .int mh, .int 40, .int 0, .null, .int 0, .int 0])), (pi, .inr (4, [.int 0, .ref G.1, .int 0]))] sz)) (va_Qi (fun (r : Int32) (u : Unit) => r = 1) (fun (u : Unit) (t : State) => q_RW D [] [(mo, .inr (16, [.int 1, .ref gl, .ref po, .ref pi, .ref bu, .ref pa, .int mt, .int mh, .int 40, .int 0, .null, .int 0, .int 0])), (pi, .inr (4, [.int 0, .ref G.1, .int 0]))] (va_A [(mo, .inr (16, [.int th, .ref gl, .ref po, .ref pi, .ref bu, .ref pa, .int mt, .int mh, .int 40, .int 0, .null, .int 0, .int 0])), (pi, .inr (4, [.int 0, .ref G.1, .int 0]))] sz) t) (va_A [(mo, .inr (16, [.int th, .ref gl, .ref po, .ref pi, .ref bu, .ref pa, .int mt, .int mh, .int 40, .int 0, .null, .int 0, .int 0])), (pi, .inr (4, [.int 0, .ref G.1, .int 0]))] sz)) 0 0 (va_A [(mo, .inr (16, [.int th, .ref gl, .ref po, .ref pi, .ref bu, .ref pa, .int mt, .int mh, .int 40, .int 0, .null, .int 0, .int 0])), (pi, .inr (4, [.int 0, .ref G.1, .int 0]))] sz) := by
  refine Met.ofW (cc := cX11_noRing) (maxL := 3) (ret := (some .boolean)) (by decide) rfl ?_
  intro p e s m args below meth c s₁ B hml hv
  obtain ⟨rfl, hsz, hP, hK, hD0, hT, hZ⟩ := hv
  have hx := B.exec
  have hb := B.bytes
  have hr := B.returns
  have hts := atoms_spec (ws := wzX11_noRing) B.pre
  have hown : s.vm.findClass RX11 = some m.cls := findClass_of_methodNamed B.named
  have hlocks := B.notSynchronized
  subst hsz
  have hD := hD0.self (sz := s.heap.size)
  generalize hAe : va_A [(mo, .inr (16, [.int th, .ref gl, .ref po, .ref pi, .ref bu, .ref pa, .int mt, .int mh, .int 40, .int 0, .null, .int 0, .int 0])), (pi, .inr (4, [.int 0, .ref G.1, .int 0]))] s.heap.size = A at hD hZ ⊢
  have hA : ∀ q : Nat, s.heap.size ≤ q → A q := fun q h => by rw [← hAe]; exact Or.inr h
  have hS : va_S A s.heap s.heap [] := va_S.rf
  have hl := lv_entry ([.ref mo, .int ii, .int jj]) (n := 3) (Nat.le_of_ble_eq_true rfl)
  rw [lg_entry_eq]
  generalize (lg_sl ([.ref mo, .int ii, .int jj]) ++ List.replicate (3 - (lg_sl ([.ref mo, .int ii, .int jj])).length) Slot.unset).toArray = ls at hl ⊢
  have hl : lv_has ls 3 [(0, .ref mo), (1, .int ii), (2, .int jj)] := hl
  refine lv_aload_n hx hb dX11_noRing_0 rfl (lv_at hl 0 rfl) ?_
  refine lv_aload_n hx hb dX11_noRing_1 rfl (lv_at hl 0 rfl) ?_
  refine lv_iload_n hx hb dX11_noRing_2 rfl (lv_at hl 1 rfl) ?_
  have hFc := va_free (wc := [(mo, .inr (16, [.int th, .ref gl, .ref po, .ref pi, .ref bu, .ref pa, .int mt, .int mh, .int 40, .int 0, .null, .int 0, .int 0])), (pi, .inr (4, [.int 0, .ref G.1, .int 0]))]) hD hS hA [0, 1] rfl
  refine va_calli (va_runV (As := [.int ii]) (rest := [.ref mo]) ⟨hx, hb, hml, hown, hts⟩ (zc_X11_noPiece l D G mo gl po pi bu pa th mh mt ii s.heap.size) (cwV 1 hts gzX11_noRing_X11_noPiece_51 rfl rfl rfl (by decide +kernel) ⟨(Nat.le_of_ble_eq_true rfl), (Nat.le_of_ble_eq_true rfl)⟩) ⟨p_RW_blind, va_recv hK hP (ci := 16) (q0 := 0) rfl rfl, (p_RW_at (tc := []) (wc := [(mo, .inr (16, [.int th, .ref gl, .ref po, .ref pi, .ref bu, .ref pa, .int mt, .int mh, .int 40, .int 0, .null, .int 0, .int 0])), (pi, .inr (4, [.int 0, .ref G.1, .int 0]))]) hP hK hD hS hA hT hZ [0, 1] [] rfl rfl (by decide) rfl [.ref mo, .int ii])⟩ rfl rfl hl.1 rfl (lv_room (Nat.le_of_ble_eq_true rfl)) dX11_noRing_3 ⟨(Nat.le_of_ble_eq_true rfl), (Nat.le_of_ble_eq_true rfl)⟩) hS (fun q _ h => hFc q h) hFc (fun r_419 u t H locs ht hvm w_420 hB hz1 hk1 hS => ?_)
  obtain ⟨hP, hD, hK⟩ := q_join (D := D) (wc := [(mo, .inr (16, [.int th, .ref gl, .ref po, .ref pi, .ref bu, .ref pa, .int mt, .int mh, .int 40, .int 0, .null, .int 0, .int 0])), (pi, .inr (4, [.int 0, .ref G.1, .int 0]))]) (wr := []) (w1 := [(mo, .inr (16, [.int 1, .ref gl, .ref po, .ref pi, .ref bu, .ref pa, .int mt, .int mh, .int 40, .int 0, .null, .int 0, .int 0])), (pi, .inr (4, [.int 0, .ref G.1, .int 0]))]) (tyr := []) (ty1 := []) hP hD hK [0, 1] [] [] rfl rfl (by decide) (by decide) rfl hFc hk1 ht hvm hB
  have hP : va_P D vwCl [(mo, .inr (16, [.int 1, .ref gl, .ref po, .ref pi, .ref bu, .ref pa, .int mt, .int mh, .int 40, .int 0, .null, .int 0, .int 0])), (pi, .inr (4, [.int 0, .ref G.1, .int 0]))] H := hP
  have hD : va_D A [(mo, .inr (16, [.int 1, .ref gl, .ref po, .ref pi, .ref bu, .ref pa, .int mt, .int mh, .int 40, .int 0, .null, .int 0, .int 0])), (pi, .inr (4, [.int 0, .ref G.1, .int 0]))] := hD
  have hK : va_K D vwCl [] s := hK
  obtain rfl := w_420
  refine lv_if_ne (tgt := 40) hx hb dX11_noRing_6 (by decide) (fun _ => ?_) (fun cc => absurd cc (by decide))
  refine lv_iconst (v := 1) hx hb dX11_noRing_40 (by decide) ?_
  refine va_put (D := D) (cl := vwCl) (ci := 16) (v := .int 1) (ty := .int) (C := RX11) (T := TX11) (N := 13) hx hb hts zuX11_noRing_X11 tyX11 tyX11_ok nmX11 hown hK hP hD hS 0 rfl rfl 0 (by decide) (hts (.fieldLink RX11 41 "GatherhouseModel" "thrown" "I") (by decide +kernel)) (fun _ h9 => h9) rfl (by decide +kernel) rfl rfl (Nat.le_of_ble_eq_true rfl) dX11_noRing_41 (fun H locs hP hD hS => ?_)
  have hP : va_P D vwCl [(mo, .inr (16, [.int 1, .ref gl, .ref po, .ref pi, .ref bu, .ref pa, .int mt, .int mh, .int 40, .int 0, .null, .int 0, .int 0])), (pi, .inr (4, [.int 0, .ref G.1, .int 0]))] H := hP
  have hD : va_D A [(mo, .inr (16, [.int 1, .ref gl, .ref po, .ref pi, .ref bu, .ref pa, .int mt, .int mh, .int 40, .int 0, .null, .int 0, .int 0])), (pi, .inr (4, [.int 0, .ref G.1, .int 0]))] := hD
  refine lv_aload_n hx hb dX11_noRing_44 rfl (lv_at hl 0 rfl) ?_
  refine va_get (D := D) (cl := vwCl) (ci := 16) (v := .int 1) (C := RX11) (T := TX11) (N := 13) hx hb hts zuX11_noRing_X11 hown hK hP 0 rfl rfl 0 (by decide) (hts (.fieldLink RX11 41 "GatherhouseModel" "thrown" "I") (by decide +kernel)) (fun _ h9 => h9) rfl dX11_noRing_45 ?_
  refine lv_if_le (tgt := 55) hx hb dX11_noRing_48 (by decide) (fun cc => absurd cc (by decide)) (fun _ => ?_)
  refine lv_iconst (v := 1) hx hb dX11_noRing_51 (by decide) ?_
  refine lv_goto (tgt := 56) hx hb dX11_noRing_52 (by decide) ?_
  exact W.zret (v := 1) hx hb hr rfl (fun t ht hW => ⟨⟨1, (), rfl, rfl, q_RW_mk hP hK hD [0, 1] [] rfl rfl (by decide) rfl ht hW.alike⟩, hS.F ht⟩) hS.2.2 dX11_noRing_56
theorem dX11_turns_0 : decode cX11_turns 0 = .ok (.aload_n 0, 1) := by decide +kernel
theorem dX11_turns_1 : decode cX11_turns 1 = .ok (.iload_n 1, 1) := by decide +kernel
theorem dX11_turns_2 : decode cX11_turns 2 = .ok (.iload_n 2, 1) := by decide +kernel
theorem dX11_turns_3 : decode cX11_turns 3 = .ok (.invokevirtual 223, 3) := by decide +kernel
theorem dX11_turns_6 : decode cX11_turns 6 = .ok (.ifCond .eq 5, 3) := by decide +kernel
theorem dX11_turns_9 : decode cX11_turns 9 = .ok (.iconst 0, 1) := by decide +kernel
theorem dX11_turns_10 : decode cX11_turns 10 = .ok (.ireturn, 1) := by decide +kernel
def wzEX11_turns : List Cond := [.code yX11_turns cX11_turns 12 (some .int), .methodLink RX11 223 yX11_noRing, .instanceMethod yX11_noRing, .selects RX11 yX11_noRing yX11_noRing, .initialized RX11, .code yX11_noRing cX11_noRing 3 (some .boolean), .methodLink RX11 51 yX11_noPiece, .instanceMethod yX11_noPiece, .selects RX11 yX11_noPiece yX11_noPiece, .code yX11_noPiece cX11_noPiece 2 (some .boolean), .fieldLink RX11 19 "GatherhouseModel" "pieces" "Ljava/util/ArrayList;", .methodLink RX11 44 yJx4a65c_size_8abf5, .instanceMethod yJx4a65c_size_8abf5, .selects RJx4a65c yJx4a65c_size_8abf5 yJx4a65c_size_8abf5, .initialized RJx4a65c, .code yJx4a65c_size_8abf5 cJx4a65c_size_8abf5 1 (some .int), .fieldLink RJx4a65c 48 "java/util/ArrayList" "size" "I", .methodLink RX11 47 yX11_in, .static yX11_in, .code yX11_in cX11_in 3 (some .boolean), .fieldLink RX11 41 "GatherhouseModel" "thrown" "I"]
def wzX11_turns : List Cond := wzEX11_turns ++ (u_ws RX11 TX11 13 ++ (u_ws RJx4a65c TJx4a65c 3))
theorem zgEX11_turns : wzEX11_turns.all goodWord = true := by decide +kernel
theorem zuX11_turns_X11 : ∀ w ∈ u_ws RX11 TX11 13, w ∈ wzX11_turns := (fun _ h => (List.mem_append_right _ (List.mem_append_left _ h)))
theorem zuX11_turns_Jx4a65c : ∀ w ∈ u_ws RJx4a65c TJx4a65c 3, w ∈ wzX11_turns := (fun _ h => (List.mem_append_right _ (List.mem_append_right _ h)))
theorem gzX11_turns_X11_noRing_223 : GoodIn wzX11_turns (wsV RX11 223 RX11 yX11_noRing wzX11_noRing) := (goodIn_app (z_lift (goodIn_r _ [1, 2, 3, 4] rfl (by decide +kernel))) (goodIn_app (z_lift (goodIn_r wzEX11_noRing [5, 6, 7, 8, 4, 9, 10, 11, 12, 13, 14, 15, 16, 17, 18, 19, 20] rfl zgEX11_noRing)) (goodIn_app (goodIn_sub (fun _ h => (List.mem_append_right _ (List.mem_append_left _ h))) zgU_X11) (goodIn_sub (fun _ h => (List.mem_append_right _ (List.mem_append_right _ h))) zgU_Jx4a65c))))
set_option maxHeartbeats 4000000 in
set_option maxRecDepth 100000 in
theorem zc_X11_turns (l : Launch) (D : va_G) (G : Nat × Nat × Nat) (mo : Nat) (gl : Nat) (po : Nat) (pi : Nat) (bu : Nat) (pa : Nat) (th : Int32) (mh : Int32) (mt : Int32) (ii : Int32) (jj : Int32) (kk : Int32) (byy : Int32) (fl : Int32) (ro : Int32) (sx : Int32) (sz : Nat) : Met l yX11_turns wzX11_turns ({ frames := 3, cells := 0, slots := 0, locals := 65 }) (va_Pc [.ref mo, .int ii, .int jj, .int kk, .int byy, .int fl, .int ro, .int sx] (p_RW D G [] [(mo, .inr (16, [.int th, .ref gl, .ref po, .ref pi, .ref bu, .ref pa, .int mt, .int mh, .int 40, .int 0, .null, .int 0, .int 0])), (pi, .inr (4, [.int 0, .ref G.1, .int 0]))] sz)) (va_Qi (fun (r : Int32) (u : Unit) => r = 0) (fun (u : Unit) (t : State) => q_RW D [] [(mo, .inr (16, [.int 1, .ref gl, .ref po, .ref pi, .ref bu, .ref pa, .int mt, .int mh, .int 40, .int 0, .null, .int 0, .int 0])), (pi, .inr (4, [.int 0, .ref G.1, .int 0]))] (va_A [(mo, .inr (16, [.int th, .ref gl, .ref po, .ref pi, .ref bu, .ref pa, .int mt, .int mh, .int 40, .int 0, .null, .int 0, .int 0])), (pi, .inr (4, [.int 0, .ref G.1, .int 0]))] sz) t) (va_A [(mo, .inr (16, [.int th, .ref gl, .ref po, .ref pi, .ref bu, .ref pa, .int mt, .int mh, .int 40, .int 0, .null, .int 0, .int 0])), (pi, .inr (4, [.int 0, .ref G.1, .int 0]))] sz)) 0 0 (va_A [(mo, .inr (16, [.int th, .ref gl, .ref po, .ref pi, .ref bu, .ref pa, .int mt, .int mh, .int 40, .int 0, .null, .int 0, .int 0])), (pi, .inr (4, [.int 0, .ref G.1, .int 0]))] sz) := by
  refine Met.ofW (cc := cX11_turns) (maxL := 12) (ret := (some .int)) (by decide) rfl ?_
  intro p e s m args below meth c s₁ B hml hv
  obtain ⟨rfl, hsz, hP, hK, hD0, hT, hZ⟩ := hv
  have hx := B.exec
  have hb := B.bytes
  have hr := B.returns
  have hts := atoms_spec (ws := wzX11_turns) B.pre
  have hown : s.vm.findClass RX11 = some m.cls := findClass_of_methodNamed B.named
  have hlocks := B.notSynchronized
  subst hsz
  have hD := hD0.self (sz := s.heap.size)
  generalize hAe : va_A [(mo, .inr (16, [.int th, .ref gl, .ref po, .ref pi, .ref bu, .ref pa, .int mt, .int mh, .int 40, .int 0, .null, .int 0, .int 0])), (pi, .inr (4, [.int 0, .ref G.1, .int 0]))] s.heap.size = A at hD hZ ⊢
  have hA : ∀ q : Nat, s.heap.size ≤ q → A q := fun q h => by rw [← hAe]; exact Or.inr h
  have hS : va_S A s.heap s.heap [] := va_S.rf
  have hl := lv_entry ([.ref mo, .int ii, .int jj, .int kk, .int byy, .int fl, .int ro, .int sx]) (n := 12) (Nat.le_of_ble_eq_true rfl)
  rw [lg_entry_eq]
  generalize (lg_sl ([.ref mo, .int ii, .int jj, .int kk, .int byy, .int fl, .int ro, .int sx]) ++ List.replicate (12 - (lg_sl ([.ref mo, .int ii, .int jj, .int kk, .int byy, .int fl, .int ro, .int sx])).length) Slot.unset).toArray = ls at hl ⊢
  have hl : lv_has ls 12 [(0, .ref mo), (1, .int ii), (2, .int jj), (3, .int kk), (4, .int byy), (5, .int fl), (6, .int ro), (7, .int sx)] := hl
  refine lv_aload_n hx hb dX11_turns_0 rfl (lv_at hl 0 rfl) ?_
  refine lv_iload_n hx hb dX11_turns_1 rfl (lv_at hl 1 rfl) ?_
  refine lv_iload_n hx hb dX11_turns_2 rfl (lv_at hl 2 rfl) ?_
  have hFc := va_free (wc := [(mo, .inr (16, [.int th, .ref gl, .ref po, .ref pi, .ref bu, .ref pa, .int mt, .int mh, .int 40, .int 0, .null, .int 0, .int 0])), (pi, .inr (4, [.int 0, .ref G.1, .int 0]))]) hD hS hA [0, 1] rfl
  refine va_calli (va_runV (As := [.int ii, .int jj]) (rest := []) ⟨hx, hb, hml, hown, hts⟩ (zc_X11_noRing l D G mo gl po pi bu pa th mh mt ii jj s.heap.size) (cwV 2 hts gzX11_turns_X11_noRing_223 rfl rfl rfl (by decide +kernel) ⟨(Nat.le_of_ble_eq_true rfl), (Nat.le_of_ble_eq_true rfl)⟩) ⟨p_RW_blind, va_recv hK hP (ci := 16) (q0 := 0) rfl rfl, (p_RW_at (tc := []) (wc := [(mo, .inr (16, [.int th, .ref gl, .ref po, .ref pi, .ref bu, .ref pa, .int mt, .int mh, .int 40, .int 0, .null, .int 0, .int 0])), (pi, .inr (4, [.int 0, .ref G.1, .int 0]))]) hP hK hD hS hA hT hZ [0, 1] [] rfl rfl (by decide) rfl [.ref mo, .int ii, .int jj])⟩ rfl rfl hl.1 rfl (lv_room (Nat.le_of_ble_eq_true rfl)) dX11_turns_3 ⟨(Nat.le_of_ble_eq_true rfl), (Nat.le_of_ble_eq_true rfl)⟩) hS (fun q _ h => hFc q h) hFc (fun r_421 u t H locs ht hvm w_422 hB hz1 hk1 hS => ?_)
  obtain ⟨hP, hD, hK⟩ := q_join (D := D) (wc := [(mo, .inr (16, [.int th, .ref gl, .ref po, .ref pi, .ref bu, .ref pa, .int mt, .int mh, .int 40, .int 0, .null, .int 0, .int 0])), (pi, .inr (4, [.int 0, .ref G.1, .int 0]))]) (wr := []) (w1 := [(mo, .inr (16, [.int 1, .ref gl, .ref po, .ref pi, .ref bu, .ref pa, .int mt, .int mh, .int 40, .int 0, .null, .int 0, .int 0])), (pi, .inr (4, [.int 0, .ref G.1, .int 0]))]) (tyr := []) (ty1 := []) hP hD hK [0, 1] [] [] rfl rfl (by decide) (by decide) rfl hFc hk1 ht hvm hB
  have hP : va_P D vwCl [(mo, .inr (16, [.int 1, .ref gl, .ref po, .ref pi, .ref bu, .ref pa, .int mt, .int mh, .int 40, .int 0, .null, .int 0, .int 0])), (pi, .inr (4, [.int 0, .ref G.1, .int 0]))] H := hP
  have hD : va_D A [(mo, .inr (16, [.int 1, .ref gl, .ref po, .ref pi, .ref bu, .ref pa, .int mt, .int mh, .int 40, .int 0, .null, .int 0, .int 0])), (pi, .inr (4, [.int 0, .ref G.1, .int 0]))] := hD
  have hK : va_K D vwCl [] s := hK
  obtain rfl := w_422
  refine lv_if_eq (tgt := 11) hx hb dX11_turns_6 (by decide) (fun cc => absurd cc (by decide)) (fun _ => ?_)
  refine lv_iconst (v := 0) hx hb dX11_turns_9 (by decide) ?_
  exact W.iret (v := 0) hx hb hr (fun t ht hW => ⟨⟨0, (), rfl, rfl, q_RW_mk hP hK hD [0, 1] [] rfl rfl (by decide) rfl ht hW.alike⟩, hS.F ht⟩) hS.2.2 dX11_turns_10
theorem dX11_restPots_0 : decode cX11_restPots 0 = .ok (.aload_n 0, 1) := by decide +kernel
theorem dX11_restPots_1 : decode cX11_restPots 1 = .ok (.getfield 16, 3) := by decide +kernel
theorem dX11_restPots_4 : decode cX11_restPots 4 = .ok (.invokevirtual 106, 3) := by decide +kernel
theorem dX11_restPots_7 : decode cX11_restPots 7 = .ok (.astore_n 1, 1) := by decide +kernel
theorem dX11_restPots_8 : decode cX11_restPots 8 = .ok (.aload_n 1, 1) := by decide +kernel
theorem dX11_restPots_9 : decode cX11_restPots 9 = .ok (.invokeinterface 110 1, 5) := by decide +kernel
theorem dX11_restPots_14 : decode cX11_restPots 14 = .ok (.ifCond .eq 78, 3) := by decide +kernel
theorem dX11_restPots_92 : decode cX11_restPots 92 = .ok (.return_, 1) := by decide +kernel
def wzEX11_restPots : List Cond := [.code yX11_restPots cX11_restPots 3 none, .fieldLink RX11 16 "GatherhouseModel" "pots" "Ljava/util/ArrayList;", .methodLink RX11 106 yJx4a65c_iterator_32c93, .instanceMethod yJx4a65c_iterator_32c93, .selects RJx4a65c yJx4a65c_iterator_32c93 yJx4a65c_iterator_32c93, .initialized RJx4a65c, .code yJx4a65c_iterator_32c93 cJx4a65c_iterator_32c93 1 (some (.object "java/util/Iterator")), .classLink RJx4a65c 267 RJx35411, .instantiable RJx35411 4, .initialized RJx35411, .code yJx35411_init_45d68 cJx35411_init_45d68 2 none, .fieldLink RJx35411 1 "java/util/ArrayList$Itr" "this$0" "Ljava/util/ArrayList;", .methodLink RJx35411 7 objectInit, .instanceMethod objectInit, .code objectInit ⟨#[0xb1]⟩ 1 none, .fieldLink RJx35411 13 "java/util/ArrayList$Itr" "lastRet" "I", .sameField "java/util/ArrayList" "java/util/AbstractList" "modCount" "I", .fieldLink RJx35411 17 "java/util/ArrayList" "modCount" "I", .fieldLink RJx35411 22 "java/util/ArrayList$Itr" "expectedModCount" "I", .instanceMethod yJx35411_init_45d68, .methodLink RJx4a65c 269 yJx35411_init_45d68, .methodLink RX11 110 ⟨"java/util/Iterator", "hasNext", "()Z"⟩, .selects RJx35411 ⟨"java/util/Iterator", "hasNext", "()Z"⟩ yJx35411_hasNext_aae02, .instanceMethod yJx35411_hasNext_aae02, .code yJx35411_hasNext_aae02 cJx35411_hasNext_aae02 1 (some .boolean), .fieldLink RJx35411 25 "java/util/ArrayList$Itr" "cursor" "I"]
def wzX11_restPots : List Cond := wzEX11_restPots ++ (u_ws RX11 TX11 13 ++ (u_ws RJx35411 TJx35411 4 ++ (u_ws RJx4a65c TJx4a65c 3)))
theorem zgEX11_restPots : wzEX11_restPots.all goodWord = true := by decide +kernel
theorem zuX11_restPots_X11 : ∀ w ∈ u_ws RX11 TX11 13, w ∈ wzX11_restPots := (fun _ h => (List.mem_append_right _ (List.mem_append_left _ h)))
theorem zuX11_restPots_Jx35411 : ∀ w ∈ u_ws RJx35411 TJx35411 4, w ∈ wzX11_restPots := (fun _ h => (List.mem_append_right _ (List.mem_append_right _ (List.mem_append_left _ h))))
theorem zuX11_restPots_Jx4a65c : ∀ w ∈ u_ws RJx4a65c TJx4a65c 3, w ∈ wzX11_restPots := (fun _ h => (List.mem_append_right _ (List.mem_append_right _ (List.mem_append_right _ h))))
theorem gzX11_restPots_Jx4a65c_iterator_32c93_106 : GoodIn wzX11_restPots (wsV RX11 106 RJx4a65c yJx4a65c_iterator_32c93 wzJx4a65c_iterator_32c93) := (goodIn_app (z_lift (goodIn_r _ [2, 3, 4, 5] rfl (by decide +kernel))) (goodIn_app (z_lift (goodIn_r wzEJx4a65c_iterator_32c93 [6, 7, 8, 9, 10, 11, 12, 13, 14, 15, 16, 17, 18, 19, 20] rfl zgEJx4a65c_iterator_32c93)) (goodIn_app (goodIn_sub (fun _ h => (List.mem_append_right _ (List.mem_append_right _ (List.mem_append_left _ h)))) zgU_Jx35411) (goodIn_sub (fun _ h => (List.mem_append_right _ (List.mem_append_right _ (List.mem_append_right _ h)))) zgU_Jx4a65c))))
theorem gzX11_restPots_Jx35411_hasNext_aae02_110 : GoodIn wzX11_restPots (va_wsF RX11 110 RJx35411 ⟨"java/util/Iterator", "hasNext", "()Z"⟩ yJx35411_hasNext_aae02 wzJx35411_hasNext_aae02) := (goodIn_app (z_lift (goodIn_r _ [21, 22, 23, 9] rfl (by decide +kernel))) (goodIn_app (z_lift (goodIn_r wzEJx35411_hasNext_aae02 [24, 25, 11] rfl zgEJx35411_hasNext_aae02)) (goodIn_app (goodIn_sub (fun _ h => (List.mem_append_right _ (List.mem_append_right _ (List.mem_append_left _ h)))) zgU_Jx35411) (goodIn_sub (fun _ h => (List.mem_append_right _ (List.mem_append_right _ (List.mem_append_right _ h)))) zgU_Jx4a65c))))
set_option maxHeartbeats 4000000 in
set_option maxRecDepth 100000 in
theorem zc_X11_restPots (l : Launch) (D : va_G) (G : Nat × Nat × Nat) (mo : Nat) (gl : Nat) (po : Nat) (pi : Nat) (bu : Nat) (pa : Nat) (th : Int32) (mh : Int32) (mt : Int32) (sz : Nat) : Met l yX11_restPots wzX11_restPots ({ frames := 3, cells := 1, slots := 4, locals := 53 }) (va_Pc [.ref mo] (p_RW D G [] [(mo, .inr (16, [.int th, .ref gl, .ref po, .ref pi, .ref bu, .ref pa, .int mt, .int mh, .int 40, .int 0, .null, .int 0, .int 0])), (po, .inr (4, [.int 0, .ref G.1, .int 0]))] sz)) (va_Qv (fun (u : Unit) => True) (fun (u : Unit) (t : State) => q_RW D [] [(mo, .inr (16, [.int th, .ref gl, .ref po, .ref pi, .ref bu, .ref pa, .int mt, .int mh, .int 40, .int 0, .null, .int 0, .int 0])), (po, .inr (4, [.int 0, .ref G.1, .int 0]))] (va_A [(mo, .inr (16, [.int th, .ref gl, .ref po, .ref pi, .ref bu, .ref pa, .int mt, .int mh, .int 40, .int 0, .null, .int 0, .int 0])), (po, .inr (4, [.int 0, .ref G.1, .int 0]))] sz) t) (va_A [(mo, .inr (16, [.int th, .ref gl, .ref po, .ref pi, .ref bu, .ref pa, .int mt, .int mh, .int 40, .int 0, .null, .int 0, .int 0])), (po, .inr (4, [.int 0, .ref G.1, .int 0]))] sz)) 1 4 (va_A [(mo, .inr (16, [.int th, .ref gl, .ref po, .ref pi, .ref bu, .ref pa, .int mt, .int mh, .int 40, .int 0, .null, .int 0, .int 0])), (po, .inr (4, [.int 0, .ref G.1, .int 0]))] sz) := by
  refine Met.ofW (cc := cX11_restPots) (maxL := 3) (ret := none) (by decide) rfl ?_
  intro p e s m args below meth c s₁ B hml hv
  obtain ⟨rfl, hsz, hP, hK, hD0, hT, hZ⟩ := hv
  have hx := B.exec
  have hb := B.bytes
  have hr := B.returns
  have hts := atoms_spec (ws := wzX11_restPots) B.pre
  have hown : s.vm.findClass RX11 = some m.cls := findClass_of_methodNamed B.named
  have hlocks := B.notSynchronized
  subst hsz
  have hD := hD0.self (sz := s.heap.size)
  generalize hAe : va_A [(mo, .inr (16, [.int th, .ref gl, .ref po, .ref pi, .ref bu, .ref pa, .int mt, .int mh, .int 40, .int 0, .null, .int 0, .int 0])), (po, .inr (4, [.int 0, .ref G.1, .int 0]))] s.heap.size = A at hD hZ ⊢
  have hA : ∀ q : Nat, s.heap.size ≤ q → A q := fun q h => by rw [← hAe]; exact Or.inr h
  have hS : va_S A s.heap s.heap [] := va_S.rf
  have hl := lv_entry ([.ref mo]) (n := 3) (Nat.le_of_ble_eq_true rfl)
  rw [lg_entry_eq]
  generalize (lg_sl ([.ref mo]) ++ List.replicate (3 - (lg_sl ([.ref mo])).length) Slot.unset).toArray = ls at hl ⊢
  have hl : lv_has ls 3 [(0, .ref mo)] := hl
  refine lv_aload_n hx hb dX11_restPots_0 rfl (lv_at hl 0 rfl) ?_
  refine va_get (D := D) (cl := vwCl) (ci := 16) (v := .ref po) (C := RX11) (T := TX11) (N := 13) hx hb hts zuX11_restPots_X11 hown hK hP 0 rfl rfl 2 (by decide) (hts (.fieldLink RX11 16 "GatherhouseModel" "pots" "Ljava/util/ArrayList;") (by decide +kernel)) (fun _ h9 => h9) rfl dX11_restPots_1 ?_
  have hFc := va_free (wc := [(po, .inr (4, [.int 0, .ref G.1, .int 0]))]) hD hS hA [1] rfl
  refine va_callr (va_runV (As := []) (rest := []) ⟨hx, hb, hml, hown, hts⟩ (zc_Jx4a65c_iterator_32c93 l D G po s.heap.size) (cwV 0 hts gzX11_restPots_Jx4a65c_iterator_32c93_106 rfl rfl rfl (by decide +kernel) ⟨(Nat.le_of_ble_eq_true rfl), (Nat.le_of_ble_eq_true rfl)⟩) ⟨p_RW_blind, va_recv hK hP (ci := 4) (q0 := 1) rfl rfl, (p_RW_at (tc := []) (wc := [(po, .inr (4, [.int 0, .ref G.1, .int 0]))]) hP hK hD hS hA hT hZ [1] [] rfl rfl (by decide) rfl [.ref po])⟩ rfl rfl hl.1 rfl (lv_room (Nat.le_of_ble_eq_true rfl)) dX11_restPots_4 ⟨(Nat.le_of_ble_eq_true rfl), (Nat.le_of_ble_eq_true rfl)⟩) hS (fun q _ h => hFc q h) hFc (fun u r_495 t H locs ht hvm w_496 hB hz1 hk1 hS => ?_)
  obtain ⟨hP, hD, hK⟩ := q_join (D := D) (wc := [(po, .inr (4, [.int 0, .ref G.1, .int 0]))]) (wr := [(mo, .inr (16, [.int th, .ref gl, .ref po, .ref pi, .ref bu, .ref pa, .int mt, .int mh, .int 40, .int 0, .null, .int 0, .int 0]))]) (w1 := [(po, .inr (4, [.int 0, .ref G.1, .int 0])), (r_495, .inr (3, [.int 0, .int (-1), .int 0, .ref po]))]) (tyr := []) (ty1 := []) hP hD hK [1] [0] [] rfl rfl (by decide) (by decide) rfl hFc hk1 ht hvm hB
  have hP : va_P D vwCl [(mo, .inr (16, [.int th, .ref gl, .ref po, .ref pi, .ref bu, .ref pa, .int mt, .int mh, .int 40, .int 0, .null, .int 0, .int 0])), (po, .inr (4, [.int 0, .ref G.1, .int 0])), (r_495, .inr (3, [.int 0, .int (-1), .int 0, .ref po]))] H := hP
  have hD : va_D A [(mo, .inr (16, [.int th, .ref gl, .ref po, .ref pi, .ref bu, .ref pa, .int mt, .int mh, .int 40, .int 0, .null, .int 0, .int 0])), (po, .inr (4, [.int 0, .ref G.1, .int 0])), (r_495, .inr (3, [.int 0, .int (-1), .int 0, .ref po]))] := hD
  have hK : va_K D vwCl [] s := hK
  refine W.widen (k := 1) (n := 4) (Nat.le_of_ble_eq_true rfl) (Nat.le_of_ble_eq_true rfl) ?_
  refine lv_astore_n (lv' := [(1, .ref r_495), (0, .ref mo)]) hx hb dX11_restPots_7 rfl hl (by decide) rfl (fun ls hl => ?_)
  refine lv_aload_n hx hb dX11_restPots_8 rfl (lv_at hl 0 rfl) ?_
  refine va_csFi (va_runF (As := []) (rest := []) (hK.1 3 (RJx35411, TJx35411, 4) rfl).2 ⟨hx, hb, hml, hown, hts⟩ (zc_Jx35411_hasNext_aae02 l D G r_495 po) (va_cwF 0 hts gzX11_restPots_Jx35411_hasNext_aae02_110 rfl rfl rfl (hT.2.2.2.2.2.2.1 (_, _, _) (List.mem_of_getElem? (i := 0) rfl)) (by decide +kernel) ⟨(Nat.le_of_ble_eq_true rfl), (Nat.le_of_ble_eq_true rfl)⟩) ⟨p_RO_blind, va_recv hK hP (ci := 3) (q0 := 2) rfl rfl, (p_RO_at (tc := []) (wc := [(r_495, .inr (3, [.int 0, .int (-1), .int 0, .ref po])), (po, .inr (4, [.int 0, .ref G.1, .int 0]))]) hP hK hT [2, 1] [] rfl rfl [.ref r_495])⟩ rfl rfl hl.1 rfl (lv_room (Nat.le_of_ble_eq_true rfl)) dX11_restPots_9 ⟨(Nat.le_of_ble_eq_true rfl), (Nat.le_of_ble_eq_true rfl)⟩) (fun r_497 w_498 => ?_)
  obtain rfl := w_498
  refine lv_if_eq (tgt := 92) hx hb dX11_restPots_14 (by decide) (fun _ => ?_) (fun cc => absurd (by decide) cc)
  exact W.vret hx hb hr (fun t ht hW => ⟨⟨(), rfl, trivial, q_RW_mk hP hK hD [0, 1] [] rfl rfl (by decide) rfl ht hW.alike⟩, hS.F ht⟩) hS.2.2 dX11_restPots_92
theorem dX11_cool_0 : decode cX11_cool 0 = .ok (.iconst 0, 1) := by decide +kernel
theorem dX11_cool_1 : decode cX11_cool 1 = .ok (.istore_n 1, 1) := by decide +kernel
theorem dX11_cool_2 : decode cX11_cool 2 = .ok (.aload_n 0, 1) := by decide +kernel
theorem dX11_cool_3 : decode cX11_cool 3 = .ok (.getfield 19, 3) := by decide +kernel
theorem dX11_cool_6 : decode cX11_cool 6 = .ok (.invokevirtual 106, 3) := by decide +kernel
theorem dX11_cool_9 : decode cX11_cool 9 = .ok (.astore_n 2, 1) := by decide +kernel
theorem dX11_cool_10 : decode cX11_cool 10 = .ok (.aload_n 2, 1) := by decide +kernel
theorem dX11_cool_11 : decode cX11_cool 11 = .ok (.invokeinterface 110 1, 5) := by decide +kernel
theorem dX11_cool_16 : decode cX11_cool 16 = .ok (.ifCond .eq 142, 3) := by decide +kernel
theorem dX11_cool_158 : decode cX11_cool 158 = .ok (.iload_n 1, 1) := by decide +kernel
theorem dX11_cool_159 : decode cX11_cool 159 = .ok (.ireturn, 1) := by decide +kernel
def wzEX11_cool : List Cond := [.code yX11_cool cX11_cool 4 (some .int), .fieldLink RX11 19 "GatherhouseModel" "pieces" "Ljava/util/ArrayList;", .methodLink RX11 106 yJx4a65c_iterator_32c93, .instanceMethod yJx4a65c_iterator_32c93, .selects RJx4a65c yJx4a65c_iterator_32c93 yJx4a65c_iterator_32c93, .initialized RJx4a65c, .code yJx4a65c_iterator_32c93 cJx4a65c_iterator_32c93 1 (some (.object "java/util/Iterator")), .classLink RJx4a65c 267 RJx35411, .instantiable RJx35411 4, .initialized RJx35411, .code yJx35411_init_45d68 cJx35411_init_45d68 2 none, .fieldLink RJx35411 1 "java/util/ArrayList$Itr" "this$0" "Ljava/util/ArrayList;", .methodLink RJx35411 7 objectInit, .instanceMethod objectInit, .code objectInit ⟨#[0xb1]⟩ 1 none, .fieldLink RJx35411 13 "java/util/ArrayList$Itr" "lastRet" "I", .sameField "java/util/ArrayList" "java/util/AbstractList" "modCount" "I", .fieldLink RJx35411 17 "java/util/ArrayList" "modCount" "I", .fieldLink RJx35411 22 "java/util/ArrayList$Itr" "expectedModCount" "I", .instanceMethod yJx35411_init_45d68, .methodLink RJx4a65c 269 yJx35411_init_45d68, .methodLink RX11 110 ⟨"java/util/Iterator", "hasNext", "()Z"⟩, .selects RJx35411 ⟨"java/util/Iterator", "hasNext", "()Z"⟩ yJx35411_hasNext_aae02, .instanceMethod yJx35411_hasNext_aae02, .code yJx35411_hasNext_aae02 cJx35411_hasNext_aae02 1 (some .boolean), .fieldLink RJx35411 25 "java/util/ArrayList$Itr" "cursor" "I"]
def wzX11_cool : List Cond := wzEX11_cool ++ (u_ws RX11 TX11 13 ++ (u_ws RJx35411 TJx35411 4 ++ (u_ws RJx4a65c TJx4a65c 3)))
theorem zgEX11_cool : wzEX11_cool.all goodWord = true := by decide +kernel
theorem zuX11_cool_X11 : ∀ w ∈ u_ws RX11 TX11 13, w ∈ wzX11_cool := (fun _ h => (List.mem_append_right _ (List.mem_append_left _ h)))
theorem zuX11_cool_Jx35411 : ∀ w ∈ u_ws RJx35411 TJx35411 4, w ∈ wzX11_cool := (fun _ h => (List.mem_append_right _ (List.mem_append_right _ (List.mem_append_left _ h))))
theorem zuX11_cool_Jx4a65c : ∀ w ∈ u_ws RJx4a65c TJx4a65c 3, w ∈ wzX11_cool := (fun _ h => (List.mem_append_right _ (List.mem_append_right _ (List.mem_append_right _ h))))
theorem gzX11_cool_Jx4a65c_iterator_32c93_106 : GoodIn wzX11_cool (wsV RX11 106 RJx4a65c yJx4a65c_iterator_32c93 wzJx4a65c_iterator_32c93) := (goodIn_app (z_lift (goodIn_r _ [2, 3, 4, 5] rfl (by decide +kernel))) (goodIn_app (z_lift (goodIn_r wzEJx4a65c_iterator_32c93 [6, 7, 8, 9, 10, 11, 12, 13, 14, 15, 16, 17, 18, 19, 20] rfl zgEJx4a65c_iterator_32c93)) (goodIn_app (goodIn_sub (fun _ h => (List.mem_append_right _ (List.mem_append_right _ (List.mem_append_left _ h)))) zgU_Jx35411) (goodIn_sub (fun _ h => (List.mem_append_right _ (List.mem_append_right _ (List.mem_append_right _ h)))) zgU_Jx4a65c))))
theorem gzX11_cool_Jx35411_hasNext_aae02_110 : GoodIn wzX11_cool (va_wsF RX11 110 RJx35411 ⟨"java/util/Iterator", "hasNext", "()Z"⟩ yJx35411_hasNext_aae02 wzJx35411_hasNext_aae02) := (goodIn_app (z_lift (goodIn_r _ [21, 22, 23, 9] rfl (by decide +kernel))) (goodIn_app (z_lift (goodIn_r wzEJx35411_hasNext_aae02 [24, 25, 11] rfl zgEJx35411_hasNext_aae02)) (goodIn_app (goodIn_sub (fun _ h => (List.mem_append_right _ (List.mem_append_right _ (List.mem_append_left _ h)))) zgU_Jx35411) (goodIn_sub (fun _ h => (List.mem_append_right _ (List.mem_append_right _ (List.mem_append_right _ h)))) zgU_Jx4a65c))))
set_option maxHeartbeats 4000000 in
set_option maxRecDepth 100000 in
theorem zc_X11_cool (l : Launch) (D : va_G) (G : Nat × Nat × Nat) (mo : Nat) (gl : Nat) (po : Nat) (pi : Nat) (bu : Nat) (pa : Nat) (th : Int32) (mh : Int32) (mt : Int32) (sz : Nat) : Met l yX11_cool wzX11_cool ({ frames := 3, cells := 1, slots := 4, locals := 53 }) (va_Pc [.ref mo] (p_RW D G [] [(mo, .inr (16, [.int th, .ref gl, .ref po, .ref pi, .ref bu, .ref pa, .int mt, .int mh, .int 40, .int 0, .null, .int 0, .int 0])), (pi, .inr (4, [.int 0, .ref G.1, .int 0]))] sz)) (va_Qi (fun (r : Int32) (u : Unit) => r = 0) (fun (u : Unit) (t : State) => q_RW D [] [(mo, .inr (16, [.int th, .ref gl, .ref po, .ref pi, .ref bu, .ref pa, .int mt, .int mh, .int 40, .int 0, .null, .int 0, .int 0])), (pi, .inr (4, [.int 0, .ref G.1, .int 0]))] (va_A [(mo, .inr (16, [.int th, .ref gl, .ref po, .ref pi, .ref bu, .ref pa, .int mt, .int mh, .int 40, .int 0, .null, .int 0, .int 0])), (pi, .inr (4, [.int 0, .ref G.1, .int 0]))] sz) t) (va_A [(mo, .inr (16, [.int th, .ref gl, .ref po, .ref pi, .ref bu, .ref pa, .int mt, .int mh, .int 40, .int 0, .null, .int 0, .int 0])), (pi, .inr (4, [.int 0, .ref G.1, .int 0]))] sz)) 1 4 (va_A [(mo, .inr (16, [.int th, .ref gl, .ref po, .ref pi, .ref bu, .ref pa, .int mt, .int mh, .int 40, .int 0, .null, .int 0, .int 0])), (pi, .inr (4, [.int 0, .ref G.1, .int 0]))] sz) := by
  refine Met.ofW (cc := cX11_cool) (maxL := 4) (ret := (some .int)) (by decide) rfl ?_
  intro p e s m args below meth c s₁ B hml hv
  obtain ⟨rfl, hsz, hP, hK, hD0, hT, hZ⟩ := hv
  have hx := B.exec
  have hb := B.bytes
  have hr := B.returns
  have hts := atoms_spec (ws := wzX11_cool) B.pre
  have hown : s.vm.findClass RX11 = some m.cls := findClass_of_methodNamed B.named
  have hlocks := B.notSynchronized
  subst hsz
  have hD := hD0.self (sz := s.heap.size)
  generalize hAe : va_A [(mo, .inr (16, [.int th, .ref gl, .ref po, .ref pi, .ref bu, .ref pa, .int mt, .int mh, .int 40, .int 0, .null, .int 0, .int 0])), (pi, .inr (4, [.int 0, .ref G.1, .int 0]))] s.heap.size = A at hD hZ ⊢
  have hA : ∀ q : Nat, s.heap.size ≤ q → A q := fun q h => by rw [← hAe]; exact Or.inr h
  have hS : va_S A s.heap s.heap [] := va_S.rf
  have hl := lv_entry ([.ref mo]) (n := 4) (Nat.le_of_ble_eq_true rfl)
  rw [lg_entry_eq]
  generalize (lg_sl ([.ref mo]) ++ List.replicate (4 - (lg_sl ([.ref mo])).length) Slot.unset).toArray = ls at hl ⊢
  have hl : lv_has ls 4 [(0, .ref mo)] := hl
  refine lv_iconst (v := 0) hx hb dX11_cool_0 (by decide) ?_
  refine lv_istore_n (lv' := [(1, .int 0), (0, .ref mo)]) hx hb dX11_cool_1 rfl hl (by decide) rfl (fun ls hl => ?_)
  refine lv_aload_n hx hb dX11_cool_2 rfl (lv_at hl 1 rfl) ?_
  refine va_get (D := D) (cl := vwCl) (ci := 16) (v := .ref pi) (C := RX11) (T := TX11) (N := 13) hx hb hts zuX11_cool_X11 hown hK hP 0 rfl rfl 3 (by decide) (hts (.fieldLink RX11 19 "GatherhouseModel" "pieces" "Ljava/util/ArrayList;") (by decide +kernel)) (fun _ h9 => h9) rfl dX11_cool_3 ?_
  have hFc := va_free (wc := [(pi, .inr (4, [.int 0, .ref G.1, .int 0]))]) hD hS hA [1] rfl
  refine va_callr (va_runV (As := []) (rest := []) ⟨hx, hb, hml, hown, hts⟩ (zc_Jx4a65c_iterator_32c93 l D G pi s.heap.size) (cwV 0 hts gzX11_cool_Jx4a65c_iterator_32c93_106 rfl rfl rfl (by decide +kernel) ⟨(Nat.le_of_ble_eq_true rfl), (Nat.le_of_ble_eq_true rfl)⟩) ⟨p_RW_blind, va_recv hK hP (ci := 4) (q0 := 1) rfl rfl, (p_RW_at (tc := []) (wc := [(pi, .inr (4, [.int 0, .ref G.1, .int 0]))]) hP hK hD hS hA hT hZ [1] [] rfl rfl (by decide) rfl [.ref pi])⟩ rfl rfl hl.1 rfl (lv_room (Nat.le_of_ble_eq_true rfl)) dX11_cool_6 ⟨(Nat.le_of_ble_eq_true rfl), (Nat.le_of_ble_eq_true rfl)⟩) hS (fun q _ h => hFc q h) hFc (fun u r_499 t H locs ht hvm w_500 hB hz1 hk1 hS => ?_)
  obtain ⟨hP, hD, hK⟩ := q_join (D := D) (wc := [(pi, .inr (4, [.int 0, .ref G.1, .int 0]))]) (wr := [(mo, .inr (16, [.int th, .ref gl, .ref po, .ref pi, .ref bu, .ref pa, .int mt, .int mh, .int 40, .int 0, .null, .int 0, .int 0]))]) (w1 := [(pi, .inr (4, [.int 0, .ref G.1, .int 0])), (r_499, .inr (3, [.int 0, .int (-1), .int 0, .ref pi]))]) (tyr := []) (ty1 := []) hP hD hK [1] [0] [] rfl rfl (by decide) (by decide) rfl hFc hk1 ht hvm hB
  have hP : va_P D vwCl [(mo, .inr (16, [.int th, .ref gl, .ref po, .ref pi, .ref bu, .ref pa, .int mt, .int mh, .int 40, .int 0, .null, .int 0, .int 0])), (pi, .inr (4, [.int 0, .ref G.1, .int 0])), (r_499, .inr (3, [.int 0, .int (-1), .int 0, .ref pi]))] H := hP
  have hD : va_D A [(mo, .inr (16, [.int th, .ref gl, .ref po, .ref pi, .ref bu, .ref pa, .int mt, .int mh, .int 40, .int 0, .null, .int 0, .int 0])), (pi, .inr (4, [.int 0, .ref G.1, .int 0])), (r_499, .inr (3, [.int 0, .int (-1), .int 0, .ref pi]))] := hD
  have hK : va_K D vwCl [] s := hK
  refine W.widen (k := 1) (n := 4) (Nat.le_of_ble_eq_true rfl) (Nat.le_of_ble_eq_true rfl) ?_
  refine lv_astore_n (lv' := [(2, .ref r_499), (1, .int 0), (0, .ref mo)]) hx hb dX11_cool_9 rfl hl (by decide) rfl (fun ls hl => ?_)
  refine lv_aload_n hx hb dX11_cool_10 rfl (lv_at hl 0 rfl) ?_
  refine va_csFi (va_runF (As := []) (rest := []) (hK.1 3 (RJx35411, TJx35411, 4) rfl).2 ⟨hx, hb, hml, hown, hts⟩ (zc_Jx35411_hasNext_aae02 l D G r_499 pi) (va_cwF 0 hts gzX11_cool_Jx35411_hasNext_aae02_110 rfl rfl rfl (hT.2.2.2.2.2.2.1 (_, _, _) (List.mem_of_getElem? (i := 0) rfl)) (by decide +kernel) ⟨(Nat.le_of_ble_eq_true rfl), (Nat.le_of_ble_eq_true rfl)⟩) ⟨p_RO_blind, va_recv hK hP (ci := 3) (q0 := 2) rfl rfl, (p_RO_at (tc := []) (wc := [(r_499, .inr (3, [.int 0, .int (-1), .int 0, .ref pi])), (pi, .inr (4, [.int 0, .ref G.1, .int 0]))]) hP hK hT [2, 1] [] rfl rfl [.ref r_499])⟩ rfl rfl hl.1 rfl (lv_room (Nat.le_of_ble_eq_true rfl)) dX11_cool_11 ⟨(Nat.le_of_ble_eq_true rfl), (Nat.le_of_ble_eq_true rfl)⟩) (fun r_501 w_502 => ?_)
  obtain rfl := w_502
  refine lv_if_eq (tgt := 158) hx hb dX11_cool_16 (by decide) (fun _ => ?_) (fun cc => absurd (by decide) cc)
  refine lv_iload_n hx hb dX11_cool_158 rfl (lv_at hl 1 rfl) ?_
  exact W.iret (v := 0) hx hb hr (fun t ht hW => ⟨⟨0, (), rfl, rfl, q_RW_mk hP hK hD [0, 1] [] rfl rfl (by decide) rfl ht hW.alike⟩, hS.F ht⟩) hS.2.2 dX11_cool_159
theorem dX11_breaks_0 : decode cX11_breaks 0 = .ok (.iconst 0, 1) := by decide +kernel
theorem dX11_breaks_1 : decode cX11_breaks 1 = .ok (.istore_n 2, 1) := by decide +kernel
theorem dX11_breaks_2 : decode cX11_breaks 2 = .ok (.aload_n 0, 1) := by decide +kernel
theorem dX11_breaks_3 : decode cX11_breaks 3 = .ok (.getfield 19, 3) := by decide +kernel
theorem dX11_breaks_6 : decode cX11_breaks 6 = .ok (.invokevirtual 106, 3) := by decide +kernel
theorem dX11_breaks_9 : decode cX11_breaks 9 = .ok (.astore_n 3, 1) := by decide +kernel
theorem dX11_breaks_10 : decode cX11_breaks 10 = .ok (.aload_n 3, 1) := by decide +kernel
theorem dX11_breaks_11 : decode cX11_breaks 11 = .ok (.invokeinterface 110 1, 5) := by decide +kernel
theorem dX11_breaks_16 : decode cX11_breaks 16 = .ok (.ifCond .eq 76, 3) := by decide +kernel
theorem dX11_breaks_92 : decode cX11_breaks 92 = .ok (.iload_n 2, 1) := by decide +kernel
theorem dX11_breaks_93 : decode cX11_breaks 93 = .ok (.ireturn, 1) := by decide +kernel
def wzEX11_breaks : List Cond := [.code yX11_breaks cX11_breaks 6 (some .int), .fieldLink RX11 19 "GatherhouseModel" "pieces" "Ljava/util/ArrayList;", .methodLink RX11 106 yJx4a65c_iterator_32c93, .instanceMethod yJx4a65c_iterator_32c93, .selects RJx4a65c yJx4a65c_iterator_32c93 yJx4a65c_iterator_32c93, .initialized RJx4a65c, .code yJx4a65c_iterator_32c93 cJx4a65c_iterator_32c93 1 (some (.object "java/util/Iterator")), .classLink RJx4a65c 267 RJx35411, .instantiable RJx35411 4, .initialized RJx35411, .code yJx35411_init_45d68 cJx35411_init_45d68 2 none, .fieldLink RJx35411 1 "java/util/ArrayList$Itr" "this$0" "Ljava/util/ArrayList;", .methodLink RJx35411 7 objectInit, .instanceMethod objectInit, .code objectInit ⟨#[0xb1]⟩ 1 none, .fieldLink RJx35411 13 "java/util/ArrayList$Itr" "lastRet" "I", .sameField "java/util/ArrayList" "java/util/AbstractList" "modCount" "I", .fieldLink RJx35411 17 "java/util/ArrayList" "modCount" "I", .fieldLink RJx35411 22 "java/util/ArrayList$Itr" "expectedModCount" "I", .instanceMethod yJx35411_init_45d68, .methodLink RJx4a65c 269 yJx35411_init_45d68, .methodLink RX11 110 ⟨"java/util/Iterator", "hasNext", "()Z"⟩, .selects RJx35411 ⟨"java/util/Iterator", "hasNext", "()Z"⟩ yJx35411_hasNext_aae02, .instanceMethod yJx35411_hasNext_aae02, .code yJx35411_hasNext_aae02 cJx35411_hasNext_aae02 1 (some .boolean), .fieldLink RJx35411 25 "java/util/ArrayList$Itr" "cursor" "I"]
def wzX11_breaks : List Cond := wzEX11_breaks ++ (u_ws RX11 TX11 13 ++ (u_ws RJx35411 TJx35411 4 ++ (u_ws RJx4a65c TJx4a65c 3)))
theorem zgEX11_breaks : wzEX11_breaks.all goodWord = true := by decide +kernel
theorem zuX11_breaks_X11 : ∀ w ∈ u_ws RX11 TX11 13, w ∈ wzX11_breaks := (fun _ h => (List.mem_append_right _ (List.mem_append_left _ h)))
theorem zuX11_breaks_Jx35411 : ∀ w ∈ u_ws RJx35411 TJx35411 4, w ∈ wzX11_breaks := (fun _ h => (List.mem_append_right _ (List.mem_append_right _ (List.mem_append_left _ h))))
theorem zuX11_breaks_Jx4a65c : ∀ w ∈ u_ws RJx4a65c TJx4a65c 3, w ∈ wzX11_breaks := (fun _ h => (List.mem_append_right _ (List.mem_append_right _ (List.mem_append_right _ h))))
theorem gzX11_breaks_Jx4a65c_iterator_32c93_106 : GoodIn wzX11_breaks (wsV RX11 106 RJx4a65c yJx4a65c_iterator_32c93 wzJx4a65c_iterator_32c93) := (goodIn_app (z_lift (goodIn_r _ [2, 3, 4, 5] rfl (by decide +kernel))) (goodIn_app (z_lift (goodIn_r wzEJx4a65c_iterator_32c93 [6, 7, 8, 9, 10, 11, 12, 13, 14, 15, 16, 17, 18, 19, 20] rfl zgEJx4a65c_iterator_32c93)) (goodIn_app (goodIn_sub (fun _ h => (List.mem_append_right _ (List.mem_append_right _ (List.mem_append_left _ h)))) zgU_Jx35411) (goodIn_sub (fun _ h => (List.mem_append_right _ (List.mem_append_right _ (List.mem_append_right _ h)))) zgU_Jx4a65c))))
theorem gzX11_breaks_Jx35411_hasNext_aae02_110 : GoodIn wzX11_breaks (va_wsF RX11 110 RJx35411 ⟨"java/util/Iterator", "hasNext", "()Z"⟩ yJx35411_hasNext_aae02 wzJx35411_hasNext_aae02) := (goodIn_app (z_lift (goodIn_r _ [21, 22, 23, 9] rfl (by decide +kernel))) (goodIn_app (z_lift (goodIn_r wzEJx35411_hasNext_aae02 [24, 25, 11] rfl zgEJx35411_hasNext_aae02)) (goodIn_app (goodIn_sub (fun _ h => (List.mem_append_right _ (List.mem_append_right _ (List.mem_append_left _ h)))) zgU_Jx35411) (goodIn_sub (fun _ h => (List.mem_append_right _ (List.mem_append_right _ (List.mem_append_right _ h)))) zgU_Jx4a65c))))
set_option maxHeartbeats 4000000 in
set_option maxRecDepth 100000 in
theorem zc_X11_breaks (l : Launch) (D : va_G) (G : Nat × Nat × Nat) (mo : Nat) (gl : Nat) (po : Nat) (pi : Nat) (bu : Nat) (pa : Nat) (th : Int32) (mh : Int32) (mt : Int32) (td : Int32) (sz : Nat) : Met l yX11_breaks wzX11_breaks ({ frames := 3, cells := 1, slots := 4, locals := 53 }) (va_Pc [.ref mo, .int td] (p_RW D G [] [(mo, .inr (16, [.int th, .ref gl, .ref po, .ref pi, .ref bu, .ref pa, .int mt, .int mh, .int 40, .int 0, .null, .int 0, .int 0])), (pi, .inr (4, [.int 0, .ref G.1, .int 0]))] sz)) (va_Qi (fun (r : Int32) (u : Unit) => r = 0) (fun (u : Unit) (t : State) => q_RW D [] [(mo, .inr (16, [.int th, .ref gl, .ref po, .ref pi, .ref bu, .ref pa, .int mt, .int mh, .int 40, .int 0, .null, .int 0, .int 0])), (pi, .inr (4, [.int 0, .ref G.1, .int 0]))] (va_A [(mo, .inr (16, [.int th, .ref gl, .ref po, .ref pi, .ref bu, .ref pa, .int mt, .int mh, .int 40, .int 0, .null, .int 0, .int 0])), (pi, .inr (4, [.int 0, .ref G.1, .int 0]))] sz) t) (va_A [(mo, .inr (16, [.int th, .ref gl, .ref po, .ref pi, .ref bu, .ref pa, .int mt, .int mh, .int 40, .int 0, .null, .int 0, .int 0])), (pi, .inr (4, [.int 0, .ref G.1, .int 0]))] sz)) 1 4 (va_A [(mo, .inr (16, [.int th, .ref gl, .ref po, .ref pi, .ref bu, .ref pa, .int mt, .int mh, .int 40, .int 0, .null, .int 0, .int 0])), (pi, .inr (4, [.int 0, .ref G.1, .int 0]))] sz) := by
  refine Met.ofW (cc := cX11_breaks) (maxL := 6) (ret := (some .int)) (by decide) rfl ?_
  intro p e s m args below meth c s₁ B hml hv
  obtain ⟨rfl, hsz, hP, hK, hD0, hT, hZ⟩ := hv
  have hx := B.exec
  have hb := B.bytes
  have hr := B.returns
  have hts := atoms_spec (ws := wzX11_breaks) B.pre
  have hown : s.vm.findClass RX11 = some m.cls := findClass_of_methodNamed B.named
  have hlocks := B.notSynchronized
  subst hsz
  have hD := hD0.self (sz := s.heap.size)
  generalize hAe : va_A [(mo, .inr (16, [.int th, .ref gl, .ref po, .ref pi, .ref bu, .ref pa, .int mt, .int mh, .int 40, .int 0, .null, .int 0, .int 0])), (pi, .inr (4, [.int 0, .ref G.1, .int 0]))] s.heap.size = A at hD hZ ⊢
  have hA : ∀ q : Nat, s.heap.size ≤ q → A q := fun q h => by rw [← hAe]; exact Or.inr h
  have hS : va_S A s.heap s.heap [] := va_S.rf
  have hl := lv_entry ([.ref mo, .int td]) (n := 6) (Nat.le_of_ble_eq_true rfl)
  rw [lg_entry_eq]
  generalize (lg_sl ([.ref mo, .int td]) ++ List.replicate (6 - (lg_sl ([.ref mo, .int td])).length) Slot.unset).toArray = ls at hl ⊢
  have hl : lv_has ls 6 [(0, .ref mo), (1, .int td)] := hl
  refine lv_iconst (v := 0) hx hb dX11_breaks_0 (by decide) ?_
  refine lv_istore_n (lv' := [(2, .int 0), (0, .ref mo), (1, .int td)]) hx hb dX11_breaks_1 rfl hl (by decide) rfl (fun ls hl => ?_)
  refine lv_aload_n hx hb dX11_breaks_2 rfl (lv_at hl 1 rfl) ?_
  refine va_get (D := D) (cl := vwCl) (ci := 16) (v := .ref pi) (C := RX11) (T := TX11) (N := 13) hx hb hts zuX11_breaks_X11 hown hK hP 0 rfl rfl 3 (by decide) (hts (.fieldLink RX11 19 "GatherhouseModel" "pieces" "Ljava/util/ArrayList;") (by decide +kernel)) (fun _ h9 => h9) rfl dX11_breaks_3 ?_
  have hFc := va_free (wc := [(pi, .inr (4, [.int 0, .ref G.1, .int 0]))]) hD hS hA [1] rfl
  refine va_callr (va_runV (As := []) (rest := []) ⟨hx, hb, hml, hown, hts⟩ (zc_Jx4a65c_iterator_32c93 l D G pi s.heap.size) (cwV 0 hts gzX11_breaks_Jx4a65c_iterator_32c93_106 rfl rfl rfl (by decide +kernel) ⟨(Nat.le_of_ble_eq_true rfl), (Nat.le_of_ble_eq_true rfl)⟩) ⟨p_RW_blind, va_recv hK hP (ci := 4) (q0 := 1) rfl rfl, (p_RW_at (tc := []) (wc := [(pi, .inr (4, [.int 0, .ref G.1, .int 0]))]) hP hK hD hS hA hT hZ [1] [] rfl rfl (by decide) rfl [.ref pi])⟩ rfl rfl hl.1 rfl (lv_room (Nat.le_of_ble_eq_true rfl)) dX11_breaks_6 ⟨(Nat.le_of_ble_eq_true rfl), (Nat.le_of_ble_eq_true rfl)⟩) hS (fun q _ h => hFc q h) hFc (fun u r_503 t H locs ht hvm w_504 hB hz1 hk1 hS => ?_)
  obtain ⟨hP, hD, hK⟩ := q_join (D := D) (wc := [(pi, .inr (4, [.int 0, .ref G.1, .int 0]))]) (wr := [(mo, .inr (16, [.int th, .ref gl, .ref po, .ref pi, .ref bu, .ref pa, .int mt, .int mh, .int 40, .int 0, .null, .int 0, .int 0]))]) (w1 := [(pi, .inr (4, [.int 0, .ref G.1, .int 0])), (r_503, .inr (3, [.int 0, .int (-1), .int 0, .ref pi]))]) (tyr := []) (ty1 := []) hP hD hK [1] [0] [] rfl rfl (by decide) (by decide) rfl hFc hk1 ht hvm hB
  have hP : va_P D vwCl [(mo, .inr (16, [.int th, .ref gl, .ref po, .ref pi, .ref bu, .ref pa, .int mt, .int mh, .int 40, .int 0, .null, .int 0, .int 0])), (pi, .inr (4, [.int 0, .ref G.1, .int 0])), (r_503, .inr (3, [.int 0, .int (-1), .int 0, .ref pi]))] H := hP
  have hD : va_D A [(mo, .inr (16, [.int th, .ref gl, .ref po, .ref pi, .ref bu, .ref pa, .int mt, .int mh, .int 40, .int 0, .null, .int 0, .int 0])), (pi, .inr (4, [.int 0, .ref G.1, .int 0])), (r_503, .inr (3, [.int 0, .int (-1), .int 0, .ref pi]))] := hD
  have hK : va_K D vwCl [] s := hK
  refine W.widen (k := 1) (n := 4) (Nat.le_of_ble_eq_true rfl) (Nat.le_of_ble_eq_true rfl) ?_
  refine lv_astore_n (lv' := [(3, .ref r_503), (2, .int 0), (0, .ref mo), (1, .int td)]) hx hb dX11_breaks_9 rfl hl (by decide) rfl (fun ls hl => ?_)
  refine lv_aload_n hx hb dX11_breaks_10 rfl (lv_at hl 0 rfl) ?_
  refine va_csFi (va_runF (As := []) (rest := []) (hK.1 3 (RJx35411, TJx35411, 4) rfl).2 ⟨hx, hb, hml, hown, hts⟩ (zc_Jx35411_hasNext_aae02 l D G r_503 pi) (va_cwF 0 hts gzX11_breaks_Jx35411_hasNext_aae02_110 rfl rfl rfl (hT.2.2.2.2.2.2.1 (_, _, _) (List.mem_of_getElem? (i := 0) rfl)) (by decide +kernel) ⟨(Nat.le_of_ble_eq_true rfl), (Nat.le_of_ble_eq_true rfl)⟩) ⟨p_RO_blind, va_recv hK hP (ci := 3) (q0 := 2) rfl rfl, (p_RO_at (tc := []) (wc := [(r_503, .inr (3, [.int 0, .int (-1), .int 0, .ref pi])), (pi, .inr (4, [.int 0, .ref G.1, .int 0]))]) hP hK hT [2, 1] [] rfl rfl [.ref r_503])⟩ rfl rfl hl.1 rfl (lv_room (Nat.le_of_ble_eq_true rfl)) dX11_breaks_11 ⟨(Nat.le_of_ble_eq_true rfl), (Nat.le_of_ble_eq_true rfl)⟩) (fun r_505 w_506 => ?_)
  obtain rfl := w_506
  refine lv_if_eq (tgt := 92) hx hb dX11_breaks_16 (by decide) (fun _ => ?_) (fun cc => absurd (by decide) cc)
  refine lv_iload_n hx hb dX11_breaks_92 rfl (lv_at hl 1 rfl) ?_
  exact W.iret (v := 0) hx hb hr (fun t ht hW => ⟨⟨0, (), rfl, rfl, q_RW_mk hP hK hD [0, 1] [] rfl rfl (by decide) rfl ht hW.alike⟩, hS.F ht⟩) hS.2.2 dX11_breaks_93
theorem dX11_inLehr_0 : decode cX11_inLehr 0 = .ok (.iconst 0, 1) := by decide +kernel
theorem dX11_inLehr_1 : decode cX11_inLehr 1 = .ok (.istore_n 1, 1) := by decide +kernel
theorem dX11_inLehr_2 : decode cX11_inLehr 2 = .ok (.aload_n 0, 1) := by decide +kernel
theorem dX11_inLehr_3 : decode cX11_inLehr 3 = .ok (.getfield 19, 3) := by decide +kernel
theorem dX11_inLehr_6 : decode cX11_inLehr 6 = .ok (.invokevirtual 106, 3) := by decide +kernel
theorem dX11_inLehr_9 : decode cX11_inLehr 9 = .ok (.astore_n 2, 1) := by decide +kernel
theorem dX11_inLehr_10 : decode cX11_inLehr 10 = .ok (.aload_n 2, 1) := by decide +kernel
theorem dX11_inLehr_11 : decode cX11_inLehr 11 = .ok (.invokeinterface 110 1, 5) := by decide +kernel
theorem dX11_inLehr_16 : decode cX11_inLehr 16 = .ok (.ifCond .eq 33, 3) := by decide +kernel
theorem dX11_inLehr_49 : decode cX11_inLehr 49 = .ok (.iload_n 1, 1) := by decide +kernel
theorem dX11_inLehr_50 : decode cX11_inLehr 50 = .ok (.ireturn, 1) := by decide +kernel
def wzEX11_inLehr : List Cond := [.code yX11_inLehr cX11_inLehr 4 (some .int), .fieldLink RX11 19 "GatherhouseModel" "pieces" "Ljava/util/ArrayList;", .methodLink RX11 106 yJx4a65c_iterator_32c93, .instanceMethod yJx4a65c_iterator_32c93, .selects RJx4a65c yJx4a65c_iterator_32c93 yJx4a65c_iterator_32c93, .initialized RJx4a65c, .code yJx4a65c_iterator_32c93 cJx4a65c_iterator_32c93 1 (some (.object "java/util/Iterator")), .classLink RJx4a65c 267 RJx35411, .instantiable RJx35411 4, .initialized RJx35411, .code yJx35411_init_45d68 cJx35411_init_45d68 2 none, .fieldLink RJx35411 1 "java/util/ArrayList$Itr" "this$0" "Ljava/util/ArrayList;", .methodLink RJx35411 7 objectInit, .instanceMethod objectInit, .code objectInit ⟨#[0xb1]⟩ 1 none, .fieldLink RJx35411 13 "java/util/ArrayList$Itr" "lastRet" "I", .sameField "java/util/ArrayList" "java/util/AbstractList" "modCount" "I", .fieldLink RJx35411 17 "java/util/ArrayList" "modCount" "I", .fieldLink RJx35411 22 "java/util/ArrayList$Itr" "expectedModCount" "I", .instanceMethod yJx35411_init_45d68, .methodLink RJx4a65c 269 yJx35411_init_45d68, .methodLink RX11 110 ⟨"java/util/Iterator", "hasNext", "()Z"⟩, .selects RJx35411 ⟨"java/util/Iterator", "hasNext", "()Z"⟩ yJx35411_hasNext_aae02, .instanceMethod yJx35411_hasNext_aae02, .code yJx35411_hasNext_aae02 cJx35411_hasNext_aae02 1 (some .boolean), .fieldLink RJx35411 25 "java/util/ArrayList$Itr" "cursor" "I"]
def wzX11_inLehr : List Cond := wzEX11_inLehr ++ (u_ws RX11 TX11 13 ++ (u_ws RJx35411 TJx35411 4 ++ (u_ws RJx4a65c TJx4a65c 3)))
theorem zgEX11_inLehr : wzEX11_inLehr.all goodWord = true := by decide +kernel
theorem zuX11_inLehr_X11 : ∀ w ∈ u_ws RX11 TX11 13, w ∈ wzX11_inLehr := (fun _ h => (List.mem_append_right _ (List.mem_append_left _ h)))
theorem zuX11_inLehr_Jx35411 : ∀ w ∈ u_ws RJx35411 TJx35411 4, w ∈ wzX11_inLehr := (fun _ h => (List.mem_append_right _ (List.mem_append_right _ (List.mem_append_left _ h))))
theorem zuX11_inLehr_Jx4a65c : ∀ w ∈ u_ws RJx4a65c TJx4a65c 3, w ∈ wzX11_inLehr := (fun _ h => (List.mem_append_right _ (List.mem_append_right _ (List.mem_append_right _ h))))
theorem gzX11_inLehr_Jx4a65c_iterator_32c93_106 : GoodIn wzX11_inLehr (wsV RX11 106 RJx4a65c yJx4a65c_iterator_32c93 wzJx4a65c_iterator_32c93) := (goodIn_app (z_lift (goodIn_r _ [2, 3, 4, 5] rfl (by decide +kernel))) (goodIn_app (z_lift (goodIn_r wzEJx4a65c_iterator_32c93 [6, 7, 8, 9, 10, 11, 12, 13, 14, 15, 16, 17, 18, 19, 20] rfl zgEJx4a65c_iterator_32c93)) (goodIn_app (goodIn_sub (fun _ h => (List.mem_append_right _ (List.mem_append_right _ (List.mem_append_left _ h)))) zgU_Jx35411) (goodIn_sub (fun _ h => (List.mem_append_right _ (List.mem_append_right _ (List.mem_append_right _ h)))) zgU_Jx4a65c))))
theorem gzX11_inLehr_Jx35411_hasNext_aae02_110 : GoodIn wzX11_inLehr (va_wsF RX11 110 RJx35411 ⟨"java/util/Iterator", "hasNext", "()Z"⟩ yJx35411_hasNext_aae02 wzJx35411_hasNext_aae02) := (goodIn_app (z_lift (goodIn_r _ [21, 22, 23, 9] rfl (by decide +kernel))) (goodIn_app (z_lift (goodIn_r wzEJx35411_hasNext_aae02 [24, 25, 11] rfl zgEJx35411_hasNext_aae02)) (goodIn_app (goodIn_sub (fun _ h => (List.mem_append_right _ (List.mem_append_right _ (List.mem_append_left _ h)))) zgU_Jx35411) (goodIn_sub (fun _ h => (List.mem_append_right _ (List.mem_append_right _ (List.mem_append_right _ h)))) zgU_Jx4a65c))))
set_option maxHeartbeats 4000000 in
set_option maxRecDepth 100000 in
theorem zc_X11_inLehr (l : Launch) (D : va_G) (G : Nat × Nat × Nat) (mo : Nat) (gl : Nat) (po : Nat) (pi : Nat) (bu : Nat) (pa : Nat) (th : Int32) (mh : Int32) (mt : Int32) (sz : Nat) : Met l yX11_inLehr wzX11_inLehr ({ frames := 3, cells := 1, slots := 4, locals := 53 }) (va_Pc [.ref mo] (p_RW D G [] [(mo, .inr (16, [.int th, .ref gl, .ref po, .ref pi, .ref bu, .ref pa, .int mt, .int mh, .int 40, .int 0, .null, .int 0, .int 0])), (pi, .inr (4, [.int 0, .ref G.1, .int 0]))] sz)) (va_Qi (fun (r : Int32) (u : Unit) => r = 0) (fun (u : Unit) (t : State) => q_RW D [] [(mo, .inr (16, [.int th, .ref gl, .ref po, .ref pi, .ref bu, .ref pa, .int mt, .int mh, .int 40, .int 0, .null, .int 0, .int 0])), (pi, .inr (4, [.int 0, .ref G.1, .int 0]))] (va_A [(mo, .inr (16, [.int th, .ref gl, .ref po, .ref pi, .ref bu, .ref pa, .int mt, .int mh, .int 40, .int 0, .null, .int 0, .int 0])), (pi, .inr (4, [.int 0, .ref G.1, .int 0]))] sz) t) (va_A [(mo, .inr (16, [.int th, .ref gl, .ref po, .ref pi, .ref bu, .ref pa, .int mt, .int mh, .int 40, .int 0, .null, .int 0, .int 0])), (pi, .inr (4, [.int 0, .ref G.1, .int 0]))] sz)) 1 4 (va_A [(mo, .inr (16, [.int th, .ref gl, .ref po, .ref pi, .ref bu, .ref pa, .int mt, .int mh, .int 40, .int 0, .null, .int 0, .int 0])), (pi, .inr (4, [.int 0, .ref G.1, .int 0]))] sz) := by
  refine Met.ofW (cc := cX11_inLehr) (maxL := 4) (ret := (some .int)) (by decide) rfl ?_
  intro p e s m args below meth c s₁ B hml hv
  obtain ⟨rfl, hsz, hP, hK, hD0, hT, hZ⟩ := hv
  have hx := B.exec
  have hb := B.bytes
  have hr := B.returns
  have hts := atoms_spec (ws := wzX11_inLehr) B.pre
  have hown : s.vm.findClass RX11 = some m.cls := findClass_of_methodNamed B.named
  have hlocks := B.notSynchronized
  subst hsz
  have hD := hD0.self (sz := s.heap.size)
  generalize hAe : va_A [(mo, .inr (16, [.int th, .ref gl, .ref po, .ref pi, .ref bu, .ref pa, .int mt, .int mh, .int 40, .int 0, .null, .int 0, .int 0])), (pi, .inr (4, [.int 0, .ref G.1, .int 0]))] s.heap.size = A at hD hZ ⊢
  have hA : ∀ q : Nat, s.heap.size ≤ q → A q := fun q h => by rw [← hAe]; exact Or.inr h
  have hS : va_S A s.heap s.heap [] := va_S.rf
  have hl := lv_entry ([.ref mo]) (n := 4) (Nat.le_of_ble_eq_true rfl)
  rw [lg_entry_eq]
  generalize (lg_sl ([.ref mo]) ++ List.replicate (4 - (lg_sl ([.ref mo])).length) Slot.unset).toArray = ls at hl ⊢
  have hl : lv_has ls 4 [(0, .ref mo)] := hl
  refine lv_iconst (v := 0) hx hb dX11_inLehr_0 (by decide) ?_
  refine lv_istore_n (lv' := [(1, .int 0), (0, .ref mo)]) hx hb dX11_inLehr_1 rfl hl (by decide) rfl (fun ls hl => ?_)
  refine lv_aload_n hx hb dX11_inLehr_2 rfl (lv_at hl 1 rfl) ?_
  refine va_get (D := D) (cl := vwCl) (ci := 16) (v := .ref pi) (C := RX11) (T := TX11) (N := 13) hx hb hts zuX11_inLehr_X11 hown hK hP 0 rfl rfl 3 (by decide) (hts (.fieldLink RX11 19 "GatherhouseModel" "pieces" "Ljava/util/ArrayList;") (by decide +kernel)) (fun _ h9 => h9) rfl dX11_inLehr_3 ?_
  have hFc := va_free (wc := [(pi, .inr (4, [.int 0, .ref G.1, .int 0]))]) hD hS hA [1] rfl
  refine va_callr (va_runV (As := []) (rest := []) ⟨hx, hb, hml, hown, hts⟩ (zc_Jx4a65c_iterator_32c93 l D G pi s.heap.size) (cwV 0 hts gzX11_inLehr_Jx4a65c_iterator_32c93_106 rfl rfl rfl (by decide +kernel) ⟨(Nat.le_of_ble_eq_true rfl), (Nat.le_of_ble_eq_true rfl)⟩) ⟨p_RW_blind, va_recv hK hP (ci := 4) (q0 := 1) rfl rfl, (p_RW_at (tc := []) (wc := [(pi, .inr (4, [.int 0, .ref G.1, .int 0]))]) hP hK hD hS hA hT hZ [1] [] rfl rfl (by decide) rfl [.ref pi])⟩ rfl rfl hl.1 rfl (lv_room (Nat.le_of_ble_eq_true rfl)) dX11_inLehr_6 ⟨(Nat.le_of_ble_eq_true rfl), (Nat.le_of_ble_eq_true rfl)⟩) hS (fun q _ h => hFc q h) hFc (fun u r_507 t H locs ht hvm w_508 hB hz1 hk1 hS => ?_)
  obtain ⟨hP, hD, hK⟩ := q_join (D := D) (wc := [(pi, .inr (4, [.int 0, .ref G.1, .int 0]))]) (wr := [(mo, .inr (16, [.int th, .ref gl, .ref po, .ref pi, .ref bu, .ref pa, .int mt, .int mh, .int 40, .int 0, .null, .int 0, .int 0]))]) (w1 := [(pi, .inr (4, [.int 0, .ref G.1, .int 0])), (r_507, .inr (3, [.int 0, .int (-1), .int 0, .ref pi]))]) (tyr := []) (ty1 := []) hP hD hK [1] [0] [] rfl rfl (by decide) (by decide) rfl hFc hk1 ht hvm hB
  have hP : va_P D vwCl [(mo, .inr (16, [.int th, .ref gl, .ref po, .ref pi, .ref bu, .ref pa, .int mt, .int mh, .int 40, .int 0, .null, .int 0, .int 0])), (pi, .inr (4, [.int 0, .ref G.1, .int 0])), (r_507, .inr (3, [.int 0, .int (-1), .int 0, .ref pi]))] H := hP
  have hD : va_D A [(mo, .inr (16, [.int th, .ref gl, .ref po, .ref pi, .ref bu, .ref pa, .int mt, .int mh, .int 40, .int 0, .null, .int 0, .int 0])), (pi, .inr (4, [.int 0, .ref G.1, .int 0])), (r_507, .inr (3, [.int 0, .int (-1), .int 0, .ref pi]))] := hD
  have hK : va_K D vwCl [] s := hK
  refine W.widen (k := 1) (n := 4) (Nat.le_of_ble_eq_true rfl) (Nat.le_of_ble_eq_true rfl) ?_
  refine lv_astore_n (lv' := [(2, .ref r_507), (1, .int 0), (0, .ref mo)]) hx hb dX11_inLehr_9 rfl hl (by decide) rfl (fun ls hl => ?_)
  refine lv_aload_n hx hb dX11_inLehr_10 rfl (lv_at hl 0 rfl) ?_
  refine va_csFi (va_runF (As := []) (rest := []) (hK.1 3 (RJx35411, TJx35411, 4) rfl).2 ⟨hx, hb, hml, hown, hts⟩ (zc_Jx35411_hasNext_aae02 l D G r_507 pi) (va_cwF 0 hts gzX11_inLehr_Jx35411_hasNext_aae02_110 rfl rfl rfl (hT.2.2.2.2.2.2.1 (_, _, _) (List.mem_of_getElem? (i := 0) rfl)) (by decide +kernel) ⟨(Nat.le_of_ble_eq_true rfl), (Nat.le_of_ble_eq_true rfl)⟩) ⟨p_RO_blind, va_recv hK hP (ci := 3) (q0 := 2) rfl rfl, (p_RO_at (tc := []) (wc := [(r_507, .inr (3, [.int 0, .int (-1), .int 0, .ref pi])), (pi, .inr (4, [.int 0, .ref G.1, .int 0]))]) hP hK hT [2, 1] [] rfl rfl [.ref r_507])⟩ rfl rfl hl.1 rfl (lv_room (Nat.le_of_ble_eq_true rfl)) dX11_inLehr_11 ⟨(Nat.le_of_ble_eq_true rfl), (Nat.le_of_ble_eq_true rfl)⟩) (fun r_509 w_510 => ?_)
  obtain rfl := w_510
  refine lv_if_eq (tgt := 49) hx hb dX11_inLehr_16 (by decide) (fun _ => ?_) (fun cc => absurd (by decide) cc)
  refine lv_iload_n hx hb dX11_inLehr_49 rfl (lv_at hl 1 rfl) ?_
  exact W.iret (v := 0) hx hb hr (fun t ht hW => ⟨⟨0, (), rfl, rfl, q_RW_mk hP hK hD [0, 1] [] rfl rfl (by decide) rfl ht hW.alike⟩, hS.F ht⟩) hS.2.2 dX11_inLehr_50
theorem dX11_whyNot_0 : decode cX11_whyNot 0 = .ok (.iload_n 1, 1) := by decide +kernel
theorem dX11_whyNot_1 : decode cX11_whyNot 1 = .ok (.iconst 1, 1) := by decide +kernel
theorem dX11_whyNot_2 : decode cX11_whyNot 2 = .ok (.iload_n 2, 1) := by decide +kernel
theorem dX11_whyNot_3 : decode cX11_whyNot 3 = .ok (.invokestatic 47, 3) := by decide +kernel
theorem dX11_whyNot_6 : decode cX11_whyNot 6 = .ok (.ifCond .ne 5, 3) := by decide +kernel
theorem dX11_whyNot_11 : decode cX11_whyNot 11 = .ok (.aload_n 0, 1) := by decide +kernel
theorem dX11_whyNot_12 : decode cX11_whyNot 12 = .ok (.getfield 19, 3) := by decide +kernel
theorem dX11_whyNot_15 : decode cX11_whyNot 15 = .ok (.invokevirtual 106, 3) := by decide +kernel
theorem dX11_whyNot_18 : decode cX11_whyNot 18 = .ok (.astore_n 3, 1) := by decide +kernel
theorem dX11_whyNot_19 : decode cX11_whyNot 19 = .ok (.aload_n 3, 1) := by decide +kernel
theorem dX11_whyNot_20 : decode cX11_whyNot 20 = .ok (.invokeinterface 110 1, 5) := by decide +kernel
theorem dX11_whyNot_25 : decode cX11_whyNot 25 = .ok (.ifCond .eq 29, 3) := by decide +kernel
theorem dX11_whyNot_54 : decode cX11_whyNot 54 = .ok (.aload_n 0, 1) := by decide +kernel
theorem dX11_whyNot_55 : decode cX11_whyNot 55 = .ok (.getfield 30, 3) := by decide +kernel
theorem dX11_whyNot_58 : decode cX11_whyNot 58 = .ok (.astore_n 3, 1) := by decide +kernel
theorem dX11_whyNot_59 : decode cX11_whyNot 59 = .ok (.aload_n 3, 1) := by decide +kernel
theorem dX11_whyNot_60 : decode cX11_whyNot 60 = .ok (.arraylength, 1) := by decide +kernel
theorem dX11_whyNot_61 : decode cX11_whyNot 61 = .ok (.istore 4, 2) := by decide +kernel
theorem dX11_whyNot_63 : decode cX11_whyNot 63 = .ok (.iconst 0, 1) := by decide +kernel
theorem dX11_whyNot_64 : decode cX11_whyNot 64 = .ok (.istore 5, 2) := by decide +kernel
theorem dX11_whyNot_66 : decode cX11_whyNot 66 = .ok (.iload 5, 2) := by decide +kernel
theorem dX11_whyNot_68 : decode cX11_whyNot 68 = .ok (.iload 4, 2) := by decide +kernel
theorem dX11_whyNot_70 : decode cX11_whyNot 70 = .ok (.if_icmp .ge 22, 3) := by decide +kernel
theorem dX11_whyNot_73 : decode cX11_whyNot 73 = .ok (.aload_n 3, 1) := by decide +kernel
theorem dX11_whyNot_74 : decode cX11_whyNot 74 = .ok (.iload 5, 2) := by decide +kernel
theorem dX11_whyNot_76 : decode cX11_whyNot 76 = .ok (.iaload, 1) := by decide +kernel
theorem dX11_whyNot_77 : decode cX11_whyNot 77 = .ok (.istore 6, 2) := by decide +kernel
theorem dX11_whyNot_79 : decode cX11_whyNot 79 = .ok (.iload 6, 2) := by decide +kernel
theorem dX11_whyNot_81 : decode cX11_whyNot 81 = .ok (.ifCond .le 5, 3) := by decide +kernel
theorem dX11_whyNot_86 : decode cX11_whyNot 86 = .ok (.iinc 5 1, 3) := by decide +kernel
theorem dX11_whyNot_89 : decode cX11_whyNot 89 = .ok (.goto (-23), 3) := by decide +kernel
theorem dX11_whyNot_92 : decode cX11_whyNot 92 = .ok (.iconst 0, 1) := by decide +kernel
theorem dX11_whyNot_93 : decode cX11_whyNot 93 = .ok (.ireturn, 1) := by decide +kernel
theorem dX11_whyNot_9 : decode cX11_whyNot 9 = .ok (.iconst 1, 1) := by decide +kernel
theorem dX11_whyNot_10 : decode cX11_whyNot 10 = .ok (.ireturn, 1) := by decide +kernel
def wzEX11_whyNot : List Cond := [.code yX11_whyNot cX11_whyNot 7 (some .int), .methodLink RX11 47 yX11_in, .static yX11_in, .initialized RX11, .code yX11_in cX11_in 3 (some .boolean), .fieldLink RX11 19 "GatherhouseModel" "pieces" "Ljava/util/ArrayList;", .methodLink RX11 106 yJx4a65c_iterator_32c93, .instanceMethod yJx4a65c_iterator_32c93, .selects RJx4a65c yJx4a65c_iterator_32c93 yJx4a65c_iterator_32c93, .initialized RJx4a65c, .code yJx4a65c_iterator_32c93 cJx4a65c_iterator_32c93 1 (some (.object "java/util/Iterator")), .classLink RJx4a65c 267 RJx35411, .instantiable RJx35411 4, .initialized RJx35411, .code yJx35411_init_45d68 cJx35411_init_45d68 2 none, .fieldLink RJx35411 1 "java/util/ArrayList$Itr" "this$0" "Ljava/util/ArrayList;", .methodLink RJx35411 7 objectInit, .instanceMethod objectInit, .code objectInit ⟨#[0xb1]⟩ 1 none, .fieldLink RJx35411 13 "java/util/ArrayList$Itr" "lastRet" "I", .sameField "java/util/ArrayList" "java/util/AbstractList" "modCount" "I", .fieldLink RJx35411 17 "java/util/ArrayList" "modCount" "I", .fieldLink RJx35411 22 "java/util/ArrayList$Itr" "expectedModCount" "I", .instanceMethod yJx35411_init_45d68, .methodLink RJx4a65c 269 yJx35411_init_45d68, .methodLink RX11 110 ⟨"java/util/Iterator", "hasNext", "()Z"⟩, .selects RJx35411 ⟨"java/util/Iterator", "hasNext", "()Z"⟩ yJx35411_hasNext_aae02, .instanceMethod yJx35411_hasNext_aae02, .code yJx35411_hasNext_aae02 cJx35411_hasNext_aae02 1 (some .boolean), .fieldLink RJx35411 25 "java/util/ArrayList$Itr" "cursor" "I", .fieldLink RX11 30 "GatherhouseModel" "busy" "[I"]
def wzX11_whyNot : List Cond := wzEX11_whyNot ++ (u_ws RX11 TX11 13 ++ (u_ws RJx35411 TJx35411 4 ++ (u_ws RJx4a65c TJx4a65c 3)))
theorem zgEX11_whyNot : wzEX11_whyNot.all goodWord = true := by decide +kernel
theorem zuX11_whyNot_X11 : ∀ w ∈ u_ws RX11 TX11 13, w ∈ wzX11_whyNot := (fun _ h => (List.mem_append_right _ (List.mem_append_left _ h)))
theorem zuX11_whyNot_Jx35411 : ∀ w ∈ u_ws RJx35411 TJx35411 4, w ∈ wzX11_whyNot := (fun _ h => (List.mem_append_right _ (List.mem_append_right _ (List.mem_append_left _ h))))
theorem zuX11_whyNot_Jx4a65c : ∀ w ∈ u_ws RJx4a65c TJx4a65c 3, w ∈ wzX11_whyNot := (fun _ h => (List.mem_append_right _ (List.mem_append_right _ (List.mem_append_right _ h))))
theorem gzX11_whyNot_X11_in_47 : GoodIn wzX11_whyNot (va_wsS RX11 47 yX11_in wzX11_in) := (goodIn_app (z_lift (goodIn_r _ [1, 2, 3] rfl (by decide +kernel))) (goodIn_app (z_lift (goodIn_r wzEX11_in [4] rfl zgEX11_in)) z_gnil))
theorem gzX11_whyNot_Jx4a65c_iterator_32c93_106 : GoodIn wzX11_whyNot (wsV RX11 106 RJx4a65c yJx4a65c_iterator_32c93 wzJx4a65c_iterator_32c93) := (goodIn_app (z_lift (goodIn_r _ [6, 7, 8, 9] rfl (by decide +kernel))) (goodIn_app (z_lift (goodIn_r wzEJx4a65c_iterator_32c93 [10, 11, 12, 13, 14, 15, 16, 17, 18, 19, 20, 21, 22, 23, 24] rfl zgEJx4a65c_iterator_32c93)) (goodIn_app (goodIn_sub (fun _ h => (List.mem_append_right _ (List.mem_append_right _ (List.mem_append_left _ h)))) zgU_Jx35411) (goodIn_sub (fun _ h => (List.mem_append_right _ (List.mem_append_right _ (List.mem_append_right _ h)))) zgU_Jx4a65c))))
theorem gzX11_whyNot_Jx35411_hasNext_aae02_110 : GoodIn wzX11_whyNot (va_wsF RX11 110 RJx35411 ⟨"java/util/Iterator", "hasNext", "()Z"⟩ yJx35411_hasNext_aae02 wzJx35411_hasNext_aae02) := (goodIn_app (z_lift (goodIn_r _ [25, 26, 27, 13] rfl (by decide +kernel))) (goodIn_app (z_lift (goodIn_r wzEJx35411_hasNext_aae02 [28, 29, 15] rfl zgEJx35411_hasNext_aae02)) (goodIn_app (goodIn_sub (fun _ h => (List.mem_append_right _ (List.mem_append_right _ (List.mem_append_left _ h)))) zgU_Jx35411) (goodIn_sub (fun _ h => (List.mem_append_right _ (List.mem_append_right _ (List.mem_append_right _ h)))) zgU_Jx4a65c))))
set_option maxHeartbeats 4000000 in
set_option maxRecDepth 100000 in
theorem zc_X11_whyNot (l : Launch) (D : va_G) (G : Nat × Nat × Nat) (mo : Nat) (gl : Nat) (po : Nat) (pi : Nat) (bu : Nat) (pa : Nat) (th : Int32) (mh : Int32) (mt : Int32) (ci : ClassId) (ii : Int32) (jj : Int32) (sz : Nat) : Met l yX11_whyNot wzX11_whyNot ({ frames := 3, cells := 1, slots := 4, locals := 53 }) (va_Pc [.ref mo, .int ii, .int jj] (p_RW D G [(ci, .int)] [(mo, .inr (16, [.int th, .ref gl, .ref po, .ref pi, .ref bu, .ref pa, .int mt, .int mh, .int 40, .int 0, .null, .int 0, .int 0])), (pi, .inr (4, [.int 0, .ref G.1, .int 0])), (bu, .inl (ci, 4, .inl (fun _ => 0)))] sz)) (va_Qi (fun (r : Int32) (u : Unit) => (inR ii 1 jj ∧ r = 0) ∨ (¬ inR ii 1 jj ∧ r = 1)) (fun (u : Unit) (t : State) => q_RW D [(ci, .int)] [(mo, .inr (16, [.int th, .ref gl, .ref po, .ref pi, .ref bu, .ref pa, .int mt, .int mh, .int 40, .int 0, .null, .int 0, .int 0])), (pi, .inr (4, [.int 0, .ref G.1, .int 0])), (bu, .inl (ci, 4, .inl (fun _ => 0)))] (va_A [(mo, .inr (16, [.int th, .ref gl, .ref po, .ref pi, .ref bu, .ref pa, .int mt, .int mh, .int 40, .int 0, .null, .int 0, .int 0])), (pi, .inr (4, [.int 0, .ref G.1, .int 0])), (bu, .inl (ci, 4, .inl (fun _ => 0)))] sz) t) (va_A [(mo, .inr (16, [.int th, .ref gl, .ref po, .ref pi, .ref bu, .ref pa, .int mt, .int mh, .int 40, .int 0, .null, .int 0, .int 0])), (pi, .inr (4, [.int 0, .ref G.1, .int 0])), (bu, .inl (ci, 4, .inl (fun _ => 0)))] sz)) 1 4 (va_A [(mo, .inr (16, [.int th, .ref gl, .ref po, .ref pi, .ref bu, .ref pa, .int mt, .int mh, .int 40, .int 0, .null, .int 0, .int 0])), (pi, .inr (4, [.int 0, .ref G.1, .int 0])), (bu, .inl (ci, 4, .inl (fun _ => 0)))] sz) := by
  refine Met.ofW (cc := cX11_whyNot) (maxL := 7) (ret := (some .int)) (by decide) rfl ?_
  intro p e s m args below meth c s₁ B hml hv
  obtain ⟨rfl, hsz, hP, hK, hD0, hT, hZ⟩ := hv
  have hx := B.exec
  have hb := B.bytes
  have hr := B.returns
  have hts := atoms_spec (ws := wzX11_whyNot) B.pre
  have hown : s.vm.findClass RX11 = some m.cls := findClass_of_methodNamed B.named
  have hlocks := B.notSynchronized
  subst hsz
  have hD := hD0.self (sz := s.heap.size)
  generalize hAe : va_A [(mo, .inr (16, [.int th, .ref gl, .ref po, .ref pi, .ref bu, .ref pa, .int mt, .int mh, .int 40, .int 0, .null, .int 0, .int 0])), (pi, .inr (4, [.int 0, .ref G.1, .int 0])), (bu, .inl (ci, 4, .inl (fun _ => 0)))] s.heap.size = A at hD hZ ⊢
  have hA : ∀ q : Nat, s.heap.size ≤ q → A q := fun q h => by rw [← hAe]; exact Or.inr h
  have hS : va_S A s.heap s.heap [] := va_S.rf
  have hl := lv_entry ([.ref mo, .int ii, .int jj]) (n := 7) (Nat.le_of_ble_eq_true rfl)
  rw [lg_entry_eq]
  generalize (lg_sl ([.ref mo, .int ii, .int jj]) ++ List.replicate (7 - (lg_sl ([.ref mo, .int ii, .int jj])).length) Slot.unset).toArray = ls at hl ⊢
  have hl : lv_has ls 7 [(0, .ref mo), (1, .int ii), (2, .int jj)] := hl
  refine lv_iload_n hx hb dX11_whyNot_0 rfl (lv_at hl 1 rfl) ?_
  refine lv_iconst (v := 1) hx hb dX11_whyNot_1 (by decide) ?_
  refine lv_iload_n hx hb dX11_whyNot_2 rfl (lv_at hl 2 rfl) ?_
  refine vp_callSi (va_runS (As := [.int ii, .int 1, .int jj]) (rest := []) ⟨hx, hb, hml, hown, hts⟩ (zc_X11_in l D G ii 1 jj) (cwS 3 hts gzX11_whyNot_X11_in_47 rfl rfl rfl (by decide +kernel) ⟨(Nat.le_of_ble_eq_true rfl), (Nat.le_of_ble_eq_true rfl)⟩) ⟨p_RO_blind, (p_RO_at (tc := []) (wc := []) hP hK hT [] [] rfl rfl [.int ii, .int 1, .int jj])⟩ rfl rfl hl.1 rfl (lv_room (Nat.le_of_ble_eq_true rfl)) dX11_whyNot_3 ⟨(Nat.le_of_ble_eq_true rfl), (Nat.le_of_ble_eq_true rfl)⟩).run (fun r_511 w_512 => ?_)
  rcases w_512 with ⟨c_513, rfl⟩ | ⟨c_514, rfl⟩
  · refine lv_if_ne (tgt := 11) hx hb dX11_whyNot_6 (by decide) (fun _ => ?_) (fun cc => absurd cc (by decide))
    refine lv_aload_n hx hb dX11_whyNot_11 rfl (lv_at hl 0 rfl) ?_
    refine va_get (D := D) (cl := vwCl) (ci := 16) (v := .ref pi) (C := RX11) (T := TX11) (N := 13) hx hb hts zuX11_whyNot_X11 hown hK hP 0 rfl rfl 3 (by decide) (hts (.fieldLink RX11 19 "GatherhouseModel" "pieces" "Ljava/util/ArrayList;") (by decide +kernel)) (fun _ h9 => h9) rfl dX11_whyNot_12 ?_
    have hFc := va_free (wc := [(pi, .inr (4, [.int 0, .ref G.1, .int 0]))]) hD hS hA [1] rfl
    refine va_callr (va_runV (As := []) (rest := []) ⟨hx, hb, hml, hown, hts⟩ (zc_Jx4a65c_iterator_32c93 l D G pi s.heap.size) (cwV 0 hts gzX11_whyNot_Jx4a65c_iterator_32c93_106 rfl rfl rfl (by decide +kernel) ⟨(Nat.le_of_ble_eq_true rfl), (Nat.le_of_ble_eq_true rfl)⟩) ⟨p_RW_blind, va_recv hK hP (ci := 4) (q0 := 1) rfl rfl, (p_RW_at (tc := []) (wc := [(pi, .inr (4, [.int 0, .ref G.1, .int 0]))]) hP hK hD hS hA hT hZ [1] [] rfl rfl (by decide) rfl [.ref pi])⟩ rfl rfl hl.1 rfl (lv_room (Nat.le_of_ble_eq_true rfl)) dX11_whyNot_15 ⟨(Nat.le_of_ble_eq_true rfl), (Nat.le_of_ble_eq_true rfl)⟩) hS (fun q _ h => hFc q h) hFc (fun u r_515 t H locs ht hvm w_516 hB hz1 hk1 hS => ?_)
    obtain ⟨hP, hD, hK⟩ := q_join (D := D) (wc := [(pi, .inr (4, [.int 0, .ref G.1, .int 0]))]) (wr := [(mo, .inr (16, [.int th, .ref gl, .ref po, .ref pi, .ref bu, .ref pa, .int mt, .int mh, .int 40, .int 0, .null, .int 0, .int 0])), (bu, .inl (ci, 4, .inl (fun _ => 0)))]) (w1 := [(pi, .inr (4, [.int 0, .ref G.1, .int 0])), (r_515, .inr (3, [.int 0, .int (-1), .int 0, .ref pi]))]) (tyr := [(ci, .int)]) (ty1 := []) hP hD hK [1] [0, 2] [0] rfl rfl (by decide) (by decide) rfl hFc hk1 ht hvm hB
    have hP : va_P D vwCl [(mo, .inr (16, [.int th, .ref gl, .ref po, .ref pi, .ref bu, .ref pa, .int mt, .int mh, .int 40, .int 0, .null, .int 0, .int 0])), (bu, .inl (ci, 4, .inl (fun _ => 0))), (pi, .inr (4, [.int 0, .ref G.1, .int 0])), (r_515, .inr (3, [.int 0, .int (-1), .int 0, .ref pi]))] H := hP
    have hD : va_D A [(mo, .inr (16, [.int th, .ref gl, .ref po, .ref pi, .ref bu, .ref pa, .int mt, .int mh, .int 40, .int 0, .null, .int 0, .int 0])), (bu, .inl (ci, 4, .inl (fun _ => 0))), (pi, .inr (4, [.int 0, .ref G.1, .int 0])), (r_515, .inr (3, [.int 0, .int (-1), .int 0, .ref pi]))] := hD
    have hK : va_K D vwCl [(ci, .int)] s := hK
    refine W.widen (k := 1) (n := 4) (Nat.le_of_ble_eq_true rfl) (Nat.le_of_ble_eq_true rfl) ?_
    refine lv_astore_n (lv' := [(3, .ref r_515), (0, .ref mo), (1, .int ii), (2, .int jj)]) hx hb dX11_whyNot_18 rfl hl (by decide) rfl (fun ls hl => ?_)
    refine lv_aload_n hx hb dX11_whyNot_19 rfl (lv_at hl 0 rfl) ?_
    refine va_csFi (va_runF (As := []) (rest := []) (hK.1 3 (RJx35411, TJx35411, 4) rfl).2 ⟨hx, hb, hml, hown, hts⟩ (zc_Jx35411_hasNext_aae02 l D G r_515 pi) (va_cwF 0 hts gzX11_whyNot_Jx35411_hasNext_aae02_110 rfl rfl rfl (hT.2.2.2.2.2.2.1 (_, _, _) (List.mem_of_getElem? (i := 0) rfl)) (by decide +kernel) ⟨(Nat.le_of_ble_eq_true rfl), (Nat.le_of_ble_eq_true rfl)⟩) ⟨p_RO_blind, va_recv hK hP (ci := 3) (q0 := 3) rfl rfl, (p_RO_at (tc := []) (wc := [(r_515, .inr (3, [.int 0, .int (-1), .int 0, .ref pi])), (pi, .inr (4, [.int 0, .ref G.1, .int 0]))]) hP hK hT [3, 2] [] rfl rfl [.ref r_515])⟩ rfl rfl hl.1 rfl (lv_room (Nat.le_of_ble_eq_true rfl)) dX11_whyNot_20 ⟨(Nat.le_of_ble_eq_true rfl), (Nat.le_of_ble_eq_true rfl)⟩) (fun r_517 w_518 => ?_)
    obtain rfl := w_518
    refine lv_if_eq (tgt := 54) hx hb dX11_whyNot_25 (by decide) (fun _ => ?_) (fun cc => absurd (by decide) cc)
    refine lv_aload_n hx hb dX11_whyNot_54 rfl (lv_at hl 1 rfl) ?_
    refine va_get (D := D) (cl := vwCl) (ci := 16) (v := .ref bu) (C := RX11) (T := TX11) (N := 13) hx hb hts zuX11_whyNot_X11 hown hK hP 0 rfl rfl 4 (by decide) (hts (.fieldLink RX11 30 "GatherhouseModel" "busy" "[I") (by decide +kernel)) (fun _ h9 => h9) rfl dX11_whyNot_55 ?_
    refine lv_astore_n (lv' := [(3, .ref bu), (0, .ref mo), (1, .int ii), (2, .int jj)]) hx hb dX11_whyNot_58 rfl hl (by decide) rfl (fun ls hl => ?_)
    refine lv_aload_n hx hb dX11_whyNot_59 rfl (lv_at hl 0 rfl) ?_
    refine va_alen (D := D) (cl := vwCl) (v := 4) hx hb hK hP 1 0 rfl rfl (by decide) dX11_whyNot_60 ?_
    refine lv_istore (lv' := [(4, .int 4), (3, .ref bu), (0, .ref mo), (1, .int ii), (2, .int jj)]) hx hb dX11_whyNot_61 hl (by decide) rfl (fun ls hl => ?_)
    refine lv_iconst (v := 0) hx hb dX11_whyNot_63 (by decide) ?_
    refine lv_istore (lv' := [(5, .int 0), (4, .int 4), (3, .ref bu), (0, .ref mo), (1, .int ii), (2, .int jj)]) hx hb dX11_whyNot_64 hl (by decide) rfl (fun ls hl => ?_)
    refine lv_iload hx hb dX11_whyNot_66 (lv_at hl 0 rfl) ?_
    refine lv_iload hx hb dX11_whyNot_68 (lv_at hl 1 rfl) ?_
    refine lv_icmp_ge (tgt := 92) hx hb dX11_whyNot_70 (by decide) (fun cc => absurd cc (by decide)) (fun _ => ?_)
    refine lv_aload_n hx hb dX11_whyNot_73 rfl (lv_at hl 2 rfl) ?_
    refine lv_iload hx hb dX11_whyNot_74 (lv_at hl 0 rfl) ?_
    refine va_iald (D := D) (cl := vwCl) hx hb hK hP 1 0 rfl rfl (vp_in_nI (n := 0) (N := 4) (by decide) (by decide)) dX11_whyNot_76 ?_
    refine W.eq (g2 := F0 m 77 ls [.int 0]) rfl ?_
    refine lv_istore (lv' := [(6, .int 0), (5, .int 0), (4, .int 4), (3, .ref bu), (0, .ref mo), (1, .int ii), (2, .int jj)]) hx hb dX11_whyNot_77 hl (by decide) rfl (fun ls hl => ?_)
    refine lv_iload hx hb dX11_whyNot_79 (lv_at hl 0 rfl) ?_
    refine lv_if_le (tgt := 86) hx hb dX11_whyNot_81 (by decide) (fun _ => ?_) (fun cc => absurd (by decide) cc)
    obtain ⟨x_519, ex_519⟩ : ∃ y : Int32, y = 0 + 1 := ⟨_, rfl⟩
    have ex_519 : x_519 = 1 := ex_519.trans (by decide)
    subst ex_519
    refine lv_iinc (v := 1) (lv' := [(5, .int 1), (6, .int 0), (4, .int 4), (3, .ref bu), (0, .ref mo), (1, .int ii), (2, .int jj)]) hx hb dX11_whyNot_86 hl (k := 1) rfl (by decide) (by decide) rfl (fun ls hl => ?_)
    refine lv_goto (tgt := 66) hx hb dX11_whyNot_89 (by decide) ?_
    refine lv_iload hx hb dX11_whyNot_66 (lv_at hl 0 rfl) ?_
    refine lv_iload hx hb dX11_whyNot_68 (lv_at hl 2 rfl) ?_
    refine lv_icmp_ge (tgt := 92) hx hb dX11_whyNot_70 (by decide) (fun cc => absurd cc (by decide)) (fun _ => ?_)
    refine lv_aload_n hx hb dX11_whyNot_73 rfl (lv_at hl 3 rfl) ?_
    refine lv_iload hx hb dX11_whyNot_74 (lv_at hl 0 rfl) ?_
    refine va_iald (D := D) (cl := vwCl) hx hb hK hP 1 0 rfl rfl (vp_in_nI (n := 1) (N := 4) (by decide) (by decide)) dX11_whyNot_76 ?_
    refine W.eq (g2 := F0 m 77 ls [.int 0]) rfl ?_
    refine lv_istore (lv' := [(6, .int 0), (5, .int 1), (4, .int 4), (3, .ref bu), (0, .ref mo), (1, .int ii), (2, .int jj)]) hx hb dX11_whyNot_77 hl (by decide) rfl (fun ls hl => ?_)
    refine lv_iload hx hb dX11_whyNot_79 (lv_at hl 0 rfl) ?_
    refine lv_if_le (tgt := 86) hx hb dX11_whyNot_81 (by decide) (fun _ => ?_) (fun cc => absurd (by decide) cc)
    obtain ⟨x_520, ex_520⟩ : ∃ y : Int32, y = 1 + 1 := ⟨_, rfl⟩
    have ex_520 : x_520 = 2 := ex_520.trans (by decide)
    subst ex_520
    refine lv_iinc (v := 2) (lv' := [(5, .int 2), (6, .int 0), (4, .int 4), (3, .ref bu), (0, .ref mo), (1, .int ii), (2, .int jj)]) hx hb dX11_whyNot_86 hl (k := 1) rfl (by decide) (by decide) rfl (fun ls hl => ?_)
    refine lv_goto (tgt := 66) hx hb dX11_whyNot_89 (by decide) ?_
    refine lv_iload hx hb dX11_whyNot_66 (lv_at hl 0 rfl) ?_
    refine lv_iload hx hb dX11_whyNot_68 (lv_at hl 2 rfl) ?_
    refine lv_icmp_ge (tgt := 92) hx hb dX11_whyNot_70 (by decide) (fun cc => absurd cc (by decide)) (fun _ => ?_)
    refine lv_aload_n hx hb dX11_whyNot_73 rfl (lv_at hl 3 rfl) ?_
    refine lv_iload hx hb dX11_whyNot_74 (lv_at hl 0 rfl) ?_
    refine va_iald (D := D) (cl := vwCl) hx hb hK hP 1 0 rfl rfl (vp_in_nI (n := 2) (N := 4) (by decide) (by decide)) dX11_whyNot_76 ?_
    refine W.eq (g2 := F0 m 77 ls [.int 0]) rfl ?_
    refine lv_istore (lv' := [(6, .int 0), (5, .int 2), (4, .int 4), (3, .ref bu), (0, .ref mo), (1, .int ii), (2, .int jj)]) hx hb dX11_whyNot_77 hl (by decide) rfl (fun ls hl => ?_)
    refine lv_iload hx hb dX11_whyNot_79 (lv_at hl 0 rfl) ?_
    refine lv_if_le (tgt := 86) hx hb dX11_whyNot_81 (by decide) (fun _ => ?_) (fun cc => absurd (by decide) cc)
    obtain ⟨x_521, ex_521⟩ : ∃ y : Int32, y = 2 + 1 := ⟨_, rfl⟩
    have ex_521 : x_521 = 3 := ex_521.trans (by decide)
    subst ex_521
    refine lv_iinc (v := 3) (lv' := [(5, .int 3), (6, .int 0), (4, .int 4), (3, .ref bu), (0, .ref mo), (1, .int ii), (2, .int jj)]) hx hb dX11_whyNot_86 hl (k := 1) rfl (by decide) (by decide) rfl (fun ls hl => ?_)
    refine lv_goto (tgt := 66) hx hb dX11_whyNot_89 (by decide) ?_
    refine lv_iload hx hb dX11_whyNot_66 (lv_at hl 0 rfl) ?_
    refine lv_iload hx hb dX11_whyNot_68 (lv_at hl 2 rfl) ?_
    refine lv_icmp_ge (tgt := 92) hx hb dX11_whyNot_70 (by decide) (fun cc => absurd cc (by decide)) (fun _ => ?_)
    refine lv_aload_n hx hb dX11_whyNot_73 rfl (lv_at hl 3 rfl) ?_
    refine lv_iload hx hb dX11_whyNot_74 (lv_at hl 0 rfl) ?_
    refine va_iald (D := D) (cl := vwCl) hx hb hK hP 1 0 rfl rfl (vp_in_nI (n := 3) (N := 4) (by decide) (by decide)) dX11_whyNot_76 ?_
    refine W.eq (g2 := F0 m 77 ls [.int 0]) rfl ?_
    refine lv_istore (lv' := [(6, .int 0), (5, .int 3), (4, .int 4), (3, .ref bu), (0, .ref mo), (1, .int ii), (2, .int jj)]) hx hb dX11_whyNot_77 hl (by decide) rfl (fun ls hl => ?_)
    refine lv_iload hx hb dX11_whyNot_79 (lv_at hl 0 rfl) ?_
    refine lv_if_le (tgt := 86) hx hb dX11_whyNot_81 (by decide) (fun _ => ?_) (fun cc => absurd (by decide) cc)
    obtain ⟨x_522, ex_522⟩ : ∃ y : Int32, y = 3 + 1 := ⟨_, rfl⟩
    have ex_522 : x_522 = 4 := ex_522.trans (by decide)
    subst ex_522
    refine lv_iinc (v := 4) (lv' := [(5, .int 4), (6, .int 0), (4, .int 4), (3, .ref bu), (0, .ref mo), (1, .int ii), (2, .int jj)]) hx hb dX11_whyNot_86 hl (k := 1) rfl (by decide) (by decide) rfl (fun ls hl => ?_)
    refine lv_goto (tgt := 66) hx hb dX11_whyNot_89 (by decide) ?_
    refine lv_iload hx hb dX11_whyNot_66 (lv_at hl 0 rfl) ?_
    refine lv_iload hx hb dX11_whyNot_68 (lv_at hl 2 rfl) ?_
    refine lv_icmp_ge (tgt := 92) hx hb dX11_whyNot_70 (by decide) (fun _ => ?_) (fun cc => absurd (by decide) cc)
    refine lv_iconst (v := 0) hx hb dX11_whyNot_92 (by decide) ?_
    exact W.iret (v := 0) hx hb hr (fun t ht hW => ⟨⟨0, (), rfl, (Or.inl (⟨(by first | assumption | exact inR_1 (by assumption) (by assumption) | exact inR_2 (by assumption) (by assumption) | exact inR_3 (by assumption) | exact inR_4 (by assumption) | exact inR_5 (by assumption) | exact ⟨by assumption, by assumption, by assumption, by assumption⟩ | exact ⟨by assumption, by assumption, by assumption⟩ | exact (fun q => absurd q.1 (by assumption)) | exact (fun q => absurd q.2.1 (by assumption)) | exact (fun q => absurd q.2.2 (by assumption)) | exact (fun q => absurd q.2.2.1 (by assumption)) | exact (fun q => absurd q.2.2.2 (by assumption)) | exact isRole_no (by assumption) (by assumption) (by assumption) (by assumption) | exact isRole_nb (by assumption) (by assumption) (by assumption) (by assumption) | exact isRole_out (by assumption) | exact enc_use (by assumption) (by assumption) (by assumption) | exact enc_103 (by assumption) | exact enc_103 (Eq.symm (by assumption)) | exact enc_115 (Eq.symm (by assumption)) | exact enc_102 (Eq.symm (by assumption)) | exact enc_98 (Eq.symm (by assumption)) | exact isRole_nc (by assumption) (by assumption) (by assumption) (by assumption) | exact enc_115 (by assumption) | exact enc_102 (by assumption) | exact enc_98 (by assumption) | exact Or.inr (by assumption) | rfl | exact Or.inl (by assumption) | exact Or.inr (Or.inl (by assumption)) | exact Or.inr (Or.inr (Or.inl (by assumption))) | exact Or.inr (Or.inr (Or.inr (by assumption))) | decide), rfl⟩)), q_RW_mk hP hK hD [0, 2, 1] [0] rfl rfl (by decide) rfl ht hW.alike⟩, hS.F ht⟩) hS.2.2 dX11_whyNot_93
  · refine lv_if_ne (tgt := 11) hx hb dX11_whyNot_6 (by decide) (fun cc => absurd (by decide) cc) (fun _ => ?_)
    refine lv_iconst (v := 1) hx hb dX11_whyNot_9 (by decide) ?_
    refine W.widen (k := 1) (n := 4) (Nat.le_of_ble_eq_true rfl) (Nat.le_of_ble_eq_true rfl) ?_
    exact W.iret (v := 1) hx hb hr (fun t ht hW => ⟨⟨1, (), rfl, (Or.inr (⟨(by first | assumption | exact inR_1 (by assumption) (by assumption) | exact inR_2 (by assumption) (by assumption) | exact inR_3 (by assumption) | exact inR_4 (by assumption) | exact inR_5 (by assumption) | exact ⟨by assumption, by assumption, by assumption, by assumption⟩ | exact ⟨by assumption, by assumption, by assumption⟩ | exact (fun q => absurd q.1 (by assumption)) | exact (fun q => absurd q.2.1 (by assumption)) | exact (fun q => absurd q.2.2 (by assumption)) | exact (fun q => absurd q.2.2.1 (by assumption)) | exact (fun q => absurd q.2.2.2 (by assumption)) | exact isRole_no (by assumption) (by assumption) (by assumption) (by assumption) | exact isRole_nb (by assumption) (by assumption) (by assumption) (by assumption) | exact isRole_out (by assumption) | exact enc_use (by assumption) (by assumption) (by assumption) | exact enc_103 (by assumption) | exact enc_103 (Eq.symm (by assumption)) | exact enc_115 (Eq.symm (by assumption)) | exact enc_102 (Eq.symm (by assumption)) | exact enc_98 (Eq.symm (by assumption)) | exact isRole_nc (by assumption) (by assumption) (by assumption) (by assumption) | exact enc_115 (by assumption) | exact enc_102 (by assumption) | exact enc_98 (by assumption) | exact Or.inr (by assumption) | rfl | exact Or.inl (by assumption) | exact Or.inr (Or.inl (by assumption)) | exact Or.inr (Or.inr (Or.inl (by assumption))) | exact Or.inr (Or.inr (Or.inr (by assumption))) | decide), rfl⟩)), q_RW_mk hP hK hD [0, 1, 2] [0] rfl rfl (by decide) rfl ht hW.alike⟩, hS.F ht⟩) hS.2.2 dX11_whyNot_10
theorem dX11_second_0 : decode cX11_second 0 = .ok (.aload_n 0, 1) := by decide +kernel
theorem dX11_second_1 : decode cX11_second 1 = .ok (.dup, 1) := by decide +kernel
theorem dX11_second_2 : decode cX11_second 2 = .ok (.getfield 187, 3) := by decide +kernel
theorem dX11_second_5 : decode cX11_second 5 = .ok (.iconst 1, 1) := by decide +kernel
theorem dX11_second_6 : decode cX11_second 6 = .ok (.iadd, 1) := by decide +kernel
theorem dX11_second_7 : decode cX11_second 7 = .ok (.putfield 187, 3) := by decide +kernel
theorem dX11_second_10 : decode cX11_second 10 = .ok (.iconst 0, 1) := by decide +kernel
theorem dX11_second_11 : decode cX11_second 11 = .ok (.istore_n 1, 1) := by decide +kernel
theorem dX11_second_12 : decode cX11_second 12 = .ok (.aload_n 0, 1) := by decide +kernel
theorem dX11_second_13 : decode cX11_second 13 = .ok (.getfield 19, 3) := by decide +kernel
theorem dX11_second_16 : decode cX11_second 16 = .ok (.invokevirtual 106, 3) := by decide +kernel
theorem dX11_second_19 : decode cX11_second 19 = .ok (.astore_n 2, 1) := by decide +kernel
theorem dX11_second_20 : decode cX11_second 20 = .ok (.aload_n 2, 1) := by decide +kernel
theorem dX11_second_21 : decode cX11_second 21 = .ok (.invokeinterface 110 1, 5) := by decide +kernel
theorem dX11_second_26 : decode cX11_second 26 = .ok (.ifCond .eq 127, 3) := by decide +kernel
theorem dX11_second_153 : decode cX11_second 153 = .ok (.iconst 0, 1) := by decide +kernel
theorem dX11_second_154 : decode cX11_second 154 = .ok (.istore_n 2, 1) := by decide +kernel
theorem dX11_second_155 : decode cX11_second 155 = .ok (.iload_n 2, 1) := by decide +kernel
theorem dX11_second_156 : decode cX11_second 156 = .ok (.aload_n 0, 1) := by decide +kernel
theorem dX11_second_157 : decode cX11_second 157 = .ok (.getfield 30, 3) := by decide +kernel
theorem dX11_second_160 : decode cX11_second 160 = .ok (.arraylength, 1) := by decide +kernel
theorem dX11_second_161 : decode cX11_second 161 = .ok (.if_icmp .ge 27, 3) := by decide +kernel
theorem dX11_second_164 : decode cX11_second 164 = .ok (.aload_n 0, 1) := by decide +kernel
theorem dX11_second_165 : decode cX11_second 165 = .ok (.getfield 30, 3) := by decide +kernel
theorem dX11_second_168 : decode cX11_second 168 = .ok (.iload_n 2, 1) := by decide +kernel
theorem dX11_second_169 : decode cX11_second 169 = .ok (.iconst 0, 1) := by decide +kernel
theorem dX11_second_170 : decode cX11_second 170 = .ok (.aload_n 0, 1) := by decide +kernel
theorem dX11_second_171 : decode cX11_second 171 = .ok (.getfield 30, 3) := by decide +kernel
theorem dX11_second_174 : decode cX11_second 174 = .ok (.iload_n 2, 1) := by decide +kernel
theorem dX11_second_175 : decode cX11_second 175 = .ok (.iaload, 1) := by decide +kernel
theorem dX11_second_176 : decode cX11_second 176 = .ok (.iconst 1, 1) := by decide +kernel
theorem dX11_second_177 : decode cX11_second 177 = .ok (.isub, 1) := by decide +kernel
theorem dX11_second_178 : decode cX11_second 178 = .ok (.invokestatic 120, 3) := by decide +kernel
theorem dX11_second_181 : decode cX11_second 181 = .ok (.iastore, 1) := by decide +kernel
theorem dX11_second_182 : decode cX11_second 182 = .ok (.iinc 2 1, 3) := by decide +kernel
theorem dX11_second_185 : decode cX11_second 185 = .ok (.goto (-30), 3) := by decide +kernel
theorem dX11_second_188 : decode cX11_second 188 = .ok (.iload_n 1, 1) := by decide +kernel
theorem dX11_second_189 : decode cX11_second 189 = .ok (.ireturn, 1) := by decide +kernel
def wzEX11_second : List Cond := [.code yX11_second cX11_second 4 (some .int), .fieldLink RX11 187 "GatherhouseModel" "time" "I", .fieldLink RX11 19 "GatherhouseModel" "pieces" "Ljava/util/ArrayList;", .methodLink RX11 106 yJx4a65c_iterator_32c93, .instanceMethod yJx4a65c_iterator_32c93, .selects RJx4a65c yJx4a65c_iterator_32c93 yJx4a65c_iterator_32c93, .initialized RJx4a65c, .code yJx4a65c_iterator_32c93 cJx4a65c_iterator_32c93 1 (some (.object "java/util/Iterator")), .classLink RJx4a65c 267 RJx35411, .instantiable RJx35411 4, .initialized RJx35411, .code yJx35411_init_45d68 cJx35411_init_45d68 2 none, .fieldLink RJx35411 1 "java/util/ArrayList$Itr" "this$0" "Ljava/util/ArrayList;", .methodLink RJx35411 7 objectInit, .instanceMethod objectInit, .code objectInit ⟨#[0xb1]⟩ 1 none, .fieldLink RJx35411 13 "java/util/ArrayList$Itr" "lastRet" "I", .sameField "java/util/ArrayList" "java/util/AbstractList" "modCount" "I", .fieldLink RJx35411 17 "java/util/ArrayList" "modCount" "I", .fieldLink RJx35411 22 "java/util/ArrayList$Itr" "expectedModCount" "I", .instanceMethod yJx35411_init_45d68, .methodLink RJx4a65c 269 yJx35411_init_45d68, .methodLink RX11 110 ⟨"java/util/Iterator", "hasNext", "()Z"⟩, .selects RJx35411 ⟨"java/util/Iterator", "hasNext", "()Z"⟩ yJx35411_hasNext_aae02, .instanceMethod yJx35411_hasNext_aae02, .code yJx35411_hasNext_aae02 cJx35411_hasNext_aae02 1 (some .boolean), .fieldLink RJx35411 25 "java/util/ArrayList$Itr" "cursor" "I", .fieldLink RX11 30 "GatherhouseModel" "busy" "[I", .methodLink RX11 120 Lib.Math.max.name, .static Lib.Math.max.name, .initialized "java/lang/Math", .code Lib.Math.max.name Lib.Math.max.code 2 (some .int)]
def wzX11_second : List Cond := wzEX11_second ++ (u_ws RX11 TX11 13 ++ (u_ws RJx35411 TJx35411 4 ++ (u_ws RJx4a65c TJx4a65c 3)))
theorem zgEX11_second : wzEX11_second.all goodWord = true := by decide +kernel
theorem zuX11_second_X11 : ∀ w ∈ u_ws RX11 TX11 13, w ∈ wzX11_second := (fun _ h => (List.mem_append_right _ (List.mem_append_left _ h)))
theorem zuX11_second_Jx35411 : ∀ w ∈ u_ws RJx35411 TJx35411 4, w ∈ wzX11_second := (fun _ h => (List.mem_append_right _ (List.mem_append_right _ (List.mem_append_left _ h))))
theorem zuX11_second_Jx4a65c : ∀ w ∈ u_ws RJx4a65c TJx4a65c 3, w ∈ wzX11_second := (fun _ h => (List.mem_append_right _ (List.mem_append_right _ (List.mem_append_right _ h))))
theorem gzX11_second_Jx4a65c_iterator_32c93_106 : GoodIn wzX11_second (wsV RX11 106 RJx4a65c yJx4a65c_iterator_32c93 wzJx4a65c_iterator_32c93) := (goodIn_app (z_lift (goodIn_r _ [3, 4, 5, 6] rfl (by decide +kernel))) (goodIn_app (z_lift (goodIn_r wzEJx4a65c_iterator_32c93 [7, 8, 9, 10, 11, 12, 13, 14, 15, 16, 17, 18, 19, 20, 21] rfl zgEJx4a65c_iterator_32c93)) (goodIn_app (goodIn_sub (fun _ h => (List.mem_append_right _ (List.mem_append_right _ (List.mem_append_left _ h)))) zgU_Jx35411) (goodIn_sub (fun _ h => (List.mem_append_right _ (List.mem_append_right _ (List.mem_append_right _ h)))) zgU_Jx4a65c))))
theorem gzX11_second_Jx35411_hasNext_aae02_110 : GoodIn wzX11_second (va_wsF RX11 110 RJx35411 ⟨"java/util/Iterator", "hasNext", "()Z"⟩ yJx35411_hasNext_aae02 wzJx35411_hasNext_aae02) := (goodIn_app (z_lift (goodIn_r _ [22, 23, 24, 10] rfl (by decide +kernel))) (goodIn_app (z_lift (goodIn_r wzEJx35411_hasNext_aae02 [25, 26, 12] rfl zgEJx35411_hasNext_aae02)) (goodIn_app (goodIn_sub (fun _ h => (List.mem_append_right _ (List.mem_append_right _ (List.mem_append_left _ h)))) zgU_Jx35411) (goodIn_sub (fun _ h => (List.mem_append_right _ (List.mem_append_right _ (List.mem_append_right _ h)))) zgU_Jx4a65c))))
set_option maxHeartbeats 4000000 in
set_option maxRecDepth 100000 in
theorem zc_X11_second (l : Launch) (D : va_G) (G : Nat × Nat × Nat) (mo : Nat) (gl : Nat) (po : Nat) (pi : Nat) (bu : Nat) (pa : Nat) (th : Int32) (mh : Int32) (mt : Int32) (ci : ClassId) (sz : Nat) : Met l yX11_second wzX11_second ({ frames := 3, cells := 1, slots := 4, locals := 53 }) (va_Pc [.ref mo] (p_RW D G [(ci, .int)] [(mo, .inr (16, [.int th, .ref gl, .ref po, .ref pi, .ref bu, .ref pa, .int mt, .int mh, .int 40, .int 0, .null, .int 0, .int 0])), (pi, .inr (4, [.int 0, .ref G.1, .int 0])), (bu, .inl (ci, 4, .inl (fun _ => 0)))] sz)) (va_Qi (fun (r : Int32) (u : Unit) => r = 0) (fun (u : Unit) (t : State) => q_RW D [(ci, .int)] [(mo, .inr (16, [.int th, .ref gl, .ref po, .ref pi, .ref bu, .ref pa, .int (mt + 1), .int mh, .int 40, .int 0, .null, .int 0, .int 0])), (pi, .inr (4, [.int 0, .ref G.1, .int 0])), (bu, .inl (ci, 4, .inl (fun _ => 0)))] (va_A [(mo, .inr (16, [.int th, .ref gl, .ref po, .ref pi, .ref bu, .ref pa, .int mt, .int mh, .int 40, .int 0, .null, .int 0, .int 0])), (pi, .inr (4, [.int 0, .ref G.1, .int 0])), (bu, .inl (ci, 4, .inl (fun _ => 0)))] sz) t) (va_A [(mo, .inr (16, [.int th, .ref gl, .ref po, .ref pi, .ref bu, .ref pa, .int mt, .int mh, .int 40, .int 0, .null, .int 0, .int 0])), (pi, .inr (4, [.int 0, .ref G.1, .int 0])), (bu, .inl (ci, 4, .inl (fun _ => 0)))] sz)) 1 4 (va_A [(mo, .inr (16, [.int th, .ref gl, .ref po, .ref pi, .ref bu, .ref pa, .int mt, .int mh, .int 40, .int 0, .null, .int 0, .int 0])), (pi, .inr (4, [.int 0, .ref G.1, .int 0])), (bu, .inl (ci, 4, .inl (fun _ => 0)))] sz) := by
  refine Met.ofW (cc := cX11_second) (maxL := 4) (ret := (some .int)) (by decide) rfl ?_
  intro p e s m args below meth c s₁ B hml hv
  obtain ⟨rfl, hsz, hP, hK, hD0, hT, hZ⟩ := hv
  have hx := B.exec
  have hb := B.bytes
  have hr := B.returns
  have hts := atoms_spec (ws := wzX11_second) B.pre
  have hown : s.vm.findClass RX11 = some m.cls := findClass_of_methodNamed B.named
  have hlocks := B.notSynchronized
  subst hsz
  have hD := hD0.self (sz := s.heap.size)
  generalize hAe : va_A [(mo, .inr (16, [.int th, .ref gl, .ref po, .ref pi, .ref bu, .ref pa, .int mt, .int mh, .int 40, .int 0, .null, .int 0, .int 0])), (pi, .inr (4, [.int 0, .ref G.1, .int 0])), (bu, .inl (ci, 4, .inl (fun _ => 0)))] s.heap.size = A at hD hZ ⊢
  have hA : ∀ q : Nat, s.heap.size ≤ q → A q := fun q h => by rw [← hAe]; exact Or.inr h
  have hS : va_S A s.heap s.heap [] := va_S.rf
  have hl := lv_entry ([.ref mo]) (n := 4) (Nat.le_of_ble_eq_true rfl)
  rw [lg_entry_eq]
  generalize (lg_sl ([.ref mo]) ++ List.replicate (4 - (lg_sl ([.ref mo])).length) Slot.unset).toArray = ls at hl ⊢
  have hl : lv_has ls 4 [(0, .ref mo)] := hl
  refine lv_aload_n hx hb dX11_second_0 rfl (lv_at hl 0 rfl) ?_
  refine lv_dup hx hb dX11_second_1 rfl ?_
  refine va_get (D := D) (cl := vwCl) (ci := 16) (v := .int mt) (C := RX11) (T := TX11) (N := 13) hx hb hts zuX11_second_X11 hown hK hP 0 rfl rfl 6 (by decide) (hts (.fieldLink RX11 187 "GatherhouseModel" "time" "I") (by decide +kernel)) (fun _ h9 => h9) rfl dX11_second_2 ?_
  refine lv_iconst (v := 1) hx hb dX11_second_5 (by decide) ?_
  refine lv_iadd hx hb dX11_second_6 ?_
  refine va_put (D := D) (cl := vwCl) (ci := 16) (v := .int (mt + 1)) (ty := .int) (C := RX11) (T := TX11) (N := 13) hx hb hts zuX11_second_X11 tyX11 tyX11_ok nmX11 hown hK hP hD hS 0 rfl rfl 6 (by decide) (hts (.fieldLink RX11 187 "GatherhouseModel" "time" "I") (by decide +kernel)) (fun _ h9 => h9) rfl (by decide +kernel) rfl rfl (Nat.le_of_ble_eq_true rfl) dX11_second_7 (fun H locs hP hD hS => ?_)
  have hP : va_P D vwCl [(mo, .inr (16, [.int th, .ref gl, .ref po, .ref pi, .ref bu, .ref pa, .int (mt + 1), .int mh, .int 40, .int 0, .null, .int 0, .int 0])), (pi, .inr (4, [.int 0, .ref G.1, .int 0])), (bu, .inl (ci, 4, .inl (fun _ => 0)))] H := hP
  have hD : va_D A [(mo, .inr (16, [.int th, .ref gl, .ref po, .ref pi, .ref bu, .ref pa, .int (mt + 1), .int mh, .int 40, .int 0, .null, .int 0, .int 0])), (pi, .inr (4, [.int 0, .ref G.1, .int 0])), (bu, .inl (ci, 4, .inl (fun _ => 0)))] := hD
  refine lv_iconst (v := 0) hx hb dX11_second_10 (by decide) ?_
  refine lv_istore_n (lv' := [(1, .int 0), (0, .ref mo)]) hx hb dX11_second_11 rfl hl (by decide) rfl (fun ls hl => ?_)
  refine lv_aload_n hx hb dX11_second_12 rfl (lv_at hl 1 rfl) ?_
  refine va_get (D := D) (cl := vwCl) (ci := 16) (v := .ref pi) (C := RX11) (T := TX11) (N := 13) hx hb hts zuX11_second_X11 hown hK hP 0 rfl rfl 3 (by decide) (hts (.fieldLink RX11 19 "GatherhouseModel" "pieces" "Ljava/util/ArrayList;") (by decide +kernel)) (fun _ h9 => h9) rfl dX11_second_13 ?_
  have hFc := va_free (wc := [(pi, .inr (4, [.int 0, .ref G.1, .int 0]))]) hD hS hA [1] rfl
  refine va_callr (va_runV (As := []) (rest := []) ⟨hx, hb, hml, hown, hts⟩ (zc_Jx4a65c_iterator_32c93 l D G pi H.size) (cwV 0 hts gzX11_second_Jx4a65c_iterator_32c93_106 rfl rfl rfl (by decide +kernel) ⟨(Nat.le_of_ble_eq_true rfl), (Nat.le_of_ble_eq_true rfl)⟩) ⟨p_RW_blind, va_recv hK hP (ci := 4) (q0 := 1) rfl rfl, (p_RW_at (tc := []) (wc := [(pi, .inr (4, [.int 0, .ref G.1, .int 0]))]) hP hK hD hS hA hT hZ [1] [] rfl rfl (by decide) rfl [.ref pi])⟩ rfl rfl hl.1 rfl (lv_room (Nat.le_of_ble_eq_true rfl)) dX11_second_16 ⟨(Nat.le_of_ble_eq_true rfl), (Nat.le_of_ble_eq_true rfl)⟩) hS (fun q _ h => hFc q h) hFc (fun u r_523 t H locs ht hvm w_524 hB hz1 hk1 hS => ?_)
  obtain ⟨hP, hD, hK⟩ := q_join (D := D) (wc := [(pi, .inr (4, [.int 0, .ref G.1, .int 0]))]) (wr := [(mo, .inr (16, [.int th, .ref gl, .ref po, .ref pi, .ref bu, .ref pa, .int (mt + 1), .int mh, .int 40, .int 0, .null, .int 0, .int 0])), (bu, .inl (ci, 4, .inl (fun _ => 0)))]) (w1 := [(pi, .inr (4, [.int 0, .ref G.1, .int 0])), (r_523, .inr (3, [.int 0, .int (-1), .int 0, .ref pi]))]) (tyr := [(ci, .int)]) (ty1 := []) hP hD hK [1] [0, 2] [0] rfl rfl (by decide) (by decide) rfl hFc hk1 ht hvm hB
  have hP : va_P D vwCl [(mo, .inr (16, [.int th, .ref gl, .ref po, .ref pi, .ref bu, .ref pa, .int (mt + 1), .int mh, .int 40, .int 0, .null, .int 0, .int 0])), (bu, .inl (ci, 4, .inl (fun _ => 0))), (pi, .inr (4, [.int 0, .ref G.1, .int 0])), (r_523, .inr (3, [.int 0, .int (-1), .int 0, .ref pi]))] H := hP
  have hD : va_D A [(mo, .inr (16, [.int th, .ref gl, .ref po, .ref pi, .ref bu, .ref pa, .int (mt + 1), .int mh, .int 40, .int 0, .null, .int 0, .int 0])), (bu, .inl (ci, 4, .inl (fun _ => 0))), (pi, .inr (4, [.int 0, .ref G.1, .int 0])), (r_523, .inr (3, [.int 0, .int (-1), .int 0, .ref pi]))] := hD
  have hK : va_K D vwCl [(ci, .int)] s := hK
  refine W.widen (k := 1) (n := 4) (Nat.le_of_ble_eq_true rfl) (Nat.le_of_ble_eq_true rfl) ?_
  refine lv_astore_n (lv' := [(2, .ref r_523), (1, .int 0), (0, .ref mo)]) hx hb dX11_second_19 rfl hl (by decide) rfl (fun ls hl => ?_)
  refine lv_aload_n hx hb dX11_second_20 rfl (lv_at hl 0 rfl) ?_
  refine va_csFi (va_runF (As := []) (rest := []) (hK.1 3 (RJx35411, TJx35411, 4) rfl).2 ⟨hx, hb, hml, hown, hts⟩ (zc_Jx35411_hasNext_aae02 l D G r_523 pi) (va_cwF 0 hts gzX11_second_Jx35411_hasNext_aae02_110 rfl rfl rfl (hT.2.2.2.2.2.2.1 (_, _, _) (List.mem_of_getElem? (i := 0) rfl)) (by decide +kernel) ⟨(Nat.le_of_ble_eq_true rfl), (Nat.le_of_ble_eq_true rfl)⟩) ⟨p_RO_blind, va_recv hK hP (ci := 3) (q0 := 3) rfl rfl, (p_RO_at (tc := []) (wc := [(r_523, .inr (3, [.int 0, .int (-1), .int 0, .ref pi])), (pi, .inr (4, [.int 0, .ref G.1, .int 0]))]) hP hK hT [3, 2] [] rfl rfl [.ref r_523])⟩ rfl rfl hl.1 rfl (lv_room (Nat.le_of_ble_eq_true rfl)) dX11_second_21 ⟨(Nat.le_of_ble_eq_true rfl), (Nat.le_of_ble_eq_true rfl)⟩) (fun r_525 w_526 => ?_)
  obtain rfl := w_526
  refine lv_if_eq (tgt := 153) hx hb dX11_second_26 (by decide) (fun _ => ?_) (fun cc => absurd (by decide) cc)
  refine lv_iconst (v := 0) hx hb dX11_second_153 (by decide) ?_
  refine lv_istore_n (lv' := [(2, .int 0), (1, .int 0), (0, .ref mo)]) hx hb dX11_second_154 rfl hl (by decide) rfl (fun ls hl => ?_)
  refine lv_iload_n hx hb dX11_second_155 rfl (lv_at hl 0 rfl) ?_
  refine lv_aload_n hx hb dX11_second_156 rfl (lv_at hl 2 rfl) ?_
  refine va_get (D := D) (cl := vwCl) (ci := 16) (v := .ref bu) (C := RX11) (T := TX11) (N := 13) hx hb hts zuX11_second_X11 hown hK hP 0 rfl rfl 4 (by decide) (hts (.fieldLink RX11 30 "GatherhouseModel" "busy" "[I") (by decide +kernel)) (fun _ h9 => h9) rfl dX11_second_157 ?_
  refine va_alen (D := D) (cl := vwCl) (v := 4) hx hb hK hP 1 0 rfl rfl (by decide) dX11_second_160 ?_
  refine lv_icmp_ge (tgt := 188) hx hb dX11_second_161 (by decide) (fun cc => absurd cc (by decide)) (fun _ => ?_)
  refine lv_aload_n hx hb dX11_second_164 rfl (lv_at hl 2 rfl) ?_
  refine va_get (D := D) (cl := vwCl) (ci := 16) (v := .ref bu) (C := RX11) (T := TX11) (N := 13) hx hb hts zuX11_second_X11 hown hK hP 0 rfl rfl 4 (by decide) (hts (.fieldLink RX11 30 "GatherhouseModel" "busy" "[I") (by decide +kernel)) (fun _ h9 => h9) rfl dX11_second_165 ?_
  refine lv_iload_n hx hb dX11_second_168 rfl (lv_at hl 0 rfl) ?_
  refine lv_iconst (v := 0) hx hb dX11_second_169 (by decide) ?_
  refine lv_aload_n hx hb dX11_second_170 rfl (lv_at hl 2 rfl) ?_
  refine va_get (D := D) (cl := vwCl) (ci := 16) (v := .ref bu) (C := RX11) (T := TX11) (N := 13) hx hb hts zuX11_second_X11 hown hK hP 0 rfl rfl 4 (by decide) (hts (.fieldLink RX11 30 "GatherhouseModel" "busy" "[I") (by decide +kernel)) (fun _ h9 => h9) rfl dX11_second_171 ?_
  refine lv_iload_n hx hb dX11_second_174 rfl (lv_at hl 0 rfl) ?_
  refine va_iald (D := D) (cl := vwCl) hx hb hK hP 1 0 rfl rfl (vp_in_nI (n := 0) (N := 4) (by decide) (by decide)) dX11_second_175 ?_
  refine W.eq (g2 := F0 m 176 ls [.int 0, .int 0, .int 0, .ref bu]) rfl ?_
  refine lv_iconst (v := 1) hx hb dX11_second_176 (by decide) ?_
  refine lv_isub hx hb dX11_second_177 ?_
  refine lv_topi (fun y_527 ey_527 => ?_)
  have ey_527 : y_527 = (-1) := ey_527.trans (by decide +kernel)
  subst ey_527
  refine va_mmax hx hb (hml.trans hl.1.symm) hown (hts (.methodLink RX11 120 Lib.Math.max.name) (by decide +kernel)) (hts (.static Lib.Math.max.name) (by decide +kernel)) (hts (.initialized "java/lang/Math") (by decide +kernel)) (hts (.code Lib.Math.max.name Lib.Math.max.code 2 (some .int)) (by decide +kernel)) (Nat.le_of_ble_eq_true rfl) (Nat.le_of_ble_eq_true rfl) (Nat.le_of_ble_eq_true rfl) (Nat.le_of_ble_eq_true rfl) dX11_second_178 ?_
  refine lv_topi (fun y_528 ey_528 => ?_)
  have ey_528 : y_528 = 0 := ey_528.trans (by decide +kernel)
  subst ey_528
  refine va_iast (D := D) (cl := vwCl) hx hb hK hP hD hS 1 0 rfl rfl (vp_in_nI (n := 0) (N := 4) (by decide) (by decide)) dX11_second_181 (fun H locs hP hD hS => ?_)
  have hP : va_P D vwCl [(mo, .inr (16, [.int th, .ref gl, .ref po, .ref pi, .ref bu, .ref pa, .int (mt + 1), .int mh, .int 40, .int 0, .null, .int 0, .int 0])), (bu, .inl (ci, 4, .inl (fun _ => 0))), (pi, .inr (4, [.int 0, .ref G.1, .int 0])), (r_523, .inr (3, [.int 0, .int (-1), .int 0, .ref pi]))] H := by have h9 := hP; rw [z_upd] at h9; exact h9
  have hD : va_D A [(mo, .inr (16, [.int th, .ref gl, .ref po, .ref pi, .ref bu, .ref pa, .int (mt + 1), .int mh, .int 40, .int 0, .null, .int 0, .int 0])), (bu, .inl (ci, 4, .inl (fun _ => 0))), (pi, .inr (4, [.int 0, .ref G.1, .int 0])), (r_523, .inr (3, [.int 0, .int (-1), .int 0, .ref pi]))] := by have h9 := hD; rw [z_upd] at h9; exact h9
  obtain ⟨x_529, ex_529⟩ : ∃ y : Int32, y = 0 + 1 := ⟨_, rfl⟩
  have ex_529 : x_529 = 1 := ex_529.trans (by decide)
  subst ex_529
  refine lv_iinc (v := 1) (lv' := [(2, .int 1), (1, .int 0), (0, .ref mo)]) hx hb dX11_second_182 hl (k := 0) rfl (by decide) (by decide) rfl (fun ls hl => ?_)
  refine lv_goto (tgt := 155) hx hb dX11_second_185 (by decide) ?_
  refine lv_iload_n hx hb dX11_second_155 rfl (lv_at hl 0 rfl) ?_
  refine lv_aload_n hx hb dX11_second_156 rfl (lv_at hl 2 rfl) ?_
  refine va_get (D := D) (cl := vwCl) (ci := 16) (v := .ref bu) (C := RX11) (T := TX11) (N := 13) hx hb hts zuX11_second_X11 hown hK hP 0 rfl rfl 4 (by decide) (hts (.fieldLink RX11 30 "GatherhouseModel" "busy" "[I") (by decide +kernel)) (fun _ h9 => h9) rfl dX11_second_157 ?_
  refine va_alen (D := D) (cl := vwCl) (v := 4) hx hb hK hP 1 0 rfl rfl (by decide) dX11_second_160 ?_
  refine lv_icmp_ge (tgt := 188) hx hb dX11_second_161 (by decide) (fun cc => absurd cc (by decide)) (fun _ => ?_)
  refine lv_aload_n hx hb dX11_second_164 rfl (lv_at hl 2 rfl) ?_
  refine va_get (D := D) (cl := vwCl) (ci := 16) (v := .ref bu) (C := RX11) (T := TX11) (N := 13) hx hb hts zuX11_second_X11 hown hK hP 0 rfl rfl 4 (by decide) (hts (.fieldLink RX11 30 "GatherhouseModel" "busy" "[I") (by decide +kernel)) (fun _ h9 => h9) rfl dX11_second_165 ?_
  refine lv_iload_n hx hb dX11_second_168 rfl (lv_at hl 0 rfl) ?_
  refine lv_iconst (v := 0) hx hb dX11_second_169 (by decide) ?_
  refine lv_aload_n hx hb dX11_second_170 rfl (lv_at hl 2 rfl) ?_
  refine va_get (D := D) (cl := vwCl) (ci := 16) (v := .ref bu) (C := RX11) (T := TX11) (N := 13) hx hb hts zuX11_second_X11 hown hK hP 0 rfl rfl 4 (by decide) (hts (.fieldLink RX11 30 "GatherhouseModel" "busy" "[I") (by decide +kernel)) (fun _ h9 => h9) rfl dX11_second_171 ?_
  refine lv_iload_n hx hb dX11_second_174 rfl (lv_at hl 0 rfl) ?_
  refine va_iald (D := D) (cl := vwCl) hx hb hK hP 1 0 rfl rfl (vp_in_nI (n := 1) (N := 4) (by decide) (by decide)) dX11_second_175 ?_
  refine W.eq (g2 := F0 m 176 ls [.int 0, .int 0, .int 1, .ref bu]) rfl ?_
  refine lv_iconst (v := 1) hx hb dX11_second_176 (by decide) ?_
  refine lv_isub hx hb dX11_second_177 ?_
  refine lv_topi (fun y_530 ey_530 => ?_)
  have ey_530 : y_530 = (-1) := ey_530.trans (by decide +kernel)
  subst ey_530
  refine va_mmax hx hb (hml.trans hl.1.symm) hown (hts (.methodLink RX11 120 Lib.Math.max.name) (by decide +kernel)) (hts (.static Lib.Math.max.name) (by decide +kernel)) (hts (.initialized "java/lang/Math") (by decide +kernel)) (hts (.code Lib.Math.max.name Lib.Math.max.code 2 (some .int)) (by decide +kernel)) (Nat.le_of_ble_eq_true rfl) (Nat.le_of_ble_eq_true rfl) (Nat.le_of_ble_eq_true rfl) (Nat.le_of_ble_eq_true rfl) dX11_second_178 ?_
  refine lv_topi (fun y_531 ey_531 => ?_)
  have ey_531 : y_531 = 0 := ey_531.trans (by decide +kernel)
  subst ey_531
  refine va_iast (D := D) (cl := vwCl) hx hb hK hP hD hS 1 0 rfl rfl (vp_in_nI (n := 1) (N := 4) (by decide) (by decide)) dX11_second_181 (fun H locs hP hD hS => ?_)
  have hP : va_P D vwCl [(mo, .inr (16, [.int th, .ref gl, .ref po, .ref pi, .ref bu, .ref pa, .int (mt + 1), .int mh, .int 40, .int 0, .null, .int 0, .int 0])), (bu, .inl (ci, 4, .inl (fun _ => 0))), (pi, .inr (4, [.int 0, .ref G.1, .int 0])), (r_523, .inr (3, [.int 0, .int (-1), .int 0, .ref pi]))] H := by have h9 := hP; rw [z_upd] at h9; exact h9
  have hD : va_D A [(mo, .inr (16, [.int th, .ref gl, .ref po, .ref pi, .ref bu, .ref pa, .int (mt + 1), .int mh, .int 40, .int 0, .null, .int 0, .int 0])), (bu, .inl (ci, 4, .inl (fun _ => 0))), (pi, .inr (4, [.int 0, .ref G.1, .int 0])), (r_523, .inr (3, [.int 0, .int (-1), .int 0, .ref pi]))] := by have h9 := hD; rw [z_upd] at h9; exact h9
  obtain ⟨x_532, ex_532⟩ : ∃ y : Int32, y = 1 + 1 := ⟨_, rfl⟩
  have ex_532 : x_532 = 2 := ex_532.trans (by decide)
  subst ex_532
  refine lv_iinc (v := 2) (lv' := [(2, .int 2), (1, .int 0), (0, .ref mo)]) hx hb dX11_second_182 hl (k := 0) rfl (by decide) (by decide) rfl (fun ls hl => ?_)
  refine lv_goto (tgt := 155) hx hb dX11_second_185 (by decide) ?_
  refine lv_iload_n hx hb dX11_second_155 rfl (lv_at hl 0 rfl) ?_
  refine lv_aload_n hx hb dX11_second_156 rfl (lv_at hl 2 rfl) ?_
  refine va_get (D := D) (cl := vwCl) (ci := 16) (v := .ref bu) (C := RX11) (T := TX11) (N := 13) hx hb hts zuX11_second_X11 hown hK hP 0 rfl rfl 4 (by decide) (hts (.fieldLink RX11 30 "GatherhouseModel" "busy" "[I") (by decide +kernel)) (fun _ h9 => h9) rfl dX11_second_157 ?_
  refine va_alen (D := D) (cl := vwCl) (v := 4) hx hb hK hP 1 0 rfl rfl (by decide) dX11_second_160 ?_
  refine lv_icmp_ge (tgt := 188) hx hb dX11_second_161 (by decide) (fun cc => absurd cc (by decide)) (fun _ => ?_)
  refine lv_aload_n hx hb dX11_second_164 rfl (lv_at hl 2 rfl) ?_
  refine va_get (D := D) (cl := vwCl) (ci := 16) (v := .ref bu) (C := RX11) (T := TX11) (N := 13) hx hb hts zuX11_second_X11 hown hK hP 0 rfl rfl 4 (by decide) (hts (.fieldLink RX11 30 "GatherhouseModel" "busy" "[I") (by decide +kernel)) (fun _ h9 => h9) rfl dX11_second_165 ?_
  refine lv_iload_n hx hb dX11_second_168 rfl (lv_at hl 0 rfl) ?_
  refine lv_iconst (v := 0) hx hb dX11_second_169 (by decide) ?_
  refine lv_aload_n hx hb dX11_second_170 rfl (lv_at hl 2 rfl) ?_
  refine va_get (D := D) (cl := vwCl) (ci := 16) (v := .ref bu) (C := RX11) (T := TX11) (N := 13) hx hb hts zuX11_second_X11 hown hK hP 0 rfl rfl 4 (by decide) (hts (.fieldLink RX11 30 "GatherhouseModel" "busy" "[I") (by decide +kernel)) (fun _ h9 => h9) rfl dX11_second_171 ?_
  refine lv_iload_n hx hb dX11_second_174 rfl (lv_at hl 0 rfl) ?_
  refine va_iald (D := D) (cl := vwCl) hx hb hK hP 1 0 rfl rfl (vp_in_nI (n := 2) (N := 4) (by decide) (by decide)) dX11_second_175 ?_
  refine W.eq (g2 := F0 m 176 ls [.int 0, .int 0, .int 2, .ref bu]) rfl ?_
  refine lv_iconst (v := 1) hx hb dX11_second_176 (by decide) ?_
  refine lv_isub hx hb dX11_second_177 ?_
  refine lv_topi (fun y_533 ey_533 => ?_)
  have ey_533 : y_533 = (-1) := ey_533.trans (by decide +kernel)
  subst ey_533
  refine va_mmax hx hb (hml.trans hl.1.symm) hown (hts (.methodLink RX11 120 Lib.Math.max.name) (by decide +kernel)) (hts (.static Lib.Math.max.name) (by decide +kernel)) (hts (.initialized "java/lang/Math") (by decide +kernel)) (hts (.code Lib.Math.max.name Lib.Math.max.code 2 (some .int)) (by decide +kernel)) (Nat.le_of_ble_eq_true rfl) (Nat.le_of_ble_eq_true rfl) (Nat.le_of_ble_eq_true rfl) (Nat.le_of_ble_eq_true rfl) dX11_second_178 ?_
  refine lv_topi (fun y_534 ey_534 => ?_)
  have ey_534 : y_534 = 0 := ey_534.trans (by decide +kernel)
  subst ey_534
  refine va_iast (D := D) (cl := vwCl) hx hb hK hP hD hS 1 0 rfl rfl (vp_in_nI (n := 2) (N := 4) (by decide) (by decide)) dX11_second_181 (fun H locs hP hD hS => ?_)
  have hP : va_P D vwCl [(mo, .inr (16, [.int th, .ref gl, .ref po, .ref pi, .ref bu, .ref pa, .int (mt + 1), .int mh, .int 40, .int 0, .null, .int 0, .int 0])), (bu, .inl (ci, 4, .inl (fun _ => 0))), (pi, .inr (4, [.int 0, .ref G.1, .int 0])), (r_523, .inr (3, [.int 0, .int (-1), .int 0, .ref pi]))] H := by have h9 := hP; rw [z_upd] at h9; exact h9
  have hD : va_D A [(mo, .inr (16, [.int th, .ref gl, .ref po, .ref pi, .ref bu, .ref pa, .int (mt + 1), .int mh, .int 40, .int 0, .null, .int 0, .int 0])), (bu, .inl (ci, 4, .inl (fun _ => 0))), (pi, .inr (4, [.int 0, .ref G.1, .int 0])), (r_523, .inr (3, [.int 0, .int (-1), .int 0, .ref pi]))] := by have h9 := hD; rw [z_upd] at h9; exact h9
  obtain ⟨x_535, ex_535⟩ : ∃ y : Int32, y = 2 + 1 := ⟨_, rfl⟩
  have ex_535 : x_535 = 3 := ex_535.trans (by decide)
  subst ex_535
  refine lv_iinc (v := 3) (lv' := [(2, .int 3), (1, .int 0), (0, .ref mo)]) hx hb dX11_second_182 hl (k := 0) rfl (by decide) (by decide) rfl (fun ls hl => ?_)
  refine lv_goto (tgt := 155) hx hb dX11_second_185 (by decide) ?_
  refine lv_iload_n hx hb dX11_second_155 rfl (lv_at hl 0 rfl) ?_
  refine lv_aload_n hx hb dX11_second_156 rfl (lv_at hl 2 rfl) ?_
  refine va_get (D := D) (cl := vwCl) (ci := 16) (v := .ref bu) (C := RX11) (T := TX11) (N := 13) hx hb hts zuX11_second_X11 hown hK hP 0 rfl rfl 4 (by decide) (hts (.fieldLink RX11 30 "GatherhouseModel" "busy" "[I") (by decide +kernel)) (fun _ h9 => h9) rfl dX11_second_157 ?_
  refine va_alen (D := D) (cl := vwCl) (v := 4) hx hb hK hP 1 0 rfl rfl (by decide) dX11_second_160 ?_
  refine lv_icmp_ge (tgt := 188) hx hb dX11_second_161 (by decide) (fun cc => absurd cc (by decide)) (fun _ => ?_)
  refine lv_aload_n hx hb dX11_second_164 rfl (lv_at hl 2 rfl) ?_
  refine va_get (D := D) (cl := vwCl) (ci := 16) (v := .ref bu) (C := RX11) (T := TX11) (N := 13) hx hb hts zuX11_second_X11 hown hK hP 0 rfl rfl 4 (by decide) (hts (.fieldLink RX11 30 "GatherhouseModel" "busy" "[I") (by decide +kernel)) (fun _ h9 => h9) rfl dX11_second_165 ?_
  refine lv_iload_n hx hb dX11_second_168 rfl (lv_at hl 0 rfl) ?_
  refine lv_iconst (v := 0) hx hb dX11_second_169 (by decide) ?_
  refine lv_aload_n hx hb dX11_second_170 rfl (lv_at hl 2 rfl) ?_
  refine va_get (D := D) (cl := vwCl) (ci := 16) (v := .ref bu) (C := RX11) (T := TX11) (N := 13) hx hb hts zuX11_second_X11 hown hK hP 0 rfl rfl 4 (by decide) (hts (.fieldLink RX11 30 "GatherhouseModel" "busy" "[I") (by decide +kernel)) (fun _ h9 => h9) rfl dX11_second_171 ?_
  refine lv_iload_n hx hb dX11_second_174 rfl (lv_at hl 0 rfl) ?_
  refine va_iald (D := D) (cl := vwCl) hx hb hK hP 1 0 rfl rfl (vp_in_nI (n := 3) (N := 4) (by decide) (by decide)) dX11_second_175 ?_
  refine W.eq (g2 := F0 m 176 ls [.int 0, .int 0, .int 3, .ref bu]) rfl ?_
  refine lv_iconst (v := 1) hx hb dX11_second_176 (by decide) ?_
  refine lv_isub hx hb dX11_second_177 ?_
  refine lv_topi (fun y_536 ey_536 => ?_)
  have ey_536 : y_536 = (-1) := ey_536.trans (by decide +kernel)
  subst ey_536
  refine va_mmax hx hb (hml.trans hl.1.symm) hown (hts (.methodLink RX11 120 Lib.Math.max.name) (by decide +kernel)) (hts (.static Lib.Math.max.name) (by decide +kernel)) (hts (.initialized "java/lang/Math") (by decide +kernel)) (hts (.code Lib.Math.max.name Lib.Math.max.code 2 (some .int)) (by decide +kernel)) (Nat.le_of_ble_eq_true rfl) (Nat.le_of_ble_eq_true rfl) (Nat.le_of_ble_eq_true rfl) (Nat.le_of_ble_eq_true rfl) dX11_second_178 ?_
  refine lv_topi (fun y_537 ey_537 => ?_)
  have ey_537 : y_537 = 0 := ey_537.trans (by decide +kernel)
  subst ey_537
  refine va_iast (D := D) (cl := vwCl) hx hb hK hP hD hS 1 0 rfl rfl (vp_in_nI (n := 3) (N := 4) (by decide) (by decide)) dX11_second_181 (fun H locs hP hD hS => ?_)
  have hP : va_P D vwCl [(mo, .inr (16, [.int th, .ref gl, .ref po, .ref pi, .ref bu, .ref pa, .int (mt + 1), .int mh, .int 40, .int 0, .null, .int 0, .int 0])), (bu, .inl (ci, 4, .inl (fun _ => 0))), (pi, .inr (4, [.int 0, .ref G.1, .int 0])), (r_523, .inr (3, [.int 0, .int (-1), .int 0, .ref pi]))] H := by have h9 := hP; rw [z_upd] at h9; exact h9
  have hD : va_D A [(mo, .inr (16, [.int th, .ref gl, .ref po, .ref pi, .ref bu, .ref pa, .int (mt + 1), .int mh, .int 40, .int 0, .null, .int 0, .int 0])), (bu, .inl (ci, 4, .inl (fun _ => 0))), (pi, .inr (4, [.int 0, .ref G.1, .int 0])), (r_523, .inr (3, [.int 0, .int (-1), .int 0, .ref pi]))] := by have h9 := hD; rw [z_upd] at h9; exact h9
  obtain ⟨x_538, ex_538⟩ : ∃ y : Int32, y = 3 + 1 := ⟨_, rfl⟩
  have ex_538 : x_538 = 4 := ex_538.trans (by decide)
  subst ex_538
  refine lv_iinc (v := 4) (lv' := [(2, .int 4), (1, .int 0), (0, .ref mo)]) hx hb dX11_second_182 hl (k := 0) rfl (by decide) (by decide) rfl (fun ls hl => ?_)
  refine lv_goto (tgt := 155) hx hb dX11_second_185 (by decide) ?_
  refine lv_iload_n hx hb dX11_second_155 rfl (lv_at hl 0 rfl) ?_
  refine lv_aload_n hx hb dX11_second_156 rfl (lv_at hl 2 rfl) ?_
  refine va_get (D := D) (cl := vwCl) (ci := 16) (v := .ref bu) (C := RX11) (T := TX11) (N := 13) hx hb hts zuX11_second_X11 hown hK hP 0 rfl rfl 4 (by decide) (hts (.fieldLink RX11 30 "GatherhouseModel" "busy" "[I") (by decide +kernel)) (fun _ h9 => h9) rfl dX11_second_157 ?_
  refine va_alen (D := D) (cl := vwCl) (v := 4) hx hb hK hP 1 0 rfl rfl (by decide) dX11_second_160 ?_
  refine lv_icmp_ge (tgt := 188) hx hb dX11_second_161 (by decide) (fun _ => ?_) (fun cc => absurd (by decide) cc)
  refine lv_iload_n hx hb dX11_second_188 rfl (lv_at hl 1 rfl) ?_
  exact W.iret (v := 0) hx hb hr (fun t ht hW => ⟨⟨0, (), rfl, rfl, q_RW_mk hP hK hD [0, 2, 1] [0] rfl rfl (by decide) rfl ht hW.alike⟩, hS.F ht⟩) hS.2.2 dX11_second_189
theorem dJx4a65c_grow_92f84_0 : decode cJx4a65c_grow_92f84 0 = .ok (.aload_n 0, 1) := by decide +kernel
theorem dJx4a65c_grow_92f84_1 : decode cJx4a65c_grow_92f84 1 = .ok (.getfield 9, 3) := by decide +kernel
theorem dJx4a65c_grow_92f84_4 : decode cJx4a65c_grow_92f84 4 = .ok (.arraylength, 1) := by decide +kernel
theorem dJx4a65c_grow_92f84_5 : decode cJx4a65c_grow_92f84 5 = .ok (.istore_n 2, 1) := by decide +kernel
theorem dJx4a65c_grow_92f84_6 : decode cJx4a65c_grow_92f84 6 = .ok (.iload_n 2, 1) := by decide +kernel
theorem dJx4a65c_grow_92f84_7 : decode cJx4a65c_grow_92f84 7 = .ok (.ifCond .gt 13, 3) := by decide +kernel
theorem dJx4a65c_grow_92f84_10 : decode cJx4a65c_grow_92f84 10 = .ok (.aload_n 0, 1) := by decide +kernel
theorem dJx4a65c_grow_92f84_11 : decode cJx4a65c_grow_92f84 11 = .ok (.getfield 9, 3) := by decide +kernel
theorem dJx4a65c_grow_92f84_14 : decode cJx4a65c_grow_92f84 14 = .ok (.getstatic 39, 3) := by decide +kernel
theorem dJx4a65c_grow_92f84_17 : decode cJx4a65c_grow_92f84 17 = .ok (.if_acmp .eq 28, 3) := by decide +kernel
theorem dJx4a65c_grow_92f84_45 : decode cJx4a65c_grow_92f84 45 = .ok (.aload_n 0, 1) := by decide +kernel
theorem dJx4a65c_grow_92f84_46 : decode cJx4a65c_grow_92f84 46 = .ok (.bipush 10, 2) := by decide +kernel
theorem dJx4a65c_grow_92f84_48 : decode cJx4a65c_grow_92f84 48 = .ok (.iload_n 1, 1) := by decide +kernel
theorem dJx4a65c_grow_92f84_49 : decode cJx4a65c_grow_92f84 49 = .ok (.invokestatic 79, 3) := by decide +kernel
theorem dJx4a65c_grow_92f84_52 : decode cJx4a65c_grow_92f84 52 = .ok (.anewarray 7, 3) := by decide +kernel
theorem dJx4a65c_grow_92f84_55 : decode cJx4a65c_grow_92f84 55 = .ok (.dup_x1, 1) := by decide +kernel
theorem dJx4a65c_grow_92f84_56 : decode cJx4a65c_grow_92f84 56 = .ok (.putfield 9, 3) := by decide +kernel
theorem dJx4a65c_grow_92f84_59 : decode cJx4a65c_grow_92f84 59 = .ok (.areturn, 1) := by decide +kernel
def wzEJx4a65c_grow_92f84 : List Cond := [.code yJx4a65c_grow_92f84 cJx4a65c_grow_92f84 4 (some (.array (.object "java/lang/Object"))), .fieldLink RJx4a65c 9 "java/util/ArrayList" "elementData" "[Ljava/lang/Object;", .fieldLink RJx4a65c 39 "java/util/ArrayList" "DEFAULTCAPACITY_EMPTY_ELEMENTDATA" "[Ljava/lang/Object;", .methodLink RJx4a65c 79 Lib.Math.max.name, .static Lib.Math.max.name, .initialized "java/lang/Math", .code Lib.Math.max.name Lib.Math.max.code 2 (some .int), .classLink RJx4a65c 7 "java/lang/Object"]
def wzJx4a65c_grow_92f84 : List Cond := wzEJx4a65c_grow_92f84 ++ (u_ws RJx4a65c TJx4a65c 3)
theorem zgEJx4a65c_grow_92f84 : wzEJx4a65c_grow_92f84.all goodWord = true := by decide +kernel
theorem zuJx4a65c_grow_92f84_Jx4a65c : ∀ w ∈ u_ws RJx4a65c TJx4a65c 3, w ∈ wzJx4a65c_grow_92f84 := (fun _ h => (List.mem_append_right _ h))
set_option maxHeartbeats 4000000 in
set_option maxRecDepth 100000 in
theorem zc_Jx4a65c_grow_92f84 (l : Launch) (D : va_G) (G : Nat × Nat × Nat) (li : Nat) (mc : Int32) (sz : Nat) : Met l yJx4a65c_grow_92f84 wzJx4a65c_grow_92f84 ({ frames := 1, cells := 1, slots := 10, locals := 22 }) (va_Pc [.ref li, .int 1] (p_RW D G [] [(li, .inr (4, [.int mc, .ref G.1, .int 0]))] sz)) (va_Qr (fun (u : Unit) => True) (fun (u : Unit) (ret : Nat) (t : State) => ∃ (ca : ClassId), q_RW D [(ca, .object "java/lang/Object")] [(li, .inr (4, [.int mc, .ref ret, .int 0])), (ret, .inl (ca, 10, .inr (.inr (.inr (.inr (fun _ => none))))))] (va_A [(li, .inr (4, [.int mc, .ref G.1, .int 0]))] sz) t) (va_A [(li, .inr (4, [.int mc, .ref G.1, .int 0]))] sz)) 1 10 (va_A [(li, .inr (4, [.int mc, .ref G.1, .int 0]))] sz) := by
  refine Met.ofW (cc := cJx4a65c_grow_92f84) (maxL := 4) (ret := (some (.array (.object "java/lang/Object")))) (by decide) rfl ?_
  intro p e s m args below meth c s₁ B hml hv
  obtain ⟨rfl, hsz, hP, hK, hD0, hT, hZ⟩ := hv
  have hx := B.exec
  have hb := B.bytes
  have hr := B.returns
  have hts := atoms_spec (ws := wzJx4a65c_grow_92f84) B.pre
  have hown : s.vm.findClass RJx4a65c = some m.cls := findClass_of_methodNamed B.named
  have hlocks := B.notSynchronized
  subst hsz
  have hD := hD0.self (sz := s.heap.size)
  generalize hAe : va_A [(li, .inr (4, [.int mc, .ref G.1, .int 0]))] s.heap.size = A at hD hZ ⊢
  have hA : ∀ q : Nat, s.heap.size ≤ q → A q := fun q h => by rw [← hAe]; exact Or.inr h
  have hS : va_S A s.heap s.heap [] := va_S.rf
  have hl := lv_entry ([.ref li, .int 1]) (n := 4) (Nat.le_of_ble_eq_true rfl)
  rw [lg_entry_eq]
  generalize (lg_sl ([.ref li, .int 1]) ++ List.replicate (4 - (lg_sl ([.ref li, .int 1])).length) Slot.unset).toArray = ls at hl ⊢
  have hl : lv_has ls 4 [(0, .ref li), (1, .int 1)] := hl
  refine lv_aload_n hx hb dJx4a65c_grow_92f84_0 rfl (lv_at hl 0 rfl) ?_
  refine va_get (D := D) (cl := vwCl) (ci := 4) (v := .ref G.1) (C := RJx4a65c) (T := TJx4a65c) (N := 3) hx hb hts zuJx4a65c_grow_92f84_Jx4a65c hown hK hP 0 rfl rfl 1 (by decide) (hts (.fieldLink RJx4a65c 9 "java/util/ArrayList" "elementData" "[Ljava/lang/Object;") (by decide +kernel)) (fun _ h9 => h9) rfl dJx4a65c_grow_92f84_1 ?_
  refine va_tlen hx hb hZ.2.2.2.1 hS (v := 0) (by decide) dJx4a65c_grow_92f84_4 ?_
  refine lv_istore_n (lv' := [(2, .int 0), (0, .ref li), (1, .int 1)]) hx hb dJx4a65c_grow_92f84_5 rfl hl (by decide) rfl (fun ls hl => ?_)
  refine lv_iload_n hx hb dJx4a65c_grow_92f84_6 rfl (lv_at hl 0 rfl) ?_
  refine lv_if_gt (tgt := 20) hx hb dJx4a65c_grow_92f84_7 (by decide) (fun cc => absurd cc (by decide)) (fun _ => ?_)
  refine lv_aload_n hx hb dJx4a65c_grow_92f84_10 rfl (lv_at hl 1 rfl) ?_
  refine va_get (D := D) (cl := vwCl) (ci := 4) (v := .ref G.1) (C := RJx4a65c) (T := TJx4a65c) (N := 3) hx hb hts zuJx4a65c_grow_92f84_Jx4a65c hown hK hP 0 rfl rfl 1 (by decide) (hts (.fieldLink RJx4a65c 9 "java/util/ArrayList" "elementData" "[Ljava/lang/Object;") (by decide +kernel)) (fun _ h9 => h9) rfl dJx4a65c_grow_92f84_11 ?_
  refine va_gets hx hb hZ.2.2.1 hS hown (hts (.fieldLink RJx4a65c 39 "java/util/ArrayList" "DEFAULTCAPACITY_EMPTY_ELEMENTDATA" "[Ljava/lang/Object;") (by decide +kernel)) (fun _ h9 => h9) dJx4a65c_grow_92f84_14 ?_
  refine lv_acmp_eq (rx := some G.1) (ry := some G.1) (tgt := 45) hx hb dJx4a65c_grow_92f84_17 (by decide) (fun _ => ?_) (fun cc => absurd rfl cc)
  refine lv_aload_n hx hb dJx4a65c_grow_92f84_45 rfl (lv_at hl 1 rfl) ?_
  refine lv_bipush (v := 10) hx hb dJx4a65c_grow_92f84_46 (by decide) ?_
  refine lv_iload_n hx hb dJx4a65c_grow_92f84_48 rfl (lv_at hl 2 rfl) ?_
  refine va_mmax hx hb (hml.trans hl.1.symm) hown (hts (.methodLink RJx4a65c 79 Lib.Math.max.name) (by decide +kernel)) (hts (.static Lib.Math.max.name) (by decide +kernel)) (hts (.initialized "java/lang/Math") (by decide +kernel)) (hts (.code Lib.Math.max.name Lib.Math.max.code 2 (some .int)) (by decide +kernel)) (Nat.le_of_ble_eq_true rfl) (Nat.le_of_ble_eq_true rfl) (Nat.le_of_ble_eq_true rfl) (Nat.le_of_ble_eq_true rfl) dJx4a65c_grow_92f84_49 ?_
  refine lv_topi (fun y_667 ey_667 => ?_)
  have ey_667 : y_667 = 10 := ey_667.trans (by decide +kernel)
  subst ey_667
  refine va_newq (D := D) (cl := vwCl) (N' := 10) hx hb hown (hts (.classLink RJx4a65c 7 "java/lang/Object") (by decide +kernel)) (hT.2.2.2.2.1 "java/lang/Object" (by decide +kernel)) hK hP hD hS hA (by decide) (by decide) (by decide) (Nat.le_of_ble_eq_true rfl) (Nat.le_of_ble_eq_true rfl) dJx4a65c_grow_92f84_52 (fun o_668 cA_669 H hK hP hD hS => ?_)
  have hP : va_P D vwCl [(li, .inr (4, [.int mc, .ref G.1, .int 0])), (o_668, .inl (cA_669, 10, .inr (.inr (.inr (.inr (fun _ => none))))))] H := hP
  have hD : va_D A [(li, .inr (4, [.int mc, .ref G.1, .int 0])), (o_668, .inl (cA_669, 10, .inr (.inr (.inr (.inr (fun _ => none))))))] := hD
  have hK : va_K D vwCl [(cA_669, .object "java/lang/Object")] s := hK
  refine W.widen (k := 1) (n := 10) (Nat.le_of_ble_eq_true rfl) (Nat.le_of_ble_eq_true rfl) ?_
  refine lv_dup_x1 hx hb dJx4a65c_grow_92f84_55 rfl rfl ?_
  refine va_put (D := D) (cl := vwCl) (ci := 4) (v := .ref o_668) (ty := (.array (.object "java/lang/Object"))) (C := RJx4a65c) (T := TJx4a65c) (N := 3) hx hb hts zuJx4a65c_grow_92f84_Jx4a65c tyJx4a65c tyJx4a65c_ok nmJx4a65c hown hK hP hD hS 0 rfl rfl 1 (by decide) (hts (.fieldLink RJx4a65c 9 "java/util/ArrayList" "elementData" "[Ljava/lang/Object;") (by decide +kernel)) (fun _ h9 => h9) rfl (by decide +kernel) rfl rfl (Nat.le_of_ble_eq_true rfl) dJx4a65c_grow_92f84_56 (fun H locs hP hD hS => ?_)
  have hP : va_P D vwCl [(li, .inr (4, [.int mc, .ref o_668, .int 0])), (o_668, .inl (cA_669, 10, .inr (.inr (.inr (.inr (fun _ => none))))))] H := hP
  have hD : va_D A [(li, .inr (4, [.int mc, .ref o_668, .int 0])), (o_668, .inl (cA_669, 10, .inr (.inr (.inr (.inr (fun _ => none))))))] := hD
  exact W.aret (v := .ref o_668) hx hb hr (Or.inr ⟨_, rfl⟩) (Or.inr ⟨_, rfl⟩) (fun t ht hW => ⟨⟨(), o_668, rfl, trivial, ⟨cA_669, q_RW_mk hP hK hD [0, 1] [0] rfl rfl (by decide) rfl ht hW.alike⟩⟩, hS.F ht⟩) hS.2.2 dJx4a65c_grow_92f84_59
theorem dJx4a65c_grow_d5877_0 : decode cJx4a65c_grow_d5877 0 = .ok (.aload_n 0, 1) := by decide +kernel
theorem dJx4a65c_grow_d5877_1 : decode cJx4a65c_grow_d5877 1 = .ok (.aload_n 0, 1) := by decide +kernel
theorem dJx4a65c_grow_d5877_2 : decode cJx4a65c_grow_d5877 2 = .ok (.getfield 48, 3) := by decide +kernel
theorem dJx4a65c_grow_d5877_5 : decode cJx4a65c_grow_d5877 5 = .ok (.iconst 1, 1) := by decide +kernel
theorem dJx4a65c_grow_d5877_6 : decode cJx4a65c_grow_d5877 6 = .ok (.iadd, 1) := by decide +kernel
theorem dJx4a65c_grow_d5877_7 : decode cJx4a65c_grow_d5877 7 = .ok (.invokevirtual 69, 3) := by decide +kernel
theorem dJx4a65c_grow_d5877_10 : decode cJx4a65c_grow_d5877 10 = .ok (.areturn, 1) := by decide +kernel
def wzEJx4a65c_grow_d5877 : List Cond := [.code yJx4a65c_grow_d5877 cJx4a65c_grow_d5877 1 (some (.array (.object "java/lang/Object"))), .fieldLink RJx4a65c 48 "java/util/ArrayList" "size" "I", .methodLink RJx4a65c 69 yJx4a65c_grow_92f84, .instanceMethod yJx4a65c_grow_92f84, .selects RJx4a65c yJx4a65c_grow_92f84 yJx4a65c_grow_92f84, .initialized RJx4a65c, .code yJx4a65c_grow_92f84 cJx4a65c_grow_92f84 4 (some (.array (.object "java/lang/Object"))), .fieldLink RJx4a65c 9 "java/util/ArrayList" "elementData" "[Ljava/lang/Object;", .fieldLink RJx4a65c 39 "java/util/ArrayList" "DEFAULTCAPACITY_EMPTY_ELEMENTDATA" "[Ljava/lang/Object;", .methodLink RJx4a65c 79 Lib.Math.max.name, .static Lib.Math.max.name, .initialized "java/lang/Math", .code Lib.Math.max.name Lib.Math.max.code 2 (some .int), .classLink RJx4a65c 7 "java/lang/Object"]
def wzJx4a65c_grow_d5877 : List Cond := wzEJx4a65c_grow_d5877 ++ (u_ws RJx4a65c TJx4a65c 3)
theorem zgEJx4a65c_grow_d5877 : wzEJx4a65c_grow_d5877.all goodWord = true := by decide +kernel
theorem zuJx4a65c_grow_d5877_Jx4a65c : ∀ w ∈ u_ws RJx4a65c TJx4a65c 3, w ∈ wzJx4a65c_grow_d5877 := (fun _ h => (List.mem_append_right _ h))
theorem gzJx4a65c_grow_d5877_Jx4a65c_grow_92f84_69 : GoodIn wzJx4a65c_grow_d5877 (wsV RJx4a65c 69 RJx4a65c yJx4a65c_grow_92f84 wzJx4a65c_grow_92f84) := (goodIn_app (z_lift (goodIn_r _ [2, 3, 4, 5] rfl (by decide +kernel))) (goodIn_app (z_lift (goodIn_r wzEJx4a65c_grow_92f84 [6, 7, 8, 9, 10, 11, 12, 13] rfl zgEJx4a65c_grow_92f84)) (goodIn_sub (fun _ h => (List.mem_append_right _ h)) zgU_Jx4a65c)))
set_option maxHeartbeats 4000000 in
set_option maxRecDepth 100000 in
theorem zc_Jx4a65c_grow_d5877 (l : Launch) (D : va_G) (G : Nat × Nat × Nat) (li : Nat) (mc : Int32) (sz : Nat) : Met l yJx4a65c_grow_d5877 wzJx4a65c_grow_d5877 ({ frames := 2, cells := 1, slots := 10, locals := 45 }) (va_Pc [.ref li] (p_RW D G [] [(li, .inr (4, [.int mc, .ref G.1, .int 0]))] sz)) (va_Qr (fun (u : Unit) => True) (fun (u : Unit) (ret : Nat) (t : State) => ∃ (ca : ClassId), q_RW D [(ca, .object "java/lang/Object")] [(li, .inr (4, [.int mc, .ref ret, .int 0])), (ret, .inl (ca, 10, .inr (.inr (.inr (.inr (fun _ => none))))))] (va_A [(li, .inr (4, [.int mc, .ref G.1, .int 0]))] sz) t) (va_A [(li, .inr (4, [.int mc, .ref G.1, .int 0]))] sz)) 1 10 (va_A [(li, .inr (4, [.int mc, .ref G.1, .int 0]))] sz) := by
  refine Met.ofW (cc := cJx4a65c_grow_d5877) (maxL := 1) (ret := (some (.array (.object "java/lang/Object")))) (by decide) rfl ?_
  intro p e s m args below meth c s₁ B hml hv
  obtain ⟨rfl, hsz, hP, hK, hD0, hT, hZ⟩ := hv
  have hx := B.exec
  have hb := B.bytes
  have hr := B.returns
  have hts := atoms_spec (ws := wzJx4a65c_grow_d5877) B.pre
  have hown : s.vm.findClass RJx4a65c = some m.cls := findClass_of_methodNamed B.named
  have hlocks := B.notSynchronized
  subst hsz
  have hD := hD0.self (sz := s.heap.size)
  generalize hAe : va_A [(li, .inr (4, [.int mc, .ref G.1, .int 0]))] s.heap.size = A at hD hZ ⊢
  have hA : ∀ q : Nat, s.heap.size ≤ q → A q := fun q h => by rw [← hAe]; exact Or.inr h
  have hS : va_S A s.heap s.heap [] := va_S.rf
  have hl := lv_entry ([.ref li]) (n := 1) (Nat.le_of_ble_eq_true rfl)
  rw [lg_entry_eq]
  generalize (lg_sl ([.ref li]) ++ List.replicate (1 - (lg_sl ([.ref li])).length) Slot.unset).toArray = ls at hl ⊢
  have hl : lv_has ls 1 [(0, .ref li)] := hl
  refine lv_aload_n hx hb dJx4a65c_grow_d5877_0 rfl (lv_at hl 0 rfl) ?_
  refine lv_aload_n hx hb dJx4a65c_grow_d5877_1 rfl (lv_at hl 0 rfl) ?_
  refine va_get (D := D) (cl := vwCl) (ci := 4) (v := .int 0) (C := RJx4a65c) (T := TJx4a65c) (N := 3) hx hb hts zuJx4a65c_grow_d5877_Jx4a65c hown hK hP 0 rfl rfl 2 (by decide) (hts (.fieldLink RJx4a65c 48 "java/util/ArrayList" "size" "I") (by decide +kernel)) (fun _ h9 => h9) rfl dJx4a65c_grow_d5877_2 ?_
  refine lv_iconst (v := 1) hx hb dJx4a65c_grow_d5877_5 (by decide) ?_
  refine lv_iadd hx hb dJx4a65c_grow_d5877_6 ?_
  refine lv_topi (fun y_670 ey_670 => ?_)
  have ey_670 : y_670 = 1 := ey_670.trans (by decide +kernel)
  subst ey_670
  have hFc := va_free (wc := [(li, .inr (4, [.int mc, .ref G.1, .int 0]))]) hD hS hA [0] rfl
  refine va_callr (va_runV (As := [.int 1]) (rest := []) ⟨hx, hb, hml, hown, hts⟩ (zc_Jx4a65c_grow_92f84 l D G li mc s.heap.size) (cwV 1 hts gzJx4a65c_grow_d5877_Jx4a65c_grow_92f84_69 rfl rfl rfl (by decide +kernel) ⟨(Nat.le_of_ble_eq_true rfl), (Nat.le_of_ble_eq_true rfl)⟩) ⟨p_RW_blind, va_recv hK hP (ci := 4) (q0 := 0) rfl rfl, (p_RW_at (tc := []) (wc := [(li, .inr (4, [.int mc, .ref G.1, .int 0]))]) hP hK hD hS hA hT hZ [0] [] rfl rfl (by decide) rfl [.ref li, .int 1])⟩ rfl rfl hl.1 rfl (lv_room (Nat.le_of_ble_eq_true rfl)) dJx4a65c_grow_d5877_7 ⟨(Nat.le_of_ble_eq_true rfl), (Nat.le_of_ble_eq_true rfl)⟩) hS (fun q _ h => hFc q h) hFc (fun u r_671 t H locs ht hvm w_672 hB hz1 hk1 hS => ?_)
  obtain ⟨v_673, hB⟩ := hB
  obtain ⟨hP, hD, hK⟩ := q_join (D := D) (wc := [(li, .inr (4, [.int mc, .ref G.1, .int 0]))]) (wr := []) (w1 := [(li, .inr (4, [.int mc, .ref r_671, .int 0])), (r_671, .inl (v_673, 10, .inr (.inr (.inr (.inr (fun _ => none))))))]) (tyr := []) (ty1 := [(v_673, .object "java/lang/Object")]) hP hD hK [0] [] [] rfl rfl (by decide) (by decide) rfl hFc hk1 ht hvm hB
  have hP : va_P D vwCl [(li, .inr (4, [.int mc, .ref r_671, .int 0])), (r_671, .inl (v_673, 10, .inr (.inr (.inr (.inr (fun _ => none))))))] H := hP
  have hD : va_D A [(li, .inr (4, [.int mc, .ref r_671, .int 0])), (r_671, .inl (v_673, 10, .inr (.inr (.inr (.inr (fun _ => none))))))] := hD
  have hK : va_K D vwCl [(v_673, .object "java/lang/Object")] s := hK
  refine W.widen (k := 1) (n := 10) (Nat.le_of_ble_eq_true rfl) (Nat.le_of_ble_eq_true rfl) ?_
  exact W.aret (v := .ref r_671) hx hb hr (Or.inr ⟨_, rfl⟩) (Or.inr ⟨_, rfl⟩) (fun t ht hW => ⟨⟨(), r_671, rfl, trivial, ⟨v_673, q_RW_mk hP hK hD [0, 1] [0] rfl rfl (by decide) rfl ht hW.alike⟩⟩, hS.F ht⟩) hS.2.2 dJx4a65c_grow_d5877_10
theorem dJx4a65c_add_72be8_0 : decode cJx4a65c_add_72be8 0 = .ok (.iload_n 3, 1) := by decide +kernel
theorem dJx4a65c_add_72be8_1 : decode cJx4a65c_add_72be8 1 = .ok (.aload_n 2, 1) := by decide +kernel
theorem dJx4a65c_add_72be8_2 : decode cJx4a65c_add_72be8 2 = .ok (.arraylength, 1) := by decide +kernel
theorem dJx4a65c_add_72be8_3 : decode cJx4a65c_add_72be8 3 = .ok (.if_icmp .ne 8, 3) := by decide +kernel
theorem dJx4a65c_add_72be8_6 : decode cJx4a65c_add_72be8 6 = .ok (.aload_n 0, 1) := by decide +kernel
theorem dJx4a65c_add_72be8_7 : decode cJx4a65c_add_72be8 7 = .ok (.invokevirtual 129, 3) := by decide +kernel
theorem dJx4a65c_add_72be8_10 : decode cJx4a65c_add_72be8 10 = .ok (.astore_n 2, 1) := by decide +kernel
theorem dJx4a65c_add_72be8_11 : decode cJx4a65c_add_72be8 11 = .ok (.aload_n 2, 1) := by decide +kernel
theorem dJx4a65c_add_72be8_12 : decode cJx4a65c_add_72be8 12 = .ok (.iload_n 3, 1) := by decide +kernel
theorem dJx4a65c_add_72be8_13 : decode cJx4a65c_add_72be8 13 = .ok (.aload_n 1, 1) := by decide +kernel
theorem dJx4a65c_add_72be8_14 : decode cJx4a65c_add_72be8 14 = .ok (.aastore, 1) := by decide +kernel
theorem dJx4a65c_add_72be8_15 : decode cJx4a65c_add_72be8 15 = .ok (.aload_n 0, 1) := by decide +kernel
theorem dJx4a65c_add_72be8_16 : decode cJx4a65c_add_72be8 16 = .ok (.iload_n 3, 1) := by decide +kernel
theorem dJx4a65c_add_72be8_17 : decode cJx4a65c_add_72be8 17 = .ok (.iconst 1, 1) := by decide +kernel
theorem dJx4a65c_add_72be8_18 : decode cJx4a65c_add_72be8 18 = .ok (.iadd, 1) := by decide +kernel
theorem dJx4a65c_add_72be8_19 : decode cJx4a65c_add_72be8 19 = .ok (.putfield 48, 3) := by decide +kernel
theorem dJx4a65c_add_72be8_22 : decode cJx4a65c_add_72be8 22 = .ok (.return_, 1) := by decide +kernel
def wzEJx4a65c_add_72be8 : List Cond := [.code yJx4a65c_add_72be8 cJx4a65c_add_72be8 4 none, .methodLink RJx4a65c 129 yJx4a65c_grow_d5877, .instanceMethod yJx4a65c_grow_d5877, .selects RJx4a65c yJx4a65c_grow_d5877 yJx4a65c_grow_d5877, .initialized RJx4a65c, .code yJx4a65c_grow_d5877 cJx4a65c_grow_d5877 1 (some (.array (.object "java/lang/Object"))), .fieldLink RJx4a65c 48 "java/util/ArrayList" "size" "I", .methodLink RJx4a65c 69 yJx4a65c_grow_92f84, .instanceMethod yJx4a65c_grow_92f84, .selects RJx4a65c yJx4a65c_grow_92f84 yJx4a65c_grow_92f84, .code yJx4a65c_grow_92f84 cJx4a65c_grow_92f84 4 (some (.array (.object "java/lang/Object"))), .fieldLink RJx4a65c 9 "java/util/ArrayList" "elementData" "[Ljava/lang/Object;", .fieldLink RJx4a65c 39 "java/util/ArrayList" "DEFAULTCAPACITY_EMPTY_ELEMENTDATA" "[Ljava/lang/Object;", .methodLink RJx4a65c 79 Lib.Math.max.name, .static Lib.Math.max.name, .initialized "java/lang/Math", .code Lib.Math.max.name Lib.Math.max.code 2 (some .int), .classLink RJx4a65c 7 "java/lang/Object"]
def wzJx4a65c_add_72be8 : List Cond := wzEJx4a65c_add_72be8 ++ (u_ws RJx4a65c TJx4a65c 3)
theorem zgEJx4a65c_add_72be8 : wzEJx4a65c_add_72be8.all goodWord = true := by decide +kernel
theorem zuJx4a65c_add_72be8_Jx4a65c : ∀ w ∈ u_ws RJx4a65c TJx4a65c 3, w ∈ wzJx4a65c_add_72be8 := (fun _ h => (List.mem_append_right _ h))
theorem gzJx4a65c_add_72be8_Jx4a65c_grow_d5877_129 : GoodIn wzJx4a65c_add_72be8 (wsV RJx4a65c 129 RJx4a65c yJx4a65c_grow_d5877 wzJx4a65c_grow_d5877) := (goodIn_app (z_lift (goodIn_r _ [1, 2, 3, 4] rfl (by decide +kernel))) (goodIn_app (z_lift (goodIn_r wzEJx4a65c_grow_d5877 [5, 6, 7, 8, 9, 4, 10, 11, 12, 13, 14, 15, 16, 17] rfl zgEJx4a65c_grow_d5877)) (goodIn_sub (fun _ h => (List.mem_append_right _ h)) zgU_Jx4a65c)))
set_option maxHeartbeats 4000000 in
set_option maxRecDepth 100000 in
theorem zc_Jx4a65c_add_72be8 (l : Launch) (D : va_G) (G : Nat × Nat × Nat) (li : Nat) (mc : Int32) (ng : Nat) (lo : Int32) (hi : Int32) (xe : Int32) (co : Int32) (sz : Nat) : Met l yJx4a65c_add_72be8 wzJx4a65c_add_72be8 ({ frames := 3, cells := 1, slots := 10, locals := 65 }) (va_Pc [.ref li, .ref ng, .ref G.1, .int 0] (p_RW D G [] [(li, .inr (4, [.int mc, .ref G.1, .int 0])), (ng, .inr (12, [.int lo, .int hi, .int xe, .int co]))] sz)) (va_Qv (fun (u : Unit) => True) (fun (u : Unit) (t : State) => ∃ (na : Nat), q_RW D [] [(li, .inr (4, [.int mc, .ref na, .int 1]))] (va_A [(li, .inr (4, [.int mc, .ref G.1, .int 0])), (ng, .inr (12, [.int lo, .int hi, .int xe, .int co]))] sz) t) (va_A [(li, .inr (4, [.int mc, .ref G.1, .int 0])), (ng, .inr (12, [.int lo, .int hi, .int xe, .int co]))] sz)) 1 10 (va_A [(li, .inr (4, [.int mc, .ref G.1, .int 0])), (ng, .inr (12, [.int lo, .int hi, .int xe, .int co]))] sz) := by
  refine Met.ofW (cc := cJx4a65c_add_72be8) (maxL := 4) (ret := none) (by decide) rfl ?_
  intro p e s m args below meth c s₁ B hml hv
  obtain ⟨rfl, hsz, hP, hK, hD0, hT, hZ⟩ := hv
  have hx := B.exec
  have hb := B.bytes
  have hr := B.returns
  have hts := atoms_spec (ws := wzJx4a65c_add_72be8) B.pre
  have hown : s.vm.findClass RJx4a65c = some m.cls := findClass_of_methodNamed B.named
  have hlocks := B.notSynchronized
  subst hsz
  have hD := hD0.self (sz := s.heap.size)
  generalize hAe : va_A [(li, .inr (4, [.int mc, .ref G.1, .int 0])), (ng, .inr (12, [.int lo, .int hi, .int xe, .int co]))] s.heap.size = A at hD hZ ⊢
  have hA : ∀ q : Nat, s.heap.size ≤ q → A q := fun q h => by rw [← hAe]; exact Or.inr h
  have hS : va_S A s.heap s.heap [] := va_S.rf
  have hl := lv_entry ([.ref li, .ref ng, .ref G.1, .int 0]) (n := 4) (Nat.le_of_ble_eq_true rfl)
  rw [lg_entry_eq]
  generalize (lg_sl ([.ref li, .ref ng, .ref G.1, .int 0]) ++ List.replicate (4 - (lg_sl ([.ref li, .ref ng, .ref G.1, .int 0])).length) Slot.unset).toArray = ls at hl ⊢
  have hl : lv_has ls 4 [(0, .ref li), (1, .ref ng), (2, .ref G.1), (3, .int 0)] := hl
  refine lv_iload_n hx hb dJx4a65c_add_72be8_0 rfl (lv_at hl 3 rfl) ?_
  refine lv_aload_n hx hb dJx4a65c_add_72be8_1 rfl (lv_at hl 2 rfl) ?_
  refine va_tlen hx hb hZ.2.2.2.1 hS (v := 0) (by decide) dJx4a65c_add_72be8_2 ?_
  refine lv_icmp_ne (tgt := 11) hx hb dJx4a65c_add_72be8_3 (by decide) (fun cc => absurd (by decide) cc) (fun _ => ?_)
  refine lv_aload_n hx hb dJx4a65c_add_72be8_6 rfl (lv_at hl 0 rfl) ?_
  have hFc := va_free (wc := [(li, .inr (4, [.int mc, .ref G.1, .int 0]))]) hD hS hA [0] rfl
  refine va_callr (va_runV (As := []) (rest := []) ⟨hx, hb, hml, hown, hts⟩ (zc_Jx4a65c_grow_d5877 l D G li mc s.heap.size) (cwV 0 hts gzJx4a65c_add_72be8_Jx4a65c_grow_d5877_129 rfl rfl rfl (by decide +kernel) ⟨(Nat.le_of_ble_eq_true rfl), (Nat.le_of_ble_eq_true rfl)⟩) ⟨p_RW_blind, va_recv hK hP (ci := 4) (q0 := 0) rfl rfl, (p_RW_at (tc := []) (wc := [(li, .inr (4, [.int mc, .ref G.1, .int 0]))]) hP hK hD hS hA hT hZ [0] [] rfl rfl (by decide) rfl [.ref li])⟩ rfl rfl hl.1 rfl (lv_room (Nat.le_of_ble_eq_true rfl)) dJx4a65c_add_72be8_7 ⟨(Nat.le_of_ble_eq_true rfl), (Nat.le_of_ble_eq_true rfl)⟩) hS (fun q _ h => hFc q h) hFc (fun u r_674 t H locs ht hvm w_675 hB hz1 hk1 hS => ?_)
  obtain ⟨v_676, hB⟩ := hB
  obtain ⟨hP, hD, hK⟩ := q_join (D := D) (wc := [(li, .inr (4, [.int mc, .ref G.1, .int 0]))]) (wr := [(ng, .inr (12, [.int lo, .int hi, .int xe, .int co]))]) (w1 := [(li, .inr (4, [.int mc, .ref r_674, .int 0])), (r_674, .inl (v_676, 10, .inr (.inr (.inr (.inr (fun _ => none))))))]) (tyr := []) (ty1 := [(v_676, .object "java/lang/Object")]) hP hD hK [0] [1] [] rfl rfl (by decide) (by decide) rfl hFc hk1 ht hvm hB
  have hP : va_P D vwCl [(ng, .inr (12, [.int lo, .int hi, .int xe, .int co])), (li, .inr (4, [.int mc, .ref r_674, .int 0])), (r_674, .inl (v_676, 10, .inr (.inr (.inr (.inr (fun _ => none))))))] H := hP
  have hD : va_D A [(ng, .inr (12, [.int lo, .int hi, .int xe, .int co])), (li, .inr (4, [.int mc, .ref r_674, .int 0])), (r_674, .inl (v_676, 10, .inr (.inr (.inr (.inr (fun _ => none))))))] := hD
  have hK : va_K D vwCl [(v_676, .object "java/lang/Object")] s := hK
  refine W.widen (k := 1) (n := 10) (Nat.le_of_ble_eq_true rfl) (Nat.le_of_ble_eq_true rfl) ?_
  refine lv_astore_n (lv' := [(2, .ref r_674), (0, .ref li), (1, .ref ng), (3, .int 0)]) hx hb dJx4a65c_add_72be8_10 rfl hl (by decide) rfl (fun ls hl => ?_)
  refine lv_aload_n hx hb dJx4a65c_add_72be8_11 rfl (lv_at hl 0 rfl) ?_
  refine lv_iload_n hx hb dJx4a65c_add_72be8_12 rfl (lv_at hl 3 rfl) ?_
  refine lv_aload_n hx hb dJx4a65c_add_72be8_13 rfl (lv_at hl 2 rfl) ?_
  refine va_astqO (D := D) (cl := vwCl) hx hb hK hP hD hS 2 0 0 12 rfl rfl (hT.2.2.1 ("GatherhouseModel$Glass", "java/lang/Object") (by decide +kernel)) rfl rfl (vp_in_nI (n := 0) (N := 10) (by decide) (by decide)) dJx4a65c_add_72be8_14 (fun H locs hP hD hS => ?_)
  have hP := hP.sub (ws' := [(ng, .inr (12, [.int lo, .int hi, .int xe, .int co])), (li, .inr (4, [.int mc, .ref r_674, .int 0]))]) [0, 1] rfl
  have hD := hD.sub (ws' := [(ng, .inr (12, [.int lo, .int hi, .int xe, .int co])), (li, .inr (4, [.int mc, .ref r_674, .int 0]))]) [0, 1] (by decide) rfl
  refine lv_aload_n hx hb dJx4a65c_add_72be8_15 rfl (lv_at hl 1 rfl) ?_
  refine lv_iload_n hx hb dJx4a65c_add_72be8_16 rfl (lv_at hl 3 rfl) ?_
  refine lv_iconst (v := 1) hx hb dJx4a65c_add_72be8_17 (by decide) ?_
  refine lv_iadd hx hb dJx4a65c_add_72be8_18 ?_
  refine lv_topi (fun y_677 ey_677 => ?_)
  have ey_677 : y_677 = 1 := ey_677.trans (by decide +kernel)
  subst ey_677
  refine va_put (D := D) (cl := vwCl) (ci := 4) (v := .int 1) (ty := .int) (C := RJx4a65c) (T := TJx4a65c) (N := 3) hx hb hts zuJx4a65c_add_72be8_Jx4a65c tyJx4a65c tyJx4a65c_ok nmJx4a65c hown hK hP hD hS 1 rfl rfl 2 (by decide) (hts (.fieldLink RJx4a65c 48 "java/util/ArrayList" "size" "I") (by decide +kernel)) (fun _ h9 => h9) rfl (by decide +kernel) rfl rfl (Nat.le_of_ble_eq_true rfl) dJx4a65c_add_72be8_19 (fun H locs hP hD hS => ?_)
  have hP : va_P D vwCl [(ng, .inr (12, [.int lo, .int hi, .int xe, .int co])), (li, .inr (4, [.int mc, .ref r_674, .int 1]))] H := hP
  have hD : va_D A [(ng, .inr (12, [.int lo, .int hi, .int xe, .int co])), (li, .inr (4, [.int mc, .ref r_674, .int 1]))] := hD
  exact W.vret hx hb hr (fun t ht hW => ⟨⟨(), rfl, trivial, ⟨r_674, q_RW_mk hP hK hD [1] [] rfl rfl (by decide) rfl ht hW.alike⟩⟩, hS.F ht⟩) hS.2.2 dJx4a65c_add_72be8_22
theorem dJx4a65c_add_9ea2d_0 : decode cJx4a65c_add_9ea2d 0 = .ok (.aload_n 0, 1) := by decide +kernel
theorem dJx4a65c_add_9ea2d_1 : decode cJx4a65c_add_9ea2d 1 = .ok (.dup, 1) := by decide +kernel
theorem dJx4a65c_add_9ea2d_2 : decode cJx4a65c_add_9ea2d 2 = .ok (.getfield 63, 3) := by decide +kernel
theorem dJx4a65c_add_9ea2d_5 : decode cJx4a65c_add_9ea2d 5 = .ok (.iconst 1, 1) := by decide +kernel
theorem dJx4a65c_add_9ea2d_6 : decode cJx4a65c_add_9ea2d 6 = .ok (.iadd, 1) := by decide +kernel
theorem dJx4a65c_add_9ea2d_7 : decode cJx4a65c_add_9ea2d 7 = .ok (.putfield 63, 3) := by decide +kernel
theorem dJx4a65c_add_9ea2d_10 : decode cJx4a65c_add_9ea2d 10 = .ok (.aload_n 0, 1) := by decide +kernel
theorem dJx4a65c_add_9ea2d_11 : decode cJx4a65c_add_9ea2d 11 = .ok (.aload_n 1, 1) := by decide +kernel
theorem dJx4a65c_add_9ea2d_12 : decode cJx4a65c_add_9ea2d 12 = .ok (.aload_n 0, 1) := by decide +kernel
theorem dJx4a65c_add_9ea2d_13 : decode cJx4a65c_add_9ea2d 13 = .ok (.getfield 9, 3) := by decide +kernel
theorem dJx4a65c_add_9ea2d_16 : decode cJx4a65c_add_9ea2d 16 = .ok (.aload_n 0, 1) := by decide +kernel
theorem dJx4a65c_add_9ea2d_17 : decode cJx4a65c_add_9ea2d 17 = .ok (.getfield 48, 3) := by decide +kernel
theorem dJx4a65c_add_9ea2d_20 : decode cJx4a65c_add_9ea2d 20 = .ok (.invokevirtual 131, 3) := by decide +kernel
theorem dJx4a65c_add_9ea2d_23 : decode cJx4a65c_add_9ea2d 23 = .ok (.iconst 1, 1) := by decide +kernel
theorem dJx4a65c_add_9ea2d_24 : decode cJx4a65c_add_9ea2d 24 = .ok (.ireturn, 1) := by decide +kernel
def wzEJx4a65c_add_9ea2d : List Cond := [.code yJx4a65c_add_9ea2d cJx4a65c_add_9ea2d 2 (some .boolean), .sameField "java/util/ArrayList" "java/util/AbstractList" "modCount" "I", .fieldLink RJx4a65c 63 "java/util/ArrayList" "modCount" "I", .fieldLink RJx4a65c 9 "java/util/ArrayList" "elementData" "[Ljava/lang/Object;", .fieldLink RJx4a65c 48 "java/util/ArrayList" "size" "I", .methodLink RJx4a65c 131 yJx4a65c_add_72be8, .instanceMethod yJx4a65c_add_72be8, .selects RJx4a65c yJx4a65c_add_72be8 yJx4a65c_add_72be8, .initialized RJx4a65c, .code yJx4a65c_add_72be8 cJx4a65c_add_72be8 4 none, .methodLink RJx4a65c 129 yJx4a65c_grow_d5877, .instanceMethod yJx4a65c_grow_d5877, .selects RJx4a65c yJx4a65c_grow_d5877 yJx4a65c_grow_d5877, .code yJx4a65c_grow_d5877 cJx4a65c_grow_d5877 1 (some (.array (.object "java/lang/Object"))), .methodLink RJx4a65c 69 yJx4a65c_grow_92f84, .instanceMethod yJx4a65c_grow_92f84, .selects RJx4a65c yJx4a65c_grow_92f84 yJx4a65c_grow_92f84, .code yJx4a65c_grow_92f84 cJx4a65c_grow_92f84 4 (some (.array (.object "java/lang/Object"))), .fieldLink RJx4a65c 39 "java/util/ArrayList" "DEFAULTCAPACITY_EMPTY_ELEMENTDATA" "[Ljava/lang/Object;", .methodLink RJx4a65c 79 Lib.Math.max.name, .static Lib.Math.max.name, .initialized "java/lang/Math", .code Lib.Math.max.name Lib.Math.max.code 2 (some .int), .classLink RJx4a65c 7 "java/lang/Object"]
def wzJx4a65c_add_9ea2d : List Cond := wzEJx4a65c_add_9ea2d ++ (u_ws RJx4a65c TJx4a65c 3)
theorem zgEJx4a65c_add_9ea2d : wzEJx4a65c_add_9ea2d.all goodWord = true := by decide +kernel
theorem zuJx4a65c_add_9ea2d_Jx4a65c : ∀ w ∈ u_ws RJx4a65c TJx4a65c 3, w ∈ wzJx4a65c_add_9ea2d := (fun _ h => (List.mem_append_right _ h))
theorem gzJx4a65c_add_9ea2d_Jx4a65c_add_72be8_131 : GoodIn wzJx4a65c_add_9ea2d (wsV RJx4a65c 131 RJx4a65c yJx4a65c_add_72be8 wzJx4a65c_add_72be8) := (goodIn_app (z_lift (goodIn_r _ [5, 6, 7, 8] rfl (by decide +kernel))) (goodIn_app (z_lift (goodIn_r wzEJx4a65c_add_72be8 [9, 10, 11, 12, 8, 13, 4, 14, 15, 16, 17, 3, 18, 19, 20, 21, 22, 23] rfl zgEJx4a65c_add_72be8)) (goodIn_sub (fun _ h => (List.mem_append_right _ h)) zgU_Jx4a65c)))
set_option maxHeartbeats 4000000 in
set_option maxRecDepth 100000 in
theorem zc_Jx4a65c_add_9ea2d (l : Launch) (D : va_G) (G : Nat × Nat × Nat) (li : Nat) (ng : Nat) (lo : Int32) (hi : Int32) (xe : Int32) (co : Int32) (sz : Nat) : Met l yJx4a65c_add_9ea2d wzJx4a65c_add_9ea2d ({ frames := 4, cells := 1, slots := 10, locals := 88 }) (va_Pc [.ref li, .ref ng] (p_RW D G [] [(li, .inr (4, [.int 0, .ref G.1, .int 0])), (ng, .inr (12, [.int lo, .int hi, .int xe, .int co]))] sz)) (va_Qi (fun (r : Int32) (u : Unit) => r = 1) (fun (u : Unit) (t : State) => ∃ (na : Nat), q_RW D [] [(li, .inr (4, [.int 1, .ref na, .int 1]))] (va_A [(li, .inr (4, [.int 0, .ref G.1, .int 0])), (ng, .inr (12, [.int lo, .int hi, .int xe, .int co]))] sz) t) (va_A [(li, .inr (4, [.int 0, .ref G.1, .int 0])), (ng, .inr (12, [.int lo, .int hi, .int xe, .int co]))] sz)) 1 10 (va_A [(li, .inr (4, [.int 0, .ref G.1, .int 0])), (ng, .inr (12, [.int lo, .int hi, .int xe, .int co]))] sz) := by
  refine Met.ofW (cc := cJx4a65c_add_9ea2d) (maxL := 2) (ret := (some .boolean)) (by decide) rfl ?_
  intro p e s m args below meth c s₁ B hml hv
  obtain ⟨rfl, hsz, hP, hK, hD0, hT, hZ⟩ := hv
  have hx := B.exec
  have hb := B.bytes
  have hr := B.returns
  have hts := atoms_spec (ws := wzJx4a65c_add_9ea2d) B.pre
  have hown : s.vm.findClass RJx4a65c = some m.cls := findClass_of_methodNamed B.named
  have hlocks := B.notSynchronized
  subst hsz
  have hD := hD0.self (sz := s.heap.size)
  generalize hAe : va_A [(li, .inr (4, [.int 0, .ref G.1, .int 0])), (ng, .inr (12, [.int lo, .int hi, .int xe, .int co]))] s.heap.size = A at hD hZ ⊢
  have hA : ∀ q : Nat, s.heap.size ≤ q → A q := fun q h => by rw [← hAe]; exact Or.inr h
  have hS : va_S A s.heap s.heap [] := va_S.rf
  have hl := lv_entry ([.ref li, .ref ng]) (n := 2) (Nat.le_of_ble_eq_true rfl)
  rw [lg_entry_eq]
  generalize (lg_sl ([.ref li, .ref ng]) ++ List.replicate (2 - (lg_sl ([.ref li, .ref ng])).length) Slot.unset).toArray = ls at hl ⊢
  have hl : lv_has ls 2 [(0, .ref li), (1, .ref ng)] := hl
  refine lv_aload_n hx hb dJx4a65c_add_9ea2d_0 rfl (lv_at hl 0 rfl) ?_
  refine lv_dup hx hb dJx4a65c_add_9ea2d_1 rfl ?_
  refine va_get (D := D) (cl := vwCl) (ci := 4) (v := .int 0) (C := RJx4a65c) (T := TJx4a65c) (N := 3) hx hb hts zuJx4a65c_add_9ea2d_Jx4a65c hown hK hP 0 rfl rfl 0 (by decide) (hts (.fieldLink RJx4a65c 63 "java/util/ArrayList" "modCount" "I") (by decide +kernel)) (fun x9 h9 => u_same (hts (.sameField "java/util/ArrayList" "java/util/AbstractList" "modCount" "I") (by decide +kernel)) x9 h9) rfl dJx4a65c_add_9ea2d_2 ?_
  refine lv_iconst (v := 1) hx hb dJx4a65c_add_9ea2d_5 (by decide) ?_
  refine lv_iadd hx hb dJx4a65c_add_9ea2d_6 ?_
  refine lv_topi (fun y_678 ey_678 => ?_)
  have ey_678 : y_678 = 1 := ey_678.trans (by decide +kernel)
  subst ey_678
  refine va_put (D := D) (cl := vwCl) (ci := 4) (v := .int 1) (ty := .int) (C := RJx4a65c) (T := TJx4a65c) (N := 3) hx hb hts zuJx4a65c_add_9ea2d_Jx4a65c tyJx4a65c tyJx4a65c_ok nmJx4a65c hown hK hP hD hS 0 rfl rfl 0 (by decide) (hts (.fieldLink RJx4a65c 63 "java/util/ArrayList" "modCount" "I") (by decide +kernel)) (fun x9 h9 => u_same (hts (.sameField "java/util/ArrayList" "java/util/AbstractList" "modCount" "I") (by decide +kernel)) x9 h9) rfl (by decide +kernel) rfl rfl (Nat.le_of_ble_eq_true rfl) dJx4a65c_add_9ea2d_7 (fun H locs hP hD hS => ?_)
  have hP : va_P D vwCl [(li, .inr (4, [.int 1, .ref G.1, .int 0])), (ng, .inr (12, [.int lo, .int hi, .int xe, .int co]))] H := hP
  have hD : va_D A [(li, .inr (4, [.int 1, .ref G.1, .int 0])), (ng, .inr (12, [.int lo, .int hi, .int xe, .int co]))] := hD
  refine lv_aload_n hx hb dJx4a65c_add_9ea2d_10 rfl (lv_at hl 0 rfl) ?_
  refine lv_aload_n hx hb dJx4a65c_add_9ea2d_11 rfl (lv_at hl 1 rfl) ?_
  refine lv_aload_n hx hb dJx4a65c_add_9ea2d_12 rfl (lv_at hl 0 rfl) ?_
  refine va_get (D := D) (cl := vwCl) (ci := 4) (v := .ref G.1) (C := RJx4a65c) (T := TJx4a65c) (N := 3) hx hb hts zuJx4a65c_add_9ea2d_Jx4a65c hown hK hP 0 rfl rfl 1 (by decide) (hts (.fieldLink RJx4a65c 9 "java/util/ArrayList" "elementData" "[Ljava/lang/Object;") (by decide +kernel)) (fun _ h9 => h9) rfl dJx4a65c_add_9ea2d_13 ?_
  refine lv_aload_n hx hb dJx4a65c_add_9ea2d_16 rfl (lv_at hl 0 rfl) ?_
  refine va_get (D := D) (cl := vwCl) (ci := 4) (v := .int 0) (C := RJx4a65c) (T := TJx4a65c) (N := 3) hx hb hts zuJx4a65c_add_9ea2d_Jx4a65c hown hK hP 0 rfl rfl 2 (by decide) (hts (.fieldLink RJx4a65c 48 "java/util/ArrayList" "size" "I") (by decide +kernel)) (fun _ h9 => h9) rfl dJx4a65c_add_9ea2d_17 ?_
  have hFc := va_free (wc := [(li, .inr (4, [.int 1, .ref G.1, .int 0])), (ng, .inr (12, [.int lo, .int hi, .int xe, .int co]))]) hD hS hA [0, 1] rfl
  refine va_callv (va_runV (As := [.ref ng, .ref G.1, .int 0]) (rest := []) ⟨hx, hb, hml, hown, hts⟩ (zc_Jx4a65c_add_72be8 l D G li 1 ng lo hi xe co H.size) (cwV 3 hts gzJx4a65c_add_9ea2d_Jx4a65c_add_72be8_131 rfl rfl rfl (by decide +kernel) ⟨(Nat.le_of_ble_eq_true rfl), (Nat.le_of_ble_eq_true rfl)⟩) ⟨p_RW_blind, va_recv hK hP (ci := 4) (q0 := 0) rfl rfl, (p_RW_at (tc := []) (wc := [(li, .inr (4, [.int 1, .ref G.1, .int 0])), (ng, .inr (12, [.int lo, .int hi, .int xe, .int co]))]) hP hK hD hS hA hT hZ [0, 1] [] rfl rfl (by decide) rfl [.ref li, .ref ng, .ref G.1, .int 0])⟩ rfl rfl hl.1 rfl (lv_room (Nat.le_of_ble_eq_true rfl)) dJx4a65c_add_9ea2d_20 ⟨(Nat.le_of_ble_eq_true rfl), (Nat.le_of_ble_eq_true rfl)⟩) hS (fun q _ h => hFc q h) hFc (fun u t H locs ht hvm w_680 hB hz1 hk1 hS => ?_)
  obtain ⟨v_681, hB⟩ := hB
  obtain ⟨hP, hD, hK⟩ := q_join (D := D) (wc := [(li, .inr (4, [.int 1, .ref G.1, .int 0])), (ng, .inr (12, [.int lo, .int hi, .int xe, .int co]))]) (wr := []) (w1 := [(li, .inr (4, [.int 1, .ref v_681, .int 1]))]) (tyr := []) (ty1 := []) hP hD hK [0, 1] [] [] rfl rfl (by decide) (by decide) rfl hFc hk1 ht hvm hB
  have hP : va_P D vwCl [(li, .inr (4, [.int 1, .ref v_681, .int 1]))] H := hP
  have hD : va_D A [(li, .inr (4, [.int 1, .ref v_681, .int 1]))] := hD
  have hK : va_K D vwCl [] s := hK
  refine W.widen (k := 1) (n := 10) (Nat.le_of_ble_eq_true rfl) (Nat.le_of_ble_eq_true rfl) ?_
  refine lv_iconst (v := 1) hx hb dJx4a65c_add_9ea2d_23 (by decide) ?_
  exact W.zret (v := 1) hx hb hr rfl (fun t ht hW => ⟨⟨1, (), rfl, rfl, ⟨v_681, q_RW_mk hP hK hD [0] [] rfl rfl (by decide) rfl ht hW.alike⟩⟩, hS.F ht⟩) hS.2.2 dJx4a65c_add_9ea2d_24
