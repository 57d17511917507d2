theorem dL_at_0 : decode cL_at 0 = .ok (.iload_n 1, 1) := by decide +kernel
theorem dL_at_1 : decode cL_at 1 = .ok (.aload_n 0, 1) := by decide +kernel
theorem dL_at_2 : decode cL_at 2 = .ok (.arraylength, 1) := by decide +kernel
theorem dL_at_3 : decode cL_at 3 = .ok (.if_icmp .ge 9, 3) := by decide +kernel
theorem dL_at_12 : decode cL_at 12 = .ok (.iconst 0, 1) := by decide +kernel
theorem dL_at_13 : decode cL_at 13 = .ok (.ireturn, 1) := by decide +kernel
theorem dL_at_6 : decode cL_at 6 = .ok (.aload_n 0, 1) := by decide +kernel
theorem dL_at_7 : decode cL_at 7 = .ok (.iload_n 1, 1) := by decide +kernel
theorem dL_at_8 : decode cL_at 8 = .ok (.iaload, 1) := by decide +kernel
theorem dL_at_9 : decode cL_at 9 = .ok (.goto 4, 3) := by decide +kernel
def wzEL_at : List Cond := [.code yL_at cL_at 2 (some .int)]
def wzL_at : List Cond := wzEL_at ++ []
theorem zgEL_at : wzEL_at.all goodWord = true := by decide +kernel
set_option maxHeartbeats 4000000 in
set_option maxRecDepth 100000 in
theorem zc_L_at (l : Launch) (D : va_G) (G : Nat × Nat × (Nat → Int32)) (i : Nat) (sz : Nat) (hL : G.2.1 < 2 ^ 31) (hh_i : i ≤ 300) : Met l yL_at wzL_at ({ frames := 0, cells := 0, slots := 0, locals := 0 }) (va_Pc [.ref G.1, .int (nI i)] (p_RW D G [] [] sz)) (va_Qi (fun (r : Int32) (u : Unit) => True) (fun (u : Unit) (t : State) => q_RW D [] [] (va_A [] sz) t) (va_A [] sz)) 0 0 (va_A [] sz) := by
  refine Met.ofW (cc := cL_at) (maxL := 2) (ret := (some .int)) (by decide) rfl ?_
  intro p e s m args below meth c s₁ B hml hv
  obtain ⟨rfl, hsz, hP, hK, hD0, hT, hZ⟩ := hv
  have hx := B.exec
  have hb := B.bytes
  have hr := B.returns
  have hts := atoms_spec (ws := wzL_at) B.pre
  have hown : s.vm.findClass RL = some m.cls := findClass_of_methodNamed B.named
  have hlocks := B.notSynchronized
  subst hsz
  have hD := hD0.self (sz := s.heap.size)
  generalize hAe : va_A [] s.heap.size = A at hD hZ ⊢
  have hA : ∀ q : Nat, s.heap.size ≤ q → A q := fun q h => by rw [← hAe]; exact Or.inr h
  have hS : va_S A s.heap s.heap [] := va_S.rf
  have hl := lv_entry ([.ref G.1, .int (nI i)]) (n := 2) (Nat.le_of_ble_eq_true rfl)
  rw [lg_entry_eq]
  generalize (lg_sl ([.ref G.1, .int (nI i)]) ++ List.replicate (2 - (lg_sl ([.ref G.1, .int (nI i)])).length) Slot.unset).toArray = ls at hl ⊢
  have hl : lv_has ls 2 [(0, .ref G.1), (1, .int (nI i))] := hl
  refine lv_iload_n hx hb dL_at_0 rfl (lv_at hl 1 rfl) ?_
  refine lv_aload_n hx hb dL_at_1 rfl (lv_at hl 0 rfl) ?_
  refine va_tlen hx hb hZ.2.2 hS (v := Int32.ofNat G.2.1) rfl dL_at_2 ?_
  refine lv_icmp_ge (tgt := 12) hx hb dL_at_3 (by decide) (fun c_1189 => ?_) (fun c_1189 => ?_)
  · refine lv_iconst (v := 0) hx hb dL_at_12 (by decide) ?_
    exact W.iret (v := 0) hx hb hr (fun t ht hW => ⟨⟨0, (), rfl, trivial, q_RW_mk hP hK hD [] [] rfl rfl (by decide) rfl ht hW.alike⟩, hS.F ht⟩) hS.2.2 dL_at_13
  · refine lv_aload_n hx hb dL_at_6 rfl (lv_at hl 0 rfl) ?_
    refine lv_iload_n hx hb dL_at_7 rfl (lv_at hl 1 rfl) ?_
    refine va_ti hx hb hZ.2.2 hS (z_scr (k := i) hL (by omega) c_1189) (v := .int (G.2.2 i)) (by rw [show (((nI i) : Int32)).toNatClampNeg = i from nI_clamp (n := i) (by omega)]) dL_at_8 ?_
    refine lv_goto (tgt := 13) hx hb dL_at_9 (by decide) ?_
    exact W.iret (v := (G.2.2 i)) hx hb hr (fun t ht hW => ⟨⟨(G.2.2 i), (), rfl, trivial, q_RW_mk hP hK hD [] [] rfl rfl (by decide) rfl ht hW.alike⟩, hS.F ht⟩) hS.2.2 dL_at_13
theorem dL_some_0 : decode cL_some 0 = .ok (.iload_n 0, 1) := by decide +kernel
theorem dL_some_1 : decode cL_some 1 = .ok (.iload_n 1, 1) := by decide +kernel
theorem dL_some_2 : decode cL_some 2 = .ok (.irem, 1) := by decide +kernel
theorem dL_some_3 : decode cL_some 3 = .ok (.istore_n 2, 1) := by decide +kernel
theorem dL_some_4 : decode cL_some 4 = .ok (.iload_n 2, 1) := by decide +kernel
theorem dL_some_5 : decode cL_some 5 = .ok (.ifCond .ge 9, 3) := by decide +kernel
theorem dL_some_14 : decode cL_some 14 = .ok (.iload_n 2, 1) := by decide +kernel
theorem dL_some_15 : decode cL_some 15 = .ok (.ireturn, 1) := by decide +kernel
theorem dL_some_8 : decode cL_some 8 = .ok (.iload_n 2, 1) := by decide +kernel
theorem dL_some_9 : decode cL_some 9 = .ok (.iload_n 1, 1) := by decide +kernel
theorem dL_some_10 : decode cL_some 10 = .ok (.iadd, 1) := by decide +kernel
theorem dL_some_11 : decode cL_some 11 = .ok (.goto 4, 3) := by decide +kernel
def wzEL_some : List Cond := [.code yL_some cL_some 3 (some .int)]
def wzL_some : List Cond := wzEL_some ++ []
theorem zgEL_some : wzEL_some.all goodWord = true := by decide +kernel
set_option maxHeartbeats 4000000 in
set_option maxRecDepth 100000 in
theorem zc_L_some (l : Launch) (D : va_G) (G : Nat × Nat × (Nat → Int32)) (v : Int32) (n : Nat) (sz : Nat) (hl_n : 1 ≤ n) (hh_n : n ≤ 10000000) : Met l yL_some wzL_some ({ frames := 0, cells := 0, slots := 0, locals := 0 }) (va_Pc [.int v, .int (nI n)] (p_RW D G [] [] sz)) (va_Qi (fun (r : Int32) (u : Nat) => match u with | w => w < n ∧ r = (nI w)) (fun (u : Nat) (t : State) => match u with | w => q_RW D [] [] (va_A [] sz) t) (va_A [] sz)) 0 0 (va_A [] sz) := by
  refine Met.ofW (cc := cL_some) (maxL := 3) (ret := (some .int)) (by decide) rfl ?_
  intro p e s m args below meth c s₁ B hml hv
  obtain ⟨rfl, hsz, hP, hK, hD0, hT, hZ⟩ := hv
  have hx := B.exec
  have hb := B.bytes
  have hr := B.returns
  have hts := atoms_spec (ws := wzL_some) B.pre
  have hown : s.vm.findClass RL = some m.cls := findClass_of_methodNamed B.named
  have hlocks := B.notSynchronized
  subst hsz
  have hD := hD0.self (sz := s.heap.size)
  generalize hAe : va_A [] s.heap.size = A at hD hZ ⊢
  have hA : ∀ q : Nat, s.heap.size ≤ q → A q := fun q h => by rw [← hAe]; exact Or.inr h
  have hS : va_S A s.heap s.heap [] := va_S.rf
  have hl := lv_entry ([.int v, .int (nI n)]) (n := 3) (Nat.le_of_ble_eq_true rfl)
  rw [lg_entry_eq]
  generalize (lg_sl ([.int v, .int (nI n)]) ++ List.replicate (3 - (lg_sl ([.int v, .int (nI n)])).length) Slot.unset).toArray = ls at hl ⊢
  have hl : lv_has ls 3 [(0, .int v), (1, .int (nI n))] := hl
  refine lv_iload_n hx hb dL_some_0 rfl (lv_at hl 0 rfl) ?_
  refine lv_iload_n hx hb dL_some_1 rfl (lv_at hl 1 rfl) ?_
  refine lv_irem hx hb dL_some_2 (nI_ne0 (by omega) (by omega)) ?_
  refine lv_topi (fun y ey => ?_)
  refine lv_istore_n (lv' := [(2, .int y), (0, .int v), (1, .int (nI n))]) hx hb dL_some_3 rfl hl (by decide) rfl (fun ls hl => ?_)
  refine lv_iload_n hx hb dL_some_4 rfl (lv_at hl 0 rfl) ?_
  refine lv_if_ge (tgt := 14) hx hb dL_some_5 (by decide) (fun c_1190 => ?_) (fun c_1190 => ?_)
  · refine lv_iload_n hx hb dL_some_14 rfl (lv_at hl 0 rfl) ?_
    obtain ⟨w, hw, ew⟩ := z_some1 (n := n) (by omega) (by omega) ey c_1190
    subst ew
    exact W.iret (v := (nI w)) hx hb hr (fun t ht hW => ⟨⟨(nI w), w, rfl, ⟨(by first | assumption | exact inR_1 (by assumption) (by assumption) | exact inR_2 (by assumption) (by assumption) | exact inR_3 (by assumption) | exact inR_4 (by assumption) | exact inR_5 (by assumption) | exact ⟨by assumption, by assumption, by assumption, by assumption⟩ | exact ⟨by assumption, by assumption, by assumption⟩ | exact (fun q => absurd q.1 (by assumption)) | exact (fun q => absurd q.2.1 (by assumption)) | exact (fun q => absurd q.2.2 (by assumption)) | exact (fun q => absurd q.2.2.1 (by assumption)) | exact (fun q => absurd q.2.2.2 (by assumption)) | exact isRole_no (by assumption) (by assumption) (by assumption) (by assumption) | exact isRole_nb (by assumption) (by assumption) (by assumption) (by assumption) | exact isRole_out (by assumption) | exact enc_use (by assumption) (by assumption) (by assumption) | exact enc_103 (by assumption) | exact enc_103 (Eq.symm (by assumption)) | exact enc_115 (Eq.symm (by assumption)) | exact enc_102 (Eq.symm (by assumption)) | exact enc_98 (Eq.symm (by assumption)) | exact isRole_nc (by assumption) (by assumption) (by assumption) (by assumption) | exact enc_115 (by assumption) | exact enc_102 (by assumption) | exact enc_98 (by assumption) | exact Or.inr (by assumption) | rfl | exact Or.inl (by assumption) | exact Or.inr (Or.inl (by assumption)) | exact Or.inr (Or.inr (Or.inl (by assumption))) | exact Or.inr (Or.inr (Or.inr (by assumption))) | decide), rfl⟩, q_RW_mk hP hK hD [] [] rfl rfl (by decide) rfl ht hW.alike⟩, hS.F ht⟩) hS.2.2 dL_some_15
  · refine lv_iload_n hx hb dL_some_8 rfl (lv_at hl 0 rfl) ?_
    refine lv_iload_n hx hb dL_some_9 rfl (lv_at hl 2 rfl) ?_
    refine lv_iadd hx hb dL_some_10 ?_
    refine lv_goto (tgt := 15) hx hb dL_some_11 (by decide) ?_
    obtain ⟨w, hw, ew⟩ := z_some2 (n := n) (by omega) (by omega) ey c_1190
    rw [ew]
    exact W.iret (v := (nI w)) hx hb hr (fun t ht hW => ⟨⟨(nI w), w, rfl, ⟨(by first | assumption | exact inR_1 (by assumption) (by assumption) | exact inR_2 (by assumption) (by assumption) | exact inR_3 (by assumption) | exact inR_4 (by assumption) | exact inR_5 (by assumption) | exact ⟨by assumption, by assumption, by assumption, by assumption⟩ | exact ⟨by assumption, by assumption, by assumption⟩ | exact (fun q => absurd q.1 (by assumption)) | exact (fun q => absurd q.2.1 (by assumption)) | exact (fun q => absurd q.2.2 (by assumption)) | exact (fun q => absurd q.2.2.1 (by assumption)) | exact (fun q => absurd q.2.2.2 (by assumption)) | exact isRole_no (by assumption) (by assumption) (by assumption) (by assumption) | exact isRole_nb (by assumption) (by assumption) (by assumption) (by assumption) | exact isRole_out (by assumption) | exact enc_use (by assumption) (by assumption) (by assumption) | exact enc_103 (by assumption) | exact enc_103 (Eq.symm (by assumption)) | exact enc_115 (Eq.symm (by assumption)) | exact enc_102 (Eq.symm (by assumption)) | exact enc_98 (Eq.symm (by assumption)) | exact isRole_nc (by assumption) (by assumption) (by assumption) (by assumption) | exact enc_115 (by assumption) | exact enc_102 (by assumption) | exact enc_98 (by assumption) | exact Or.inr (by assumption) | rfl | exact Or.inl (by assumption) | exact Or.inr (Or.inl (by assumption)) | exact Or.inr (Or.inr (Or.inl (by assumption))) | exact Or.inr (Or.inr (Or.inr (by assumption))) | decide), rfl⟩, q_RW_mk hP hK hD [] [] rfl rfl (by decide) rfl ht hW.alike⟩, hS.F ht⟩) hS.2.2 dL_some_15
def ttL_hasNone : List (Nat × Nat × Nat × Nat) := [(0, 18, 19, 91)]
theorem zgV_X6_284 : ((z_atN RX6 284 "java/util/NoSuchElementException" "java/lang/RuntimeException" ["java/lang/Exception"]).filter goodWord).all goodWord = true := by decide +kernel
theorem dL_hasNone_0 : decode cL_hasNone 0 = .ok (.iload_n 1, 1) := by decide +kernel
theorem dL_hasNone_1 : decode cL_hasNone 1 = .ok (.ifCond .eq 11, 3) := by decide +kernel
theorem dL_hasNone_4 : decode cL_hasNone 4 = .ok (.aload_n 0, 1) := by decide +kernel
theorem dL_hasNone_5 : decode cL_hasNone 5 = .ok (.invokevirtual 158, 3) := by decide +kernel
theorem dL_hasNone_19 : decode cL_hasNone 19 = .ok (.astore_n 2, 1) := by decide +kernel
theorem dL_hasNone_20 : decode cL_hasNone 20 = .ok (.iconst 1, 1) := by decide +kernel
theorem dL_hasNone_21 : decode cL_hasNone 21 = .ok (.ireturn, 1) := by decide +kernel
def wzEL_hasNone_1 : List Cond := [.codeWith yL_hasNone cL_hasNone 4 (some .boolean) ttL_hasNone, .methodLink RL 158 yX6_wholeShare, .instanceMethod yX6_wholeShare, .selects RX6 yX6_wholeShare yX6_wholeShare, .initialized RX6, .code yX6_wholeShare cX6_wholeShare 2 (some .float), .fieldLink RX6 34 "Gatherhouse" "pieceCount" "I", .classLink RX6 280 "java/util/NoSuchElementException", .initialized "java/util/NoSuchElementException", .classLink RL 91 "java/util/NoSuchElementException"]
def wzL_hasNone_1 : List Cond := wzEL_hasNone_1 ++ (u_ws RX6 TX6 16 ++ ((z_atN RX6 284 "java/util/NoSuchElementException" "java/lang/RuntimeException" ["java/lang/Exception"]).filter goodWord))
theorem zgEL_hasNone_1 : wzEL_hasNone_1.all goodWord = true := by decide +kernel
theorem zuL_hasNone_1_X6 : ∀ w ∈ u_ws RX6 TX6 16, w ∈ wzL_hasNone_1 := (fun _ h => (List.mem_append_right _ (List.mem_append_left _ h)))
theorem ztL_hasNone_1_X6_284 : ∀ w ∈ (z_atN RX6 284 "java/util/NoSuchElementException" "java/lang/RuntimeException" ["java/lang/Exception"]).filter goodWord, w ∈ wzL_hasNone_1 := (fun _ h => (List.mem_append_right _ (List.mem_append_right _ h)))
theorem gzL_hasNone_1_X6_wholeShare_158 : GoodIn wzL_hasNone_1 (wsV RL 158 RX6 yX6_wholeShare wzX6_wholeShare) := (goodIn_app (z_lift (goodIn_r _ [1, 2, 3, 4] rfl (by decide +kernel))) (goodIn_app (z_lift (goodIn_r wzEX6_wholeShare [5, 6, 7, 8] rfl zgEX6_wholeShare)) (goodIn_app (goodIn_sub (fun _ h => (List.mem_append_right _ (List.mem_append_left _ h))) zgU_X6) (goodIn_sub (fun _ h => (List.mem_append_right _ (List.mem_append_right _ h))) zgV_X6_284))))
set_option maxHeartbeats 4000000 in
set_option maxRecDepth 100000 in
theorem zc_L_hasNone_1 (l : Launch) (hnt : l.stackTraces = false) (D : va_G) (G : Nat × Nat × (Nat → Int32)) (xo : Nat) (xg : Nat) (xp : Nat) (xq : Nat) (r1 : Nat) (r2 : Nat) (r3 : Nat) (r4 : Nat) (se : Nat) (sz : Nat) : vx_Met l yL_hasNone wzL_hasNone_1 ({ frames := 7, cells := 1, slots := 6, locals := 103 }) (va_Pc [.ref xo, .int 1] (p_RW D G [] [(xo, .inr (6, [.ref xg, .int 0, .ref xp, .int 0, .ref xq, .int 0, .ref r1, .ref r2, .ref r3, .ref r4, .ref se, .int 0, .int 0, .int 40, .int 0, .int 0]))] sz)) (va_Qi (fun (r : Int32) (u : Unit) => r = 1) (fun (u : Unit) (t : State) => q_RW D [] [(xo, .inr (6, [.ref xg, .int 0, .ref xp, .int 0, .ref xq, .int 0, .ref r1, .ref r2, .ref r3, .ref r4, .ref se, .int 0, .int 0, .int 40, .int 0, .int 0]))] (va_A [(xo, .inr (6, [.ref xg, .int 0, .ref xp, .int 0, .ref xq, .int 0, .ref r1, .ref r2, .ref r3, .ref r4, .ref se, .int 0, .int 0, .int 40, .int 0, .int 0]))] sz) t) (va_A [(xo, .inr (6, [.ref xg, .int 0, .ref xp, .int 0, .ref xq, .int 0, .ref r1, .ref r2, .ref r3, .ref r4, .ref se, .int 0, .int 0, .int 40, .int 0, .int 0]))] sz)) (vx_X (fun (_ : Unit) => True) (fun E (_ : Unit) (_ : State) => False) (va_A [(xo, .inr (6, [.ref xg, .int 0, .ref xp, .int 0, .ref xq, .int 0, .ref r1, .ref r2, .ref r3, .ref r4, .ref se, .int 0, .int 0, .int 40, .int 0, .int 0]))] sz)) 1 6 (va_A [(xo, .inr (6, [.ref xg, .int 0, .ref xp, .int 0, .ref xq, .int 0, .ref r1, .ref r2, .ref r3, .ref r4, .ref se, .int 0, .int 0, .int 40, .int 0, .int 0]))] sz) := by
  refine vx_ofWH (cc := cL_hasNone) (maxL := 4) (ret := (some .boolean)) (by decide) rfl ?_
  intro p e s m args below meth c s₁ B hml hv
  obtain ⟨rfl, hsz, hP, hK, hD0, hT, hZ⟩ := hv
  have hx := B.exec
  have hb := B.bytes
  have hr := B.returns
  have hts := atoms_spec (ws := wzL_hasNone_1) B.pre
  have hown : s.vm.findClass RL = some m.cls := findClass_of_methodNamed B.named
  have hlocks := B.notSynchronized
  have hxe := vx_table (x := yL_hasNone) B (hts _ List.mem_cons_self)
  subst hsz
  have hD := hD0.self (sz := s.heap.size)
  generalize hAe : va_A [(xo, .inr (6, [.ref xg, .int 0, .ref xp, .int 0, .ref xq, .int 0, .ref r1, .ref r2, .ref r3, .ref r4, .ref se, .int 0, .int 0, .int 40, .int 0, .int 0]))] s.heap.size = A at hD hZ ⊢
  have hA : ∀ q : Nat, s.heap.size ≤ q → A q := fun q h => by rw [← hAe]; exact Or.inr h
  have hS : va_S A s.heap s.heap [] := va_S.rf
  have hl := lv_entry ([.ref xo, .int 1]) (n := 4) (Nat.le_of_ble_eq_true rfl)
  rw [lg_entry_eq]
  generalize (lg_sl ([.ref xo, .int 1]) ++ List.replicate (4 - (lg_sl ([.ref xo, .int 1])).length) Slot.unset).toArray = ls at hl ⊢
  have hl : lv_has ls 4 [(0, .ref xo), (1, .int 1)] := hl
  refine lv_iload_n hx hb dL_hasNone_0 rfl (lv_at hl 1 rfl) ?_
  refine lv_if_eq (tgt := 12) hx hb dL_hasNone_1 (by decide) (fun cc => absurd cc (by decide)) (fun _ => ?_)
  refine lv_aload_n hx hb dL_hasNone_4 rfl (lv_at hl 0 rfl) ?_
  have hFc := va_free (wc := [(xo, .inr (6, [.ref xg, .int 0, .ref xp, .int 0, .ref xq, .int 0, .ref r1, .ref r2, .ref r3, .ref r4, .ref se, .int 0, .int 0, .int 40, .int 0, .int 0]))]) hD hS hA [0] rfl
  refine vx_callf (vx_runV (As := []) (rest := []) ⟨hx, hb, hml, hown, hts⟩ (zc_X6_wholeShare l hnt D G xo xg xp xq r1 r2 r3 r4 se s.heap.size) (cwV 0 hts gzL_hasNone_1_X6_wholeShare_158 rfl rfl rfl (by decide +kernel) ⟨(Nat.le_of_ble_eq_true rfl), (Nat.le_of_ble_eq_true rfl)⟩) ⟨p_RW_blind, va_recv hK hP (ci := 6) (q0 := 0) rfl rfl, (p_RW_at (tc := []) (wc := [(xo, .inr (6, [.ref xg, .int 0, .ref xp, .int 0, .ref xq, .int 0, .ref r1, .ref r2, .ref r3, .ref r4, .ref se, .int 0, .int 0, .int 40, .int 0, .int 0]))]) hP hK hD hS hA hT hZ [0] [] rfl rfl (by decide) rfl [.ref xo])⟩ rfl rfl hl.1 rfl (lv_room (Nat.le_of_ble_eq_true rfl)) dL_hasNone_5 ⟨(Nat.le_of_ble_eq_true rfl), (Nat.le_of_ble_eq_true rfl)⟩) hS (fun q _ h => hFc q h) hFc (fun q _ h => hFc q h) (fun E ce q9 u t H locs ht hvm hpx hBX hz1 hk1 hS hce hcv hcl => ?_) (fun r_1191 u t H locs ht hvm w_1192 hB hz1 hk1 hS => ?_)
  · obtain ⟨hBX, hB⟩ := hBX
    obtain ⟨hP, hD, hK⟩ := q_join (D := D) (wc := [(xo, .inr (6, [.ref xg, .int 0, .ref xp, .int 0, .ref xq, .int 0, .ref r1, .ref r2, .ref r3, .ref r4, .ref se, .int 0, .int 0, .int 40, .int 0, .int 0]))]) (wr := []) (w1 := [(xo, .inr (6, [.ref xg, .int 0, .ref xp, .int 0, .ref xq, .int 0, .ref r1, .ref r2, .ref r3, .ref r4, .ref se, .int 0, .int 0, .int 40, .int 0, .int 0]))]) (tyr := []) (ty1 := []) hP hD hK [0] [] [] rfl rfl (by decide) (by decide) rfl hFc hk1 ht hvm hB
    have hP : va_P D vwCl [(xo, .inr (6, [.ref xg, .int 0, .ref xp, .int 0, .ref xq, .int 0, .ref r1, .ref r2, .ref r3, .ref r4, .ref se, .int 0, .int 0, .int 40, .int 0, .int 0]))] H := hP
    have hD : va_D A [(xo, .inr (6, [.ref xg, .int 0, .ref xp, .int 0, .ref xq, .int 0, .ref r1, .ref r2, .ref r3, .ref r4, .ref se, .int 0, .int 0, .int 40, .int 0, .int 0]))] := hD
    have hK : va_K D vwCl [] s := hK
    have hBX : (E = "java/util/NoSuchElementException") := hBX
    rcases hBX with rfl
    refine z_catch (own := RL) (name := "java/util/NoSuchElementException") (hh := ttL_hasNone) (x := ⟨0, 18, 19, 91⟩) hown hxe 0 rfl [] (by decide +kernel) (fun _ h => absurd h List.not_mem_nil) (by decide) (by decide) (hts (.classLink RL 91 "java/util/NoSuchElementException") (by decide +kernel)) (va_Nw.use rfl (hT.2.2.1 ("java/util/NoSuchElementException", "java/util/NoSuchElementException") (by decide +kernel))) hce hcv hcl ?_
    refine W.eq (g2 := F0 m 19 ls [.ref q9]) rfl ?_
    refine lv_astore_n (lv' := [(2, .ref q9), (0, .ref xo), (1, .int 1)]) hx hb dL_hasNone_19 rfl hl (by decide) rfl (fun ls hl => ?_)
    refine lv_iconst (v := 1) hx hb dL_hasNone_20 (by decide) ?_
    refine vx_ret ?_
    exact W.zret (v := 1) hx hb hr rfl (fun t ht hW => ⟨⟨1, (), rfl, rfl, q_RW_mk hP hK hD [0] [] rfl rfl (by decide) rfl ht hW.alike⟩, hS.F ht⟩) hS.2.2 dL_hasNone_21
  · exact w_1192.elim
theorem dL_hasNone_12 : decode cL_hasNone 12 = .ok (.aload_n 0, 1) := by decide +kernel
theorem dL_hasNone_13 : decode cL_hasNone 13 = .ok (.invokevirtual 162, 3) := by decide +kernel
def wzEL_hasNone_0 : List Cond := [.codeWith yL_hasNone cL_hasNone 4 (some .boolean) ttL_hasNone, .methodLink RL 162 yX6_meanMass, .instanceMethod yX6_meanMass, .selects RX6 yX6_meanMass yX6_meanMass, .initialized RX6, .code yX6_meanMass cX6_meanMass 6 (some .double), .fieldLink RX6 34 "Gatherhouse" "pieceCount" "I", .classLink RX6 280 "java/util/NoSuchElementException", .initialized "java/util/NoSuchElementException", .classLink RL 91 "java/util/NoSuchElementException"]
def wzL_hasNone_0 : List Cond := wzEL_hasNone_0 ++ (u_ws RX6 TX6 16 ++ ((z_atN RX6 284 "java/util/NoSuchElementException" "java/lang/RuntimeException" ["java/lang/Exception"]).filter goodWord))
theorem zgEL_hasNone_0 : wzEL_hasNone_0.all goodWord = true := by decide +kernel
theorem zuL_hasNone_0_X6 : ∀ w ∈ u_ws RX6 TX6 16, w ∈ wzL_hasNone_0 := (fun _ h => (List.mem_append_right _ (List.mem_append_left _ h)))
theorem ztL_hasNone_0_X6_284 : ∀ w ∈ (z_atN RX6 284 "java/util/NoSuchElementException" "java/lang/RuntimeException" ["java/lang/Exception"]).filter goodWord, w ∈ wzL_hasNone_0 := (fun _ h => (List.mem_append_right _ (List.mem_append_right _ h)))
theorem gzL_hasNone_0_X6_meanMass_162 : GoodIn wzL_hasNone_0 (wsV RL 162 RX6 yX6_meanMass wzX6_meanMass) := (goodIn_app (z_lift (goodIn_r _ [1, 2, 3, 4] rfl (by decide +kernel))) (goodIn_app (z_lift (goodIn_r wzEX6_meanMass [5, 6, 7, 8] rfl zgEX6_meanMass)) (goodIn_app (goodIn_sub (fun _ h => (List.mem_append_right _ (List.mem_append_left _ h))) zgU_X6) (goodIn_sub (fun _ h => (List.mem_append_right _ (List.mem_append_right _ h))) zgV_X6_284))))
set_option maxHeartbeats 4000000 in
set_option maxRecDepth 100000 in
theorem zc_L_hasNone_0 (l : Launch) (hnt : l.stackTraces = false) (D : va_G) (G : Nat × Nat × (Nat → Int32)) (xo : Nat) (xg : Nat) (xp : Nat) (xq : Nat) (r1 : Nat) (r2 : Nat) (r3 : Nat) (r4 : Nat) (se : Nat) (sz : Nat) : vx_Met l yL_hasNone wzL_hasNone_0 ({ frames := 7, cells := 1, slots := 6, locals := 107 }) (va_Pc [.ref xo, .int 0] (p_RW D G [] [(xo, .inr (6, [.ref xg, .int 0, .ref xp, .int 0, .ref xq, .int 0, .ref r1, .ref r2, .ref r3, .ref r4, .ref se, .int 0, .int 0, .int 40, .int 0, .int 0]))] sz)) (va_Qi (fun (r : Int32) (u : Unit) => r = 1) (fun (u : Unit) (t : State) => q_RW D [] [(xo, .inr (6, [.ref xg, .int 0, .ref xp, .int 0, .ref xq, .int 0, .ref r1, .ref r2, .ref r3, .ref r4, .ref se, .int 0, .int 0, .int 40, .int 0, .int 0]))] (va_A [(xo, .inr (6, [.ref xg, .int 0, .ref xp, .int 0, .ref xq, .int 0, .ref r1, .ref r2, .ref r3, .ref r4, .ref se, .int 0, .int 0, .int 40, .int 0, .int 0]))] sz) t) (va_A [(xo, .inr (6, [.ref xg, .int 0, .ref xp, .int 0, .ref xq, .int 0, .ref r1, .ref r2, .ref r3, .ref r4, .ref se, .int 0, .int 0, .int 40, .int 0, .int 0]))] sz)) (vx_X (fun (_ : Unit) => True) (fun E (_ : Unit) (_ : State) => False) (va_A [(xo, .inr (6, [.ref xg, .int 0, .ref xp, .int 0, .ref xq, .int 0, .ref r1, .ref r2, .ref r3, .ref r4, .ref se, .int 0, .int 0, .int 40, .int 0, .int 0]))] sz)) 1 6 (va_A [(xo, .inr (6, [.ref xg, .int 0, .ref xp, .int 0, .ref xq, .int 0, .ref r1, .ref r2, .ref r3, .ref r4, .ref se, .int 0, .int 0, .int 40, .int 0, .int 0]))] sz) := by
  refine vx_ofWH (cc := cL_hasNone) (maxL := 4) (ret := (some .boolean)) (by decide) rfl ?_
  intro p e s m args below meth c s₁ B hml hv
  obtain ⟨rfl, hsz, hP, hK, hD0, hT, hZ⟩ := hv
  have hx := B.exec
  have hb := B.bytes
  have hr := B.returns
  have hts := atoms_spec (ws := wzL_hasNone_0) B.pre
  have hown : s.vm.findClass RL = some m.cls := findClass_of_methodNamed B.named
  have hlocks := B.notSynchronized
  have hxe := vx_table (x := yL_hasNone) B (hts _ List.mem_cons_self)
  subst hsz
  have hD := hD0.self (sz := s.heap.size)
  generalize hAe : va_A [(xo, .inr (6, [.ref xg, .int 0, .ref xp, .int 0, .ref xq, .int 0, .ref r1, .ref r2, .ref r3, .ref r4, .ref se, .int 0, .int 0, .int 40, .int 0, .int 0]))] s.heap.size = A at hD hZ ⊢
  have hA : ∀ q : Nat, s.heap.size ≤ q → A q := fun q h => by rw [← hAe]; exact Or.inr h
  have hS : va_S A s.heap s.heap [] := va_S.rf
  have hl := lv_entry ([.ref xo, .int 0]) (n := 4) (Nat.le_of_ble_eq_true rfl)
  rw [lg_entry_eq]
  generalize (lg_sl ([.ref xo, .int 0]) ++ List.replicate (4 - (lg_sl ([.ref xo, .int 0])).length) Slot.unset).toArray = ls at hl ⊢
  have hl : lv_has ls 4 [(0, .ref xo), (1, .int 0)] := hl
  refine lv_iload_n hx hb dL_hasNone_0 rfl (lv_at hl 1 rfl) ?_
  refine lv_if_eq (tgt := 12) hx hb dL_hasNone_1 (by decide) (fun _ => ?_) (fun cc => absurd (by decide) cc)
  refine lv_aload_n hx hb dL_hasNone_12 rfl (lv_at hl 0 rfl) ?_
  have hFc := va_free (wc := [(xo, .inr (6, [.ref xg, .int 0, .ref xp, .int 0, .ref xq, .int 0, .ref r1, .ref r2, .ref r3, .ref r4, .ref se, .int 0, .int 0, .int 40, .int 0, .int 0]))]) hD hS hA [0] rfl
  refine vx_calld (vx_runV (As := []) (rest := []) ⟨hx, hb, hml, hown, hts⟩ (zc_X6_meanMass l hnt D G xo xg xp xq r1 r2 r3 r4 se s.heap.size) (cwV 0 hts gzL_hasNone_0_X6_meanMass_162 rfl rfl rfl (by decide +kernel) ⟨(Nat.le_of_ble_eq_true rfl), (Nat.le_of_ble_eq_true rfl)⟩) ⟨p_RW_blind, va_recv hK hP (ci := 6) (q0 := 0) rfl rfl, (p_RW_at (tc := []) (wc := [(xo, .inr (6, [.ref xg, .int 0, .ref xp, .int 0, .ref xq, .int 0, .ref r1, .ref r2, .ref r3, .ref r4, .ref se, .int 0, .int 0, .int 40, .int 0, .int 0]))]) hP hK hD hS hA hT hZ [0] [] rfl rfl (by decide) rfl [.ref xo])⟩ rfl rfl hl.1 rfl (lv_room (Nat.le_of_ble_eq_true rfl)) dL_hasNone_13 ⟨(Nat.le_of_ble_eq_true rfl), (Nat.le_of_ble_eq_true rfl)⟩) hS (fun q _ h => hFc q h) hFc (fun q _ h => hFc q h) (fun E ce q9 u t H locs ht hvm hpx hBX hz1 hk1 hS hce hcv hcl => ?_) (fun r_1193 u t H locs ht hvm w_1194 hB hz1 hk1 hS => ?_)
  · obtain ⟨hBX, hB⟩ := hBX
    obtain ⟨hP, hD, hK⟩ := q_join (D := D) (wc := [(xo, .inr (6, [.ref xg, .int 0, .ref xp, .int 0, .ref xq, .int 0, .ref r1, .ref r2, .ref r3, .ref r4, .ref se, .int 0, .int 0, .int 40, .int 0, .int 0]))]) (wr := []) (w1 := [(xo, .inr (6, [.ref xg, .int 0, .ref xp, .int 0, .ref xq, .int 0, .ref r1, .ref r2, .ref r3, .ref r4, .ref se, .int 0, .int 0, .int 40, .int 0, .int 0]))]) (tyr := []) (ty1 := []) hP hD hK [0] [] [] rfl rfl (by decide) (by decide) rfl hFc hk1 ht hvm hB
    have hP : va_P D vwCl [(xo, .inr (6, [.ref xg, .int 0, .ref xp, .int 0, .ref xq, .int 0, .ref r1, .ref r2, .ref r3, .ref r4, .ref se, .int 0, .int 0, .int 40, .int 0, .int 0]))] H := hP
    have hD : va_D A [(xo, .inr (6, [.ref xg, .int 0, .ref xp, .int 0, .ref xq, .int 0, .ref r1, .ref r2, .ref r3, .ref r4, .ref se, .int 0, .int 0, .int 40, .int 0, .int 0]))] := hD
    have hK : va_K D vwCl [] s := hK
    have hBX : (E = "java/util/NoSuchElementException") := hBX
    rcases hBX with rfl
    refine z_catch (own := RL) (name := "java/util/NoSuchElementException") (hh := ttL_hasNone) (x := ⟨0, 18, 19, 91⟩) hown hxe 0 rfl [] (by decide +kernel) (fun _ h => absurd h List.not_mem_nil) (by decide) (by decide) (hts (.classLink RL 91 "java/util/NoSuchElementException") (by decide +kernel)) (va_Nw.use rfl (hT.2.2.1 ("java/util/NoSuchElementException", "java/util/NoSuchElementException") (by decide +kernel))) hce hcv hcl ?_
    refine W.eq (g2 := F0 m 19 ls [.ref q9]) rfl ?_
    refine lv_astore_n (lv' := [(2, .ref q9), (0, .ref xo), (1, .int 0)]) hx hb dL_hasNone_19 rfl hl (by decide) rfl (fun ls hl => ?_)
    refine lv_iconst (v := 1) hx hb dL_hasNone_20 (by decide) ?_
    refine vx_ret ?_
    exact W.zret (v := 1) hx hb hr rfl (fun t ht hW => ⟨⟨1, (), rfl, rfl, q_RW_mk hP hK hD [0] [] rfl rfl (by decide) rfl ht hW.alike⟩, hS.F ht⟩) hS.2.2 dL_hasNone_21
  · exact w_1194.elim
def ttL_ask : List (Nat × Nat × Nat × Nat) := [(0, 260, 468, 79), (261, 279, 468, 79), (280, 287, 468, 79), (288, 298, 468, 79), (299, 306, 468, 79), (307, 318, 468, 79), (319, 326, 468, 79), (327, 334, 468, 79), (335, 343, 468, 79), (344, 352, 468, 79), (353, 363, 468, 79), (364, 374, 468, 79), (375, 388, 468, 79), (389, 402, 468, 79), (403, 416, 468, 79), (417, 427, 468, 79), (428, 435, 468, 79), (436, 449, 468, 79), (450, 460, 468, 79), (461, 467, 468, 79), (0, 260, 472, 82), (261, 279, 472, 82), (280, 287, 472, 82), (288, 298, 472, 82), (299, 306, 472, 82), (307, 318, 472, 82), (319, 326, 472, 82), (327, 334, 472, 82), (335, 343, 472, 82), (344, 352, 472, 82), (353, 363, 472, 82), (364, 374, 472, 82), (375, 388, 472, 82), (389, 402, 472, 82), (403, 416, 472, 82), (417, 427, 472, 82), (428, 435, 472, 82), (436, 449, 472, 82), (450, 460, 472, 82), (461, 467, 472, 82), (0, 260, 476, 85), (261, 279, 476, 85), (280, 287, 476, 85), (288, 298, 476, 85), (299, 306, 476, 85), (307, 318, 476, 85), (319, 326, 476, 85), (327, 334, 476, 85), (335, 343, 476, 85), (344, 352, 476, 85), (353, 363, 476, 85), (364, 374, 476, 85), (375, 388, 476, 85), (389, 402, 476, 85), (403, 416, 476, 85), (417, 427, 476, 85), (428, 435, 476, 85), (436, 449, 476, 85), (450, 460, 476, 85), (461, 467, 476, 85), (0, 260, 480, 88), (261, 279, 480, 88), (280, 287, 480, 88), (288, 298, 480, 88), (299, 306, 480, 88), (307, 318, 480, 88), (319, 326, 480, 88), (327, 334, 480, 88), (335, 343, 480, 88), (344, 352, 480, 88), (353, 363, 480, 88), (364, 374, 480, 88), (375, 388, 480, 88), (389, 402, 480, 88), (403, 416, 480, 88), (417, 427, 480, 88), (428, 435, 480, 88), (436, 449, 480, 88), (450, 460, 480, 88), (461, 467, 480, 88), (0, 260, 484, 91), (261, 279, 484, 91), (280, 287, 484, 91), (288, 298, 484, 91), (299, 306, 484, 91), (307, 318, 484, 91), (319, 326, 484, 91), (327, 334, 484, 91), (335, 343, 484, 91), (344, 352, 484, 91), (353, 363, 484, 91), (364, 374, 484, 91), (375, 388, 484, 91), (389, 402, 484, 91), (403, 416, 484, 91), (417, 427, 484, 91), (428, 435, 484, 91), (436, 449, 484, 91), (450, 460, 484, 91), (461, 467, 484, 91)]
theorem dL_ask_0 : decode cL_ask 0 = .ok (.iload_n 1, 1) := by decide +kernel
theorem dL_ask_1 : decode cL_ask 1 = .ok (.tableswitch 460 65 121 #[260, 374, 287, 460, 460, 460, 243, 363, 460, 449, 460, 435, 460, 402, 460, 279, 460, 460, 416, 460, 460, 460, 388, 460, 460, 460, 460, 460, 460, 460, 460, 460, 460, 334, 298, 460, 460, 460, 352, 318, 460, 460, 460, 460, 460, 460, 306, 326, 460, 460, 427, 460, 460, 460, 460, 460, 343], 243) := by decide +kernel
theorem dL_ask_244 : decode cL_ask 244 = .ok (.aload_n 0, 1) := by decide +kernel
theorem dL_ask_245 : decode cL_ask 245 = .ok (.aload_n 2, 1) := by decide +kernel
theorem dL_ask_246 : decode cL_ask 246 = .ok (.iconst 0, 1) := by decide +kernel
theorem dL_ask_247 : decode cL_ask 247 = .ok (.iaload, 1) := by decide +kernel
theorem dL_ask_248 : decode cL_ask 248 = .ok (.aload_n 2, 1) := by decide +kernel
theorem dL_ask_249 : decode cL_ask 249 = .ok (.iconst 1, 1) := by decide +kernel
theorem dL_ask_250 : decode cL_ask 250 = .ok (.iaload, 1) := by decide +kernel
theorem dL_ask_251 : decode cL_ask 251 = .ok (.aload_n 2, 1) := by decide +kernel
theorem dL_ask_252 : decode cL_ask 252 = .ok (.iconst 2, 1) := by decide +kernel
theorem dL_ask_253 : decode cL_ask 253 = .ok (.iaload, 1) := by decide +kernel
theorem dL_ask_254 : decode cL_ask 254 = .ok (.aload_n 2, 1) := by decide +kernel
theorem dL_ask_255 : decode cL_ask 255 = .ok (.iconst 3, 1) := by decide +kernel
theorem dL_ask_256 : decode cL_ask 256 = .ok (.iaload, 1) := by decide +kernel
theorem dL_ask_257 : decode cL_ask 257 = .ok (.invokevirtual 7, 3) := by decide +kernel
theorem dL_ask_472 : decode cL_ask 472 = .ok (.astore_n 3, 1) := by decide +kernel
theorem dL_ask_473 : decode cL_ask 473 = .ok (.ldc 84, 2) := by decide +kernel
theorem dL_ask_475 : decode cL_ask 475 = .ok (.ireturn, 1) := by decide +kernel
def wzEL_ask_glass_b0 : List Cond := [.codeWith yL_ask cL_ask 4 (some .int) ttL_ask, .methodLink RL 7 yX6_glass, .instanceMethod yX6_glass, .selects RX6 yX6_glass yX6_glass, .initialized RX6, .code yX6_glass cX6_glass 5 (some .int), .methodLink RX6 75 yX6_checkRange, .static yX6_checkRange, .code yX6_checkRange cX6_checkRange 3 none, .classLink RX6 118 "java/lang/IllegalArgumentException", .initialized "java/lang/IllegalArgumentException", .classLink RL 79 "java/lang/IndexOutOfBoundsException", .classLink RL 82 "java/lang/IllegalArgumentException", .constant RL 84 (-2000000002)]
def wzL_ask_glass_b0 : List Cond := wzEL_ask_glass_b0 ++ ((vx_atS RX6 122 "java/lang/IllegalArgumentException" ["java/lang/RuntimeException", "java/lang/Exception"]).filter goodWord)
theorem zgEL_ask_glass_b0 : wzEL_ask_glass_b0.all goodWord = true := by decide +kernel
theorem ztL_ask_glass_b0_X6_122 : ∀ w ∈ (vx_atS RX6 122 "java/lang/IllegalArgumentException" ["java/lang/RuntimeException", "java/lang/Exception"]).filter goodWord, w ∈ wzL_ask_glass_b0 := (fun _ h => (List.mem_append_right _ h))
theorem gzL_ask_glass_b0_X6_glass_b0_7 : GoodIn wzL_ask_glass_b0 (wsV RL 7 RX6 yX6_glass wzX6_glass_b0) := (goodIn_app (z_lift (goodIn_r _ [1, 2, 3, 4] rfl (by decide +kernel))) (goodIn_app (z_lift (goodIn_r wzEX6_glass_b0 [5, 6, 7, 4, 8, 9, 10] rfl zgEX6_glass_b0)) (goodIn_sub (fun _ h => (List.mem_append_right _ h)) zgV_X6_122)))
set_option maxHeartbeats 4000000 in
set_option maxRecDepth 100000 in
theorem zc_L_ask_glass_b0 (l : Launch) (hnt : l.stackTraces = false) (D : va_G) (G : Nat × Nat × (Nat → Int32)) (xo : Nat) (va : Nat) (xg : Nat) (gc : Int32) (xp : Nat) (pc : Int32) (xq : Nat) (qc : Int32) (r1 : Nat) (r2 : Nat) (r3 : Nat) (r4 : Nat) (se : Nat) (ts : Int32) (hou : Int32) (dr : Int32) (su : Int32) (br : Int32) (ci : ClassId) (sz : Nat) : vx_Met l yL_ask wzL_ask_glass_b0 ({ frames := 8, cells := 1, slots := 6, locals := 128 }) (va_Pc [.ref xo, .int 71, .ref va] (p_RW D G [(ci, .int)] [(xo, .inr (6, [.ref xg, .int gc, .ref xp, .int pc, .ref xq, .int qc, .ref r1, .ref r2, .ref r3, .ref r4, .ref se, .int ts, .int hou, .int dr, .int su, .int br])), (va, .inl (ci, 4, .inl (zi [599, 700, 80, 0])))] sz)) (va_Qi (fun (r : Int32) (u : Unit) => r = (-2000000002)) (fun (u : Unit) (t : State) => q_RW D [] [(xo, .inr (6, [.ref xg, .int gc, .ref xp, .int pc, .ref xq, .int qc, .ref r1, .ref r2, .ref r3, .ref r4, .ref se, .int ts, .int hou, .int dr, .int su, .int br]))] (va_A [(xo, .inr (6, [.ref xg, .int gc, .ref xp, .int pc, .ref xq, .int qc, .ref r1, .ref r2, .ref r3, .ref r4, .ref se, .int ts, .int hou, .int dr, .int su, .int br])), (va, .inl (ci, 4, .inl (zi [599, 700, 80, 0])))] sz) t) (va_A [(xo, .inr (6, [.ref xg, .int gc, .ref xp, .int pc, .ref xq, .int qc, .ref r1, .ref r2, .ref r3, .ref r4, .ref se, .int ts, .int hou, .int dr, .int su, .int br])), (va, .inl (ci, 4, .inl (zi [599, 700, 80, 0])))] sz)) (vx_X (fun (_ : Unit) => True) (fun E (_ : Unit) (_ : State) => False) (va_A [(xo, .inr (6, [.ref xg, .int gc, .ref xp, .int pc, .ref xq, .int qc, .ref r1, .ref r2, .ref r3, .ref r4, .ref se, .int ts, .int hou, .int dr, .int su, .int br])), (va, .inl (ci, 4, .inl (zi [599, 700, 80, 0])))] sz)) 1 6 (va_A [(xo, .inr (6, [.ref xg, .int gc, .ref xp, .int pc, .ref xq, .int qc, .ref r1, .ref r2, .ref r3, .ref r4, .ref se, .int ts, .int hou, .int dr, .int su, .int br])), (va, .inl (ci, 4, .inl (zi [599, 700, 80, 0])))] sz) := by
  refine vx_ofWH (cc := cL_ask) (maxL := 4) (ret := (some .int)) (by decide) rfl ?_
  intro p e s m args below meth c s₁ B hml hv
  obtain ⟨rfl, hsz, hP, hK, hD0, hT, hZ⟩ := hv
  have hx := B.exec
  have hb := B.bytes
  have hr := B.returns
  have hts := atoms_spec (ws := wzL_ask_glass_b0) B.pre
  have hown : s.vm.findClass RL = some m.cls := findClass_of_methodNamed B.named
  have hlocks := B.notSynchronized
  have hxe := vx_table (x := yL_ask) B (hts _ List.mem_cons_self)
  subst hsz
  have hD := hD0.self (sz := s.heap.size)
  generalize hAe : va_A [(xo, .inr (6, [.ref xg, .int gc, .ref xp, .int pc, .ref xq, .int qc, .ref r1, .ref r2, .ref r3, .ref r4, .ref se, .int ts, .int hou, .int dr, .int su, .int br])), (va, .inl (ci, 4, .inl (zi [599, 700, 80, 0])))] s.heap.size = A at hD hZ ⊢
  have hA : ∀ q : Nat, s.heap.size ≤ q → A q := fun q h => by rw [← hAe]; exact Or.inr h
  have hS : va_S A s.heap s.heap [] := va_S.rf
  have hl := lv_entry ([.ref xo, .int 71, .ref va]) (n := 4) (Nat.le_of_ble_eq_true rfl)
  rw [lg_entry_eq]
  generalize (lg_sl ([.ref xo, .int 71, .ref va]) ++ List.replicate (4 - (lg_sl ([.ref xo, .int 71, .ref va])).length) Slot.unset).toArray = ls at hl ⊢
  have hl : lv_has ls 4 [(0, .ref xo), (1, .int 71), (2, .ref va)] := hl
  refine lv_iload_n hx hb dL_ask_0 rfl (lv_at hl 1 rfl) ?_
  refine lv_tableIn (off := 243) (tgt := 244) hx hb dL_ask_1 (by decide +kernel) (by decide +kernel) (by decide +kernel) (by decide) ?_
  refine lv_aload_n hx hb dL_ask_244 rfl (lv_at hl 0 rfl) ?_
  refine lv_aload_n hx hb dL_ask_245 rfl (lv_at hl 2 rfl) ?_
  refine lv_iconst (v := 0) hx hb dL_ask_246 (by decide) ?_
  refine va_iald (D := D) (cl := vwCl) hx hb hK hP 1 0 rfl rfl (vp_in_nI (n := 0) (N := 4) (by decide) (by decide)) dL_ask_247 ?_
  refine W.eq (g2 := F0 m 248 ls [.int 599, .ref xo]) rfl ?_
  refine lv_aload_n hx hb dL_ask_248 rfl (lv_at hl 2 rfl) ?_
  refine lv_iconst (v := 1) hx hb dL_ask_249 (by decide) ?_
  refine va_iald (D := D) (cl := vwCl) hx hb hK hP 1 0 rfl rfl (vp_in_nI (n := 1) (N := 4) (by decide) (by decide)) dL_ask_250 ?_
  refine W.eq (g2 := F0 m 251 ls [.int 700, .int 599, .ref xo]) rfl ?_
  refine lv_aload_n hx hb dL_ask_251 rfl (lv_at hl 2 rfl) ?_
  refine lv_iconst (v := 2) hx hb dL_ask_252 (by decide) ?_
  refine va_iald (D := D) (cl := vwCl) hx hb hK hP 1 0 rfl rfl (vp_in_nI (n := 2) (N := 4) (by decide) (by decide)) dL_ask_253 ?_
  refine W.eq (g2 := F0 m 254 ls [.int 80, .int 700, .int 599, .ref xo]) rfl ?_
  refine lv_aload_n hx hb dL_ask_254 rfl (lv_at hl 2 rfl) ?_
  refine lv_iconst (v := 3) hx hb dL_ask_255 (by decide) ?_
  refine va_iald (D := D) (cl := vwCl) hx hb hK hP 1 0 rfl rfl (vp_in_nI (n := 3) (N := 4) (by decide) (by decide)) dL_ask_256 ?_
  refine W.eq (g2 := F0 m 257 ls [.int 0, .int 80, .int 700, .int 599, .ref xo]) rfl ?_
  have hFc := va_free (wc := [(xo, .inr (6, [.ref xg, .int gc, .ref xp, .int pc, .ref xq, .int qc, .ref r1, .ref r2, .ref r3, .ref r4, .ref se, .int ts, .int hou, .int dr, .int su, .int br]))]) hD hS hA [0] rfl
  refine vx_calli (vx_runV (As := [.int 599, .int 700, .int 80, .int 0]) (rest := []) ⟨hx, hb, hml, hown, hts⟩ (zc_X6_glass_b0 l hnt D G xo xg gc xp pc xq qc r1 r2 r3 r4 se ts hou dr su br s.heap.size) (cwV 4 hts gzL_ask_glass_b0_X6_glass_b0_7 rfl rfl rfl (by decide +kernel) ⟨(Nat.le_of_ble_eq_true rfl), (Nat.le_of_ble_eq_true rfl)⟩) ⟨p_RW_blind, va_recv hK hP (ci := 6) (q0 := 0) rfl rfl, (p_RW_at (tc := []) (wc := [(xo, .inr (6, [.ref xg, .int gc, .ref xp, .int pc, .ref xq, .int qc, .ref r1, .ref r2, .ref r3, .ref r4, .ref se, .int ts, .int hou, .int dr, .int su, .int br]))]) hP hK hD hS hA hT hZ [0] [] rfl rfl (by decide) rfl [.ref xo, .int 599, .int 700, .int 80, .int 0])⟩ rfl rfl hl.1 rfl (lv_room (Nat.le_of_ble_eq_true rfl)) dL_ask_257 ⟨(Nat.le_of_ble_eq_true rfl), (Nat.le_of_ble_eq_true rfl)⟩) hS (fun q _ h => hFc q h) hFc (fun q _ h => hFc q h) (fun E ce q9 u t H locs ht hvm hpx hBX hz1 hk1 hS hce hcv hcl => ?_) (fun r_1195 u t H locs ht hvm w_1196 hB hz1 hk1 hS => ?_)
  · obtain ⟨hBX, hB⟩ := hBX
    obtain ⟨hP, hD, hK⟩ := q_join (D := D) (wc := [(xo, .inr (6, [.ref xg, .int gc, .ref xp, .int pc, .ref xq, .int qc, .ref r1, .ref r2, .ref r3, .ref r4, .ref se, .int ts, .int hou, .int dr, .int su, .int br]))]) (wr := [(va, .inl (ci, 4, .inl (zi [599, 700, 80, 0])))]) (w1 := [(xo, .inr (6, [.ref xg, .int gc, .ref xp, .int pc, .ref xq, .int qc, .ref r1, .ref r2, .ref r3, .ref r4, .ref se, .int ts, .int hou, .int dr, .int su, .int br]))]) (tyr := [(ci, .int)]) (ty1 := []) hP hD hK [0] [1] [0] rfl rfl (by decide) (by decide) rfl hFc hk1 ht hvm hB
    have hP : va_P D vwCl [(va, .inl (ci, 4, .inl (zi [599, 700, 80, 0]))), (xo, .inr (6, [.ref xg, .int gc, .ref xp, .int pc, .ref xq, .int qc, .ref r1, .ref r2, .ref r3, .ref r4, .ref se, .int ts, .int hou, .int dr, .int su, .int br]))] H := hP
    have hD : va_D A [(va, .inl (ci, 4, .inl (zi [599, 700, 80, 0]))), (xo, .inr (6, [.ref xg, .int gc, .ref xp, .int pc, .ref xq, .int qc, .ref r1, .ref r2, .ref r3, .ref r4, .ref se, .int ts, .int hou, .int dr, .int su, .int br]))] := hD
    have hK : va_K D vwCl [(ci, .int)] s := hK
    have hBX : (E = "java/lang/IllegalArgumentException") := hBX
    rcases hBX with rfl
    refine z_catch (own := RL) (name := "java/lang/IllegalArgumentException") (hh := ttL_ask) (x := ⟨0, 260, 472, 82⟩) hown hxe 20 rfl [(79, "java/lang/IndexOutOfBoundsException")] (by decide +kernel) (List.forall_mem_cons.mpr ⟨⟨by decide, (hts (.classLink RL 79 "java/lang/IndexOutOfBoundsException") (by decide +kernel)), hT.2.2.2.1 ("java/lang/IllegalArgumentException", "java/lang/IndexOutOfBoundsException") (by decide +kernel)⟩, (fun _ h => absurd h List.not_mem_nil)⟩) (by decide) (by decide) (hts (.classLink RL 82 "java/lang/IllegalArgumentException") (by decide +kernel)) (va_Nw.use rfl (hT.2.2.1 ("java/lang/IllegalArgumentException", "java/lang/IllegalArgumentException") (by decide +kernel))) hce hcv hcl ?_
    refine W.eq (g2 := F0 m 472 ls [.ref q9]) rfl ?_
    refine lv_astore_n (lv' := [(3, .ref q9), (0, .ref xo), (1, .int 71), (2, .ref va)]) hx hb dL_ask_472 rfl hl (by decide) rfl (fun ls hl => ?_)
    refine lv_ldc (v := (-2000000002)) hx hb hown (hts (.constant RL 84 (-2000000002)) (by decide +kernel)) dL_ask_473 ?_
    refine vx_ret ?_
    exact W.iret (v := (-2000000002)) hx hb hr (fun t ht hW => ⟨⟨(-2000000002), (), rfl, rfl, q_RW_mk hP hK hD [1] [] rfl rfl (by decide) rfl ht hW.alike⟩, hS.F ht⟩) hS.2.2 dL_ask_475
  · exact w_1196.elim
def wzEL_ask_glass_b1 : List Cond := [.codeWith yL_ask cL_ask 4 (some .int) ttL_ask, .methodLink RL 7 yX6_glass, .instanceMethod yX6_glass, .selects RX6 yX6_glass yX6_glass, .initialized RX6, .code yX6_glass cX6_glass 5 (some .int), .methodLink RX6 75 yX6_checkRange, .static yX6_checkRange, .code yX6_checkRange cX6_checkRange 3 none, .classLink RX6 118 "java/lang/IllegalArgumentException", .initialized "java/lang/IllegalArgumentException", .classLink RL 79 "java/lang/IndexOutOfBoundsException", .classLink RL 82 "java/lang/IllegalArgumentException", .constant RL 84 (-2000000002)]
def wzL_ask_glass_b1 : List Cond := wzEL_ask_glass_b1 ++ ((vx_atS RX6 122 "java/lang/IllegalArgumentException" ["java/lang/RuntimeException", "java/lang/Exception"]).filter goodWord)
theorem zgEL_ask_glass_b1 : wzEL_ask_glass_b1.all goodWord = true := by decide +kernel
theorem ztL_ask_glass_b1_X6_122 : ∀ w ∈ (vx_atS RX6 122 "java/lang/IllegalArgumentException" ["java/lang/RuntimeException", "java/lang/Exception"]).filter goodWord, w ∈ wzL_ask_glass_b1 := (fun _ h => (List.mem_append_right _ h))
theorem gzL_ask_glass_b1_X6_glass_b1_7 : GoodIn wzL_ask_glass_b1 (wsV RL 7 RX6 yX6_glass wzX6_glass_b1) := (goodIn_app (z_lift (goodIn_r _ [1, 2, 3, 4] rfl (by decide +kernel))) (goodIn_app (z_lift (goodIn_r wzEX6_glass_b1 [5, 6, 7, 4, 8, 9, 10] rfl zgEX6_glass_b1)) (goodIn_sub (fun _ h => (List.mem_append_right _ h)) zgV_X6_122)))
set_option maxHeartbeats 4000000 in
set_option maxRecDepth 100000 in
theorem zc_L_ask_glass_b1 (l : Launch) (hnt : l.stackTraces = false) (D : va_G) (G : Nat × Nat × (Nat → Int32)) (xo : Nat) (va : Nat) (xg : Nat) (gc : Int32) (xp : Nat) (pc : Int32) (xq : Nat) (qc : Int32) (r1 : Nat) (r2 : Nat) (r3 : Nat) (r4 : Nat) (se : Nat) (ts : Int32) (hou : Int32) (dr : Int32) (su : Int32) (br : Int32) (ci : ClassId) (sz : Nat) : vx_Met l yL_ask wzL_ask_glass_b1 ({ frames := 8, cells := 1, slots := 6, locals := 128 }) (va_Pc [.ref xo, .int 71, .ref va] (p_RW D G [(ci, .int)] [(xo, .inr (6, [.ref xg, .int gc, .ref xp, .int pc, .ref xq, .int qc, .ref r1, .ref r2, .ref r3, .ref r4, .ref se, .int ts, .int hou, .int dr, .int su, .int br])), (va, .inl (ci, 4, .inl (zi [700, 699, 80, 0])))] sz)) (va_Qi (fun (r : Int32) (u : Unit) => r = (-2000000002)) (fun (u : Unit) (t : State) => q_RW D [] [(xo, .inr (6, [.ref xg, .int gc, .ref xp, .int pc, .ref xq, .int qc, .ref r1, .ref r2, .ref r3, .ref r4, .ref se, .int ts, .int hou, .int dr, .int su, .int br]))] (va_A [(xo, .inr (6, [.ref xg, .int gc, .ref xp, .int pc, .ref xq, .int qc, .ref r1, .ref r2, .ref r3, .ref r4, .ref se, .int ts, .int hou, .int dr, .int su, .int br])), (va, .inl (ci, 4, .inl (zi [700, 699, 80, 0])))] sz) t) (va_A [(xo, .inr (6, [.ref xg, .int gc, .ref xp, .int pc, .ref xq, .int qc, .ref r1, .ref r2, .ref r3, .ref r4, .ref se, .int ts, .int hou, .int dr, .int su, .int br])), (va, .inl (ci, 4, .inl (zi [700, 699, 80, 0])))] sz)) (vx_X (fun (_ : Unit) => True) (fun E (_ : Unit) (_ : State) => False) (va_A [(xo, .inr (6, [.ref xg, .int gc, .ref xp, .int pc, .ref xq, .int qc, .ref r1, .ref r2, .ref r3, .ref r4, .ref se, .int ts, .int hou, .int dr, .int su, .int br])), (va, .inl (ci, 4, .inl (zi [700, 699, 80, 0])))] sz)) 1 6 (va_A [(xo, .inr (6, [.ref xg, .int gc, .ref xp, .int pc, .ref xq, .int qc, .ref r1, .ref r2, .ref r3, .ref r4, .ref se, .int ts, .int hou, .int dr, .int su, .int br])), (va, .inl (ci, 4, .inl (zi [700, 699, 80, 0])))] sz) := by
  refine vx_ofWH (cc := cL_ask) (maxL := 4) (ret := (some .int)) (by decide) rfl ?_
  intro p e s m args below meth c s₁ B hml hv
  obtain ⟨rfl, hsz, hP, hK, hD0, hT, hZ⟩ := hv
  have hx := B.exec
  have hb := B.bytes
  have hr := B.returns
  have hts := atoms_spec (ws := wzL_ask_glass_b1) B.pre
  have hown : s.vm.findClass RL = some m.cls := findClass_of_methodNamed B.named
  have hlocks := B.notSynchronized
  have hxe := vx_table (x := yL_ask) B (hts _ List.mem_cons_self)
  subst hsz
  have hD := hD0.self (sz := s.heap.size)
  generalize hAe : va_A [(xo, .inr (6, [.ref xg, .int gc, .ref xp, .int pc, .ref xq, .int qc, .ref r1, .ref r2, .ref r3, .ref r4, .ref se, .int ts, .int hou, .int dr, .int su, .int br])), (va, .inl (ci, 4, .inl (zi [700, 699, 80, 0])))] s.heap.size = A at hD hZ ⊢
  have hA : ∀ q : Nat, s.heap.size ≤ q → A q := fun q h => by rw [← hAe]; exact Or.inr h
  have hS : va_S A s.heap s.heap [] := va_S.rf
  have hl := lv_entry ([.ref xo, .int 71, .ref va]) (n := 4) (Nat.le_of_ble_eq_true rfl)
  rw [lg_entry_eq]
  generalize (lg_sl ([.ref xo, .int 71, .ref va]) ++ List.replicate (4 - (lg_sl ([.ref xo, .int 71, .ref va])).length) Slot.unset).toArray = ls at hl ⊢
  have hl : lv_has ls 4 [(0, .ref xo), (1, .int 71), (2, .ref va)] := hl
  refine lv_iload_n hx hb dL_ask_0 rfl (lv_at hl 1 rfl) ?_
  refine lv_tableIn (off := 243) (tgt := 244) hx hb dL_ask_1 (by decide +kernel) (by decide +kernel) (by decide +kernel) (by decide) ?_
  refine lv_aload_n hx hb dL_ask_244 rfl (lv_at hl 0 rfl) ?_
  refine lv_aload_n hx hb dL_ask_245 rfl (lv_at hl 2 rfl) ?_
  refine lv_iconst (v := 0) hx hb dL_ask_246 (by decide) ?_
  refine va_iald (D := D) (cl := vwCl) hx hb hK hP 1 0 rfl rfl (vp_in_nI (n := 0) (N := 4) (by decide) (by decide)) dL_ask_247 ?_
  refine W.eq (g2 := F0 m 248 ls [.int 700, .ref xo]) rfl ?_
  refine lv_aload_n hx hb dL_ask_248 rfl (lv_at hl 2 rfl) ?_
  refine lv_iconst (v := 1) hx hb dL_ask_249 (by decide) ?_
  refine va_iald (D := D) (cl := vwCl) hx hb hK hP 1 0 rfl rfl (vp_in_nI (n := 1) (N := 4) (by decide) (by decide)) dL_ask_250 ?_
  refine W.eq (g2 := F0 m 251 ls [.int 699, .int 700, .ref xo]) rfl ?_
  refine lv_aload_n hx hb dL_ask_251 rfl (lv_at hl 2 rfl) ?_
  refine lv_iconst (v := 2) hx hb dL_ask_252 (by decide) ?_
  refine va_iald (D := D) (cl := vwCl) hx hb hK hP 1 0 rfl rfl (vp_in_nI (n := 2) (N := 4) (by decide) (by decide)) dL_ask_253 ?_
  refine W.eq (g2 := F0 m 254 ls [.int 80, .int 699, .int 700, .ref xo]) rfl ?_
  refine lv_aload_n hx hb dL_ask_254 rfl (lv_at hl 2 rfl) ?_
  refine lv_iconst (v := 3) hx hb dL_ask_255 (by decide) ?_
  refine va_iald (D := D) (cl := vwCl) hx hb hK hP 1 0 rfl rfl (vp_in_nI (n := 3) (N := 4) (by decide) (by decide)) dL_ask_256 ?_
  refine W.eq (g2 := F0 m 257 ls [.int 0, .int 80, .int 699, .int 700, .ref xo]) rfl ?_
  have hFc := va_free (wc := [(xo, .inr (6, [.ref xg, .int gc, .ref xp, .int pc, .ref xq, .int qc, .ref r1, .ref r2, .ref r3, .ref r4, .ref se, .int ts, .int hou, .int dr, .int su, .int br]))]) hD hS hA [0] rfl
  refine vx_calli (vx_runV (As := [.int 700, .int 699, .int 80, .int 0]) (rest := []) ⟨hx, hb, hml, hown, hts⟩ (zc_X6_glass_b1 l hnt D G xo xg gc xp pc xq qc r1 r2 r3 r4 se ts hou dr su br s.heap.size) (cwV 4 hts gzL_ask_glass_b1_X6_glass_b1_7 rfl rfl rfl (by decide +kernel) ⟨(Nat.le_of_ble_eq_true rfl), (Nat.le_of_ble_eq_true rfl)⟩) ⟨p_RW_blind, va_recv hK hP (ci := 6) (q0 := 0) rfl rfl, (p_RW_at (tc := []) (wc := [(xo, .inr (6, [.ref xg, .int gc, .ref xp, .int pc, .ref xq, .int qc, .ref r1, .ref r2, .ref r3, .ref r4, .ref se, .int ts, .int hou, .int dr, .int su, .int br]))]) hP hK hD hS hA hT hZ [0] [] rfl rfl (by decide) rfl [.ref xo, .int 700, .int 699, .int 80, .int 0])⟩ rfl rfl hl.1 rfl (lv_room (Nat.le_of_ble_eq_true rfl)) dL_ask_257 ⟨(Nat.le_of_ble_eq_true rfl), (Nat.le_of_ble_eq_true rfl)⟩) hS (fun q _ h => hFc q h) hFc (fun q _ h => hFc q h) (fun E ce q9 u t H locs ht hvm hpx hBX hz1 hk1 hS hce hcv hcl => ?_) (fun r_1197 u t H locs ht hvm w_1198 hB hz1 hk1 hS => ?_)
  · obtain ⟨hBX, hB⟩ := hBX
    obtain ⟨hP, hD, hK⟩ := q_join (D := D) (wc := [(xo, .inr (6, [.ref xg, .int gc, .ref xp, .int pc, .ref xq, .int qc, .ref r1, .ref r2, .ref r3, .ref r4, .ref se, .int ts, .int hou, .int dr, .int su, .int br]))]) (wr := [(va, .inl (ci, 4, .inl (zi [700, 699, 80, 0])))]) (w1 := [(xo, .inr (6, [.ref xg, .int gc, .ref xp, .int pc, .ref xq, .int qc, .ref r1, .ref r2, .ref r3, .ref r4, .ref se, .int ts, .int hou, .int dr, .int su, .int br]))]) (tyr := [(ci, .int)]) (ty1 := []) hP hD hK [0] [1] [0] rfl rfl (by decide) (by decide) rfl hFc hk1 ht hvm hB
    have hP : va_P D vwCl [(va, .inl (ci, 4, .inl (zi [700, 699, 80, 0]))), (xo, .inr (6, [.ref xg, .int gc, .ref xp, .int pc, .ref xq, .int qc, .ref r1, .ref r2, .ref r3, .ref r4, .ref se, .int ts, .int hou, .int dr, .int su, .int br]))] H := hP
    have hD : va_D A [(va, .inl (ci, 4, .inl (zi [700, 699, 80, 0]))), (xo, .inr (6, [.ref xg, .int gc, .ref xp, .int pc, .ref xq, .int qc, .ref r1, .ref r2, .ref r3, .ref r4, .ref se, .int ts, .int hou, .int dr, .int su, .int br]))] := hD
    have hK : va_K D vwCl [(ci, .int)] s := hK
    have hBX : (E = "java/lang/IllegalArgumentException") := hBX
    rcases hBX with rfl
    refine z_catch (own := RL) (name := "java/lang/IllegalArgumentException") (hh := ttL_ask) (x := ⟨0, 260, 472, 82⟩) hown hxe 20 rfl [(79, "java/lang/IndexOutOfBoundsException")] (by decide +kernel) (List.forall_mem_cons.mpr ⟨⟨by decide, (hts (.classLink RL 79 "java/lang/IndexOutOfBoundsException") (by decide +kernel)), hT.2.2.2.1 ("java/lang/IllegalArgumentException", "java/lang/IndexOutOfBoundsException") (by decide +kernel)⟩, (fun _ h => absurd h List.not_mem_nil)⟩) (by decide) (by decide) (hts (.classLink RL 82 "java/lang/IllegalArgumentException") (by decide +kernel)) (va_Nw.use rfl (hT.2.2.1 ("java/lang/IllegalArgumentException", "java/lang/IllegalArgumentException") (by decide +kernel))) hce hcv hcl ?_
    refine W.eq (g2 := F0 m 472 ls [.ref q9]) rfl ?_
    refine lv_astore_n (lv' := [(3, .ref q9), (0, .ref xo), (1, .int 71), (2, .ref va)]) hx hb dL_ask_472 rfl hl (by decide) rfl (fun ls hl => ?_)
    refine lv_ldc (v := (-2000000002)) hx hb hown (hts (.constant RL 84 (-2000000002)) (by decide +kernel)) dL_ask_473 ?_
    refine vx_ret ?_
    exact W.iret (v := (-2000000002)) hx hb hr (fun t ht hW => ⟨⟨(-2000000002), (), rfl, rfl, q_RW_mk hP hK hD [1] [] rfl rfl (by decide) rfl ht hW.alike⟩, hS.F ht⟩) hS.2.2 dL_ask_475
  · exact w_1198.elim
def wzEL_ask_glass_b2 : List Cond := [.codeWith yL_ask cL_ask 4 (some .int) ttL_ask, .methodLink RL 7 yX6_glass, .instanceMethod yX6_glass, .selects RX6 yX6_glass yX6_glass, .initialized RX6, .code yX6_glass cX6_glass 5 (some .int), .methodLink RX6 75 yX6_checkRange, .static yX6_checkRange, .code yX6_checkRange cX6_checkRange 3 none, .classLink RX6 118 "java/lang/IllegalArgumentException", .initialized "java/lang/IllegalArgumentException", .classLink RL 79 "java/lang/IndexOutOfBoundsException", .classLink RL 82 "java/lang/IllegalArgumentException", .constant RL 84 (-2000000002)]
def wzL_ask_glass_b2 : List Cond := wzEL_ask_glass_b2 ++ ((vx_atS RX6 122 "java/lang/IllegalArgumentException" ["java/lang/RuntimeException", "java/lang/Exception"]).filter goodWord)
theorem zgEL_ask_glass_b2 : wzEL_ask_glass_b2.all goodWord = true := by decide +kernel
theorem ztL_ask_glass_b2_X6_122 : ∀ w ∈ (vx_atS RX6 122 "java/lang/IllegalArgumentException" ["java/lang/RuntimeException", "java/lang/Exception"]).filter goodWord, w ∈ wzL_ask_glass_b2 := (fun _ h => (List.mem_append_right _ h))
theorem gzL_ask_glass_b2_X6_glass_b2_7 : GoodIn wzL_ask_glass_b2 (wsV RL 7 RX6 yX6_glass wzX6_glass_b2) := (goodIn_app (z_lift (goodIn_r _ [1, 2, 3, 4] rfl (by decide +kernel))) (goodIn_app (z_lift (goodIn_r wzEX6_glass_b2 [5, 6, 7, 4, 8, 9, 10] rfl zgEX6_glass_b2)) (goodIn_sub (fun _ h => (List.mem_append_right _ h)) zgV_X6_122)))
set_option maxHeartbeats 4000000 in
set_option maxRecDepth 100000 in
theorem zc_L_ask_glass_b2 (l : Launch) (hnt : l.stackTraces = false) (D : va_G) (G : Nat × Nat × (Nat → Int32)) (xo : Nat) (va : Nat) (xg : Nat) (gc : Int32) (xp : Nat) (pc : Int32) (xq : Nat) (qc : Int32) (r1 : Nat) (r2 : Nat) (r3 : Nat) (r4 : Nat) (se : Nat) (ts : Int32) (hou : Int32) (dr : Int32) (su : Int32) (br : Int32) (ci : ClassId) (sz : Nat) : vx_Met l yL_ask wzL_ask_glass_b2 ({ frames := 8, cells := 1, slots := 6, locals := 128 }) (va_Pc [.ref xo, .int 71, .ref va] (p_RW D G [(ci, .int)] [(xo, .inr (6, [.ref xg, .int gc, .ref xp, .int pc, .ref xq, .int qc, .ref r1, .ref r2, .ref r3, .ref r4, .ref se, .int ts, .int hou, .int dr, .int su, .int br])), (va, .inl (ci, 4, .inl (zi [700, 800, 49, 0])))] sz)) (va_Qi (fun (r : Int32) (u : Unit) => r = (-2000000002)) (fun (u : Unit) (t : State) => q_RW D [] [(xo, .inr (6, [.ref xg, .int gc, .ref xp, .int pc, .ref xq, .int qc, .ref r1, .ref r2, .ref r3, .ref r4, .ref se, .int ts, .int hou, .int dr, .int su, .int br]))] (va_A [(xo, .inr (6, [.ref xg, .int gc, .ref xp, .int pc, .ref xq, .int qc, .ref r1, .ref r2, .ref r3, .ref r4, .ref se, .int ts, .int hou, .int dr, .int su, .int br])), (va, .inl (ci, 4, .inl (zi [700, 800, 49, 0])))] sz) t) (va_A [(xo, .inr (6, [.ref xg, .int gc, .ref xp, .int pc, .ref xq, .int qc, .ref r1, .ref r2, .ref r3, .ref r4, .ref se, .int ts, .int hou, .int dr, .int su, .int br])), (va, .inl (ci, 4, .inl (zi [700, 800, 49, 0])))] sz)) (vx_X (fun (_ : Unit) => True) (fun E (_ : Unit) (_ : State) => False) (va_A [(xo, .inr (6, [.ref xg, .int gc, .ref xp, .int pc, .ref xq, .int qc, .ref r1, .ref r2, .ref r3, .ref r4, .ref se, .int ts, .int hou, .int dr, .int su, .int br])), (va, .inl (ci, 4, .inl (zi [700, 800, 49, 0])))] sz)) 1 6 (va_A [(xo, .inr (6, [.ref xg, .int gc, .ref xp, .int pc, .ref xq, .int qc, .ref r1, .ref r2, .ref r3, .ref r4, .ref se, .int ts, .int hou, .int dr, .int su, .int br])), (va, .inl (ci, 4, .inl (zi [700, 800, 49, 0])))] sz) := by
  refine vx_ofWH (cc := cL_ask) (maxL := 4) (ret := (some .int)) (by decide) rfl ?_
  intro p e s m args below meth c s₁ B hml hv
  obtain ⟨rfl, hsz, hP, hK, hD0, hT, hZ⟩ := hv
  have hx := B.exec
  have hb := B.bytes
  have hr := B.returns
  have hts := atoms_spec (ws := wzL_ask_glass_b2) B.pre
  have hown : s.vm.findClass RL = some m.cls := findClass_of_methodNamed B.named
  have hlocks := B.notSynchronized
  have hxe := vx_table (x := yL_ask) B (hts _ List.mem_cons_self)
  subst hsz
  have hD := hD0.self (sz := s.heap.size)
  generalize hAe : va_A [(xo, .inr (6, [.ref xg, .int gc, .ref xp, .int pc, .ref xq, .int qc, .ref r1, .ref r2, .ref r3, .ref r4, .ref se, .int ts, .int hou, .int dr, .int su, .int br])), (va, .inl (ci, 4, .inl (zi [700, 800, 49, 0])))] s.heap.size = A at hD hZ ⊢
  have hA : ∀ q : Nat, s.heap.size ≤ q → A q := fun q h => by rw [← hAe]; exact Or.inr h
  have hS : va_S A s.heap s.heap [] := va_S.rf
  have hl := lv_entry ([.ref xo, .int 71, .ref va]) (n := 4) (Nat.le_of_ble_eq_true rfl)
  rw [lg_entry_eq]
  generalize (lg_sl ([.ref xo, .int 71, .ref va]) ++ List.replicate (4 - (lg_sl ([.ref xo, .int 71, .ref va])).length) Slot.unset).toArray = ls at hl ⊢
  have hl : lv_has ls 4 [(0, .ref xo), (1, .int 71), (2, .ref va)] := hl
  refine lv_iload_n hx hb dL_ask_0 rfl (lv_at hl 1 rfl) ?_
  refine lv_tableIn (off := 243) (tgt := 244) hx hb dL_ask_1 (by decide +kernel) (by decide +kernel) (by decide +kernel) (by decide) ?_
  refine lv_aload_n hx hb dL_ask_244 rfl (lv_at hl 0 rfl) ?_
  refine lv_aload_n hx hb dL_ask_245 rfl (lv_at hl 2 rfl) ?_
  refine lv_iconst (v := 0) hx hb dL_ask_246 (by decide) ?_
  refine va_iald (D := D) (cl := vwCl) hx hb hK hP 1 0 rfl rfl (vp_in_nI (n := 0) (N := 4) (by decide) (by decide)) dL_ask_247 ?_
  refine W.eq (g2 := F0 m 248 ls [.int 700, .ref xo]) rfl ?_
  refine lv_aload_n hx hb dL_ask_248 rfl (lv_at hl 2 rfl) ?_
  refine lv_iconst (v := 1) hx hb dL_ask_249 (by decide) ?_
  refine va_iald (D := D) (cl := vwCl) hx hb hK hP 1 0 rfl rfl (vp_in_nI (n := 1) (N := 4) (by decide) (by decide)) dL_ask_250 ?_
  refine W.eq (g2 := F0 m 251 ls [.int 800, .int 700, .ref xo]) rfl ?_
  refine lv_aload_n hx hb dL_ask_251 rfl (lv_at hl 2 rfl) ?_
  refine lv_iconst (v := 2) hx hb dL_ask_252 (by decide) ?_
  refine va_iald (D := D) (cl := vwCl) hx hb hK hP 1 0 rfl rfl (vp_in_nI (n := 2) (N := 4) (by decide) (by decide)) dL_ask_253 ?_
  refine W.eq (g2 := F0 m 254 ls [.int 49, .int 800, .int 700, .ref xo]) rfl ?_
  refine lv_aload_n hx hb dL_ask_254 rfl (lv_at hl 2 rfl) ?_
  refine lv_iconst (v := 3) hx hb dL_ask_255 (by decide) ?_
  refine va_iald (D := D) (cl := vwCl) hx hb hK hP 1 0 rfl rfl (vp_in_nI (n := 3) (N := 4) (by decide) (by decide)) dL_ask_256 ?_
  refine W.eq (g2 := F0 m 257 ls [.int 0, .int 49, .int 800, .int 700, .ref xo]) rfl ?_
  have hFc := va_free (wc := [(xo, .inr (6, [.ref xg, .int gc, .ref xp, .int pc, .ref xq, .int qc, .ref r1, .ref r2, .ref r3, .ref r4, .ref se, .int ts, .int hou, .int dr, .int su, .int br]))]) hD hS hA [0] rfl
  refine vx_calli (vx_runV (As := [.int 700, .int 800, .int 49, .int 0]) (rest := []) ⟨hx, hb, hml, hown, hts⟩ (zc_X6_glass_b2 l hnt D G xo xg gc xp pc xq qc r1 r2 r3 r4 se ts hou dr su br s.heap.size) (cwV 4 hts gzL_ask_glass_b2_X6_glass_b2_7 rfl rfl rfl (by decide +kernel) ⟨(Nat.le_of_ble_eq_true rfl), (Nat.le_of_ble_eq_true rfl)⟩) ⟨p_RW_blind, va_recv hK hP (ci := 6) (q0 := 0) rfl rfl, (p_RW_at (tc := []) (wc := [(xo, .inr (6, [.ref xg, .int gc, .ref xp, .int pc, .ref xq, .int qc, .ref r1, .ref r2, .ref r3, .ref r4, .ref se, .int ts, .int hou, .int dr, .int su, .int br]))]) hP hK hD hS hA hT hZ [0] [] rfl rfl (by decide) rfl [.ref xo, .int 700, .int 800, .int 49, .int 0])⟩ rfl rfl hl.1 rfl (lv_room (Nat.le_of_ble_eq_true rfl)) dL_ask_257 ⟨(Nat.le_of_ble_eq_true rfl), (Nat.le_of_ble_eq_true rfl)⟩) hS (fun q _ h => hFc q h) hFc (fun q _ h => hFc q h) (fun E ce q9 u t H locs ht hvm hpx hBX hz1 hk1 hS hce hcv hcl => ?_) (fun r_1199 u t H locs ht hvm w_1200 hB hz1 hk1 hS => ?_)
  · obtain ⟨hBX, hB⟩ := hBX
    obtain ⟨hP, hD, hK⟩ := q_join (D := D) (wc := [(xo, .inr (6, [.ref xg, .int gc, .ref xp, .int pc, .ref xq, .int qc, .ref r1, .ref r2, .ref r3, .ref r4, .ref se, .int ts, .int hou, .int dr, .int su, .int br]))]) (wr := [(va, .inl (ci, 4, .inl (zi [700, 800, 49, 0])))]) (w1 := [(xo, .inr (6, [.ref xg, .int gc, .ref xp, .int pc, .ref xq, .int qc, .ref r1, .ref r2, .ref r3, .ref r4, .ref se, .int ts, .int hou, .int dr, .int su, .int br]))]) (tyr := [(ci, .int)]) (ty1 := []) hP hD hK [0] [1] [0] rfl rfl (by decide) (by decide) rfl hFc hk1 ht hvm hB
    have hP : va_P D vwCl [(va, .inl (ci, 4, .inl (zi [700, 800, 49, 0]))), (xo, .inr (6, [.ref xg, .int gc, .ref xp, .int pc, .ref xq, .int qc, .ref r1, .ref r2, .ref r3, .ref r4, .ref se, .int ts, .int hou, .int dr, .int su, .int br]))] H := hP
    have hD : va_D A [(va, .inl (ci, 4, .inl (zi [700, 800, 49, 0]))), (xo, .inr (6, [.ref xg, .int gc, .ref xp, .int pc, .ref xq, .int qc, .ref r1, .ref r2, .ref r3, .ref r4, .ref se, .int ts, .int hou, .int dr, .int su, .int br]))] := hD
    have hK : va_K D vwCl [(ci, .int)] s := hK
    have hBX : (E = "java/lang/IllegalArgumentException") := hBX
    rcases hBX with rfl
    refine z_catch (own := RL) (name := "java/lang/IllegalArgumentException") (hh := ttL_ask) (x := ⟨0, 260, 472, 82⟩) hown hxe 20 rfl [(79, "java/lang/IndexOutOfBoundsException")] (by decide +kernel) (List.forall_mem_cons.mpr ⟨⟨by decide, (hts (.classLink RL 79 "java/lang/IndexOutOfBoundsException") (by decide +kernel)), hT.2.2.2.1 ("java/lang/IllegalArgumentException", "java/lang/IndexOutOfBoundsException") (by decide +kernel)⟩, (fun _ h => absurd h List.not_mem_nil)⟩) (by decide) (by decide) (hts (.classLink RL 82 "java/lang/IllegalArgumentException") (by decide +kernel)) (va_Nw.use rfl (hT.2.2.1 ("java/lang/IllegalArgumentException", "java/lang/IllegalArgumentException") (by decide +kernel))) hce hcv hcl ?_
    refine W.eq (g2 := F0 m 472 ls [.ref q9]) rfl ?_
    refine lv_astore_n (lv' := [(3, .ref q9), (0, .ref xo), (1, .int 71), (2, .ref va)]) hx hb dL_ask_472 rfl hl (by decide) rfl (fun ls hl => ?_)
    refine lv_ldc (v := (-2000000002)) hx hb hown (hts (.constant RL 84 (-2000000002)) (by decide +kernel)) dL_ask_473 ?_
    refine vx_ret ?_
    exact W.iret (v := (-2000000002)) hx hb hr (fun t ht hW => ⟨⟨(-2000000002), (), rfl, rfl, q_RW_mk hP hK hD [1] [] rfl rfl (by decide) rfl ht hW.alike⟩, hS.F ht⟩) hS.2.2 dL_ask_475
  · exact w_1200.elim
theorem dL_ask_261 : decode cL_ask 261 = .ok (.aload_n 0, 1) := by decide +kernel
theorem dL_ask_262 : decode cL_ask 262 = .ok (.aload_n 2, 1) := by decide +kernel
theorem dL_ask_263 : decode cL_ask 263 = .ok (.iconst 0, 1) := by decide +kernel
theorem dL_ask_264 : decode cL_ask 264 = .ok (.iaload, 1) := by decide +kernel
theorem dL_ask_265 : decode cL_ask 265 = .ok (.aload_n 2, 1) := by decide +kernel
theorem dL_ask_266 : decode cL_ask 266 = .ok (.iconst 1, 1) := by decide +kernel
theorem dL_ask_267 : decode cL_ask 267 = .ok (.iaload, 1) := by decide +kernel
theorem dL_ask_268 : decode cL_ask 268 = .ok (.invokevirtual 13, 3) := by decide +kernel
theorem dL_ask_468 : decode cL_ask 468 = .ok (.astore_n 3, 1) := by decide +kernel
theorem dL_ask_469 : decode cL_ask 469 = .ok (.ldc 81, 2) := by decide +kernel
theorem dL_ask_471 : decode cL_ask 471 = .ok (.ireturn, 1) := by decide +kernel
def wzEL_ask_agree_no : List Cond := [.codeWith yL_ask cL_ask 4 (some .int) ttL_ask, .methodLink RL 13 yX6_agree, .instanceMethod yX6_agree, .selects RX6 yX6_agree yX6_agree, .initialized RX6, .code yX6_agree cX6_agree 5 (some .boolean), .methodLink RX6 89 yX6_findGlass, .instanceMethod yX6_findGlass, .selects RX6 yX6_findGlass yX6_findGlass, .code yX6_findGlass cX6_findGlass 3 (some (.object "Gatherhouse$Glass")), .fieldLink RX6 11 "Gatherhouse" "glasses" "[LGatherhouse$Glass;", .classLink RX6 365 "java/lang/IndexOutOfBoundsException", .initialized "java/lang/IndexOutOfBoundsException", .classLink RL 79 "java/lang/IndexOutOfBoundsException", .constant RL 81 (-2000000001)]
def wzL_ask_agree_no : List Cond := wzEL_ask_agree_no ++ (u_ws RX6 TX6 16 ++ ((vx_atS RX6 369 "java/lang/IndexOutOfBoundsException" ["java/lang/RuntimeException", "java/lang/Exception"]).filter goodWord))
theorem zgEL_ask_agree_no : wzEL_ask_agree_no.all goodWord = true := by decide +kernel
theorem zuL_ask_agree_no_X6 : ∀ w ∈ u_ws RX6 TX6 16, w ∈ wzL_ask_agree_no := (fun _ h => (List.mem_append_right _ (List.mem_append_left _ h)))
theorem ztL_ask_agree_no_X6_369 : ∀ w ∈ (vx_atS RX6 369 "java/lang/IndexOutOfBoundsException" ["java/lang/RuntimeException", "java/lang/Exception"]).filter goodWord, w ∈ wzL_ask_agree_no := (fun _ h => (List.mem_append_right _ (List.mem_append_right _ h)))
theorem gzL_ask_agree_no_X6_agree_no_13 : GoodIn wzL_ask_agree_no (wsV RL 13 RX6 yX6_agree wzX6_agree_no) := (goodIn_app (z_lift (goodIn_r _ [1, 2, 3, 4] rfl (by decide +kernel))) (goodIn_app (z_lift (goodIn_r wzEX6_agree_no [5, 6, 7, 8, 4, 9, 10, 11, 12] rfl zgEX6_agree_no)) (goodIn_app (goodIn_sub (fun _ h => (List.mem_append_right _ (List.mem_append_left _ h))) zgU_X6) (goodIn_sub (fun _ h => (List.mem_append_right _ (List.mem_append_right _ h))) zgV_X6_369))))
set_option maxHeartbeats 4000000 in
set_option maxRecDepth 100000 in
theorem zc_L_ask_agree_no (l : Launch) (hnt : l.stackTraces = false) (D : va_G) (G : Nat × Nat × (Nat → Int32)) (xo : Nat) (va : Nat) (xg : Nat) (gc : Int32) (xp : Nat) (pc : Int32) (xq : Nat) (qc : Int32) (r1 : Nat) (r2 : Nat) (r3 : Nat) (r4 : Nat) (se : Nat) (ts : Int32) (hou : Int32) (dr : Int32) (su : Int32) (br : Int32) (cg : ClassId) (ci : ClassId) (sz : Nat) : vx_Met l yL_ask wzL_ask_agree_no ({ frames := 8, cells := 1, slots := 6, locals := 128 }) (va_Pc [.ref xo, .int 65, .ref va] (p_RW D G [(cg, .object "Gatherhouse$Glass"), (ci, .int)] [(xo, .inr (6, [.ref xg, .int gc, .ref xp, .int pc, .ref xq, .int qc, .ref r1, .ref r2, .ref r3, .ref r4, .ref se, .int ts, .int hou, .int dr, .int su, .int br])), (xg, .inl (cg, 6, .inr (.inr (.inr (.inr (zq [none, none, none, none, none, none])))))), (va, .inl (ci, 2, .inl (zi [0, 0])))] sz)) (va_Qi (fun (r : Int32) (u : Unit) => r = (-2000000001)) (fun (u : Unit) (t : State) => q_RW D [(cg, .object "Gatherhouse$Glass")] [(xo, .inr (6, [.ref xg, .int gc, .ref xp, .int pc, .ref xq, .int qc, .ref r1, .ref r2, .ref r3, .ref r4, .ref se, .int ts, .int hou, .int dr, .int su, .int br])), (xg, .inl (cg, 6, .inr (.inr (.inr (.inr (zq [none, none, none, none, none, none]))))))] (va_A [(xo, .inr (6, [.ref xg, .int gc, .ref xp, .int pc, .ref xq, .int qc, .ref r1, .ref r2, .ref r3, .ref r4, .ref se, .int ts, .int hou, .int dr, .int su, .int br])), (xg, .inl (cg, 6, .inr (.inr (.inr (.inr (zq [none, none, none, none, none, none])))))), (va, .inl (ci, 2, .inl (zi [0, 0])))] sz) t) (va_A [(xo, .inr (6, [.ref xg, .int gc, .ref xp, .int pc, .ref xq, .int qc, .ref r1, .ref r2, .ref r3, .ref r4, .ref se, .int ts, .int hou, .int dr, .int su, .int br])), (xg, .inl (cg, 6, .inr (.inr (.inr (.inr (zq [none, none, none, none, none, none])))))), (va, .inl (ci, 2, .inl (zi [0, 0])))] sz)) (vx_X (fun (_ : Unit) => True) (fun E (_ : Unit) (_ : State) => False) (va_A [(xo, .inr (6, [.ref xg, .int gc, .ref xp, .int pc, .ref xq, .int qc, .ref r1, .ref r2, .ref r3, .ref r4, .ref se, .int ts, .int hou, .int dr, .int su, .int br])), (xg, .inl (cg, 6, .inr (.inr (.inr (.inr (zq [none, none, none, none, none, none])))))), (va, .inl (ci, 2, .inl (zi [0, 0])))] sz)) 1 6 (va_A [(xo, .inr (6, [.ref xg, .int gc, .ref xp, .int pc, .ref xq, .int qc, .ref r1, .ref r2, .ref r3, .ref r4, .ref se, .int ts, .int hou, .int dr, .int su, .int br])), (xg, .inl (cg, 6, .inr (.inr (.inr (.inr (zq [none, none, none, none, none, none])))))), (va, .inl (ci, 2, .inl (zi [0, 0])))] sz) := by
  refine vx_ofWH (cc := cL_ask) (maxL := 4) (ret := (some .int)) (by decide) rfl ?_
  intro p e s m args below meth c s₁ B hml hv
  obtain ⟨rfl, hsz, hP, hK, hD0, hT, hZ⟩ := hv
  have hx := B.exec
  have hb := B.bytes
  have hr := B.returns
  have hts := atoms_spec (ws := wzL_ask_agree_no) B.pre
  have hown : s.vm.findClass RL = some m.cls := findClass_of_methodNamed B.named
  have hlocks := B.notSynchronized
  have hxe := vx_table (x := yL_ask) B (hts _ List.mem_cons_self)
  subst hsz
  have hD := hD0.self (sz := s.heap.size)
  generalize hAe : va_A [(xo, .inr (6, [.ref xg, .int gc, .ref xp, .int pc, .ref xq, .int qc, .ref r1, .ref r2, .ref r3, .ref r4, .ref se, .int ts, .int hou, .int dr, .int su, .int br])), (xg, .inl (cg, 6, .inr (.inr (.inr (.inr (zq [none, none, none, none, none, none])))))), (va, .inl (ci, 2, .inl (zi [0, 0])))] s.heap.size = A at hD hZ ⊢
  have hA : ∀ q : Nat, s.heap.size ≤ q → A q := fun q h => by rw [← hAe]; exact Or.inr h
  have hS : va_S A s.heap s.heap [] := va_S.rf
  have hl := lv_entry ([.ref xo, .int 65, .ref va]) (n := 4) (Nat.le_of_ble_eq_true rfl)
  rw [lg_entry_eq]
  generalize (lg_sl ([.ref xo, .int 65, .ref va]) ++ List.replicate (4 - (lg_sl ([.ref xo, .int 65, .ref va])).length) Slot.unset).toArray = ls at hl ⊢
  have hl : lv_has ls 4 [(0, .ref xo), (1, .int 65), (2, .ref va)] := hl
  refine lv_iload_n hx hb dL_ask_0 rfl (lv_at hl 1 rfl) ?_
  refine lv_tableIn (off := 260) (tgt := 261) hx hb dL_ask_1 (by decide +kernel) (by decide +kernel) (by decide +kernel) (by decide) ?_
  refine lv_aload_n hx hb dL_ask_261 rfl (lv_at hl 0 rfl) ?_
  refine lv_aload_n hx hb dL_ask_262 rfl (lv_at hl 2 rfl) ?_
  refine lv_iconst (v := 0) hx hb dL_ask_263 (by decide) ?_
  refine va_iald (D := D) (cl := vwCl) hx hb hK hP 2 1 rfl rfl (vp_in_nI (n := 0) (N := 2) (by decide) (by decide)) dL_ask_264 ?_
  refine W.eq (g2 := F0 m 265 ls [.int 0, .ref xo]) rfl ?_
  refine lv_aload_n hx hb dL_ask_265 rfl (lv_at hl 2 rfl) ?_
  refine lv_iconst (v := 1) hx hb dL_ask_266 (by decide) ?_
  refine va_iald (D := D) (cl := vwCl) hx hb hK hP 2 1 rfl rfl (vp_in_nI (n := 1) (N := 2) (by decide) (by decide)) dL_ask_267 ?_
  refine W.eq (g2 := F0 m 268 ls [.int 0, .int 0, .ref xo]) rfl ?_
  have hFc := va_free (wc := [(xo, .inr (6, [.ref xg, .int gc, .ref xp, .int pc, .ref xq, .int qc, .ref r1, .ref r2, .ref r3, .ref r4, .ref se, .int ts, .int hou, .int dr, .int su, .int br])), (xg, .inl (cg, 6, .inr (.inr (.inr (.inr (zq [none, none, none, none, none, none]))))))]) hD hS hA [0, 1] rfl
  refine vx_calli (vx_runV (As := [.int 0, .int 0]) (rest := []) ⟨hx, hb, hml, hown, hts⟩ (zc_X6_agree_no l hnt D G xo xg gc xp pc xq qc r1 r2 r3 r4 se ts hou dr su br cg s.heap.size) (cwV 2 hts gzL_ask_agree_no_X6_agree_no_13 rfl rfl rfl (by decide +kernel) ⟨(Nat.le_of_ble_eq_true rfl), (Nat.le_of_ble_eq_true rfl)⟩) ⟨p_RW_blind, va_recv hK hP (ci := 6) (q0 := 0) rfl rfl, (p_RW_at (tc := [(cg, .object "Gatherhouse$Glass")]) (wc := [(xo, .inr (6, [.ref xg, .int gc, .ref xp, .int pc, .ref xq, .int qc, .ref r1, .ref r2, .ref r3, .ref r4, .ref se, .int ts, .int hou, .int dr, .int su, .int br])), (xg, .inl (cg, 6, .inr (.inr (.inr (.inr (zq [none, none, none, none, none, none]))))))]) hP hK hD hS hA hT hZ [0, 1] [0] rfl rfl (by decide) rfl [.ref xo, .int 0, .int 0])⟩ rfl rfl hl.1 rfl (lv_room (Nat.le_of_ble_eq_true rfl)) dL_ask_268 ⟨(Nat.le_of_ble_eq_true rfl), (Nat.le_of_ble_eq_true rfl)⟩) hS (fun q _ h => hFc q h) hFc (fun q _ h => hFc q h) (fun E ce q9 u t H locs ht hvm hpx hBX hz1 hk1 hS hce hcv hcl => ?_) (fun r_1201 u t H locs ht hvm w_1202 hB hz1 hk1 hS => ?_)
  · obtain ⟨hBX, hB⟩ := hBX
    obtain ⟨hP, hD, hK⟩ := q_join (D := D) (wc := [(xo, .inr (6, [.ref xg, .int gc, .ref xp, .int pc, .ref xq, .int qc, .ref r1, .ref r2, .ref r3, .ref r4, .ref se, .int ts, .int hou, .int dr, .int su, .int br])), (xg, .inl (cg, 6, .inr (.inr (.inr (.inr (zq [none, none, none, none, none, none]))))))]) (wr := [(va, .inl (ci, 2, .inl (zi [0, 0])))]) (w1 := [(xo, .inr (6, [.ref xg, .int gc, .ref xp, .int pc, .ref xq, .int qc, .ref r1, .ref r2, .ref r3, .ref r4, .ref se, .int ts, .int hou, .int dr, .int su, .int br])), (xg, .inl (cg, 6, .inr (.inr (.inr (.inr (zq [none, none, none, none, none, none]))))))]) (tyr := [(ci, .int)]) (ty1 := [(cg, .object "Gatherhouse$Glass")]) hP hD hK [0, 1] [2] [1] rfl rfl (by decide) (by decide) rfl hFc hk1 ht hvm hB
    have hP : va_P D vwCl [(va, .inl (ci, 2, .inl (zi [0, 0]))), (xo, .inr (6, [.ref xg, .int gc, .ref xp, .int pc, .ref xq, .int qc, .ref r1, .ref r2, .ref r3, .ref r4, .ref se, .int ts, .int hou, .int dr, .int su, .int br])), (xg, .inl (cg, 6, .inr (.inr (.inr (.inr (zq [none, none, none, none, none, none]))))))] H := hP
    have hD : va_D A [(va, .inl (ci, 2, .inl (zi [0, 0]))), (xo, .inr (6, [.ref xg, .int gc, .ref xp, .int pc, .ref xq, .int qc, .ref r1, .ref r2, .ref r3, .ref r4, .ref se, .int ts, .int hou, .int dr, .int su, .int br])), (xg, .inl (cg, 6, .inr (.inr (.inr (.inr (zq [none, none, none, none, none, none]))))))] := hD
    have hK : va_K D vwCl [(ci, .int), (cg, .object "Gatherhouse$Glass")] s := hK
    have hBX : (E = "java/lang/IndexOutOfBoundsException") := hBX
    rcases hBX with rfl
    refine z_catch (own := RL) (name := "java/lang/IndexOutOfBoundsException") (hh := ttL_ask) (x := ⟨261, 279, 468, 79⟩) hown hxe 1 rfl [] (by decide +kernel) (fun _ h => absurd h List.not_mem_nil) (by decide) (by decide) (hts (.classLink RL 79 "java/lang/IndexOutOfBoundsException") (by decide +kernel)) (va_Nw.use rfl (hT.2.2.1 ("java/lang/IndexOutOfBoundsException", "java/lang/IndexOutOfBoundsException") (by decide +kernel))) hce hcv hcl ?_
    refine W.eq (g2 := F0 m 468 ls [.ref q9]) rfl ?_
    refine lv_astore_n (lv' := [(3, .ref q9), (0, .ref xo), (1, .int 65), (2, .ref va)]) hx hb dL_ask_468 rfl hl (by decide) rfl (fun ls hl => ?_)
    refine lv_ldc (v := (-2000000001)) hx hb hown (hts (.constant RL 81 (-2000000001)) (by decide +kernel)) dL_ask_469 ?_
    refine vx_ret ?_
    exact W.iret (v := (-2000000001)) hx hb hr (fun t ht hW => ⟨⟨(-2000000001), (), rfl, rfl, q_RW_mk hP hK hD [1, 2] [1] rfl rfl (by decide) rfl ht hW.alike⟩, hS.F ht⟩) hS.2.2 dL_ask_471
  · exact w_1202.elim
theorem dL_ask_280 : decode cL_ask 280 = .ok (.aload_n 0, 1) := by decide +kernel
theorem dL_ask_281 : decode cL_ask 281 = .ok (.aload_n 2, 1) := by decide +kernel
theorem dL_ask_282 : decode cL_ask 282 = .ok (.iconst 0, 1) := by decide +kernel
theorem dL_ask_283 : decode cL_ask 283 = .ok (.iaload, 1) := by decide +kernel
theorem dL_ask_284 : decode cL_ask 284 = .ok (.invokevirtual 17, 3) := by decide +kernel
def wzEL_ask_pot_no : List Cond := [.codeWith yL_ask cL_ask 4 (some .int) ttL_ask, .methodLink RL 17 yX6_pot, .instanceMethod yX6_pot, .selects RX6 yX6_pot yX6_pot, .initialized RX6, .code yX6_pot cX6_pot 3 (some .int), .methodLink RX6 89 yX6_findGlass, .instanceMethod yX6_findGlass, .selects RX6 yX6_findGlass yX6_findGlass, .code yX6_findGlass cX6_findGlass 3 (some (.object "Gatherhouse$Glass")), .fieldLink RX6 11 "Gatherhouse" "glasses" "[LGatherhouse$Glass;", .classLink RX6 365 "java/lang/IndexOutOfBoundsException", .initialized "java/lang/IndexOutOfBoundsException", .classLink RL 79 "java/lang/IndexOutOfBoundsException", .constant RL 81 (-2000000001)]
def wzL_ask_pot_no : List Cond := wzEL_ask_pot_no ++ (u_ws RX6 TX6 16 ++ ((vx_atS RX6 369 "java/lang/IndexOutOfBoundsException" ["java/lang/RuntimeException", "java/lang/Exception"]).filter goodWord))
theorem zgEL_ask_pot_no : wzEL_ask_pot_no.all goodWord = true := by decide +kernel
theorem zuL_ask_pot_no_X6 : ∀ w ∈ u_ws RX6 TX6 16, w ∈ wzL_ask_pot_no := (fun _ h => (List.mem_append_right _ (List.mem_append_left _ h)))
theorem ztL_ask_pot_no_X6_369 : ∀ w ∈ (vx_atS RX6 369 "java/lang/IndexOutOfBoundsException" ["java/lang/RuntimeException", "java/lang/Exception"]).filter goodWord, w ∈ wzL_ask_pot_no := (fun _ h => (List.mem_append_right _ (List.mem_append_right _ h)))
theorem gzL_ask_pot_no_X6_pot_no_17 : GoodIn wzL_ask_pot_no (wsV RL 17 RX6 yX6_pot wzX6_pot_no) := (goodIn_app (z_lift (goodIn_r _ [1, 2, 3, 4] rfl (by decide +kernel))) (goodIn_app (z_lift (goodIn_r wzEX6_pot_no [5, 6, 7, 8, 4, 9, 10, 11, 12] rfl zgEX6_pot_no)) (goodIn_app (goodIn_sub (fun _ h => (List.mem_append_right _ (List.mem_append_left _ h))) zgU_X6) (goodIn_sub (fun _ h => (List.mem_append_right _ (List.mem_append_right _ h))) zgV_X6_369))))
set_option maxHeartbeats 4000000 in
set_option maxRecDepth 100000 in
theorem zc_L_ask_pot_no (l : Launch) (hnt : l.stackTraces = false) (D : va_G) (G : Nat × Nat × (Nat → Int32)) (xo : Nat) (va : Nat) (xg : Nat) (gc : Int32) (xp : Nat) (pc : Int32) (xq : Nat) (qc : Int32) (r1 : Nat) (r2 : Nat) (r3 : Nat) (r4 : Nat) (se : Nat) (ts : Int32) (hou : Int32) (dr : Int32) (su : Int32) (br : Int32) (cg : ClassId) (ci : ClassId) (sz : Nat) : vx_Met l yL_ask wzL_ask_pot_no ({ frames := 8, cells := 1, slots := 6, locals := 126 }) (va_Pc [.ref xo, .int 80, .ref va] (p_RW D G [(cg, .object "Gatherhouse$Glass"), (ci, .int)] [(xo, .inr (6, [.ref xg, .int gc, .ref xp, .int pc, .ref xq, .int qc, .ref r1, .ref r2, .ref r3, .ref r4, .ref se, .int ts, .int hou, .int dr, .int su, .int br])), (xg, .inl (cg, 6, .inr (.inr (.inr (.inr (zq [none, none, none, none, none, none])))))), (va, .inl (ci, 1, .inl (zi [0])))] sz)) (va_Qi (fun (r : Int32) (u : Unit) => r = (-2000000001)) (fun (u : Unit) (t : State) => q_RW D [(cg, .object "Gatherhouse$Glass")] [(xo, .inr (6, [.ref xg, .int gc, .ref xp, .int pc, .ref xq, .int qc, .ref r1, .ref r2, .ref r3, .ref r4, .ref se, .int ts, .int hou, .int dr, .int su, .int br])), (xg, .inl (cg, 6, .inr (.inr (.inr (.inr (zq [none, none, none, none, none, none]))))))] (va_A [(xo, .inr (6, [.ref xg, .int gc, .ref xp, .int pc, .ref xq, .int qc, .ref r1, .ref r2, .ref r3, .ref r4, .ref se, .int ts, .int hou, .int dr, .int su, .int br])), (xg, .inl (cg, 6, .inr (.inr (.inr (.inr (zq [none, none, none, none, none, none])))))), (va, .inl (ci, 1, .inl (zi [0])))] sz) t) (va_A [(xo, .inr (6, [.ref xg, .int gc, .ref xp, .int pc, .ref xq, .int qc, .ref r1, .ref r2, .ref r3, .ref r4, .ref se, .int ts, .int hou, .int dr, .int su, .int br])), (xg, .inl (cg, 6, .inr (.inr (.inr (.inr (zq [none, none, none, none, none, none])))))), (va, .inl (ci, 1, .inl (zi [0])))] sz)) (vx_X (fun (_ : Unit) => True) (fun E (_ : Unit) (_ : State) => False) (va_A [(xo, .inr (6, [.ref xg, .int gc, .ref xp, .int pc, .ref xq, .int qc, .ref r1, .ref r2, .ref r3, .ref r4, .ref se, .int ts, .int hou, .int dr, .int su, .int br])), (xg, .inl (cg, 6, .inr (.inr (.inr (.inr (zq [none, none, none, none, none, none])))))), (va, .inl (ci, 1, .inl (zi [0])))] sz)) 1 6 (va_A [(xo, .inr (6, [.ref xg, .int gc, .ref xp, .int pc, .ref xq, .int qc, .ref r1, .ref r2, .ref r3, .ref r4, .ref se, .int ts, .int hou, .int dr, .int su, .int br])), (xg, .inl (cg, 6, .inr (.inr (.inr (.inr (zq [none, none, none, none, none, none])))))), (va, .inl (ci, 1, .inl (zi [0])))] sz) := by
  refine vx_ofWH (cc := cL_ask) (maxL := 4) (ret := (some .int)) (by decide) rfl ?_
  intro p e s m args below meth c s₁ B hml hv
  obtain ⟨rfl, hsz, hP, hK, hD0, hT, hZ⟩ := hv
  have hx := B.exec
  have hb := B.bytes
  have hr := B.returns
  have hts := atoms_spec (ws := wzL_ask_pot_no) B.pre
  have hown : s.vm.findClass RL = some m.cls := findClass_of_methodNamed B.named
  have hlocks := B.notSynchronized
  have hxe := vx_table (x := yL_ask) B (hts _ List.mem_cons_self)
  subst hsz
  have hD := hD0.self (sz := s.heap.size)
  generalize hAe : va_A [(xo, .inr (6, [.ref xg, .int gc, .ref xp, .int pc, .ref xq, .int qc, .ref r1, .ref r2, .ref r3, .ref r4, .ref se, .int ts, .int hou, .int dr, .int su, .int br])), (xg, .inl (cg, 6, .inr (.inr (.inr (.inr (zq [none, none, none, none, none, none])))))), (va, .inl (ci, 1, .inl (zi [0])))] s.heap.size = A at hD hZ ⊢
  have hA : ∀ q : Nat, s.heap.size ≤ q → A q := fun q h => by rw [← hAe]; exact Or.inr h
  have hS : va_S A s.heap s.heap [] := va_S.rf
  have hl := lv_entry ([.ref xo, .int 80, .ref va]) (n := 4) (Nat.le_of_ble_eq_true rfl)
  rw [lg_entry_eq]
  generalize (lg_sl ([.ref xo, .int 80, .ref va]) ++ List.replicate (4 - (lg_sl ([.ref xo, .int 80, .ref va])).length) Slot.unset).toArray = ls at hl ⊢
  have hl : lv_has ls 4 [(0, .ref xo), (1, .int 80), (2, .ref va)] := hl
  refine lv_iload_n hx hb dL_ask_0 rfl (lv_at hl 1 rfl) ?_
  refine lv_tableIn (off := 279) (tgt := 280) hx hb dL_ask_1 (by decide +kernel) (by decide +kernel) (by decide +kernel) (by decide) ?_
  refine lv_aload_n hx hb dL_ask_280 rfl (lv_at hl 0 rfl) ?_
  refine lv_aload_n hx hb dL_ask_281 rfl (lv_at hl 2 rfl) ?_
  refine lv_iconst (v := 0) hx hb dL_ask_282 (by decide) ?_
  refine va_iald (D := D) (cl := vwCl) hx hb hK hP 2 1 rfl rfl (vp_in_nI (n := 0) (N := 1) (by decide) (by decide)) dL_ask_283 ?_
  refine W.eq (g2 := F0 m 284 ls [.int 0, .ref xo]) rfl ?_
  have hFc := va_free (wc := [(xo, .inr (6, [.ref xg, .int gc, .ref xp, .int pc, .ref xq, .int qc, .ref r1, .ref r2, .ref r3, .ref r4, .ref se, .int ts, .int hou, .int dr, .int su, .int br])), (xg, .inl (cg, 6, .inr (.inr (.inr (.inr (zq [none, none, none, none, none, none]))))))]) hD hS hA [0, 1] rfl
  refine vx_calli (vx_runV (As := [.int 0]) (rest := []) ⟨hx, hb, hml, hown, hts⟩ (zc_X6_pot_no l hnt D G xo xg gc xp pc xq qc r1 r2 r3 r4 se ts hou dr su br cg s.heap.size) (cwV 1 hts gzL_ask_pot_no_X6_pot_no_17 rfl rfl rfl (by decide +kernel) ⟨(Nat.le_of_ble_eq_true rfl), (Nat.le_of_ble_eq_true rfl)⟩) ⟨p_RW_blind, va_recv hK hP (ci := 6) (q0 := 0) rfl rfl, (p_RW_at (tc := [(cg, .object "Gatherhouse$Glass")]) (wc := [(xo, .inr (6, [.ref xg, .int gc, .ref xp, .int pc, .ref xq, .int qc, .ref r1, .ref r2, .ref r3, .ref r4, .ref se, .int ts, .int hou, .int dr, .int su, .int br])), (xg, .inl (cg, 6, .inr (.inr (.inr (.inr (zq [none, none, none, none, none, none]))))))]) hP hK hD hS hA hT hZ [0, 1] [0] rfl rfl (by decide) rfl [.ref xo, .int 0])⟩ rfl rfl hl.1 rfl (lv_room (Nat.le_of_ble_eq_true rfl)) dL_ask_284 ⟨(Nat.le_of_ble_eq_true rfl), (Nat.le_of_ble_eq_true rfl)⟩) hS (fun q _ h => hFc q h) hFc (fun q _ h => hFc q h) (fun E ce q9 u t H locs ht hvm hpx hBX hz1 hk1 hS hce hcv hcl => ?_) (fun r_1203 u t H locs ht hvm w_1204 hB hz1 hk1 hS => ?_)
  · obtain ⟨hBX, hB⟩ := hBX
    obtain ⟨hP, hD, hK⟩ := q_join (D := D) (wc := [(xo, .inr (6, [.ref xg, .int gc, .ref xp, .int pc, .ref xq, .int qc, .ref r1, .ref r2, .ref r3, .ref r4, .ref se, .int ts, .int hou, .int dr, .int su, .int br])), (xg, .inl (cg, 6, .inr (.inr (.inr (.inr (zq [none, none, none, none, none, none]))))))]) (wr := [(va, .inl (ci, 1, .inl (zi [0])))]) (w1 := [(xo, .inr (6, [.ref xg, .int gc, .ref xp, .int pc, .ref xq, .int qc, .ref r1, .ref r2, .ref r3, .ref r4, .ref se, .int ts, .int hou, .int dr, .int su, .int br])), (xg, .inl (cg, 6, .inr (.inr (.inr (.inr (zq [none, none, none, none, none, none]))))))]) (tyr := [(ci, .int)]) (ty1 := [(cg, .object "Gatherhouse$Glass")]) hP hD hK [0, 1] [2] [1] rfl rfl (by decide) (by decide) rfl hFc hk1 ht hvm hB
    have hP : va_P D vwCl [(va, .inl (ci, 1, .inl (zi [0]))), (xo, .inr (6, [.ref xg, .int gc, .ref xp, .int pc, .ref xq, .int qc, .ref r1, .ref r2, .ref r3, .ref r4, .ref se, .int ts, .int hou, .int dr, .int su, .int br])), (xg, .inl (cg, 6, .inr (.inr (.inr (.inr (zq [none, none, none, none, none, none]))))))] H := hP
    have hD : va_D A [(va, .inl (ci, 1, .inl (zi [0]))), (xo, .inr (6, [.ref xg, .int gc, .ref xp, .int pc, .ref xq, .int qc, .ref r1, .ref r2, .ref r3, .ref r4, .ref se, .int ts, .int hou, .int dr, .int su, .int br])), (xg, .inl (cg, 6, .inr (.inr (.inr (.inr (zq [none, none, none, none, none, none]))))))] := hD
    have hK : va_K D vwCl [(ci, .int), (cg, .object "Gatherhouse$Glass")] s := hK
    have hBX : (E = "java/lang/IndexOutOfBoundsException") := hBX
    rcases hBX with rfl
    refine z_catch (own := RL) (name := "java/lang/IndexOutOfBoundsException") (hh := ttL_ask) (x := ⟨280, 287, 468, 79⟩) hown hxe 2 rfl [] (by decide +kernel) (fun _ h => absurd h List.not_mem_nil) (by decide) (by decide) (hts (.classLink RL 79 "java/lang/IndexOutOfBoundsException") (by decide +kernel)) (va_Nw.use rfl (hT.2.2.1 ("java/lang/IndexOutOfBoundsException", "java/lang/IndexOutOfBoundsException") (by decide +kernel))) hce hcv hcl ?_
    refine W.eq (g2 := F0 m 468 ls [.ref q9]) rfl ?_
    refine lv_astore_n (lv' := [(3, .ref q9), (0, .ref xo), (1, .int 80), (2, .ref va)]) hx hb dL_ask_468 rfl hl (by decide) rfl (fun ls hl => ?_)
    refine lv_ldc (v := (-2000000001)) hx hb hown (hts (.constant RL 81 (-2000000001)) (by decide +kernel)) dL_ask_469 ?_
    refine vx_ret ?_
    exact W.iret (v := (-2000000001)) hx hb hr (fun t ht hW => ⟨⟨(-2000000001), (), rfl, rfl, q_RW_mk hP hK hD [1, 2] [1] rfl rfl (by decide) rfl ht hW.alike⟩, hS.F ht⟩) hS.2.2 dL_ask_471
  · exact w_1204.elim
theorem dL_ask_288 : decode cL_ask 288 = .ok (.aload_n 0, 1) := by decide +kernel
theorem dL_ask_289 : decode cL_ask 289 = .ok (.aload_n 2, 1) := by decide +kernel
theorem dL_ask_290 : decode cL_ask 290 = .ok (.iconst 0, 1) := by decide +kernel
theorem dL_ask_291 : decode cL_ask 291 = .ok (.iaload, 1) := by decide +kernel
theorem dL_ask_292 : decode cL_ask 292 = .ok (.aload_n 2, 1) := by decide +kernel
theorem dL_ask_293 : decode cL_ask 293 = .ok (.iconst 1, 1) := by decide +kernel
theorem dL_ask_294 : decode cL_ask 294 = .ok (.iaload, 1) := by decide +kernel
theorem dL_ask_295 : decode cL_ask 295 = .ok (.invokevirtual 21, 3) := by decide +kernel
def wzEL_ask_charge_no : List Cond := [.codeWith yL_ask cL_ask 4 (some .int) ttL_ask, .methodLink RL 21 yX6_charge, .instanceMethod yX6_charge, .selects RX6 yX6_charge yX6_charge, .initialized RX6, .code yX6_charge cX6_charge 4 (some .int), .methodLink RX6 102 yX6_findPot, .instanceMethod yX6_findPot, .selects RX6 yX6_findPot yX6_findPot, .code yX6_findPot cX6_findPot 3 (some (.object "Gatherhouse$Pot")), .fieldLink RX6 21 "Gatherhouse" "pots" "[LGatherhouse$Pot;", .classLink RX6 365 "java/lang/IndexOutOfBoundsException", .initialized "java/lang/IndexOutOfBoundsException", .classLink RL 79 "java/lang/IndexOutOfBoundsException", .constant RL 81 (-2000000001)]
def wzL_ask_charge_no : List Cond := wzEL_ask_charge_no ++ (u_ws RX6 TX6 16 ++ ((vx_atS RX6 369 "java/lang/IndexOutOfBoundsException" ["java/lang/RuntimeException", "java/lang/Exception"]).filter goodWord))
theorem zgEL_ask_charge_no : wzEL_ask_charge_no.all goodWord = true := by decide +kernel
theorem zuL_ask_charge_no_X6 : ∀ w ∈ u_ws RX6 TX6 16, w ∈ wzL_ask_charge_no := (fun _ h => (List.mem_append_right _ (List.mem_append_left _ h)))
theorem ztL_ask_charge_no_X6_369 : ∀ w ∈ (vx_atS RX6 369 "java/lang/IndexOutOfBoundsException" ["java/lang/RuntimeException", "java/lang/Exception"]).filter goodWord, w ∈ wzL_ask_charge_no := (fun _ h => (List.mem_append_right _ (List.mem_append_right _ h)))
theorem gzL_ask_charge_no_X6_charge_no_21 : GoodIn wzL_ask_charge_no (wsV RL 21 RX6 yX6_charge wzX6_charge_no) := (goodIn_app (z_lift (goodIn_r _ [1, 2, 3, 4] rfl (by decide +kernel))) (goodIn_app (z_lift (goodIn_r wzEX6_charge_no [5, 6, 7, 8, 4, 9, 10, 11, 12] rfl zgEX6_charge_no)) (goodIn_app (goodIn_sub (fun _ h => (List.mem_append_right _ (List.mem_append_left _ h))) zgU_X6) (goodIn_sub (fun _ h => (List.mem_append_right _ (List.mem_append_right _ h))) zgV_X6_369))))
set_option maxHeartbeats 4000000 in
set_option maxRecDepth 100000 in
theorem zc_L_ask_charge_no (l : Launch) (hnt : l.stackTraces = false) (D : va_G) (G : Nat × Nat × (Nat → Int32)) (xo : Nat) (va : Nat) (xg : Nat) (gc : Int32) (xp : Nat) (pc : Int32) (xq : Nat) (qc : Int32) (r1 : Nat) (r2 : Nat) (r3 : Nat) (r4 : Nat) (se : Nat) (ts : Int32) (hou : Int32) (dr : Int32) (su : Int32) (br : Int32) (cp : ClassId) (ci : ClassId) (sz : Nat) : vx_Met l yL_ask wzL_ask_charge_no ({ frames := 8, cells := 1, slots := 6, locals := 127 }) (va_Pc [.ref xo, .int 67, .ref va] (p_RW D G [(cp, .object "Gatherhouse$Pot"), (ci, .int)] [(xo, .inr (6, [.ref xg, .int gc, .ref xp, .int pc, .ref xq, .int qc, .ref r1, .ref r2, .ref r3, .ref r4, .ref se, .int ts, .int hou, .int dr, .int su, .int br])), (xp, .inl (cp, 4, .inr (.inr (.inr (.inr (zq [none, none, none, none])))))), (va, .inl (ci, 2, .inl (zi [0, 0])))] sz)) (va_Qi (fun (r : Int32) (u : Unit) => r = (-2000000001)) (fun (u : Unit) (t : State) => q_RW D [(cp, .object "Gatherhouse$Pot")] [(xo, .inr (6, [.ref xg, .int gc, .ref xp, .int pc, .ref xq, .int qc, .ref r1, .ref r2, .ref r3, .ref r4, .ref se, .int ts, .int hou, .int dr, .int su, .int br])), (xp, .inl (cp, 4, .inr (.inr (.inr (.inr (zq [none, none, none, none]))))))] (va_A [(xo, .inr (6, [.ref xg, .int gc, .ref xp, .int pc, .ref xq, .int qc, .ref r1, .ref r2, .ref r3, .ref r4, .ref se, .int ts, .int hou, .int dr, .int su, .int br])), (xp, .inl (cp, 4, .inr (.inr (.inr (.inr (zq [none, none, none, none])))))), (va, .inl (ci, 2, .inl (zi [0, 0])))] sz) t) (va_A [(xo, .inr (6, [.ref xg, .int gc, .ref xp, .int pc, .ref xq, .int qc, .ref r1, .ref r2, .ref r3, .ref r4, .ref se, .int ts, .int hou, .int dr, .int su, .int br])), (xp, .inl (cp, 4, .inr (.inr (.inr (.inr (zq [none, none, none, none])))))), (va, .inl (ci, 2, .inl (zi [0, 0])))] sz)) (vx_X (fun (_ : Unit) => True) (fun E (_ : Unit) (_ : State) => False) (va_A [(xo, .inr (6, [.ref xg, .int gc, .ref xp, .int pc, .ref xq, .int qc, .ref r1, .ref r2, .ref r3, .ref r4, .ref se, .int ts, .int hou, .int dr, .int su, .int br])), (xp, .inl (cp, 4, .inr (.inr (.inr (.inr (zq [none, none, none, none])))))), (va, .inl (ci, 2, .inl (zi [0, 0])))] sz)) 1 6 (va_A [(xo, .inr (6, [.ref xg, .int gc, .ref xp, .int pc, .ref xq, .int qc, .ref r1, .ref r2, .ref r3, .ref r4, .ref se, .int ts, .int hou, .int dr, .int su, .int br])), (xp, .inl (cp, 4, .inr (.inr (.inr (.inr (zq [none, none, none, none])))))), (va, .inl (ci, 2, .inl (zi [0, 0])))] sz) := by
  refine vx_ofWH (cc := cL_ask) (maxL := 4) (ret := (some .int)) (by decide) rfl ?_
  intro p e s m args below meth c s₁ B hml hv
  obtain ⟨rfl, hsz, hP, hK, hD0, hT, hZ⟩ := hv
  have hx := B.exec
  have hb := B.bytes
  have hr := B.returns
  have hts := atoms_spec (ws := wzL_ask_charge_no) B.pre
  have hown : s.vm.findClass RL = some m.cls := findClass_of_methodNamed B.named
  have hlocks := B.notSynchronized
  have hxe := vx_table (x := yL_ask) B (hts _ List.mem_cons_self)
  subst hsz
  have hD := hD0.self (sz := s.heap.size)
  generalize hAe : va_A [(xo, .inr (6, [.ref xg, .int gc, .ref xp, .int pc, .ref xq, .int qc, .ref r1, .ref r2, .ref r3, .ref r4, .ref se, .int ts, .int hou, .int dr, .int su, .int br])), (xp, .inl (cp, 4, .inr (.inr (.inr (.inr (zq [none, none, none, none])))))), (va, .inl (ci, 2, .inl (zi [0, 0])))] s.heap.size = A at hD hZ ⊢
  have hA : ∀ q : Nat, s.heap.size ≤ q → A q := fun q h => by rw [← hAe]; exact Or.inr h
  have hS : va_S A s.heap s.heap [] := va_S.rf
  have hl := lv_entry ([.ref xo, .int 67, .ref va]) (n := 4) (Nat.le_of_ble_eq_true rfl)
  rw [lg_entry_eq]
  generalize (lg_sl ([.ref xo, .int 67, .ref va]) ++ List.replicate (4 - (lg_sl ([.ref xo, .int 67, .ref va])).length) Slot.unset).toArray = ls at hl ⊢
  have hl : lv_has ls 4 [(0, .ref xo), (1, .int 67), (2, .ref va)] := hl
  refine lv_iload_n hx hb dL_ask_0 rfl (lv_at hl 1 rfl) ?_
  refine lv_tableIn (off := 287) (tgt := 288) hx hb dL_ask_1 (by decide +kernel) (by decide +kernel) (by decide +kernel) (by decide) ?_
  refine lv_aload_n hx hb dL_ask_288 rfl (lv_at hl 0 rfl) ?_
  refine lv_aload_n hx hb dL_ask_289 rfl (lv_at hl 2 rfl) ?_
  refine lv_iconst (v := 0) hx hb dL_ask_290 (by decide) ?_
  refine va_iald (D := D) (cl := vwCl) hx hb hK hP 2 1 rfl rfl (vp_in_nI (n := 0) (N := 2) (by decide) (by decide)) dL_ask_291 ?_
  refine W.eq (g2 := F0 m 292 ls [.int 0, .ref xo]) rfl ?_
  refine lv_aload_n hx hb dL_ask_292 rfl (lv_at hl 2 rfl) ?_
  refine lv_iconst (v := 1) hx hb dL_ask_293 (by decide) ?_
  refine va_iald (D := D) (cl := vwCl) hx hb hK hP 2 1 rfl rfl (vp_in_nI (n := 1) (N := 2) (by decide) (by decide)) dL_ask_294 ?_
  refine W.eq (g2 := F0 m 295 ls [.int 0, .int 0, .ref xo]) rfl ?_
  have hFc := va_free (wc := [(xo, .inr (6, [.ref xg, .int gc, .ref xp, .int pc, .ref xq, .int qc, .ref r1, .ref r2, .ref r3, .ref r4, .ref se, .int ts, .int hou, .int dr, .int su, .int br])), (xp, .inl (cp, 4, .inr (.inr (.inr (.inr (zq [none, none, none, none]))))))]) hD hS hA [0, 1] rfl
  refine vx_calli (vx_runV (As := [.int 0, .int 0]) (rest := []) ⟨hx, hb, hml, hown, hts⟩ (zc_X6_charge_no l hnt D G xo xg gc xp pc xq qc r1 r2 r3 r4 se ts hou dr su br cp s.heap.size) (cwV 2 hts gzL_ask_charge_no_X6_charge_no_21 rfl rfl rfl (by decide +kernel) ⟨(Nat.le_of_ble_eq_true rfl), (Nat.le_of_ble_eq_true rfl)⟩) ⟨p_RW_blind, va_recv hK hP (ci := 6) (q0 := 0) rfl rfl, (p_RW_at (tc := [(cp, .object "Gatherhouse$Pot")]) (wc := [(xo, .inr (6, [.ref xg, .int gc, .ref xp, .int pc, .ref xq, .int qc, .ref r1, .ref r2, .ref r3, .ref r4, .ref se, .int ts, .int hou, .int dr, .int su, .int br])), (xp, .inl (cp, 4, .inr (.inr (.inr (.inr (zq [none, none, none, none]))))))]) hP hK hD hS hA hT hZ [0, 1] [0] rfl rfl (by decide) rfl [.ref xo, .int 0, .int 0])⟩ rfl rfl hl.1 rfl (lv_room (Nat.le_of_ble_eq_true rfl)) dL_ask_295 ⟨(Nat.le_of_ble_eq_true rfl), (Nat.le_of_ble_eq_true rfl)⟩) hS (fun q _ h => hFc q h) hFc (fun q _ h => hFc q h) (fun E ce q9 u t H locs ht hvm hpx hBX hz1 hk1 hS hce hcv hcl => ?_) (fun r_1205 u t H locs ht hvm w_1206 hB hz1 hk1 hS => ?_)
  · obtain ⟨hBX, hB⟩ := hBX
    obtain ⟨hP, hD, hK⟩ := q_join (D := D) (wc := [(xo, .inr (6, [.ref xg, .int gc, .ref xp, .int pc, .ref xq, .int qc, .ref r1, .ref r2, .ref r3, .ref r4, .ref se, .int ts, .int hou, .int dr, .int su, .int br])), (xp, .inl (cp, 4, .inr (.inr (.inr (.inr (zq [none, none, none, none]))))))]) (wr := [(va, .inl (ci, 2, .inl (zi [0, 0])))]) (w1 := [(xo, .inr (6, [.ref xg, .int gc, .ref xp, .int pc, .ref xq, .int qc, .ref r1, .ref r2, .ref r3, .ref r4, .ref se, .int ts, .int hou, .int dr, .int su, .int br])), (xp, .inl (cp, 4, .inr (.inr (.inr (.inr (zq [none, none, none, none]))))))]) (tyr := [(ci, .int)]) (ty1 := [(cp, .object "Gatherhouse$Pot")]) hP hD hK [0, 1] [2] [1] rfl rfl (by decide) (by decide) rfl hFc hk1 ht hvm hB
    have hP : va_P D vwCl [(va, .inl (ci, 2, .inl (zi [0, 0]))), (xo, .inr (6, [.ref xg, .int gc, .ref xp, .int pc, .ref xq, .int qc, .ref r1, .ref r2, .ref r3, .ref r4, .ref se, .int ts, .int hou, .int dr, .int su, .int br])), (xp, .inl (cp, 4, .inr (.inr (.inr (.inr (zq [none, none, none, none]))))))] H := hP
    have hD : va_D A [(va, .inl (ci, 2, .inl (zi [0, 0]))), (xo, .inr (6, [.ref xg, .int gc, .ref xp, .int pc, .ref xq, .int qc, .ref r1, .ref r2, .ref r3, .ref r4, .ref se, .int ts, .int hou, .int dr, .int su, .int br])), (xp, .inl (cp, 4, .inr (.inr (.inr (.inr (zq [none, none, none, none]))))))] := hD
    have hK : va_K D vwCl [(ci, .int), (cp, .object "Gatherhouse$Pot")] s := hK
    have hBX : (E = "java/lang/IndexOutOfBoundsException") := hBX
    rcases hBX with rfl
    refine z_catch (own := RL) (name := "java/lang/IndexOutOfBoundsException") (hh := ttL_ask) (x := ⟨288, 298, 468, 79⟩) hown hxe 3 rfl [] (by decide +kernel) (fun _ h => absurd h List.not_mem_nil) (by decide) (by decide) (hts (.classLink RL 79 "java/lang/IndexOutOfBoundsException") (by decide +kernel)) (va_Nw.use rfl (hT.2.2.1 ("java/lang/IndexOutOfBoundsException", "java/lang/IndexOutOfBoundsException") (by decide +kernel))) hce hcv hcl ?_
    refine W.eq (g2 := F0 m 468 ls [.ref q9]) rfl ?_
    refine lv_astore_n (lv' := [(3, .ref q9), (0, .ref xo), (1, .int 67), (2, .ref va)]) hx hb dL_ask_468 rfl hl (by decide) rfl (fun ls hl => ?_)
    refine lv_ldc (v := (-2000000001)) hx hb hown (hts (.constant RL 81 (-2000000001)) (by decide +kernel)) dL_ask_469 ?_
    refine vx_ret ?_
    exact W.iret (v := (-2000000001)) hx hb hr (fun t ht hW => ⟨⟨(-2000000001), (), rfl, rfl, q_RW_mk hP hK hD [1, 2] [1] rfl rfl (by decide) rfl ht hW.alike⟩, hS.F ht⟩) hS.2.2 dL_ask_471
  · exact w_1206.elim
theorem dL_ask_299 : decode cL_ask 299 = .ok (.aload_n 0, 1) := by decide +kernel
theorem dL_ask_300 : decode cL_ask 300 = .ok (.aload_n 2, 1) := by decide +kernel
theorem dL_ask_301 : decode cL_ask 301 = .ok (.iconst 0, 1) := by decide +kernel
theorem dL_ask_302 : decode cL_ask 302 = .ok (.iaload, 1) := by decide +kernel
theorem dL_ask_303 : decode cL_ask 303 = .ok (.invokevirtual 25, 3) := by decide +kernel
def wzEL_ask_change_no : List Cond := [.codeWith yL_ask cL_ask 4 (some .int) ttL_ask, .methodLink RL 25 yX6_change, .instanceMethod yX6_change, .selects RX6 yX6_change yX6_change, .initialized RX6, .code yX6_change cX6_change 4 (some .int), .methodLink RX6 102 yX6_findPot, .instanceMethod yX6_findPot, .selects RX6 yX6_findPot yX6_findPot, .code yX6_findPot cX6_findPot 3 (some (.object "Gatherhouse$Pot")), .fieldLink RX6 21 "Gatherhouse" "pots" "[LGatherhouse$Pot;", .classLink RX6 365 "java/lang/IndexOutOfBoundsException", .initialized "java/lang/IndexOutOfBoundsException", .classLink RL 79 "java/lang/IndexOutOfBoundsException", .constant RL 81 (-2000000001)]
def wzL_ask_change_no : List Cond := wzEL_ask_change_no ++ (u_ws RX6 TX6 16 ++ ((vx_atS RX6 369 "java/lang/IndexOutOfBoundsException" ["java/lang/RuntimeException", "java/lang/Exception"]).filter goodWord))
theorem zgEL_ask_change_no : wzEL_ask_change_no.all goodWord = true := by decide +kernel
theorem zuL_ask_change_no_X6 : ∀ w ∈ u_ws RX6 TX6 16, w ∈ wzL_ask_change_no := (fun _ h => (List.mem_append_right _ (List.mem_append_left _ h)))
theorem ztL_ask_change_no_X6_369 : ∀ w ∈ (vx_atS RX6 369 "java/lang/IndexOutOfBoundsException" ["java/lang/RuntimeException", "java/lang/Exception"]).filter goodWord, w ∈ wzL_ask_change_no := (fun _ h => (List.mem_append_right _ (List.mem_append_right _ h)))
theorem gzL_ask_change_no_X6_change_no_25 : GoodIn wzL_ask_change_no (wsV RL 25 RX6 yX6_change wzX6_change_no) := (goodIn_app (z_lift (goodIn_r _ [1, 2, 3, 4] rfl (by decide +kernel))) (goodIn_app (z_lift (goodIn_r wzEX6_change_no [5, 6, 7, 8, 4, 9, 10, 11, 12] rfl zgEX6_change_no)) (goodIn_app (goodIn_sub (fun _ h => (List.mem_append_right _ (List.mem_append_left _ h))) zgU_X6) (goodIn_sub (fun _ h => (List.mem_append_right _ (List.mem_append_right _ h))) zgV_X6_369))))
set_option maxHeartbeats 4000000 in
set_option maxRecDepth 100000 in
theorem zc_L_ask_change_no (l : Launch) (hnt : l.stackTraces = false) (D : va_G) (G : Nat × Nat × (Nat → Int32)) (xo : Nat) (va : Nat) (xg : Nat) (gc : Int32) (xp : Nat) (pc : Int32) (xq : Nat) (qc : Int32) (r1 : Nat) (r2 : Nat) (r3 : Nat) (r4 : Nat) (se : Nat) (ts : Int32) (hou : Int32) (dr : Int32) (su : Int32) (br : Int32) (cp : ClassId) (ci : ClassId) (sz : Nat) : vx_Met l yL_ask wzL_ask_change_no ({ frames := 8, cells := 1, slots := 6, locals := 127 }) (va_Pc [.ref xo, .int 99, .ref va] (p_RW D G [(cp, .object "Gatherhouse$Pot"), (ci, .int)] [(xo, .inr (6, [.ref xg, .int gc, .ref xp, .int pc, .ref xq, .int qc, .ref r1, .ref r2, .ref r3, .ref r4, .ref se, .int ts, .int hou, .int dr, .int su, .int br])), (xp, .inl (cp, 4, .inr (.inr (.inr (.inr (zq [none, none, none, none])))))), (va, .inl (ci, 1, .inl (zi [0])))] sz)) (va_Qi (fun (r : Int32) (u : Unit) => r = (-2000000001)) (fun (u : Unit) (t : State) => q_RW D [(cp, .object "Gatherhouse$Pot")] [(xo, .inr (6, [.ref xg, .int gc, .ref xp, .int pc, .ref xq, .int qc, .ref r1, .ref r2, .ref r3, .ref r4, .ref se, .int ts, .int hou, .int dr, .int su, .int br])), (xp, .inl (cp, 4, .inr (.inr (.inr (.inr (zq [none, none, none, none]))))))] (va_A [(xo, .inr (6, [.ref xg, .int gc, .ref xp, .int pc, .ref xq, .int qc, .ref r1, .ref r2, .ref r3, .ref r4, .ref se, .int ts, .int hou, .int dr, .int su, .int br])), (xp, .inl (cp, 4, .inr (.inr (.inr (.inr (zq [none, none, none, none])))))), (va, .inl (ci, 1, .inl (zi [0])))] sz) t) (va_A [(xo, .inr (6, [.ref xg, .int gc, .ref xp, .int pc, .ref xq, .int qc, .ref r1, .ref r2, .ref r3, .ref r4, .ref se, .int ts, .int hou, .int dr, .int su, .int br])), (xp, .inl (cp, 4, .inr (.inr (.inr (.inr (zq [none, none, none, none])))))), (va, .inl (ci, 1, .inl (zi [0])))] sz)) (vx_X (fun (_ : Unit) => True) (fun E (_ : Unit) (_ : State) => False) (va_A [(xo, .inr (6, [.ref xg, .int gc, .ref xp, .int pc, .ref xq, .int qc, .ref r1, .ref r2, .ref r3, .ref r4, .ref se, .int ts, .int hou, .int dr, .int su, .int br])), (xp, .inl (cp, 4, .inr (.inr (.inr (.inr (zq [none, none, none, none])))))), (va, .inl (ci, 1, .inl (zi [0])))] sz)) 1 6 (va_A [(xo, .inr (6, [.ref xg, .int gc, .ref xp, .int pc, .ref xq, .int qc, .ref r1, .ref r2, .ref r3, .ref r4, .ref se, .int ts, .int hou, .int dr, .int su, .int br])), (xp, .inl (cp, 4, .inr (.inr (.inr (.inr (zq [none, none, none, none])))))), (va, .inl (ci, 1, .inl (zi [0])))] sz) := by
  refine vx_ofWH (cc := cL_ask) (maxL := 4) (ret := (some .int)) (by decide) rfl ?_
  intro p e s m args below meth c s₁ B hml hv
  obtain ⟨rfl, hsz, hP, hK, hD0, hT, hZ⟩ := hv
  have hx := B.exec
  have hb := B.bytes
  have hr := B.returns
  have hts := atoms_spec (ws := wzL_ask_change_no) B.pre
  have hown : s.vm.findClass RL = some m.cls := findClass_of_methodNamed B.named
  have hlocks := B.notSynchronized
  have hxe := vx_table (x := yL_ask) B (hts _ List.mem_cons_self)
  subst hsz
  have hD := hD0.self (sz := s.heap.size)
  generalize hAe : va_A [(xo, .inr (6, [.ref xg, .int gc, .ref xp, .int pc, .ref xq, .int qc, .ref r1, .ref r2, .ref r3, .ref r4, .ref se, .int ts, .int hou, .int dr, .int su, .int br])), (xp, .inl (cp, 4, .inr (.inr (.inr (.inr (zq [none, none, none, none])))))), (va, .inl (ci, 1, .inl (zi [0])))] s.heap.size = A at hD hZ ⊢
  have hA : ∀ q : Nat, s.heap.size ≤ q → A q := fun q h => by rw [← hAe]; exact Or.inr h
  have hS : va_S A s.heap s.heap [] := va_S.rf
  have hl := lv_entry ([.ref xo, .int 99, .ref va]) (n := 4) (Nat.le_of_ble_eq_true rfl)
  rw [lg_entry_eq]
  generalize (lg_sl ([.ref xo, .int 99, .ref va]) ++ List.replicate (4 - (lg_sl ([.ref xo, .int 99, .ref va])).length) Slot.unset).toArray = ls at hl ⊢
  have hl : lv_has ls 4 [(0, .ref xo), (1, .int 99), (2, .ref va)] := hl
  refine lv_iload_n hx hb dL_ask_0 rfl (lv_at hl 1 rfl) ?_
  refine lv_tableIn (off := 298) (tgt := 299) hx hb dL_ask_1 (by decide +kernel) (by decide +kernel) (by decide +kernel) (by decide) ?_
  refine lv_aload_n hx hb dL_ask_299 rfl (lv_at hl 0 rfl) ?_
  refine lv_aload_n hx hb dL_ask_300 rfl (lv_at hl 2 rfl) ?_
  refine lv_iconst (v := 0) hx hb dL_ask_301 (by decide) ?_
  refine va_iald (D := D) (cl := vwCl) hx hb hK hP 2 1 rfl rfl (vp_in_nI (n := 0) (N := 1) (by decide) (by decide)) dL_ask_302 ?_
  refine W.eq (g2 := F0 m 303 ls [.int 0, .ref xo]) rfl ?_
  have hFc := va_free (wc := [(xo, .inr (6, [.ref xg, .int gc, .ref xp, .int pc, .ref xq, .int qc, .ref r1, .ref r2, .ref r3, .ref r4, .ref se, .int ts, .int hou, .int dr, .int su, .int br])), (xp, .inl (cp, 4, .inr (.inr (.inr (.inr (zq [none, none, none, none]))))))]) hD hS hA [0, 1] rfl
  refine vx_calli (vx_runV (As := [.int 0]) (rest := []) ⟨hx, hb, hml, hown, hts⟩ (zc_X6_change_no l hnt D G xo xg gc xp pc xq qc r1 r2 r3 r4 se ts hou dr su br cp s.heap.size) (cwV 1 hts gzL_ask_change_no_X6_change_no_25 rfl rfl rfl (by decide +kernel) ⟨(Nat.le_of_ble_eq_true rfl), (Nat.le_of_ble_eq_true rfl)⟩) ⟨p_RW_blind, va_recv hK hP (ci := 6) (q0 := 0) rfl rfl, (p_RW_at (tc := [(cp, .object "Gatherhouse$Pot")]) (wc := [(xo, .inr (6, [.ref xg, .int gc, .ref xp, .int pc, .ref xq, .int qc, .ref r1, .ref r2, .ref r3, .ref r4, .ref se, .int ts, .int hou, .int dr, .int su, .int br])), (xp, .inl (cp, 4, .inr (.inr (.inr (.inr (zq [none, none, none, none]))))))]) hP hK hD hS hA hT hZ [0, 1] [0] rfl rfl (by decide) rfl [.ref xo, .int 0])⟩ rfl rfl hl.1 rfl (lv_room (Nat.le_of_ble_eq_true rfl)) dL_ask_303 ⟨(Nat.le_of_ble_eq_true rfl), (Nat.le_of_ble_eq_true rfl)⟩) hS (fun q _ h => hFc q h) hFc (fun q _ h => hFc q h) (fun E ce q9 u t H locs ht hvm hpx hBX hz1 hk1 hS hce hcv hcl => ?_) (fun r_1207 u t H locs ht hvm w_1208 hB hz1 hk1 hS => ?_)
  · obtain ⟨hBX, hB⟩ := hBX
    obtain ⟨hP, hD, hK⟩ := q_join (D := D) (wc := [(xo, .inr (6, [.ref xg, .int gc, .ref xp, .int pc, .ref xq, .int qc, .ref r1, .ref r2, .ref r3, .ref r4, .ref se, .int ts, .int hou, .int dr, .int su, .int br])), (xp, .inl (cp, 4, .inr (.inr (.inr (.inr (zq [none, none, none, none]))))))]) (wr := [(va, .inl (ci, 1, .inl (zi [0])))]) (w1 := [(xo, .inr (6, [.ref xg, .int gc, .ref xp, .int pc, .ref xq, .int qc, .ref r1, .ref r2, .ref r3, .ref r4, .ref se, .int ts, .int hou, .int dr, .int su, .int br])), (xp, .inl (cp, 4, .inr (.inr (.inr (.inr (zq [none, none, none, none]))))))]) (tyr := [(ci, .int)]) (ty1 := [(cp, .object "Gatherhouse$Pot")]) hP hD hK [0, 1] [2] [1] rfl rfl (by decide) (by decide) rfl hFc hk1 ht hvm hB
    have hP : va_P D vwCl [(va, .inl (ci, 1, .inl (zi [0]))), (xo, .inr (6, [.ref xg, .int gc, .ref xp, .int pc, .ref xq, .int qc, .ref r1, .ref r2, .ref r3, .ref r4, .ref se, .int ts, .int hou, .int dr, .int su, .int br])), (xp, .inl (cp, 4, .inr (.inr (.inr (.inr (zq [none, none, none, none]))))))] H := hP
    have hD : va_D A [(va, .inl (ci, 1, .inl (zi [0]))), (xo, .inr (6, [.ref xg, .int gc, .ref xp, .int pc, .ref xq, .int qc, .ref r1, .ref r2, .ref r3, .ref r4, .ref se, .int ts, .int hou, .int dr, .int su, .int br])), (xp, .inl (cp, 4, .inr (.inr (.inr (.inr (zq [none, none, none, none]))))))] := hD
    have hK : va_K D vwCl [(ci, .int), (cp, .object "Gatherhouse$Pot")] s := hK
    have hBX : (E = "java/lang/IndexOutOfBoundsException") := hBX
    rcases hBX with rfl
    refine z_catch (own := RL) (name := "java/lang/IndexOutOfBoundsException") (hh := ttL_ask) (x := ⟨299, 306, 468, 79⟩) hown hxe 4 rfl [] (by decide +kernel) (fun _ h => absurd h List.not_mem_nil) (by decide) (by decide) (hts (.classLink RL 79 "java/lang/IndexOutOfBoundsException") (by decide +kernel)) (va_Nw.use rfl (hT.2.2.1 ("java/lang/IndexOutOfBoundsException", "java/lang/IndexOutOfBoundsException") (by decide +kernel))) hce hcv hcl ?_
    refine W.eq (g2 := F0 m 468 ls [.ref q9]) rfl ?_
    refine lv_astore_n (lv' := [(3, .ref q9), (0, .ref xo), (1, .int 99), (2, .ref va)]) hx hb dL_ask_468 rfl hl (by decide) rfl (fun ls hl => ?_)
    refine lv_ldc (v := (-2000000001)) hx hb hown (hts (.constant RL 81 (-2000000001)) (by decide +kernel)) dL_ask_469 ?_
    refine vx_ret ?_
    exact W.iret (v := (-2000000001)) hx hb hr (fun t ht hW => ⟨⟨(-2000000001), (), rfl, rfl, q_RW_mk hP hK hD [1, 2] [1] rfl rfl (by decide) rfl ht hW.alike⟩, hS.F ht⟩) hS.2.2 dL_ask_471
  · exact w_1208.elim
theorem dL_ask_307 : decode cL_ask 307 = .ok (.aload_n 0, 1) := by decide +kernel
theorem dL_ask_308 : decode cL_ask 308 = .ok (.aload_n 2, 1) := by decide +kernel
theorem dL_ask_309 : decode cL_ask 309 = .ok (.iconst 0, 1) := by decide +kernel
theorem dL_ask_310 : decode cL_ask 310 = .ok (.iaload, 1) := by decide +kernel
theorem dL_ask_311 : decode cL_ask 311 = .ok (.aload_n 2, 1) := by decide +kernel
theorem dL_ask_312 : decode cL_ask 312 = .ok (.iconst 1, 1) := by decide +kernel
theorem dL_ask_313 : decode cL_ask 313 = .ok (.iaload, 1) := by decide +kernel
theorem dL_ask_314 : decode cL_ask 314 = .ok (.i2c, 1) := by decide +kernel
theorem dL_ask_315 : decode cL_ask 315 = .ok (.invokevirtual 28, 3) := by decide +kernel
def wzEL_ask_of_no : List Cond := [.codeWith yL_ask cL_ask 4 (some .int) ttL_ask, .methodLink RL 28 yX6_of, .instanceMethod yX6_of, .selects RX6 yX6_of yX6_of, .initialized RX6, .code yX6_of cX6_of 4 (some .int), .methodLink RX6 102 yX6_findPot, .instanceMethod yX6_findPot, .selects RX6 yX6_findPot yX6_findPot, .code yX6_findPot cX6_findPot 3 (some (.object "Gatherhouse$Pot")), .fieldLink RX6 21 "Gatherhouse" "pots" "[LGatherhouse$Pot;", .classLink RX6 365 "java/lang/IndexOutOfBoundsException", .initialized "java/lang/IndexOutOfBoundsException", .classLink RL 79 "java/lang/IndexOutOfBoundsException", .constant RL 81 (-2000000001)]
def wzL_ask_of_no : List Cond := wzEL_ask_of_no ++ (u_ws RX6 TX6 16 ++ ((vx_atS RX6 369 "java/lang/IndexOutOfBoundsException" ["java/lang/RuntimeException", "java/lang/Exception"]).filter goodWord))
theorem zgEL_ask_of_no : wzEL_ask_of_no.all goodWord = true := by decide +kernel
theorem zuL_ask_of_no_X6 : ∀ w ∈ u_ws RX6 TX6 16, w ∈ wzL_ask_of_no := (fun _ h => (List.mem_append_right _ (List.mem_append_left _ h)))
theorem ztL_ask_of_no_X6_369 : ∀ w ∈ (vx_atS RX6 369 "java/lang/IndexOutOfBoundsException" ["java/lang/RuntimeException", "java/lang/Exception"]).filter goodWord, w ∈ wzL_ask_of_no := (fun _ h => (List.mem_append_right _ (List.mem_append_right _ h)))
theorem gzL_ask_of_no_X6_of_no_28 : GoodIn wzL_ask_of_no (wsV RL 28 RX6 yX6_of wzX6_of_no) := (goodIn_app (z_lift (goodIn_r _ [1, 2, 3, 4] rfl (by decide +kernel))) (goodIn_app (z_lift (goodIn_r wzEX6_of_no [5, 6, 7, 8, 4, 9, 10, 11, 12] rfl zgEX6_of_no)) (goodIn_app (goodIn_sub (fun _ h => (List.mem_append_right _ (List.mem_append_left _ h))) zgU_X6) (goodIn_sub (fun _ h => (List.mem_append_right _ (List.mem_append_right _ h))) zgV_X6_369))))
set_option maxHeartbeats 4000000 in
set_option maxRecDepth 100000 in
theorem zc_L_ask_of_no (l : Launch) (hnt : l.stackTraces = false) (D : va_G) (G : Nat × Nat × (Nat → Int32)) (xo : Nat) (va : Nat) (xg : Nat) (gc : Int32) (xp : Nat) (pc : Int32) (xq : Nat) (qc : Int32) (r1 : Nat) (r2 : Nat) (r3 : Nat) (r4 : Nat) (se : Nat) (ts : Int32) (hou : Int32) (dr : Int32) (su : Int32) (br : Int32) (cp : ClassId) (ci : ClassId) (sz : Nat) : vx_Met l yL_ask wzL_ask_of_no ({ frames := 8, cells := 1, slots := 6, locals := 127 }) (va_Pc [.ref xo, .int 111, .ref va] (p_RW D G [(cp, .object "Gatherhouse$Pot"), (ci, .int)] [(xo, .inr (6, [.ref xg, .int gc, .ref xp, .int pc, .ref xq, .int qc, .ref r1, .ref r2, .ref r3, .ref r4, .ref se, .int ts, .int hou, .int dr, .int su, .int br])), (xp, .inl (cp, 4, .inr (.inr (.inr (.inr (zq [none, none, none, none])))))), (va, .inl (ci, 2, .inl (zi [0, 120])))] sz)) (va_Qi (fun (r : Int32) (u : Unit) => r = (-2000000001)) (fun (u : Unit) (t : State) => q_RW D [(cp, .object "Gatherhouse$Pot")] [(xo, .inr (6, [.ref xg, .int gc, .ref xp, .int pc, .ref xq, .int qc, .ref r1, .ref r2, .ref r3, .ref r4, .ref se, .int ts, .int hou, .int dr, .int su, .int br])), (xp, .inl (cp, 4, .inr (.inr (.inr (.inr (zq [none, none, none, none]))))))] (va_A [(xo, .inr (6, [.ref xg, .int gc, .ref xp, .int pc, .ref xq, .int qc, .ref r1, .ref r2, .ref r3, .ref r4, .ref se, .int ts, .int hou, .int dr, .int su, .int br])), (xp, .inl (cp, 4, .inr (.inr (.inr (.inr (zq [none, none, none, none])))))), (va, .inl (ci, 2, .inl (zi [0, 120])))] sz) t) (va_A [(xo, .inr (6, [.ref xg, .int gc, .ref xp, .int pc, .ref xq, .int qc, .ref r1, .ref r2, .ref r3, .ref r4, .ref se, .int ts, .int hou, .int dr, .int su, .int br])), (xp, .inl (cp, 4, .inr (.inr (.inr (.inr (zq [none, none, none, none])))))), (va, .inl (ci, 2, .inl (zi [0, 120])))] sz)) (vx_X (fun (_ : Unit) => True) (fun E (_ : Unit) (_ : State) => False) (va_A [(xo, .inr (6, [.ref xg, .int gc, .ref xp, .int pc, .ref xq, .int qc, .ref r1, .ref r2, .ref r3, .ref r4, .ref se, .int ts, .int hou, .int dr, .int su, .int br])), (xp, .inl (cp, 4, .inr (.inr (.inr (.inr (zq [none, none, none, none])))))), (va, .inl (ci, 2, .inl (zi [0, 120])))] sz)) 1 6 (va_A [(xo, .inr (6, [.ref xg, .int gc, .ref xp, .int pc, .ref xq, .int qc, .ref r1, .ref r2, .ref r3, .ref r4, .ref se, .int ts, .int hou, .int dr, .int su, .int br])), (xp, .inl (cp, 4, .inr (.inr (.inr (.inr (zq [none, none, none, none])))))), (va, .inl (ci, 2, .inl (zi [0, 120])))] sz) := by
  refine vx_ofWH (cc := cL_ask) (maxL := 4) (ret := (some .int)) (by decide) rfl ?_
  intro p e s m args below meth c s₁ B hml hv
  obtain ⟨rfl, hsz, hP, hK, hD0, hT, hZ⟩ := hv
  have hx := B.exec
  have hb := B.bytes
  have hr := B.returns
  have hts := atoms_spec (ws := wzL_ask_of_no) B.pre
  have hown : s.vm.findClass RL = some m.cls := findClass_of_methodNamed B.named
  have hlocks := B.notSynchronized
  have hxe := vx_table (x := yL_ask) B (hts _ List.mem_cons_self)
  subst hsz
  have hD := hD0.self (sz := s.heap.size)
  generalize hAe : va_A [(xo, .inr (6, [.ref xg, .int gc, .ref xp, .int pc, .ref xq, .int qc, .ref r1, .ref r2, .ref r3, .ref r4, .ref se, .int ts, .int hou, .int dr, .int su, .int br])), (xp, .inl (cp, 4, .inr (.inr (.inr (.inr (zq [none, none, none, none])))))), (va, .inl (ci, 2, .inl (zi [0, 120])))] s.heap.size = A at hD hZ ⊢
  have hA : ∀ q : Nat, s.heap.size ≤ q → A q := fun q h => by rw [← hAe]; exact Or.inr h
  have hS : va_S A s.heap s.heap [] := va_S.rf
  have hl := lv_entry ([.ref xo, .int 111, .ref va]) (n := 4) (Nat.le_of_ble_eq_true rfl)
  rw [lg_entry_eq]
  generalize (lg_sl ([.ref xo, .int 111, .ref va]) ++ List.replicate (4 - (lg_sl ([.ref xo, .int 111, .ref va])).length) Slot.unset).toArray = ls at hl ⊢
  have hl : lv_has ls 4 [(0, .ref xo), (1, .int 111), (2, .ref va)] := hl
  refine lv_iload_n hx hb dL_ask_0 rfl (lv_at hl 1 rfl) ?_
  refine lv_tableIn (off := 306) (tgt := 307) hx hb dL_ask_1 (by decide +kernel) (by decide +kernel) (by decide +kernel) (by decide) ?_
  refine lv_aload_n hx hb dL_ask_307 rfl (lv_at hl 0 rfl) ?_
  refine lv_aload_n hx hb dL_ask_308 rfl (lv_at hl 2 rfl) ?_
  refine lv_iconst (v := 0) hx hb dL_ask_309 (by decide) ?_
  refine va_iald (D := D) (cl := vwCl) hx hb hK hP 2 1 rfl rfl (vp_in_nI (n := 0) (N := 2) (by decide) (by decide)) dL_ask_310 ?_
  refine W.eq (g2 := F0 m 311 ls [.int 0, .ref xo]) rfl ?_
  refine lv_aload_n hx hb dL_ask_311 rfl (lv_at hl 2 rfl) ?_
  refine lv_iconst (v := 1) hx hb dL_ask_312 (by decide) ?_
  refine va_iald (D := D) (cl := vwCl) hx hb hK hP 2 1 rfl rfl (vp_in_nI (n := 1) (N := 2) (by decide) (by decide)) dL_ask_313 ?_
  refine W.eq (g2 := F0 m 314 ls [.int 120, .int 0, .ref xo]) rfl ?_
  refine lv_i2c (v := 120) hx hb dL_ask_314 (by decide +kernel) ?_
  have hFc := va_free (wc := [(xo, .inr (6, [.ref xg, .int gc, .ref xp, .int pc, .ref xq, .int qc, .ref r1, .ref r2, .ref r3, .ref r4, .ref se, .int ts, .int hou, .int dr, .int su, .int br])), (xp, .inl (cp, 4, .inr (.inr (.inr (.inr (zq [none, none, none, none]))))))]) hD hS hA [0, 1] rfl
  refine vx_calli (vx_runV (As := [.int 0, .int 120]) (rest := []) ⟨hx, hb, hml, hown, hts⟩ (zc_X6_of_no l hnt D G xo xg gc xp pc xq qc r1 r2 r3 r4 se ts hou dr su br cp s.heap.size) (cwV 2 hts gzL_ask_of_no_X6_of_no_28 rfl rfl rfl (by decide +kernel) ⟨(Nat.le_of_ble_eq_true rfl), (Nat.le_of_ble_eq_true rfl)⟩) ⟨p_RW_blind, va_recv hK hP (ci := 6) (q0 := 0) rfl rfl, (p_RW_at (tc := [(cp, .object "Gatherhouse$Pot")]) (wc := [(xo, .inr (6, [.ref xg, .int gc, .ref xp, .int pc, .ref xq, .int qc, .ref r1, .ref r2, .ref r3, .ref r4, .ref se, .int ts, .int hou, .int dr, .int su, .int br])), (xp, .inl (cp, 4, .inr (.inr (.inr (.inr (zq [none, none, none, none]))))))]) hP hK hD hS hA hT hZ [0, 1] [0] rfl rfl (by decide) rfl [.ref xo, .int 0, .int 120])⟩ rfl rfl hl.1 rfl (lv_room (Nat.le_of_ble_eq_true rfl)) dL_ask_315 ⟨(Nat.le_of_ble_eq_true rfl), (Nat.le_of_ble_eq_true rfl)⟩) hS (fun q _ h => hFc q h) hFc (fun q _ h => hFc q h) (fun E ce q9 u t H locs ht hvm hpx hBX hz1 hk1 hS hce hcv hcl => ?_) (fun r_1209 u t H locs ht hvm w_1210 hB hz1 hk1 hS => ?_)
  · obtain ⟨hBX, hB⟩ := hBX
    obtain ⟨hP, hD, hK⟩ := q_join (D := D) (wc := [(xo, .inr (6, [.ref xg, .int gc, .ref xp, .int pc, .ref xq, .int qc, .ref r1, .ref r2, .ref r3, .ref r4, .ref se, .int ts, .int hou, .int dr, .int su, .int br])), (xp, .inl (cp, 4, .inr (.inr (.inr (.inr (zq [none, none, none, none]))))))]) (wr := [(va, .inl (ci, 2, .inl (zi [0, 120])))]) (w1 := [(xo, .inr (6, [.ref xg, .int gc, .ref xp, .int pc, .ref xq, .int qc, .ref r1, .ref r2, .ref r3, .ref r4, .ref se, .int ts, .int hou, .int dr, .int su, .int br])), (xp, .inl (cp, 4, .inr (.inr (.inr (.inr (zq [none, none, none, none]))))))]) (tyr := [(ci, .int)]) (ty1 := [(cp, .object "Gatherhouse$Pot")]) hP hD hK [0, 1] [2] [1] rfl rfl (by decide) (by decide) rfl hFc hk1 ht hvm hB
    have hP : va_P D vwCl [(va, .inl (ci, 2, .inl (zi [0, 120]))), (xo, .inr (6, [.ref xg, .int gc, .ref xp, .int pc, .ref xq, .int qc, .ref r1, .ref r2, .ref r3, .ref r4, .ref se, .int ts, .int hou, .int dr, .int su, .int br])), (xp, .inl (cp, 4, .inr (.inr (.inr (.inr (zq [none, none, none, none]))))))] H := hP
    have hD : va_D A [(va, .inl (ci, 2, .inl (zi [0, 120]))), (xo, .inr (6, [.ref xg, .int gc, .ref xp, .int pc, .ref xq, .int qc, .ref r1, .ref r2, .ref r3, .ref r4, .ref se, .int ts, .int hou, .int dr, .int su, .int br])), (xp, .inl (cp, 4, .inr (.inr (.inr (.inr (zq [none, none, none, none]))))))] := hD
    have hK : va_K D vwCl [(ci, .int), (cp, .object "Gatherhouse$Pot")] s := hK
    have hBX : (E = "java/lang/IndexOutOfBoundsException") := hBX
    rcases hBX with rfl
    refine z_catch (own := RL) (name := "java/lang/IndexOutOfBoundsException") (hh := ttL_ask) (x := ⟨307, 318, 468, 79⟩) hown hxe 5 rfl [] (by decide +kernel) (fun _ h => absurd h List.not_mem_nil) (by decide) (by decide) (hts (.classLink RL 79 "java/lang/IndexOutOfBoundsException") (by decide +kernel)) (va_Nw.use rfl (hT.2.2.1 ("java/lang/IndexOutOfBoundsException", "java/lang/IndexOutOfBoundsException") (by decide +kernel))) hce hcv hcl ?_
    refine W.eq (g2 := F0 m 468 ls [.ref q9]) rfl ?_
    refine lv_astore_n (lv' := [(3, .ref q9), (0, .ref xo), (1, .int 111), (2, .ref va)]) hx hb dL_ask_468 rfl hl (by decide) rfl (fun ls hl => ?_)
    refine lv_ldc (v := (-2000000001)) hx hb hown (hts (.constant RL 81 (-2000000001)) (by decide +kernel)) dL_ask_469 ?_
    refine vx_ret ?_
    exact W.iret (v := (-2000000001)) hx hb hr (fun t ht hW => ⟨⟨(-2000000001), (), rfl, rfl, q_RW_mk hP hK hD [1, 2] [1] rfl rfl (by decide) rfl ht hW.alike⟩, hS.F ht⟩) hS.2.2 dL_ask_471
  · exact w_1210.elim
theorem dL_ask_353 : decode cL_ask 353 = .ok (.aload_n 0, 1) := by decide +kernel
theorem dL_ask_354 : decode cL_ask 354 = .ok (.aload_n 2, 1) := by decide +kernel
theorem dL_ask_355 : decode cL_ask 355 = .ok (.iconst 0, 1) := by decide +kernel
theorem dL_ask_356 : decode cL_ask 356 = .ok (.iaload, 1) := by decide +kernel
theorem dL_ask_357 : decode cL_ask 357 = .ok (.aload_n 2, 1) := by decide +kernel
theorem dL_ask_358 : decode cL_ask 358 = .ok (.iconst 1, 1) := by decide +kernel
theorem dL_ask_359 : decode cL_ask 359 = .ok (.iaload, 1) := by decide +kernel
theorem dL_ask_360 : decode cL_ask 360 = .ok (.invokevirtual 45, 3) := by decide +kernel
def wzEL_ask_gather_no : List Cond := [.codeWith yL_ask cL_ask 4 (some .int) ttL_ask, .methodLink RL 45 yX6_gather, .instanceMethod yX6_gather, .selects RX6 yX6_gather yX6_gather, .initialized RX6, .code yX6_gather cX6_gather 5 (some .int), .methodLink RX6 102 yX6_findPot, .instanceMethod yX6_findPot, .selects RX6 yX6_findPot yX6_findPot, .code yX6_findPot cX6_findPot 3 (some (.object "Gatherhouse$Pot")), .fieldLink RX6 21 "Gatherhouse" "pots" "[LGatherhouse$Pot;", .classLink RX6 365 "java/lang/IndexOutOfBoundsException", .initialized "java/lang/IndexOutOfBoundsException", .classLink RL 79 "java/lang/IndexOutOfBoundsException", .constant RL 81 (-2000000001)]
def wzL_ask_gather_no : List Cond := wzEL_ask_gather_no ++ (u_ws RX6 TX6 16 ++ ((vx_atS RX6 369 "java/lang/IndexOutOfBoundsException" ["java/lang/RuntimeException", "java/lang/Exception"]).filter goodWord))
theorem zgEL_ask_gather_no : wzEL_ask_gather_no.all goodWord = true := by decide +kernel
theorem zuL_ask_gather_no_X6 : ∀ w ∈ u_ws RX6 TX6 16, w ∈ wzL_ask_gather_no := (fun _ h => (List.mem_append_right _ (List.mem_append_left _ h)))
theorem ztL_ask_gather_no_X6_369 : ∀ w ∈ (vx_atS RX6 369 "java/lang/IndexOutOfBoundsException" ["java/lang/RuntimeException", "java/lang/Exception"]).filter goodWord, w ∈ wzL_ask_gather_no := (fun _ h => (List.mem_append_right _ (List.mem_append_right _ h)))
theorem gzL_ask_gather_no_X6_gather_no_45 : GoodIn wzL_ask_gather_no (wsV RL 45 RX6 yX6_gather wzX6_gather_no) := (goodIn_app (z_lift (goodIn_r _ [1, 2, 3, 4] rfl (by decide +kernel))) (goodIn_app (z_lift (goodIn_r wzEX6_gather_no [5, 6, 7, 8, 4, 9, 10, 11, 12] rfl zgEX6_gather_no)) (goodIn_app (goodIn_sub (fun _ h => (List.mem_append_right _ (List.mem_append_left _ h))) zgU_X6) (goodIn_sub (fun _ h => (List.mem_append_right _ (List.mem_append_right _ h))) zgV_X6_369))))
set_option maxHeartbeats 4000000 in
set_option maxRecDepth 100000 in
theorem zc_L_ask_gather_no (l : Launch) (hnt : l.stackTraces = false) (D : va_G) (G : Nat × Nat × (Nat → Int32)) (xo : Nat) (va : Nat) (xg : Nat) (gc : Int32) (xp : Nat) (pc : Int32) (xq : Nat) (qc : Int32) (r1 : Nat) (r2 : Nat) (r3 : Nat) (r4 : Nat) (se : Nat) (ts : Int32) (hou : Int32) (dr : Int32) (su : Int32) (br : Int32) (cp : ClassId) (ci : ClassId) (sz : Nat) : vx_Met l yL_ask wzL_ask_gather_no ({ frames := 8, cells := 1, slots := 6, locals := 128 }) (va_Pc [.ref xo, .int 103, .ref va] (p_RW D G [(cp, .object "Gatherhouse$Pot"), (ci, .int)] [(xo, .inr (6, [.ref xg, .int gc, .ref xp, .int pc, .ref xq, .int qc, .ref r1, .ref r2, .ref r3, .ref r4, .ref se, .int ts, .int hou, .int dr, .int su, .int br])), (xp, .inl (cp, 4, .inr (.inr (.inr (.inr (zq [none, none, none, none])))))), (va, .inl (ci, 2, .inl (zi [0, 9])))] sz)) (va_Qi (fun (r : Int32) (u : Unit) => r = (-2000000001)) (fun (u : Unit) (t : State) => q_RW D [(cp, .object "Gatherhouse$Pot")] [(xo, .inr (6, [.ref xg, .int gc, .ref xp, .int pc, .ref xq, .int qc, .ref r1, .ref r2, .ref r3, .ref r4, .ref se, .int ts, .int hou, .int dr, .int su, .int br])), (xp, .inl (cp, 4, .inr (.inr (.inr (.inr (zq [none, none, none, none]))))))] (va_A [(xo, .inr (6, [.ref xg, .int gc, .ref xp, .int pc, .ref xq, .int qc, .ref r1, .ref r2, .ref r3, .ref r4, .ref se, .int ts, .int hou, .int dr, .int su, .int br])), (xp, .inl (cp, 4, .inr (.inr (.inr (.inr (zq [none, none, none, none])))))), (va, .inl (ci, 2, .inl (zi [0, 9])))] sz) t) (va_A [(xo, .inr (6, [.ref xg, .int gc, .ref xp, .int pc, .ref xq, .int qc, .ref r1, .ref r2, .ref r3, .ref r4, .ref se, .int ts, .int hou, .int dr, .int su, .int br])), (xp, .inl (cp, 4, .inr (.inr (.inr (.inr (zq [none, none, none, none])))))), (va, .inl (ci, 2, .inl (zi [0, 9])))] sz)) (vx_X (fun (_ : Unit) => True) (fun E (_ : Unit) (_ : State) => False) (va_A [(xo, .inr (6, [.ref xg, .int gc, .ref xp, .int pc, .ref xq, .int qc, .ref r1, .ref r2, .ref r3, .ref r4, .ref se, .int ts, .int hou, .int dr, .int su, .int br])), (xp, .inl (cp, 4, .inr (.inr (.inr (.inr (zq [none, none, none, none])))))), (va, .inl (ci, 2, .inl (zi [0, 9])))] sz)) 1 6 (va_A [(xo, .inr (6, [.ref xg, .int gc, .ref xp, .int pc, .ref xq, .int qc, .ref r1, .ref r2, .ref r3, .ref r4, .ref se, .int ts, .int hou, .int dr, .int su, .int br])), (xp, .inl (cp, 4, .inr (.inr (.inr (.inr (zq [none, none, none, none])))))), (va, .inl (ci, 2, .inl (zi [0, 9])))] sz) := by
  refine vx_ofWH (cc := cL_ask) (maxL := 4) (ret := (some .int)) (by decide) rfl ?_
  intro p e s m args below meth c s₁ B hml hv
  obtain ⟨rfl, hsz, hP, hK, hD0, hT, hZ⟩ := hv
  have hx := B.exec
  have hb := B.bytes
  have hr := B.returns
  have hts := atoms_spec (ws := wzL_ask_gather_no) B.pre
  have hown : s.vm.findClass RL = some m.cls := findClass_of_methodNamed B.named
  have hlocks := B.notSynchronized
  have hxe := vx_table (x := yL_ask) B (hts _ List.mem_cons_self)
  subst hsz
  have hD := hD0.self (sz := s.heap.size)
  generalize hAe : va_A [(xo, .inr (6, [.ref xg, .int gc, .ref xp, .int pc, .ref xq, .int qc, .ref r1, .ref r2, .ref r3, .ref r4, .ref se, .int ts, .int hou, .int dr, .int su, .int br])), (xp, .inl (cp, 4, .inr (.inr (.inr (.inr (zq [none, none, none, none])))))), (va, .inl (ci, 2, .inl (zi [0, 9])))] s.heap.size = A at hD hZ ⊢
  have hA : ∀ q : Nat, s.heap.size ≤ q → A q := fun q h => by rw [← hAe]; exact Or.inr h
  have hS : va_S A s.heap s.heap [] := va_S.rf
  have hl := lv_entry ([.ref xo, .int 103, .ref va]) (n := 4) (Nat.le_of_ble_eq_true rfl)
  rw [lg_entry_eq]
  generalize (lg_sl ([.ref xo, .int 103, .ref va]) ++ List.replicate (4 - (lg_sl ([.ref xo, .int 103, .ref va])).length) Slot.unset).toArray = ls at hl ⊢
  have hl : lv_has ls 4 [(0, .ref xo), (1, .int 103), (2, .ref va)] := hl
  refine lv_iload_n hx hb dL_ask_0 rfl (lv_at hl 1 rfl) ?_
  refine lv_tableIn (off := 352) (tgt := 353) hx hb dL_ask_1 (by decide +kernel) (by decide +kernel) (by decide +kernel) (by decide) ?_
  refine lv_aload_n hx hb dL_ask_353 rfl (lv_at hl 0 rfl) ?_
  refine lv_aload_n hx hb dL_ask_354 rfl (lv_at hl 2 rfl) ?_
  refine lv_iconst (v := 0) hx hb dL_ask_355 (by decide) ?_
  refine va_iald (D := D) (cl := vwCl) hx hb hK hP 2 1 rfl rfl (vp_in_nI (n := 0) (N := 2) (by decide) (by decide)) dL_ask_356 ?_
  refine W.eq (g2 := F0 m 357 ls [.int 0, .ref xo]) rfl ?_
  refine lv_aload_n hx hb dL_ask_357 rfl (lv_at hl 2 rfl) ?_
  refine lv_iconst (v := 1) hx hb dL_ask_358 (by decide) ?_
  refine va_iald (D := D) (cl := vwCl) hx hb hK hP 2 1 rfl rfl (vp_in_nI (n := 1) (N := 2) (by decide) (by decide)) dL_ask_359 ?_
  refine W.eq (g2 := F0 m 360 ls [.int 9, .int 0, .ref xo]) rfl ?_
  have hFc := va_free (wc := [(xo, .inr (6, [.ref xg, .int gc, .ref xp, .int pc, .ref xq, .int qc, .ref r1, .ref r2, .ref r3, .ref r4, .ref se, .int ts, .int hou, .int dr, .int su, .int br])), (xp, .inl (cp, 4, .inr (.inr (.inr (.inr (zq [none, none, none, none]))))))]) hD hS hA [0, 1] rfl
  refine vx_calli (vx_runV (As := [.int 0, .int 9]) (rest := []) ⟨hx, hb, hml, hown, hts⟩ (zc_X6_gather_no l hnt D G xo xg gc xp pc xq qc r1 r2 r3 r4 se ts hou dr su br cp s.heap.size) (cwV 2 hts gzL_ask_gather_no_X6_gather_no_45 rfl rfl rfl (by decide +kernel) ⟨(Nat.le_of_ble_eq_true rfl), (Nat.le_of_ble_eq_true rfl)⟩) ⟨p_RW_blind, va_recv hK hP (ci := 6) (q0 := 0) rfl rfl, (p_RW_at (tc := [(cp, .object "Gatherhouse$Pot")]) (wc := [(xo, .inr (6, [.ref xg, .int gc, .ref xp, .int pc, .ref xq, .int qc, .ref r1, .ref r2, .ref r3, .ref r4, .ref se, .int ts, .int hou, .int dr, .int su, .int br])), (xp, .inl (cp, 4, .inr (.inr (.inr (.inr (zq [none, none, none, none]))))))]) hP hK hD hS hA hT hZ [0, 1] [0] rfl rfl (by decide) rfl [.ref xo, .int 0, .int 9])⟩ rfl rfl hl.1 rfl (lv_room (Nat.le_of_ble_eq_true rfl)) dL_ask_360 ⟨(Nat.le_of_ble_eq_true rfl), (Nat.le_of_ble_eq_true rfl)⟩) hS (fun q _ h => hFc q h) hFc (fun q _ h => hFc q h) (fun E ce q9 u t H locs ht hvm hpx hBX hz1 hk1 hS hce hcv hcl => ?_) (fun r_1211 u t H locs ht hvm w_1212 hB hz1 hk1 hS => ?_)
  · obtain ⟨hBX, hB⟩ := hBX
    obtain ⟨hP, hD, hK⟩ := q_join (D := D) (wc := [(xo, .inr (6, [.ref xg, .int gc, .ref xp, .int pc, .ref xq, .int qc, .ref r1, .ref r2, .ref r3, .ref r4, .ref se, .int ts, .int hou, .int dr, .int su, .int br])), (xp, .inl (cp, 4, .inr (.inr (.inr (.inr (zq [none, none, none, none]))))))]) (wr := [(va, .inl (ci, 2, .inl (zi [0, 9])))]) (w1 := [(xo, .inr (6, [.ref xg, .int gc, .ref xp, .int pc, .ref xq, .int qc, .ref r1, .ref r2, .ref r3, .ref r4, .ref se, .int ts, .int hou, .int dr, .int su, .int br])), (xp, .inl (cp, 4, .inr (.inr (.inr (.inr (zq [none, none, none, none]))))))]) (tyr := [(ci, .int)]) (ty1 := [(cp, .object "Gatherhouse$Pot")]) hP hD hK [0, 1] [2] [1] rfl rfl (by decide) (by decide) rfl hFc hk1 ht hvm hB
    have hP : va_P D vwCl [(va, .inl (ci, 2, .inl (zi [0, 9]))), (xo, .inr (6, [.ref xg, .int gc, .ref xp, .int pc, .ref xq, .int qc, .ref r1, .ref r2, .ref r3, .ref r4, .ref se, .int ts, .int hou, .int dr, .int su, .int br])), (xp, .inl (cp, 4, .inr (.inr (.inr (.inr (zq [none, none, none, none]))))))] H := hP
    have hD : va_D A [(va, .inl (ci, 2, .inl (zi [0, 9]))), (xo, .inr (6, [.ref xg, .int gc, .ref xp, .int pc, .ref xq, .int qc, .ref r1, .ref r2, .ref r3, .ref r4, .ref se, .int ts, .int hou, .int dr, .int su, .int br])), (xp, .inl (cp, 4, .inr (.inr (.inr (.inr (zq [none, none, none, none]))))))] := hD
    have hK : va_K D vwCl [(ci, .int), (cp, .object "Gatherhouse$Pot")] s := hK
    have hBX : (E = "java/lang/IndexOutOfBoundsException") := hBX
    rcases hBX with rfl
    refine z_catch (own := RL) (name := "java/lang/IndexOutOfBoundsException") (hh := ttL_ask) (x := ⟨353, 363, 468, 79⟩) hown hxe 10 rfl [] (by decide +kernel) (fun _ h => absurd h List.not_mem_nil) (by decide) (by decide) (hts (.classLink RL 79 "java/lang/IndexOutOfBoundsException") (by decide +kernel)) (va_Nw.use rfl (hT.2.2.1 ("java/lang/IndexOutOfBoundsException", "java/lang/IndexOutOfBoundsException") (by decide +kernel))) hce hcv hcl ?_
    refine W.eq (g2 := F0 m 468 ls [.ref q9]) rfl ?_
    refine lv_astore_n (lv' := [(3, .ref q9), (0, .ref xo), (1, .int 103), (2, .ref va)]) hx hb dL_ask_468 rfl hl (by decide) rfl (fun ls hl => ?_)
    refine lv_ldc (v := (-2000000001)) hx hb hown (hts (.constant RL 81 (-2000000001)) (by decide +kernel)) dL_ask_469 ?_
    refine vx_ret ?_
    exact W.iret (v := (-2000000001)) hx hb hr (fun t ht hW => ⟨⟨(-2000000001), (), rfl, rfl, q_RW_mk hP hK hD [1, 2] [1] rfl rfl (by decide) rfl ht hW.alike⟩, hS.F ht⟩) hS.2.2 dL_ask_471
  · exact w_1212.elim
theorem dL_ask_364 : decode cL_ask 364 = .ok (.aload_n 0, 1) := by decide +kernel
theorem dL_ask_365 : decode cL_ask 365 = .ok (.aload_n 2, 1) := by decide +kernel
theorem dL_ask_366 : decode cL_ask 366 = .ok (.iconst 0, 1) := by decide +kernel
theorem dL_ask_367 : decode cL_ask 367 = .ok (.iaload, 1) := by decide +kernel
theorem dL_ask_368 : decode cL_ask 368 = .ok (.aload_n 2, 1) := by decide +kernel
theorem dL_ask_369 : decode cL_ask 369 = .ok (.iconst 1, 1) := by decide +kernel
theorem dL_ask_370 : decode cL_ask 370 = .ok (.iaload, 1) := by decide +kernel
theorem dL_ask_371 : decode cL_ask 371 = .ok (.invokevirtual 48, 3) := by decide +kernel
def wzEL_ask_heat_no : List Cond := [.codeWith yL_ask cL_ask 4 (some .int) ttL_ask, .methodLink RL 48 yX6_heat, .instanceMethod yX6_heat, .selects RX6 yX6_heat yX6_heat, .initialized RX6, .code yX6_heat cX6_heat 4 (some .int), .methodLink RX6 169 yX6_findPiece, .instanceMethod yX6_findPiece, .selects RX6 yX6_findPiece yX6_findPiece, .code yX6_findPiece cX6_findPiece 3 (some (.object "Gatherhouse$Piece")), .fieldLink RX6 30 "Gatherhouse" "pieces" "[LGatherhouse$Piece;", .classLink RX6 365 "java/lang/IndexOutOfBoundsException", .initialized "java/lang/IndexOutOfBoundsException", .classLink RL 79 "java/lang/IndexOutOfBoundsException", .constant RL 81 (-2000000001)]
def wzL_ask_heat_no : List Cond := wzEL_ask_heat_no ++ (u_ws RX6 TX6 16 ++ ((vx_atS RX6 369 "java/lang/IndexOutOfBoundsException" ["java/lang/RuntimeException", "java/lang/Exception"]).filter goodWord))
theorem zgEL_ask_heat_no : wzEL_ask_heat_no.all goodWord = true := by decide +kernel
theorem zuL_ask_heat_no_X6 : ∀ w ∈ u_ws RX6 TX6 16, w ∈ wzL_ask_heat_no := (fun _ h => (List.mem_append_right _ (List.mem_append_left _ h)))
theorem ztL_ask_heat_no_X6_369 : ∀ w ∈ (vx_atS RX6 369 "java/lang/IndexOutOfBoundsException" ["java/lang/RuntimeException", "java/lang/Exception"]).filter goodWord, w ∈ wzL_ask_heat_no := (fun _ h => (List.mem_append_right _ (List.mem_append_right _ h)))
theorem gzL_ask_heat_no_X6_heat_no_48 : GoodIn wzL_ask_heat_no (wsV RL 48 RX6 yX6_heat wzX6_heat_no) := (goodIn_app (z_lift (goodIn_r _ [1, 2, 3, 4] rfl (by decide +kernel))) (goodIn_app (z_lift (goodIn_r wzEX6_heat_no [5, 6, 7, 8, 4, 9, 10, 11, 12] rfl zgEX6_heat_no)) (goodIn_app (goodIn_sub (fun _ h => (List.mem_append_right _ (List.mem_append_left _ h))) zgU_X6) (goodIn_sub (fun _ h => (List.mem_append_right _ (List.mem_append_right _ h))) zgV_X6_369))))
set_option maxHeartbeats 4000000 in
set_option maxRecDepth 100000 in
theorem zc_L_ask_heat_no (l : Launch) (hnt : l.stackTraces = false) (D : va_G) (G : Nat × Nat × (Nat → Int32)) (xo : Nat) (va : Nat) (xg : Nat) (gc : Int32) (xp : Nat) (pc : Int32) (xq : Nat) (qc : Int32) (r1 : Nat) (r2 : Nat) (r3 : Nat) (r4 : Nat) (se : Nat) (ts : Int32) (hou : Int32) (dr : Int32) (su : Int32) (br : Int32) (cq : ClassId) (ci : ClassId) (sz : Nat) : vx_Met l yL_ask wzL_ask_heat_no ({ frames := 8, cells := 1, slots := 6, locals := 127 }) (va_Pc [.ref xo, .int 72, .ref va] (p_RW D G [(cq, .object "Gatherhouse$Piece"), (ci, .int)] [(xo, .inr (6, [.ref xg, .int gc, .ref xp, .int pc, .ref xq, .int qc, .ref r1, .ref r2, .ref r3, .ref r4, .ref se, .int ts, .int hou, .int dr, .int su, .int br])), (xq, .inl (cq, 16, .inr (.inr (.inr (.inr (zq [none, none, none, none, none, none, none, none, none, none, none, none, none, none, none, none])))))), (va, .inl (ci, 2, .inl (zi [0, 61])))] sz)) (va_Qi (fun (r : Int32) (u : Unit) => r = (-2000000001)) (fun (u : Unit) (t : State) => q_RW D [(cq, .object "Gatherhouse$Piece")] [(xo, .inr (6, [.ref xg, .int gc, .ref xp, .int pc, .ref xq, .int qc, .ref r1, .ref r2, .ref r3, .ref r4, .ref se, .int ts, .int hou, .int dr, .int su, .int br])), (xq, .inl (cq, 16, .inr (.inr (.inr (.inr (zq [none, none, none, none, none, none, none, none, none, none, none, none, none, none, none, none]))))))] (va_A [(xo, .inr (6, [.ref xg, .int gc, .ref xp, .int pc, .ref xq, .int qc, .ref r1, .ref r2, .ref r3, .ref r4, .ref se, .int ts, .int hou, .int dr, .int su, .int br])), (xq, .inl (cq, 16, .inr (.inr (.inr (.inr (zq [none, none, none, none, none, none, none, none, none, none, none, none, none, none, none, none])))))), (va, .inl (ci, 2, .inl (zi [0, 61])))] sz) t) (va_A [(xo, .inr (6, [.ref xg, .int gc, .ref xp, .int pc, .ref xq, .int qc, .ref r1, .ref r2, .ref r3, .ref r4, .ref se, .int ts, .int hou, .int dr, .int su, .int br])), (xq, .inl (cq, 16, .inr (.inr (.inr (.inr (zq [none, none, none, none, none, none, none, none, none, none, none, none, none, none, none, none])))))), (va, .inl (ci, 2, .inl (zi [0, 61])))] sz)) (vx_X (fun (_ : Unit) => True) (fun E (_ : Unit) (_ : State) => False) (va_A [(xo, .inr (6, [.ref xg, .int gc, .ref xp, .int pc, .ref xq, .int qc, .ref r1, .ref r2, .ref r3, .ref r4, .ref se, .int ts, .int hou, .int dr, .int su, .int br])), (xq, .inl (cq, 16, .inr (.inr (.inr (.inr (zq [none, none, none, none, none, none, none, none, none, none, none, none, none, none, none, none])))))), (va, .inl (ci, 2, .inl (zi [0, 61])))] sz)) 1 6 (va_A [(xo, .inr (6, [.ref xg, .int gc, .ref xp, .int pc, .ref xq, .int qc, .ref r1, .ref r2, .ref r3, .ref r4, .ref se, .int ts, .int hou, .int dr, .int su, .int br])), (xq, .inl (cq, 16, .inr (.inr (.inr (.inr (zq [none, none, none, none, none, none, none, none, none, none, none, none, none, none, none, none])))))), (va, .inl (ci, 2, .inl (zi [0, 61])))] sz) := by
  refine vx_ofWH (cc := cL_ask) (maxL := 4) (ret := (some .int)) (by decide) rfl ?_
  intro p e s m args below meth c s₁ B hml hv
  obtain ⟨rfl, hsz, hP, hK, hD0, hT, hZ⟩ := hv
  have hx := B.exec
  have hb := B.bytes
  have hr := B.returns
  have hts := atoms_spec (ws := wzL_ask_heat_no) B.pre
  have hown : s.vm.findClass RL = some m.cls := findClass_of_methodNamed B.named
  have hlocks := B.notSynchronized
  have hxe := vx_table (x := yL_ask) B (hts _ List.mem_cons_self)
  subst hsz
  have hD := hD0.self (sz := s.heap.size)
  generalize hAe : va_A [(xo, .inr (6, [.ref xg, .int gc, .ref xp, .int pc, .ref xq, .int qc, .ref r1, .ref r2, .ref r3, .ref r4, .ref se, .int ts, .int hou, .int dr, .int su, .int br])), (xq, .inl (cq, 16, .inr (.inr (.inr (.inr (zq [none, none, none, none, none, none, none, none, none, none, none, none, none, none, none, none])))))), (va, .inl (ci, 2, .inl (zi [0, 61])))] s.heap.size = A at hD hZ ⊢
  have hA : ∀ q : Nat, s.heap.size ≤ q → A q := fun q h => by rw [← hAe]; exact Or.inr h
  have hS : va_S A s.heap s.heap [] := va_S.rf
  have hl := lv_entry ([.ref xo, .int 72, .ref va]) (n := 4) (Nat.le_of_ble_eq_true rfl)
  rw [lg_entry_eq]
  generalize (lg_sl ([.ref xo, .int 72, .ref va]) ++ List.replicate (4 - (lg_sl ([.ref xo, .int 72, .ref va])).length) Slot.unset).toArray = ls at hl ⊢
  have hl : lv_has ls 4 [(0, .ref xo), (1, .int 72), (2, .ref va)] := hl
  refine lv_iload_n hx hb dL_ask_0 rfl (lv_at hl 1 rfl) ?_
  refine lv_tableIn (off := 363) (tgt := 364) hx hb dL_ask_1 (by decide +kernel) (by decide +kernel) (by decide +kernel) (by decide) ?_
  refine lv_aload_n hx hb dL_ask_364 rfl (lv_at hl 0 rfl) ?_
  refine lv_aload_n hx hb dL_ask_365 rfl (lv_at hl 2 rfl) ?_
  refine lv_iconst (v := 0) hx hb dL_ask_366 (by decide) ?_
  refine va_iald (D := D) (cl := vwCl) hx hb hK hP 2 1 rfl rfl (vp_in_nI (n := 0) (N := 2) (by decide) (by decide)) dL_ask_367 ?_
  refine W.eq (g2 := F0 m 368 ls [.int 0, .ref xo]) rfl ?_
  refine lv_aload_n hx hb dL_ask_368 rfl (lv_at hl 2 rfl) ?_
  refine lv_iconst (v := 1) hx hb dL_ask_369 (by decide) ?_
  refine va_iald (D := D) (cl := vwCl) hx hb hK hP 2 1 rfl rfl (vp_in_nI (n := 1) (N := 2) (by decide) (by decide)) dL_ask_370 ?_
  refine W.eq (g2 := F0 m 371 ls [.int 61, .int 0, .ref xo]) rfl ?_
  have hFc := va_free (wc := [(xo, .inr (6, [.ref xg, .int gc, .ref xp, .int pc, .ref xq, .int qc, .ref r1, .ref r2, .ref r3, .ref r4, .ref se, .int ts, .int hou, .int dr, .int su, .int br])), (xq, .inl (cq, 16, .inr (.inr (.inr (.inr (zq [none, none, none, none, none, none, none, none, none, none, none, none, none, none, none, none]))))))]) hD hS hA [0, 1] rfl
  refine vx_calli (vx_runV (As := [.int 0, .int 61]) (rest := []) ⟨hx, hb, hml, hown, hts⟩ (zc_X6_heat_no l hnt D G xo xg gc xp pc xq qc r1 r2 r3 r4 se ts hou dr su br cq s.heap.size) (cwV 2 hts gzL_ask_heat_no_X6_heat_no_48 rfl rfl rfl (by decide +kernel) ⟨(Nat.le_of_ble_eq_true rfl), (Nat.le_of_ble_eq_true rfl)⟩) ⟨p_RW_blind, va_recv hK hP (ci := 6) (q0 := 0) rfl rfl, (p_RW_at (tc := [(cq, .object "Gatherhouse$Piece")]) (wc := [(xo, .inr (6, [.ref xg, .int gc, .ref xp, .int pc, .ref xq, .int qc, .ref r1, .ref r2, .ref r3, .ref r4, .ref se, .int ts, .int hou, .int dr, .int su, .int br])), (xq, .inl (cq, 16, .inr (.inr (.inr (.inr (zq [none, none, none, none, none, none, none, none, none, none, none, none, none, none, none, none]))))))]) hP hK hD hS hA hT hZ [0, 1] [0] rfl rfl (by decide) rfl [.ref xo, .int 0, .int 61])⟩ rfl rfl hl.1 rfl (lv_room (Nat.le_of_ble_eq_true rfl)) dL_ask_371 ⟨(Nat.le_of_ble_eq_true rfl), (Nat.le_of_ble_eq_true rfl)⟩) hS (fun q _ h => hFc q h) hFc (fun q _ h => hFc q h) (fun E ce q9 u t H locs ht hvm hpx hBX hz1 hk1 hS hce hcv hcl => ?_) (fun r_1213 u t H locs ht hvm w_1214 hB hz1 hk1 hS => ?_)
  · obtain ⟨hBX, hB⟩ := hBX
    obtain ⟨hP, hD, hK⟩ := q_join (D := D) (wc := [(xo, .inr (6, [.ref xg, .int gc, .ref xp, .int pc, .ref xq, .int qc, .ref r1, .ref r2, .ref r3, .ref r4, .ref se, .int ts, .int hou, .int dr, .int su, .int br])), (xq, .inl (cq, 16, .inr (.inr (.inr (.inr (zq [none, none, none, none, none, none, none, none, none, none, none, none, none, none, none, none]))))))]) (wr := [(va, .inl (ci, 2, .inl (zi [0, 61])))]) (w1 := [(xo, .inr (6, [.ref xg, .int gc, .ref xp, .int pc, .ref xq, .int qc, .ref r1, .ref r2, .ref r3, .ref r4, .ref se, .int ts, .int hou, .int dr, .int su, .int br])), (xq, .inl (cq, 16, .inr (.inr (.inr (.inr (zq [none, none, none, none, none, none, none, none, none, none, none, none, none, none, none, none]))))))]) (tyr := [(ci, .int)]) (ty1 := [(cq, .object "Gatherhouse$Piece")]) hP hD hK [0, 1] [2] [1] rfl rfl (by decide) (by decide) rfl hFc hk1 ht hvm hB
    have hP : va_P D vwCl [(va, .inl (ci, 2, .inl (zi [0, 61]))), (xo, .inr (6, [.ref xg, .int gc, .ref xp, .int pc, .ref xq, .int qc, .ref r1, .ref r2, .ref r3, .ref r4, .ref se, .int ts, .int hou, .int dr, .int su, .int br])), (xq, .inl (cq, 16, .inr (.inr (.inr (.inr (zq [none, none, none, none, none, none, none, none, none, none, none, none, none, none, none, none]))))))] H := hP
    have hD : va_D A [(va, .inl (ci, 2, .inl (zi [0, 61]))), (xo, .inr (6, [.ref xg, .int gc, .ref xp, .int pc, .ref xq, .int qc, .ref r1, .ref r2, .ref r3, .ref r4, .ref se, .int ts, .int hou, .int dr, .int su, .int br])), (xq, .inl (cq, 16, .inr (.inr (.inr (.inr (zq [none, none, none, none, none, none, none, none, none, none, none, none, none, none, none, none]))))))] := hD
    have hK : va_K D vwCl [(ci, .int), (cq, .object "Gatherhouse$Piece")] s := hK
    have hBX : (E = "java/lang/IndexOutOfBoundsException") := hBX
    rcases hBX with rfl
    refine z_catch (own := RL) (name := "java/lang/IndexOutOfBoundsException") (hh := ttL_ask) (x := ⟨364, 374, 468, 79⟩) hown hxe 11 rfl [] (by decide +kernel) (fun _ h => absurd h List.not_mem_nil) (by decide) (by decide) (hts (.classLink RL 79 "java/lang/IndexOutOfBoundsException") (by decide +kernel)) (va_Nw.use rfl (hT.2.2.1 ("java/lang/IndexOutOfBoundsException", "java/lang/IndexOutOfBoundsException") (by decide +kernel))) hce hcv hcl ?_
    refine W.eq (g2 := F0 m 468 ls [.ref q9]) rfl ?_
    refine lv_astore_n (lv' := [(3, .ref q9), (0, .ref xo), (1, .int 72), (2, .ref va)]) hx hb dL_ask_468 rfl hl (by decide) rfl (fun ls hl => ?_)
    refine lv_ldc (v := (-2000000001)) hx hb hown (hts (.constant RL 81 (-2000000001)) (by decide +kernel)) dL_ask_469 ?_
    refine vx_ret ?_
    exact W.iret (v := (-2000000001)) hx hb hr (fun t ht hW => ⟨⟨(-2000000001), (), rfl, rfl, q_RW_mk hP hK hD [1, 2] [1] rfl rfl (by decide) rfl ht hW.alike⟩, hS.F ht⟩) hS.2.2 dL_ask_471
  · exact w_1214.elim
theorem dL_ask_375 : decode cL_ask 375 = .ok (.aload_n 0, 1) := by decide +kernel
theorem dL_ask_376 : decode cL_ask 376 = .ok (.aload_n 2, 1) := by decide +kernel
theorem dL_ask_377 : decode cL_ask 377 = .ok (.iconst 0, 1) := by decide +kernel
theorem dL_ask_378 : decode cL_ask 378 = .ok (.iaload, 1) := by decide +kernel
theorem dL_ask_379 : decode cL_ask 379 = .ok (.aload_n 2, 1) := by decide +kernel
theorem dL_ask_380 : decode cL_ask 380 = .ok (.iconst 1, 1) := by decide +kernel
theorem dL_ask_381 : decode cL_ask 381 = .ok (.iaload, 1) := by decide +kernel
theorem dL_ask_382 : decode cL_ask 382 = .ok (.aload_n 2, 1) := by decide +kernel
theorem dL_ask_383 : decode cL_ask 383 = .ok (.iconst 2, 1) := by decide +kernel
theorem dL_ask_384 : decode cL_ask 384 = .ok (.iaload, 1) := by decide +kernel
theorem dL_ask_385 : decode cL_ask 385 = .ok (.invokevirtual 51, 3) := by decide +kernel
def wzEL_ask_blow_no : List Cond := [.codeWith yL_ask cL_ask 4 (some .int) ttL_ask, .methodLink RL 51 yX6_blow, .instanceMethod yX6_blow, .selects RX6 yX6_blow yX6_blow, .initialized RX6, .code yX6_blow cX6_blow 7 (some .int), .methodLink RX6 169 yX6_findPiece, .instanceMethod yX6_findPiece, .selects RX6 yX6_findPiece yX6_findPiece, .code yX6_findPiece cX6_findPiece 3 (some (.object "Gatherhouse$Piece")), .fieldLink RX6 30 "Gatherhouse" "pieces" "[LGatherhouse$Piece;", .classLink RX6 365 "java/lang/IndexOutOfBoundsException", .initialized "java/lang/IndexOutOfBoundsException", .classLink RL 79 "java/lang/IndexOutOfBoundsException", .constant RL 81 (-2000000001)]
def wzL_ask_blow_no : List Cond := wzEL_ask_blow_no ++ (u_ws RX6 TX6 16 ++ ((vx_atS RX6 369 "java/lang/IndexOutOfBoundsException" ["java/lang/RuntimeException", "java/lang/Exception"]).filter goodWord))
theorem zgEL_ask_blow_no : wzEL_ask_blow_no.all goodWord = true := by decide +kernel
theorem zuL_ask_blow_no_X6 : ∀ w ∈ u_ws RX6 TX6 16, w ∈ wzL_ask_blow_no := (fun _ h => (List.mem_append_right _ (List.mem_append_left _ h)))
theorem ztL_ask_blow_no_X6_369 : ∀ w ∈ (vx_atS RX6 369 "java/lang/IndexOutOfBoundsException" ["java/lang/RuntimeException", "java/lang/Exception"]).filter goodWord, w ∈ wzL_ask_blow_no := (fun _ h => (List.mem_append_right _ (List.mem_append_right _ h)))
theorem gzL_ask_blow_no_X6_blow_no_51 : GoodIn wzL_ask_blow_no (wsV RL 51 RX6 yX6_blow wzX6_blow_no) := (goodIn_app (z_lift (goodIn_r _ [1, 2, 3, 4] rfl (by decide +kernel))) (goodIn_app (z_lift (goodIn_r wzEX6_blow_no [5, 6, 7, 8, 4, 9, 10, 11, 12] rfl zgEX6_blow_no)) (goodIn_app (goodIn_sub (fun _ h => (List.mem_append_right _ (List.mem_append_left _ h))) zgU_X6) (goodIn_sub (fun _ h => (List.mem_append_right _ (List.mem_append_right _ h))) zgV_X6_369))))
set_option maxHeartbeats 4000000 in
set_option maxRecDepth 100000 in
theorem zc_L_ask_blow_no (l : Launch) (hnt : l.stackTraces = false) (D : va_G) (G : Nat × Nat × (Nat → Int32)) (xo : Nat) (va : Nat) (xg : Nat) (gc : Int32) (xp : Nat) (pc : Int32) (xq : Nat) (qc : Int32) (r1 : Nat) (r2 : Nat) (r3 : Nat) (r4 : Nat) (se : Nat) (ts : Int32) (hou : Int32) (dr : Int32) (su : Int32) (br : Int32) (cq : ClassId) (ci : ClassId) (sz : Nat) : vx_Met l yL_ask wzL_ask_blow_no ({ frames := 8, cells := 1, slots := 6, locals := 130 }) (va_Pc [.ref xo, .int 66, .ref va] (p_RW D G [(cq, .object "Gatherhouse$Piece"), (ci, .int)] [(xo, .inr (6, [.ref xg, .int gc, .ref xp, .int pc, .ref xq, .int qc, .ref r1, .ref r2, .ref r3, .ref r4, .ref se, .int ts, .int hou, .int dr, .int su, .int br])), (xq, .inl (cq, 16, .inr (.inr (.inr (.inr (zq [none, none, none, none, none, none, none, none, none, none, none, none, none, none, none, none])))))), (va, .inl (ci, 3, .inl (zi [0, 0, 31])))] sz)) (va_Qi (fun (r : Int32) (u : Unit) => r = (-2000000001)) (fun (u : Unit) (t : State) => q_RW D [(cq, .object "Gatherhouse$Piece")] [(xo, .inr (6, [.ref xg, .int gc, .ref xp, .int pc, .ref xq, .int qc, .ref r1, .ref r2, .ref r3, .ref r4, .ref se, .int ts, .int hou, .int dr, .int su, .int br])), (xq, .inl (cq, 16, .inr (.inr (.inr (.inr (zq [none, none, none, none, none, none, none, none, none, none, none, none, none, none, none, none]))))))] (va_A [(xo, .inr (6, [.ref xg, .int gc, .ref xp, .int pc, .ref xq, .int qc, .ref r1, .ref r2, .ref r3, .ref r4, .ref se, .int ts, .int hou, .int dr, .int su, .int br])), (xq, .inl (cq, 16, .inr (.inr (.inr (.inr (zq [none, none, none, none, none, none, none, none, none, none, none, none, none, none, none, none])))))), (va, .inl (ci, 3, .inl (zi [0, 0, 31])))] sz) t) (va_A [(xo, .inr (6, [.ref xg, .int gc, .ref xp, .int pc, .ref xq, .int qc, .ref r1, .ref r2, .ref r3, .ref r4, .ref se, .int ts, .int hou, .int dr, .int su, .int br])), (xq, .inl (cq, 16, .inr (.inr (.inr (.inr (zq [none, none, none, none, none, none, none, none, none, none, none, none, none, none, none, none])))))), (va, .inl (ci, 3, .inl (zi [0, 0, 31])))] sz)) (vx_X (fun (_ : Unit) => True) (fun E (_ : Unit) (_ : State) => False) (va_A [(xo, .inr (6, [.ref xg, .int gc, .ref xp, .int pc, .ref xq, .int qc, .ref r1, .ref r2, .ref r3, .ref r4, .ref se, .int ts, .int hou, .int dr, .int su, .int br])), (xq, .inl (cq, 16, .inr (.inr (.inr (.inr (zq [none, none, none, none, none, none, none, none, none, none, none, none, none, none, none, none])))))), (va, .inl (ci, 3, .inl (zi [0, 0, 31])))] sz)) 1 6 (va_A [(xo, .inr (6, [.ref xg, .int gc, .ref xp, .int pc, .ref xq, .int qc, .ref r1, .ref r2, .ref r3, .ref r4, .ref se, .int ts, .int hou, .int dr, .int su, .int br])), (xq, .inl (cq, 16, .inr (.inr (.inr (.inr (zq [none, none, none, none, none, none, none, none, none, none, none, none, none, none, none, none])))))), (va, .inl (ci, 3, .inl (zi [0, 0, 31])))] sz) := by
  refine vx_ofWH (cc := cL_ask) (maxL := 4) (ret := (some .int)) (by decide) rfl ?_
  intro p e s m args below meth c s₁ B hml hv
  obtain ⟨rfl, hsz, hP, hK, hD0, hT, hZ⟩ := hv
  have hx := B.exec
  have hb := B.bytes
  have hr := B.returns
  have hts := atoms_spec (ws := wzL_ask_blow_no) B.pre
  have hown : s.vm.findClass RL = some m.cls := findClass_of_methodNamed B.named
  have hlocks := B.notSynchronized
  have hxe := vx_table (x := yL_ask) B (hts _ List.mem_cons_self)
  subst hsz
  have hD := hD0.self (sz := s.heap.size)
  generalize hAe : va_A [(xo, .inr (6, [.ref xg, .int gc, .ref xp, .int pc, .ref xq, .int qc, .ref r1, .ref r2, .ref r3, .ref r4, .ref se, .int ts, .int hou, .int dr, .int su, .int br])), (xq, .inl (cq, 16, .inr (.inr (.inr (.inr (zq [none, none, none, none, none, none, none, none, none, none, none, none, none, none, none, none])))))), (va, .inl (ci, 3, .inl (zi [0, 0, 31])))] s.heap.size = A at hD hZ ⊢
  have hA : ∀ q : Nat, s.heap.size ≤ q → A q := fun q h => by rw [← hAe]; exact Or.inr h
  have hS : va_S A s.heap s.heap [] := va_S.rf
  have hl := lv_entry ([.ref xo, .int 66, .ref va]) (n := 4) (Nat.le_of_ble_eq_true rfl)
  rw [lg_entry_eq]
  generalize (lg_sl ([.ref xo, .int 66, .ref va]) ++ List.replicate (4 - (lg_sl ([.ref xo, .int 66, .ref va])).length) Slot.unset).toArray = ls at hl ⊢
  have hl : lv_has ls 4 [(0, .ref xo), (1, .int 66), (2, .ref va)] := hl
  refine lv_iload_n hx hb dL_ask_0 rfl (lv_at hl 1 rfl) ?_
  refine lv_tableIn (off := 374) (tgt := 375) hx hb dL_ask_1 (by decide +kernel) (by decide +kernel) (by decide +kernel) (by decide) ?_
  refine lv_aload_n hx hb dL_ask_375 rfl (lv_at hl 0 rfl) ?_
  refine lv_aload_n hx hb dL_ask_376 rfl (lv_at hl 2 rfl) ?_
  refine lv_iconst (v := 0) hx hb dL_ask_377 (by decide) ?_
  refine va_iald (D := D) (cl := vwCl) hx hb hK hP 2 1 rfl rfl (vp_in_nI (n := 0) (N := 3) (by decide) (by decide)) dL_ask_378 ?_
  refine W.eq (g2 := F0 m 379 ls [.int 0, .ref xo]) rfl ?_
  refine lv_aload_n hx hb dL_ask_379 rfl (lv_at hl 2 rfl) ?_
  refine lv_iconst (v := 1) hx hb dL_ask_380 (by decide) ?_
  refine va_iald (D := D) (cl := vwCl) hx hb hK hP 2 1 rfl rfl (vp_in_nI (n := 1) (N := 3) (by decide) (by decide)) dL_ask_381 ?_
  refine W.eq (g2 := F0 m 382 ls [.int 0, .int 0, .ref xo]) rfl ?_
  refine lv_aload_n hx hb dL_ask_382 rfl (lv_at hl 2 rfl) ?_
  refine lv_iconst (v := 2) hx hb dL_ask_383 (by decide) ?_
  refine va_iald (D := D) (cl := vwCl) hx hb hK hP 2 1 rfl rfl (vp_in_nI (n := 2) (N := 3) (by decide) (by decide)) dL_ask_384 ?_
  refine W.eq (g2 := F0 m 385 ls [.int 31, .int 0, .int 0, .ref xo]) rfl ?_
  have hFc := va_free (wc := [(xo, .inr (6, [.ref xg, .int gc, .ref xp, .int pc, .ref xq, .int qc, .ref r1, .ref r2, .ref r3, .ref r4, .ref se, .int ts, .int hou, .int dr, .int su, .int br])), (xq, .inl (cq, 16, .inr (.inr (.inr (.inr (zq [none, none, none, none, none, none, none, none, none, none, none, none, none, none, none, none]))))))]) hD hS hA [0, 1] rfl
  refine vx_calli (vx_runV (As := [.int 0, .int 0, .int 31]) (rest := []) ⟨hx, hb, hml, hown, hts⟩ (zc_X6_blow_no l hnt D G xo xg gc xp pc xq qc r1 r2 r3 r4 se ts hou dr su br cq s.heap.size) (cwV 3 hts gzL_ask_blow_no_X6_blow_no_51 rfl rfl rfl (by decide +kernel) ⟨(Nat.le_of_ble_eq_true rfl), (Nat.le_of_ble_eq_true rfl)⟩) ⟨p_RW_blind, va_recv hK hP (ci := 6) (q0 := 0) rfl rfl, (p_RW_at (tc := [(cq, .object "Gatherhouse$Piece")]) (wc := [(xo, .inr (6, [.ref xg, .int gc, .ref xp, .int pc, .ref xq, .int qc, .ref r1, .ref r2, .ref r3, .ref r4, .ref se, .int ts, .int hou, .int dr, .int su, .int br])), (xq, .inl (cq, 16, .inr (.inr (.inr (.inr (zq [none, none, none, none, none, none, none, none, none, none, none, none, none, none, none, none]))))))]) hP hK hD hS hA hT hZ [0, 1] [0] rfl rfl (by decide) rfl [.ref xo, .int 0, .int 0, .int 31])⟩ rfl rfl hl.1 rfl (lv_room (Nat.le_of_ble_eq_true rfl)) dL_ask_385 ⟨(Nat.le_of_ble_eq_true rfl), (Nat.le_of_ble_eq_true rfl)⟩) hS (fun q _ h => hFc q h) hFc (fun q _ h => hFc q h) (fun E ce q9 u t H locs ht hvm hpx hBX hz1 hk1 hS hce hcv hcl => ?_) (fun r_1215 u t H locs ht hvm w_1216 hB hz1 hk1 hS => ?_)
  · obtain ⟨hBX, hB⟩ := hBX
    obtain ⟨hP, hD, hK⟩ := q_join (D := D) (wc := [(xo, .inr (6, [.ref xg, .int gc, .ref xp, .int pc, .ref xq, .int qc, .ref r1, .ref r2, .ref r3, .ref r4, .ref se, .int ts, .int hou, .int dr, .int su, .int br])), (xq, .inl (cq, 16, .inr (.inr (.inr (.inr (zq [none, none, none, none, none, none, none, none, none, none, none, none, none, none, none, none]))))))]) (wr := [(va, .inl (ci, 3, .inl (zi [0, 0, 31])))]) (w1 := [(xo, .inr (6, [.ref xg, .int gc, .ref xp, .int pc, .ref xq, .int qc, .ref r1, .ref r2, .ref r3, .ref r4, .ref se, .int ts, .int hou, .int dr, .int su, .int br])), (xq, .inl (cq, 16, .inr (.inr (.inr (.inr (zq [none, none, none, none, none, none, none, none, none, none, none, none, none, none, none, none]))))))]) (tyr := [(ci, .int)]) (ty1 := [(cq, .object "Gatherhouse$Piece")]) hP hD hK [0, 1] [2] [1] rfl rfl (by decide) (by decide) rfl hFc hk1 ht hvm hB
    have hP : va_P D vwCl [(va, .inl (ci, 3, .inl (zi [0, 0, 31]))), (xo, .inr (6, [.ref xg, .int gc, .ref xp, .int pc, .ref xq, .int qc, .ref r1, .ref r2, .ref r3, .ref r4, .ref se, .int ts, .int hou, .int dr, .int su, .int br])), (xq, .inl (cq, 16, .inr (.inr (.inr (.inr (zq [none, none, none, none, none, none, none, none, none, none, none, none, none, none, none, none]))))))] H := hP
    have hD : va_D A [(va, .inl (ci, 3, .inl (zi [0, 0, 31]))), (xo, .inr (6, [.ref xg, .int gc, .ref xp, .int pc, .ref xq, .int qc, .ref r1, .ref r2, .ref r3, .ref r4, .ref se, .int ts, .int hou, .int dr, .int su, .int br])), (xq, .inl (cq, 16, .inr (.inr (.inr (.inr (zq [none, none, none, none, none, none, none, none, none, none, none, none, none, none, none, none]))))))] := hD
    have hK : va_K D vwCl [(ci, .int), (cq, .object "Gatherhouse$Piece")] s := hK
    have hBX : (E = "java/lang/IndexOutOfBoundsException") := hBX
    rcases hBX with rfl
    refine z_catch (own := RL) (name := "java/lang/IndexOutOfBoundsException") (hh := ttL_ask) (x := ⟨375, 388, 468, 79⟩) hown hxe 12 rfl [] (by decide +kernel) (fun _ h => absurd h List.not_mem_nil) (by decide) (by decide) (hts (.classLink RL 79 "java/lang/IndexOutOfBoundsException") (by decide +kernel)) (va_Nw.use rfl (hT.2.2.1 ("java/lang/IndexOutOfBoundsException", "java/lang/IndexOutOfBoundsException") (by decide +kernel))) hce hcv hcl ?_
    refine W.eq (g2 := F0 m 468 ls [.ref q9]) rfl ?_
    refine lv_astore_n (lv' := [(3, .ref q9), (0, .ref xo), (1, .int 66), (2, .ref va)]) hx hb dL_ask_468 rfl hl (by decide) rfl (fun ls hl => ?_)
    refine lv_ldc (v := (-2000000001)) hx hb hown (hts (.constant RL 81 (-2000000001)) (by decide +kernel)) dL_ask_469 ?_
    refine vx_ret ?_
    exact W.iret (v := (-2000000001)) hx hb hr (fun t ht hW => ⟨⟨(-2000000001), (), rfl, rfl, q_RW_mk hP hK hD [1, 2] [1] rfl rfl (by decide) rfl ht hW.alike⟩, hS.F ht⟩) hS.2.2 dL_ask_471
  · exact w_1216.elim
theorem dL_ask_389 : decode cL_ask 389 = .ok (.aload_n 0, 1) := by decide +kernel
theorem dL_ask_390 : decode cL_ask 390 = .ok (.aload_n 2, 1) := by decide +kernel
theorem dL_ask_391 : decode cL_ask 391 = .ok (.iconst 0, 1) := by decide +kernel
theorem dL_ask_392 : decode cL_ask 392 = .ok (.iaload, 1) := by decide +kernel
theorem dL_ask_393 : decode cL_ask 393 = .ok (.aload_n 2, 1) := by decide +kernel
theorem dL_ask_394 : decode cL_ask 394 = .ok (.iconst 1, 1) := by decide +kernel
theorem dL_ask_395 : decode cL_ask 395 = .ok (.iaload, 1) := by decide +kernel
theorem dL_ask_396 : decode cL_ask 396 = .ok (.aload_n 2, 1) := by decide +kernel
theorem dL_ask_397 : decode cL_ask 397 = .ok (.iconst 2, 1) := by decide +kernel
theorem dL_ask_398 : decode cL_ask 398 = .ok (.iaload, 1) := by decide +kernel
theorem dL_ask_399 : decode cL_ask 399 = .ok (.invokevirtual 55, 3) := by decide +kernel
def wzEL_ask_swing_no : List Cond := [.codeWith yL_ask cL_ask 4 (some .int) ttL_ask, .methodLink RL 55 yX6_swing, .instanceMethod yX6_swing, .selects RX6 yX6_swing yX6_swing, .initialized RX6, .code yX6_swing cX6_swing 7 (some .int), .methodLink RX6 169 yX6_findPiece, .instanceMethod yX6_findPiece, .selects RX6 yX6_findPiece yX6_findPiece, .code yX6_findPiece cX6_findPiece 3 (some (.object "Gatherhouse$Piece")), .fieldLink RX6 30 "Gatherhouse" "pieces" "[LGatherhouse$Piece;", .classLink RX6 365 "java/lang/IndexOutOfBoundsException", .initialized "java/lang/IndexOutOfBoundsException", .classLink RL 79 "java/lang/IndexOutOfBoundsException", .constant RL 81 (-2000000001)]
def wzL_ask_swing_no : List Cond := wzEL_ask_swing_no ++ (u_ws RX6 TX6 16 ++ ((vx_atS RX6 369 "java/lang/IndexOutOfBoundsException" ["java/lang/RuntimeException", "java/lang/Exception"]).filter goodWord))
theorem zgEL_ask_swing_no : wzEL_ask_swing_no.all goodWord = true := by decide +kernel
theorem zuL_ask_swing_no_X6 : ∀ w ∈ u_ws RX6 TX6 16, w ∈ wzL_ask_swing_no := (fun _ h => (List.mem_append_right _ (List.mem_append_left _ h)))
theorem ztL_ask_swing_no_X6_369 : ∀ w ∈ (vx_atS RX6 369 "java/lang/IndexOutOfBoundsException" ["java/lang/RuntimeException", "java/lang/Exception"]).filter goodWord, w ∈ wzL_ask_swing_no := (fun _ h => (List.mem_append_right _ (List.mem_append_right _ h)))
theorem gzL_ask_swing_no_X6_swing_no_55 : GoodIn wzL_ask_swing_no (wsV RL 55 RX6 yX6_swing wzX6_swing_no) := (goodIn_app (z_lift (goodIn_r _ [1, 2, 3, 4] rfl (by decide +kernel))) (goodIn_app (z_lift (goodIn_r wzEX6_swing_no [5, 6, 7, 8, 4, 9, 10, 11, 12] rfl zgEX6_swing_no)) (goodIn_app (goodIn_sub (fun _ h => (List.mem_append_right _ (List.mem_append_left _ h))) zgU_X6) (goodIn_sub (fun _ h => (List.mem_append_right _ (List.mem_append_right _ h))) zgV_X6_369))))
set_option maxHeartbeats 4000000 in
set_option maxRecDepth 100000 in
theorem zc_L_ask_swing_no (l : Launch) (hnt : l.stackTraces = false) (D : va_G) (G : Nat × Nat × (Nat → Int32)) (xo : Nat) (va : Nat) (xg : Nat) (gc : Int32) (xp : Nat) (pc : Int32) (xq : Nat) (qc : Int32) (r1 : Nat) (r2 : Nat) (r3 : Nat) (r4 : Nat) (se : Nat) (ts : Int32) (hou : Int32) (dr : Int32) (su : Int32) (br : Int32) (cq : ClassId) (ci : ClassId) (sz : Nat) : vx_Met l yL_ask wzL_ask_swing_no ({ frames := 8, cells := 1, slots := 6, locals := 130 }) (va_Pc [.ref xo, .int 87, .ref va] (p_RW D G [(cq, .object "Gatherhouse$Piece"), (ci, .int)] [(xo, .inr (6, [.ref xg, .int gc, .ref xp, .int pc, .ref xq, .int qc, .ref r1, .ref r2, .ref r3, .ref r4, .ref se, .int ts, .int hou, .int dr, .int su, .int br])), (xq, .inl (cq, 16, .inr (.inr (.inr (.inr (zq [none, none, none, none, none, none, none, none, none, none, none, none, none, none, none, none])))))), (va, .inl (ci, 3, .inl (zi [0, 0, 31])))] sz)) (va_Qi (fun (r : Int32) (u : Unit) => r = (-2000000001)) (fun (u : Unit) (t : State) => q_RW D [(cq, .object "Gatherhouse$Piece")] [(xo, .inr (6, [.ref xg, .int gc, .ref xp, .int pc, .ref xq, .int qc, .ref r1, .ref r2, .ref r3, .ref r4, .ref se, .int ts, .int hou, .int dr, .int su, .int br])), (xq, .inl (cq, 16, .inr (.inr (.inr (.inr (zq [none, none, none, none, none, none, none, none, none, none, none, none, none, none, none, none]))))))] (va_A [(xo, .inr (6, [.ref xg, .int gc, .ref xp, .int pc, .ref xq, .int qc, .ref r1, .ref r2, .ref r3, .ref r4, .ref se, .int ts, .int hou, .int dr, .int su, .int br])), (xq, .inl (cq, 16, .inr (.inr (.inr (.inr (zq [none, none, none, none, none, none, none, none, none, none, none, none, none, none, none, none])))))), (va, .inl (ci, 3, .inl (zi [0, 0, 31])))] sz) t) (va_A [(xo, .inr (6, [.ref xg, .int gc, .ref xp, .int pc, .ref xq, .int qc, .ref r1, .ref r2, .ref r3, .ref r4, .ref se, .int ts, .int hou, .int dr, .int su, .int br])), (xq, .inl (cq, 16, .inr (.inr (.inr (.inr (zq [none, none, none, none, none, none, none, none, none, none, none, none, none, none, none, none])))))), (va, .inl (ci, 3, .inl (zi [0, 0, 31])))] sz)) (vx_X (fun (_ : Unit) => True) (fun E (_ : Unit) (_ : State) => False) (va_A [(xo, .inr (6, [.ref xg, .int gc, .ref xp, .int pc, .ref xq, .int qc, .ref r1, .ref r2, .ref r3, .ref r4, .ref se, .int ts, .int hou, .int dr, .int su, .int br])), (xq, .inl (cq, 16, .inr (.inr (.inr (.inr (zq [none, none, none, none, none, none, none, none, none, none, none, none, none, none, none, none])))))), (va, .inl (ci, 3, .inl (zi [0, 0, 31])))] sz)) 1 6 (va_A [(xo, .inr (6, [.ref xg, .int gc, .ref xp, .int pc, .ref xq, .int qc, .ref r1, .ref r2, .ref r3, .ref r4, .ref se, .int ts, .int hou, .int dr, .int su, .int br])), (xq, .inl (cq, 16, .inr (.inr (.inr (.inr (zq [none, none, none, none, none, none, none, none, none, none, none, none, none, none, none, none])))))), (va, .inl (ci, 3, .inl (zi [0, 0, 31])))] sz) := by
  refine vx_ofWH (cc := cL_ask) (maxL := 4) (ret := (some .int)) (by decide) rfl ?_
  intro p e s m args below meth c s₁ B hml hv
  obtain ⟨rfl, hsz, hP, hK, hD0, hT, hZ⟩ := hv
  have hx := B.exec
  have hb := B.bytes
  have hr := B.returns
  have hts := atoms_spec (ws := wzL_ask_swing_no) B.pre
  have hown : s.vm.findClass RL = some m.cls := findClass_of_methodNamed B.named
  have hlocks := B.notSynchronized
  have hxe := vx_table (x := yL_ask) B (hts _ List.mem_cons_self)
  subst hsz
  have hD := hD0.self (sz := s.heap.size)
  generalize hAe : va_A [(xo, .inr (6, [.ref xg, .int gc, .ref xp, .int pc, .ref xq, .int qc, .ref r1, .ref r2, .ref r3, .ref r4, .ref se, .int ts, .int hou, .int dr, .int su, .int br])), (xq, .inl (cq, 16, .inr (.inr (.inr (.inr (zq [none, none, none, none, none, none, none, none, none, none, none, none, none, none, none, none])))))), (va, .inl (ci, 3, .inl (zi [0, 0, 31])))] s.heap.size = A at hD hZ ⊢
  have hA : ∀ q : Nat, s.heap.size ≤ q → A q := fun q h => by rw [← hAe]; exact Or.inr h
  have hS : va_S A s.heap s.heap [] := va_S.rf
  have hl := lv_entry ([.ref xo, .int 87, .ref va]) (n := 4) (Nat.le_of_ble_eq_true rfl)
  rw [lg_entry_eq]
  generalize (lg_sl ([.ref xo, .int 87, .ref va]) ++ List.replicate (4 - (lg_sl ([.ref xo, .int 87, .ref va])).length) Slot.unset).toArray = ls at hl ⊢
  have hl : lv_has ls 4 [(0, .ref xo), (1, .int 87), (2, .ref va)] := hl
  refine lv_iload_n hx hb dL_ask_0 rfl (lv_at hl 1 rfl) ?_
  refine lv_tableIn (off := 388) (tgt := 389) hx hb dL_ask_1 (by decide +kernel) (by decide +kernel) (by decide +kernel) (by decide) ?_
  refine lv_aload_n hx hb dL_ask_389 rfl (lv_at hl 0 rfl) ?_
  refine lv_aload_n hx hb dL_ask_390 rfl (lv_at hl 2 rfl) ?_
  refine lv_iconst (v := 0) hx hb dL_ask_391 (by decide) ?_
  refine va_iald (D := D) (cl := vwCl) hx hb hK hP 2 1 rfl rfl (vp_in_nI (n := 0) (N := 3) (by decide) (by decide)) dL_ask_392 ?_
  refine W.eq (g2 := F0 m 393 ls [.int 0, .ref xo]) rfl ?_
  refine lv_aload_n hx hb dL_ask_393 rfl (lv_at hl 2 rfl) ?_
  refine lv_iconst (v := 1) hx hb dL_ask_394 (by decide) ?_
  refine va_iald (D := D) (cl := vwCl) hx hb hK hP 2 1 rfl rfl (vp_in_nI (n := 1) (N := 3) (by decide) (by decide)) dL_ask_395 ?_
  refine W.eq (g2 := F0 m 396 ls [.int 0, .int 0, .ref xo]) rfl ?_
  refine lv_aload_n hx hb dL_ask_396 rfl (lv_at hl 2 rfl) ?_
  refine lv_iconst (v := 2) hx hb dL_ask_397 (by decide) ?_
  refine va_iald (D := D) (cl := vwCl) hx hb hK hP 2 1 rfl rfl (vp_in_nI (n := 2) (N := 3) (by decide) (by decide)) dL_ask_398 ?_
  refine W.eq (g2 := F0 m 399 ls [.int 31, .int 0, .int 0, .ref xo]) rfl ?_
  have hFc := va_free (wc := [(xo, .inr (6, [.ref xg, .int gc, .ref xp, .int pc, .ref xq, .int qc, .ref r1, .ref r2, .ref r3, .ref r4, .ref se, .int ts, .int hou, .int dr, .int su, .int br])), (xq, .inl (cq, 16, .inr (.inr (.inr (.inr (zq [none, none, none, none, none, none, none, none, none, none, none, none, none, none, none, none]))))))]) hD hS hA [0, 1] rfl
  refine vx_calli (vx_runV (As := [.int 0, .int 0, .int 31]) (rest := []) ⟨hx, hb, hml, hown, hts⟩ (zc_X6_swing_no l hnt D G xo xg gc xp pc xq qc r1 r2 r3 r4 se ts hou dr su br cq s.heap.size) (cwV 3 hts gzL_ask_swing_no_X6_swing_no_55 rfl rfl rfl (by decide +kernel) ⟨(Nat.le_of_ble_eq_true rfl), (Nat.le_of_ble_eq_true rfl)⟩) ⟨p_RW_blind, va_recv hK hP (ci := 6) (q0 := 0) rfl rfl, (p_RW_at (tc := [(cq, .object "Gatherhouse$Piece")]) (wc := [(xo, .inr (6, [.ref xg, .int gc, .ref xp, .int pc, .ref xq, .int qc, .ref r1, .ref r2, .ref r3, .ref r4, .ref se, .int ts, .int hou, .int dr, .int su, .int br])), (xq, .inl (cq, 16, .inr (.inr (.inr (.inr (zq [none, none, none, none, none, none, none, none, none, none, none, none, none, none, none, none]))))))]) hP hK hD hS hA hT hZ [0, 1] [0] rfl rfl (by decide) rfl [.ref xo, .int 0, .int 0, .int 31])⟩ rfl rfl hl.1 rfl (lv_room (Nat.le_of_ble_eq_true rfl)) dL_ask_399 ⟨(Nat.le_of_ble_eq_true rfl), (Nat.le_of_ble_eq_true rfl)⟩) hS (fun q _ h => hFc q h) hFc (fun q _ h => hFc q h) (fun E ce q9 u t H locs ht hvm hpx hBX hz1 hk1 hS hce hcv hcl => ?_) (fun r_1217 u t H locs ht hvm w_1218 hB hz1 hk1 hS => ?_)
  · obtain ⟨hBX, hB⟩ := hBX
    obtain ⟨hP, hD, hK⟩ := q_join (D := D) (wc := [(xo, .inr (6, [.ref xg, .int gc, .ref xp, .int pc, .ref xq, .int qc, .ref r1, .ref r2, .ref r3, .ref r4, .ref se, .int ts, .int hou, .int dr, .int su, .int br])), (xq, .inl (cq, 16, .inr (.inr (.inr (.inr (zq [none, none, none, none, none, none, none, none, none, none, none, none, none, none, none, none]))))))]) (wr := [(va, .inl (ci, 3, .inl (zi [0, 0, 31])))]) (w1 := [(xo, .inr (6, [.ref xg, .int gc, .ref xp, .int pc, .ref xq, .int qc, .ref r1, .ref r2, .ref r3, .ref r4, .ref se, .int ts, .int hou, .int dr, .int su, .int br])), (xq, .inl (cq, 16, .inr (.inr (.inr (.inr (zq [none, none, none, none, none, none, none, none, none, none, none, none, none, none, none, none]))))))]) (tyr := [(ci, .int)]) (ty1 := [(cq, .object "Gatherhouse$Piece")]) hP hD hK [0, 1] [2] [1] rfl rfl (by decide) (by decide) rfl hFc hk1 ht hvm hB
    have hP : va_P D vwCl [(va, .inl (ci, 3, .inl (zi [0, 0, 31]))), (xo, .inr (6, [.ref xg, .int gc, .ref xp, .int pc, .ref xq, .int qc, .ref r1, .ref r2, .ref r3, .ref r4, .ref se, .int ts, .int hou, .int dr, .int su, .int br])), (xq, .inl (cq, 16, .inr (.inr (.inr (.inr (zq [none, none, none, none, none, none, none, none, none, none, none, none, none, none, none, none]))))))] H := hP
    have hD : va_D A [(va, .inl (ci, 3, .inl (zi [0, 0, 31]))), (xo, .inr (6, [.ref xg, .int gc, .ref xp, .int pc, .ref xq, .int qc, .ref r1, .ref r2, .ref r3, .ref r4, .ref se, .int ts, .int hou, .int dr, .int su, .int br])), (xq, .inl (cq, 16, .inr (.inr (.inr (.inr (zq [none, none, none, none, none, none, none, none, none, none, none, none, none, none, none, none]))))))] := hD
    have hK : va_K D vwCl [(ci, .int), (cq, .object "Gatherhouse$Piece")] s := hK
    have hBX : (E = "java/lang/IndexOutOfBoundsException") := hBX
    rcases hBX with rfl
    refine z_catch (own := RL) (name := "java/lang/IndexOutOfBoundsException") (hh := ttL_ask) (x := ⟨389, 402, 468, 79⟩) hown hxe 13 rfl [] (by decide +kernel) (fun _ h => absurd h List.not_mem_nil) (by decide) (by decide) (hts (.classLink RL 79 "java/lang/IndexOutOfBoundsException") (by decide +kernel)) (va_Nw.use rfl (hT.2.2.1 ("java/lang/IndexOutOfBoundsException", "java/lang/IndexOutOfBoundsException") (by decide +kernel))) hce hcv hcl ?_
    refine W.eq (g2 := F0 m 468 ls [.ref q9]) rfl ?_
    refine lv_astore_n (lv' := [(3, .ref q9), (0, .ref xo), (1, .int 87), (2, .ref va)]) hx hb dL_ask_468 rfl hl (by decide) rfl (fun ls hl => ?_)
    refine lv_ldc (v := (-2000000001)) hx hb hown (hts (.constant RL 81 (-2000000001)) (by decide +kernel)) dL_ask_469 ?_
    refine vx_ret ?_
    exact W.iret (v := (-2000000001)) hx hb hr (fun t ht hW => ⟨⟨(-2000000001), (), rfl, rfl, q_RW_mk hP hK hD [1, 2] [1] rfl rfl (by decide) rfl ht hW.alike⟩, hS.F ht⟩) hS.2.2 dL_ask_471
  · exact w_1218.elim
theorem dL_ask_403 : decode cL_ask 403 = .ok (.aload_n 0, 1) := by decide +kernel
theorem dL_ask_404 : decode cL_ask 404 = .ok (.aload_n 2, 1) := by decide +kernel
theorem dL_ask_405 : decode cL_ask 405 = .ok (.iconst 0, 1) := by decide +kernel
theorem dL_ask_406 : decode cL_ask 406 = .ok (.iaload, 1) := by decide +kernel
theorem dL_ask_407 : decode cL_ask 407 = .ok (.aload_n 2, 1) := by decide +kernel
theorem dL_ask_408 : decode cL_ask 408 = .ok (.iconst 1, 1) := by decide +kernel
theorem dL_ask_409 : decode cL_ask 409 = .ok (.iaload, 1) := by decide +kernel
theorem dL_ask_410 : decode cL_ask 410 = .ok (.aload_n 2, 1) := by decide +kernel
theorem dL_ask_411 : decode cL_ask 411 = .ok (.iconst 2, 1) := by decide +kernel
theorem dL_ask_412 : decode cL_ask 412 = .ok (.iaload, 1) := by decide +kernel
theorem dL_ask_413 : decode cL_ask 413 = .ok (.invokevirtual 58, 3) := by decide +kernel
def wzEL_ask_neck_no : List Cond := [.codeWith yL_ask cL_ask 4 (some .int) ttL_ask, .methodLink RL 58 yX6_neck, .instanceMethod yX6_neck, .selects RX6 yX6_neck yX6_neck, .initialized RX6, .code yX6_neck cX6_neck 7 (some .int), .methodLink RX6 169 yX6_findPiece, .instanceMethod yX6_findPiece, .selects RX6 yX6_findPiece yX6_findPiece, .code yX6_findPiece cX6_findPiece 3 (some (.object "Gatherhouse$Piece")), .fieldLink RX6 30 "Gatherhouse" "pieces" "[LGatherhouse$Piece;", .classLink RX6 365 "java/lang/IndexOutOfBoundsException", .initialized "java/lang/IndexOutOfBoundsException", .classLink RL 79 "java/lang/IndexOutOfBoundsException", .constant RL 81 (-2000000001)]
def wzL_ask_neck_no : List Cond := wzEL_ask_neck_no ++ (u_ws RX6 TX6 16 ++ ((vx_atS RX6 369 "java/lang/IndexOutOfBoundsException" ["java/lang/RuntimeException", "java/lang/Exception"]).filter goodWord))
theorem zgEL_ask_neck_no : wzEL_ask_neck_no.all goodWord = true := by decide +kernel
theorem zuL_ask_neck_no_X6 : ∀ w ∈ u_ws RX6 TX6 16, w ∈ wzL_ask_neck_no := (fun _ h => (List.mem_append_right _ (List.mem_append_left _ h)))
theorem ztL_ask_neck_no_X6_369 : ∀ w ∈ (vx_atS RX6 369 "java/lang/IndexOutOfBoundsException" ["java/lang/RuntimeException", "java/lang/Exception"]).filter goodWord, w ∈ wzL_ask_neck_no := (fun _ h => (List.mem_append_right _ (List.mem_append_right _ h)))
theorem gzL_ask_neck_no_X6_neck_no_58 : GoodIn wzL_ask_neck_no (wsV RL 58 RX6 yX6_neck wzX6_neck_no) := (goodIn_app (z_lift (goodIn_r _ [1, 2, 3, 4] rfl (by decide +kernel))) (goodIn_app (z_lift (goodIn_r wzEX6_neck_no [5, 6, 7, 8, 4, 9, 10, 11, 12] rfl zgEX6_neck_no)) (goodIn_app (goodIn_sub (fun _ h => (List.mem_append_right _ (List.mem_append_left _ h))) zgU_X6) (goodIn_sub (fun _ h => (List.mem_append_right _ (List.mem_append_right _ h))) zgV_X6_369))))
set_option maxHeartbeats 4000000 in
set_option maxRecDepth 100000 in
theorem zc_L_ask_neck_no (l : Launch) (hnt : l.stackTraces = false) (D : va_G) (G : Nat × Nat × (Nat → Int32)) (xo : Nat) (va : Nat) (xg : Nat) (gc : Int32) (xp : Nat) (pc : Int32) (xq : Nat) (qc : Int32) (r1 : Nat) (r2 : Nat) (r3 : Nat) (r4 : Nat) (se : Nat) (ts : Int32) (hou : Int32) (dr : Int32) (su : Int32) (br : Int32) (cq : ClassId) (ci : ClassId) (sz : Nat) : vx_Met l yL_ask wzL_ask_neck_no ({ frames := 8, cells := 1, slots := 6, locals := 130 }) (va_Pc [.ref xo, .int 78, .ref va] (p_RW D G [(cq, .object "Gatherhouse$Piece"), (ci, .int)] [(xo, .inr (6, [.ref xg, .int gc, .ref xp, .int pc, .ref xq, .int qc, .ref r1, .ref r2, .ref r3, .ref r4, .ref se, .int ts, .int hou, .int dr, .int su, .int br])), (xq, .inl (cq, 16, .inr (.inr (.inr (.inr (zq [none, none, none, none, none, none, none, none, none, none, none, none, none, none, none, none])))))), (va, .inl (ci, 3, .inl (zi [0, 0, 31])))] sz)) (va_Qi (fun (r : Int32) (u : Unit) => r = (-2000000001)) (fun (u : Unit) (t : State) => q_RW D [(cq, .object "Gatherhouse$Piece")] [(xo, .inr (6, [.ref xg, .int gc, .ref xp, .int pc, .ref xq, .int qc, .ref r1, .ref r2, .ref r3, .ref r4, .ref se, .int ts, .int hou, .int dr, .int su, .int br])), (xq, .inl (cq, 16, .inr (.inr (.inr (.inr (zq [none, none, none, none, none, none, none, none, none, none, none, none, none, none, none, none]))))))] (va_A [(xo, .inr (6, [.ref xg, .int gc, .ref xp, .int pc, .ref xq, .int qc, .ref r1, .ref r2, .ref r3, .ref r4, .ref se, .int ts, .int hou, .int dr, .int su, .int br])), (xq, .inl (cq, 16, .inr (.inr (.inr (.inr (zq [none, none, none, none, none, none, none, none, none, none, none, none, none, none, none, none])))))), (va, .inl (ci, 3, .inl (zi [0, 0, 31])))] sz) t) (va_A [(xo, .inr (6, [.ref xg, .int gc, .ref xp, .int pc, .ref xq, .int qc, .ref r1, .ref r2, .ref r3, .ref r4, .ref se, .int ts, .int hou, .int dr, .int su, .int br])), (xq, .inl (cq, 16, .inr (.inr (.inr (.inr (zq [none, none, none, none, none, none, none, none, none, none, none, none, none, none, none, none])))))), (va, .inl (ci, 3, .inl (zi [0, 0, 31])))] sz)) (vx_X (fun (_ : Unit) => True) (fun E (_ : Unit) (_ : State) => False) (va_A [(xo, .inr (6, [.ref xg, .int gc, .ref xp, .int pc, .ref xq, .int qc, .ref r1, .ref r2, .ref r3, .ref r4, .ref se, .int ts, .int hou, .int dr, .int su, .int br])), (xq, .inl (cq, 16, .inr (.inr (.inr (.inr (zq [none, none, none, none, none, none, none, none, none, none, none, none, none, none, none, none])))))), (va, .inl (ci, 3, .inl (zi [0, 0, 31])))] sz)) 1 6 (va_A [(xo, .inr (6, [.ref xg, .int gc, .ref xp, .int pc, .ref xq, .int qc, .ref r1, .ref r2, .ref r3, .ref r4, .ref se, .int ts, .int hou, .int dr, .int su, .int br])), (xq, .inl (cq, 16, .inr (.inr (.inr (.inr (zq [none, none, none, none, none, none, none, none, none, none, none, none, none, none, none, none])))))), (va, .inl (ci, 3, .inl (zi [0, 0, 31])))] sz) := by
  refine vx_ofWH (cc := cL_ask) (maxL := 4) (ret := (some .int)) (by decide) rfl ?_
  intro p e s m args below meth c s₁ B hml hv
  obtain ⟨rfl, hsz, hP, hK, hD0, hT, hZ⟩ := hv
  have hx := B.exec
  have hb := B.bytes
  have hr := B.returns
  have hts := atoms_spec (ws := wzL_ask_neck_no) B.pre
  have hown : s.vm.findClass RL = some m.cls := findClass_of_methodNamed B.named
  have hlocks := B.notSynchronized
  have hxe := vx_table (x := yL_ask) B (hts _ List.mem_cons_self)
  subst hsz
  have hD := hD0.self (sz := s.heap.size)
  generalize hAe : va_A [(xo, .inr (6, [.ref xg, .int gc, .ref xp, .int pc, .ref xq, .int qc, .ref r1, .ref r2, .ref r3, .ref r4, .ref se, .int ts, .int hou, .int dr, .int su, .int br])), (xq, .inl (cq, 16, .inr (.inr (.inr (.inr (zq [none, none, none, none, none, none, none, none, none, none, none, none, none, none, none, none])))))), (va, .inl (ci, 3, .inl (zi [0, 0, 31])))] s.heap.size = A at hD hZ ⊢
  have hA : ∀ q : Nat, s.heap.size ≤ q → A q := fun q h => by rw [← hAe]; exact Or.inr h
  have hS : va_S A s.heap s.heap [] := va_S.rf
  have hl := lv_entry ([.ref xo, .int 78, .ref va]) (n := 4) (Nat.le_of_ble_eq_true rfl)
  rw [lg_entry_eq]
  generalize (lg_sl ([.ref xo, .int 78, .ref va]) ++ List.replicate (4 - (lg_sl ([.ref xo, .int 78, .ref va])).length) Slot.unset).toArray = ls at hl ⊢
  have hl : lv_has ls 4 [(0, .ref xo), (1, .int 78), (2, .ref va)] := hl
  refine lv_iload_n hx hb dL_ask_0 rfl (lv_at hl 1 rfl) ?_
  refine lv_tableIn (off := 402) (tgt := 403) hx hb dL_ask_1 (by decide +kernel) (by decide +kernel) (by decide +kernel) (by decide) ?_
  refine lv_aload_n hx hb dL_ask_403 rfl (lv_at hl 0 rfl) ?_
  refine lv_aload_n hx hb dL_ask_404 rfl (lv_at hl 2 rfl) ?_
  refine lv_iconst (v := 0) hx hb dL_ask_405 (by decide) ?_
  refine va_iald (D := D) (cl := vwCl) hx hb hK hP 2 1 rfl rfl (vp_in_nI (n := 0) (N := 3) (by decide) (by decide)) dL_ask_406 ?_
  refine W.eq (g2 := F0 m 407 ls [.int 0, .ref xo]) rfl ?_
  refine lv_aload_n hx hb dL_ask_407 rfl (lv_at hl 2 rfl) ?_
  refine lv_iconst (v := 1) hx hb dL_ask_408 (by decide) ?_
  refine va_iald (D := D) (cl := vwCl) hx hb hK hP 2 1 rfl rfl (vp_in_nI (n := 1) (N := 3) (by decide) (by decide)) dL_ask_409 ?_
  refine W.eq (g2 := F0 m 410 ls [.int 0, .int 0, .ref xo]) rfl ?_
  refine lv_aload_n hx hb dL_ask_410 rfl (lv_at hl 2 rfl) ?_
  refine lv_iconst (v := 2) hx hb dL_ask_411 (by decide) ?_
  refine va_iald (D := D) (cl := vwCl) hx hb hK hP 2 1 rfl rfl (vp_in_nI (n := 2) (N := 3) (by decide) (by decide)) dL_ask_412 ?_
  refine W.eq (g2 := F0 m 413 ls [.int 31, .int 0, .int 0, .ref xo]) rfl ?_
  have hFc := va_free (wc := [(xo, .inr (6, [.ref xg, .int gc, .ref xp, .int pc, .ref xq, .int qc, .ref r1, .ref r2, .ref r3, .ref r4, .ref se, .int ts, .int hou, .int dr, .int su, .int br])), (xq, .inl (cq, 16, .inr (.inr (.inr (.inr (zq [none, none, none, none, none, none, none, none, none, none, none, none, none, none, none, none]))))))]) hD hS hA [0, 1] rfl
  refine vx_calli (vx_runV (As := [.int 0, .int 0, .int 31]) (rest := []) ⟨hx, hb, hml, hown, hts⟩ (zc_X6_neck_no l hnt D G xo xg gc xp pc xq qc r1 r2 r3 r4 se ts hou dr su br cq s.heap.size) (cwV 3 hts gzL_ask_neck_no_X6_neck_no_58 rfl rfl rfl (by decide +kernel) ⟨(Nat.le_of_ble_eq_true rfl), (Nat.le_of_ble_eq_true rfl)⟩) ⟨p_RW_blind, va_recv hK hP (ci := 6) (q0 := 0) rfl rfl, (p_RW_at (tc := [(cq, .object "Gatherhouse$Piece")]) (wc := [(xo, .inr (6, [.ref xg, .int gc, .ref xp, .int pc, .ref xq, .int qc, .ref r1, .ref r2, .ref r3, .ref r4, .ref se, .int ts, .int hou, .int dr, .int su, .int br])), (xq, .inl (cq, 16, .inr (.inr (.inr (.inr (zq [none, none, none, none, none, none, none, none, none, none, none, none, none, none, none, none]))))))]) hP hK hD hS hA hT hZ [0, 1] [0] rfl rfl (by decide) rfl [.ref xo, .int 0, .int 0, .int 31])⟩ rfl rfl hl.1 rfl (lv_room (Nat.le_of_ble_eq_true rfl)) dL_ask_413 ⟨(Nat.le_of_ble_eq_true rfl), (Nat.le_of_ble_eq_true rfl)⟩) hS (fun q _ h => hFc q h) hFc (fun q _ h => hFc q h) (fun E ce q9 u t H locs ht hvm hpx hBX hz1 hk1 hS hce hcv hcl => ?_) (fun r_1219 u t H locs ht hvm w_1220 hB hz1 hk1 hS => ?_)
  · obtain ⟨hBX, hB⟩ := hBX
    obtain ⟨hP, hD, hK⟩ := q_join (D := D) (wc := [(xo, .inr (6, [.ref xg, .int gc, .ref xp, .int pc, .ref xq, .int qc, .ref r1, .ref r2, .ref r3, .ref r4, .ref se, .int ts, .int hou, .int dr, .int su, .int br])), (xq, .inl (cq, 16, .inr (.inr (.inr (.inr (zq [none, none, none, none, none, none, none, none, none, none, none, none, none, none, none, none]))))))]) (wr := [(va, .inl (ci, 3, .inl (zi [0, 0, 31])))]) (w1 := [(xo, .inr (6, [.ref xg, .int gc, .ref xp, .int pc, .ref xq, .int qc, .ref r1, .ref r2, .ref r3, .ref r4, .ref se, .int ts, .int hou, .int dr, .int su, .int br])), (xq, .inl (cq, 16, .inr (.inr (.inr (.inr (zq [none, none, none, none, none, none, none, none, none, none, none, none, none, none, none, none]))))))]) (tyr := [(ci, .int)]) (ty1 := [(cq, .object "Gatherhouse$Piece")]) hP hD hK [0, 1] [2] [1] rfl rfl (by decide) (by decide) rfl hFc hk1 ht hvm hB
    have hP : va_P D vwCl [(va, .inl (ci, 3, .inl (zi [0, 0, 31]))), (xo, .inr (6, [.ref xg, .int gc, .ref xp, .int pc, .ref xq, .int qc, .ref r1, .ref r2, .ref r3, .ref r4, .ref se, .int ts, .int hou, .int dr, .int su, .int br])), (xq, .inl (cq, 16, .inr (.inr (.inr (.inr (zq [none, none, none, none, none, none, none, none, none, none, none, none, none, none, none, none]))))))] H := hP
    have hD : va_D A [(va, .inl (ci, 3, .inl (zi [0, 0, 31]))), (xo, .inr (6, [.ref xg, .int gc, .ref xp, .int pc, .ref xq, .int qc, .ref r1, .ref r2, .ref r3, .ref r4, .ref se, .int ts, .int hou, .int dr, .int su, .int br])), (xq, .inl (cq, 16, .inr (.inr (.inr (.inr (zq [none, none, none, none, none, none, none, none, none, none, none, none, none, none, none, none]))))))] := hD
    have hK : va_K D vwCl [(ci, .int), (cq, .object "Gatherhouse$Piece")] s := hK
    have hBX : (E = "java/lang/IndexOutOfBoundsException") := hBX
    rcases hBX with rfl
    refine z_catch (own := RL) (name := "java/lang/IndexOutOfBoundsException") (hh := ttL_ask) (x := ⟨403, 416, 468, 79⟩) hown hxe 14 rfl [] (by decide +kernel) (fun _ h => absurd h List.not_mem_nil) (by decide) (by decide) (hts (.classLink RL 79 "java/lang/IndexOutOfBoundsException") (by decide +kernel)) (va_Nw.use rfl (hT.2.2.1 ("java/lang/IndexOutOfBoundsException", "java/lang/IndexOutOfBoundsException") (by decide +kernel))) hce hcv hcl ?_
    refine W.eq (g2 := F0 m 468 ls [.ref q9]) rfl ?_
    refine lv_astore_n (lv' := [(3, .ref q9), (0, .ref xo), (1, .int 78), (2, .ref va)]) hx hb dL_ask_468 rfl hl (by decide) rfl (fun ls hl => ?_)
    refine lv_ldc (v := (-2000000001)) hx hb hown (hts (.constant RL 81 (-2000000001)) (by decide +kernel)) dL_ask_469 ?_
    refine vx_ret ?_
    exact W.iret (v := (-2000000001)) hx hb hr (fun t ht hW => ⟨⟨(-2000000001), (), rfl, rfl, q_RW_mk hP hK hD [1, 2] [1] rfl rfl (by decide) rfl ht hW.alike⟩, hS.F ht⟩) hS.2.2 dL_ask_471
  · exact w_1220.elim
theorem dL_ask_417 : decode cL_ask 417 = .ok (.aload_n 0, 1) := by decide +kernel
theorem dL_ask_418 : decode cL_ask 418 = .ok (.aload_n 2, 1) := by decide +kernel
theorem dL_ask_419 : decode cL_ask 419 = .ok (.iconst 0, 1) := by decide +kernel
theorem dL_ask_420 : decode cL_ask 420 = .ok (.iaload, 1) := by decide +kernel
theorem dL_ask_421 : decode cL_ask 421 = .ok (.aload_n 2, 1) := by decide +kernel
theorem dL_ask_422 : decode cL_ask 422 = .ok (.iconst 1, 1) := by decide +kernel
theorem dL_ask_423 : decode cL_ask 423 = .ok (.iaload, 1) := by decide +kernel
theorem dL_ask_424 : decode cL_ask 424 = .ok (.invokevirtual 61, 3) := by decide +kernel
def wzEL_ask_split_no : List Cond := [.codeWith yL_ask cL_ask 4 (some .int) ttL_ask, .methodLink RL 61 yX6_split, .instanceMethod yX6_split, .selects RX6 yX6_split yX6_split, .initialized RX6, .code yX6_split cX6_split 6 (some .int), .methodLink RX6 169 yX6_findPiece, .instanceMethod yX6_findPiece, .selects RX6 yX6_findPiece yX6_findPiece, .code yX6_findPiece cX6_findPiece 3 (some (.object "Gatherhouse$Piece")), .fieldLink RX6 30 "Gatherhouse" "pieces" "[LGatherhouse$Piece;", .classLink RX6 365 "java/lang/IndexOutOfBoundsException", .initialized "java/lang/IndexOutOfBoundsException", .classLink RL 79 "java/lang/IndexOutOfBoundsException", .constant RL 81 (-2000000001)]
def wzL_ask_split_no : List Cond := wzEL_ask_split_no ++ (u_ws RX6 TX6 16 ++ ((vx_atS RX6 369 "java/lang/IndexOutOfBoundsException" ["java/lang/RuntimeException", "java/lang/Exception"]).filter goodWord))
theorem zgEL_ask_split_no : wzEL_ask_split_no.all goodWord = true := by decide +kernel
theorem zuL_ask_split_no_X6 : ∀ w ∈ u_ws RX6 TX6 16, w ∈ wzL_ask_split_no := (fun _ h => (List.mem_append_right _ (List.mem_append_left _ h)))
theorem ztL_ask_split_no_X6_369 : ∀ w ∈ (vx_atS RX6 369 "java/lang/IndexOutOfBoundsException" ["java/lang/RuntimeException", "java/lang/Exception"]).filter goodWord, w ∈ wzL_ask_split_no := (fun _ h => (List.mem_append_right _ (List.mem_append_right _ h)))
theorem gzL_ask_split_no_X6_split_no_61 : GoodIn wzL_ask_split_no (wsV RL 61 RX6 yX6_split wzX6_split_no) := (goodIn_app (z_lift (goodIn_r _ [1, 2, 3, 4] rfl (by decide +kernel))) (goodIn_app (z_lift (goodIn_r wzEX6_split_no [5, 6, 7, 8, 4, 9, 10, 11, 12] rfl zgEX6_split_no)) (goodIn_app (goodIn_sub (fun _ h => (List.mem_append_right _ (List.mem_append_left _ h))) zgU_X6) (goodIn_sub (fun _ h => (List.mem_append_right _ (List.mem_append_right _ h))) zgV_X6_369))))
set_option maxHeartbeats 4000000 in
set_option maxRecDepth 100000 in
theorem zc_L_ask_split_no (l : Launch) (hnt : l.stackTraces = false) (D : va_G) (G : Nat × Nat × (Nat → Int32)) (xo : Nat) (va : Nat) (xg : Nat) (gc : Int32) (xp : Nat) (pc : Int32) (xq : Nat) (qc : Int32) (r1 : Nat) (r2 : Nat) (r3 : Nat) (r4 : Nat) (se : Nat) (ts : Int32) (hou : Int32) (dr : Int32) (su : Int32) (br : Int32) (cq : ClassId) (ci : ClassId) (sz : Nat) : vx_Met l yL_ask wzL_ask_split_no ({ frames := 8, cells := 1, slots := 6, locals := 129 }) (va_Pc [.ref xo, .int 83, .ref va] (p_RW D G [(cq, .object "Gatherhouse$Piece"), (ci, .int)] [(xo, .inr (6, [.ref xg, .int gc, .ref xp, .int pc, .ref xq, .int qc, .ref r1, .ref r2, .ref r3, .ref r4, .ref se, .int ts, .int hou, .int dr, .int su, .int br])), (xq, .inl (cq, 16, .inr (.inr (.inr (.inr (zq [none, none, none, none, none, none, none, none, none, none, none, none, none, none, none, none])))))), (va, .inl (ci, 2, .inl (zi [0, 0])))] sz)) (va_Qi (fun (r : Int32) (u : Unit) => r = (-2000000001)) (fun (u : Unit) (t : State) => q_RW D [(cq, .object "Gatherhouse$Piece")] [(xo, .inr (6, [.ref xg, .int gc, .ref xp, .int pc, .ref xq, .int qc, .ref r1, .ref r2, .ref r3, .ref r4, .ref se, .int ts, .int hou, .int dr, .int su, .int br])), (xq, .inl (cq, 16, .inr (.inr (.inr (.inr (zq [none, none, none, none, none, none, none, none, none, none, none, none, none, none, none, none]))))))] (va_A [(xo, .inr (6, [.ref xg, .int gc, .ref xp, .int pc, .ref xq, .int qc, .ref r1, .ref r2, .ref r3, .ref r4, .ref se, .int ts, .int hou, .int dr, .int su, .int br])), (xq, .inl (cq, 16, .inr (.inr (.inr (.inr (zq [none, none, none, none, none, none, none, none, none, none, none, none, none, none, none, none])))))), (va, .inl (ci, 2, .inl (zi [0, 0])))] sz) t) (va_A [(xo, .inr (6, [.ref xg, .int gc, .ref xp, .int pc, .ref xq, .int qc, .ref r1, .ref r2, .ref r3, .ref r4, .ref se, .int ts, .int hou, .int dr, .int su, .int br])), (xq, .inl (cq, 16, .inr (.inr (.inr (.inr (zq [none, none, none, none, none, none, none, none, none, none, none, none, none, none, none, none])))))), (va, .inl (ci, 2, .inl (zi [0, 0])))] sz)) (vx_X (fun (_ : Unit) => True) (fun E (_ : Unit) (_ : State) => False) (va_A [(xo, .inr (6, [.ref xg, .int gc, .ref xp, .int pc, .ref xq, .int qc, .ref r1, .ref r2, .ref r3, .ref r4, .ref se, .int ts, .int hou, .int dr, .int su, .int br])), (xq, .inl (cq, 16, .inr (.inr (.inr (.inr (zq [none, none, none, none, none, none, none, none, none, none, none, none, none, none, none, none])))))), (va, .inl (ci, 2, .inl (zi [0, 0])))] sz)) 1 6 (va_A [(xo, .inr (6, [.ref xg, .int gc, .ref xp, .int pc, .ref xq, .int qc, .ref r1, .ref r2, .ref r3, .ref r4, .ref se, .int ts, .int hou, .int dr, .int su, .int br])), (xq, .inl (cq, 16, .inr (.inr (.inr (.inr (zq [none, none, none, none, none, none, none, none, none, none, none, none, none, none, none, none])))))), (va, .inl (ci, 2, .inl (zi [0, 0])))] sz) := by
  refine vx_ofWH (cc := cL_ask) (maxL := 4) (ret := (some .int)) (by decide) rfl ?_
  intro p e s m args below meth c s₁ B hml hv
  obtain ⟨rfl, hsz, hP, hK, hD0, hT, hZ⟩ := hv
  have hx := B.exec
  have hb := B.bytes
  have hr := B.returns
  have hts := atoms_spec (ws := wzL_ask_split_no) B.pre
  have hown : s.vm.findClass RL = some m.cls := findClass_of_methodNamed B.named
  have hlocks := B.notSynchronized
  have hxe := vx_table (x := yL_ask) B (hts _ List.mem_cons_self)
  subst hsz
  have hD := hD0.self (sz := s.heap.size)
  generalize hAe : va_A [(xo, .inr (6, [.ref xg, .int gc, .ref xp, .int pc, .ref xq, .int qc, .ref r1, .ref r2, .ref r3, .ref r4, .ref se, .int ts, .int hou, .int dr, .int su, .int br])), (xq, .inl (cq, 16, .inr (.inr (.inr (.inr (zq [none, none, none, none, none, none, none, none, none, none, none, none, none, none, none, none])))))), (va, .inl (ci, 2, .inl (zi [0, 0])))] s.heap.size = A at hD hZ ⊢
  have hA : ∀ q : Nat, s.heap.size ≤ q → A q := fun q h => by rw [← hAe]; exact Or.inr h
  have hS : va_S A s.heap s.heap [] := va_S.rf
  have hl := lv_entry ([.ref xo, .int 83, .ref va]) (n := 4) (Nat.le_of_ble_eq_true rfl)
  rw [lg_entry_eq]
  generalize (lg_sl ([.ref xo, .int 83, .ref va]) ++ List.replicate (4 - (lg_sl ([.ref xo, .int 83, .ref va])).length) Slot.unset).toArray = ls at hl ⊢
  have hl : lv_has ls 4 [(0, .ref xo), (1, .int 83), (2, .ref va)] := hl
  refine lv_iload_n hx hb dL_ask_0 rfl (lv_at hl 1 rfl) ?_
  refine lv_tableIn (off := 416) (tgt := 417) hx hb dL_ask_1 (by decide +kernel) (by decide +kernel) (by decide +kernel) (by decide) ?_
  refine lv_aload_n hx hb dL_ask_417 rfl (lv_at hl 0 rfl) ?_
  refine lv_aload_n hx hb dL_ask_418 rfl (lv_at hl 2 rfl) ?_
  refine lv_iconst (v := 0) hx hb dL_ask_419 (by decide) ?_
  refine va_iald (D := D) (cl := vwCl) hx hb hK hP 2 1 rfl rfl (vp_in_nI (n := 0) (N := 2) (by decide) (by decide)) dL_ask_420 ?_
  refine W.eq (g2 := F0 m 421 ls [.int 0, .ref xo]) rfl ?_
  refine lv_aload_n hx hb dL_ask_421 rfl (lv_at hl 2 rfl) ?_
  refine lv_iconst (v := 1) hx hb dL_ask_422 (by decide) ?_
  refine va_iald (D := D) (cl := vwCl) hx hb hK hP 2 1 rfl rfl (vp_in_nI (n := 1) (N := 2) (by decide) (by decide)) dL_ask_423 ?_
  refine W.eq (g2 := F0 m 424 ls [.int 0, .int 0, .ref xo]) rfl ?_
  have hFc := va_free (wc := [(xo, .inr (6, [.ref xg, .int gc, .ref xp, .int pc, .ref xq, .int qc, .ref r1, .ref r2, .ref r3, .ref r4, .ref se, .int ts, .int hou, .int dr, .int su, .int br])), (xq, .inl (cq, 16, .inr (.inr (.inr (.inr (zq [none, none, none, none, none, none, none, none, none, none, none, none, none, none, none, none]))))))]) hD hS hA [0, 1] rfl
  refine vx_calli (vx_runV (As := [.int 0, .int 0]) (rest := []) ⟨hx, hb, hml, hown, hts⟩ (zc_X6_split_no l hnt D G xo xg gc xp pc xq qc r1 r2 r3 r4 se ts hou dr su br cq s.heap.size) (cwV 2 hts gzL_ask_split_no_X6_split_no_61 rfl rfl rfl (by decide +kernel) ⟨(Nat.le_of_ble_eq_true rfl), (Nat.le_of_ble_eq_true rfl)⟩) ⟨p_RW_blind, va_recv hK hP (ci := 6) (q0 := 0) rfl rfl, (p_RW_at (tc := [(cq, .object "Gatherhouse$Piece")]) (wc := [(xo, .inr (6, [.ref xg, .int gc, .ref xp, .int pc, .ref xq, .int qc, .ref r1, .ref r2, .ref r3, .ref r4, .ref se, .int ts, .int hou, .int dr, .int su, .int br])), (xq, .inl (cq, 16, .inr (.inr (.inr (.inr (zq [none, none, none, none, none, none, none, none, none, none, none, none, none, none, none, none]))))))]) hP hK hD hS hA hT hZ [0, 1] [0] rfl rfl (by decide) rfl [.ref xo, .int 0, .int 0])⟩ rfl rfl hl.1 rfl (lv_room (Nat.le_of_ble_eq_true rfl)) dL_ask_424 ⟨(Nat.le_of_ble_eq_true rfl), (Nat.le_of_ble_eq_true rfl)⟩) hS (fun q _ h => hFc q h) hFc (fun q _ h => hFc q h) (fun E ce q9 u t H locs ht hvm hpx hBX hz1 hk1 hS hce hcv hcl => ?_) (fun r_1221 u t H locs ht hvm w_1222 hB hz1 hk1 hS => ?_)
  · obtain ⟨hBX, hB⟩ := hBX
    obtain ⟨hP, hD, hK⟩ := q_join (D := D) (wc := [(xo, .inr (6, [.ref xg, .int gc, .ref xp, .int pc, .ref xq, .int qc, .ref r1, .ref r2, .ref r3, .ref r4, .ref se, .int ts, .int hou, .int dr, .int su, .int br])), (xq, .inl (cq, 16, .inr (.inr (.inr (.inr (zq [none, none, none, none, none, none, none, none, none, none, none, none, none, none, none, none]))))))]) (wr := [(va, .inl (ci, 2, .inl (zi [0, 0])))]) (w1 := [(xo, .inr (6, [.ref xg, .int gc, .ref xp, .int pc, .ref xq, .int qc, .ref r1, .ref r2, .ref r3, .ref r4, .ref se, .int ts, .int hou, .int dr, .int su, .int br])), (xq, .inl (cq, 16, .inr (.inr (.inr (.inr (zq [none, none, none, none, none, none, none, none, none, none, none, none, none, none, none, none]))))))]) (tyr := [(ci, .int)]) (ty1 := [(cq, .object "Gatherhouse$Piece")]) hP hD hK [0, 1] [2] [1] rfl rfl (by decide) (by decide) rfl hFc hk1 ht hvm hB
    have hP : va_P D vwCl [(va, .inl (ci, 2, .inl (zi [0, 0]))), (xo, .inr (6, [.ref xg, .int gc, .ref xp, .int pc, .ref xq, .int qc, .ref r1, .ref r2, .ref r3, .ref r4, .ref se, .int ts, .int hou, .int dr, .int su, .int br])), (xq, .inl (cq, 16, .inr (.inr (.inr (.inr (zq [none, none, none, none, none, none, none, none, none, none, none, none, none, none, none, none]))))))] H := hP
    have hD : va_D A [(va, .inl (ci, 2, .inl (zi [0, 0]))), (xo, .inr (6, [.ref xg, .int gc, .ref xp, .int pc, .ref xq, .int qc, .ref r1, .ref r2, .ref r3, .ref r4, .ref se, .int ts, .int hou, .int dr, .int su, .int br])), (xq, .inl (cq, 16, .inr (.inr (.inr (.inr (zq [none, none, none, none, none, none, none, none, none, none, none, none, none, none, none, none]))))))] := hD
    have hK : va_K D vwCl [(ci, .int), (cq, .object "Gatherhouse$Piece")] s := hK
    have hBX : (E = "java/lang/IndexOutOfBoundsException") := hBX
    rcases hBX with rfl
    refine z_catch (own := RL) (name := "java/lang/IndexOutOfBoundsException") (hh := ttL_ask) (x := ⟨417, 427, 468, 79⟩) hown hxe 15 rfl [] (by decide +kernel) (fun _ h => absurd h List.not_mem_nil) (by decide) (by decide) (hts (.classLink RL 79 "java/lang/IndexOutOfBoundsException") (by decide +kernel)) (va_Nw.use rfl (hT.2.2.1 ("java/lang/IndexOutOfBoundsException", "java/lang/IndexOutOfBoundsException") (by decide +kernel))) hce hcv hcl ?_
    refine W.eq (g2 := F0 m 468 ls [.ref q9]) rfl ?_
    refine lv_astore_n (lv' := [(3, .ref q9), (0, .ref xo), (1, .int 83), (2, .ref va)]) hx hb dL_ask_468 rfl hl (by decide) rfl (fun ls hl => ?_)
    refine lv_ldc (v := (-2000000001)) hx hb hown (hts (.constant RL 81 (-2000000001)) (by decide +kernel)) dL_ask_469 ?_
    refine vx_ret ?_
    exact W.iret (v := (-2000000001)) hx hb hr (fun t ht hW => ⟨⟨(-2000000001), (), rfl, rfl, q_RW_mk hP hK hD [1, 2] [1] rfl rfl (by decide) rfl ht hW.alike⟩, hS.F ht⟩) hS.2.2 dL_ask_471
  · exact w_1222.elim
theorem dL_ask_428 : decode cL_ask 428 = .ok (.aload_n 0, 1) := by decide +kernel
theorem dL_ask_429 : decode cL_ask 429 = .ok (.aload_n 2, 1) := by decide +kernel
theorem dL_ask_430 : decode cL_ask 430 = .ok (.iconst 0, 1) := by decide +kernel
theorem dL_ask_431 : decode cL_ask 431 = .ok (.iaload, 1) := by decide +kernel
theorem dL_ask_432 : decode cL_ask 432 = .ok (.invokevirtual 64, 3) := by decide +kernel
def wzEL_ask_shear_no : List Cond := [.codeWith yL_ask cL_ask 4 (some .int) ttL_ask, .methodLink RL 64 yX6_shear, .instanceMethod yX6_shear, .selects RX6 yX6_shear yX6_shear, .initialized RX6, .code yX6_shear cX6_shear 4 (some .int), .methodLink RX6 169 yX6_findPiece, .instanceMethod yX6_findPiece, .selects RX6 yX6_findPiece yX6_findPiece, .code yX6_findPiece cX6_findPiece 3 (some (.object "Gatherhouse$Piece")), .fieldLink RX6 30 "Gatherhouse" "pieces" "[LGatherhouse$Piece;", .classLink RX6 365 "java/lang/IndexOutOfBoundsException", .initialized "java/lang/IndexOutOfBoundsException", .classLink RL 79 "java/lang/IndexOutOfBoundsException", .constant RL 81 (-2000000001)]
def wzL_ask_shear_no : List Cond := wzEL_ask_shear_no ++ (u_ws RX6 TX6 16 ++ ((vx_atS RX6 369 "java/lang/IndexOutOfBoundsException" ["java/lang/RuntimeException", "java/lang/Exception"]).filter goodWord))
theorem zgEL_ask_shear_no : wzEL_ask_shear_no.all goodWord = true := by decide +kernel
theorem zuL_ask_shear_no_X6 : ∀ w ∈ u_ws RX6 TX6 16, w ∈ wzL_ask_shear_no := (fun _ h => (List.mem_append_right _ (List.mem_append_left _ h)))
theorem ztL_ask_shear_no_X6_369 : ∀ w ∈ (vx_atS RX6 369 "java/lang/IndexOutOfBoundsException" ["java/lang/RuntimeException", "java/lang/Exception"]).filter goodWord, w ∈ wzL_ask_shear_no := (fun _ h => (List.mem_append_right _ (List.mem_append_right _ h)))
theorem gzL_ask_shear_no_X6_shear_no_64 : GoodIn wzL_ask_shear_no (wsV RL 64 RX6 yX6_shear wzX6_shear_no) := (goodIn_app (z_lift (goodIn_r _ [1, 2, 3, 4] rfl (by decide +kernel))) (goodIn_app (z_lift (goodIn_r wzEX6_shear_no [5, 6, 7, 8, 4, 9, 10, 11, 12] rfl zgEX6_shear_no)) (goodIn_app (goodIn_sub (fun _ h => (List.mem_append_right _ (List.mem_append_left _ h))) zgU_X6) (goodIn_sub (fun _ h => (List.mem_append_right _ (List.mem_append_right _ h))) zgV_X6_369))))
set_option maxHeartbeats 4000000 in
set_option maxRecDepth 100000 in
theorem zc_L_ask_shear_no (l : Launch) (hnt : l.stackTraces = false) (D : va_G) (G : Nat × Nat × (Nat → Int32)) (xo : Nat) (va : Nat) (xg : Nat) (gc : Int32) (xp : Nat) (pc : Int32) (xq : Nat) (qc : Int32) (r1 : Nat) (r2 : Nat) (r3 : Nat) (r4 : Nat) (se : Nat) (ts : Int32) (hou : Int32) (dr : Int32) (su : Int32) (br : Int32) (cq : ClassId) (ci : ClassId) (sz : Nat) : vx_Met l yL_ask wzL_ask_shear_no ({ frames := 8, cells := 1, slots := 6, locals := 127 }) (va_Pc [.ref xo, .int 115, .ref va] (p_RW D G [(cq, .object "Gatherhouse$Piece"), (ci, .int)] [(xo, .inr (6, [.ref xg, .int gc, .ref xp, .int pc, .ref xq, .int qc, .ref r1, .ref r2, .ref r3, .ref r4, .ref se, .int ts, .int hou, .int dr, .int su, .int br])), (xq, .inl (cq, 16, .inr (.inr (.inr (.inr (zq [none, none, none, none, none, none, none, none, none, none, none, none, none, none, none, none])))))), (va, .inl (ci, 1, .inl (zi [0])))] sz)) (va_Qi (fun (r : Int32) (u : Unit) => r = (-2000000001)) (fun (u : Unit) (t : State) => q_RW D [(cq, .object "Gatherhouse$Piece")] [(xo, .inr (6, [.ref xg, .int gc, .ref xp, .int pc, .ref xq, .int qc, .ref r1, .ref r2, .ref r3, .ref r4, .ref se, .int ts, .int hou, .int dr, .int su, .int br])), (xq, .inl (cq, 16, .inr (.inr (.inr (.inr (zq [none, none, none, none, none, none, none, none, none, none, none, none, none, none, none, none]))))))] (va_A [(xo, .inr (6, [.ref xg, .int gc, .ref xp, .int pc, .ref xq, .int qc, .ref r1, .ref r2, .ref r3, .ref r4, .ref se, .int ts, .int hou, .int dr, .int su, .int br])), (xq, .inl (cq, 16, .inr (.inr (.inr (.inr (zq [none, none, none, none, none, none, none, none, none, none, none, none, none, none, none, none])))))), (va, .inl (ci, 1, .inl (zi [0])))] sz) t) (va_A [(xo, .inr (6, [.ref xg, .int gc, .ref xp, .int pc, .ref xq, .int qc, .ref r1, .ref r2, .ref r3, .ref r4, .ref se, .int ts, .int hou, .int dr, .int su, .int br])), (xq, .inl (cq, 16, .inr (.inr (.inr (.inr (zq [none, none, none, none, none, none, none, none, none, none, none, none, none, none, none, none])))))), (va, .inl (ci, 1, .inl (zi [0])))] sz)) (vx_X (fun (_ : Unit) => True) (fun E (_ : Unit) (_ : State) => False) (va_A [(xo, .inr (6, [.ref xg, .int gc, .ref xp, .int pc, .ref xq, .int qc, .ref r1, .ref r2, .ref r3, .ref r4, .ref se, .int ts, .int hou, .int dr, .int su, .int br])), (xq, .inl (cq, 16, .inr (.inr (.inr (.inr (zq [none, none, none, none, none, none, none, none, none, none, none, none, none, none, none, none])))))), (va, .inl (ci, 1, .inl (zi [0])))] sz)) 1 6 (va_A [(xo, .inr (6, [.ref xg, .int gc, .ref xp, .int pc, .ref xq, .int qc, .ref r1, .ref r2, .ref r3, .ref r4, .ref se, .int ts, .int hou, .int dr, .int su, .int br])), (xq, .inl (cq, 16, .inr (.inr (.inr (.inr (zq [none, none, none, none, none, none, none, none, none, none, none, none, none, none, none, none])))))), (va, .inl (ci, 1, .inl (zi [0])))] sz) := by
  refine vx_ofWH (cc := cL_ask) (maxL := 4) (ret := (some .int)) (by decide) rfl ?_
  intro p e s m args below meth c s₁ B hml hv
  obtain ⟨rfl, hsz, hP, hK, hD0, hT, hZ⟩ := hv
  have hx := B.exec
  have hb := B.bytes
  have hr := B.returns
  have hts := atoms_spec (ws := wzL_ask_shear_no) B.pre
  have hown : s.vm.findClass RL = some m.cls := findClass_of_methodNamed B.named
  have hlocks := B.notSynchronized
  have hxe := vx_table (x := yL_ask) B (hts _ List.mem_cons_self)
  subst hsz
  have hD := hD0.self (sz := s.heap.size)
  generalize hAe : va_A [(xo, .inr (6, [.ref xg, .int gc, .ref xp, .int pc, .ref xq, .int qc, .ref r1, .ref r2, .ref r3, .ref r4, .ref se, .int ts, .int hou, .int dr, .int su, .int br])), (xq, .inl (cq, 16, .inr (.inr (.inr (.inr (zq [none, none, none, none, none, none, none, none, none, none, none, none, none, none, none, none])))))), (va, .inl (ci, 1, .inl (zi [0])))] s.heap.size = A at hD hZ ⊢
  have hA : ∀ q : Nat, s.heap.size ≤ q → A q := fun q h => by rw [← hAe]; exact Or.inr h
  have hS : va_S A s.heap s.heap [] := va_S.rf
  have hl := lv_entry ([.ref xo, .int 115, .ref va]) (n := 4) (Nat.le_of_ble_eq_true rfl)
  rw [lg_entry_eq]
  generalize (lg_sl ([.ref xo, .int 115, .ref va]) ++ List.replicate (4 - (lg_sl ([.ref xo, .int 115, .ref va])).length) Slot.unset).toArray = ls at hl ⊢
  have hl : lv_has ls 4 [(0, .ref xo), (1, .int 115), (2, .ref va)] := hl
  refine lv_iload_n hx hb dL_ask_0 rfl (lv_at hl 1 rfl) ?_
  refine lv_tableIn (off := 427) (tgt := 428) hx hb dL_ask_1 (by decide +kernel) (by decide +kernel) (by decide +kernel) (by decide) ?_
  refine lv_aload_n hx hb dL_ask_428 rfl (lv_at hl 0 rfl) ?_
  refine lv_aload_n hx hb dL_ask_429 rfl (lv_at hl 2 rfl) ?_
  refine lv_iconst (v := 0) hx hb dL_ask_430 (by decide) ?_
  refine va_iald (D := D) (cl := vwCl) hx hb hK hP 2 1 rfl rfl (vp_in_nI (n := 0) (N := 1) (by decide) (by decide)) dL_ask_431 ?_
  refine W.eq (g2 := F0 m 432 ls [.int 0, .ref xo]) rfl ?_
  have hFc := va_free (wc := [(xo, .inr (6, [.ref xg, .int gc, .ref xp, .int pc, .ref xq, .int qc, .ref r1, .ref r2, .ref r3, .ref r4, .ref se, .int ts, .int hou, .int dr, .int su, .int br])), (xq, .inl (cq, 16, .inr (.inr (.inr (.inr (zq [none, none, none, none, none, none, none, none, none, none, none, none, none, none, none, none]))))))]) hD hS hA [0, 1] rfl
  refine vx_calli (vx_runV (As := [.int 0]) (rest := []) ⟨hx, hb, hml, hown, hts⟩ (zc_X6_shear_no l hnt D G xo xg gc xp pc xq qc r1 r2 r3 r4 se ts hou dr su br cq s.heap.size) (cwV 1 hts gzL_ask_shear_no_X6_shear_no_64 rfl rfl rfl (by decide +kernel) ⟨(Nat.le_of_ble_eq_true rfl), (Nat.le_of_ble_eq_true rfl)⟩) ⟨p_RW_blind, va_recv hK hP (ci := 6) (q0 := 0) rfl rfl, (p_RW_at (tc := [(cq, .object "Gatherhouse$Piece")]) (wc := [(xo, .inr (6, [.ref xg, .int gc, .ref xp, .int pc, .ref xq, .int qc, .ref r1, .ref r2, .ref r3, .ref r4, .ref se, .int ts, .int hou, .int dr, .int su, .int br])), (xq, .inl (cq, 16, .inr (.inr (.inr (.inr (zq [none, none, none, none, none, none, none, none, none, none, none, none, none, none, none, none]))))))]) hP hK hD hS hA hT hZ [0, 1] [0] rfl rfl (by decide) rfl [.ref xo, .int 0])⟩ rfl rfl hl.1 rfl (lv_room (Nat.le_of_ble_eq_true rfl)) dL_ask_432 ⟨(Nat.le_of_ble_eq_true rfl), (Nat.le_of_ble_eq_true rfl)⟩) hS (fun q _ h => hFc q h) hFc (fun q _ h => hFc q h) (fun E ce q9 u t H locs ht hvm hpx hBX hz1 hk1 hS hce hcv hcl => ?_) (fun r_1223 u t H locs ht hvm w_1224 hB hz1 hk1 hS => ?_)
  · obtain ⟨hBX, hB⟩ := hBX
    obtain ⟨hP, hD, hK⟩ := q_join (D := D) (wc := [(xo, .inr (6, [.ref xg, .int gc, .ref xp, .int pc, .ref xq, .int qc, .ref r1, .ref r2, .ref r3, .ref r4, .ref se, .int ts, .int hou, .int dr, .int su, .int br])), (xq, .inl (cq, 16, .inr (.inr (.inr (.inr (zq [none, none, none, none, none, none, none, none, none, none, none, none, none, none, none, none]))))))]) (wr := [(va, .inl (ci, 1, .inl (zi [0])))]) (w1 := [(xo, .inr (6, [.ref xg, .int gc, .ref xp, .int pc, .ref xq, .int qc, .ref r1, .ref r2, .ref r3, .ref r4, .ref se, .int ts, .int hou, .int dr, .int su, .int br])), (xq, .inl (cq, 16, .inr (.inr (.inr (.inr (zq [none, none, none, none, none, none, none, none, none, none, none, none, none, none, none, none]))))))]) (tyr := [(ci, .int)]) (ty1 := [(cq, .object "Gatherhouse$Piece")]) hP hD hK [0, 1] [2] [1] rfl rfl (by decide) (by decide) rfl hFc hk1 ht hvm hB
    have hP : va_P D vwCl [(va, .inl (ci, 1, .inl (zi [0]))), (xo, .inr (6, [.ref xg, .int gc, .ref xp, .int pc, .ref xq, .int qc, .ref r1, .ref r2, .ref r3, .ref r4, .ref se, .int ts, .int hou, .int dr, .int su, .int br])), (xq, .inl (cq, 16, .inr (.inr (.inr (.inr (zq [none, none, none, none, none, none, none, none, none, none, none, none, none, none, none, none]))))))] H := hP
    have hD : va_D A [(va, .inl (ci, 1, .inl (zi [0]))), (xo, .inr (6, [.ref xg, .int gc, .ref xp, .int pc, .ref xq, .int qc, .ref r1, .ref r2, .ref r3, .ref r4, .ref se, .int ts, .int hou, .int dr, .int su, .int br])), (xq, .inl (cq, 16, .inr (.inr (.inr (.inr (zq [none, none, none, none, none, none, none, none, none, none, none, none, none, none, none, none]))))))] := hD
    have hK : va_K D vwCl [(ci, .int), (cq, .object "Gatherhouse$Piece")] s := hK
    have hBX : (E = "java/lang/IndexOutOfBoundsException") := hBX
    rcases hBX with rfl
    refine z_catch (own := RL) (name := "java/lang/IndexOutOfBoundsException") (hh := ttL_ask) (x := ⟨428, 435, 468, 79⟩) hown hxe 16 rfl [] (by decide +kernel) (fun _ h => absurd h List.not_mem_nil) (by decide) (by decide) (hts (.classLink RL 79 "java/lang/IndexOutOfBoundsException") (by decide +kernel)) (va_Nw.use rfl (hT.2.2.1 ("java/lang/IndexOutOfBoundsException", "java/lang/IndexOutOfBoundsException") (by decide +kernel))) hce hcv hcl ?_
    refine W.eq (g2 := F0 m 468 ls [.ref q9]) rfl ?_
    refine lv_astore_n (lv' := [(3, .ref q9), (0, .ref xo), (1, .int 115), (2, .ref va)]) hx hb dL_ask_468 rfl hl (by decide) rfl (fun ls hl => ?_)
    refine lv_ldc (v := (-2000000001)) hx hb hown (hts (.constant RL 81 (-2000000001)) (by decide +kernel)) dL_ask_469 ?_
    refine vx_ret ?_
    exact W.iret (v := (-2000000001)) hx hb hr (fun t ht hW => ⟨⟨(-2000000001), (), rfl, rfl, q_RW_mk hP hK hD [1, 2] [1] rfl rfl (by decide) rfl ht hW.alike⟩, hS.F ht⟩) hS.2.2 dL_ask_471
  · exact w_1224.elim
theorem dL_ask_436 : decode cL_ask 436 = .ok (.aload_n 0, 1) := by decide +kernel
theorem dL_ask_437 : decode cL_ask 437 = .ok (.aload_n 2, 1) := by decide +kernel
theorem dL_ask_438 : decode cL_ask 438 = .ok (.iconst 0, 1) := by decide +kernel
theorem dL_ask_439 : decode cL_ask 439 = .ok (.iaload, 1) := by decide +kernel
theorem dL_ask_440 : decode cL_ask 440 = .ok (.aload_n 2, 1) := by decide +kernel
theorem dL_ask_441 : decode cL_ask 441 = .ok (.iconst 1, 1) := by decide +kernel
theorem dL_ask_442 : decode cL_ask 442 = .ok (.iaload, 1) := by decide +kernel
theorem dL_ask_443 : decode cL_ask 443 = .ok (.aload_n 2, 1) := by decide +kernel
theorem dL_ask_444 : decode cL_ask 444 = .ok (.iconst 2, 1) := by decide +kernel
theorem dL_ask_445 : decode cL_ask 445 = .ok (.iaload, 1) := by decide +kernel
theorem dL_ask_446 : decode cL_ask 446 = .ok (.invokevirtual 67, 3) := by decide +kernel
def wzEL_ask_lay_no : List Cond := [.codeWith yL_ask cL_ask 4 (some .int) ttL_ask, .methodLink RL 67 yX6_lay, .instanceMethod yX6_lay, .selects RX6 yX6_lay yX6_lay, .initialized RX6, .code yX6_lay cX6_lay 7 (some .int), .methodLink RX6 169 yX6_findPiece, .instanceMethod yX6_findPiece, .selects RX6 yX6_findPiece yX6_findPiece, .code yX6_findPiece cX6_findPiece 3 (some (.object "Gatherhouse$Piece")), .fieldLink RX6 30 "Gatherhouse" "pieces" "[LGatherhouse$Piece;", .classLink RX6 365 "java/lang/IndexOutOfBoundsException", .initialized "java/lang/IndexOutOfBoundsException", .classLink RL 79 "java/lang/IndexOutOfBoundsException", .constant RL 81 (-2000000001)]
def wzL_ask_lay_no : List Cond := wzEL_ask_lay_no ++ (u_ws RX6 TX6 16 ++ ((vx_atS RX6 369 "java/lang/IndexOutOfBoundsException" ["java/lang/RuntimeException", "java/lang/Exception"]).filter goodWord))
theorem zgEL_ask_lay_no : wzEL_ask_lay_no.all goodWord = true := by decide +kernel
theorem zuL_ask_lay_no_X6 : ∀ w ∈ u_ws RX6 TX6 16, w ∈ wzL_ask_lay_no := (fun _ h => (List.mem_append_right _ (List.mem_append_left _ h)))
theorem ztL_ask_lay_no_X6_369 : ∀ w ∈ (vx_atS RX6 369 "java/lang/IndexOutOfBoundsException" ["java/lang/RuntimeException", "java/lang/Exception"]).filter goodWord, w ∈ wzL_ask_lay_no := (fun _ h => (List.mem_append_right _ (List.mem_append_right _ h)))
theorem gzL_ask_lay_no_X6_lay_no_67 : GoodIn wzL_ask_lay_no (wsV RL 67 RX6 yX6_lay wzX6_lay_no) := (goodIn_app (z_lift (goodIn_r _ [1, 2, 3, 4] rfl (by decide +kernel))) (goodIn_app (z_lift (goodIn_r wzEX6_lay_no [5, 6, 7, 8, 4, 9, 10, 11, 12] rfl zgEX6_lay_no)) (goodIn_app (goodIn_sub (fun _ h => (List.mem_append_right _ (List.mem_append_left _ h))) zgU_X6) (goodIn_sub (fun _ h => (List.mem_append_right _ (List.mem_append_right _ h))) zgV_X6_369))))
set_option maxHeartbeats 4000000 in
set_option maxRecDepth 100000 in
theorem zc_L_ask_lay_no (l : Launch) (hnt : l.stackTraces = false) (D : va_G) (G : Nat × Nat × (Nat → Int32)) (xo : Nat) (va : Nat) (xg : Nat) (gc : Int32) (xp : Nat) (pc : Int32) (xq : Nat) (qc : Int32) (r1 : Nat) (r2 : Nat) (r3 : Nat) (r4 : Nat) (se : Nat) (ts : Int32) (hou : Int32) (dr : Int32) (su : Int32) (br : Int32) (cq : ClassId) (ci : ClassId) (sz : Nat) : vx_Met l yL_ask wzL_ask_lay_no ({ frames := 8, cells := 1, slots := 6, locals := 130 }) (va_Pc [.ref xo, .int 76, .ref va] (p_RW D G [(cq, .object "Gatherhouse$Piece"), (ci, .int)] [(xo, .inr (6, [.ref xg, .int gc, .ref xp, .int pc, .ref xq, .int qc, .ref r1, .ref r2, .ref r3, .ref r4, .ref se, .int ts, .int hou, .int dr, .int su, .int br])), (xq, .inl (cq, 16, .inr (.inr (.inr (.inr (zq [none, none, none, none, none, none, none, none, none, none, none, none, none, none, none, none])))))), (va, .inl (ci, 3, .inl (zi [0, 0, 10])))] sz)) (va_Qi (fun (r : Int32) (u : Unit) => r = (-2000000001)) (fun (u : Unit) (t : State) => q_RW D [(cq, .object "Gatherhouse$Piece")] [(xo, .inr (6, [.ref xg, .int gc, .ref xp, .int pc, .ref xq, .int qc, .ref r1, .ref r2, .ref r3, .ref r4, .ref se, .int ts, .int hou, .int dr, .int su, .int br])), (xq, .inl (cq, 16, .inr (.inr (.inr (.inr (zq [none, none, none, none, none, none, none, none, none, none, none, none, none, none, none, none]))))))] (va_A [(xo, .inr (6, [.ref xg, .int gc, .ref xp, .int pc, .ref xq, .int qc, .ref r1, .ref r2, .ref r3, .ref r4, .ref se, .int ts, .int hou, .int dr, .int su, .int br])), (xq, .inl (cq, 16, .inr (.inr (.inr (.inr (zq [none, none, none, none, none, none, none, none, none, none, none, none, none, none, none, none])))))), (va, .inl (ci, 3, .inl (zi [0, 0, 10])))] sz) t) (va_A [(xo, .inr (6, [.ref xg, .int gc, .ref xp, .int pc, .ref xq, .int qc, .ref r1, .ref r2, .ref r3, .ref r4, .ref se, .int ts, .int hou, .int dr, .int su, .int br])), (xq, .inl (cq, 16, .inr (.inr (.inr (.inr (zq [none, none, none, none, none, none, none, none, none, none, none, none, none, none, none, none])))))), (va, .inl (ci, 3, .inl (zi [0, 0, 10])))] sz)) (vx_X (fun (_ : Unit) => True) (fun E (_ : Unit) (_ : State) => False) (va_A [(xo, .inr (6, [.ref xg, .int gc, .ref xp, .int pc, .ref xq, .int qc, .ref r1, .ref r2, .ref r3, .ref r4, .ref se, .int ts, .int hou, .int dr, .int su, .int br])), (xq, .inl (cq, 16, .inr (.inr (.inr (.inr (zq [none, none, none, none, none, none, none, none, none, none, none, none, none, none, none, none])))))), (va, .inl (ci, 3, .inl (zi [0, 0, 10])))] sz)) 1 6 (va_A [(xo, .inr (6, [.ref xg, .int gc, .ref xp, .int pc, .ref xq, .int qc, .ref r1, .ref r2, .ref r3, .ref r4, .ref se, .int ts, .int hou, .int dr, .int su, .int br])), (xq, .inl (cq, 16, .inr (.inr (.inr (.inr (zq [none, none, none, none, none, none, none, none, none, none, none, none, none, none, none, none])))))), (va, .inl (ci, 3, .inl (zi [0, 0, 10])))] sz) := by
  refine vx_ofWH (cc := cL_ask) (maxL := 4) (ret := (some .int)) (by decide) rfl ?_
  intro p e s m args below meth c s₁ B hml hv
  obtain ⟨rfl, hsz, hP, hK, hD0, hT, hZ⟩ := hv
  have hx := B.exec
  have hb := B.bytes
  have hr := B.returns
  have hts := atoms_spec (ws := wzL_ask_lay_no) B.pre
  have hown : s.vm.findClass RL = some m.cls := findClass_of_methodNamed B.named
  have hlocks := B.notSynchronized
  have hxe := vx_table (x := yL_ask) B (hts _ List.mem_cons_self)
  subst hsz
  have hD := hD0.self (sz := s.heap.size)
  generalize hAe : va_A [(xo, .inr (6, [.ref xg, .int gc, .ref xp, .int pc, .ref xq, .int qc, .ref r1, .ref r2, .ref r3, .ref r4, .ref se, .int ts, .int hou, .int dr, .int su, .int br])), (xq, .inl (cq, 16, .inr (.inr (.inr (.inr (zq [none, none, none, none, none, none, none, none, none, none, none, none, none, none, none, none])))))), (va, .inl (ci, 3, .inl (zi [0, 0, 10])))] s.heap.size = A at hD hZ ⊢
  have hA : ∀ q : Nat, s.heap.size ≤ q → A q := fun q h => by rw [← hAe]; exact Or.inr h
  have hS : va_S A s.heap s.heap [] := va_S.rf
  have hl := lv_entry ([.ref xo, .int 76, .ref va]) (n := 4) (Nat.le_of_ble_eq_true rfl)
  rw [lg_entry_eq]
  generalize (lg_sl ([.ref xo, .int 76, .ref va]) ++ List.replicate (4 - (lg_sl ([.ref xo, .int 76, .ref va])).length) Slot.unset).toArray = ls at hl ⊢
  have hl : lv_has ls 4 [(0, .ref xo), (1, .int 76), (2, .ref va)] := hl
  refine lv_iload_n hx hb dL_ask_0 rfl (lv_at hl 1 rfl) ?_
  refine lv_tableIn (off := 435) (tgt := 436) hx hb dL_ask_1 (by decide +kernel) (by decide +kernel) (by decide +kernel) (by decide) ?_
  refine lv_aload_n hx hb dL_ask_436 rfl (lv_at hl 0 rfl) ?_
  refine lv_aload_n hx hb dL_ask_437 rfl (lv_at hl 2 rfl) ?_
  refine lv_iconst (v := 0) hx hb dL_ask_438 (by decide) ?_
  refine va_iald (D := D) (cl := vwCl) hx hb hK hP 2 1 rfl rfl (vp_in_nI (n := 0) (N := 3) (by decide) (by decide)) dL_ask_439 ?_
  refine W.eq (g2 := F0 m 440 ls [.int 0, .ref xo]) rfl ?_
  refine lv_aload_n hx hb dL_ask_440 rfl (lv_at hl 2 rfl) ?_
  refine lv_iconst (v := 1) hx hb dL_ask_441 (by decide) ?_
  refine va_iald (D := D) (cl := vwCl) hx hb hK hP 2 1 rfl rfl (vp_in_nI (n := 1) (N := 3) (by decide) (by decide)) dL_ask_442 ?_
  refine W.eq (g2 := F0 m 443 ls [.int 0, .int 0, .ref xo]) rfl ?_
  refine lv_aload_n hx hb dL_ask_443 rfl (lv_at hl 2 rfl) ?_
  refine lv_iconst (v := 2) hx hb dL_ask_444 (by decide) ?_
  refine va_iald (D := D) (cl := vwCl) hx hb hK hP 2 1 rfl rfl (vp_in_nI (n := 2) (N := 3) (by decide) (by decide)) dL_ask_445 ?_
  refine W.eq (g2 := F0 m 446 ls [.int 10, .int 0, .int 0, .ref xo]) rfl ?_
  have hFc := va_free (wc := [(xo, .inr (6, [.ref xg, .int gc, .ref xp, .int pc, .ref xq, .int qc, .ref r1, .ref r2, .ref r3, .ref r4, .ref se, .int ts, .int hou, .int dr, .int su, .int br])), (xq, .inl (cq, 16, .inr (.inr (.inr (.inr (zq [none, none, none, none, none, none, none, none, none, none, none, none, none, none, none, none]))))))]) hD hS hA [0, 1] rfl
  refine vx_calli (vx_runV (As := [.int 0, .int 0, .int 10]) (rest := []) ⟨hx, hb, hml, hown, hts⟩ (zc_X6_lay_no l hnt D G xo xg gc xp pc xq qc r1 r2 r3 r4 se ts hou dr su br cq s.heap.size) (cwV 3 hts gzL_ask_lay_no_X6_lay_no_67 rfl rfl rfl (by decide +kernel) ⟨(Nat.le_of_ble_eq_true rfl), (Nat.le_of_ble_eq_true rfl)⟩) ⟨p_RW_blind, va_recv hK hP (ci := 6) (q0 := 0) rfl rfl, (p_RW_at (tc := [(cq, .object "Gatherhouse$Piece")]) (wc := [(xo, .inr (6, [.ref xg, .int gc, .ref xp, .int pc, .ref xq, .int qc, .ref r1, .ref r2, .ref r3, .ref r4, .ref se, .int ts, .int hou, .int dr, .int su, .int br])), (xq, .inl (cq, 16, .inr (.inr (.inr (.inr (zq [none, none, none, none, none, none, none, none, none, none, none, none, none, none, none, none]))))))]) hP hK hD hS hA hT hZ [0, 1] [0] rfl rfl (by decide) rfl [.ref xo, .int 0, .int 0, .int 10])⟩ rfl rfl hl.1 rfl (lv_room (Nat.le_of_ble_eq_true rfl)) dL_ask_446 ⟨(Nat.le_of_ble_eq_true rfl), (Nat.le_of_ble_eq_true rfl)⟩) hS (fun q _ h => hFc q h) hFc (fun q _ h => hFc q h) (fun E ce q9 u t H locs ht hvm hpx hBX hz1 hk1 hS hce hcv hcl => ?_) (fun r_1225 u t H locs ht hvm w_1226 hB hz1 hk1 hS => ?_)
  · obtain ⟨hBX, hB⟩ := hBX
    obtain ⟨hP, hD, hK⟩ := q_join (D := D) (wc := [(xo, .inr (6, [.ref xg, .int gc, .ref xp, .int pc, .ref xq, .int qc, .ref r1, .ref r2, .ref r3, .ref r4, .ref se, .int ts, .int hou, .int dr, .int su, .int br])), (xq, .inl (cq, 16, .inr (.inr (.inr (.inr (zq [none, none, none, none, none, none, none, none, none, none, none, none, none, none, none, none]))))))]) (wr := [(va, .inl (ci, 3, .inl (zi [0, 0, 10])))]) (w1 := [(xo, .inr (6, [.ref xg, .int gc, .ref xp, .int pc, .ref xq, .int qc, .ref r1, .ref r2, .ref r3, .ref r4, .ref se, .int ts, .int hou, .int dr, .int su, .int br])), (xq, .inl (cq, 16, .inr (.inr (.inr (.inr (zq [none, none, none, none, none, none, none, none, none, none, none, none, none, none, none, none]))))))]) (tyr := [(ci, .int)]) (ty1 := [(cq, .object "Gatherhouse$Piece")]) hP hD hK [0, 1] [2] [1] rfl rfl (by decide) (by decide) rfl hFc hk1 ht hvm hB
    have hP : va_P D vwCl [(va, .inl (ci, 3, .inl (zi [0, 0, 10]))), (xo, .inr (6, [.ref xg, .int gc, .ref xp, .int pc, .ref xq, .int qc, .ref r1, .ref r2, .ref r3, .ref r4, .ref se, .int ts, .int hou, .int dr, .int su, .int br])), (xq, .inl (cq, 16, .inr (.inr (.inr (.inr (zq [none, none, none, none, none, none, none, none, none, none, none, none, none, none, none, none]))))))] H := hP
    have hD : va_D A [(va, .inl (ci, 3, .inl (zi [0, 0, 10]))), (xo, .inr (6, [.ref xg, .int gc, .ref xp, .int pc, .ref xq, .int qc, .ref r1, .ref r2, .ref r3, .ref r4, .ref se, .int ts, .int hou, .int dr, .int su, .int br])), (xq, .inl (cq, 16, .inr (.inr (.inr (.inr (zq [none, none, none, none, none, none, none, none, none, none, none, none, none, none, none, none]))))))] := hD
    have hK : va_K D vwCl [(ci, .int), (cq, .object "Gatherhouse$Piece")] s := hK
    have hBX : (E = "java/lang/IndexOutOfBoundsException") := hBX
    rcases hBX with rfl
    refine z_catch (own := RL) (name := "java/lang/IndexOutOfBoundsException") (hh := ttL_ask) (x := ⟨436, 449, 468, 79⟩) hown hxe 17 rfl [] (by decide +kernel) (fun _ h => absurd h List.not_mem_nil) (by decide) (by decide) (hts (.classLink RL 79 "java/lang/IndexOutOfBoundsException") (by decide +kernel)) (va_Nw.use rfl (hT.2.2.1 ("java/lang/IndexOutOfBoundsException", "java/lang/IndexOutOfBoundsException") (by decide +kernel))) hce hcv hcl ?_
    refine W.eq (g2 := F0 m 468 ls [.ref q9]) rfl ?_
    refine lv_astore_n (lv' := [(3, .ref q9), (0, .ref xo), (1, .int 76), (2, .ref va)]) hx hb dL_ask_468 rfl hl (by decide) rfl (fun ls hl => ?_)
    refine lv_ldc (v := (-2000000001)) hx hb hown (hts (.constant RL 81 (-2000000001)) (by decide +kernel)) dL_ask_469 ?_
    refine vx_ret ?_
    exact W.iret (v := (-2000000001)) hx hb hr (fun t ht hW => ⟨⟨(-2000000001), (), rfl, rfl, q_RW_mk hP hK hD [1, 2] [1] rfl rfl (by decide) rfl ht hW.alike⟩, hS.F ht⟩) hS.2.2 dL_ask_471
  · exact w_1226.elim
theorem dL_ask_450 : decode cL_ask 450 = .ok (.aload_n 0, 1) := by decide +kernel
theorem dL_ask_451 : decode cL_ask 451 = .ok (.aload_n 2, 1) := by decide +kernel
theorem dL_ask_452 : decode cL_ask 452 = .ok (.iconst 0, 1) := by decide +kernel
theorem dL_ask_453 : decode cL_ask 453 = .ok (.iaload, 1) := by decide +kernel
theorem dL_ask_454 : decode cL_ask 454 = .ok (.aload_n 2, 1) := by decide +kernel
theorem dL_ask_455 : decode cL_ask 455 = .ok (.iconst 1, 1) := by decide +kernel
theorem dL_ask_456 : decode cL_ask 456 = .ok (.iaload, 1) := by decide +kernel
theorem dL_ask_457 : decode cL_ask 457 = .ok (.invokevirtual 70, 3) := by decide +kernel
def wzEL_ask_join_no : List Cond := [.codeWith yL_ask cL_ask 4 (some .int) ttL_ask, .methodLink RL 70 yX6_join, .instanceMethod yX6_join, .selects RX6 yX6_join yX6_join, .initialized RX6, .code yX6_join cX6_join 5 (some .int), .methodLink RX6 169 yX6_findPiece, .instanceMethod yX6_findPiece, .selects RX6 yX6_findPiece yX6_findPiece, .code yX6_findPiece cX6_findPiece 3 (some (.object "Gatherhouse$Piece")), .fieldLink RX6 30 "Gatherhouse" "pieces" "[LGatherhouse$Piece;", .classLink RX6 365 "java/lang/IndexOutOfBoundsException", .initialized "java/lang/IndexOutOfBoundsException", .classLink RL 79 "java/lang/IndexOutOfBoundsException", .constant RL 81 (-2000000001)]
def wzL_ask_join_no : List Cond := wzEL_ask_join_no ++ (u_ws RX6 TX6 16 ++ ((vx_atS RX6 369 "java/lang/IndexOutOfBoundsException" ["java/lang/RuntimeException", "java/lang/Exception"]).filter goodWord))
theorem zgEL_ask_join_no : wzEL_ask_join_no.all goodWord = true := by decide +kernel
theorem zuL_ask_join_no_X6 : ∀ w ∈ u_ws RX6 TX6 16, w ∈ wzL_ask_join_no := (fun _ h => (List.mem_append_right _ (List.mem_append_left _ h)))
theorem ztL_ask_join_no_X6_369 : ∀ w ∈ (vx_atS RX6 369 "java/lang/IndexOutOfBoundsException" ["java/lang/RuntimeException", "java/lang/Exception"]).filter goodWord, w ∈ wzL_ask_join_no := (fun _ h => (List.mem_append_right _ (List.mem_append_right _ h)))
theorem gzL_ask_join_no_X6_join_no_70 : GoodIn wzL_ask_join_no (wsV RL 70 RX6 yX6_join wzX6_join_no) := (goodIn_app (z_lift (goodIn_r _ [1, 2, 3, 4] rfl (by decide +kernel))) (goodIn_app (z_lift (goodIn_r wzEX6_join_no [5, 6, 7, 8, 4, 9, 10, 11, 12] rfl zgEX6_join_no)) (goodIn_app (goodIn_sub (fun _ h => (List.mem_append_right _ (List.mem_append_left _ h))) zgU_X6) (goodIn_sub (fun _ h => (List.mem_append_right _ (List.mem_append_right _ h))) zgV_X6_369))))
set_option maxHeartbeats 4000000 in
set_option maxRecDepth 100000 in
theorem zc_L_ask_join_no (l : Launch) (hnt : l.stackTraces = false) (D : va_G) (G : Nat × Nat × (Nat → Int32)) (xo : Nat) (va : Nat) (xg : Nat) (gc : Int32) (xp : Nat) (pc : Int32) (xq : Nat) (qc : Int32) (r1 : Nat) (r2 : Nat) (r3 : Nat) (r4 : Nat) (se : Nat) (ts : Int32) (hou : Int32) (dr : Int32) (su : Int32) (br : Int32) (cq : ClassId) (ci : ClassId) (sz : Nat) : vx_Met l yL_ask wzL_ask_join_no ({ frames := 8, cells := 1, slots := 6, locals := 128 }) (va_Pc [.ref xo, .int 74, .ref va] (p_RW D G [(cq, .object "Gatherhouse$Piece"), (ci, .int)] [(xo, .inr (6, [.ref xg, .int gc, .ref xp, .int pc, .ref xq, .int qc, .ref r1, .ref r2, .ref r3, .ref r4, .ref se, .int ts, .int hou, .int dr, .int su, .int br])), (xq, .inl (cq, 16, .inr (.inr (.inr (.inr (zq [none, none, none, none, none, none, none, none, none, none, none, none, none, none, none, none])))))), (va, .inl (ci, 2, .inl (zi [0, 0])))] sz)) (va_Qi (fun (r : Int32) (u : Unit) => r = (-2000000001)) (fun (u : Unit) (t : State) => q_RW D [(cq, .object "Gatherhouse$Piece")] [(xo, .inr (6, [.ref xg, .int gc, .ref xp, .int pc, .ref xq, .int qc, .ref r1, .ref r2, .ref r3, .ref r4, .ref se, .int ts, .int hou, .int dr, .int su, .int br])), (xq, .inl (cq, 16, .inr (.inr (.inr (.inr (zq [none, none, none, none, none, none, none, none, none, none, none, none, none, none, none, none]))))))] (va_A [(xo, .inr (6, [.ref xg, .int gc, .ref xp, .int pc, .ref xq, .int qc, .ref r1, .ref r2, .ref r3, .ref r4, .ref se, .int ts, .int hou, .int dr, .int su, .int br])), (xq, .inl (cq, 16, .inr (.inr (.inr (.inr (zq [none, none, none, none, none, none, none, none, none, none, none, none, none, none, none, none])))))), (va, .inl (ci, 2, .inl (zi [0, 0])))] sz) t) (va_A [(xo, .inr (6, [.ref xg, .int gc, .ref xp, .int pc, .ref xq, .int qc, .ref r1, .ref r2, .ref r3, .ref r4, .ref se, .int ts, .int hou, .int dr, .int su, .int br])), (xq, .inl (cq, 16, .inr (.inr (.inr (.inr (zq [none, none, none, none, none, none, none, none, none, none, none, none, none, none, none, none])))))), (va, .inl (ci, 2, .inl (zi [0, 0])))] sz)) (vx_X (fun (_ : Unit) => True) (fun E (_ : Unit) (_ : State) => False) (va_A [(xo, .inr (6, [.ref xg, .int gc, .ref xp, .int pc, .ref xq, .int qc, .ref r1, .ref r2, .ref r3, .ref r4, .ref se, .int ts, .int hou, .int dr, .int su, .int br])), (xq, .inl (cq, 16, .inr (.inr (.inr (.inr (zq [none, none, none, none, none, none, none, none, none, none, none, none, none, none, none, none])))))), (va, .inl (ci, 2, .inl (zi [0, 0])))] sz)) 1 6 (va_A [(xo, .inr (6, [.ref xg, .int gc, .ref xp, .int pc, .ref xq, .int qc, .ref r1, .ref r2, .ref r3, .ref r4, .ref se, .int ts, .int hou, .int dr, .int su, .int br])), (xq, .inl (cq, 16, .inr (.inr (.inr (.inr (zq [none, none, none, none, none, none, none, none, none, none, none, none, none, none, none, none])))))), (va, .inl (ci, 2, .inl (zi [0, 0])))] sz) := by
  refine vx_ofWH (cc := cL_ask) (maxL := 4) (ret := (some .int)) (by decide) rfl ?_
  intro p e s m args below meth c s₁ B hml hv
  obtain ⟨rfl, hsz, hP, hK, hD0, hT, hZ⟩ := hv
  have hx := B.exec
  have hb := B.bytes
  have hr := B.returns
  have hts := atoms_spec (ws := wzL_ask_join_no) B.pre
  have hown : s.vm.findClass RL = some m.cls := findClass_of_methodNamed B.named
  have hlocks := B.notSynchronized
  have hxe := vx_table (x := yL_ask) B (hts _ List.mem_cons_self)
  subst hsz
  have hD := hD0.self (sz := s.heap.size)
  generalize hAe : va_A [(xo, .inr (6, [.ref xg, .int gc, .ref xp, .int pc, .ref xq, .int qc, .ref r1, .ref r2, .ref r3, .ref r4, .ref se, .int ts, .int hou, .int dr, .int su, .int br])), (xq, .inl (cq, 16, .inr (.inr (.inr (.inr (zq [none, none, none, none, none, none, none, none, none, none, none, none, none, none, none, none])))))), (va, .inl (ci, 2, .inl (zi [0, 0])))] s.heap.size = A at hD hZ ⊢
  have hA : ∀ q : Nat, s.heap.size ≤ q → A q := fun q h => by rw [← hAe]; exact Or.inr h
  have hS : va_S A s.heap s.heap [] := va_S.rf
  have hl := lv_entry ([.ref xo, .int 74, .ref va]) (n := 4) (Nat.le_of_ble_eq_true rfl)
  rw [lg_entry_eq]
  generalize (lg_sl ([.ref xo, .int 74, .ref va]) ++ List.replicate (4 - (lg_sl ([.ref xo, .int 74, .ref va])).length) Slot.unset).toArray = ls at hl ⊢
  have hl : lv_has ls 4 [(0, .ref xo), (1, .int 74), (2, .ref va)] := hl
  refine lv_iload_n hx hb dL_ask_0 rfl (lv_at hl 1 rfl) ?_
  refine lv_tableIn (off := 449) (tgt := 450) hx hb dL_ask_1 (by decide +kernel) (by decide +kernel) (by decide +kernel) (by decide) ?_
  refine lv_aload_n hx hb dL_ask_450 rfl (lv_at hl 0 rfl) ?_
  refine lv_aload_n hx hb dL_ask_451 rfl (lv_at hl 2 rfl) ?_
  refine lv_iconst (v := 0) hx hb dL_ask_452 (by decide) ?_
  refine va_iald (D := D) (cl := vwCl) hx hb hK hP 2 1 rfl rfl (vp_in_nI (n := 0) (N := 2) (by decide) (by decide)) dL_ask_453 ?_
  refine W.eq (g2 := F0 m 454 ls [.int 0, .ref xo]) rfl ?_
  refine lv_aload_n hx hb dL_ask_454 rfl (lv_at hl 2 rfl) ?_
  refine lv_iconst (v := 1) hx hb dL_ask_455 (by decide) ?_
  refine va_iald (D := D) (cl := vwCl) hx hb hK hP 2 1 rfl rfl (vp_in_nI (n := 1) (N := 2) (by decide) (by decide)) dL_ask_456 ?_
  refine W.eq (g2 := F0 m 457 ls [.int 0, .int 0, .ref xo]) rfl ?_
  have hFc := va_free (wc := [(xo, .inr (6, [.ref xg, .int gc, .ref xp, .int pc, .ref xq, .int qc, .ref r1, .ref r2, .ref r3, .ref r4, .ref se, .int ts, .int hou, .int dr, .int su, .int br])), (xq, .inl (cq, 16, .inr (.inr (.inr (.inr (zq [none, none, none, none, none, none, none, none, none, none, none, none, none, none, none, none]))))))]) hD hS hA [0, 1] rfl
  refine vx_calli (vx_runV (As := [.int 0, .int 0]) (rest := []) ⟨hx, hb, hml, hown, hts⟩ (zc_X6_join_no l hnt D G xo xg gc xp pc xq qc r1 r2 r3 r4 se ts hou dr su br cq s.heap.size) (cwV 2 hts gzL_ask_join_no_X6_join_no_70 rfl rfl rfl (by decide +kernel) ⟨(Nat.le_of_ble_eq_true rfl), (Nat.le_of_ble_eq_true rfl)⟩) ⟨p_RW_blind, va_recv hK hP (ci := 6) (q0 := 0) rfl rfl, (p_RW_at (tc := [(cq, .object "Gatherhouse$Piece")]) (wc := [(xo, .inr (6, [.ref xg, .int gc, .ref xp, .int pc, .ref xq, .int qc, .ref r1, .ref r2, .ref r3, .ref r4, .ref se, .int ts, .int hou, .int dr, .int su, .int br])), (xq, .inl (cq, 16, .inr (.inr (.inr (.inr (zq [none, none, none, none, none, none, none, none, none, none, none, none, none, none, none, none]))))))]) hP hK hD hS hA hT hZ [0, 1] [0] rfl rfl (by decide) rfl [.ref xo, .int 0, .int 0])⟩ rfl rfl hl.1 rfl (lv_room (Nat.le_of_ble_eq_true rfl)) dL_ask_457 ⟨(Nat.le_of_ble_eq_true rfl), (Nat.le_of_ble_eq_true rfl)⟩) hS (fun q _ h => hFc q h) hFc (fun q _ h => hFc q h) (fun E ce q9 u t H locs ht hvm hpx hBX hz1 hk1 hS hce hcv hcl => ?_) (fun r_1227 u t H locs ht hvm w_1228 hB hz1 hk1 hS => ?_)
  · obtain ⟨hBX, hB⟩ := hBX
    obtain ⟨hP, hD, hK⟩ := q_join (D := D) (wc := [(xo, .inr (6, [.ref xg, .int gc, .ref xp, .int pc, .ref xq, .int qc, .ref r1, .ref r2, .ref r3, .ref r4, .ref se, .int ts, .int hou, .int dr, .int su, .int br])), (xq, .inl (cq, 16, .inr (.inr (.inr (.inr (zq [none, none, none, none, none, none, none, none, none, none, none, none, none, none, none, none]))))))]) (wr := [(va, .inl (ci, 2, .inl (zi [0, 0])))]) (w1 := [(xo, .inr (6, [.ref xg, .int gc, .ref xp, .int pc, .ref xq, .int qc, .ref r1, .ref r2, .ref r3, .ref r4, .ref se, .int ts, .int hou, .int dr, .int su, .int br])), (xq, .inl (cq, 16, .inr (.inr (.inr (.inr (zq [none, none, none, none, none, none, none, none, none, none, none, none, none, none, none, none]))))))]) (tyr := [(ci, .int)]) (ty1 := [(cq, .object "Gatherhouse$Piece")]) hP hD hK [0, 1] [2] [1] rfl rfl (by decide) (by decide) rfl hFc hk1 ht hvm hB
    have hP : va_P D vwCl [(va, .inl (ci, 2, .inl (zi [0, 0]))), (xo, .inr (6, [.ref xg, .int gc, .ref xp, .int pc, .ref xq, .int qc, .ref r1, .ref r2, .ref r3, .ref r4, .ref se, .int ts, .int hou, .int dr, .int su, .int br])), (xq, .inl (cq, 16, .inr (.inr (.inr (.inr (zq [none, none, none, none, none, none, none, none, none, none, none, none, none, none, none, none]))))))] H := hP
    have hD : va_D A [(va, .inl (ci, 2, .inl (zi [0, 0]))), (xo, .inr (6, [.ref xg, .int gc, .ref xp, .int pc, .ref xq, .int qc, .ref r1, .ref r2, .ref r3, .ref r4, .ref se, .int ts, .int hou, .int dr, .int su, .int br])), (xq, .inl (cq, 16, .inr (.inr (.inr (.inr (zq [none, none, none, none, none, none, none, none, none, none, none, none, none, none, none, none]))))))] := hD
    have hK : va_K D vwCl [(ci, .int), (cq, .object "Gatherhouse$Piece")] s := hK
    have hBX : (E = "java/lang/IndexOutOfBoundsException") := hBX
    rcases hBX with rfl
    refine z_catch (own := RL) (name := "java/lang/IndexOutOfBoundsException") (hh := ttL_ask) (x := ⟨450, 460, 468, 79⟩) hown hxe 18 rfl [] (by decide +kernel) (fun _ h => absurd h List.not_mem_nil) (by decide) (by decide) (hts (.classLink RL 79 "java/lang/IndexOutOfBoundsException") (by decide +kernel)) (va_Nw.use rfl (hT.2.2.1 ("java/lang/IndexOutOfBoundsException", "java/lang/IndexOutOfBoundsException") (by decide +kernel))) hce hcv hcl ?_
    refine W.eq (g2 := F0 m 468 ls [.ref q9]) rfl ?_
    refine lv_astore_n (lv' := [(3, .ref q9), (0, .ref xo), (1, .int 74), (2, .ref va)]) hx hb dL_ask_468 rfl hl (by decide) rfl (fun ls hl => ?_)
    refine lv_ldc (v := (-2000000001)) hx hb hown (hts (.constant RL 81 (-2000000001)) (by decide +kernel)) dL_ask_469 ?_
    refine vx_ret ?_
    exact W.iret (v := (-2000000001)) hx hb hr (fun t ht hW => ⟨⟨(-2000000001), (), rfl, rfl, q_RW_mk hP hK hD [1, 2] [1] rfl rfl (by decide) rfl ht hW.alike⟩, hS.F ht⟩) hS.2.2 dL_ask_471
  · exact w_1228.elim
theorem dL_asked_0 : decode cL_asked 0 = .ok (.iload_n 1, 1) := by decide +kernel
theorem dL_asked_1 : decode cL_asked 1 = .ok (.tableswitch 437 68 122 #[358, 437, 342, 437, 437, 437, 437, 235, 437, 437, 437, 437, 437, 437, 437, 437, 399, 437, 437, 437, 437, 437, 437, 437, 437, 437, 437, 437, 437, 437, 437, 437, 366, 251, 306, 437, 437, 290, 437, 437, 298, 282, 259, 437, 437, 388, 267, 437, 243, 374, 429, 314, 334, 437, 413], 235) := by decide +kernel
theorem dL_asked_236 : decode cL_asked 236 = .ok (.aload_n 0, 1) := by decide +kernel
theorem dL_asked_237 : decode cL_asked 237 = .ok (.aload_n 2, 1) := by decide +kernel
theorem dL_asked_238 : decode cL_asked 238 = .ok (.iconst 0, 1) := by decide +kernel
theorem dL_asked_239 : decode cL_asked 239 = .ok (.iaload, 1) := by decide +kernel
theorem dL_asked_240 : decode cL_asked 240 = .ok (.invokevirtual 94, 3) := by decide +kernel
def wzEL_asked_crack_no : List Cond := [.code yL_asked cL_asked 3 (some .int), .methodLink RL 94 yX6_crack, .instanceMethod yX6_crack, .selects RX6 yX6_crack yX6_crack, .initialized RX6, .code yX6_crack cX6_crack 3 (some .int), .methodLink RX6 169 yX6_findPiece, .instanceMethod yX6_findPiece, .selects RX6 yX6_findPiece yX6_findPiece, .code yX6_findPiece cX6_findPiece 3 (some (.object "Gatherhouse$Piece")), .fieldLink RX6 30 "Gatherhouse" "pieces" "[LGatherhouse$Piece;", .classLink RX6 365 "java/lang/IndexOutOfBoundsException", .initialized "java/lang/IndexOutOfBoundsException"]
def wzL_asked_crack_no : List Cond := wzEL_asked_crack_no ++ (u_ws RX6 TX6 16 ++ ((vx_atS RX6 369 "java/lang/IndexOutOfBoundsException" ["java/lang/RuntimeException", "java/lang/Exception"]).filter goodWord))
theorem zgEL_asked_crack_no : wzEL_asked_crack_no.all goodWord = true := by decide +kernel
theorem zuL_asked_crack_no_X6 : ∀ w ∈ u_ws RX6 TX6 16, w ∈ wzL_asked_crack_no := (fun _ h => (List.mem_append_right _ (List.mem_append_left _ h)))
theorem ztL_asked_crack_no_X6_369 : ∀ w ∈ (vx_atS RX6 369 "java/lang/IndexOutOfBoundsException" ["java/lang/RuntimeException", "java/lang/Exception"]).filter goodWord, w ∈ wzL_asked_crack_no := (fun _ h => (List.mem_append_right _ (List.mem_append_right _ h)))
theorem gzL_asked_crack_no_X6_crack_no_94 : GoodIn wzL_asked_crack_no (wsV RL 94 RX6 yX6_crack wzX6_crack_no) := (goodIn_app (z_lift (goodIn_r _ [1, 2, 3, 4] rfl (by decide +kernel))) (goodIn_app (z_lift (goodIn_r wzEX6_crack_no [5, 6, 7, 8, 4, 9, 10, 11, 12] rfl zgEX6_crack_no)) (goodIn_app (goodIn_sub (fun _ h => (List.mem_append_right _ (List.mem_append_left _ h))) zgU_X6) (goodIn_sub (fun _ h => (List.mem_append_right _ (List.mem_append_right _ h))) zgV_X6_369))))
set_option maxHeartbeats 4000000 in
set_option maxRecDepth 100000 in
theorem zc_L_asked_crack_no (l : Launch) (hnt : l.stackTraces = false) (D : va_G) (G : Nat × Nat × (Nat → Int32)) (xo : Nat) (va : Nat) (xg : Nat) (gc : Int32) (xp : Nat) (pc : Int32) (xq : Nat) (qc : Int32) (r1 : Nat) (r2 : Nat) (r3 : Nat) (r4 : Nat) (se : Nat) (ts : Int32) (hou : Int32) (dr : Int32) (su : Int32) (br : Int32) (cq : ClassId) (ci : ClassId) (sz : Nat) : vx_Met l yL_asked wzL_asked_crack_no ({ frames := 8, cells := 1, slots := 6, locals := 126 }) (va_Pc [.ref xo, .int 75, .ref va] (p_RW D G [(cq, .object "Gatherhouse$Piece"), (ci, .int)] [(xo, .inr (6, [.ref xg, .int gc, .ref xp, .int pc, .ref xq, .int qc, .ref r1, .ref r2, .ref r3, .ref r4, .ref se, .int ts, .int hou, .int dr, .int su, .int br])), (xq, .inl (cq, 16, .inr (.inr (.inr (.inr (zq [none, none, none, none, none, none, none, none, none, none, none, none, none, none, none, none])))))), (va, .inl (ci, 1, .inl (zi [0])))] sz)) (va_Qi (fun (r : Int32) (u : Unit) => False) (fun (u : Unit) (t : State) => q_RW D [(cq, .object "Gatherhouse$Piece")] [(xo, .inr (6, [.ref xg, .int gc, .ref xp, .int pc, .ref xq, .int qc, .ref r1, .ref r2, .ref r3, .ref r4, .ref se, .int ts, .int hou, .int dr, .int su, .int br])), (xq, .inl (cq, 16, .inr (.inr (.inr (.inr (zq [none, none, none, none, none, none, none, none, none, none, none, none, none, none, none, none]))))))] (va_A [(xo, .inr (6, [.ref xg, .int gc, .ref xp, .int pc, .ref xq, .int qc, .ref r1, .ref r2, .ref r3, .ref r4, .ref se, .int ts, .int hou, .int dr, .int su, .int br])), (xq, .inl (cq, 16, .inr (.inr (.inr (.inr (zq [none, none, none, none, none, none, none, none, none, none, none, none, none, none, none, none])))))), (va, .inl (ci, 1, .inl (zi [0])))] sz) t) (va_A [(xo, .inr (6, [.ref xg, .int gc, .ref xp, .int pc, .ref xq, .int qc, .ref r1, .ref r2, .ref r3, .ref r4, .ref se, .int ts, .int hou, .int dr, .int su, .int br])), (xq, .inl (cq, 16, .inr (.inr (.inr (.inr (zq [none, none, none, none, none, none, none, none, none, none, none, none, none, none, none, none])))))), (va, .inl (ci, 1, .inl (zi [0])))] sz)) (vx_X (fun (_ : Unit) => True) (fun E (_ : Unit) (t : State) => ((E = "java/lang/IndexOutOfBoundsException")) ∧ q_RW D [(cq, .object "Gatherhouse$Piece"), (ci, .int)] [(xo, .inr (6, [.ref xg, .int gc, .ref xp, .int pc, .ref xq, .int qc, .ref r1, .ref r2, .ref r3, .ref r4, .ref se, .int ts, .int hou, .int dr, .int su, .int br])), (xq, .inl (cq, 16, .inr (.inr (.inr (.inr (zq [none, none, none, none, none, none, none, none, none, none, none, none, none, none, none, none]))))))] (va_A [(xo, .inr (6, [.ref xg, .int gc, .ref xp, .int pc, .ref xq, .int qc, .ref r1, .ref r2, .ref r3, .ref r4, .ref se, .int ts, .int hou, .int dr, .int su, .int br])), (xq, .inl (cq, 16, .inr (.inr (.inr (.inr (zq [none, none, none, none, none, none, none, none, none, none, none, none, none, none, none, none])))))), (va, .inl (ci, 1, .inl (zi [0])))] sz) t) (va_A [(xo, .inr (6, [.ref xg, .int gc, .ref xp, .int pc, .ref xq, .int qc, .ref r1, .ref r2, .ref r3, .ref r4, .ref se, .int ts, .int hou, .int dr, .int su, .int br])), (xq, .inl (cq, 16, .inr (.inr (.inr (.inr (zq [none, none, none, none, none, none, none, none, none, none, none, none, none, none, none, none])))))), (va, .inl (ci, 1, .inl (zi [0])))] sz)) 1 6 (va_A [(xo, .inr (6, [.ref xg, .int gc, .ref xp, .int pc, .ref xq, .int qc, .ref r1, .ref r2, .ref r3, .ref r4, .ref se, .int ts, .int hou, .int dr, .int su, .int br])), (xq, .inl (cq, 16, .inr (.inr (.inr (.inr (zq [none, none, none, none, none, none, none, none, none, none, none, none, none, none, none, none])))))), (va, .inl (ci, 1, .inl (zi [0])))] sz) := by
  refine vx_ofW (cc := cL_asked) (maxL := 3) (ret := (some .int)) (by decide) rfl ?_
  intro p e s m args below meth c s₁ B hml hxt hv
  obtain ⟨rfl, hsz, hP, hK, hD0, hT, hZ⟩ := hv
  have hx := B.exec
  have hb := B.bytes
  have hr := B.returns
  have hts := atoms_spec (ws := wzL_asked_crack_no) B.pre
  have hown : s.vm.findClass RL = some m.cls := findClass_of_methodNamed B.named
  have hlocks := B.notSynchronized
  subst hsz
  have hD := hD0.self (sz := s.heap.size)
  generalize hAe : va_A [(xo, .inr (6, [.ref xg, .int gc, .ref xp, .int pc, .ref xq, .int qc, .ref r1, .ref r2, .ref r3, .ref r4, .ref se, .int ts, .int hou, .int dr, .int su, .int br])), (xq, .inl (cq, 16, .inr (.inr (.inr (.inr (zq [none, none, none, none, none, none, none, none, none, none, none, none, none, none, none, none])))))), (va, .inl (ci, 1, .inl (zi [0])))] s.heap.size = A at hD hZ ⊢
  have hA : ∀ q : Nat, s.heap.size ≤ q → A q := fun q h => by rw [← hAe]; exact Or.inr h
  have hS : va_S A s.heap s.heap [] := va_S.rf
  have hl := lv_entry ([.ref xo, .int 75, .ref va]) (n := 3) (Nat.le_of_ble_eq_true rfl)
  rw [lg_entry_eq]
  generalize (lg_sl ([.ref xo, .int 75, .ref va]) ++ List.replicate (3 - (lg_sl ([.ref xo, .int 75, .ref va])).length) Slot.unset).toArray = ls at hl ⊢
  have hl : lv_has ls 3 [(0, .ref xo), (1, .int 75), (2, .ref va)] := hl
  refine lv_iload_n hx hb dL_asked_0 rfl (lv_at hl 1 rfl) ?_
  refine lv_tableIn (off := 235) (tgt := 236) hx hb dL_asked_1 (by decide +kernel) (by decide +kernel) (by decide +kernel) (by decide) ?_
  refine lv_aload_n hx hb dL_asked_236 rfl (lv_at hl 0 rfl) ?_
  refine lv_aload_n hx hb dL_asked_237 rfl (lv_at hl 2 rfl) ?_
  refine lv_iconst (v := 0) hx hb dL_asked_238 (by decide) ?_
  refine va_iald (D := D) (cl := vwCl) hx hb hK hP 2 1 rfl rfl (vp_in_nI (n := 0) (N := 1) (by decide) (by decide)) dL_asked_239 ?_
  refine W.eq (g2 := F0 m 240 ls [.int 0, .ref xo]) rfl ?_
  have hFc := va_free (wc := [(xo, .inr (6, [.ref xg, .int gc, .ref xp, .int pc, .ref xq, .int qc, .ref r1, .ref r2, .ref r3, .ref r4, .ref se, .int ts, .int hou, .int dr, .int su, .int br])), (xq, .inl (cq, 16, .inr (.inr (.inr (.inr (zq [none, none, none, none, none, none, none, none, none, none, none, none, none, none, none, none]))))))]) hD hS hA [0, 1] rfl
  refine vx_calli (vx_runV (As := [.int 0]) (rest := []) ⟨hx, hb, hml, hown, hts⟩ (zc_X6_crack_no l hnt D G xo xg gc xp pc xq qc r1 r2 r3 r4 se ts hou dr su br cq s.heap.size) (cwV 1 hts gzL_asked_crack_no_X6_crack_no_94 rfl rfl rfl (by decide +kernel) ⟨(Nat.le_of_ble_eq_true rfl), (Nat.le_of_ble_eq_true rfl)⟩) ⟨p_RW_blind, va_recv hK hP (ci := 6) (q0 := 0) rfl rfl, (p_RW_at (tc := [(cq, .object "Gatherhouse$Piece")]) (wc := [(xo, .inr (6, [.ref xg, .int gc, .ref xp, .int pc, .ref xq, .int qc, .ref r1, .ref r2, .ref r3, .ref r4, .ref se, .int ts, .int hou, .int dr, .int su, .int br])), (xq, .inl (cq, 16, .inr (.inr (.inr (.inr (zq [none, none, none, none, none, none, none, none, none, none, none, none, none, none, none, none]))))))]) hP hK hD hS hA hT hZ [0, 1] [0] rfl rfl (by decide) rfl [.ref xo, .int 0])⟩ rfl rfl hl.1 rfl (lv_room (Nat.le_of_ble_eq_true rfl)) dL_asked_240 ⟨(Nat.le_of_ble_eq_true rfl), (Nat.le_of_ble_eq_true rfl)⟩) hS (fun q _ h => hFc q h) hFc (fun q _ h => hFc q h) (fun E ce q9 u t H locs ht hvm hpx hBX hz1 hk1 hS hce hcv hcl => ?_) (fun r_1229 u t H locs ht hvm w_1230 hB hz1 hk1 hS => ?_)
  · obtain ⟨hBX, hB⟩ := hBX
    obtain ⟨hP, hD, hK⟩ := q_join (D := D) (wc := [(xo, .inr (6, [.ref xg, .int gc, .ref xp, .int pc, .ref xq, .int qc, .ref r1, .ref r2, .ref r3, .ref r4, .ref se, .int ts, .int hou, .int dr, .int su, .int br])), (xq, .inl (cq, 16, .inr (.inr (.inr (.inr (zq [none, none, none, none, none, none, none, none, none, none, none, none, none, none, none, none]))))))]) (wr := [(va, .inl (ci, 1, .inl (zi [0])))]) (w1 := [(xo, .inr (6, [.ref xg, .int gc, .ref xp, .int pc, .ref xq, .int qc, .ref r1, .ref r2, .ref r3, .ref r4, .ref se, .int ts, .int hou, .int dr, .int su, .int br])), (xq, .inl (cq, 16, .inr (.inr (.inr (.inr (zq [none, none, none, none, none, none, none, none, none, none, none, none, none, none, none, none]))))))]) (tyr := [(ci, .int)]) (ty1 := [(cq, .object "Gatherhouse$Piece")]) hP hD hK [0, 1] [2] [1] rfl rfl (by decide) (by decide) rfl hFc hk1 ht hvm hB
    have hP : va_P D vwCl [(va, .inl (ci, 1, .inl (zi [0]))), (xo, .inr (6, [.ref xg, .int gc, .ref xp, .int pc, .ref xq, .int qc, .ref r1, .ref r2, .ref r3, .ref r4, .ref se, .int ts, .int hou, .int dr, .int su, .int br])), (xq, .inl (cq, 16, .inr (.inr (.inr (.inr (zq [none, none, none, none, none, none, none, none, none, none, none, none, none, none, none, none]))))))] H := hP
    have hD : va_D A [(va, .inl (ci, 1, .inl (zi [0]))), (xo, .inr (6, [.ref xg, .int gc, .ref xp, .int pc, .ref xq, .int qc, .ref r1, .ref r2, .ref r3, .ref r4, .ref se, .int ts, .int hou, .int dr, .int su, .int br])), (xq, .inl (cq, 16, .inr (.inr (.inr (.inr (zq [none, none, none, none, none, none, none, none, none, none, none, none, none, none, none, none]))))))] := hD
    have hK : va_K D vwCl [(ci, .int), (cq, .object "Gatherhouse$Piece")] s := hK
    have hBX : (E = "java/lang/IndexOutOfBoundsException") := hBX
    rcases hBX with rfl
    exact vx_out (fun x h => (hxt x h).elim) hlocks hce hcv hcl (fun t ht hW9 => ⟨(), trivial, ⟨rfl, q_RW_mk hP hK hD [1, 2] [1, 0] rfl rfl (by decide) rfl ht hW9⟩, hS.F ht⟩) hS.2.2 (Nat.le_of_ble_eq_true rfl) (Nat.le_of_ble_eq_true rfl)
  · exact w_1230.elim
theorem dL_ask_461 : decode cL_ask 461 = .ok (.aload_n 0, 1) := by decide +kernel
theorem dL_ask_462 : decode cL_ask 462 = .ok (.iload_n 1, 1) := by decide +kernel
theorem dL_ask_463 : decode cL_ask 463 = .ok (.aload_n 2, 1) := by decide +kernel
theorem dL_ask_464 : decode cL_ask 464 = .ok (.invokestatic 73, 3) := by decide +kernel
def wzEL_ask_crack_no : List Cond := [.codeWith yL_ask cL_ask 4 (some .int) ttL_ask, .methodLink RL 73 yL_asked, .static yL_asked, .initialized RL, .code yL_asked cL_asked 3 (some .int), .methodLink RL 94 yX6_crack, .instanceMethod yX6_crack, .selects RX6 yX6_crack yX6_crack, .initialized RX6, .code yX6_crack cX6_crack 3 (some .int), .methodLink RX6 169 yX6_findPiece, .instanceMethod yX6_findPiece, .selects RX6 yX6_findPiece yX6_findPiece, .code yX6_findPiece cX6_findPiece 3 (some (.object "Gatherhouse$Piece")), .fieldLink RX6 30 "Gatherhouse" "pieces" "[LGatherhouse$Piece;", .classLink RX6 365 "java/lang/IndexOutOfBoundsException", .initialized "java/lang/IndexOutOfBoundsException", .classLink RL 79 "java/lang/IndexOutOfBoundsException", .constant RL 81 (-2000000001)]
def wzL_ask_crack_no : List Cond := wzEL_ask_crack_no ++ (u_ws RX6 TX6 16 ++ ((vx_atS RX6 369 "java/lang/IndexOutOfBoundsException" ["java/lang/RuntimeException", "java/lang/Exception"]).filter goodWord))
theorem zgEL_ask_crack_no : wzEL_ask_crack_no.all goodWord = true := by decide +kernel
theorem zuL_ask_crack_no_X6 : ∀ w ∈ u_ws RX6 TX6 16, w ∈ wzL_ask_crack_no := (fun _ h => (List.mem_append_right _ (List.mem_append_left _ h)))
theorem ztL_ask_crack_no_X6_369 : ∀ w ∈ (vx_atS RX6 369 "java/lang/IndexOutOfBoundsException" ["java/lang/RuntimeException", "java/lang/Exception"]).filter goodWord, w ∈ wzL_ask_crack_no := (fun _ h => (List.mem_append_right _ (List.mem_append_right _ h)))
theorem gzL_ask_crack_no_L_asked_crack_no_73 : GoodIn wzL_ask_crack_no (va_wsS RL 73 yL_asked wzL_asked_crack_no) := (goodIn_app (z_lift (goodIn_r _ [1, 2, 3] rfl (by decide +kernel))) (goodIn_app (z_lift (goodIn_r wzEL_asked_crack_no [4, 5, 6, 7, 8, 9, 10, 11, 12, 13, 14, 15, 16] rfl zgEL_asked_crack_no)) (goodIn_app (goodIn_sub (fun _ h => (List.mem_append_right _ (List.mem_append_left _ h))) zgU_X6) (goodIn_sub (fun _ h => (List.mem_append_right _ (List.mem_append_right _ h))) zgV_X6_369))))
set_option maxHeartbeats 4000000 in
set_option maxRecDepth 100000 in
theorem zc_L_ask_crack_no (l : Launch) (hnt : l.stackTraces = false) (D : va_G) (G : Nat × Nat × (Nat → Int32)) (xo : Nat) (va : Nat) (xg : Nat) (gc : Int32) (xp : Nat) (pc : Int32) (xq : Nat) (qc : Int32) (r1 : Nat) (r2 : Nat) (r3 : Nat) (r4 : Nat) (se : Nat) (ts : Int32) (hou : Int32) (dr : Int32) (su : Int32) (br : Int32) (cq : ClassId) (ci : ClassId) (sz : Nat) : vx_Met l yL_ask wzL_ask_crack_no ({ frames := 9, cells := 1, slots := 6, locals := 148 }) (va_Pc [.ref xo, .int 75, .ref va] (p_RW D G [(cq, .object "Gatherhouse$Piece"), (ci, .int)] [(xo, .inr (6, [.ref xg, .int gc, .ref xp, .int pc, .ref xq, .int qc, .ref r1, .ref r2, .ref r3, .ref r4, .ref se, .int ts, .int hou, .int dr, .int su, .int br])), (xq, .inl (cq, 16, .inr (.inr (.inr (.inr (zq [none, none, none, none, none, none, none, none, none, none, none, none, none, none, none, none])))))), (va, .inl (ci, 1, .inl (zi [0])))] sz)) (va_Qi (fun (r : Int32) (u : Unit) => r = (-2000000001)) (fun (u : Unit) (t : State) => q_RW D [(cq, .object "Gatherhouse$Piece")] [(xo, .inr (6, [.ref xg, .int gc, .ref xp, .int pc, .ref xq, .int qc, .ref r1, .ref r2, .ref r3, .ref r4, .ref se, .int ts, .int hou, .int dr, .int su, .int br])), (xq, .inl (cq, 16, .inr (.inr (.inr (.inr (zq [none, none, none, none, none, none, none, none, none, none, none, none, none, none, none, none]))))))] (va_A [(xo, .inr (6, [.ref xg, .int gc, .ref xp, .int pc, .ref xq, .int qc, .ref r1, .ref r2, .ref r3, .ref r4, .ref se, .int ts, .int hou, .int dr, .int su, .int br])), (xq, .inl (cq, 16, .inr (.inr (.inr (.inr (zq [none, none, none, none, none, none, none, none, none, none, none, none, none, none, none, none])))))), (va, .inl (ci, 1, .inl (zi [0])))] sz) t) (va_A [(xo, .inr (6, [.ref xg, .int gc, .ref xp, .int pc, .ref xq, .int qc, .ref r1, .ref r2, .ref r3, .ref r4, .ref se, .int ts, .int hou, .int dr, .int su, .int br])), (xq, .inl (cq, 16, .inr (.inr (.inr (.inr (zq [none, none, none, none, none, none, none, none, none, none, none, none, none, none, none, none])))))), (va, .inl (ci, 1, .inl (zi [0])))] sz)) (vx_X (fun (_ : Unit) => True) (fun E (_ : Unit) (_ : State) => False) (va_A [(xo, .inr (6, [.ref xg, .int gc, .ref xp, .int pc, .ref xq, .int qc, .ref r1, .ref r2, .ref r3, .ref r4, .ref se, .int ts, .int hou, .int dr, .int su, .int br])), (xq, .inl (cq, 16, .inr (.inr (.inr (.inr (zq [none, none, none, none, none, none, none, none, none, none, none, none, none, none, none, none])))))), (va, .inl (ci, 1, .inl (zi [0])))] sz)) 1 6 (va_A [(xo, .inr (6, [.ref xg, .int gc, .ref xp, .int pc, .ref xq, .int qc, .ref r1, .ref r2, .ref r3, .ref r4, .ref se, .int ts, .int hou, .int dr, .int su, .int br])), (xq, .inl (cq, 16, .inr (.inr (.inr (.inr (zq [none, none, none, none, none, none, none, none, none, none, none, none, none, none, none, none])))))), (va, .inl (ci, 1, .inl (zi [0])))] sz) := by
  refine vx_ofWH (cc := cL_ask) (maxL := 4) (ret := (some .int)) (by decide) rfl ?_
  intro p e s m args below meth c s₁ B hml hv
  obtain ⟨rfl, hsz, hP, hK, hD0, hT, hZ⟩ := hv
  have hx := B.exec
  have hb := B.bytes
  have hr := B.returns
  have hts := atoms_spec (ws := wzL_ask_crack_no) B.pre
  have hown : s.vm.findClass RL = some m.cls := findClass_of_methodNamed B.named
  have hlocks := B.notSynchronized
  have hxe := vx_table (x := yL_ask) B (hts _ List.mem_cons_self)
  subst hsz
  have hD := hD0.self (sz := s.heap.size)
  generalize hAe : va_A [(xo, .inr (6, [.ref xg, .int gc, .ref xp, .int pc, .ref xq, .int qc, .ref r1, .ref r2, .ref r3, .ref r4, .ref se, .int ts, .int hou, .int dr, .int su, .int br])), (xq, .inl (cq, 16, .inr (.inr (.inr (.inr (zq [none, none, none, none, none, none, none, none, none, none, none, none, none, none, none, none])))))), (va, .inl (ci, 1, .inl (zi [0])))] s.heap.size = A at hD hZ ⊢
  have hA : ∀ q : Nat, s.heap.size ≤ q → A q := fun q h => by rw [← hAe]; exact Or.inr h
  have hS : va_S A s.heap s.heap [] := va_S.rf
  have hl := lv_entry ([.ref xo, .int 75, .ref va]) (n := 4) (Nat.le_of_ble_eq_true rfl)
  rw [lg_entry_eq]
  generalize (lg_sl ([.ref xo, .int 75, .ref va]) ++ List.replicate (4 - (lg_sl ([.ref xo, .int 75, .ref va])).length) Slot.unset).toArray = ls at hl ⊢
  have hl : lv_has ls 4 [(0, .ref xo), (1, .int 75), (2, .ref va)] := hl
  refine lv_iload_n hx hb dL_ask_0 rfl (lv_at hl 1 rfl) ?_
  refine lv_tableIn (off := 460) (tgt := 461) hx hb dL_ask_1 (by decide +kernel) (by decide +kernel) (by decide +kernel) (by decide) ?_
  refine lv_aload_n hx hb dL_ask_461 rfl (lv_at hl 0 rfl) ?_
  refine lv_iload_n hx hb dL_ask_462 rfl (lv_at hl 1 rfl) ?_
  refine lv_aload_n hx hb dL_ask_463 rfl (lv_at hl 2 rfl) ?_
  have hFc := va_free (wc := [(xo, .inr (6, [.ref xg, .int gc, .ref xp, .int pc, .ref xq, .int qc, .ref r1, .ref r2, .ref r3, .ref r4, .ref se, .int ts, .int hou, .int dr, .int su, .int br])), (xq, .inl (cq, 16, .inr (.inr (.inr (.inr (zq [none, none, none, none, none, none, none, none, none, none, none, none, none, none, none, none])))))), (va, .inl (ci, 1, .inl (zi [0])))]) hD hS hA [0, 1, 2] rfl
  refine vx_calli (vx_runS (As := [.ref xo, .int 75, .ref va]) (rest := []) ⟨hx, hb, hml, hown, hts⟩ (zc_L_asked_crack_no l hnt D G xo va xg gc xp pc xq qc r1 r2 r3 r4 se ts hou dr su br cq ci s.heap.size) (cwS 3 hts gzL_ask_crack_no_L_asked_crack_no_73 rfl rfl rfl (by decide +kernel) ⟨(Nat.le_of_ble_eq_true rfl), (Nat.le_of_ble_eq_true rfl)⟩) ⟨p_RW_blind, (p_RW_at (tc := [(cq, .object "Gatherhouse$Piece"), (ci, .int)]) (wc := [(xo, .inr (6, [.ref xg, .int gc, .ref xp, .int pc, .ref xq, .int qc, .ref r1, .ref r2, .ref r3, .ref r4, .ref se, .int ts, .int hou, .int dr, .int su, .int br])), (xq, .inl (cq, 16, .inr (.inr (.inr (.inr (zq [none, none, none, none, none, none, none, none, none, none, none, none, none, none, none, none])))))), (va, .inl (ci, 1, .inl (zi [0])))]) hP hK hD hS hA hT hZ [0, 1, 2] [0, 1] rfl rfl (by decide) rfl [.ref xo, .int 75, .ref va])⟩ rfl rfl hl.1 rfl (lv_room (Nat.le_of_ble_eq_true rfl)) dL_ask_464 ⟨(Nat.le_of_ble_eq_true rfl), (Nat.le_of_ble_eq_true rfl)⟩) hS (fun q _ h => hFc q h) hFc (fun q _ h => hFc q h) (fun E ce q9 u t H locs ht hvm hpx hBX hz1 hk1 hS hce hcv hcl => ?_) (fun r_1231 u t H locs ht hvm w_1232 hB hz1 hk1 hS => ?_)
  · obtain ⟨hBX, hB⟩ := hBX
    obtain ⟨hP, hD, hK⟩ := q_join (D := D) (wc := [(xo, .inr (6, [.ref xg, .int gc, .ref xp, .int pc, .ref xq, .int qc, .ref r1, .ref r2, .ref r3, .ref r4, .ref se, .int ts, .int hou, .int dr, .int su, .int br])), (xq, .inl (cq, 16, .inr (.inr (.inr (.inr (zq [none, none, none, none, none, none, none, none, none, none, none, none, none, none, none, none])))))), (va, .inl (ci, 1, .inl (zi [0])))]) (wr := []) (w1 := [(xo, .inr (6, [.ref xg, .int gc, .ref xp, .int pc, .ref xq, .int qc, .ref r1, .ref r2, .ref r3, .ref r4, .ref se, .int ts, .int hou, .int dr, .int su, .int br])), (xq, .inl (cq, 16, .inr (.inr (.inr (.inr (zq [none, none, none, none, none, none, none, none, none, none, none, none, none, none, none, none]))))))]) (tyr := []) (ty1 := [(cq, .object "Gatherhouse$Piece"), (ci, .int)]) hP hD hK [0, 1, 2] [] [] rfl rfl (by decide) (by decide) rfl hFc hk1 ht hvm hB
    have hP : va_P D vwCl [(xo, .inr (6, [.ref xg, .int gc, .ref xp, .int pc, .ref xq, .int qc, .ref r1, .ref r2, .ref r3, .ref r4, .ref se, .int ts, .int hou, .int dr, .int su, .int br])), (xq, .inl (cq, 16, .inr (.inr (.inr (.inr (zq [none, none, none, none, none, none, none, none, none, none, none, none, none, none, none, none]))))))] H := hP
    have hD : va_D A [(xo, .inr (6, [.ref xg, .int gc, .ref xp, .int pc, .ref xq, .int qc, .ref r1, .ref r2, .ref r3, .ref r4, .ref se, .int ts, .int hou, .int dr, .int su, .int br])), (xq, .inl (cq, 16, .inr (.inr (.inr (.inr (zq [none, none, none, none, none, none, none, none, none, none, none, none, none, none, none, none]))))))] := hD
    have hK : va_K D vwCl [(cq, .object "Gatherhouse$Piece"), (ci, .int)] s := hK
    have hBX : (E = "java/lang/IndexOutOfBoundsException") := hBX
    rcases hBX with rfl
    refine z_catch (own := RL) (name := "java/lang/IndexOutOfBoundsException") (hh := ttL_ask) (x := ⟨461, 467, 468, 79⟩) hown hxe 19 rfl [] (by decide +kernel) (fun _ h => absurd h List.not_mem_nil) (by decide) (by decide) (hts (.classLink RL 79 "java/lang/IndexOutOfBoundsException") (by decide +kernel)) (va_Nw.use rfl (hT.2.2.1 ("java/lang/IndexOutOfBoundsException", "java/lang/IndexOutOfBoundsException") (by decide +kernel))) hce hcv hcl ?_
    refine W.eq (g2 := F0 m 468 ls [.ref q9]) rfl ?_
    refine lv_astore_n (lv' := [(3, .ref q9), (0, .ref xo), (1, .int 75), (2, .ref va)]) hx hb dL_ask_468 rfl hl (by decide) rfl (fun ls hl => ?_)
    refine lv_ldc (v := (-2000000001)) hx hb hown (hts (.constant RL 81 (-2000000001)) (by decide +kernel)) dL_ask_469 ?_
    refine vx_ret ?_
    exact W.iret (v := (-2000000001)) hx hb hr (fun t ht hW => ⟨⟨(-2000000001), (), rfl, rfl, q_RW_mk hP hK hD [0, 1] [0] rfl rfl (by decide) rfl ht hW.alike⟩, hS.F ht⟩) hS.2.2 dL_ask_471
  · exact w_1232.elim
theorem dL_asked_244 : decode cL_asked 244 = .ok (.aload_n 0, 1) := by decide +kernel
theorem dL_asked_245 : decode cL_asked 245 = .ok (.aload_n 2, 1) := by decide +kernel
theorem dL_asked_246 : decode cL_asked 246 = .ok (.iconst 0, 1) := by decide +kernel
theorem dL_asked_247 : decode cL_asked 247 = .ok (.iaload, 1) := by decide +kernel
theorem dL_asked_248 : decode cL_asked 248 = .ok (.invokevirtual 97, 3) := by decide +kernel
def wzEL_asked_state_no : List Cond := [.code yL_asked cL_asked 3 (some .int), .methodLink RL 97 yX6_state, .instanceMethod yX6_state, .selects RX6 yX6_state yX6_state, .initialized RX6, .code yX6_state cX6_state 2 (some .char), .methodLink RX6 169 yX6_findPiece, .instanceMethod yX6_findPiece, .selects RX6 yX6_findPiece yX6_findPiece, .code yX6_findPiece cX6_findPiece 3 (some (.object "Gatherhouse$Piece")), .fieldLink RX6 30 "Gatherhouse" "pieces" "[LGatherhouse$Piece;", .classLink RX6 365 "java/lang/IndexOutOfBoundsException", .initialized "java/lang/IndexOutOfBoundsException"]
def wzL_asked_state_no : List Cond := wzEL_asked_state_no ++ (u_ws RX6 TX6 16 ++ ((vx_atS RX6 369 "java/lang/IndexOutOfBoundsException" ["java/lang/RuntimeException", "java/lang/Exception"]).filter goodWord))
theorem zgEL_asked_state_no : wzEL_asked_state_no.all goodWord = true := by decide +kernel
theorem zuL_asked_state_no_X6 : ∀ w ∈ u_ws RX6 TX6 16, w ∈ wzL_asked_state_no := (fun _ h => (List.mem_append_right _ (List.mem_append_left _ h)))
theorem ztL_asked_state_no_X6_369 : ∀ w ∈ (vx_atS RX6 369 "java/lang/IndexOutOfBoundsException" ["java/lang/RuntimeException", "java/lang/Exception"]).filter goodWord, w ∈ wzL_asked_state_no := (fun _ h => (List.mem_append_right _ (List.mem_append_right _ h)))
theorem gzL_asked_state_no_X6_state_no_97 : GoodIn wzL_asked_state_no (wsV RL 97 RX6 yX6_state wzX6_state_no) := (goodIn_app (z_lift (goodIn_r _ [1, 2, 3, 4] rfl (by decide +kernel))) (goodIn_app (z_lift (goodIn_r wzEX6_state_no [5, 6, 7, 8, 4, 9, 10, 11, 12] rfl zgEX6_state_no)) (goodIn_app (goodIn_sub (fun _ h => (List.mem_append_right _ (List.mem_append_left _ h))) zgU_X6) (goodIn_sub (fun _ h => (List.mem_append_right _ (List.mem_append_right _ h))) zgV_X6_369))))
set_option maxHeartbeats 4000000 in
set_option maxRecDepth 100000 in
theorem zc_L_asked_state_no (l : Launch) (hnt : l.stackTraces = false) (D : va_G) (G : Nat × Nat × (Nat → Int32)) (xo : Nat) (va : Nat) (xg : Nat) (gc : Int32) (xp : Nat) (pc : Int32) (xq : Nat) (qc : Int32) (r1 : Nat) (r2 : Nat) (r3 : Nat) (r4 : Nat) (se : Nat) (ts : Int32) (hou : Int32) (dr : Int32) (su : Int32) (br : Int32) (cq : ClassId) (ci : ClassId) (sz : Nat) : vx_Met l yL_asked wzL_asked_state_no ({ frames := 8, cells := 1, slots := 6, locals := 125 }) (va_Pc [.ref xo, .int 116, .ref va] (p_RW D G [(cq, .object "Gatherhouse$Piece"), (ci, .int)] [(xo, .inr (6, [.ref xg, .int gc, .ref xp, .int pc, .ref xq, .int qc, .ref r1, .ref r2, .ref r3, .ref r4, .ref se, .int ts, .int hou, .int dr, .int su, .int br])), (xq, .inl (cq, 16, .inr (.inr (.inr (.inr (zq [none, none, none, none, none, none, none, none, none, none, none, none, none, none, none, none])))))), (va, .inl (ci, 1, .inl (zi [0])))] sz)) (va_Qi (fun (r : Int32) (u : Unit) => False) (fun (u : Unit) (t : State) => q_RW D [(cq, .object "Gatherhouse$Piece")] [(xo, .inr (6, [.ref xg, .int gc, .ref xp, .int pc, .ref xq, .int qc, .ref r1, .ref r2, .ref r3, .ref r4, .ref se, .int ts, .int hou, .int dr, .int su, .int br])), (xq, .inl (cq, 16, .inr (.inr (.inr (.inr (zq [none, none, none, none, none, none, none, none, none, none, none, none, none, none, none, none]))))))] (va_A [(xo, .inr (6, [.ref xg, .int gc, .ref xp, .int pc, .ref xq, .int qc, .ref r1, .ref r2, .ref r3, .ref r4, .ref se, .int ts, .int hou, .int dr, .int su, .int br])), (xq, .inl (cq, 16, .inr (.inr (.inr (.inr (zq [none, none, none, none, none, none, none, none, none, none, none, none, none, none, none, none])))))), (va, .inl (ci, 1, .inl (zi [0])))] sz) t) (va_A [(xo, .inr (6, [.ref xg, .int gc, .ref xp, .int pc, .ref xq, .int qc, .ref r1, .ref r2, .ref r3, .ref r4, .ref se, .int ts, .int hou, .int dr, .int su, .int br])), (xq, .inl (cq, 16, .inr (.inr (.inr (.inr (zq [none, none, none, none, none, none, none, none, none, none, none, none, none, none, none, none])))))), (va, .inl (ci, 1, .inl (zi [0])))] sz)) (vx_X (fun (_ : Unit) => True) (fun E (_ : Unit) (t : State) => ((E = "java/lang/IndexOutOfBoundsException")) ∧ q_RW D [(cq, .object "Gatherhouse$Piece"), (ci, .int)] [(xo, .inr (6, [.ref xg, .int gc, .ref xp, .int pc, .ref xq, .int qc, .ref r1, .ref r2, .ref r3, .ref r4, .ref se, .int ts, .int hou, .int dr, .int su, .int br])), (xq, .inl (cq, 16, .inr (.inr (.inr (.inr (zq [none, none, none, none, none, none, none, none, none, none, none, none, none, none, none, none]))))))] (va_A [(xo, .inr (6, [.ref xg, .int gc, .ref xp, .int pc, .ref xq, .int qc, .ref r1, .ref r2, .ref r3, .ref r4, .ref se, .int ts, .int hou, .int dr, .int su, .int br])), (xq, .inl (cq, 16, .inr (.inr (.inr (.inr (zq [none, none, none, none, none, none, none, none, none, none, none, none, none, none, none, none])))))), (va, .inl (ci, 1, .inl (zi [0])))] sz) t) (va_A [(xo, .inr (6, [.ref xg, .int gc, .ref xp, .int pc, .ref xq, .int qc, .ref r1, .ref r2, .ref r3, .ref r4, .ref se, .int ts, .int hou, .int dr, .int su, .int br])), (xq, .inl (cq, 16, .inr (.inr (.inr (.inr (zq [none, none, none, none, none, none, none, none, none, none, none, none, none, none, none, none])))))), (va, .inl (ci, 1, .inl (zi [0])))] sz)) 1 6 (va_A [(xo, .inr (6, [.ref xg, .int gc, .ref xp, .int pc, .ref xq, .int qc, .ref r1, .ref r2, .ref r3, .ref r4, .ref se, .int ts, .int hou, .int dr, .int su, .int br])), (xq, .inl (cq, 16, .inr (.inr (.inr (.inr (zq [none, none, none, none, none, none, none, none, none, none, none, none, none, none, none, none])))))), (va, .inl (ci, 1, .inl (zi [0])))] sz) := by
  refine vx_ofW (cc := cL_asked) (maxL := 3) (ret := (some .int)) (by decide) rfl ?_
  intro p e s m args below meth c s₁ B hml hxt hv
  obtain ⟨rfl, hsz, hP, hK, hD0, hT, hZ⟩ := hv
  have hx := B.exec
  have hb := B.bytes
  have hr := B.returns
  have hts := atoms_spec (ws := wzL_asked_state_no) B.pre
  have hown : s.vm.findClass RL = some m.cls := findClass_of_methodNamed B.named
  have hlocks := B.notSynchronized
  subst hsz
  have hD := hD0.self (sz := s.heap.size)
  generalize hAe : va_A [(xo, .inr (6, [.ref xg, .int gc, .ref xp, .int pc, .ref xq, .int qc, .ref r1, .ref r2, .ref r3, .ref r4, .ref se, .int ts, .int hou, .int dr, .int su, .int br])), (xq, .inl (cq, 16, .inr (.inr (.inr (.inr (zq [none, none, none, none, none, none, none, none, none, none, none, none, none, none, none, none])))))), (va, .inl (ci, 1, .inl (zi [0])))] s.heap.size = A at hD hZ ⊢
  have hA : ∀ q : Nat, s.heap.size ≤ q → A q := fun q h => by rw [← hAe]; exact Or.inr h
  have hS : va_S A s.heap s.heap [] := va_S.rf
  have hl := lv_entry ([.ref xo, .int 116, .ref va]) (n := 3) (Nat.le_of_ble_eq_true rfl)
  rw [lg_entry_eq]
  generalize (lg_sl ([.ref xo, .int 116, .ref va]) ++ List.replicate (3 - (lg_sl ([.ref xo, .int 116, .ref va])).length) Slot.unset).toArray = ls at hl ⊢
  have hl : lv_has ls 3 [(0, .ref xo), (1, .int 116), (2, .ref va)] := hl
  refine lv_iload_n hx hb dL_asked_0 rfl (lv_at hl 1 rfl) ?_
  refine lv_tableIn (off := 243) (tgt := 244) hx hb dL_asked_1 (by decide +kernel) (by decide +kernel) (by decide +kernel) (by decide) ?_
  refine lv_aload_n hx hb dL_asked_244 rfl (lv_at hl 0 rfl) ?_
  refine lv_aload_n hx hb dL_asked_245 rfl (lv_at hl 2 rfl) ?_
  refine lv_iconst (v := 0) hx hb dL_asked_246 (by decide) ?_
  refine va_iald (D := D) (cl := vwCl) hx hb hK hP 2 1 rfl rfl (vp_in_nI (n := 0) (N := 1) (by decide) (by decide)) dL_asked_247 ?_
  refine W.eq (g2 := F0 m 248 ls [.int 0, .ref xo]) rfl ?_
  have hFc := va_free (wc := [(xo, .inr (6, [.ref xg, .int gc, .ref xp, .int pc, .ref xq, .int qc, .ref r1, .ref r2, .ref r3, .ref r4, .ref se, .int ts, .int hou, .int dr, .int su, .int br])), (xq, .inl (cq, 16, .inr (.inr (.inr (.inr (zq [none, none, none, none, none, none, none, none, none, none, none, none, none, none, none, none]))))))]) hD hS hA [0, 1] rfl
  refine vx_calli (vx_runV (As := [.int 0]) (rest := []) ⟨hx, hb, hml, hown, hts⟩ (zc_X6_state_no l hnt D G xo xg gc xp pc xq qc r1 r2 r3 r4 se ts hou dr su br cq s.heap.size) (cwV 1 hts gzL_asked_state_no_X6_state_no_97 rfl rfl rfl (by decide +kernel) ⟨(Nat.le_of_ble_eq_true rfl), (Nat.le_of_ble_eq_true rfl)⟩) ⟨p_RW_blind, va_recv hK hP (ci := 6) (q0 := 0) rfl rfl, (p_RW_at (tc := [(cq, .object "Gatherhouse$Piece")]) (wc := [(xo, .inr (6, [.ref xg, .int gc, .ref xp, .int pc, .ref xq, .int qc, .ref r1, .ref r2, .ref r3, .ref r4, .ref se, .int ts, .int hou, .int dr, .int su, .int br])), (xq, .inl (cq, 16, .inr (.inr (.inr (.inr (zq [none, none, none, none, none, none, none, none, none, none, none, none, none, none, none, none]))))))]) hP hK hD hS hA hT hZ [0, 1] [0] rfl rfl (by decide) rfl [.ref xo, .int 0])⟩ rfl rfl hl.1 rfl (lv_room (Nat.le_of_ble_eq_true rfl)) dL_asked_248 ⟨(Nat.le_of_ble_eq_true rfl), (Nat.le_of_ble_eq_true rfl)⟩) hS (fun q _ h => hFc q h) hFc (fun q _ h => hFc q h) (fun E ce q9 u t H locs ht hvm hpx hBX hz1 hk1 hS hce hcv hcl => ?_) (fun r_1233 u t H locs ht hvm w_1234 hB hz1 hk1 hS => ?_)
  · obtain ⟨hBX, hB⟩ := hBX
    obtain ⟨hP, hD, hK⟩ := q_join (D := D) (wc := [(xo, .inr (6, [.ref xg, .int gc, .ref xp, .int pc, .ref xq, .int qc, .ref r1, .ref r2, .ref r3, .ref r4, .ref se, .int ts, .int hou, .int dr, .int su, .int br])), (xq, .inl (cq, 16, .inr (.inr (.inr (.inr (zq [none, none, none, none, none, none, none, none, none, none, none, none, none, none, none, none]))))))]) (wr := [(va, .inl (ci, 1, .inl (zi [0])))]) (w1 := [(xo, .inr (6, [.ref xg, .int gc, .ref xp, .int pc, .ref xq, .int qc, .ref r1, .ref r2, .ref r3, .ref r4, .ref se, .int ts, .int hou, .int dr, .int su, .int br])), (xq, .inl (cq, 16, .inr (.inr (.inr (.inr (zq [none, none, none, none, none, none, none, none, none, none, none, none, none, none, none, none]))))))]) (tyr := [(ci, .int)]) (ty1 := [(cq, .object "Gatherhouse$Piece")]) hP hD hK [0, 1] [2] [1] rfl rfl (by decide) (by decide) rfl hFc hk1 ht hvm hB
    have hP : va_P D vwCl [(va, .inl (ci, 1, .inl (zi [0]))), (xo, .inr (6, [.ref xg, .int gc, .ref xp, .int pc, .ref xq, .int qc, .ref r1, .ref r2, .ref r3, .ref r4, .ref se, .int ts, .int hou, .int dr, .int su, .int br])), (xq, .inl (cq, 16, .inr (.inr (.inr (.inr (zq [none, none, none, none, none, none, none, none, none, none, none, none, none, none, none, none]))))))] H := hP
    have hD : va_D A [(va, .inl (ci, 1, .inl (zi [0]))), (xo, .inr (6, [.ref xg, .int gc, .ref xp, .int pc, .ref xq, .int qc, .ref r1, .ref r2, .ref r3, .ref r4, .ref se, .int ts, .int hou, .int dr, .int su, .int br])), (xq, .inl (cq, 16, .inr (.inr (.inr (.inr (zq [none, none, none, none, none, none, none, none, none, none, none, none, none, none, none, none]))))))] := hD
    have hK : va_K D vwCl [(ci, .int), (cq, .object "Gatherhouse$Piece")] s := hK
    have hBX : (E = "java/lang/IndexOutOfBoundsException") := hBX
    rcases hBX with rfl
    exact vx_out (fun x h => (hxt x h).elim) hlocks hce hcv hcl (fun t ht hW9 => ⟨(), trivial, ⟨rfl, q_RW_mk hP hK hD [1, 2] [1, 0] rfl rfl (by decide) rfl ht hW9⟩, hS.F ht⟩) hS.2.2 (Nat.le_of_ble_eq_true rfl) (Nat.le_of_ble_eq_true rfl)
  · exact w_1234.elim
def wzEL_ask_state_no : List Cond := [.codeWith yL_ask cL_ask 4 (some .int) ttL_ask, .methodLink RL 73 yL_asked, .static yL_asked, .initialized RL, .code yL_asked cL_asked 3 (some .int), .methodLink RL 97 yX6_state, .instanceMethod yX6_state, .selects RX6 yX6_state yX6_state, .initialized RX6, .code yX6_state cX6_state 2 (some .char), .methodLink RX6 169 yX6_findPiece, .instanceMethod yX6_findPiece, .selects RX6 yX6_findPiece yX6_findPiece, .code yX6_findPiece cX6_findPiece 3 (some (.object "Gatherhouse$Piece")), .fieldLink RX6 30 "Gatherhouse" "pieces" "[LGatherhouse$Piece;", .classLink RX6 365 "java/lang/IndexOutOfBoundsException", .initialized "java/lang/IndexOutOfBoundsException", .classLink RL 79 "java/lang/IndexOutOfBoundsException", .constant RL 81 (-2000000001)]
def wzL_ask_state_no : List Cond := wzEL_ask_state_no ++ (u_ws RX6 TX6 16 ++ ((vx_atS RX6 369 "java/lang/IndexOutOfBoundsException" ["java/lang/RuntimeException", "java/lang/Exception"]).filter goodWord))
theorem zgEL_ask_state_no : wzEL_ask_state_no.all goodWord = true := by decide +kernel
theorem zuL_ask_state_no_X6 : ∀ w ∈ u_ws RX6 TX6 16, w ∈ wzL_ask_state_no := (fun _ h => (List.mem_append_right _ (List.mem_append_left _ h)))
theorem ztL_ask_state_no_X6_369 : ∀ w ∈ (vx_atS RX6 369 "java/lang/IndexOutOfBoundsException" ["java/lang/RuntimeException", "java/lang/Exception"]).filter goodWord, w ∈ wzL_ask_state_no := (fun _ h => (List.mem_append_right _ (List.mem_append_right _ h)))
theorem gzL_ask_state_no_L_asked_state_no_73 : GoodIn wzL_ask_state_no (va_wsS RL 73 yL_asked wzL_asked_state_no) := (goodIn_app (z_lift (goodIn_r _ [1, 2, 3] rfl (by decide +kernel))) (goodIn_app (z_lift (goodIn_r wzEL_asked_state_no [4, 5, 6, 7, 8, 9, 10, 11, 12, 13, 14, 15, 16] rfl zgEL_asked_state_no)) (goodIn_app (goodIn_sub (fun _ h => (List.mem_append_right _ (List.mem_append_left _ h))) zgU_X6) (goodIn_sub (fun _ h => (List.mem_append_right _ (List.mem_append_right _ h))) zgV_X6_369))))
set_option maxHeartbeats 4000000 in
set_option maxRecDepth 100000 in
theorem zc_L_ask_state_no (l : Launch) (hnt : l.stackTraces = false) (D : va_G) (G : Nat × Nat × (Nat → Int32)) (xo : Nat) (va : Nat) (xg : Nat) (gc : Int32) (xp : Nat) (pc : Int32) (xq : Nat) (qc : Int32) (r1 : Nat) (r2 : Nat) (r3 : Nat) (r4 : Nat) (se : Nat) (ts : Int32) (hou : Int32) (dr : Int32) (su : Int32) (br : Int32) (cq : ClassId) (ci : ClassId) (sz : Nat) : vx_Met l yL_ask wzL_ask_state_no ({ frames := 9, cells := 1, slots := 6, locals := 147 }) (va_Pc [.ref xo, .int 116, .ref va] (p_RW D G [(cq, .object "Gatherhouse$Piece"), (ci, .int)] [(xo, .inr (6, [.ref xg, .int gc, .ref xp, .int pc, .ref xq, .int qc, .ref r1, .ref r2, .ref r3, .ref r4, .ref se, .int ts, .int hou, .int dr, .int su, .int br])), (xq, .inl (cq, 16, .inr (.inr (.inr (.inr (zq [none, none, none, none, none, none, none, none, none, none, none, none, none, none, none, none])))))), (va, .inl (ci, 1, .inl (zi [0])))] sz)) (va_Qi (fun (r : Int32) (u : Unit) => r = (-2000000001)) (fun (u : Unit) (t : State) => q_RW D [(cq, .object "Gatherhouse$Piece")] [(xo, .inr (6, [.ref xg, .int gc, .ref xp, .int pc, .ref xq, .int qc, .ref r1, .ref r2, .ref r3, .ref r4, .ref se, .int ts, .int hou, .int dr, .int su, .int br])), (xq, .inl (cq, 16, .inr (.inr (.inr (.inr (zq [none, none, none, none, none, none, none, none, none, none, none, none, none, none, none, none]))))))] (va_A [(xo, .inr (6, [.ref xg, .int gc, .ref xp, .int pc, .ref xq, .int qc, .ref r1, .ref r2, .ref r3, .ref r4, .ref se, .int ts, .int hou, .int dr, .int su, .int br])), (xq, .inl (cq, 16, .inr (.inr (.inr (.inr (zq [none, none, none, none, none, none, none, none, none, none, none, none, none, none, none, none])))))), (va, .inl (ci, 1, .inl (zi [0])))] sz) t) (va_A [(xo, .inr (6, [.ref xg, .int gc, .ref xp, .int pc, .ref xq, .int qc, .ref r1, .ref r2, .ref r3, .ref r4, .ref se, .int ts, .int hou, .int dr, .int su, .int br])), (xq, .inl (cq, 16, .inr (.inr (.inr (.inr (zq [none, none, none, none, none, none, none, none, none, none, none, none, none, none, none, none])))))), (va, .inl (ci, 1, .inl (zi [0])))] sz)) (vx_X (fun (_ : Unit) => True) (fun E (_ : Unit) (_ : State) => False) (va_A [(xo, .inr (6, [.ref xg, .int gc, .ref xp, .int pc, .ref xq, .int qc, .ref r1, .ref r2, .ref r3, .ref r4, .ref se, .int ts, .int hou, .int dr, .int su, .int br])), (xq, .inl (cq, 16, .inr (.inr (.inr (.inr (zq [none, none, none, none, none, none, none, none, none, none, none, none, none, none, none, none])))))), (va, .inl (ci, 1, .inl (zi [0])))] sz)) 1 6 (va_A [(xo, .inr (6, [.ref xg, .int gc, .ref xp, .int pc, .ref xq, .int qc, .ref r1, .ref r2, .ref r3, .ref r4, .ref se, .int ts, .int hou, .int dr, .int su, .int br])), (xq, .inl (cq, 16, .inr (.inr (.inr (.inr (zq [none, none, none, none, none, none, none, none, none, none, none, none, none, none, none, none])))))), (va, .inl (ci, 1, .inl (zi [0])))] sz) := by
  refine vx_ofWH (cc := cL_ask) (maxL := 4) (ret := (some .int)) (by decide) rfl ?_
  intro p e s m args below meth c s₁ B hml hv
  obtain ⟨rfl, hsz, hP, hK, hD0, hT, hZ⟩ := hv
  have hx := B.exec
  have hb := B.bytes
  have hr := B.returns
  have hts := atoms_spec (ws := wzL_ask_state_no) B.pre
  have hown : s.vm.findClass RL = some m.cls := findClass_of_methodNamed B.named
  have hlocks := B.notSynchronized
  have hxe := vx_table (x := yL_ask) B (hts _ List.mem_cons_self)
  subst hsz
  have hD := hD0.self (sz := s.heap.size)
  generalize hAe : va_A [(xo, .inr (6, [.ref xg, .int gc, .ref xp, .int pc, .ref xq, .int qc, .ref r1, .ref r2, .ref r3, .ref r4, .ref se, .int ts, .int hou, .int dr, .int su, .int br])), (xq, .inl (cq, 16, .inr (.inr (.inr (.inr (zq [none, none, none, none, none, none, none, none, none, none, none, none, none, none, none, none])))))), (va, .inl (ci, 1, .inl (zi [0])))] s.heap.size = A at hD hZ ⊢
  have hA : ∀ q : Nat, s.heap.size ≤ q → A q := fun q h => by rw [← hAe]; exact Or.inr h
  have hS : va_S A s.heap s.heap [] := va_S.rf
  have hl := lv_entry ([.ref xo, .int 116, .ref va]) (n := 4) (Nat.le_of_ble_eq_true rfl)
  rw [lg_entry_eq]
  generalize (lg_sl ([.ref xo, .int 116, .ref va]) ++ List.replicate (4 - (lg_sl ([.ref xo, .int 116, .ref va])).length) Slot.unset).toArray = ls at hl ⊢
  have hl : lv_has ls 4 [(0, .ref xo), (1, .int 116), (2, .ref va)] := hl
  refine lv_iload_n hx hb dL_ask_0 rfl (lv_at hl 1 rfl) ?_
  refine lv_tableIn (off := 460) (tgt := 461) hx hb dL_ask_1 (by decide +kernel) (by decide +kernel) (by decide +kernel) (by decide) ?_
  refine lv_aload_n hx hb dL_ask_461 rfl (lv_at hl 0 rfl) ?_
  refine lv_iload_n hx hb dL_ask_462 rfl (lv_at hl 1 rfl) ?_
  refine lv_aload_n hx hb dL_ask_463 rfl (lv_at hl 2 rfl) ?_
  have hFc := va_free (wc := [(xo, .inr (6, [.ref xg, .int gc, .ref xp, .int pc, .ref xq, .int qc, .ref r1, .ref r2, .ref r3, .ref r4, .ref se, .int ts, .int hou, .int dr, .int su, .int br])), (xq, .inl (cq, 16, .inr (.inr (.inr (.inr (zq [none, none, none, none, none, none, none, none, none, none, none, none, none, none, none, none])))))), (va, .inl (ci, 1, .inl (zi [0])))]) hD hS hA [0, 1, 2] rfl
  refine vx_calli (vx_runS (As := [.ref xo, .int 116, .ref va]) (rest := []) ⟨hx, hb, hml, hown, hts⟩ (zc_L_asked_state_no l hnt D G xo va xg gc xp pc xq qc r1 r2 r3 r4 se ts hou dr su br cq ci s.heap.size) (cwS 3 hts gzL_ask_state_no_L_asked_state_no_73 rfl rfl rfl (by decide +kernel) ⟨(Nat.le_of_ble_eq_true rfl), (Nat.le_of_ble_eq_true rfl)⟩) ⟨p_RW_blind, (p_RW_at (tc := [(cq, .object "Gatherhouse$Piece"), (ci, .int)]) (wc := [(xo, .inr (6, [.ref xg, .int gc, .ref xp, .int pc, .ref xq, .int qc, .ref r1, .ref r2, .ref r3, .ref r4, .ref se, .int ts, .int hou, .int dr, .int su, .int br])), (xq, .inl (cq, 16, .inr (.inr (.inr (.inr (zq [none, none, none, none, none, none, none, none, none, none, none, none, none, none, none, none])))))), (va, .inl (ci, 1, .inl (zi [0])))]) hP hK hD hS hA hT hZ [0, 1, 2] [0, 1] rfl rfl (by decide) rfl [.ref xo, .int 116, .ref va])⟩ rfl rfl hl.1 rfl (lv_room (Nat.le_of_ble_eq_true rfl)) dL_ask_464 ⟨(Nat.le_of_ble_eq_true rfl), (Nat.le_of_ble_eq_true rfl)⟩) hS (fun q _ h => hFc q h) hFc (fun q _ h => hFc q h) (fun E ce q9 u t H locs ht hvm hpx hBX hz1 hk1 hS hce hcv hcl => ?_) (fun r_1235 u t H locs ht hvm w_1236 hB hz1 hk1 hS => ?_)
  · obtain ⟨hBX, hB⟩ := hBX
    obtain ⟨hP, hD, hK⟩ := q_join (D := D) (wc := [(xo, .inr (6, [.ref xg, .int gc, .ref xp, .int pc, .ref xq, .int qc, .ref r1, .ref r2, .ref r3, .ref r4, .ref se, .int ts, .int hou, .int dr, .int su, .int br])), (xq, .inl (cq, 16, .inr (.inr (.inr (.inr (zq [none, none, none, none, none, none, none, none, none, none, none, none, none, none, none, none])))))), (va, .inl (ci, 1, .inl (zi [0])))]) (wr := []) (w1 := [(xo, .inr (6, [.ref xg, .int gc, .ref xp, .int pc, .ref xq, .int qc, .ref r1, .ref r2, .ref r3, .ref r4, .ref se, .int ts, .int hou, .int dr, .int su, .int br])), (xq, .inl (cq, 16, .inr (.inr (.inr (.inr (zq [none, none, none, none, none, none, none, none, none, none, none, none, none, none, none, none]))))))]) (tyr := []) (ty1 := [(cq, .object "Gatherhouse$Piece"), (ci, .int)]) hP hD hK [0, 1, 2] [] [] rfl rfl (by decide) (by decide) rfl hFc hk1 ht hvm hB
    have hP : va_P D vwCl [(xo, .inr (6, [.ref xg, .int gc, .ref xp, .int pc, .ref xq, .int qc, .ref r1, .ref r2, .ref r3, .ref r4, .ref se, .int ts, .int hou, .int dr, .int su, .int br])), (xq, .inl (cq, 16, .inr (.inr (.inr (.inr (zq [none, none, none, none, none, none, none, none, none, none, none, none, none, none, none, none]))))))] H := hP
    have hD : va_D A [(xo, .inr (6, [.ref xg, .int gc, .ref xp, .int pc, .ref xq, .int qc, .ref r1, .ref r2, .ref r3, .ref r4, .ref se, .int ts, .int hou, .int dr, .int su, .int br])), (xq, .inl (cq, 16, .inr (.inr (.inr (.inr (zq [none, none, none, none, none, none, none, none, none, none, none, none, none, none, none, none]))))))] := hD
    have hK : va_K D vwCl [(cq, .object "Gatherhouse$Piece"), (ci, .int)] s := hK
    have hBX : (E = "java/lang/IndexOutOfBoundsException") := hBX
    rcases hBX with rfl
    refine z_catch (own := RL) (name := "java/lang/IndexOutOfBoundsException") (hh := ttL_ask) (x := ⟨461, 467, 468, 79⟩) hown hxe 19 rfl [] (by decide +kernel) (fun _ h => absurd h List.not_mem_nil) (by decide) (by decide) (hts (.classLink RL 79 "java/lang/IndexOutOfBoundsException") (by decide +kernel)) (va_Nw.use rfl (hT.2.2.1 ("java/lang/IndexOutOfBoundsException", "java/lang/IndexOutOfBoundsException") (by decide +kernel))) hce hcv hcl ?_
    refine W.eq (g2 := F0 m 468 ls [.ref q9]) rfl ?_
    refine lv_astore_n (lv' := [(3, .ref q9), (0, .ref xo), (1, .int 116), (2, .ref va)]) hx hb dL_ask_468 rfl hl (by decide) rfl (fun ls hl => ?_)
    refine lv_ldc (v := (-2000000001)) hx hb hown (hts (.constant RL 81 (-2000000001)) (by decide +kernel)) dL_ask_469 ?_
    refine vx_ret ?_
    exact W.iret (v := (-2000000001)) hx hb hr (fun t ht hW => ⟨⟨(-2000000001), (), rfl, rfl, q_RW_mk hP hK hD [0, 1] [0] rfl rfl (by decide) rfl ht hW.alike⟩, hS.F ht⟩) hS.2.2 dL_ask_471
  · exact w_1236.elim
theorem dL_asked_252 : decode cL_asked 252 = .ok (.aload_n 0, 1) := by decide +kernel
theorem dL_asked_253 : decode cL_asked 253 = .ok (.aload_n 2, 1) := by decide +kernel
theorem dL_asked_254 : decode cL_asked 254 = .ok (.iconst 0, 1) := by decide +kernel
theorem dL_asked_255 : decode cL_asked 255 = .ok (.iaload, 1) := by decide +kernel
theorem dL_asked_256 : decode cL_asked 256 = .ok (.invokevirtual 101, 3) := by decide +kernel
def wzEL_asked_heatOf_no : List Cond := [.code yL_asked cL_asked 3 (some .int), .methodLink RL 101 yX6_heatOf, .instanceMethod yX6_heatOf, .selects RX6 yX6_heatOf yX6_heatOf, .initialized RX6, .code yX6_heatOf cX6_heatOf 3 (some .int), .methodLink RX6 169 yX6_findPiece, .instanceMethod yX6_findPiece, .selects RX6 yX6_findPiece yX6_findPiece, .code yX6_findPiece cX6_findPiece 3 (some (.object "Gatherhouse$Piece")), .fieldLink RX6 30 "Gatherhouse" "pieces" "[LGatherhouse$Piece;", .classLink RX6 365 "java/lang/IndexOutOfBoundsException", .initialized "java/lang/IndexOutOfBoundsException"]
def wzL_asked_heatOf_no : List Cond := wzEL_asked_heatOf_no ++ (u_ws RX6 TX6 16 ++ ((vx_atS RX6 369 "java/lang/IndexOutOfBoundsException" ["java/lang/RuntimeException", "java/lang/Exception"]).filter goodWord))
theorem zgEL_asked_heatOf_no : wzEL_asked_heatOf_no.all goodWord = true := by decide +kernel
theorem zuL_asked_heatOf_no_X6 : ∀ w ∈ u_ws RX6 TX6 16, w ∈ wzL_asked_heatOf_no := (fun _ h => (List.mem_append_right _ (List.mem_append_left _ h)))
theorem ztL_asked_heatOf_no_X6_369 : ∀ w ∈ (vx_atS RX6 369 "java/lang/IndexOutOfBoundsException" ["java/lang/RuntimeException", "java/lang/Exception"]).filter goodWord, w ∈ wzL_asked_heatOf_no := (fun _ h => (List.mem_append_right _ (List.mem_append_right _ h)))
theorem gzL_asked_heatOf_no_X6_heatOf_no_101 : GoodIn wzL_asked_heatOf_no (wsV RL 101 RX6 yX6_heatOf wzX6_heatOf_no) := (goodIn_app (z_lift (goodIn_r _ [1, 2, 3, 4] rfl (by decide +kernel))) (goodIn_app (z_lift (goodIn_r wzEX6_heatOf_no [5, 6, 7, 8, 4, 9, 10, 11, 12] rfl zgEX6_heatOf_no)) (goodIn_app (goodIn_sub (fun _ h => (List.mem_append_right _ (List.mem_append_left _ h))) zgU_X6) (goodIn_sub (fun _ h => (List.mem_append_right _ (List.mem_append_right _ h))) zgV_X6_369))))
set_option maxHeartbeats 4000000 in
set_option maxRecDepth 100000 in
theorem zc_L_asked_heatOf_no (l : Launch) (hnt : l.stackTraces = false) (D : va_G) (G : Nat × Nat × (Nat → Int32)) (xo : Nat) (va : Nat) (xg : Nat) (gc : Int32) (xp : Nat) (pc : Int32) (xq : Nat) (qc : Int32) (r1 : Nat) (r2 : Nat) (r3 : Nat) (r4 : Nat) (se : Nat) (ts : Int32) (hou : Int32) (dr : Int32) (su : Int32) (br : Int32) (cq : ClassId) (ci : ClassId) (sz : Nat) : vx_Met l yL_asked wzL_asked_heatOf_no ({ frames := 8, cells := 1, slots := 6, locals := 126 }) (va_Pc [.ref xo, .int 101, .ref va] (p_RW D G [(cq, .object "Gatherhouse$Piece"), (ci, .int)] [(xo, .inr (6, [.ref xg, .int gc, .ref xp, .int pc, .ref xq, .int qc, .ref r1, .ref r2, .ref r3, .ref r4, .ref se, .int ts, .int hou, .int dr, .int su, .int br])), (xq, .inl (cq, 16, .inr (.inr (.inr (.inr (zq [none, none, none, none, none, none, none, none, none, none, none, none, none, none, none, none])))))), (va, .inl (ci, 1, .inl (zi [0])))] sz)) (va_Qi (fun (r : Int32) (u : Unit) => False) (fun (u : Unit) (t : State) => q_RW D [(cq, .object "Gatherhouse$Piece")] [(xo, .inr (6, [.ref xg, .int gc, .ref xp, .int pc, .ref xq, .int qc, .ref r1, .ref r2, .ref r3, .ref r4, .ref se, .int ts, .int hou, .int dr, .int su, .int br])), (xq, .inl (cq, 16, .inr (.inr (.inr (.inr (zq [none, none, none, none, none, none, none, none, none, none, none, none, none, none, none, none]))))))] (va_A [(xo, .inr (6, [.ref xg, .int gc, .ref xp, .int pc, .ref xq, .int qc, .ref r1, .ref r2, .ref r3, .ref r4, .ref se, .int ts, .int hou, .int dr, .int su, .int br])), (xq, .inl (cq, 16, .inr (.inr (.inr (.inr (zq [none, none, none, none, none, none, none, none, none, none, none, none, none, none, none, none])))))), (va, .inl (ci, 1, .inl (zi [0])))] sz) t) (va_A [(xo, .inr (6, [.ref xg, .int gc, .ref xp, .int pc, .ref xq, .int qc, .ref r1, .ref r2, .ref r3, .ref r4, .ref se, .int ts, .int hou, .int dr, .int su, .int br])), (xq, .inl (cq, 16, .inr (.inr (.inr (.inr (zq [none, none, none, none, none, none, none, none, none, none, none, none, none, none, none, none])))))), (va, .inl (ci, 1, .inl (zi [0])))] sz)) (vx_X (fun (_ : Unit) => True) (fun E (_ : Unit) (t : State) => ((E = "java/lang/IndexOutOfBoundsException")) ∧ q_RW D [(cq, .object "Gatherhouse$Piece"), (ci, .int)] [(xo, .inr (6, [.ref xg, .int gc, .ref xp, .int pc, .ref xq, .int qc, .ref r1, .ref r2, .ref r3, .ref r4, .ref se, .int ts, .int hou, .int dr, .int su, .int br])), (xq, .inl (cq, 16, .inr (.inr (.inr (.inr (zq [none, none, none, none, none, none, none, none, none, none, none, none, none, none, none, none]))))))] (va_A [(xo, .inr (6, [.ref xg, .int gc, .ref xp, .int pc, .ref xq, .int qc, .ref r1, .ref r2, .ref r3, .ref r4, .ref se, .int ts, .int hou, .int dr, .int su, .int br])), (xq, .inl (cq, 16, .inr (.inr (.inr (.inr (zq [none, none, none, none, none, none, none, none, none, none, none, none, none, none, none, none])))))), (va, .inl (ci, 1, .inl (zi [0])))] sz) t) (va_A [(xo, .inr (6, [.ref xg, .int gc, .ref xp, .int pc, .ref xq, .int qc, .ref r1, .ref r2, .ref r3, .ref r4, .ref se, .int ts, .int hou, .int dr, .int su, .int br])), (xq, .inl (cq, 16, .inr (.inr (.inr (.inr (zq [none, none, none, none, none, none, none, none, none, none, none, none, none, none, none, none])))))), (va, .inl (ci, 1, .inl (zi [0])))] sz)) 1 6 (va_A [(xo, .inr (6, [.ref xg, .int gc, .ref xp, .int pc, .ref xq, .int qc, .ref r1, .ref r2, .ref r3, .ref r4, .ref se, .int ts, .int hou, .int dr, .int su, .int br])), (xq, .inl (cq, 16, .inr (.inr (.inr (.inr (zq [none, none, none, none, none, none, none, none, none, none, none, none, none, none, none, none])))))), (va, .inl (ci, 1, .inl (zi [0])))] sz) := by
  refine vx_ofW (cc := cL_asked) (maxL := 3) (ret := (some .int)) (by decide) rfl ?_
  intro p e s m args below meth c s₁ B hml hxt hv
  obtain ⟨rfl, hsz, hP, hK, hD0, hT, hZ⟩ := hv
  have hx := B.exec
  have hb := B.bytes
  have hr := B.returns
  have hts := atoms_spec (ws := wzL_asked_heatOf_no) B.pre
  have hown : s.vm.findClass RL = some m.cls := findClass_of_methodNamed B.named
  have hlocks := B.notSynchronized
  subst hsz
  have hD := hD0.self (sz := s.heap.size)
  generalize hAe : va_A [(xo, .inr (6, [.ref xg, .int gc, .ref xp, .int pc, .ref xq, .int qc, .ref r1, .ref r2, .ref r3, .ref r4, .ref se, .int ts, .int hou, .int dr, .int su, .int br])), (xq, .inl (cq, 16, .inr (.inr (.inr (.inr (zq [none, none, none, none, none, none, none, none, none, none, none, none, none, none, none, none])))))), (va, .inl (ci, 1, .inl (zi [0])))] s.heap.size = A at hD hZ ⊢
  have hA : ∀ q : Nat, s.heap.size ≤ q → A q := fun q h => by rw [← hAe]; exact Or.inr h
  have hS : va_S A s.heap s.heap [] := va_S.rf
  have hl := lv_entry ([.ref xo, .int 101, .ref va]) (n := 3) (Nat.le_of_ble_eq_true rfl)
  rw [lg_entry_eq]
  generalize (lg_sl ([.ref xo, .int 101, .ref va]) ++ List.replicate (3 - (lg_sl ([.ref xo, .int 101, .ref va])).length) Slot.unset).toArray = ls at hl ⊢
  have hl : lv_has ls 3 [(0, .ref xo), (1, .int 101), (2, .ref va)] := hl
  refine lv_iload_n hx hb dL_asked_0 rfl (lv_at hl 1 rfl) ?_
  refine lv_tableIn (off := 251) (tgt := 252) hx hb dL_asked_1 (by decide +kernel) (by decide +kernel) (by decide +kernel) (by decide) ?_
  refine lv_aload_n hx hb dL_asked_252 rfl (lv_at hl 0 rfl) ?_
  refine lv_aload_n hx hb dL_asked_253 rfl (lv_at hl 2 rfl) ?_
  refine lv_iconst (v := 0) hx hb dL_asked_254 (by decide) ?_
  refine va_iald (D := D) (cl := vwCl) hx hb hK hP 2 1 rfl rfl (vp_in_nI (n := 0) (N := 1) (by decide) (by decide)) dL_asked_255 ?_
  refine W.eq (g2 := F0 m 256 ls [.int 0, .ref xo]) rfl ?_
  have hFc := va_free (wc := [(xo, .inr (6, [.ref xg, .int gc, .ref xp, .int pc, .ref xq, .int qc, .ref r1, .ref r2, .ref r3, .ref r4, .ref se, .int ts, .int hou, .int dr, .int su, .int br])), (xq, .inl (cq, 16, .inr (.inr (.inr (.inr (zq [none, none, none, none, none, none, none, none, none, none, none, none, none, none, none, none]))))))]) hD hS hA [0, 1] rfl
  refine vx_calli (vx_runV (As := [.int 0]) (rest := []) ⟨hx, hb, hml, hown, hts⟩ (zc_X6_heatOf_no l hnt D G xo xg gc xp pc xq qc r1 r2 r3 r4 se ts hou dr su br cq s.heap.size) (cwV 1 hts gzL_asked_heatOf_no_X6_heatOf_no_101 rfl rfl rfl (by decide +kernel) ⟨(Nat.le_of_ble_eq_true rfl), (Nat.le_of_ble_eq_true rfl)⟩) ⟨p_RW_blind, va_recv hK hP (ci := 6) (q0 := 0) rfl rfl, (p_RW_at (tc := [(cq, .object "Gatherhouse$Piece")]) (wc := [(xo, .inr (6, [.ref xg, .int gc, .ref xp, .int pc, .ref xq, .int qc, .ref r1, .ref r2, .ref r3, .ref r4, .ref se, .int ts, .int hou, .int dr, .int su, .int br])), (xq, .inl (cq, 16, .inr (.inr (.inr (.inr (zq [none, none, none, none, none, none, none, none, none, none, none, none, none, none, none, none]))))))]) hP hK hD hS hA hT hZ [0, 1] [0] rfl rfl (by decide) rfl [.ref xo, .int 0])⟩ rfl rfl hl.1 rfl (lv_room (Nat.le_of_ble_eq_true rfl)) dL_asked_256 ⟨(Nat.le_of_ble_eq_true rfl), (Nat.le_of_ble_eq_true rfl)⟩) hS (fun q _ h => hFc q h) hFc (fun q _ h => hFc q h) (fun E ce q9 u t H locs ht hvm hpx hBX hz1 hk1 hS hce hcv hcl => ?_) (fun r_1237 u t H locs ht hvm w_1238 hB hz1 hk1 hS => ?_)
  · obtain ⟨hBX, hB⟩ := hBX
    obtain ⟨hP, hD, hK⟩ := q_join (D := D) (wc := [(xo, .inr (6, [.ref xg, .int gc, .ref xp, .int pc, .ref xq, .int qc, .ref r1, .ref r2, .ref r3, .ref r4, .ref se, .int ts, .int hou, .int dr, .int su, .int br])), (xq, .inl (cq, 16, .inr (.inr (.inr (.inr (zq [none, none, none, none, none, none, none, none, none, none, none, none, none, none, none, none]))))))]) (wr := [(va, .inl (ci, 1, .inl (zi [0])))]) (w1 := [(xo, .inr (6, [.ref xg, .int gc, .ref xp, .int pc, .ref xq, .int qc, .ref r1, .ref r2, .ref r3, .ref r4, .ref se, .int ts, .int hou, .int dr, .int su, .int br])), (xq, .inl (cq, 16, .inr (.inr (.inr (.inr (zq [none, none, none, none, none, none, none, none, none, none, none, none, none, none, none, none]))))))]) (tyr := [(ci, .int)]) (ty1 := [(cq, .object "Gatherhouse$Piece")]) hP hD hK [0, 1] [2] [1] rfl rfl (by decide) (by decide) rfl hFc hk1 ht hvm hB
    have hP : va_P D vwCl [(va, .inl (ci, 1, .inl (zi [0]))), (xo, .inr (6, [.ref xg, .int gc, .ref xp, .int pc, .ref xq, .int qc, .ref r1, .ref r2, .ref r3, .ref r4, .ref se, .int ts, .int hou, .int dr, .int su, .int br])), (xq, .inl (cq, 16, .inr (.inr (.inr (.inr (zq [none, none, none, none, none, none, none, none, none, none, none, none, none, none, none, none]))))))] H := hP
    have hD : va_D A [(va, .inl (ci, 1, .inl (zi [0]))), (xo, .inr (6, [.ref xg, .int gc, .ref xp, .int pc, .ref xq, .int qc, .ref r1, .ref r2, .ref r3, .ref r4, .ref se, .int ts, .int hou, .int dr, .int su, .int br])), (xq, .inl (cq, 16, .inr (.inr (.inr (.inr (zq [none, none, none, none, none, none, none, none, none, none, none, none, none, none, none, none]))))))] := hD
    have hK : va_K D vwCl [(ci, .int), (cq, .object "Gatherhouse$Piece")] s := hK
    have hBX : (E = "java/lang/IndexOutOfBoundsException") := hBX
    rcases hBX with rfl
    exact vx_out (fun x h => (hxt x h).elim) hlocks hce hcv hcl (fun t ht hW9 => ⟨(), trivial, ⟨rfl, q_RW_mk hP hK hD [1, 2] [1, 0] rfl rfl (by decide) rfl ht hW9⟩, hS.F ht⟩) hS.2.2 (Nat.le_of_ble_eq_true rfl) (Nat.le_of_ble_eq_true rfl)
  · exact w_1238.elim
def wzEL_ask_heatOf_no : List Cond := [.codeWith yL_ask cL_ask 4 (some .int) ttL_ask, .methodLink RL 73 yL_asked, .static yL_asked, .initialized RL, .code yL_asked cL_asked 3 (some .int), .methodLink RL 101 yX6_heatOf, .instanceMethod yX6_heatOf, .selects RX6 yX6_heatOf yX6_heatOf, .initialized RX6, .code yX6_heatOf cX6_heatOf 3 (some .int), .methodLink RX6 169 yX6_findPiece, .instanceMethod yX6_findPiece, .selects RX6 yX6_findPiece yX6_findPiece, .code yX6_findPiece cX6_findPiece 3 (some (.object "Gatherhouse$Piece")), .fieldLink RX6 30 "Gatherhouse" "pieces" "[LGatherhouse$Piece;", .classLink RX6 365 "java/lang/IndexOutOfBoundsException", .initialized "java/lang/IndexOutOfBoundsException", .classLink RL 79 "java/lang/IndexOutOfBoundsException", .constant RL 81 (-2000000001)]
def wzL_ask_heatOf_no : List Cond := wzEL_ask_heatOf_no ++ (u_ws RX6 TX6 16 ++ ((vx_atS RX6 369 "java/lang/IndexOutOfBoundsException" ["java/lang/RuntimeException", "java/lang/Exception"]).filter goodWord))
theorem zgEL_ask_heatOf_no : wzEL_ask_heatOf_no.all goodWord = true := by decide +kernel
theorem zuL_ask_heatOf_no_X6 : ∀ w ∈ u_ws RX6 TX6 16, w ∈ wzL_ask_heatOf_no := (fun _ h => (List.mem_append_right _ (List.mem_append_left _ h)))
theorem ztL_ask_heatOf_no_X6_369 : ∀ w ∈ (vx_atS RX6 369 "java/lang/IndexOutOfBoundsException" ["java/lang/RuntimeException", "java/lang/Exception"]).filter goodWord, w ∈ wzL_ask_heatOf_no := (fun _ h => (List.mem_append_right _ (List.mem_append_right _ h)))
theorem gzL_ask_heatOf_no_L_asked_heatOf_no_73 : GoodIn wzL_ask_heatOf_no (va_wsS RL 73 yL_asked wzL_asked_heatOf_no) := (goodIn_app (z_lift (goodIn_r _ [1, 2, 3] rfl (by decide +kernel))) (goodIn_app (z_lift (goodIn_r wzEL_asked_heatOf_no [4, 5, 6, 7, 8, 9, 10, 11, 12, 13, 14, 15, 16] rfl zgEL_asked_heatOf_no)) (goodIn_app (goodIn_sub (fun _ h => (List.mem_append_right _ (List.mem_append_left _ h))) zgU_X6) (goodIn_sub (fun _ h => (List.mem_append_right _ (List.mem_append_right _ h))) zgV_X6_369))))
set_option maxHeartbeats 4000000 in
set_option maxRecDepth 100000 in
theorem zc_L_ask_heatOf_no (l : Launch) (hnt : l.stackTraces = false) (D : va_G) (G : Nat × Nat × (Nat → Int32)) (xo : Nat) (va : Nat) (xg : Nat) (gc : Int32) (xp : Nat) (pc : Int32) (xq : Nat) (qc : Int32) (r1 : Nat) (r2 : Nat) (r3 : Nat) (r4 : Nat) (se : Nat) (ts : Int32) (hou : Int32) (dr : Int32) (su : Int32) (br : Int32) (cq : ClassId) (ci : ClassId) (sz : Nat) : vx_Met l yL_ask wzL_ask_heatOf_no ({ frames := 9, cells := 1, slots := 6, locals := 148 }) (va_Pc [.ref xo, .int 101, .ref va] (p_RW D G [(cq, .object "Gatherhouse$Piece"), (ci, .int)] [(xo, .inr (6, [.ref xg, .int gc, .ref xp, .int pc, .ref xq, .int qc, .ref r1, .ref r2, .ref r3, .ref r4, .ref se, .int ts, .int hou, .int dr, .int su, .int br])), (xq, .inl (cq, 16, .inr (.inr (.inr (.inr (zq [none, none, none, none, none, none, none, none, none, none, none, none, none, none, none, none])))))), (va, .inl (ci, 1, .inl (zi [0])))] sz)) (va_Qi (fun (r : Int32) (u : Unit) => r = (-2000000001)) (fun (u : Unit) (t : State) => q_RW D [(cq, .object "Gatherhouse$Piece")] [(xo, .inr (6, [.ref xg, .int gc, .ref xp, .int pc, .ref xq, .int qc, .ref r1, .ref r2, .ref r3, .ref r4, .ref se, .int ts, .int hou, .int dr, .int su, .int br])), (xq, .inl (cq, 16, .inr (.inr (.inr (.inr (zq [none, none, none, none, none, none, none, none, none, none, none, none, none, none, none, none]))))))] (va_A [(xo, .inr (6, [.ref xg, .int gc, .ref xp, .int pc, .ref xq, .int qc, .ref r1, .ref r2, .ref r3, .ref r4, .ref se, .int ts, .int hou, .int dr, .int su, .int br])), (xq, .inl (cq, 16, .inr (.inr (.inr (.inr (zq [none, none, none, none, none, none, none, none, none, none, none, none, none, none, none, none])))))), (va, .inl (ci, 1, .inl (zi [0])))] sz) t) (va_A [(xo, .inr (6, [.ref xg, .int gc, .ref xp, .int pc, .ref xq, .int qc, .ref r1, .ref r2, .ref r3, .ref r4, .ref se, .int ts, .int hou, .int dr, .int su, .int br])), (xq, .inl (cq, 16, .inr (.inr (.inr (.inr (zq [none, none, none, none, none, none, none, none, none, none, none, none, none, none, none, none])))))), (va, .inl (ci, 1, .inl (zi [0])))] sz)) (vx_X (fun (_ : Unit) => True) (fun E (_ : Unit) (_ : State) => False) (va_A [(xo, .inr (6, [.ref xg, .int gc, .ref xp, .int pc, .ref xq, .int qc, .ref r1, .ref r2, .ref r3, .ref r4, .ref se, .int ts, .int hou, .int dr, .int su, .int br])), (xq, .inl (cq, 16, .inr (.inr (.inr (.inr (zq [none, none, none, none, none, none, none, none, none, none, none, none, none, none, none, none])))))), (va, .inl (ci, 1, .inl (zi [0])))] sz)) 1 6 (va_A [(xo, .inr (6, [.ref xg, .int gc, .ref xp, .int pc, .ref xq, .int qc, .ref r1, .ref r2, .ref r3, .ref r4, .ref se, .int ts, .int hou, .int dr, .int su, .int br])), (xq, .inl (cq, 16, .inr (.inr (.inr (.inr (zq [none, none, none, none, none, none, none, none, none, none, none, none, none, none, none, none])))))), (va, .inl (ci, 1, .inl (zi [0])))] sz) := by
  refine vx_ofWH (cc := cL_ask) (maxL := 4) (ret := (some .int)) (by decide) rfl ?_
  intro p e s m args below meth c s₁ B hml hv
  obtain ⟨rfl, hsz, hP, hK, hD0, hT, hZ⟩ := hv
  have hx := B.exec
  have hb := B.bytes
  have hr := B.returns
  have hts := atoms_spec (ws := wzL_ask_heatOf_no) B.pre
  have hown : s.vm.findClass RL = some m.cls := findClass_of_methodNamed B.named
  have hlocks := B.notSynchronized
  have hxe := vx_table (x := yL_ask) B (hts _ List.mem_cons_self)
  subst hsz
  have hD := hD0.self (sz := s.heap.size)
  generalize hAe : va_A [(xo, .inr (6, [.ref xg, .int gc, .ref xp, .int pc, .ref xq, .int qc, .ref r1, .ref r2, .ref r3, .ref r4, .ref se, .int ts, .int hou, .int dr, .int su, .int br])), (xq, .inl (cq, 16, .inr (.inr (.inr (.inr (zq [none, none, none, none, none, none, none, none, none, none, none, none, none, none, none, none])))))), (va, .inl (ci, 1, .inl (zi [0])))] s.heap.size = A at hD hZ ⊢
  have hA : ∀ q : Nat, s.heap.size ≤ q → A q := fun q h => by rw [← hAe]; exact Or.inr h
  have hS : va_S A s.heap s.heap [] := va_S.rf
  have hl := lv_entry ([.ref xo, .int 101, .ref va]) (n := 4) (Nat.le_of_ble_eq_true rfl)
  rw [lg_entry_eq]
  generalize (lg_sl ([.ref xo, .int 101, .ref va]) ++ List.replicate (4 - (lg_sl ([.ref xo, .int 101, .ref va])).length) Slot.unset).toArray = ls at hl ⊢
  have hl : lv_has ls 4 [(0, .ref xo), (1, .int 101), (2, .ref va)] := hl
  refine lv_iload_n hx hb dL_ask_0 rfl (lv_at hl 1 rfl) ?_
  refine lv_tableIn (off := 460) (tgt := 461) hx hb dL_ask_1 (by decide +kernel) (by decide +kernel) (by decide +kernel) (by decide) ?_
  refine lv_aload_n hx hb dL_ask_461 rfl (lv_at hl 0 rfl) ?_
  refine lv_iload_n hx hb dL_ask_462 rfl (lv_at hl 1 rfl) ?_
  refine lv_aload_n hx hb dL_ask_463 rfl (lv_at hl 2 rfl) ?_
  have hFc := va_free (wc := [(xo, .inr (6, [.ref xg, .int gc, .ref xp, .int pc, .ref xq, .int qc, .ref r1, .ref r2, .ref r3, .ref r4, .ref se, .int ts, .int hou, .int dr, .int su, .int br])), (xq, .inl (cq, 16, .inr (.inr (.inr (.inr (zq [none, none, none, none, none, none, none, none, none, none, none, none, none, none, none, none])))))), (va, .inl (ci, 1, .inl (zi [0])))]) hD hS hA [0, 1, 2] rfl
  refine vx_calli (vx_runS (As := [.ref xo, .int 101, .ref va]) (rest := []) ⟨hx, hb, hml, hown, hts⟩ (zc_L_asked_heatOf_no l hnt D G xo va xg gc xp pc xq qc r1 r2 r3 r4 se ts hou dr su br cq ci s.heap.size) (cwS 3 hts gzL_ask_heatOf_no_L_asked_heatOf_no_73 rfl rfl rfl (by decide +kernel) ⟨(Nat.le_of_ble_eq_true rfl), (Nat.le_of_ble_eq_true rfl)⟩) ⟨p_RW_blind, (p_RW_at (tc := [(cq, .object "Gatherhouse$Piece"), (ci, .int)]) (wc := [(xo, .inr (6, [.ref xg, .int gc, .ref xp, .int pc, .ref xq, .int qc, .ref r1, .ref r2, .ref r3, .ref r4, .ref se, .int ts, .int hou, .int dr, .int su, .int br])), (xq, .inl (cq, 16, .inr (.inr (.inr (.inr (zq [none, none, none, none, none, none, none, none, none, none, none, none, none, none, none, none])))))), (va, .inl (ci, 1, .inl (zi [0])))]) hP hK hD hS hA hT hZ [0, 1, 2] [0, 1] rfl rfl (by decide) rfl [.ref xo, .int 101, .ref va])⟩ rfl rfl hl.1 rfl (lv_room (Nat.le_of_ble_eq_true rfl)) dL_ask_464 ⟨(Nat.le_of_ble_eq_true rfl), (Nat.le_of_ble_eq_true rfl)⟩) hS (fun q _ h => hFc q h) hFc (fun q _ h => hFc q h) (fun E ce q9 u t H locs ht hvm hpx hBX hz1 hk1 hS hce hcv hcl => ?_) (fun r_1239 u t H locs ht hvm w_1240 hB hz1 hk1 hS => ?_)
  · obtain ⟨hBX, hB⟩ := hBX
    obtain ⟨hP, hD, hK⟩ := q_join (D := D) (wc := [(xo, .inr (6, [.ref xg, .int gc, .ref xp, .int pc, .ref xq, .int qc, .ref r1, .ref r2, .ref r3, .ref r4, .ref se, .int ts, .int hou, .int dr, .int su, .int br])), (xq, .inl (cq, 16, .inr (.inr (.inr (.inr (zq [none, none, none, none, none, none, none, none, none, none, none, none, none, none, none, none])))))), (va, .inl (ci, 1, .inl (zi [0])))]) (wr := []) (w1 := [(xo, .inr (6, [.ref xg, .int gc, .ref xp, .int pc, .ref xq, .int qc, .ref r1, .ref r2, .ref r3, .ref r4, .ref se, .int ts, .int hou, .int dr, .int su, .int br])), (xq, .inl (cq, 16, .inr (.inr (.inr (.inr (zq [none, none, none, none, none, none, none, none, none, none, none, none, none, none, none, none]))))))]) (tyr := []) (ty1 := [(cq, .object "Gatherhouse$Piece"), (ci, .int)]) hP hD hK [0, 1, 2] [] [] rfl rfl (by decide) (by decide) rfl hFc hk1 ht hvm hB
    have hP : va_P D vwCl [(xo, .inr (6, [.ref xg, .int gc, .ref xp, .int pc, .ref xq, .int qc, .ref r1, .ref r2, .ref r3, .ref r4, .ref se, .int ts, .int hou, .int dr, .int su, .int br])), (xq, .inl (cq, 16, .inr (.inr (.inr (.inr (zq [none, none, none, none, none, none, none, none, none, none, none, none, none, none, none, none]))))))] H := hP
    have hD : va_D A [(xo, .inr (6, [.ref xg, .int gc, .ref xp, .int pc, .ref xq, .int qc, .ref r1, .ref r2, .ref r3, .ref r4, .ref se, .int ts, .int hou, .int dr, .int su, .int br])), (xq, .inl (cq, 16, .inr (.inr (.inr (.inr (zq [none, none, none, none, none, none, none, none, none, none, none, none, none, none, none, none]))))))] := hD
    have hK : va_K D vwCl [(cq, .object "Gatherhouse$Piece"), (ci, .int)] s := hK
    have hBX : (E = "java/lang/IndexOutOfBoundsException") := hBX
    rcases hBX with rfl
    refine z_catch (own := RL) (name := "java/lang/IndexOutOfBoundsException") (hh := ttL_ask) (x := ⟨461, 467, 468, 79⟩) hown hxe 19 rfl [] (by decide +kernel) (fun _ h => absurd h List.not_mem_nil) (by decide) (by decide) (hts (.classLink RL 79 "java/lang/IndexOutOfBoundsException") (by decide +kernel)) (va_Nw.use rfl (hT.2.2.1 ("java/lang/IndexOutOfBoundsException", "java/lang/IndexOutOfBoundsException") (by decide +kernel))) hce hcv hcl ?_
    refine W.eq (g2 := F0 m 468 ls [.ref q9]) rfl ?_
    refine lv_astore_n (lv' := [(3, .ref q9), (0, .ref xo), (1, .int 101), (2, .ref va)]) hx hb dL_ask_468 rfl hl (by decide) rfl (fun ls hl => ?_)
    refine lv_ldc (v := (-2000000001)) hx hb hown (hts (.constant RL 81 (-2000000001)) (by decide +kernel)) dL_ask_469 ?_
    refine vx_ret ?_
    exact W.iret (v := (-2000000001)) hx hb hr (fun t ht hW => ⟨⟨(-2000000001), (), rfl, rfl, q_RW_mk hP hK hD [0, 1] [0] rfl rfl (by decide) rfl ht hW.alike⟩, hS.F ht⟩) hS.2.2 dL_ask_471
  · exact w_1240.elim
theorem dL_asked_260 : decode cL_asked 260 = .ok (.aload_n 0, 1) := by decide +kernel
theorem dL_asked_261 : decode cL_asked 261 = .ok (.aload_n 2, 1) := by decide +kernel
theorem dL_asked_262 : decode cL_asked 262 = .ok (.iconst 0, 1) := by decide +kernel
theorem dL_asked_263 : decode cL_asked 263 = .ok (.iaload, 1) := by decide +kernel
theorem dL_asked_264 : decode cL_asked 264 = .ok (.invokevirtual 104, 3) := by decide +kernel
def wzEL_asked_rings_no : List Cond := [.code yL_asked cL_asked 3 (some .int), .methodLink RL 104 yX6_rings, .instanceMethod yX6_rings, .selects RX6 yX6_rings yX6_rings, .initialized RX6, .code yX6_rings cX6_rings 2 (some .int), .methodLink RX6 169 yX6_findPiece, .instanceMethod yX6_findPiece, .selects RX6 yX6_findPiece yX6_findPiece, .code yX6_findPiece cX6_findPiece 3 (some (.object "Gatherhouse$Piece")), .fieldLink RX6 30 "Gatherhouse" "pieces" "[LGatherhouse$Piece;", .classLink RX6 365 "java/lang/IndexOutOfBoundsException", .initialized "java/lang/IndexOutOfBoundsException"]
def wzL_asked_rings_no : List Cond := wzEL_asked_rings_no ++ (u_ws RX6 TX6 16 ++ ((vx_atS RX6 369 "java/lang/IndexOutOfBoundsException" ["java/lang/RuntimeException", "java/lang/Exception"]).filter goodWord))
theorem zgEL_asked_rings_no : wzEL_asked_rings_no.all goodWord = true := by decide +kernel
theorem zuL_asked_rings_no_X6 : ∀ w ∈ u_ws RX6 TX6 16, w ∈ wzL_asked_rings_no := (fun _ h => (List.mem_append_right _ (List.mem_append_left _ h)))
theorem ztL_asked_rings_no_X6_369 : ∀ w ∈ (vx_atS RX6 369 "java/lang/IndexOutOfBoundsException" ["java/lang/RuntimeException", "java/lang/Exception"]).filter goodWord, w ∈ wzL_asked_rings_no := (fun _ h => (List.mem_append_right _ (List.mem_append_right _ h)))
theorem gzL_asked_rings_no_X6_rings_no_104 : GoodIn wzL_asked_rings_no (wsV RL 104 RX6 yX6_rings wzX6_rings_no) := (goodIn_app (z_lift (goodIn_r _ [1, 2, 3, 4] rfl (by decide +kernel))) (goodIn_app (z_lift (goodIn_r wzEX6_rings_no [5, 6, 7, 8, 4, 9, 10, 11, 12] rfl zgEX6_rings_no)) (goodIn_app (goodIn_sub (fun _ h => (List.mem_append_right _ (List.mem_append_left _ h))) zgU_X6) (goodIn_sub (fun _ h => (List.mem_append_right _ (List.mem_append_right _ h))) zgV_X6_369))))
set_option maxHeartbeats 4000000 in
set_option maxRecDepth 100000 in
theorem zc_L_asked_rings_no (l : Launch) (hnt : l.stackTraces = false) (D : va_G) (G : Nat × Nat × (Nat → Int32)) (xo : Nat) (va : Nat) (xg : Nat) (gc : Int32) (xp : Nat) (pc : Int32) (xq : Nat) (qc : Int32) (r1 : Nat) (r2 : Nat) (r3 : Nat) (r4 : Nat) (se : Nat) (ts : Int32) (hou : Int32) (dr : Int32) (su : Int32) (br : Int32) (cq : ClassId) (ci : ClassId) (sz : Nat) : vx_Met l yL_asked wzL_asked_rings_no ({ frames := 8, cells := 1, slots := 6, locals := 125 }) (va_Pc [.ref xo, .int 110, .ref va] (p_RW D G [(cq, .object "Gatherhouse$Piece"), (ci, .int)] [(xo, .inr (6, [.ref xg, .int gc, .ref xp, .int pc, .ref xq, .int qc, .ref r1, .ref r2, .ref r3, .ref r4, .ref se, .int ts, .int hou, .int dr, .int su, .int br])), (xq, .inl (cq, 16, .inr (.inr (.inr (.inr (zq [none, none, none, none, none, none, none, none, none, none, none, none, none, none, none, none])))))), (va, .inl (ci, 1, .inl (zi [0])))] sz)) (va_Qi (fun (r : Int32) (u : Unit) => False) (fun (u : Unit) (t : State) => q_RW D [(cq, .object "Gatherhouse$Piece")] [(xo, .inr (6, [.ref xg, .int gc, .ref xp, .int pc, .ref xq, .int qc, .ref r1, .ref r2, .ref r3, .ref r4, .ref se, .int ts, .int hou, .int dr, .int su, .int br])), (xq, .inl (cq, 16, .inr (.inr (.inr (.inr (zq [none, none, none, none, none, none, none, none, none, none, none, none, none, none, none, none]))))))] (va_A [(xo, .inr (6, [.ref xg, .int gc, .ref xp, .int pc, .ref xq, .int qc, .ref r1, .ref r2, .ref r3, .ref r4, .ref se, .int ts, .int hou, .int dr, .int su, .int br])), (xq, .inl (cq, 16, .inr (.inr (.inr (.inr (zq [none, none, none, none, none, none, none, none, none, none, none, none, none, none, none, none])))))), (va, .inl (ci, 1, .inl (zi [0])))] sz) t) (va_A [(xo, .inr (6, [.ref xg, .int gc, .ref xp, .int pc, .ref xq, .int qc, .ref r1, .ref r2, .ref r3, .ref r4, .ref se, .int ts, .int hou, .int dr, .int su, .int br])), (xq, .inl (cq, 16, .inr (.inr (.inr (.inr (zq [none, none, none, none, none, none, none, none, none, none, none, none, none, none, none, none])))))), (va, .inl (ci, 1, .inl (zi [0])))] sz)) (vx_X (fun (_ : Unit) => True) (fun E (_ : Unit) (t : State) => ((E = "java/lang/IndexOutOfBoundsException")) ∧ q_RW D [(cq, .object "Gatherhouse$Piece"), (ci, .int)] [(xo, .inr (6, [.ref xg, .int gc, .ref xp, .int pc, .ref xq, .int qc, .ref r1, .ref r2, .ref r3, .ref r4, .ref se, .int ts, .int hou, .int dr, .int su, .int br])), (xq, .inl (cq, 16, .inr (.inr (.inr (.inr (zq [none, none, none, none, none, none, none, none, none, none, none, none, none, none, none, none]))))))] (va_A [(xo, .inr (6, [.ref xg, .int gc, .ref xp, .int pc, .ref xq, .int qc, .ref r1, .ref r2, .ref r3, .ref r4, .ref se, .int ts, .int hou, .int dr, .int su, .int br])), (xq, .inl (cq, 16, .inr (.inr (.inr (.inr (zq [none, none, none, none, none, none, none, none, none, none, none, none, none, none, none, none])))))), (va, .inl (ci, 1, .inl (zi [0])))] sz) t) (va_A [(xo, .inr (6, [.ref xg, .int gc, .ref xp, .int pc, .ref xq, .int qc, .ref r1, .ref r2, .ref r3, .ref r4, .ref se, .int ts, .int hou, .int dr, .int su, .int br])), (xq, .inl (cq, 16, .inr (.inr (.inr (.inr (zq [none, none, none, none, none, none, none, none, none, none, none, none, none, none, none, none])))))), (va, .inl (ci, 1, .inl (zi [0])))] sz)) 1 6 (va_A [(xo, .inr (6, [.ref xg, .int gc, .ref xp, .int pc, .ref xq, .int qc, .ref r1, .ref r2, .ref r3, .ref r4, .ref se, .int ts, .int hou, .int dr, .int su, .int br])), (xq, .inl (cq, 16, .inr (.inr (.inr (.inr (zq [none, none, none, none, none, none, none, none, none, none, none, none, none, none, none, none])))))), (va, .inl (ci, 1, .inl (zi [0])))] sz) := by
  refine vx_ofW (cc := cL_asked) (maxL := 3) (ret := (some .int)) (by decide) rfl ?_
  intro p e s m args below meth c s₁ B hml hxt hv
  obtain ⟨rfl, hsz, hP, hK, hD0, hT, hZ⟩ := hv
  have hx := B.exec
  have hb := B.bytes
  have hr := B.returns
  have hts := atoms_spec (ws := wzL_asked_rings_no) B.pre
  have hown : s.vm.findClass RL = some m.cls := findClass_of_methodNamed B.named
  have hlocks := B.notSynchronized
  subst hsz
  have hD := hD0.self (sz := s.heap.size)
  generalize hAe : va_A [(xo, .inr (6, [.ref xg, .int gc, .ref xp, .int pc, .ref xq, .int qc, .ref r1, .ref r2, .ref r3, .ref r4, .ref se, .int ts, .int hou, .int dr, .int su, .int br])), (xq, .inl (cq, 16, .inr (.inr (.inr (.inr (zq [none, none, none, none, none, none, none, none, none, none, none, none, none, none, none, none])))))), (va, .inl (ci, 1, .inl (zi [0])))] s.heap.size = A at hD hZ ⊢
  have hA : ∀ q : Nat, s.heap.size ≤ q → A q := fun q h => by rw [← hAe]; exact Or.inr h
  have hS : va_S A s.heap s.heap [] := va_S.rf
  have hl := lv_entry ([.ref xo, .int 110, .ref va]) (n := 3) (Nat.le_of_ble_eq_true rfl)
  rw [lg_entry_eq]
  generalize (lg_sl ([.ref xo, .int 110, .ref va]) ++ List.replicate (3 - (lg_sl ([.ref xo, .int 110, .ref va])).length) Slot.unset).toArray = ls at hl ⊢
  have hl : lv_has ls 3 [(0, .ref xo), (1, .int 110), (2, .ref va)] := hl
  refine lv_iload_n hx hb dL_asked_0 rfl (lv_at hl 1 rfl) ?_
  refine lv_tableIn (off := 259) (tgt := 260) hx hb dL_asked_1 (by decide +kernel) (by decide +kernel) (by decide +kernel) (by decide) ?_
  refine lv_aload_n hx hb dL_asked_260 rfl (lv_at hl 0 rfl) ?_
  refine lv_aload_n hx hb dL_asked_261 rfl (lv_at hl 2 rfl) ?_
  refine lv_iconst (v := 0) hx hb dL_asked_262 (by decide) ?_
  refine va_iald (D := D) (cl := vwCl) hx hb hK hP 2 1 rfl rfl (vp_in_nI (n := 0) (N := 1) (by decide) (by decide)) dL_asked_263 ?_
  refine W.eq (g2 := F0 m 264 ls [.int 0, .ref xo]) rfl ?_
  have hFc := va_free (wc := [(xo, .inr (6, [.ref xg, .int gc, .ref xp, .int pc, .ref xq, .int qc, .ref r1, .ref r2, .ref r3, .ref r4, .ref se, .int ts, .int hou, .int dr, .int su, .int br])), (xq, .inl (cq, 16, .inr (.inr (.inr (.inr (zq [none, none, none, none, none, none, none, none, none, none, none, none, none, none, none, none]))))))]) hD hS hA [0, 1] rfl
  refine vx_calli (vx_runV (As := [.int 0]) (rest := []) ⟨hx, hb, hml, hown, hts⟩ (zc_X6_rings_no l hnt D G xo xg gc xp pc xq qc r1 r2 r3 r4 se ts hou dr su br cq s.heap.size) (cwV 1 hts gzL_asked_rings_no_X6_rings_no_104 rfl rfl rfl (by decide +kernel) ⟨(Nat.le_of_ble_eq_true rfl), (Nat.le_of_ble_eq_true rfl)⟩) ⟨p_RW_blind, va_recv hK hP (ci := 6) (q0 := 0) rfl rfl, (p_RW_at (tc := [(cq, .object "Gatherhouse$Piece")]) (wc := [(xo, .inr (6, [.ref xg, .int gc, .ref xp, .int pc, .ref xq, .int qc, .ref r1, .ref r2, .ref r3, .ref r4, .ref se, .int ts, .int hou, .int dr, .int su, .int br])), (xq, .inl (cq, 16, .inr (.inr (.inr (.inr (zq [none, none, none, none, none, none, none, none, none, none, none, none, none, none, none, none]))))))]) hP hK hD hS hA hT hZ [0, 1] [0] rfl rfl (by decide) rfl [.ref xo, .int 0])⟩ rfl rfl hl.1 rfl (lv_room (Nat.le_of_ble_eq_true rfl)) dL_asked_264 ⟨(Nat.le_of_ble_eq_true rfl), (Nat.le_of_ble_eq_true rfl)⟩) hS (fun q _ h => hFc q h) hFc (fun q _ h => hFc q h) (fun E ce q9 u t H locs ht hvm hpx hBX hz1 hk1 hS hce hcv hcl => ?_) (fun r_1241 u t H locs ht hvm w_1242 hB hz1 hk1 hS => ?_)
  · obtain ⟨hBX, hB⟩ := hBX
    obtain ⟨hP, hD, hK⟩ := q_join (D := D) (wc := [(xo, .inr (6, [.ref xg, .int gc, .ref xp, .int pc, .ref xq, .int qc, .ref r1, .ref r2, .ref r3, .ref r4, .ref se, .int ts, .int hou, .int dr, .int su, .int br])), (xq, .inl (cq, 16, .inr (.inr (.inr (.inr (zq [none, none, none, none, none, none, none, none, none, none, none, none, none, none, none, none]))))))]) (wr := [(va, .inl (ci, 1, .inl (zi [0])))]) (w1 := [(xo, .inr (6, [.ref xg, .int gc, .ref xp, .int pc, .ref xq, .int qc, .ref r1, .ref r2, .ref r3, .ref r4, .ref se, .int ts, .int hou, .int dr, .int su, .int br])), (xq, .inl (cq, 16, .inr (.inr (.inr (.inr (zq [none, none, none, none, none, none, none, none, none, none, none, none, none, none, none, none]))))))]) (tyr := [(ci, .int)]) (ty1 := [(cq, .object "Gatherhouse$Piece")]) hP hD hK [0, 1] [2] [1] rfl rfl (by decide) (by decide) rfl hFc hk1 ht hvm hB
    have hP : va_P D vwCl [(va, .inl (ci, 1, .inl (zi [0]))), (xo, .inr (6, [.ref xg, .int gc, .ref xp, .int pc, .ref xq, .int qc, .ref r1, .ref r2, .ref r3, .ref r4, .ref se, .int ts, .int hou, .int dr, .int su, .int br])), (xq, .inl (cq, 16, .inr (.inr (.inr (.inr (zq [none, none, none, none, none, none, none, none, none, none, none, none, none, none, none, none]))))))] H := hP
    have hD : va_D A [(va, .inl (ci, 1, .inl (zi [0]))), (xo, .inr (6, [.ref xg, .int gc, .ref xp, .int pc, .ref xq, .int qc, .ref r1, .ref r2, .ref r3, .ref r4, .ref se, .int ts, .int hou, .int dr, .int su, .int br])), (xq, .inl (cq, 16, .inr (.inr (.inr (.inr (zq [none, none, none, none, none, none, none, none, none, none, none, none, none, none, none, none]))))))] := hD
    have hK : va_K D vwCl [(ci, .int), (cq, .object "Gatherhouse$Piece")] s := hK
    have hBX : (E = "java/lang/IndexOutOfBoundsException") := hBX
    rcases hBX with rfl
    exact vx_out (fun x h => (hxt x h).elim) hlocks hce hcv hcl (fun t ht hW9 => ⟨(), trivial, ⟨rfl, q_RW_mk hP hK hD [1, 2] [1, 0] rfl rfl (by decide) rfl ht hW9⟩, hS.F ht⟩) hS.2.2 (Nat.le_of_ble_eq_true rfl) (Nat.le_of_ble_eq_true rfl)
  · exact w_1242.elim
def wzEL_ask_rings_no : List Cond := [.codeWith yL_ask cL_ask 4 (some .int) ttL_ask, .methodLink RL 73 yL_asked, .static yL_asked, .initialized RL, .code yL_asked cL_asked 3 (some .int), .methodLink RL 104 yX6_rings, .instanceMethod yX6_rings, .selects RX6 yX6_rings yX6_rings, .initialized RX6, .code yX6_rings cX6_rings 2 (some .int), .methodLink RX6 169 yX6_findPiece, .instanceMethod yX6_findPiece, .selects RX6 yX6_findPiece yX6_findPiece, .code yX6_findPiece cX6_findPiece 3 (some (.object "Gatherhouse$Piece")), .fieldLink RX6 30 "Gatherhouse" "pieces" "[LGatherhouse$Piece;", .classLink RX6 365 "java/lang/IndexOutOfBoundsException", .initialized "java/lang/IndexOutOfBoundsException", .classLink RL 79 "java/lang/IndexOutOfBoundsException", .constant RL 81 (-2000000001)]
def wzL_ask_rings_no : List Cond := wzEL_ask_rings_no ++ (u_ws RX6 TX6 16 ++ ((vx_atS RX6 369 "java/lang/IndexOutOfBoundsException" ["java/lang/RuntimeException", "java/lang/Exception"]).filter goodWord))
theorem zgEL_ask_rings_no : wzEL_ask_rings_no.all goodWord = true := by decide +kernel
theorem zuL_ask_rings_no_X6 : ∀ w ∈ u_ws RX6 TX6 16, w ∈ wzL_ask_rings_no := (fun _ h => (List.mem_append_right _ (List.mem_append_left _ h)))
theorem ztL_ask_rings_no_X6_369 : ∀ w ∈ (vx_atS RX6 369 "java/lang/IndexOutOfBoundsException" ["java/lang/RuntimeException", "java/lang/Exception"]).filter goodWord, w ∈ wzL_ask_rings_no := (fun _ h => (List.mem_append_right _ (List.mem_append_right _ h)))
theorem gzL_ask_rings_no_L_asked_rings_no_73 : GoodIn wzL_ask_rings_no (va_wsS RL 73 yL_asked wzL_asked_rings_no) := (goodIn_app (z_lift (goodIn_r _ [1, 2, 3] rfl (by decide +kernel))) (goodIn_app (z_lift (goodIn_r wzEL_asked_rings_no [4, 5, 6, 7, 8, 9, 10, 11, 12, 13, 14, 15, 16] rfl zgEL_asked_rings_no)) (goodIn_app (goodIn_sub (fun _ h => (List.mem_append_right _ (List.mem_append_left _ h))) zgU_X6) (goodIn_sub (fun _ h => (List.mem_append_right _ (List.mem_append_right _ h))) zgV_X6_369))))
set_option maxHeartbeats 4000000 in
set_option maxRecDepth 100000 in
theorem zc_L_ask_rings_no (l : Launch) (hnt : l.stackTraces = false) (D : va_G) (G : Nat × Nat × (Nat → Int32)) (xo : Nat) (va : Nat) (xg : Nat) (gc : Int32) (xp : Nat) (pc : Int32) (xq : Nat) (qc : Int32) (r1 : Nat) (r2 : Nat) (r3 : Nat) (r4 : Nat) (se : Nat) (ts : Int32) (hou : Int32) (dr : Int32) (su : Int32) (br : Int32) (cq : ClassId) (ci : ClassId) (sz : Nat) : vx_Met l yL_ask wzL_ask_rings_no ({ frames := 9, cells := 1, slots := 6, locals := 147 }) (va_Pc [.ref xo, .int 110, .ref va] (p_RW D G [(cq, .object "Gatherhouse$Piece"), (ci, .int)] [(xo, .inr (6, [.ref xg, .int gc, .ref xp, .int pc, .ref xq, .int qc, .ref r1, .ref r2, .ref r3, .ref r4, .ref se, .int ts, .int hou, .int dr, .int su, .int br])), (xq, .inl (cq, 16, .inr (.inr (.inr (.inr (zq [none, none, none, none, none, none, none, none, none, none, none, none, none, none, none, none])))))), (va, .inl (ci, 1, .inl (zi [0])))] sz)) (va_Qi (fun (r : Int32) (u : Unit) => r = (-2000000001)) (fun (u : Unit) (t : State) => q_RW D [(cq, .object "Gatherhouse$Piece")] [(xo, .inr (6, [.ref xg, .int gc, .ref xp, .int pc, .ref xq, .int qc, .ref r1, .ref r2, .ref r3, .ref r4, .ref se, .int ts, .int hou, .int dr, .int su, .int br])), (xq, .inl (cq, 16, .inr (.inr (.inr (.inr (zq [none, none, none, none, none, none, none, none, none, none, none, none, none, none, none, none]))))))] (va_A [(xo, .inr (6, [.ref xg, .int gc, .ref xp, .int pc, .ref xq, .int qc, .ref r1, .ref r2, .ref r3, .ref r4, .ref se, .int ts, .int hou, .int dr, .int su, .int br])), (xq, .inl (cq, 16, .inr (.inr (.inr (.inr (zq [none, none, none, none, none, none, none, none, none, none, none, none, none, none, none, none])))))), (va, .inl (ci, 1, .inl (zi [0])))] sz) t) (va_A [(xo, .inr (6, [.ref xg, .int gc, .ref xp, .int pc, .ref xq, .int qc, .ref r1, .ref r2, .ref r3, .ref r4, .ref se, .int ts, .int hou, .int dr, .int su, .int br])), (xq, .inl (cq, 16, .inr (.inr (.inr (.inr (zq [none, none, none, none, none, none, none, none, none, none, none, none, none, none, none, none])))))), (va, .inl (ci, 1, .inl (zi [0])))] sz)) (vx_X (fun (_ : Unit) => True) (fun E (_ : Unit) (_ : State) => False) (va_A [(xo, .inr (6, [.ref xg, .int gc, .ref xp, .int pc, .ref xq, .int qc, .ref r1, .ref r2, .ref r3, .ref r4, .ref se, .int ts, .int hou, .int dr, .int su, .int br])), (xq, .inl (cq, 16, .inr (.inr (.inr (.inr (zq [none, none, none, none, none, none, none, none, none, none, none, none, none, none, none, none])))))), (va, .inl (ci, 1, .inl (zi [0])))] sz)) 1 6 (va_A [(xo, .inr (6, [.ref xg, .int gc, .ref xp, .int pc, .ref xq, .int qc, .ref r1, .ref r2, .ref r3, .ref r4, .ref se, .int ts, .int hou, .int dr, .int su, .int br])), (xq, .inl (cq, 16, .inr (.inr (.inr (.inr (zq [none, none, none, none, none, none, none, none, none, none, none, none, none, none, none, none])))))), (va, .inl (ci, 1, .inl (zi [0])))] sz) := by
  refine vx_ofWH (cc := cL_ask) (maxL := 4) (ret := (some .int)) (by decide) rfl ?_
  intro p e s m args below meth c s₁ B hml hv
  obtain ⟨rfl, hsz, hP, hK, hD0, hT, hZ⟩ := hv
  have hx := B.exec
  have hb := B.bytes
  have hr := B.returns
  have hts := atoms_spec (ws := wzL_ask_rings_no) B.pre
  have hown : s.vm.findClass RL = some m.cls := findClass_of_methodNamed B.named
  have hlocks := B.notSynchronized
  have hxe := vx_table (x := yL_ask) B (hts _ List.mem_cons_self)
  subst hsz
  have hD := hD0.self (sz := s.heap.size)
  generalize hAe : va_A [(xo, .inr (6, [.ref xg, .int gc, .ref xp, .int pc, .ref xq, .int qc, .ref r1, .ref r2, .ref r3, .ref r4, .ref se, .int ts, .int hou, .int dr, .int su, .int br])), (xq, .inl (cq, 16, .inr (.inr (.inr (.inr (zq [none, none, none, none, none, none, none, none, none, none, none, none, none, none, none, none])))))), (va, .inl (ci, 1, .inl (zi [0])))] s.heap.size = A at hD hZ ⊢
  have hA : ∀ q : Nat, s.heap.size ≤ q → A q := fun q h => by rw [← hAe]; exact Or.inr h
  have hS : va_S A s.heap s.heap [] := va_S.rf
  have hl := lv_entry ([.ref xo, .int 110, .ref va]) (n := 4) (Nat.le_of_ble_eq_true rfl)
  rw [lg_entry_eq]
  generalize (lg_sl ([.ref xo, .int 110, .ref va]) ++ List.replicate (4 - (lg_sl ([.ref xo, .int 110, .ref va])).length) Slot.unset).toArray = ls at hl ⊢
  have hl : lv_has ls 4 [(0, .ref xo), (1, .int 110), (2, .ref va)] := hl
  refine lv_iload_n hx hb dL_ask_0 rfl (lv_at hl 1 rfl) ?_
  refine lv_tableIn (off := 460) (tgt := 461) hx hb dL_ask_1 (by decide +kernel) (by decide +kernel) (by decide +kernel) (by decide) ?_
  refine lv_aload_n hx hb dL_ask_461 rfl (lv_at hl 0 rfl) ?_
  refine lv_iload_n hx hb dL_ask_462 rfl (lv_at hl 1 rfl) ?_
  refine lv_aload_n hx hb dL_ask_463 rfl (lv_at hl 2 rfl) ?_
  have hFc := va_free (wc := [(xo, .inr (6, [.ref xg, .int gc, .ref xp, .int pc, .ref xq, .int qc, .ref r1, .ref r2, .ref r3, .ref r4, .ref se, .int ts, .int hou, .int dr, .int su, .int br])), (xq, .inl (cq, 16, .inr (.inr (.inr (.inr (zq [none, none, none, none, none, none, none, none, none, none, none, none, none, none, none, none])))))), (va, .inl (ci, 1, .inl (zi [0])))]) hD hS hA [0, 1, 2] rfl
  refine vx_calli (vx_runS (As := [.ref xo, .int 110, .ref va]) (rest := []) ⟨hx, hb, hml, hown, hts⟩ (zc_L_asked_rings_no l hnt D G xo va xg gc xp pc xq qc r1 r2 r3 r4 se ts hou dr su br cq ci s.heap.size) (cwS 3 hts gzL_ask_rings_no_L_asked_rings_no_73 rfl rfl rfl (by decide +kernel) ⟨(Nat.le_of_ble_eq_true rfl), (Nat.le_of_ble_eq_true rfl)⟩) ⟨p_RW_blind, (p_RW_at (tc := [(cq, .object "Gatherhouse$Piece"), (ci, .int)]) (wc := [(xo, .inr (6, [.ref xg, .int gc, .ref xp, .int pc, .ref xq, .int qc, .ref r1, .ref r2, .ref r3, .ref r4, .ref se, .int ts, .int hou, .int dr, .int su, .int br])), (xq, .inl (cq, 16, .inr (.inr (.inr (.inr (zq [none, none, none, none, none, none, none, none, none, none, none, none, none, none, none, none])))))), (va, .inl (ci, 1, .inl (zi [0])))]) hP hK hD hS hA hT hZ [0, 1, 2] [0, 1] rfl rfl (by decide) rfl [.ref xo, .int 110, .ref va])⟩ rfl rfl hl.1 rfl (lv_room (Nat.le_of_ble_eq_true rfl)) dL_ask_464 ⟨(Nat.le_of_ble_eq_true rfl), (Nat.le_of_ble_eq_true rfl)⟩) hS (fun q _ h => hFc q h) hFc (fun q _ h => hFc q h) (fun E ce q9 u t H locs ht hvm hpx hBX hz1 hk1 hS hce hcv hcl => ?_) (fun r_1243 u t H locs ht hvm w_1244 hB hz1 hk1 hS => ?_)
  · obtain ⟨hBX, hB⟩ := hBX
    obtain ⟨hP, hD, hK⟩ := q_join (D := D) (wc := [(xo, .inr (6, [.ref xg, .int gc, .ref xp, .int pc, .ref xq, .int qc, .ref r1, .ref r2, .ref r3, .ref r4, .ref se, .int ts, .int hou, .int dr, .int su, .int br])), (xq, .inl (cq, 16, .inr (.inr (.inr (.inr (zq [none, none, none, none, none, none, none, none, none, none, none, none, none, none, none, none])))))), (va, .inl (ci, 1, .inl (zi [0])))]) (wr := []) (w1 := [(xo, .inr (6, [.ref xg, .int gc, .ref xp, .int pc, .ref xq, .int qc, .ref r1, .ref r2, .ref r3, .ref r4, .ref se, .int ts, .int hou, .int dr, .int su, .int br])), (xq, .inl (cq, 16, .inr (.inr (.inr (.inr (zq [none, none, none, none, none, none, none, none, none, none, none, none, none, none, none, none]))))))]) (tyr := []) (ty1 := [(cq, .object "Gatherhouse$Piece"), (ci, .int)]) hP hD hK [0, 1, 2] [] [] rfl rfl (by decide) (by decide) rfl hFc hk1 ht hvm hB
    have hP : va_P D vwCl [(xo, .inr (6, [.ref xg, .int gc, .ref xp, .int pc, .ref xq, .int qc, .ref r1, .ref r2, .ref r3, .ref r4, .ref se, .int ts, .int hou, .int dr, .int su, .int br])), (xq, .inl (cq, 16, .inr (.inr (.inr (.inr (zq [none, none, none, none, none, none, none, none, none, none, none, none, none, none, none, none]))))))] H := hP
    have hD : va_D A [(xo, .inr (6, [.ref xg, .int gc, .ref xp, .int pc, .ref xq, .int qc, .ref r1, .ref r2, .ref r3, .ref r4, .ref se, .int ts, .int hou, .int dr, .int su, .int br])), (xq, .inl (cq, 16, .inr (.inr (.inr (.inr (zq [none, none, none, none, none, none, none, none, none, none, none, none, none, none, none, none]))))))] := hD
    have hK : va_K D vwCl [(cq, .object "Gatherhouse$Piece"), (ci, .int)] s := hK
    have hBX : (E = "java/lang/IndexOutOfBoundsException") := hBX
    rcases hBX with rfl
    refine z_catch (own := RL) (name := "java/lang/IndexOutOfBoundsException") (hh := ttL_ask) (x := ⟨461, 467, 468, 79⟩) hown hxe 19 rfl [] (by decide +kernel) (fun _ h => absurd h List.not_mem_nil) (by decide) (by decide) (hts (.classLink RL 79 "java/lang/IndexOutOfBoundsException") (by decide +kernel)) (va_Nw.use rfl (hT.2.2.1 ("java/lang/IndexOutOfBoundsException", "java/lang/IndexOutOfBoundsException") (by decide +kernel))) hce hcv hcl ?_
    refine W.eq (g2 := F0 m 468 ls [.ref q9]) rfl ?_
    refine lv_astore_n (lv' := [(3, .ref q9), (0, .ref xo), (1, .int 110), (2, .ref va)]) hx hb dL_ask_468 rfl hl (by decide) rfl (fun ls hl => ?_)
    refine lv_ldc (v := (-2000000001)) hx hb hown (hts (.constant RL 81 (-2000000001)) (by decide +kernel)) dL_ask_469 ?_
    refine vx_ret ?_
    exact W.iret (v := (-2000000001)) hx hb hr (fun t ht hW => ⟨⟨(-2000000001), (), rfl, rfl, q_RW_mk hP hK hD [0, 1] [0] rfl rfl (by decide) rfl ht hW.alike⟩, hS.F ht⟩) hS.2.2 dL_ask_471
  · exact w_1244.elim
theorem dL_asked_268 : decode cL_asked 268 = .ok (.aload_n 0, 1) := by decide +kernel
theorem dL_asked_269 : decode cL_asked 269 = .ok (.aload_n 2, 1) := by decide +kernel
theorem dL_asked_270 : decode cL_asked 270 = .ok (.iconst 0, 1) := by decide +kernel
theorem dL_asked_271 : decode cL_asked 271 = .ok (.iaload, 1) := by decide +kernel
theorem dL_asked_272 : decode cL_asked 272 = .ok (.aload_n 2, 1) := by decide +kernel
theorem dL_asked_273 : decode cL_asked 273 = .ok (.iconst 1, 1) := by decide +kernel
theorem dL_asked_274 : decode cL_asked 274 = .ok (.iaload, 1) := by decide +kernel
theorem dL_asked_275 : decode cL_asked 275 = .ok (.aload_n 2, 1) := by decide +kernel
theorem dL_asked_276 : decode cL_asked 276 = .ok (.iconst 2, 1) := by decide +kernel
theorem dL_asked_277 : decode cL_asked 277 = .ok (.iaload, 1) := by decide +kernel
theorem dL_asked_278 : decode cL_asked 278 = .ok (.i2c, 1) := by decide +kernel
theorem dL_asked_279 : decode cL_asked 279 = .ok (.invokevirtual 107, 3) := by decide +kernel
def wzEL_asked_ring_no : List Cond := [.code yL_asked cL_asked 3 (some .int), .methodLink RL 107 yX6_ring, .instanceMethod yX6_ring, .selects RX6 yX6_ring yX6_ring, .initialized RX6, .code yX6_ring cX6_ring 5 (some .int), .methodLink RX6 169 yX6_findPiece, .instanceMethod yX6_findPiece, .selects RX6 yX6_findPiece yX6_findPiece, .code yX6_findPiece cX6_findPiece 3 (some (.object "Gatherhouse$Piece")), .fieldLink RX6 30 "Gatherhouse" "pieces" "[LGatherhouse$Piece;", .classLink RX6 365 "java/lang/IndexOutOfBoundsException", .initialized "java/lang/IndexOutOfBoundsException"]
def wzL_asked_ring_no : List Cond := wzEL_asked_ring_no ++ (u_ws RX6 TX6 16 ++ ((vx_atS RX6 369 "java/lang/IndexOutOfBoundsException" ["java/lang/RuntimeException", "java/lang/Exception"]).filter goodWord))
theorem zgEL_asked_ring_no : wzEL_asked_ring_no.all goodWord = true := by decide +kernel
theorem zuL_asked_ring_no_X6 : ∀ w ∈ u_ws RX6 TX6 16, w ∈ wzL_asked_ring_no := (fun _ h => (List.mem_append_right _ (List.mem_append_left _ h)))
theorem ztL_asked_ring_no_X6_369 : ∀ w ∈ (vx_atS RX6 369 "java/lang/IndexOutOfBoundsException" ["java/lang/RuntimeException", "java/lang/Exception"]).filter goodWord, w ∈ wzL_asked_ring_no := (fun _ h => (List.mem_append_right _ (List.mem_append_right _ h)))
theorem gzL_asked_ring_no_X6_ring_no_107 : GoodIn wzL_asked_ring_no (wsV RL 107 RX6 yX6_ring wzX6_ring_no) := (goodIn_app (z_lift (goodIn_r _ [1, 2, 3, 4] rfl (by decide +kernel))) (goodIn_app (z_lift (goodIn_r wzEX6_ring_no [5, 6, 7, 8, 4, 9, 10, 11, 12] rfl zgEX6_ring_no)) (goodIn_app (goodIn_sub (fun _ h => (List.mem_append_right _ (List.mem_append_left _ h))) zgU_X6) (goodIn_sub (fun _ h => (List.mem_append_right _ (List.mem_append_right _ h))) zgV_X6_369))))
set_option maxHeartbeats 4000000 in
set_option maxRecDepth 100000 in
theorem zc_L_asked_ring_no (l : Launch) (hnt : l.stackTraces = false) (D : va_G) (G : Nat × Nat × (Nat → Int32)) (xo : Nat) (va : Nat) (xg : Nat) (gc : Int32) (xp : Nat) (pc : Int32) (xq : Nat) (qc : Int32) (r1 : Nat) (r2 : Nat) (r3 : Nat) (r4 : Nat) (se : Nat) (ts : Int32) (hou : Int32) (dr : Int32) (su : Int32) (br : Int32) (cq : ClassId) (ci : ClassId) (sz : Nat) : vx_Met l yL_asked wzL_asked_ring_no ({ frames := 8, cells := 1, slots := 6, locals := 128 }) (va_Pc [.ref xo, .int 114, .ref va] (p_RW D G [(cq, .object "Gatherhouse$Piece"), (ci, .int)] [(xo, .inr (6, [.ref xg, .int gc, .ref xp, .int pc, .ref xq, .int qc, .ref r1, .ref r2, .ref r3, .ref r4, .ref se, .int ts, .int hou, .int dr, .int su, .int br])), (xq, .inl (cq, 16, .inr (.inr (.inr (.inr (zq [none, none, none, none, none, none, none, none, none, none, none, none, none, none, none, none])))))), (va, .inl (ci, 3, .inl (zi [0, 0, 120])))] sz)) (va_Qi (fun (r : Int32) (u : Unit) => False) (fun (u : Unit) (t : State) => q_RW D [(cq, .object "Gatherhouse$Piece")] [(xo, .inr (6, [.ref xg, .int gc, .ref xp, .int pc, .ref xq, .int qc, .ref r1, .ref r2, .ref r3, .ref r4, .ref se, .int ts, .int hou, .int dr, .int su, .int br])), (xq, .inl (cq, 16, .inr (.inr (.inr (.inr (zq [none, none, none, none, none, none, none, none, none, none, none, none, none, none, none, none]))))))] (va_A [(xo, .inr (6, [.ref xg, .int gc, .ref xp, .int pc, .ref xq, .int qc, .ref r1, .ref r2, .ref r3, .ref r4, .ref se, .int ts, .int hou, .int dr, .int su, .int br])), (xq, .inl (cq, 16, .inr (.inr (.inr (.inr (zq [none, none, none, none, none, none, none, none, none, none, none, none, none, none, none, none])))))), (va, .inl (ci, 3, .inl (zi [0, 0, 120])))] sz) t) (va_A [(xo, .inr (6, [.ref xg, .int gc, .ref xp, .int pc, .ref xq, .int qc, .ref r1, .ref r2, .ref r3, .ref r4, .ref se, .int ts, .int hou, .int dr, .int su, .int br])), (xq, .inl (cq, 16, .inr (.inr (.inr (.inr (zq [none, none, none, none, none, none, none, none, none, none, none, none, none, none, none, none])))))), (va, .inl (ci, 3, .inl (zi [0, 0, 120])))] sz)) (vx_X (fun (_ : Unit) => True) (fun E (_ : Unit) (t : State) => ((E = "java/lang/IndexOutOfBoundsException")) ∧ q_RW D [(cq, .object "Gatherhouse$Piece"), (ci, .int)] [(xo, .inr (6, [.ref xg, .int gc, .ref xp, .int pc, .ref xq, .int qc, .ref r1, .ref r2, .ref r3, .ref r4, .ref se, .int ts, .int hou, .int dr, .int su, .int br])), (xq, .inl (cq, 16, .inr (.inr (.inr (.inr (zq [none, none, none, none, none, none, none, none, none, none, none, none, none, none, none, none]))))))] (va_A [(xo, .inr (6, [.ref xg, .int gc, .ref xp, .int pc, .ref xq, .int qc, .ref r1, .ref r2, .ref r3, .ref r4, .ref se, .int ts, .int hou, .int dr, .int su, .int br])), (xq, .inl (cq, 16, .inr (.inr (.inr (.inr (zq [none, none, none, none, none, none, none, none, none, none, none, none, none, none, none, none])))))), (va, .inl (ci, 3, .inl (zi [0, 0, 120])))] sz) t) (va_A [(xo, .inr (6, [.ref xg, .int gc, .ref xp, .int pc, .ref xq, .int qc, .ref r1, .ref r2, .ref r3, .ref r4, .ref se, .int ts, .int hou, .int dr, .int su, .int br])), (xq, .inl (cq, 16, .inr (.inr (.inr (.inr (zq [none, none, none, none, none, none, none, none, none, none, none, none, none, none, none, none])))))), (va, .inl (ci, 3, .inl (zi [0, 0, 120])))] sz)) 1 6 (va_A [(xo, .inr (6, [.ref xg, .int gc, .ref xp, .int pc, .ref xq, .int qc, .ref r1, .ref r2, .ref r3, .ref r4, .ref se, .int ts, .int hou, .int dr, .int su, .int br])), (xq, .inl (cq, 16, .inr (.inr (.inr (.inr (zq [none, none, none, none, none, none, none, none, none, none, none, none, none, none, none, none])))))), (va, .inl (ci, 3, .inl (zi [0, 0, 120])))] sz) := by
  refine vx_ofW (cc := cL_asked) (maxL := 3) (ret := (some .int)) (by decide) rfl ?_
  intro p e s m args below meth c s₁ B hml hxt hv
  obtain ⟨rfl, hsz, hP, hK, hD0, hT, hZ⟩ := hv
  have hx := B.exec
  have hb := B.bytes
  have hr := B.returns
  have hts := atoms_spec (ws := wzL_asked_ring_no) B.pre
  have hown : s.vm.findClass RL = some m.cls := findClass_of_methodNamed B.named
  have hlocks := B.notSynchronized
  subst hsz
  have hD := hD0.self (sz := s.heap.size)
  generalize hAe : va_A [(xo, .inr (6, [.ref xg, .int gc, .ref xp, .int pc, .ref xq, .int qc, .ref r1, .ref r2, .ref r3, .ref r4, .ref se, .int ts, .int hou, .int dr, .int su, .int br])), (xq, .inl (cq, 16, .inr (.inr (.inr (.inr (zq [none, none, none, none, none, none, none, none, none, none, none, none, none, none, none, none])))))), (va, .inl (ci, 3, .inl (zi [0, 0, 120])))] s.heap.size = A at hD hZ ⊢
  have hA : ∀ q : Nat, s.heap.size ≤ q → A q := fun q h => by rw [← hAe]; exact Or.inr h
  have hS : va_S A s.heap s.heap [] := va_S.rf
  have hl := lv_entry ([.ref xo, .int 114, .ref va]) (n := 3) (Nat.le_of_ble_eq_true rfl)
  rw [lg_entry_eq]
  generalize (lg_sl ([.ref xo, .int 114, .ref va]) ++ List.replicate (3 - (lg_sl ([.ref xo, .int 114, .ref va])).length) Slot.unset).toArray = ls at hl ⊢
  have hl : lv_has ls 3 [(0, .ref xo), (1, .int 114), (2, .ref va)] := hl
  refine lv_iload_n hx hb dL_asked_0 rfl (lv_at hl 1 rfl) ?_
  refine lv_tableIn (off := 267) (tgt := 268) hx hb dL_asked_1 (by decide +kernel) (by decide +kernel) (by decide +kernel) (by decide) ?_
  refine lv_aload_n hx hb dL_asked_268 rfl (lv_at hl 0 rfl) ?_
  refine lv_aload_n hx hb dL_asked_269 rfl (lv_at hl 2 rfl) ?_
  refine lv_iconst (v := 0) hx hb dL_asked_270 (by decide) ?_
  refine va_iald (D := D) (cl := vwCl) hx hb hK hP 2 1 rfl rfl (vp_in_nI (n := 0) (N := 3) (by decide) (by decide)) dL_asked_271 ?_
  refine W.eq (g2 := F0 m 272 ls [.int 0, .ref xo]) rfl ?_
  refine lv_aload_n hx hb dL_asked_272 rfl (lv_at hl 2 rfl) ?_
  refine lv_iconst (v := 1) hx hb dL_asked_273 (by decide) ?_
  refine va_iald (D := D) (cl := vwCl) hx hb hK hP 2 1 rfl rfl (vp_in_nI (n := 1) (N := 3) (by decide) (by decide)) dL_asked_274 ?_
  refine W.eq (g2 := F0 m 275 ls [.int 0, .int 0, .ref xo]) rfl ?_
  refine lv_aload_n hx hb dL_asked_275 rfl (lv_at hl 2 rfl) ?_
  refine lv_iconst (v := 2) hx hb dL_asked_276 (by decide) ?_
  refine va_iald (D := D) (cl := vwCl) hx hb hK hP 2 1 rfl rfl (vp_in_nI (n := 2) (N := 3) (by decide) (by decide)) dL_asked_277 ?_
  refine W.eq (g2 := F0 m 278 ls [.int 120, .int 0, .int 0, .ref xo]) rfl ?_
  refine lv_i2c (v := 120) hx hb dL_asked_278 (by decide +kernel) ?_
  have hFc := va_free (wc := [(xo, .inr (6, [.ref xg, .int gc, .ref xp, .int pc, .ref xq, .int qc, .ref r1, .ref r2, .ref r3, .ref r4, .ref se, .int ts, .int hou, .int dr, .int su, .int br])), (xq, .inl (cq, 16, .inr (.inr (.inr (.inr (zq [none, none, none, none, none, none, none, none, none, none, none, none, none, none, none, none]))))))]) hD hS hA [0, 1] rfl
  refine vx_calli (vx_runV (As := [.int 0, .int 0, .int 120]) (rest := []) ⟨hx, hb, hml, hown, hts⟩ (zc_X6_ring_no l hnt D G xo xg gc xp pc xq qc r1 r2 r3 r4 se ts hou dr su br cq s.heap.size) (cwV 3 hts gzL_asked_ring_no_X6_ring_no_107 rfl rfl rfl (by decide +kernel) ⟨(Nat.le_of_ble_eq_true rfl), (Nat.le_of_ble_eq_true rfl)⟩) ⟨p_RW_blind, va_recv hK hP (ci := 6) (q0 := 0) rfl rfl, (p_RW_at (tc := [(cq, .object "Gatherhouse$Piece")]) (wc := [(xo, .inr (6, [.ref xg, .int gc, .ref xp, .int pc, .ref xq, .int qc, .ref r1, .ref r2, .ref r3, .ref r4, .ref se, .int ts, .int hou, .int dr, .int su, .int br])), (xq, .inl (cq, 16, .inr (.inr (.inr (.inr (zq [none, none, none, none, none, none, none, none, none, none, none, none, none, none, none, none]))))))]) hP hK hD hS hA hT hZ [0, 1] [0] rfl rfl (by decide) rfl [.ref xo, .int 0, .int 0, .int 120])⟩ rfl rfl hl.1 rfl (lv_room (Nat.le_of_ble_eq_true rfl)) dL_asked_279 ⟨(Nat.le_of_ble_eq_true rfl), (Nat.le_of_ble_eq_true rfl)⟩) hS (fun q _ h => hFc q h) hFc (fun q _ h => hFc q h) (fun E ce q9 u t H locs ht hvm hpx hBX hz1 hk1 hS hce hcv hcl => ?_) (fun r_1245 u t H locs ht hvm w_1246 hB hz1 hk1 hS => ?_)
  · obtain ⟨hBX, hB⟩ := hBX
    obtain ⟨hP, hD, hK⟩ := q_join (D := D) (wc := [(xo, .inr (6, [.ref xg, .int gc, .ref xp, .int pc, .ref xq, .int qc, .ref r1, .ref r2, .ref r3, .ref r4, .ref se, .int ts, .int hou, .int dr, .int su, .int br])), (xq, .inl (cq, 16, .inr (.inr (.inr (.inr (zq [none, none, none, none, none, none, none, none, none, none, none, none, none, none, none, none]))))))]) (wr := [(va, .inl (ci, 3, .inl (zi [0, 0, 120])))]) (w1 := [(xo, .inr (6, [.ref xg, .int gc, .ref xp, .int pc, .ref xq, .int qc, .ref r1, .ref r2, .ref r3, .ref r4, .ref se, .int ts, .int hou, .int dr, .int su, .int br])), (xq, .inl (cq, 16, .inr (.inr (.inr (.inr (zq [none, none, none, none, none, none, none, none, none, none, none, none, none, none, none, none]))))))]) (tyr := [(ci, .int)]) (ty1 := [(cq, .object "Gatherhouse$Piece")]) hP hD hK [0, 1] [2] [1] rfl rfl (by decide) (by decide) rfl hFc hk1 ht hvm hB
    have hP : va_P D vwCl [(va, .inl (ci, 3, .inl (zi [0, 0, 120]))), (xo, .inr (6, [.ref xg, .int gc, .ref xp, .int pc, .ref xq, .int qc, .ref r1, .ref r2, .ref r3, .ref r4, .ref se, .int ts, .int hou, .int dr, .int su, .int br])), (xq, .inl (cq, 16, .inr (.inr (.inr (.inr (zq [none, none, none, none, none, none, none, none, none, none, none, none, none, none, none, none]))))))] H := hP
    have hD : va_D A [(va, .inl (ci, 3, .inl (zi [0, 0, 120]))), (xo, .inr (6, [.ref xg, .int gc, .ref xp, .int pc, .ref xq, .int qc, .ref r1, .ref r2, .ref r3, .ref r4, .ref se, .int ts, .int hou, .int dr, .int su, .int br])), (xq, .inl (cq, 16, .inr (.inr (.inr (.inr (zq [none, none, none, none, none, none, none, none, none, none, none, none, none, none, none, none]))))))] := hD
    have hK : va_K D vwCl [(ci, .int), (cq, .object "Gatherhouse$Piece")] s := hK
    have hBX : (E = "java/lang/IndexOutOfBoundsException") := hBX
    rcases hBX with rfl
    exact vx_out (fun x h => (hxt x h).elim) hlocks hce hcv hcl (fun t ht hW9 => ⟨(), trivial, ⟨rfl, q_RW_mk hP hK hD [1, 2] [1, 0] rfl rfl (by decide) rfl ht hW9⟩, hS.F ht⟩) hS.2.2 (Nat.le_of_ble_eq_true rfl) (Nat.le_of_ble_eq_true rfl)
  · exact w_1246.elim
def wzEL_ask_ring_no : List Cond := [.codeWith yL_ask cL_ask 4 (some .int) ttL_ask, .methodLink RL 73 yL_asked, .static yL_asked, .initialized RL, .code yL_asked cL_asked 3 (some .int), .methodLink RL 107 yX6_ring, .instanceMethod yX6_ring, .selects RX6 yX6_ring yX6_ring, .initialized RX6, .code yX6_ring cX6_ring 5 (some .int), .methodLink RX6 169 yX6_findPiece, .instanceMethod yX6_findPiece, .selects RX6 yX6_findPiece yX6_findPiece, .code yX6_findPiece cX6_findPiece 3 (some (.object "Gatherhouse$Piece")), .fieldLink RX6 30 "Gatherhouse" "pieces" "[LGatherhouse$Piece;", .classLink RX6 365 "java/lang/IndexOutOfBoundsException", .initialized "java/lang/IndexOutOfBoundsException", .classLink RL 79 "java/lang/IndexOutOfBoundsException", .constant RL 81 (-2000000001)]
def wzL_ask_ring_no : List Cond := wzEL_ask_ring_no ++ (u_ws RX6 TX6 16 ++ ((vx_atS RX6 369 "java/lang/IndexOutOfBoundsException" ["java/lang/RuntimeException", "java/lang/Exception"]).filter goodWord))
theorem zgEL_ask_ring_no : wzEL_ask_ring_no.all goodWord = true := by decide +kernel
theorem zuL_ask_ring_no_X6 : ∀ w ∈ u_ws RX6 TX6 16, w ∈ wzL_ask_ring_no := (fun _ h => (List.mem_append_right _ (List.mem_append_left _ h)))
theorem ztL_ask_ring_no_X6_369 : ∀ w ∈ (vx_atS RX6 369 "java/lang/IndexOutOfBoundsException" ["java/lang/RuntimeException", "java/lang/Exception"]).filter goodWord, w ∈ wzL_ask_ring_no := (fun _ h => (List.mem_append_right _ (List.mem_append_right _ h)))
theorem gzL_ask_ring_no_L_asked_ring_no_73 : GoodIn wzL_ask_ring_no (va_wsS RL 73 yL_asked wzL_asked_ring_no) := (goodIn_app (z_lift (goodIn_r _ [1, 2, 3] rfl (by decide +kernel))) (goodIn_app (z_lift (goodIn_r wzEL_asked_ring_no [4, 5, 6, 7, 8, 9, 10, 11, 12, 13, 14, 15, 16] rfl zgEL_asked_ring_no)) (goodIn_app (goodIn_sub (fun _ h => (List.mem_append_right _ (List.mem_append_left _ h))) zgU_X6) (goodIn_sub (fun _ h => (List.mem_append_right _ (List.mem_append_right _ h))) zgV_X6_369))))
set_option maxHeartbeats 4000000 in
set_option maxRecDepth 100000 in
theorem zc_L_ask_ring_no (l : Launch) (hnt : l.stackTraces = false) (D : va_G) (G : Nat × Nat × (Nat → Int32)) (xo : Nat) (va : Nat) (xg : Nat) (gc : Int32) (xp : Nat) (pc : Int32) (xq : Nat) (qc : Int32) (r1 : Nat) (r2 : Nat) (r3 : Nat) (r4 : Nat) (se : Nat) (ts : Int32) (hou : Int32) (dr : Int32) (su : Int32) (br : Int32) (cq : ClassId) (ci : ClassId) (sz : Nat) : vx_Met l yL_ask wzL_ask_ring_no ({ frames := 9, cells := 1, slots := 6, locals := 150 }) (va_Pc [.ref xo, .int 114, .ref va] (p_RW D G [(cq, .object "Gatherhouse$Piece"), (ci, .int)] [(xo, .inr (6, [.ref xg, .int gc, .ref xp, .int pc, .ref xq, .int qc, .ref r1, .ref r2, .ref r3, .ref r4, .ref se, .int ts, .int hou, .int dr, .int su, .int br])), (xq, .inl (cq, 16, .inr (.inr (.inr (.inr (zq [none, none, none, none, none, none, none, none, none, none, none, none, none, none, none, none])))))), (va, .inl (ci, 3, .inl (zi [0, 0, 120])))] sz)) (va_Qi (fun (r : Int32) (u : Unit) => r = (-2000000001)) (fun (u : Unit) (t : State) => q_RW D [(cq, .object "Gatherhouse$Piece")] [(xo, .inr (6, [.ref xg, .int gc, .ref xp, .int pc, .ref xq, .int qc, .ref r1, .ref r2, .ref r3, .ref r4, .ref se, .int ts, .int hou, .int dr, .int su, .int br])), (xq, .inl (cq, 16, .inr (.inr (.inr (.inr (zq [none, none, none, none, none, none, none, none, none, none, none, none, none, none, none, none]))))))] (va_A [(xo, .inr (6, [.ref xg, .int gc, .ref xp, .int pc, .ref xq, .int qc, .ref r1, .ref r2, .ref r3, .ref r4, .ref se, .int ts, .int hou, .int dr, .int su, .int br])), (xq, .inl (cq, 16, .inr (.inr (.inr (.inr (zq [none, none, none, none, none, none, none, none, none, none, none, none, none, none, none, none])))))), (va, .inl (ci, 3, .inl (zi [0, 0, 120])))] sz) t) (va_A [(xo, .inr (6, [.ref xg, .int gc, .ref xp, .int pc, .ref xq, .int qc, .ref r1, .ref r2, .ref r3, .ref r4, .ref se, .int ts, .int hou, .int dr, .int su, .int br])), (xq, .inl (cq, 16, .inr (.inr (.inr (.inr (zq [none, none, none, none, none, none, none, none, none, none, none, none, none, none, none, none])))))), (va, .inl (ci, 3, .inl (zi [0, 0, 120])))] sz)) (vx_X (fun (_ : Unit) => True) (fun E (_ : Unit) (_ : State) => False) (va_A [(xo, .inr (6, [.ref xg, .int gc, .ref xp, .int pc, .ref xq, .int qc, .ref r1, .ref r2, .ref r3, .ref r4, .ref se, .int ts, .int hou, .int dr, .int su, .int br])), (xq, .inl (cq, 16, .inr (.inr (.inr (.inr (zq [none, none, none, none, none, none, none, none, none, none, none, none, none, none, none, none])))))), (va, .inl (ci, 3, .inl (zi [0, 0, 120])))] sz)) 1 6 (va_A [(xo, .inr (6, [.ref xg, .int gc, .ref xp, .int pc, .ref xq, .int qc, .ref r1, .ref r2, .ref r3, .ref r4, .ref se, .int ts, .int hou, .int dr, .int su, .int br])), (xq, .inl (cq, 16, .inr (.inr (.inr (.inr (zq [none, none, none, none, none, none, none, none, none, none, none, none, none, none, none, none])))))), (va, .inl (ci, 3, .inl (zi [0, 0, 120])))] sz) := by
  refine vx_ofWH (cc := cL_ask) (maxL := 4) (ret := (some .int)) (by decide) rfl ?_
  intro p e s m args below meth c s₁ B hml hv
  obtain ⟨rfl, hsz, hP, hK, hD0, hT, hZ⟩ := hv
  have hx := B.exec
  have hb := B.bytes
  have hr := B.returns
  have hts := atoms_spec (ws := wzL_ask_ring_no) B.pre
  have hown : s.vm.findClass RL = some m.cls := findClass_of_methodNamed B.named
  have hlocks := B.notSynchronized
  have hxe := vx_table (x := yL_ask) B (hts _ List.mem_cons_self)
  subst hsz
  have hD := hD0.self (sz := s.heap.size)
  generalize hAe : va_A [(xo, .inr (6, [.ref xg, .int gc, .ref xp, .int pc, .ref xq, .int qc, .ref r1, .ref r2, .ref r3, .ref r4, .ref se, .int ts, .int hou, .int dr, .int su, .int br])), (xq, .inl (cq, 16, .inr (.inr (.inr (.inr (zq [none, none, none, none, none, none, none, none, none, none, none, none, none, none, none, none])))))), (va, .inl (ci, 3, .inl (zi [0, 0, 120])))] s.heap.size = A at hD hZ ⊢
  have hA : ∀ q : Nat, s.heap.size ≤ q → A q := fun q h => by rw [← hAe]; exact Or.inr h
  have hS : va_S A s.heap s.heap [] := va_S.rf
  have hl := lv_entry ([.ref xo, .int 114, .ref va]) (n := 4) (Nat.le_of_ble_eq_true rfl)
  rw [lg_entry_eq]
  generalize (lg_sl ([.ref xo, .int 114, .ref va]) ++ List.replicate (4 - (lg_sl ([.ref xo, .int 114, .ref va])).length) Slot.unset).toArray = ls at hl ⊢
  have hl : lv_has ls 4 [(0, .ref xo), (1, .int 114), (2, .ref va)] := hl
  refine lv_iload_n hx hb dL_ask_0 rfl (lv_at hl 1 rfl) ?_
  refine lv_tableIn (off := 460) (tgt := 461) hx hb dL_ask_1 (by decide +kernel) (by decide +kernel) (by decide +kernel) (by decide) ?_
  refine lv_aload_n hx hb dL_ask_461 rfl (lv_at hl 0 rfl) ?_
  refine lv_iload_n hx hb dL_ask_462 rfl (lv_at hl 1 rfl) ?_
  refine lv_aload_n hx hb dL_ask_463 rfl (lv_at hl 2 rfl) ?_
  have hFc := va_free (wc := [(xo, .inr (6, [.ref xg, .int gc, .ref xp, .int pc, .ref xq, .int qc, .ref r1, .ref r2, .ref r3, .ref r4, .ref se, .int ts, .int hou, .int dr, .int su, .int br])), (xq, .inl (cq, 16, .inr (.inr (.inr (.inr (zq [none, none, none, none, none, none, none, none, none, none, none, none, none, none, none, none])))))), (va, .inl (ci, 3, .inl (zi [0, 0, 120])))]) hD hS hA [0, 1, 2] rfl
  refine vx_calli (vx_runS (As := [.ref xo, .int 114, .ref va]) (rest := []) ⟨hx, hb, hml, hown, hts⟩ (zc_L_asked_ring_no l hnt D G xo va xg gc xp pc xq qc r1 r2 r3 r4 se ts hou dr su br cq ci s.heap.size) (cwS 3 hts gzL_ask_ring_no_L_asked_ring_no_73 rfl rfl rfl (by decide +kernel) ⟨(Nat.le_of_ble_eq_true rfl), (Nat.le_of_ble_eq_true rfl)⟩) ⟨p_RW_blind, (p_RW_at (tc := [(cq, .object "Gatherhouse$Piece"), (ci, .int)]) (wc := [(xo, .inr (6, [.ref xg, .int gc, .ref xp, .int pc, .ref xq, .int qc, .ref r1, .ref r2, .ref r3, .ref r4, .ref se, .int ts, .int hou, .int dr, .int su, .int br])), (xq, .inl (cq, 16, .inr (.inr (.inr (.inr (zq [none, none, none, none, none, none, none, none, none, none, none, none, none, none, none, none])))))), (va, .inl (ci, 3, .inl (zi [0, 0, 120])))]) hP hK hD hS hA hT hZ [0, 1, 2] [0, 1] rfl rfl (by decide) rfl [.ref xo, .int 114, .ref va])⟩ rfl rfl hl.1 rfl (lv_room (Nat.le_of_ble_eq_true rfl)) dL_ask_464 ⟨(Nat.le_of_ble_eq_true rfl), (Nat.le_of_ble_eq_true rfl)⟩) hS (fun q _ h => hFc q h) hFc (fun q _ h => hFc q h) (fun E ce q9 u t H locs ht hvm hpx hBX hz1 hk1 hS hce hcv hcl => ?_) (fun r_1247 u t H locs ht hvm w_1248 hB hz1 hk1 hS => ?_)
  · obtain ⟨hBX, hB⟩ := hBX
    obtain ⟨hP, hD, hK⟩ := q_join (D := D) (wc := [(xo, .inr (6, [.ref xg, .int gc, .ref xp, .int pc, .ref xq, .int qc, .ref r1, .ref r2, .ref r3, .ref r4, .ref se, .int ts, .int hou, .int dr, .int su, .int br])), (xq, .inl (cq, 16, .inr (.inr (.inr (.inr (zq [none, none, none, none, none, none, none, none, none, none, none, none, none, none, none, none])))))), (va, .inl (ci, 3, .inl (zi [0, 0, 120])))]) (wr := []) (w1 := [(xo, .inr (6, [.ref xg, .int gc, .ref xp, .int pc, .ref xq, .int qc, .ref r1, .ref r2, .ref r3, .ref r4, .ref se, .int ts, .int hou, .int dr, .int su, .int br])), (xq, .inl (cq, 16, .inr (.inr (.inr (.inr (zq [none, none, none, none, none, none, none, none, none, none, none, none, none, none, none, none]))))))]) (tyr := []) (ty1 := [(cq, .object "Gatherhouse$Piece"), (ci, .int)]) hP hD hK [0, 1, 2] [] [] rfl rfl (by decide) (by decide) rfl hFc hk1 ht hvm hB
    have hP : va_P D vwCl [(xo, .inr (6, [.ref xg, .int gc, .ref xp, .int pc, .ref xq, .int qc, .ref r1, .ref r2, .ref r3, .ref r4, .ref se, .int ts, .int hou, .int dr, .int su, .int br])), (xq, .inl (cq, 16, .inr (.inr (.inr (.inr (zq [none, none, none, none, none, none, none, none, none, none, none, none, none, none, none, none]))))))] H := hP
    have hD : va_D A [(xo, .inr (6, [.ref xg, .int gc, .ref xp, .int pc, .ref xq, .int qc, .ref r1, .ref r2, .ref r3, .ref r4, .ref se, .int ts, .int hou, .int dr, .int su, .int br])), (xq, .inl (cq, 16, .inr (.inr (.inr (.inr (zq [none, none, none, none, none, none, none, none, none, none, none, none, none, none, none, none]))))))] := hD
    have hK : va_K D vwCl [(cq, .object "Gatherhouse$Piece"), (ci, .int)] s := hK
    have hBX : (E = "java/lang/IndexOutOfBoundsException") := hBX
    rcases hBX with rfl
    refine z_catch (own := RL) (name := "java/lang/IndexOutOfBoundsException") (hh := ttL_ask) (x := ⟨461, 467, 468, 79⟩) hown hxe 19 rfl [] (by decide +kernel) (fun _ h => absurd h List.not_mem_nil) (by decide) (by decide) (hts (.classLink RL 79 "java/lang/IndexOutOfBoundsException") (by decide +kernel)) (va_Nw.use rfl (hT.2.2.1 ("java/lang/IndexOutOfBoundsException", "java/lang/IndexOutOfBoundsException") (by decide +kernel))) hce hcv hcl ?_
    refine W.eq (g2 := F0 m 468 ls [.ref q9]) rfl ?_
    refine lv_astore_n (lv' := [(3, .ref q9), (0, .ref xo), (1, .int 114), (2, .ref va)]) hx hb dL_ask_468 rfl hl (by decide) rfl (fun ls hl => ?_)
    refine lv_ldc (v := (-2000000001)) hx hb hown (hts (.constant RL 81 (-2000000001)) (by decide +kernel)) dL_ask_469 ?_
    refine vx_ret ?_
    exact W.iret (v := (-2000000001)) hx hb hr (fun t ht hW => ⟨⟨(-2000000001), (), rfl, rfl, q_RW_mk hP hK hD [0, 1] [0] rfl rfl (by decide) rfl ht hW.alike⟩, hS.F ht⟩) hS.2.2 dL_ask_471
  · exact w_1248.elim
theorem dL_asked_283 : decode cL_asked 283 = .ok (.aload_n 0, 1) := by decide +kernel
theorem dL_asked_284 : decode cL_asked 284 = .ok (.aload_n 2, 1) := by decide +kernel
theorem dL_asked_285 : decode cL_asked 285 = .ok (.iconst 0, 1) := by decide +kernel
theorem dL_asked_286 : decode cL_asked 286 = .ok (.iaload, 1) := by decide +kernel
theorem dL_asked_287 : decode cL_asked 287 = .ok (.invokevirtual 111, 3) := by decide +kernel
def wzEL_asked_mass_no : List Cond := [.code yL_asked cL_asked 3 (some .int), .methodLink RL 111 yX6_mass, .instanceMethod yX6_mass, .selects RX6 yX6_mass yX6_mass, .initialized RX6, .code yX6_mass cX6_mass 2 (some .int), .methodLink RX6 169 yX6_findPiece, .instanceMethod yX6_findPiece, .selects RX6 yX6_findPiece yX6_findPiece, .code yX6_findPiece cX6_findPiece 3 (some (.object "Gatherhouse$Piece")), .fieldLink RX6 30 "Gatherhouse" "pieces" "[LGatherhouse$Piece;", .classLink RX6 365 "java/lang/IndexOutOfBoundsException", .initialized "java/lang/IndexOutOfBoundsException"]
def wzL_asked_mass_no : List Cond := wzEL_asked_mass_no ++ (u_ws RX6 TX6 16 ++ ((vx_atS RX6 369 "java/lang/IndexOutOfBoundsException" ["java/lang/RuntimeException", "java/lang/Exception"]).filter goodWord))
theorem zgEL_asked_mass_no : wzEL_asked_mass_no.all goodWord = true := by decide +kernel
theorem zuL_asked_mass_no_X6 : ∀ w ∈ u_ws RX6 TX6 16, w ∈ wzL_asked_mass_no := (fun _ h => (List.mem_append_right _ (List.mem_append_left _ h)))
theorem ztL_asked_mass_no_X6_369 : ∀ w ∈ (vx_atS RX6 369 "java/lang/IndexOutOfBoundsException" ["java/lang/RuntimeException", "java/lang/Exception"]).filter goodWord, w ∈ wzL_asked_mass_no := (fun _ h => (List.mem_append_right _ (List.mem_append_right _ h)))
theorem gzL_asked_mass_no_X6_mass_no_111 : GoodIn wzL_asked_mass_no (wsV RL 111 RX6 yX6_mass wzX6_mass_no) := (goodIn_app (z_lift (goodIn_r _ [1, 2, 3, 4] rfl (by decide +kernel))) (goodIn_app (z_lift (goodIn_r wzEX6_mass_no [5, 6, 7, 8, 4, 9, 10, 11, 12] rfl zgEX6_mass_no)) (goodIn_app (goodIn_sub (fun _ h => (List.mem_append_right _ (List.mem_append_left _ h))) zgU_X6) (goodIn_sub (fun _ h => (List.mem_append_right _ (List.mem_append_right _ h))) zgV_X6_369))))
set_option maxHeartbeats 4000000 in
set_option maxRecDepth 100000 in
theorem zc_L_asked_mass_no (l : Launch) (hnt : l.stackTraces = false) (D : va_G) (G : Nat × Nat × (Nat → Int32)) (xo : Nat) (va : Nat) (xg : Nat) (gc : Int32) (xp : Nat) (pc : Int32) (xq : Nat) (qc : Int32) (r1 : Nat) (r2 : Nat) (r3 : Nat) (r4 : Nat) (se : Nat) (ts : Int32) (hou : Int32) (dr : Int32) (su : Int32) (br : Int32) (cq : ClassId) (ci : ClassId) (sz : Nat) : vx_Met l yL_asked wzL_asked_mass_no ({ frames := 8, cells := 1, slots := 6, locals := 125 }) (va_Pc [.ref xo, .int 109, .ref va] (p_RW D G [(cq, .object "Gatherhouse$Piece"), (ci, .int)] [(xo, .inr (6, [.ref xg, .int gc, .ref xp, .int pc, .ref xq, .int qc, .ref r1, .ref r2, .ref r3, .ref r4, .ref se, .int ts, .int hou, .int dr, .int su, .int br])), (xq, .inl (cq, 16, .inr (.inr (.inr (.inr (zq [none, none, none, none, none, none, none, none, none, none, none, none, none, none, none, none])))))), (va, .inl (ci, 1, .inl (zi [0])))] sz)) (va_Qi (fun (r : Int32) (u : Unit) => False) (fun (u : Unit) (t : State) => q_RW D [(cq, .object "Gatherhouse$Piece")] [(xo, .inr (6, [.ref xg, .int gc, .ref xp, .int pc, .ref xq, .int qc, .ref r1, .ref r2, .ref r3, .ref r4, .ref se, .int ts, .int hou, .int dr, .int su, .int br])), (xq, .inl (cq, 16, .inr (.inr (.inr (.inr (zq [none, none, none, none, none, none, none, none, none, none, none, none, none, none, none, none]))))))] (va_A [(xo, .inr (6, [.ref xg, .int gc, .ref xp, .int pc, .ref xq, .int qc, .ref r1, .ref r2, .ref r3, .ref r4, .ref se, .int ts, .int hou, .int dr, .int su, .int br])), (xq, .inl (cq, 16, .inr (.inr (.inr (.inr (zq [none, none, none, none, none, none, none, none, none, none, none, none, none, none, none, none])))))), (va, .inl (ci, 1, .inl (zi [0])))] sz) t) (va_A [(xo, .inr (6, [.ref xg, .int gc, .ref xp, .int pc, .ref xq, .int qc, .ref r1, .ref r2, .ref r3, .ref r4, .ref se, .int ts, .int hou, .int dr, .int su, .int br])), (xq, .inl (cq, 16, .inr (.inr (.inr (.inr (zq [none, none, none, none, none, none, none, none, none, none, none, none, none, none, none, none])))))), (va, .inl (ci, 1, .inl (zi [0])))] sz)) (vx_X (fun (_ : Unit) => True) (fun E (_ : Unit) (t : State) => ((E = "java/lang/IndexOutOfBoundsException")) ∧ q_RW D [(cq, .object "Gatherhouse$Piece"), (ci, .int)] [(xo, .inr (6, [.ref xg, .int gc, .ref xp, .int pc, .ref xq, .int qc, .ref r1, .ref r2, .ref r3, .ref r4, .ref se, .int ts, .int hou, .int dr, .int su, .int br])), (xq, .inl (cq, 16, .inr (.inr (.inr (.inr (zq [none, none, none, none, none, none, none, none, none, none, none, none, none, none, none, none]))))))] (va_A [(xo, .inr (6, [.ref xg, .int gc, .ref xp, .int pc, .ref xq, .int qc, .ref r1, .ref r2, .ref r3, .ref r4, .ref se, .int ts, .int hou, .int dr, .int su, .int br])), (xq, .inl (cq, 16, .inr (.inr (.inr (.inr (zq [none, none, none, none, none, none, none, none, none, none, none, none, none, none, none, none])))))), (va, .inl (ci, 1, .inl (zi [0])))] sz) t) (va_A [(xo, .inr (6, [.ref xg, .int gc, .ref xp, .int pc, .ref xq, .int qc, .ref r1, .ref r2, .ref r3, .ref r4, .ref se, .int ts, .int hou, .int dr, .int su, .int br])), (xq, .inl (cq, 16, .inr (.inr (.inr (.inr (zq [none, none, none, none, none, none, none, none, none, none, none, none, none, none, none, none])))))), (va, .inl (ci, 1, .inl (zi [0])))] sz)) 1 6 (va_A [(xo, .inr (6, [.ref xg, .int gc, .ref xp, .int pc, .ref xq, .int qc, .ref r1, .ref r2, .ref r3, .ref r4, .ref se, .int ts, .int hou, .int dr, .int su, .int br])), (xq, .inl (cq, 16, .inr (.inr (.inr (.inr (zq [none, none, none, none, none, none, none, none, none, none, none, none, none, none, none, none])))))), (va, .inl (ci, 1, .inl (zi [0])))] sz) := by
  refine vx_ofW (cc := cL_asked) (maxL := 3) (ret := (some .int)) (by decide) rfl ?_
  intro p e s m args below meth c s₁ B hml hxt hv
  obtain ⟨rfl, hsz, hP, hK, hD0, hT, hZ⟩ := hv
  have hx := B.exec
  have hb := B.bytes
  have hr := B.returns
  have hts := atoms_spec (ws := wzL_asked_mass_no) B.pre
  have hown : s.vm.findClass RL = some m.cls := findClass_of_methodNamed B.named
  have hlocks := B.notSynchronized
  subst hsz
  have hD := hD0.self (sz := s.heap.size)
  generalize hAe : va_A [(xo, .inr (6, [.ref xg, .int gc, .ref xp, .int pc, .ref xq, .int qc, .ref r1, .ref r2, .ref r3, .ref r4, .ref se, .int ts, .int hou, .int dr, .int su, .int br])), (xq, .inl (cq, 16, .inr (.inr (.inr (.inr (zq [none, none, none, none, none, none, none, none, none, none, none, none, none, none, none, none])))))), (va, .inl (ci, 1, .inl (zi [0])))] s.heap.size = A at hD hZ ⊢
  have hA : ∀ q : Nat, s.heap.size ≤ q → A q := fun q h => by rw [← hAe]; exact Or.inr h
  have hS : va_S A s.heap s.heap [] := va_S.rf
  have hl := lv_entry ([.ref xo, .int 109, .ref va]) (n := 3) (Nat.le_of_ble_eq_true rfl)
  rw [lg_entry_eq]
  generalize (lg_sl ([.ref xo, .int 109, .ref va]) ++ List.replicate (3 - (lg_sl ([.ref xo, .int 109, .ref va])).length) Slot.unset).toArray = ls at hl ⊢
  have hl : lv_has ls 3 [(0, .ref xo), (1, .int 109), (2, .ref va)] := hl
  refine lv_iload_n hx hb dL_asked_0 rfl (lv_at hl 1 rfl) ?_
  refine lv_tableIn (off := 282) (tgt := 283) hx hb dL_asked_1 (by decide +kernel) (by decide +kernel) (by decide +kernel) (by decide) ?_
  refine lv_aload_n hx hb dL_asked_283 rfl (lv_at hl 0 rfl) ?_
  refine lv_aload_n hx hb dL_asked_284 rfl (lv_at hl 2 rfl) ?_
  refine lv_iconst (v := 0) hx hb dL_asked_285 (by decide) ?_
  refine va_iald (D := D) (cl := vwCl) hx hb hK hP 2 1 rfl rfl (vp_in_nI (n := 0) (N := 1) (by decide) (by decide)) dL_asked_286 ?_
  refine W.eq (g2 := F0 m 287 ls [.int 0, .ref xo]) rfl ?_
  have hFc := va_free (wc := [(xo, .inr (6, [.ref xg, .int gc, .ref xp, .int pc, .ref xq, .int qc, .ref r1, .ref r2, .ref r3, .ref r4, .ref se, .int ts, .int hou, .int dr, .int su, .int br])), (xq, .inl (cq, 16, .inr (.inr (.inr (.inr (zq [none, none, none, none, none, none, none, none, none, none, none, none, none, none, none, none]))))))]) hD hS hA [0, 1] rfl
  refine vx_calli (vx_runV (As := [.int 0]) (rest := []) ⟨hx, hb, hml, hown, hts⟩ (zc_X6_mass_no l hnt D G xo xg gc xp pc xq qc r1 r2 r3 r4 se ts hou dr su br cq s.heap.size) (cwV 1 hts gzL_asked_mass_no_X6_mass_no_111 rfl rfl rfl (by decide +kernel) ⟨(Nat.le_of_ble_eq_true rfl), (Nat.le_of_ble_eq_true rfl)⟩) ⟨p_RW_blind, va_recv hK hP (ci := 6) (q0 := 0) rfl rfl, (p_RW_at (tc := [(cq, .object "Gatherhouse$Piece")]) (wc := [(xo, .inr (6, [.ref xg, .int gc, .ref xp, .int pc, .ref xq, .int qc, .ref r1, .ref r2, .ref r3, .ref r4, .ref se, .int ts, .int hou, .int dr, .int su, .int br])), (xq, .inl (cq, 16, .inr (.inr (.inr (.inr (zq [none, none, none, none, none, none, none, none, none, none, none, none, none, none, none, none]))))))]) hP hK hD hS hA hT hZ [0, 1] [0] rfl rfl (by decide) rfl [.ref xo, .int 0])⟩ rfl rfl hl.1 rfl (lv_room (Nat.le_of_ble_eq_true rfl)) dL_asked_287 ⟨(Nat.le_of_ble_eq_true rfl), (Nat.le_of_ble_eq_true rfl)⟩) hS (fun q _ h => hFc q h) hFc (fun q _ h => hFc q h) (fun E ce q9 u t H locs ht hvm hpx hBX hz1 hk1 hS hce hcv hcl => ?_) (fun r_1249 u t H locs ht hvm w_1250 hB hz1 hk1 hS => ?_)
  · obtain ⟨hBX, hB⟩ := hBX
    obtain ⟨hP, hD, hK⟩ := q_join (D := D) (wc := [(xo, .inr (6, [.ref xg, .int gc, .ref xp, .int pc, .ref xq, .int qc, .ref r1, .ref r2, .ref r3, .ref r4, .ref se, .int ts, .int hou, .int dr, .int su, .int br])), (xq, .inl (cq, 16, .inr (.inr (.inr (.inr (zq [none, none, none, none, none, none, none, none, none, none, none, none, none, none, none, none]))))))]) (wr := [(va, .inl (ci, 1, .inl (zi [0])))]) (w1 := [(xo, .inr (6, [.ref xg, .int gc, .ref xp, .int pc, .ref xq, .int qc, .ref r1, .ref r2, .ref r3, .ref r4, .ref se, .int ts, .int hou, .int dr, .int su, .int br])), (xq, .inl (cq, 16, .inr (.inr (.inr (.inr (zq [none, none, none, none, none, none, none, none, none, none, none, none, none, none, none, none]))))))]) (tyr := [(ci, .int)]) (ty1 := [(cq, .object "Gatherhouse$Piece")]) hP hD hK [0, 1] [2] [1] rfl rfl (by decide) (by decide) rfl hFc hk1 ht hvm hB
    have hP : va_P D vwCl [(va, .inl (ci, 1, .inl (zi [0]))), (xo, .inr (6, [.ref xg, .int gc, .ref xp, .int pc, .ref xq, .int qc, .ref r1, .ref r2, .ref r3, .ref r4, .ref se, .int ts, .int hou, .int dr, .int su, .int br])), (xq, .inl (cq, 16, .inr (.inr (.inr (.inr (zq [none, none, none, none, none, none, none, none, none, none, none, none, none, none, none, none]))))))] H := hP
    have hD : va_D A [(va, .inl (ci, 1, .inl (zi [0]))), (xo, .inr (6, [.ref xg, .int gc, .ref xp, .int pc, .ref xq, .int qc, .ref r1, .ref r2, .ref r3, .ref r4, .ref se, .int ts, .int hou, .int dr, .int su, .int br])), (xq, .inl (cq, 16, .inr (.inr (.inr (.inr (zq [none, none, none, none, none, none, none, none, none, none, none, none, none, none, none, none]))))))] := hD
    have hK : va_K D vwCl [(ci, .int), (cq, .object "Gatherhouse$Piece")] s := hK
    have hBX : (E = "java/lang/IndexOutOfBoundsException") := hBX
    rcases hBX with rfl
    exact vx_out (fun x h => (hxt x h).elim) hlocks hce hcv hcl (fun t ht hW9 => ⟨(), trivial, ⟨rfl, q_RW_mk hP hK hD [1, 2] [1, 0] rfl rfl (by decide) rfl ht hW9⟩, hS.F ht⟩) hS.2.2 (Nat.le_of_ble_eq_true rfl) (Nat.le_of_ble_eq_true rfl)
  · exact w_1250.elim
def wzEL_ask_mass_no : List Cond := [.codeWith yL_ask cL_ask 4 (some .int) ttL_ask, .methodLink RL 73 yL_asked, .static yL_asked, .initialized RL, .code yL_asked cL_asked 3 (some .int), .methodLink RL 111 yX6_mass, .instanceMethod yX6_mass, .selects RX6 yX6_mass yX6_mass, .initialized RX6, .code yX6_mass cX6_mass 2 (some .int), .methodLink RX6 169 yX6_findPiece, .instanceMethod yX6_findPiece, .selects RX6 yX6_findPiece yX6_findPiece, .code yX6_findPiece cX6_findPiece 3 (some (.object "Gatherhouse$Piece")), .fieldLink RX6 30 "Gatherhouse" "pieces" "[LGatherhouse$Piece;", .classLink RX6 365 "java/lang/IndexOutOfBoundsException", .initialized "java/lang/IndexOutOfBoundsException", .classLink RL 79 "java/lang/IndexOutOfBoundsException", .constant RL 81 (-2000000001)]
def wzL_ask_mass_no : List Cond := wzEL_ask_mass_no ++ (u_ws RX6 TX6 16 ++ ((vx_atS RX6 369 "java/lang/IndexOutOfBoundsException" ["java/lang/RuntimeException", "java/lang/Exception"]).filter goodWord))
theorem zgEL_ask_mass_no : wzEL_ask_mass_no.all goodWord = true := by decide +kernel
theorem zuL_ask_mass_no_X6 : ∀ w ∈ u_ws RX6 TX6 16, w ∈ wzL_ask_mass_no := (fun _ h => (List.mem_append_right _ (List.mem_append_left _ h)))
theorem ztL_ask_mass_no_X6_369 : ∀ w ∈ (vx_atS RX6 369 "java/lang/IndexOutOfBoundsException" ["java/lang/RuntimeException", "java/lang/Exception"]).filter goodWord, w ∈ wzL_ask_mass_no := (fun _ h => (List.mem_append_right _ (List.mem_append_right _ h)))
theorem gzL_ask_mass_no_L_asked_mass_no_73 : GoodIn wzL_ask_mass_no (va_wsS RL 73 yL_asked wzL_asked_mass_no) := (goodIn_app (z_lift (goodIn_r _ [1, 2, 3] rfl (by decide +kernel))) (goodIn_app (z_lift (goodIn_r wzEL_asked_mass_no [4, 5, 6, 7, 8, 9, 10, 11, 12, 13, 14, 15, 16] rfl zgEL_asked_mass_no)) (goodIn_app (goodIn_sub (fun _ h => (List.mem_append_right _ (List.mem_append_left _ h))) zgU_X6) (goodIn_sub (fun _ h => (List.mem_append_right _ (List.mem_append_right _ h))) zgV_X6_369))))
set_option maxHeartbeats 4000000 in
set_option maxRecDepth 100000 in
theorem zc_L_ask_mass_no (l : Launch) (hnt : l.stackTraces = false) (D : va_G) (G : Nat × Nat × (Nat → Int32)) (xo : Nat) (va : Nat) (xg : Nat) (gc : Int32) (xp : Nat) (pc : Int32) (xq : Nat) (qc : Int32) (r1 : Nat) (r2 : Nat) (r3 : Nat) (r4 : Nat) (se : Nat) (ts : Int32) (hou : Int32) (dr : Int32) (su : Int32) (br : Int32) (cq : ClassId) (ci : ClassId) (sz : Nat) : vx_Met l yL_ask wzL_ask_mass_no ({ frames := 9, cells := 1, slots := 6, locals := 147 }) (va_Pc [.ref xo, .int 109, .ref va] (p_RW D G [(cq, .object "Gatherhouse$Piece"), (ci, .int)] [(xo, .inr (6, [.ref xg, .int gc, .ref xp, .int pc, .ref xq, .int qc, .ref r1, .ref r2, .ref r3, .ref r4, .ref se, .int ts, .int hou, .int dr, .int su, .int br])), (xq, .inl (cq, 16, .inr (.inr (.inr (.inr (zq [none, none, none, none, none, none, none, none, none, none, none, none, none, none, none, none])))))), (va, .inl (ci, 1, .inl (zi [0])))] sz)) (va_Qi (fun (r : Int32) (u : Unit) => r = (-2000000001)) (fun (u : Unit) (t : State) => q_RW D [(cq, .object "Gatherhouse$Piece")] [(xo, .inr (6, [.ref xg, .int gc, .ref xp, .int pc, .ref xq, .int qc, .ref r1, .ref r2, .ref r3, .ref r4, .ref se, .int ts, .int hou, .int dr, .int su, .int br])), (xq, .inl (cq, 16, .inr (.inr (.inr (.inr (zq [none, none, none, none, none, none, none, none, none, none, none, none, none, none, none, none]))))))] (va_A [(xo, .inr (6, [.ref xg, .int gc, .ref xp, .int pc, .ref xq, .int qc, .ref r1, .ref r2, .ref r3, .ref r4, .ref se, .int ts, .int hou, .int dr, .int su, .int br])), (xq, .inl (cq, 16, .inr (.inr (.inr (.inr (zq [none, none, none, none, none, none, none, none, none, none, none, none, none, none, none, none])))))), (va, .inl (ci, 1, .inl (zi [0])))] sz) t) (va_A [(xo, .inr (6, [.ref xg, .int gc, .ref xp, .int pc, .ref xq, .int qc, .ref r1, .ref r2, .ref r3, .ref r4, .ref se, .int ts, .int hou, .int dr, .int su, .int br])), (xq, .inl (cq, 16, .inr (.inr (.inr (.inr (zq [none, none, none, none, none, none, none, none, none, none, none, none, none, none, none, none])))))), (va, .inl (ci, 1, .inl (zi [0])))] sz)) (vx_X (fun (_ : Unit) => True) (fun E (_ : Unit) (_ : State) => False) (va_A [(xo, .inr (6, [.ref xg, .int gc, .ref xp, .int pc, .ref xq, .int qc, .ref r1, .ref r2, .ref r3, .ref r4, .ref se, .int ts, .int hou, .int dr, .int su, .int br])), (xq, .inl (cq, 16, .inr (.inr (.inr (.inr (zq [none, none, none, none, none, none, none, none, none, none, none, none, none, none, none, none])))))), (va, .inl (ci, 1, .inl (zi [0])))] sz)) 1 6 (va_A [(xo, .inr (6, [.ref xg, .int gc, .ref xp, .int pc, .ref xq, .int qc, .ref r1, .ref r2, .ref r3, .ref r4, .ref se, .int ts, .int hou, .int dr, .int su, .int br])), (xq, .inl (cq, 16, .inr (.inr (.inr (.inr (zq [none, none, none, none, none, none, none, none, none, none, none, none, none, none, none, none])))))), (va, .inl (ci, 1, .inl (zi [0])))] sz) := by
  refine vx_ofWH (cc := cL_ask) (maxL := 4) (ret := (some .int)) (by decide) rfl ?_
  intro p e s m args below meth c s₁ B hml hv
  obtain ⟨rfl, hsz, hP, hK, hD0, hT, hZ⟩ := hv
  have hx := B.exec
  have hb := B.bytes
  have hr := B.returns
  have hts := atoms_spec (ws := wzL_ask_mass_no) B.pre
  have hown : s.vm.findClass RL = some m.cls := findClass_of_methodNamed B.named
  have hlocks := B.notSynchronized
  have hxe := vx_table (x := yL_ask) B (hts _ List.mem_cons_self)
  subst hsz
  have hD := hD0.self (sz := s.heap.size)
  generalize hAe : va_A [(xo, .inr (6, [.ref xg, .int gc, .ref xp, .int pc, .ref xq, .int qc, .ref r1, .ref r2, .ref r3, .ref r4, .ref se, .int ts, .int hou, .int dr, .int su, .int br])), (xq, .inl (cq, 16, .inr (.inr (.inr (.inr (zq [none, none, none, none, none, none, none, none, none, none, none, none, none, none, none, none])))))), (va, .inl (ci, 1, .inl (zi [0])))] s.heap.size = A at hD hZ ⊢
  have hA : ∀ q : Nat, s.heap.size ≤ q → A q := fun q h => by rw [← hAe]; exact Or.inr h
  have hS : va_S A s.heap s.heap [] := va_S.rf
  have hl := lv_entry ([.ref xo, .int 109, .ref va]) (n := 4) (Nat.le_of_ble_eq_true rfl)
  rw [lg_entry_eq]
  generalize (lg_sl ([.ref xo, .int 109, .ref va]) ++ List.replicate (4 - (lg_sl ([.ref xo, .int 109, .ref va])).length) Slot.unset).toArray = ls at hl ⊢
  have hl : lv_has ls 4 [(0, .ref xo), (1, .int 109), (2, .ref va)] := hl
  refine lv_iload_n hx hb dL_ask_0 rfl (lv_at hl 1 rfl) ?_
  refine lv_tableIn (off := 460) (tgt := 461) hx hb dL_ask_1 (by decide +kernel) (by decide +kernel) (by decide +kernel) (by decide) ?_
  refine lv_aload_n hx hb dL_ask_461 rfl (lv_at hl 0 rfl) ?_
  refine lv_iload_n hx hb dL_ask_462 rfl (lv_at hl 1 rfl) ?_
  refine lv_aload_n hx hb dL_ask_463 rfl (lv_at hl 2 rfl) ?_
  have hFc := va_free (wc := [(xo, .inr (6, [.ref xg, .int gc, .ref xp, .int pc, .ref xq, .int qc, .ref r1, .ref r2, .ref r3, .ref r4, .ref se, .int ts, .int hou, .int dr, .int su, .int br])), (xq, .inl (cq, 16, .inr (.inr (.inr (.inr (zq [none, none, none, none, none, none, none, none, none, none, none, none, none, none, none, none])))))), (va, .inl (ci, 1, .inl (zi [0])))]) hD hS hA [0, 1, 2] rfl
  refine vx_calli (vx_runS (As := [.ref xo, .int 109, .ref va]) (rest := []) ⟨hx, hb, hml, hown, hts⟩ (zc_L_asked_mass_no l hnt D G xo va xg gc xp pc xq qc r1 r2 r3 r4 se ts hou dr su br cq ci s.heap.size) (cwS 3 hts gzL_ask_mass_no_L_asked_mass_no_73 rfl rfl rfl (by decide +kernel) ⟨(Nat.le_of_ble_eq_true rfl), (Nat.le_of_ble_eq_true rfl)⟩) ⟨p_RW_blind, (p_RW_at (tc := [(cq, .object "Gatherhouse$Piece"), (ci, .int)]) (wc := [(xo, .inr (6, [.ref xg, .int gc, .ref xp, .int pc, .ref xq, .int qc, .ref r1, .ref r2, .ref r3, .ref r4, .ref se, .int ts, .int hou, .int dr, .int su, .int br])), (xq, .inl (cq, 16, .inr (.inr (.inr (.inr (zq [none, none, none, none, none, none, none, none, none, none, none, none, none, none, none, none])))))), (va, .inl (ci, 1, .inl (zi [0])))]) hP hK hD hS hA hT hZ [0, 1, 2] [0, 1] rfl rfl (by decide) rfl [.ref xo, .int 109, .ref va])⟩ rfl rfl hl.1 rfl (lv_room (Nat.le_of_ble_eq_true rfl)) dL_ask_464 ⟨(Nat.le_of_ble_eq_true rfl), (Nat.le_of_ble_eq_true rfl)⟩) hS (fun q _ h => hFc q h) hFc (fun q _ h => hFc q h) (fun E ce q9 u t H locs ht hvm hpx hBX hz1 hk1 hS hce hcv hcl => ?_) (fun r_1251 u t H locs ht hvm w_1252 hB hz1 hk1 hS => ?_)
  · obtain ⟨hBX, hB⟩ := hBX
    obtain ⟨hP, hD, hK⟩ := q_join (D := D) (wc := [(xo, .inr (6, [.ref xg, .int gc, .ref xp, .int pc, .ref xq, .int qc, .ref r1, .ref r2, .ref r3, .ref r4, .ref se, .int ts, .int hou, .int dr, .int su, .int br])), (xq, .inl (cq, 16, .inr (.inr (.inr (.inr (zq [none, none, none, none, none, none, none, none, none, none, none, none, none, none, none, none])))))), (va, .inl (ci, 1, .inl (zi [0])))]) (wr := []) (w1 := [(xo, .inr (6, [.ref xg, .int gc, .ref xp, .int pc, .ref xq, .int qc, .ref r1, .ref r2, .ref r3, .ref r4, .ref se, .int ts, .int hou, .int dr, .int su, .int br])), (xq, .inl (cq, 16, .inr (.inr (.inr (.inr (zq [none, none, none, none, none, none, none, none, none, none, none, none, none, none, none, none]))))))]) (tyr := []) (ty1 := [(cq, .object "Gatherhouse$Piece"), (ci, .int)]) hP hD hK [0, 1, 2] [] [] rfl rfl (by decide) (by decide) rfl hFc hk1 ht hvm hB
    have hP : va_P D vwCl [(xo, .inr (6, [.ref xg, .int gc, .ref xp, .int pc, .ref xq, .int qc, .ref r1, .ref r2, .ref r3, .ref r4, .ref se, .int ts, .int hou, .int dr, .int su, .int br])), (xq, .inl (cq, 16, .inr (.inr (.inr (.inr (zq [none, none, none, none, none, none, none, none, none, none, none, none, none, none, none, none]))))))] H := hP
    have hD : va_D A [(xo, .inr (6, [.ref xg, .int gc, .ref xp, .int pc, .ref xq, .int qc, .ref r1, .ref r2, .ref r3, .ref r4, .ref se, .int ts, .int hou, .int dr, .int su, .int br])), (xq, .inl (cq, 16, .inr (.inr (.inr (.inr (zq [none, none, none, none, none, none, none, none, none, none, none, none, none, none, none, none]))))))] := hD
    have hK : va_K D vwCl [(cq, .object "Gatherhouse$Piece"), (ci, .int)] s := hK
    have hBX : (E = "java/lang/IndexOutOfBoundsException") := hBX
    rcases hBX with rfl
    refine z_catch (own := RL) (name := "java/lang/IndexOutOfBoundsException") (hh := ttL_ask) (x := ⟨461, 467, 468, 79⟩) hown hxe 19 rfl [] (by decide +kernel) (fun _ h => absurd h List.not_mem_nil) (by decide) (by decide) (hts (.classLink RL 79 "java/lang/IndexOutOfBoundsException") (by decide +kernel)) (va_Nw.use rfl (hT.2.2.1 ("java/lang/IndexOutOfBoundsException", "java/lang/IndexOutOfBoundsException") (by decide +kernel))) hce hcv hcl ?_
    refine W.eq (g2 := F0 m 468 ls [.ref q9]) rfl ?_
    refine lv_astore_n (lv' := [(3, .ref q9), (0, .ref xo), (1, .int 109), (2, .ref va)]) hx hb dL_ask_468 rfl hl (by decide) rfl (fun ls hl => ?_)
    refine lv_ldc (v := (-2000000001)) hx hb hown (hts (.constant RL 81 (-2000000001)) (by decide +kernel)) dL_ask_469 ?_
    refine vx_ret ?_
    exact W.iret (v := (-2000000001)) hx hb hr (fun t ht hW => ⟨⟨(-2000000001), (), rfl, rfl, q_RW_mk hP hK hD [0, 1] [0] rfl rfl (by decide) rfl ht hW.alike⟩, hS.F ht⟩) hS.2.2 dL_ask_471
  · exact w_1252.elim
theorem dL_asked_291 : decode cL_asked 291 = .ok (.aload_n 0, 1) := by decide +kernel
theorem dL_asked_292 : decode cL_asked 292 = .ok (.aload_n 2, 1) := by decide +kernel
theorem dL_asked_293 : decode cL_asked 293 = .ok (.iconst 0, 1) := by decide +kernel
theorem dL_asked_294 : decode cL_asked 294 = .ok (.iaload, 1) := by decide +kernel
theorem dL_asked_295 : decode cL_asked 295 = .ok (.invokevirtual 114, 3) := by decide +kernel
def wzEL_asked_height_no : List Cond := [.code yL_asked cL_asked 3 (some .int), .methodLink RL 114 yX6_height, .instanceMethod yX6_height, .selects RX6 yX6_height yX6_height, .initialized RX6, .code yX6_height cX6_height 2 (some .int), .methodLink RX6 169 yX6_findPiece, .instanceMethod yX6_findPiece, .selects RX6 yX6_findPiece yX6_findPiece, .code yX6_findPiece cX6_findPiece 3 (some (.object "Gatherhouse$Piece")), .fieldLink RX6 30 "Gatherhouse" "pieces" "[LGatherhouse$Piece;", .classLink RX6 365 "java/lang/IndexOutOfBoundsException", .initialized "java/lang/IndexOutOfBoundsException"]
def wzL_asked_height_no : List Cond := wzEL_asked_height_no ++ (u_ws RX6 TX6 16 ++ ((vx_atS RX6 369 "java/lang/IndexOutOfBoundsException" ["java/lang/RuntimeException", "java/lang/Exception"]).filter goodWord))
theorem zgEL_asked_height_no : wzEL_asked_height_no.all goodWord = true := by decide +kernel
theorem zuL_asked_height_no_X6 : ∀ w ∈ u_ws RX6 TX6 16, w ∈ wzL_asked_height_no := (fun _ h => (List.mem_append_right _ (List.mem_append_left _ h)))
theorem ztL_asked_height_no_X6_369 : ∀ w ∈ (vx_atS RX6 369 "java/lang/IndexOutOfBoundsException" ["java/lang/RuntimeException", "java/lang/Exception"]).filter goodWord, w ∈ wzL_asked_height_no := (fun _ h => (List.mem_append_right _ (List.mem_append_right _ h)))
theorem gzL_asked_height_no_X6_height_no_114 : GoodIn wzL_asked_height_no (wsV RL 114 RX6 yX6_height wzX6_height_no) := (goodIn_app (z_lift (goodIn_r _ [1, 2, 3, 4] rfl (by decide +kernel))) (goodIn_app (z_lift (goodIn_r wzEX6_height_no [5, 6, 7, 8, 4, 9, 10, 11, 12] rfl zgEX6_height_no)) (goodIn_app (goodIn_sub (fun _ h => (List.mem_append_right _ (List.mem_append_left _ h))) zgU_X6) (goodIn_sub (fun _ h => (List.mem_append_right _ (List.mem_append_right _ h))) zgV_X6_369))))
set_option maxHeartbeats 4000000 in
set_option maxRecDepth 100000 in
theorem zc_L_asked_height_no (l : Launch) (hnt : l.stackTraces = false) (D : va_G) (G : Nat × Nat × (Nat → Int32)) (xo : Nat) (va : Nat) (xg : Nat) (gc : Int32) (xp : Nat) (pc : Int32) (xq : Nat) (qc : Int32) (r1 : Nat) (r2 : Nat) (r3 : Nat) (r4 : Nat) (se : Nat) (ts : Int32) (hou : Int32) (dr : Int32) (su : Int32) (br : Int32) (cq : ClassId) (ci : ClassId) (sz : Nat) : vx_Met l yL_asked wzL_asked_height_no ({ frames := 8, cells := 1, slots := 6, locals := 125 }) (va_Pc [.ref xo, .int 105, .ref va] (p_RW D G [(cq, .object "Gatherhouse$Piece"), (ci, .int)] [(xo, .inr (6, [.ref xg, .int gc, .ref xp, .int pc, .ref xq, .int qc, .ref r1, .ref r2, .ref r3, .ref r4, .ref se, .int ts, .int hou, .int dr, .int su, .int br])), (xq, .inl (cq, 16, .inr (.inr (.inr (.inr (zq [none, none, none, none, none, none, none, none, none, none, none, none, none, none, none, none])))))), (va, .inl (ci, 1, .inl (zi [0])))] sz)) (va_Qi (fun (r : Int32) (u : Unit) => False) (fun (u : Unit) (t : State) => q_RW D [(cq, .object "Gatherhouse$Piece")] [(xo, .inr (6, [.ref xg, .int gc, .ref xp, .int pc, .ref xq, .int qc, .ref r1, .ref r2, .ref r3, .ref r4, .ref se, .int ts, .int hou, .int dr, .int su, .int br])), (xq, .inl (cq, 16, .inr (.inr (.inr (.inr (zq [none, none, none, none, none, none, none, none, none, none, none, none, none, none, none, none]))))))] (va_A [(xo, .inr (6, [.ref xg, .int gc, .ref xp, .int pc, .ref xq, .int qc, .ref r1, .ref r2, .ref r3, .ref r4, .ref se, .int ts, .int hou, .int dr, .int su, .int br])), (xq, .inl (cq, 16, .inr (.inr (.inr (.inr (zq [none, none, none, none, none, none, none, none, none, none, none, none, none, none, none, none])))))), (va, .inl (ci, 1, .inl (zi [0])))] sz) t) (va_A [(xo, .inr (6, [.ref xg, .int gc, .ref xp, .int pc, .ref xq, .int qc, .ref r1, .ref r2, .ref r3, .ref r4, .ref se, .int ts, .int hou, .int dr, .int su, .int br])), (xq, .inl (cq, 16, .inr (.inr (.inr (.inr (zq [none, none, none, none, none, none, none, none, none, none, none, none, none, none, none, none])))))), (va, .inl (ci, 1, .inl (zi [0])))] sz)) (vx_X (fun (_ : Unit) => True) (fun E (_ : Unit) (t : State) => ((E = "java/lang/IndexOutOfBoundsException")) ∧ q_RW D [(cq, .object "Gatherhouse$Piece"), (ci, .int)] [(xo, .inr (6, [.ref xg, .int gc, .ref xp, .int pc, .ref xq, .int qc, .ref r1, .ref r2, .ref r3, .ref r4, .ref se, .int ts, .int hou, .int dr, .int su, .int br])), (xq, .inl (cq, 16, .inr (.inr (.inr (.inr (zq [none, none, none, none, none, none, none, none, none, none, none, none, none, none, none, none]))))))] (va_A [(xo, .inr (6, [.ref xg, .int gc, .ref xp, .int pc, .ref xq, .int qc, .ref r1, .ref r2, .ref r3, .ref r4, .ref se, .int ts, .int hou, .int dr, .int su, .int br])), (xq, .inl (cq, 16, .inr (.inr (.inr (.inr (zq [none, none, none, none, none, none, none, none, none, none, none, none, none, none, none, none])))))), (va, .inl (ci, 1, .inl (zi [0])))] sz) t) (va_A [(xo, .inr (6, [.ref xg, .int gc, .ref xp, .int pc, .ref xq, .int qc, .ref r1, .ref r2, .ref r3, .ref r4, .ref se, .int ts, .int hou, .int dr, .int su, .int br])), (xq, .inl (cq, 16, .inr (.inr (.inr (.inr (zq [none, none, none, none, none, none, none, none, none, none, none, none, none, none, none, none])))))), (va, .inl (ci, 1, .inl (zi [0])))] sz)) 1 6 (va_A [(xo, .inr (6, [.ref xg, .int gc, .ref xp, .int pc, .ref xq, .int qc, .ref r1, .ref r2, .ref r3, .ref r4, .ref se, .int ts, .int hou, .int dr, .int su, .int br])), (xq, .inl (cq, 16, .inr (.inr (.inr (.inr (zq [none, none, none, none, none, none, none, none, none, none, none, none, none, none, none, none])))))), (va, .inl (ci, 1, .inl (zi [0])))] sz) := by
  refine vx_ofW (cc := cL_asked) (maxL := 3) (ret := (some .int)) (by decide) rfl ?_
  intro p e s m args below meth c s₁ B hml hxt hv
  obtain ⟨rfl, hsz, hP, hK, hD0, hT, hZ⟩ := hv
  have hx := B.exec
  have hb := B.bytes
  have hr := B.returns
  have hts := atoms_spec (ws := wzL_asked_height_no) B.pre
  have hown : s.vm.findClass RL = some m.cls := findClass_of_methodNamed B.named
  have hlocks := B.notSynchronized
  subst hsz
  have hD := hD0.self (sz := s.heap.size)
  generalize hAe : va_A [(xo, .inr (6, [.ref xg, .int gc, .ref xp, .int pc, .ref xq, .int qc, .ref r1, .ref r2, .ref r3, .ref r4, .ref se, .int ts, .int hou, .int dr, .int su, .int br])), (xq, .inl (cq, 16, .inr (.inr (.inr (.inr (zq [none, none, none, none, none, none, none, none, none, none, none, none, none, none, none, none])))))), (va, .inl (ci, 1, .inl (zi [0])))] s.heap.size = A at hD hZ ⊢
  have hA : ∀ q : Nat, s.heap.size ≤ q → A q := fun q h => by rw [← hAe]; exact Or.inr h
  have hS : va_S A s.heap s.heap [] := va_S.rf
  have hl := lv_entry ([.ref xo, .int 105, .ref va]) (n := 3) (Nat.le_of_ble_eq_true rfl)
  rw [lg_entry_eq]
  generalize (lg_sl ([.ref xo, .int 105, .ref va]) ++ List.replicate (3 - (lg_sl ([.ref xo, .int 105, .ref va])).length) Slot.unset).toArray = ls at hl ⊢
  have hl : lv_has ls 3 [(0, .ref xo), (1, .int 105), (2, .ref va)] := hl
  refine lv_iload_n hx hb dL_asked_0 rfl (lv_at hl 1 rfl) ?_
  refine lv_tableIn (off := 290) (tgt := 291) hx hb dL_asked_1 (by decide +kernel) (by decide +kernel) (by decide +kernel) (by decide) ?_
  refine lv_aload_n hx hb dL_asked_291 rfl (lv_at hl 0 rfl) ?_
  refine lv_aload_n hx hb dL_asked_292 rfl (lv_at hl 2 rfl) ?_
  refine lv_iconst (v := 0) hx hb dL_asked_293 (by decide) ?_
  refine va_iald (D := D) (cl := vwCl) hx hb hK hP 2 1 rfl rfl (vp_in_nI (n := 0) (N := 1) (by decide) (by decide)) dL_asked_294 ?_
  refine W.eq (g2 := F0 m 295 ls [.int 0, .ref xo]) rfl ?_
  have hFc := va_free (wc := [(xo, .inr (6, [.ref xg, .int gc, .ref xp, .int pc, .ref xq, .int qc, .ref r1, .ref r2, .ref r3, .ref r4, .ref se, .int ts, .int hou, .int dr, .int su, .int br])), (xq, .inl (cq, 16, .inr (.inr (.inr (.inr (zq [none, none, none, none, none, none, none, none, none, none, none, none, none, none, none, none]))))))]) hD hS hA [0, 1] rfl
  refine vx_calli (vx_runV (As := [.int 0]) (rest := []) ⟨hx, hb, hml, hown, hts⟩ (zc_X6_height_no l hnt D G xo xg gc xp pc xq qc r1 r2 r3 r4 se ts hou dr su br cq s.heap.size) (cwV 1 hts gzL_asked_height_no_X6_height_no_114 rfl rfl rfl (by decide +kernel) ⟨(Nat.le_of_ble_eq_true rfl), (Nat.le_of_ble_eq_true rfl)⟩) ⟨p_RW_blind, va_recv hK hP (ci := 6) (q0 := 0) rfl rfl, (p_RW_at (tc := [(cq, .object "Gatherhouse$Piece")]) (wc := [(xo, .inr (6, [.ref xg, .int gc, .ref xp, .int pc, .ref xq, .int qc, .ref r1, .ref r2, .ref r3, .ref r4, .ref se, .int ts, .int hou, .int dr, .int su, .int br])), (xq, .inl (cq, 16, .inr (.inr (.inr (.inr (zq [none, none, none, none, none, none, none, none, none, none, none, none, none, none, none, none]))))))]) hP hK hD hS hA hT hZ [0, 1] [0] rfl rfl (by decide) rfl [.ref xo, .int 0])⟩ rfl rfl hl.1 rfl (lv_room (Nat.le_of_ble_eq_true rfl)) dL_asked_295 ⟨(Nat.le_of_ble_eq_true rfl), (Nat.le_of_ble_eq_true rfl)⟩) hS (fun q _ h => hFc q h) hFc (fun q _ h => hFc q h) (fun E ce q9 u t H locs ht hvm hpx hBX hz1 hk1 hS hce hcv hcl => ?_) (fun r_1253 u t H locs ht hvm w_1254 hB hz1 hk1 hS => ?_)
  · obtain ⟨hBX, hB⟩ := hBX
    obtain ⟨hP, hD, hK⟩ := q_join (D := D) (wc := [(xo, .inr (6, [.ref xg, .int gc, .ref xp, .int pc, .ref xq, .int qc, .ref r1, .ref r2, .ref r3, .ref r4, .ref se, .int ts, .int hou, .int dr, .int su, .int br])), (xq, .inl (cq, 16, .inr (.inr (.inr (.inr (zq [none, none, none, none, none, none, none, none, none, none, none, none, none, none, none, none]))))))]) (wr := [(va, .inl (ci, 1, .inl (zi [0])))]) (w1 := [(xo, .inr (6, [.ref xg, .int gc, .ref xp, .int pc, .ref xq, .int qc, .ref r1, .ref r2, .ref r3, .ref r4, .ref se, .int ts, .int hou, .int dr, .int su, .int br])), (xq, .inl (cq, 16, .inr (.inr (.inr (.inr (zq [none, none, none, none, none, none, none, none, none, none, none, none, none, none, none, none]))))))]) (tyr := [(ci, .int)]) (ty1 := [(cq, .object "Gatherhouse$Piece")]) hP hD hK [0, 1] [2] [1] rfl rfl (by decide) (by decide) rfl hFc hk1 ht hvm hB
    have hP : va_P D vwCl [(va, .inl (ci, 1, .inl (zi [0]))), (xo, .inr (6, [.ref xg, .int gc, .ref xp, .int pc, .ref xq, .int qc, .ref r1, .ref r2, .ref r3, .ref r4, .ref se, .int ts, .int hou, .int dr, .int su, .int br])), (xq, .inl (cq, 16, .inr (.inr (.inr (.inr (zq [none, none, none, none, none, none, none, none, none, none, none, none, none, none, none, none]))))))] H := hP
    have hD : va_D A [(va, .inl (ci, 1, .inl (zi [0]))), (xo, .inr (6, [.ref xg, .int gc, .ref xp, .int pc, .ref xq, .int qc, .ref r1, .ref r2, .ref r3, .ref r4, .ref se, .int ts, .int hou, .int dr, .int su, .int br])), (xq, .inl (cq, 16, .inr (.inr (.inr (.inr (zq [none, none, none, none, none, none, none, none, none, none, none, none, none, none, none, none]))))))] := hD
    have hK : va_K D vwCl [(ci, .int), (cq, .object "Gatherhouse$Piece")] s := hK
    have hBX : (E = "java/lang/IndexOutOfBoundsException") := hBX
    rcases hBX with rfl
    exact vx_out (fun x h => (hxt x h).elim) hlocks hce hcv hcl (fun t ht hW9 => ⟨(), trivial, ⟨rfl, q_RW_mk hP hK hD [1, 2] [1, 0] rfl rfl (by decide) rfl ht hW9⟩, hS.F ht⟩) hS.2.2 (Nat.le_of_ble_eq_true rfl) (Nat.le_of_ble_eq_true rfl)
  · exact w_1254.elim
def wzEL_ask_height_no : List Cond := [.codeWith yL_ask cL_ask 4 (some .int) ttL_ask, .methodLink RL 73 yL_asked, .static yL_asked, .initialized RL, .code yL_asked cL_asked 3 (some .int), .methodLink RL 114 yX6_height, .instanceMethod yX6_height, .selects RX6 yX6_height yX6_height, .initialized RX6, .code yX6_height cX6_height 2 (some .int), .methodLink RX6 169 yX6_findPiece, .instanceMethod yX6_findPiece, .selects RX6 yX6_findPiece yX6_findPiece, .code yX6_findPiece cX6_findPiece 3 (some (.object "Gatherhouse$Piece")), .fieldLink RX6 30 "Gatherhouse" "pieces" "[LGatherhouse$Piece;", .classLink RX6 365 "java/lang/IndexOutOfBoundsException", .initialized "java/lang/IndexOutOfBoundsException", .classLink RL 79 "java/lang/IndexOutOfBoundsException", .constant RL 81 (-2000000001)]
def wzL_ask_height_no : List Cond := wzEL_ask_height_no ++ (u_ws RX6 TX6 16 ++ ((vx_atS RX6 369 "java/lang/IndexOutOfBoundsException" ["java/lang/RuntimeException", "java/lang/Exception"]).filter goodWord))
theorem zgEL_ask_height_no : wzEL_ask_height_no.all goodWord = true := by decide +kernel
theorem zuL_ask_height_no_X6 : ∀ w ∈ u_ws RX6 TX6 16, w ∈ wzL_ask_height_no := (fun _ h => (List.mem_append_right _ (List.mem_append_left _ h)))
theorem ztL_ask_height_no_X6_369 : ∀ w ∈ (vx_atS RX6 369 "java/lang/IndexOutOfBoundsException" ["java/lang/RuntimeException", "java/lang/Exception"]).filter goodWord, w ∈ wzL_ask_height_no := (fun _ h => (List.mem_append_right _ (List.mem_append_right _ h)))
theorem gzL_ask_height_no_L_asked_height_no_73 : GoodIn wzL_ask_height_no (va_wsS RL 73 yL_asked wzL_asked_height_no) := (goodIn_app (z_lift (goodIn_r _ [1, 2, 3] rfl (by decide +kernel))) (goodIn_app (z_lift (goodIn_r wzEL_asked_height_no [4, 5, 6, 7, 8, 9, 10, 11, 12, 13, 14, 15, 16] rfl zgEL_asked_height_no)) (goodIn_app (goodIn_sub (fun _ h => (List.mem_append_right _ (List.mem_append_left _ h))) zgU_X6) (goodIn_sub (fun _ h => (List.mem_append_right _ (List.mem_append_right _ h))) zgV_X6_369))))
set_option maxHeartbeats 4000000 in
set_option maxRecDepth 100000 in
theorem zc_L_ask_height_no (l : Launch) (hnt : l.stackTraces = false) (D : va_G) (G : Nat × Nat × (Nat → Int32)) (xo : Nat) (va : Nat) (xg : Nat) (gc : Int32) (xp : Nat) (pc : Int32) (xq : Nat) (qc : Int32) (r1 : Nat) (r2 : Nat) (r3 : Nat) (r4 : Nat) (se : Nat) (ts : Int32) (hou : Int32) (dr : Int32) (su : Int32) (br : Int32) (cq : ClassId) (ci : ClassId) (sz : Nat) : vx_Met l yL_ask wzL_ask_height_no ({ frames := 9, cells := 1, slots := 6, locals := 147 }) (va_Pc [.ref xo, .int 105, .ref va] (p_RW D G [(cq, .object "Gatherhouse$Piece"), (ci, .int)] [(xo, .inr (6, [.ref xg, .int gc, .ref xp, .int pc, .ref xq, .int qc, .ref r1, .ref r2, .ref r3, .ref r4, .ref se, .int ts, .int hou, .int dr, .int su, .int br])), (xq, .inl (cq, 16, .inr (.inr (.inr (.inr (zq [none, none, none, none, none, none, none, none, none, none, none, none, none, none, none, none])))))), (va, .inl (ci, 1, .inl (zi [0])))] sz)) (va_Qi (fun (r : Int32) (u : Unit) => r = (-2000000001)) (fun (u : Unit) (t : State) => q_RW D [(cq, .object "Gatherhouse$Piece")] [(xo, .inr (6, [.ref xg, .int gc, .ref xp, .int pc, .ref xq, .int qc, .ref r1, .ref r2, .ref r3, .ref r4, .ref se, .int ts, .int hou, .int dr, .int su, .int br])), (xq, .inl (cq, 16, .inr (.inr (.inr (.inr (zq [none, none, none, none, none, none, none, none, none, none, none, none, none, none, none, none]))))))] (va_A [(xo, .inr (6, [.ref xg, .int gc, .ref xp, .int pc, .ref xq, .int qc, .ref r1, .ref r2, .ref r3, .ref r4, .ref se, .int ts, .int hou, .int dr, .int su, .int br])), (xq, .inl (cq, 16, .inr (.inr (.inr (.inr (zq [none, none, none, none, none, none, none, none, none, none, none, none, none, none, none, none])))))), (va, .inl (ci, 1, .inl (zi [0])))] sz) t) (va_A [(xo, .inr (6, [.ref xg, .int gc, .ref xp, .int pc, .ref xq, .int qc, .ref r1, .ref r2, .ref r3, .ref r4, .ref se, .int ts, .int hou, .int dr, .int su, .int br])), (xq, .inl (cq, 16, .inr (.inr (.inr (.inr (zq [none, none, none, none, none, none, none, none, none, none, none, none, none, none, none, none])))))), (va, .inl (ci, 1, .inl (zi [0])))] sz)) (vx_X (fun (_ : Unit) => True) (fun E (_ : Unit) (_ : State) => False) (va_A [(xo, .inr (6, [.ref xg, .int gc, .ref xp, .int pc, .ref xq, .int qc, .ref r1, .ref r2, .ref r3, .ref r4, .ref se, .int ts, .int hou, .int dr, .int su, .int br])), (xq, .inl (cq, 16, .inr (.inr (.inr (.inr (zq [none, none, none, none, none, none, none, none, none, none, none, none, none, none, none, none])))))), (va, .inl (ci, 1, .inl (zi [0])))] sz)) 1 6 (va_A [(xo, .inr (6, [.ref xg, .int gc, .ref xp, .int pc, .ref xq, .int qc, .ref r1, .ref r2, .ref r3, .ref r4, .ref se, .int ts, .int hou, .int dr, .int su, .int br])), (xq, .inl (cq, 16, .inr (.inr (.inr (.inr (zq [none, none, none, none, none, none, none, none, none, none, none, none, none, none, none, none])))))), (va, .inl (ci, 1, .inl (zi [0])))] sz) := by
  refine vx_ofWH (cc := cL_ask) (maxL := 4) (ret := (some .int)) (by decide) rfl ?_
  intro p e s m args below meth c s₁ B hml hv
  obtain ⟨rfl, hsz, hP, hK, hD0, hT, hZ⟩ := hv
  have hx := B.exec
  have hb := B.bytes
  have hr := B.returns
  have hts := atoms_spec (ws := wzL_ask_height_no) B.pre
  have hown : s.vm.findClass RL = some m.cls := findClass_of_methodNamed B.named
  have hlocks := B.notSynchronized
  have hxe := vx_table (x := yL_ask) B (hts _ List.mem_cons_self)
  subst hsz
  have hD := hD0.self (sz := s.heap.size)
  generalize hAe : va_A [(xo, .inr (6, [.ref xg, .int gc, .ref xp, .int pc, .ref xq, .int qc, .ref r1, .ref r2, .ref r3, .ref r4, .ref se, .int ts, .int hou, .int dr, .int su, .int br])), (xq, .inl (cq, 16, .inr (.inr (.inr (.inr (zq [none, none, none, none, none, none, none, none, none, none, none, none, none, none, none, none])))))), (va, .inl (ci, 1, .inl (zi [0])))] s.heap.size = A at hD hZ ⊢
  have hA : ∀ q : Nat, s.heap.size ≤ q → A q := fun q h => by rw [← hAe]; exact Or.inr h
  have hS : va_S A s.heap s.heap [] := va_S.rf
  have hl := lv_entry ([.ref xo, .int 105, .ref va]) (n := 4) (Nat.le_of_ble_eq_true rfl)
  rw [lg_entry_eq]
  generalize (lg_sl ([.ref xo, .int 105, .ref va]) ++ List.replicate (4 - (lg_sl ([.ref xo, .int 105, .ref va])).length) Slot.unset).toArray = ls at hl ⊢
  have hl : lv_has ls 4 [(0, .ref xo), (1, .int 105), (2, .ref va)] := hl
  refine lv_iload_n hx hb dL_ask_0 rfl (lv_at hl 1 rfl) ?_
  refine lv_tableIn (off := 460) (tgt := 461) hx hb dL_ask_1 (by decide +kernel) (by decide +kernel) (by decide +kernel) (by decide) ?_
  refine lv_aload_n hx hb dL_ask_461 rfl (lv_at hl 0 rfl) ?_
  refine lv_iload_n hx hb dL_ask_462 rfl (lv_at hl 1 rfl) ?_
  refine lv_aload_n hx hb dL_ask_463 rfl (lv_at hl 2 rfl) ?_
  have hFc := va_free (wc := [(xo, .inr (6, [.ref xg, .int gc, .ref xp, .int pc, .ref xq, .int qc, .ref r1, .ref r2, .ref r3, .ref r4, .ref se, .int ts, .int hou, .int dr, .int su, .int br])), (xq, .inl (cq, 16, .inr (.inr (.inr (.inr (zq [none, none, none, none, none, none, none, none, none, none, none, none, none, none, none, none])))))), (va, .inl (ci, 1, .inl (zi [0])))]) hD hS hA [0, 1, 2] rfl
  refine vx_calli (vx_runS (As := [.ref xo, .int 105, .ref va]) (rest := []) ⟨hx, hb, hml, hown, hts⟩ (zc_L_asked_height_no l hnt D G xo va xg gc xp pc xq qc r1 r2 r3 r4 se ts hou dr su br cq ci s.heap.size) (cwS 3 hts gzL_ask_height_no_L_asked_height_no_73 rfl rfl rfl (by decide +kernel) ⟨(Nat.le_of_ble_eq_true rfl), (Nat.le_of_ble_eq_true rfl)⟩) ⟨p_RW_blind, (p_RW_at (tc := [(cq, .object "Gatherhouse$Piece"), (ci, .int)]) (wc := [(xo, .inr (6, [.ref xg, .int gc, .ref xp, .int pc, .ref xq, .int qc, .ref r1, .ref r2, .ref r3, .ref r4, .ref se, .int ts, .int hou, .int dr, .int su, .int br])), (xq, .inl (cq, 16, .inr (.inr (.inr (.inr (zq [none, none, none, none, none, none, none, none, none, none, none, none, none, none, none, none])))))), (va, .inl (ci, 1, .inl (zi [0])))]) hP hK hD hS hA hT hZ [0, 1, 2] [0, 1] rfl rfl (by decide) rfl [.ref xo, .int 105, .ref va])⟩ rfl rfl hl.1 rfl (lv_room (Nat.le_of_ble_eq_true rfl)) dL_ask_464 ⟨(Nat.le_of_ble_eq_true rfl), (Nat.le_of_ble_eq_true rfl)⟩) hS (fun q _ h => hFc q h) hFc (fun q _ h => hFc q h) (fun E ce q9 u t H locs ht hvm hpx hBX hz1 hk1 hS hce hcv hcl => ?_) (fun r_1255 u t H locs ht hvm w_1256 hB hz1 hk1 hS => ?_)
  · obtain ⟨hBX, hB⟩ := hBX
    obtain ⟨hP, hD, hK⟩ := q_join (D := D) (wc := [(xo, .inr (6, [.ref xg, .int gc, .ref xp, .int pc, .ref xq, .int qc, .ref r1, .ref r2, .ref r3, .ref r4, .ref se, .int ts, .int hou, .int dr, .int su, .int br])), (xq, .inl (cq, 16, .inr (.inr (.inr (.inr (zq [none, none, none, none, none, none, none, none, none, none, none, none, none, none, none, none])))))), (va, .inl (ci, 1, .inl (zi [0])))]) (wr := []) (w1 := [(xo, .inr (6, [.ref xg, .int gc, .ref xp, .int pc, .ref xq, .int qc, .ref r1, .ref r2, .ref r3, .ref r4, .ref se, .int ts, .int hou, .int dr, .int su, .int br])), (xq, .inl (cq, 16, .inr (.inr (.inr (.inr (zq [none, none, none, none, none, none, none, none, none, none, none, none, none, none, none, none]))))))]) (tyr := []) (ty1 := [(cq, .object "Gatherhouse$Piece"), (ci, .int)]) hP hD hK [0, 1, 2] [] [] rfl rfl (by decide) (by decide) rfl hFc hk1 ht hvm hB
    have hP : va_P D vwCl [(xo, .inr (6, [.ref xg, .int gc, .ref xp, .int pc, .ref xq, .int qc, .ref r1, .ref r2, .ref r3, .ref r4, .ref se, .int ts, .int hou, .int dr, .int su, .int br])), (xq, .inl (cq, 16, .inr (.inr (.inr (.inr (zq [none, none, none, none, none, none, none, none, none, none, none, none, none, none, none, none]))))))] H := hP
    have hD : va_D A [(xo, .inr (6, [.ref xg, .int gc, .ref xp, .int pc, .ref xq, .int qc, .ref r1, .ref r2, .ref r3, .ref r4, .ref se, .int ts, .int hou, .int dr, .int su, .int br])), (xq, .inl (cq, 16, .inr (.inr (.inr (.inr (zq [none, none, none, none, none, none, none, none, none, none, none, none, none, none, none, none]))))))] := hD
    have hK : va_K D vwCl [(cq, .object "Gatherhouse$Piece"), (ci, .int)] s := hK
    have hBX : (E = "java/lang/IndexOutOfBoundsException") := hBX
    rcases hBX with rfl
    refine z_catch (own := RL) (name := "java/lang/IndexOutOfBoundsException") (hh := ttL_ask) (x := ⟨461, 467, 468, 79⟩) hown hxe 19 rfl [] (by decide +kernel) (fun _ h => absurd h List.not_mem_nil) (by decide) (by decide) (hts (.classLink RL 79 "java/lang/IndexOutOfBoundsException") (by decide +kernel)) (va_Nw.use rfl (hT.2.2.1 ("java/lang/IndexOutOfBoundsException", "java/lang/IndexOutOfBoundsException") (by decide +kernel))) hce hcv hcl ?_
    refine W.eq (g2 := F0 m 468 ls [.ref q9]) rfl ?_
    refine lv_astore_n (lv' := [(3, .ref q9), (0, .ref xo), (1, .int 105), (2, .ref va)]) hx hb dL_ask_468 rfl hl (by decide) rfl (fun ls hl => ?_)
    refine lv_ldc (v := (-2000000001)) hx hb hown (hts (.constant RL 81 (-2000000001)) (by decide +kernel)) dL_ask_469 ?_
    refine vx_ret ?_
    exact W.iret (v := (-2000000001)) hx hb hr (fun t ht hW => ⟨⟨(-2000000001), (), rfl, rfl, q_RW_mk hP hK hD [0, 1] [0] rfl rfl (by decide) rfl ht hW.alike⟩, hS.F ht⟩) hS.2.2 dL_ask_471
  · exact w_1256.elim
theorem dL_asked_299 : decode cL_asked 299 = .ok (.aload_n 0, 1) := by decide +kernel
theorem dL_asked_300 : decode cL_asked 300 = .ok (.aload_n 2, 1) := by decide +kernel
theorem dL_asked_301 : decode cL_asked 301 = .ok (.iconst 0, 1) := by decide +kernel
theorem dL_asked_302 : decode cL_asked 302 = .ok (.iaload, 1) := by decide +kernel
theorem dL_asked_303 : decode cL_asked 303 = .ok (.invokevirtual 117, 3) := by decide +kernel
def wzEL_asked_layers_no : List Cond := [.code yL_asked cL_asked 3 (some .int), .methodLink RL 117 yX6_layers, .instanceMethod yX6_layers, .selects RX6 yX6_layers yX6_layers, .initialized RX6, .code yX6_layers cX6_layers 2 (some .int), .methodLink RX6 169 yX6_findPiece, .instanceMethod yX6_findPiece, .selects RX6 yX6_findPiece yX6_findPiece, .code yX6_findPiece cX6_findPiece 3 (some (.object "Gatherhouse$Piece")), .fieldLink RX6 30 "Gatherhouse" "pieces" "[LGatherhouse$Piece;", .classLink RX6 365 "java/lang/IndexOutOfBoundsException", .initialized "java/lang/IndexOutOfBoundsException"]
def wzL_asked_layers_no : List Cond := wzEL_asked_layers_no ++ (u_ws RX6 TX6 16 ++ ((vx_atS RX6 369 "java/lang/IndexOutOfBoundsException" ["java/lang/RuntimeException", "java/lang/Exception"]).filter goodWord))
theorem zgEL_asked_layers_no : wzEL_asked_layers_no.all goodWord = true := by decide +kernel
theorem zuL_asked_layers_no_X6 : ∀ w ∈ u_ws RX6 TX6 16, w ∈ wzL_asked_layers_no := (fun _ h => (List.mem_append_right _ (List.mem_append_left _ h)))
theorem ztL_asked_layers_no_X6_369 : ∀ w ∈ (vx_atS RX6 369 "java/lang/IndexOutOfBoundsException" ["java/lang/RuntimeException", "java/lang/Exception"]).filter goodWord, w ∈ wzL_asked_layers_no := (fun _ h => (List.mem_append_right _ (List.mem_append_right _ h)))
theorem gzL_asked_layers_no_X6_layers_no_117 : GoodIn wzL_asked_layers_no (wsV RL 117 RX6 yX6_layers wzX6_layers_no) := (goodIn_app (z_lift (goodIn_r _ [1, 2, 3, 4] rfl (by decide +kernel))) (goodIn_app (z_lift (goodIn_r wzEX6_layers_no [5, 6, 7, 8, 4, 9, 10, 11, 12] rfl zgEX6_layers_no)) (goodIn_app (goodIn_sub (fun _ h => (List.mem_append_right _ (List.mem_append_left _ h))) zgU_X6) (goodIn_sub (fun _ h => (List.mem_append_right _ (List.mem_append_right _ h))) zgV_X6_369))))
set_option maxHeartbeats 4000000 in
set_option maxRecDepth 100000 in
theorem zc_L_asked_layers_no (l : Launch) (hnt : l.stackTraces = false) (D : va_G) (G : Nat × Nat × (Nat → Int32)) (xo : Nat) (va : Nat) (xg : Nat) (gc : Int32) (xp : Nat) (pc : Int32) (xq : Nat) (qc : Int32) (r1 : Nat) (r2 : Nat) (r3 : Nat) (r4 : Nat) (se : Nat) (ts : Int32) (hou : Int32) (dr : Int32) (su : Int32) (br : Int32) (cq : ClassId) (ci : ClassId) (sz : Nat) : vx_Met l yL_asked wzL_asked_layers_no ({ frames := 8, cells := 1, slots := 6, locals := 125 }) (va_Pc [.ref xo, .int 108, .ref va] (p_RW D G [(cq, .object "Gatherhouse$Piece"), (ci, .int)] [(xo, .inr (6, [.ref xg, .int gc, .ref xp, .int pc, .ref xq, .int qc, .ref r1, .ref r2, .ref r3, .ref r4, .ref se, .int ts, .int hou, .int dr, .int su, .int br])), (xq, .inl (cq, 16, .inr (.inr (.inr (.inr (zq [none, none, none, none, none, none, none, none, none, none, none, none, none, none, none, none])))))), (va, .inl (ci, 1, .inl (zi [0])))] sz)) (va_Qi (fun (r : Int32) (u : Unit) => False) (fun (u : Unit) (t : State) => q_RW D [(cq, .object "Gatherhouse$Piece")] [(xo, .inr (6, [.ref xg, .int gc, .ref xp, .int pc, .ref xq, .int qc, .ref r1, .ref r2, .ref r3, .ref r4, .ref se, .int ts, .int hou, .int dr, .int su, .int br])), (xq, .inl (cq, 16, .inr (.inr (.inr (.inr (zq [none, none, none, none, none, none, none, none, none, none, none, none, none, none, none, none]))))))] (va_A [(xo, .inr (6, [.ref xg, .int gc, .ref xp, .int pc, .ref xq, .int qc, .ref r1, .ref r2, .ref r3, .ref r4, .ref se, .int ts, .int hou, .int dr, .int su, .int br])), (xq, .inl (cq, 16, .inr (.inr (.inr (.inr (zq [none, none, none, none, none, none, none, none, none, none, none, none, none, none, none, none])))))), (va, .inl (ci, 1, .inl (zi [0])))] sz) t) (va_A [(xo, .inr (6, [.ref xg, .int gc, .ref xp, .int pc, .ref xq, .int qc, .ref r1, .ref r2, .ref r3, .ref r4, .ref se, .int ts, .int hou, .int dr, .int su, .int br])), (xq, .inl (cq, 16, .inr (.inr (.inr (.inr (zq [none, none, none, none, none, none, none, none, none, none, none, none, none, none, none, none])))))), (va, .inl (ci, 1, .inl (zi [0])))] sz)) (vx_X (fun (_ : Unit) => True) (fun E (_ : Unit) (t : State) => ((E = "java/lang/IndexOutOfBoundsException")) ∧ q_RW D [(cq, .object "Gatherhouse$Piece"), (ci, .int)] [(xo, .inr (6, [.ref xg, .int gc, .ref xp, .int pc, .ref xq, .int qc, .ref r1, .ref r2, .ref r3, .ref r4, .ref se, .int ts, .int hou, .int dr, .int su, .int br])), (xq, .inl (cq, 16, .inr (.inr (.inr (.inr (zq [none, none, none, none, none, none, none, none, none, none, none, none, none, none, none, none]))))))] (va_A [(xo, .inr (6, [.ref xg, .int gc, .ref xp, .int pc, .ref xq, .int qc, .ref r1, .ref r2, .ref r3, .ref r4, .ref se, .int ts, .int hou, .int dr, .int su, .int br])), (xq, .inl (cq, 16, .inr (.inr (.inr (.inr (zq [none, none, none, none, none, none, none, none, none, none, none, none, none, none, none, none])))))), (va, .inl (ci, 1, .inl (zi [0])))] sz) t) (va_A [(xo, .inr (6, [.ref xg, .int gc, .ref xp, .int pc, .ref xq, .int qc, .ref r1, .ref r2, .ref r3, .ref r4, .ref se, .int ts, .int hou, .int dr, .int su, .int br])), (xq, .inl (cq, 16, .inr (.inr (.inr (.inr (zq [none, none, none, none, none, none, none, none, none, none, none, none, none, none, none, none])))))), (va, .inl (ci, 1, .inl (zi [0])))] sz)) 1 6 (va_A [(xo, .inr (6, [.ref xg, .int gc, .ref xp, .int pc, .ref xq, .int qc, .ref r1, .ref r2, .ref r3, .ref r4, .ref se, .int ts, .int hou, .int dr, .int su, .int br])), (xq, .inl (cq, 16, .inr (.inr (.inr (.inr (zq [none, none, none, none, none, none, none, none, none, none, none, none, none, none, none, none])))))), (va, .inl (ci, 1, .inl (zi [0])))] sz) := by
  refine vx_ofW (cc := cL_asked) (maxL := 3) (ret := (some .int)) (by decide) rfl ?_
  intro p e s m args below meth c s₁ B hml hxt hv
  obtain ⟨rfl, hsz, hP, hK, hD0, hT, hZ⟩ := hv
  have hx := B.exec
  have hb := B.bytes
  have hr := B.returns
  have hts := atoms_spec (ws := wzL_asked_layers_no) B.pre
  have hown : s.vm.findClass RL = some m.cls := findClass_of_methodNamed B.named
  have hlocks := B.notSynchronized
  subst hsz
  have hD := hD0.self (sz := s.heap.size)
  generalize hAe : va_A [(xo, .inr (6, [.ref xg, .int gc, .ref xp, .int pc, .ref xq, .int qc, .ref r1, .ref r2, .ref r3, .ref r4, .ref se, .int ts, .int hou, .int dr, .int su, .int br])), (xq, .inl (cq, 16, .inr (.inr (.inr (.inr (zq [none, none, none, none, none, none, none, none, none, none, none, none, none, none, none, none])))))), (va, .inl (ci, 1, .inl (zi [0])))] s.heap.size = A at hD hZ ⊢
  have hA : ∀ q : Nat, s.heap.size ≤ q → A q := fun q h => by rw [← hAe]; exact Or.inr h
  have hS : va_S A s.heap s.heap [] := va_S.rf
  have hl := lv_entry ([.ref xo, .int 108, .ref va]) (n := 3) (Nat.le_of_ble_eq_true rfl)
  rw [lg_entry_eq]
  generalize (lg_sl ([.ref xo, .int 108, .ref va]) ++ List.replicate (3 - (lg_sl ([.ref xo, .int 108, .ref va])).length) Slot.unset).toArray = ls at hl ⊢
  have hl : lv_has ls 3 [(0, .ref xo), (1, .int 108), (2, .ref va)] := hl
  refine lv_iload_n hx hb dL_asked_0 rfl (lv_at hl 1 rfl) ?_
  refine lv_tableIn (off := 298) (tgt := 299) hx hb dL_asked_1 (by decide +kernel) (by decide +kernel) (by decide +kernel) (by decide) ?_
  refine lv_aload_n hx hb dL_asked_299 rfl (lv_at hl 0 rfl) ?_
  refine lv_aload_n hx hb dL_asked_300 rfl (lv_at hl 2 rfl) ?_
  refine lv_iconst (v := 0) hx hb dL_asked_301 (by decide) ?_
  refine va_iald (D := D) (cl := vwCl) hx hb hK hP 2 1 rfl rfl (vp_in_nI (n := 0) (N := 1) (by decide) (by decide)) dL_asked_302 ?_
  refine W.eq (g2 := F0 m 303 ls [.int 0, .ref xo]) rfl ?_
  have hFc := va_free (wc := [(xo, .inr (6, [.ref xg, .int gc, .ref xp, .int pc, .ref xq, .int qc, .ref r1, .ref r2, .ref r3, .ref r4, .ref se, .int ts, .int hou, .int dr, .int su, .int br])), (xq, .inl (cq, 16, .inr (.inr (.inr (.inr (zq [none, none, none, none, none, none, none, none, none, none, none, none, none, none, none, none]))))))]) hD hS hA [0, 1] rfl
  refine vx_calli (vx_runV (As := [.int 0]) (rest := []) ⟨hx, hb, hml, hown, hts⟩ (zc_X6_layers_no l hnt D G xo xg gc xp pc xq qc r1 r2 r3 r4 se ts hou dr su br cq s.heap.size) (cwV 1 hts gzL_asked_layers_no_X6_layers_no_117 rfl rfl rfl (by decide +kernel) ⟨(Nat.le_of_ble_eq_true rfl), (Nat.le_of_ble_eq_true rfl)⟩) ⟨p_RW_blind, va_recv hK hP (ci := 6) (q0 := 0) rfl rfl, (p_RW_at (tc := [(cq, .object "Gatherhouse$Piece")]) (wc := [(xo, .inr (6, [.ref xg, .int gc, .ref xp, .int pc, .ref xq, .int qc, .ref r1, .ref r2, .ref r3, .ref r4, .ref se, .int ts, .int hou, .int dr, .int su, .int br])), (xq, .inl (cq, 16, .inr (.inr (.inr (.inr (zq [none, none, none, none, none, none, none, none, none, none, none, none, none, none, none, none]))))))]) hP hK hD hS hA hT hZ [0, 1] [0] rfl rfl (by decide) rfl [.ref xo, .int 0])⟩ rfl rfl hl.1 rfl (lv_room (Nat.le_of_ble_eq_true rfl)) dL_asked_303 ⟨(Nat.le_of_ble_eq_true rfl), (Nat.le_of_ble_eq_true rfl)⟩) hS (fun q _ h => hFc q h) hFc (fun q _ h => hFc q h) (fun E ce q9 u t H locs ht hvm hpx hBX hz1 hk1 hS hce hcv hcl => ?_) (fun r_1257 u t H locs ht hvm w_1258 hB hz1 hk1 hS => ?_)
  · obtain ⟨hBX, hB⟩ := hBX
    obtain ⟨hP, hD, hK⟩ := q_join (D := D) (wc := [(xo, .inr (6, [.ref xg, .int gc, .ref xp, .int pc, .ref xq, .int qc, .ref r1, .ref r2, .ref r3, .ref r4, .ref se, .int ts, .int hou, .int dr, .int su, .int br])), (xq, .inl (cq, 16, .inr (.inr (.inr (.inr (zq [none, none, none, none, none, none, none, none, none, none, none, none, none, none, none, none]))))))]) (wr := [(va, .inl (ci, 1, .inl (zi [0])))]) (w1 := [(xo, .inr (6, [.ref xg, .int gc, .ref xp, .int pc, .ref xq, .int qc, .ref r1, .ref r2, .ref r3, .ref r4, .ref se, .int ts, .int hou, .int dr, .int su, .int br])), (xq, .inl (cq, 16, .inr (.inr (.inr (.inr (zq [none, none, none, none, none, none, none, none, none, none, none, none, none, none, none, none]))))))]) (tyr := [(ci, .int)]) (ty1 := [(cq, .object "Gatherhouse$Piece")]) hP hD hK [0, 1] [2] [1] rfl rfl (by decide) (by decide) rfl hFc hk1 ht hvm hB
    have hP : va_P D vwCl [(va, .inl (ci, 1, .inl (zi [0]))), (xo, .inr (6, [.ref xg, .int gc, .ref xp, .int pc, .ref xq, .int qc, .ref r1, .ref r2, .ref r3, .ref r4, .ref se, .int ts, .int hou, .int dr, .int su, .int br])), (xq, .inl (cq, 16, .inr (.inr (.inr (.inr (zq [none, none, none, none, none, none, none, none, none, none, none, none, none, none, none, none]))))))] H := hP
    have hD : va_D A [(va, .inl (ci, 1, .inl (zi [0]))), (xo, .inr (6, [.ref xg, .int gc, .ref xp, .int pc, .ref xq, .int qc, .ref r1, .ref r2, .ref r3, .ref r4, .ref se, .int ts, .int hou, .int dr, .int su, .int br])), (xq, .inl (cq, 16, .inr (.inr (.inr (.inr (zq [none, none, none, none, none, none, none, none, none, none, none, none, none, none, none, none]))))))] := hD
    have hK : va_K D vwCl [(ci, .int), (cq, .object "Gatherhouse$Piece")] s := hK
    have hBX : (E = "java/lang/IndexOutOfBoundsException") := hBX
    rcases hBX with rfl
    exact vx_out (fun x h => (hxt x h).elim) hlocks hce hcv hcl (fun t ht hW9 => ⟨(), trivial, ⟨rfl, q_RW_mk hP hK hD [1, 2] [1, 0] rfl rfl (by decide) rfl ht hW9⟩, hS.F ht⟩) hS.2.2 (Nat.le_of_ble_eq_true rfl) (Nat.le_of_ble_eq_true rfl)
  · exact w_1258.elim
def wzEL_ask_layers_no : List Cond := [.codeWith yL_ask cL_ask 4 (some .int) ttL_ask, .methodLink RL 73 yL_asked, .static yL_asked, .initialized RL, .code yL_asked cL_asked 3 (some .int), .methodLink RL 117 yX6_layers, .instanceMethod yX6_layers, .selects RX6 yX6_layers yX6_layers, .initialized RX6, .code yX6_layers cX6_layers 2 (some .int), .methodLink RX6 169 yX6_findPiece, .instanceMethod yX6_findPiece, .selects RX6 yX6_findPiece yX6_findPiece, .code yX6_findPiece cX6_findPiece 3 (some (.object "Gatherhouse$Piece")), .fieldLink RX6 30 "Gatherhouse" "pieces" "[LGatherhouse$Piece;", .classLink RX6 365 "java/lang/IndexOutOfBoundsException", .initialized "java/lang/IndexOutOfBoundsException", .classLink RL 79 "java/lang/IndexOutOfBoundsException", .constant RL 81 (-2000000001)]
def wzL_ask_layers_no : List Cond := wzEL_ask_layers_no ++ (u_ws RX6 TX6 16 ++ ((vx_atS RX6 369 "java/lang/IndexOutOfBoundsException" ["java/lang/RuntimeException", "java/lang/Exception"]).filter goodWord))
theorem zgEL_ask_layers_no : wzEL_ask_layers_no.all goodWord = true := by decide +kernel
theorem zuL_ask_layers_no_X6 : ∀ w ∈ u_ws RX6 TX6 16, w ∈ wzL_ask_layers_no := (fun _ h => (List.mem_append_right _ (List.mem_append_left _ h)))
theorem ztL_ask_layers_no_X6_369 : ∀ w ∈ (vx_atS RX6 369 "java/lang/IndexOutOfBoundsException" ["java/lang/RuntimeException", "java/lang/Exception"]).filter goodWord, w ∈ wzL_ask_layers_no := (fun _ h => (List.mem_append_right _ (List.mem_append_right _ h)))
theorem gzL_ask_layers_no_L_asked_layers_no_73 : GoodIn wzL_ask_layers_no (va_wsS RL 73 yL_asked wzL_asked_layers_no) := (goodIn_app (z_lift (goodIn_r _ [1, 2, 3] rfl (by decide +kernel))) (goodIn_app (z_lift (goodIn_r wzEL_asked_layers_no [4, 5, 6, 7, 8, 9, 10, 11, 12, 13, 14, 15, 16] rfl zgEL_asked_layers_no)) (goodIn_app (goodIn_sub (fun _ h => (List.mem_append_right _ (List.mem_append_left _ h))) zgU_X6) (goodIn_sub (fun _ h => (List.mem_append_right _ (List.mem_append_right _ h))) zgV_X6_369))))
set_option maxHeartbeats 4000000 in
set_option maxRecDepth 100000 in
theorem zc_L_ask_layers_no (l : Launch) (hnt : l.stackTraces = false) (D : va_G) (G : Nat × Nat × (Nat → Int32)) (xo : Nat) (va : Nat) (xg : Nat) (gc : Int32) (xp : Nat) (pc : Int32) (xq : Nat) (qc : Int32) (r1 : Nat) (r2 : Nat) (r3 : Nat) (r4 : Nat) (se : Nat) (ts : Int32) (hou : Int32) (dr : Int32) (su : Int32) (br : Int32) (cq : ClassId) (ci : ClassId) (sz : Nat) : vx_Met l yL_ask wzL_ask_layers_no ({ frames := 9, cells := 1, slots := 6, locals := 147 }) (va_Pc [.ref xo, .int 108, .ref va] (p_RW D G [(cq, .object "Gatherhouse$Piece"), (ci, .int)] [(xo, .inr (6, [.ref xg, .int gc, .ref xp, .int pc, .ref xq, .int qc, .ref r1, .ref r2, .ref r3, .ref r4, .ref se, .int ts, .int hou, .int dr, .int su, .int br])), (xq, .inl (cq, 16, .inr (.inr (.inr (.inr (zq [none, none, none, none, none, none, none, none, none, none, none, none, none, none, none, none])))))), (va, .inl (ci, 1, .inl (zi [0])))] sz)) (va_Qi (fun (r : Int32) (u : Unit) => r = (-2000000001)) (fun (u : Unit) (t : State) => q_RW D [(cq, .object "Gatherhouse$Piece")] [(xo, .inr (6, [.ref xg, .int gc, .ref xp, .int pc, .ref xq, .int qc, .ref r1, .ref r2, .ref r3, .ref r4, .ref se, .int ts, .int hou, .int dr, .int su, .int br])), (xq, .inl (cq, 16, .inr (.inr (.inr (.inr (zq [none, none, none, none, none, none, none, none, none, none, none, none, none, none, none, none]))))))] (va_A [(xo, .inr (6, [.ref xg, .int gc, .ref xp, .int pc, .ref xq, .int qc, .ref r1, .ref r2, .ref r3, .ref r4, .ref se, .int ts, .int hou, .int dr, .int su, .int br])), (xq, .inl (cq, 16, .inr (.inr (.inr (.inr (zq [none, none, none, none, none, none, none, none, none, none, none, none, none, none, none, none])))))), (va, .inl (ci, 1, .inl (zi [0])))] sz) t) (va_A [(xo, .inr (6, [.ref xg, .int gc, .ref xp, .int pc, .ref xq, .int qc, .ref r1, .ref r2, .ref r3, .ref r4, .ref se, .int ts, .int hou, .int dr, .int su, .int br])), (xq, .inl (cq, 16, .inr (.inr (.inr (.inr (zq [none, none, none, none, none, none, none, none, none, none, none, none, none, none, none, none])))))), (va, .inl (ci, 1, .inl (zi [0])))] sz)) (vx_X (fun (_ : Unit) => True) (fun E (_ : Unit) (_ : State) => False) (va_A [(xo, .inr (6, [.ref xg, .int gc, .ref xp, .int pc, .ref xq, .int qc, .ref r1, .ref r2, .ref r3, .ref r4, .ref se, .int ts, .int hou, .int dr, .int su, .int br])), (xq, .inl (cq, 16, .inr (.inr (.inr (.inr (zq [none, none, none, none, none, none, none, none, none, none, none, none, none, none, none, none])))))), (va, .inl (ci, 1, .inl (zi [0])))] sz)) 1 6 (va_A [(xo, .inr (6, [.ref xg, .int gc, .ref xp, .int pc, .ref xq, .int qc, .ref r1, .ref r2, .ref r3, .ref r4, .ref se, .int ts, .int hou, .int dr, .int su, .int br])), (xq, .inl (cq, 16, .inr (.inr (.inr (.inr (zq [none, none, none, none, none, none, none, none, none, none, none, none, none, none, none, none])))))), (va, .inl (ci, 1, .inl (zi [0])))] sz) := by
  refine vx_ofWH (cc := cL_ask) (maxL := 4) (ret := (some .int)) (by decide) rfl ?_
  intro p e s m args below meth c s₁ B hml hv
  obtain ⟨rfl, hsz, hP, hK, hD0, hT, hZ⟩ := hv
  have hx := B.exec
  have hb := B.bytes
  have hr := B.returns
  have hts := atoms_spec (ws := wzL_ask_layers_no) B.pre
  have hown : s.vm.findClass RL = some m.cls := findClass_of_methodNamed B.named
  have hlocks := B.notSynchronized
  have hxe := vx_table (x := yL_ask) B (hts _ List.mem_cons_self)
  subst hsz
  have hD := hD0.self (sz := s.heap.size)
  generalize hAe : va_A [(xo, .inr (6, [.ref xg, .int gc, .ref xp, .int pc, .ref xq, .int qc, .ref r1, .ref r2, .ref r3, .ref r4, .ref se, .int ts, .int hou, .int dr, .int su, .int br])), (xq, .inl (cq, 16, .inr (.inr (.inr (.inr (zq [none, none, none, none, none, none, none, none, none, none, none, none, none, none, none, none])))))), (va, .inl (ci, 1, .inl (zi [0])))] s.heap.size = A at hD hZ ⊢
  have hA : ∀ q : Nat, s.heap.size ≤ q → A q := fun q h => by rw [← hAe]; exact Or.inr h
  have hS : va_S A s.heap s.heap [] := va_S.rf
  have hl := lv_entry ([.ref xo, .int 108, .ref va]) (n := 4) (Nat.le_of_ble_eq_true rfl)
  rw [lg_entry_eq]
  generalize (lg_sl ([.ref xo, .int 108, .ref va]) ++ List.replicate (4 - (lg_sl ([.ref xo, .int 108, .ref va])).length) Slot.unset).toArray = ls at hl ⊢
  have hl : lv_has ls 4 [(0, .ref xo), (1, .int 108), (2, .ref va)] := hl
  refine lv_iload_n hx hb dL_ask_0 rfl (lv_at hl 1 rfl) ?_
  refine lv_tableIn (off := 460) (tgt := 461) hx hb dL_ask_1 (by decide +kernel) (by decide +kernel) (by decide +kernel) (by decide) ?_
  refine lv_aload_n hx hb dL_ask_461 rfl (lv_at hl 0 rfl) ?_
  refine lv_iload_n hx hb dL_ask_462 rfl (lv_at hl 1 rfl) ?_
  refine lv_aload_n hx hb dL_ask_463 rfl (lv_at hl 2 rfl) ?_
  have hFc := va_free (wc := [(xo, .inr (6, [.ref xg, .int gc, .ref xp, .int pc, .ref xq, .int qc, .ref r1, .ref r2, .ref r3, .ref r4, .ref se, .int ts, .int hou, .int dr, .int su, .int br])), (xq, .inl (cq, 16, .inr (.inr (.inr (.inr (zq [none, none, none, none, none, none, none, none, none, none, none, none, none, none, none, none])))))), (va, .inl (ci, 1, .inl (zi [0])))]) hD hS hA [0, 1, 2] rfl
  refine vx_calli (vx_runS (As := [.ref xo, .int 108, .ref va]) (rest := []) ⟨hx, hb, hml, hown, hts⟩ (zc_L_asked_layers_no l hnt D G xo va xg gc xp pc xq qc r1 r2 r3 r4 se ts hou dr su br cq ci s.heap.size) (cwS 3 hts gzL_ask_layers_no_L_asked_layers_no_73 rfl rfl rfl (by decide +kernel) ⟨(Nat.le_of_ble_eq_true rfl), (Nat.le_of_ble_eq_true rfl)⟩) ⟨p_RW_blind, (p_RW_at (tc := [(cq, .object "Gatherhouse$Piece"), (ci, .int)]) (wc := [(xo, .inr (6, [.ref xg, .int gc, .ref xp, .int pc, .ref xq, .int qc, .ref r1, .ref r2, .ref r3, .ref r4, .ref se, .int ts, .int hou, .int dr, .int su, .int br])), (xq, .inl (cq, 16, .inr (.inr (.inr (.inr (zq [none, none, none, none, none, none, none, none, none, none, none, none, none, none, none, none])))))), (va, .inl (ci, 1, .inl (zi [0])))]) hP hK hD hS hA hT hZ [0, 1, 2] [0, 1] rfl rfl (by decide) rfl [.ref xo, .int 108, .ref va])⟩ rfl rfl hl.1 rfl (lv_room (Nat.le_of_ble_eq_true rfl)) dL_ask_464 ⟨(Nat.le_of_ble_eq_true rfl), (Nat.le_of_ble_eq_true rfl)⟩) hS (fun q _ h => hFc q h) hFc (fun q _ h => hFc q h) (fun E ce q9 u t H locs ht hvm hpx hBX hz1 hk1 hS hce hcv hcl => ?_) (fun r_1259 u t H locs ht hvm w_1260 hB hz1 hk1 hS => ?_)
  · obtain ⟨hBX, hB⟩ := hBX
    obtain ⟨hP, hD, hK⟩ := q_join (D := D) (wc := [(xo, .inr (6, [.ref xg, .int gc, .ref xp, .int pc, .ref xq, .int qc, .ref r1, .ref r2, .ref r3, .ref r4, .ref se, .int ts, .int hou, .int dr, .int su, .int br])), (xq, .inl (cq, 16, .inr (.inr (.inr (.inr (zq [none, none, none, none, none, none, none, none, none, none, none, none, none, none, none, none])))))), (va, .inl (ci, 1, .inl (zi [0])))]) (wr := []) (w1 := [(xo, .inr (6, [.ref xg, .int gc, .ref xp, .int pc, .ref xq, .int qc, .ref r1, .ref r2, .ref r3, .ref r4, .ref se, .int ts, .int hou, .int dr, .int su, .int br])), (xq, .inl (cq, 16, .inr (.inr (.inr (.inr (zq [none, none, none, none, none, none, none, none, none, none, none, none, none, none, none, none]))))))]) (tyr := []) (ty1 := [(cq, .object "Gatherhouse$Piece"), (ci, .int)]) hP hD hK [0, 1, 2] [] [] rfl rfl (by decide) (by decide) rfl hFc hk1 ht hvm hB
    have hP : va_P D vwCl [(xo, .inr (6, [.ref xg, .int gc, .ref xp, .int pc, .ref xq, .int qc, .ref r1, .ref r2, .ref r3, .ref r4, .ref se, .int ts, .int hou, .int dr, .int su, .int br])), (xq, .inl (cq, 16, .inr (.inr (.inr (.inr (zq [none, none, none, none, none, none, none, none, none, none, none, none, none, none, none, none]))))))] H := hP
    have hD : va_D A [(xo, .inr (6, [.ref xg, .int gc, .ref xp, .int pc, .ref xq, .int qc, .ref r1, .ref r2, .ref r3, .ref r4, .ref se, .int ts, .int hou, .int dr, .int su, .int br])), (xq, .inl (cq, 16, .inr (.inr (.inr (.inr (zq [none, none, none, none, none, none, none, none, none, none, none, none, none, none, none, none]))))))] := hD
    have hK : va_K D vwCl [(cq, .object "Gatherhouse$Piece"), (ci, .int)] s := hK
    have hBX : (E = "java/lang/IndexOutOfBoundsException") := hBX
    rcases hBX with rfl
    refine z_catch (own := RL) (name := "java/lang/IndexOutOfBoundsException") (hh := ttL_ask) (x := ⟨461, 467, 468, 79⟩) hown hxe 19 rfl [] (by decide +kernel) (fun _ h => absurd h List.not_mem_nil) (by decide) (by decide) (hts (.classLink RL 79 "java/lang/IndexOutOfBoundsException") (by decide +kernel)) (va_Nw.use rfl (hT.2.2.1 ("java/lang/IndexOutOfBoundsException", "java/lang/IndexOutOfBoundsException") (by decide +kernel))) hce hcv hcl ?_
    refine W.eq (g2 := F0 m 468 ls [.ref q9]) rfl ?_
    refine lv_astore_n (lv' := [(3, .ref q9), (0, .ref xo), (1, .int 108), (2, .ref va)]) hx hb dL_ask_468 rfl hl (by decide) rfl (fun ls hl => ?_)
    refine lv_ldc (v := (-2000000001)) hx hb hown (hts (.constant RL 81 (-2000000001)) (by decide +kernel)) dL_ask_469 ?_
    refine vx_ret ?_
    exact W.iret (v := (-2000000001)) hx hb hr (fun t ht hW => ⟨⟨(-2000000001), (), rfl, rfl, q_RW_mk hP hK hD [0, 1] [0] rfl rfl (by decide) rfl ht hW.alike⟩, hS.F ht⟩) hS.2.2 dL_ask_471
  · exact w_1260.elim
theorem dL_asked_307 : decode cL_asked 307 = .ok (.aload_n 0, 1) := by decide +kernel
theorem dL_asked_308 : decode cL_asked 308 = .ok (.aload_n 2, 1) := by decide +kernel
theorem dL_asked_309 : decode cL_asked 309 = .ok (.iconst 0, 1) := by decide +kernel
theorem dL_asked_310 : decode cL_asked 310 = .ok (.iaload, 1) := by decide +kernel
theorem dL_asked_311 : decode cL_asked 311 = .ok (.invokevirtual 120, 3) := by decide +kernel
def wzEL_asked_flaws_no : List Cond := [.code yL_asked cL_asked 3 (some .int), .methodLink RL 120 yX6_flaws, .instanceMethod yX6_flaws, .selects RX6 yX6_flaws yX6_flaws, .initialized RX6, .code yX6_flaws cX6_flaws 2 (some .int), .methodLink RX6 169 yX6_findPiece, .instanceMethod yX6_findPiece, .selects RX6 yX6_findPiece yX6_findPiece, .code yX6_findPiece cX6_findPiece 3 (some (.object "Gatherhouse$Piece")), .fieldLink RX6 30 "Gatherhouse" "pieces" "[LGatherhouse$Piece;", .classLink RX6 365 "java/lang/IndexOutOfBoundsException", .initialized "java/lang/IndexOutOfBoundsException"]
def wzL_asked_flaws_no : List Cond := wzEL_asked_flaws_no ++ (u_ws RX6 TX6 16 ++ ((vx_atS RX6 369 "java/lang/IndexOutOfBoundsException" ["java/lang/RuntimeException", "java/lang/Exception"]).filter goodWord))
theorem zgEL_asked_flaws_no : wzEL_asked_flaws_no.all goodWord = true := by decide +kernel
theorem zuL_asked_flaws_no_X6 : ∀ w ∈ u_ws RX6 TX6 16, w ∈ wzL_asked_flaws_no := (fun _ h => (List.mem_append_right _ (List.mem_append_left _ h)))
theorem ztL_asked_flaws_no_X6_369 : ∀ w ∈ (vx_atS RX6 369 "java/lang/IndexOutOfBoundsException" ["java/lang/RuntimeException", "java/lang/Exception"]).filter goodWord, w ∈ wzL_asked_flaws_no := (fun _ h => (List.mem_append_right _ (List.mem_append_right _ h)))
theorem gzL_asked_flaws_no_X6_flaws_no_120 : GoodIn wzL_asked_flaws_no (wsV RL 120 RX6 yX6_flaws wzX6_flaws_no) := (goodIn_app (z_lift (goodIn_r _ [1, 2, 3, 4] rfl (by decide +kernel))) (goodIn_app (z_lift (goodIn_r wzEX6_flaws_no [5, 6, 7, 8, 4, 9, 10, 11, 12] rfl zgEX6_flaws_no)) (goodIn_app (goodIn_sub (fun _ h => (List.mem_append_right _ (List.mem_append_left _ h))) zgU_X6) (goodIn_sub (fun _ h => (List.mem_append_right _ (List.mem_append_right _ h))) zgV_X6_369))))
set_option maxHeartbeats 4000000 in
set_option maxRecDepth 100000 in
theorem zc_L_asked_flaws_no (l : Launch) (hnt : l.stackTraces = false) (D : va_G) (G : Nat × Nat × (Nat → Int32)) (xo : Nat) (va : Nat) (xg : Nat) (gc : Int32) (xp : Nat) (pc : Int32) (xq : Nat) (qc : Int32) (r1 : Nat) (r2 : Nat) (r3 : Nat) (r4 : Nat) (se : Nat) (ts : Int32) (hou : Int32) (dr : Int32) (su : Int32) (br : Int32) (cq : ClassId) (ci : ClassId) (sz : Nat) : vx_Met l yL_asked wzL_asked_flaws_no ({ frames := 8, cells := 1, slots := 6, locals := 125 }) (va_Pc [.ref xo, .int 102, .ref va] (p_RW D G [(cq, .object "Gatherhouse$Piece"), (ci, .int)] [(xo, .inr (6, [.ref xg, .int gc, .ref xp, .int pc, .ref xq, .int qc, .ref r1, .ref r2, .ref r3, .ref r4, .ref se, .int ts, .int hou, .int dr, .int su, .int br])), (xq, .inl (cq, 16, .inr (.inr (.inr (.inr (zq [none, none, none, none, none, none, none, none, none, none, none, none, none, none, none, none])))))), (va, .inl (ci, 1, .inl (zi [0])))] sz)) (va_Qi (fun (r : Int32) (u : Unit) => False) (fun (u : Unit) (t : State) => q_RW D [(cq, .object "Gatherhouse$Piece")] [(xo, .inr (6, [.ref xg, .int gc, .ref xp, .int pc, .ref xq, .int qc, .ref r1, .ref r2, .ref r3, .ref r4, .ref se, .int ts, .int hou, .int dr, .int su, .int br])), (xq, .inl (cq, 16, .inr (.inr (.inr (.inr (zq [none, none, none, none, none, none, none, none, none, none, none, none, none, none, none, none]))))))] (va_A [(xo, .inr (6, [.ref xg, .int gc, .ref xp, .int pc, .ref xq, .int qc, .ref r1, .ref r2, .ref r3, .ref r4, .ref se, .int ts, .int hou, .int dr, .int su, .int br])), (xq, .inl (cq, 16, .inr (.inr (.inr (.inr (zq [none, none, none, none, none, none, none, none, none, none, none, none, none, none, none, none])))))), (va, .inl (ci, 1, .inl (zi [0])))] sz) t) (va_A [(xo, .inr (6, [.ref xg, .int gc, .ref xp, .int pc, .ref xq, .int qc, .ref r1, .ref r2, .ref r3, .ref r4, .ref se, .int ts, .int hou, .int dr, .int su, .int br])), (xq, .inl (cq, 16, .inr (.inr (.inr (.inr (zq [none, none, none, none, none, none, none, none, none, none, none, none, none, none, none, none])))))), (va, .inl (ci, 1, .inl (zi [0])))] sz)) (vx_X (fun (_ : Unit) => True) (fun E (_ : Unit) (t : State) => ((E = "java/lang/IndexOutOfBoundsException")) ∧ q_RW D [(cq, .object "Gatherhouse$Piece"), (ci, .int)] [(xo, .inr (6, [.ref xg, .int gc, .ref xp, .int pc, .ref xq, .int qc, .ref r1, .ref r2, .ref r3, .ref r4, .ref se, .int ts, .int hou, .int dr, .int su, .int br])), (xq, .inl (cq, 16, .inr (.inr (.inr (.inr (zq [none, none, none, none, none, none, none, none, none, none, none, none, none, none, none, none]))))))] (va_A [(xo, .inr (6, [.ref xg, .int gc, .ref xp, .int pc, .ref xq, .int qc, .ref r1, .ref r2, .ref r3, .ref r4, .ref se, .int ts, .int hou, .int dr, .int su, .int br])), (xq, .inl (cq, 16, .inr (.inr (.inr (.inr (zq [none, none, none, none, none, none, none, none, none, none, none, none, none, none, none, none])))))), (va, .inl (ci, 1, .inl (zi [0])))] sz) t) (va_A [(xo, .inr (6, [.ref xg, .int gc, .ref xp, .int pc, .ref xq, .int qc, .ref r1, .ref r2, .ref r3, .ref r4, .ref se, .int ts, .int hou, .int dr, .int su, .int br])), (xq, .inl (cq, 16, .inr (.inr (.inr (.inr (zq [none, none, none, none, none, none, none, none, none, none, none, none, none, none, none, none])))))), (va, .inl (ci, 1, .inl (zi [0])))] sz)) 1 6 (va_A [(xo, .inr (6, [.ref xg, .int gc, .ref xp, .int pc, .ref xq, .int qc, .ref r1, .ref r2, .ref r3, .ref r4, .ref se, .int ts, .int hou, .int dr, .int su, .int br])), (xq, .inl (cq, 16, .inr (.inr (.inr (.inr (zq [none, none, none, none, none, none, none, none, none, none, none, none, none, none, none, none])))))), (va, .inl (ci, 1, .inl (zi [0])))] sz) := by
  refine vx_ofW (cc := cL_asked) (maxL := 3) (ret := (some .int)) (by decide) rfl ?_
  intro p e s m args below meth c s₁ B hml hxt hv
  obtain ⟨rfl, hsz, hP, hK, hD0, hT, hZ⟩ := hv
  have hx := B.exec
  have hb := B.bytes
  have hr := B.returns
  have hts := atoms_spec (ws := wzL_asked_flaws_no) B.pre
  have hown : s.vm.findClass RL = some m.cls := findClass_of_methodNamed B.named
  have hlocks := B.notSynchronized
  subst hsz
  have hD := hD0.self (sz := s.heap.size)
  generalize hAe : va_A [(xo, .inr (6, [.ref xg, .int gc, .ref xp, .int pc, .ref xq, .int qc, .ref r1, .ref r2, .ref r3, .ref r4, .ref se, .int ts, .int hou, .int dr, .int su, .int br])), (xq, .inl (cq, 16, .inr (.inr (.inr (.inr (zq [none, none, none, none, none, none, none, none, none, none, none, none, none, none, none, none])))))), (va, .inl (ci, 1, .inl (zi [0])))] s.heap.size = A at hD hZ ⊢
  have hA : ∀ q : Nat, s.heap.size ≤ q → A q := fun q h => by rw [← hAe]; exact Or.inr h
  have hS : va_S A s.heap s.heap [] := va_S.rf
  have hl := lv_entry ([.ref xo, .int 102, .ref va]) (n := 3) (Nat.le_of_ble_eq_true rfl)
  rw [lg_entry_eq]
  generalize (lg_sl ([.ref xo, .int 102, .ref va]) ++ List.replicate (3 - (lg_sl ([.ref xo, .int 102, .ref va])).length) Slot.unset).toArray = ls at hl ⊢
  have hl : lv_has ls 3 [(0, .ref xo), (1, .int 102), (2, .ref va)] := hl
  refine lv_iload_n hx hb dL_asked_0 rfl (lv_at hl 1 rfl) ?_
  refine lv_tableIn (off := 306) (tgt := 307) hx hb dL_asked_1 (by decide +kernel) (by decide +kernel) (by decide +kernel) (by decide) ?_
  refine lv_aload_n hx hb dL_asked_307 rfl (lv_at hl 0 rfl) ?_
  refine lv_aload_n hx hb dL_asked_308 rfl (lv_at hl 2 rfl) ?_
  refine lv_iconst (v := 0) hx hb dL_asked_309 (by decide) ?_
  refine va_iald (D := D) (cl := vwCl) hx hb hK hP 2 1 rfl rfl (vp_in_nI (n := 0) (N := 1) (by decide) (by decide)) dL_asked_310 ?_
  refine W.eq (g2 := F0 m 311 ls [.int 0, .ref xo]) rfl ?_
  have hFc := va_free (wc := [(xo, .inr (6, [.ref xg, .int gc, .ref xp, .int pc, .ref xq, .int qc, .ref r1, .ref r2, .ref r3, .ref r4, .ref se, .int ts, .int hou, .int dr, .int su, .int br])), (xq, .inl (cq, 16, .inr (.inr (.inr (.inr (zq [none, none, none, none, none, none, none, none, none, none, none, none, none, none, none, none]))))))]) hD hS hA [0, 1] rfl
  refine vx_calli (vx_runV (As := [.int 0]) (rest := []) ⟨hx, hb, hml, hown, hts⟩ (zc_X6_flaws_no l hnt D G xo xg gc xp pc xq qc r1 r2 r3 r4 se ts hou dr su br cq s.heap.size) (cwV 1 hts gzL_asked_flaws_no_X6_flaws_no_120 rfl rfl rfl (by decide +kernel) ⟨(Nat.le_of_ble_eq_true rfl), (Nat.le_of_ble_eq_true rfl)⟩) ⟨p_RW_blind, va_recv hK hP (ci := 6) (q0 := 0) rfl rfl, (p_RW_at (tc := [(cq, .object "Gatherhouse$Piece")]) (wc := [(xo, .inr (6, [.ref xg, .int gc, .ref xp, .int pc, .ref xq, .int qc, .ref r1, .ref r2, .ref r3, .ref r4, .ref se, .int ts, .int hou, .int dr, .int su, .int br])), (xq, .inl (cq, 16, .inr (.inr (.inr (.inr (zq [none, none, none, none, none, none, none, none, none, none, none, none, none, none, none, none]))))))]) hP hK hD hS hA hT hZ [0, 1] [0] rfl rfl (by decide) rfl [.ref xo, .int 0])⟩ rfl rfl hl.1 rfl (lv_room (Nat.le_of_ble_eq_true rfl)) dL_asked_311 ⟨(Nat.le_of_ble_eq_true rfl), (Nat.le_of_ble_eq_true rfl)⟩) hS (fun q _ h => hFc q h) hFc (fun q _ h => hFc q h) (fun E ce q9 u t H locs ht hvm hpx hBX hz1 hk1 hS hce hcv hcl => ?_) (fun r_1261 u t H locs ht hvm w_1262 hB hz1 hk1 hS => ?_)
  · obtain ⟨hBX, hB⟩ := hBX
    obtain ⟨hP, hD, hK⟩ := q_join (D := D) (wc := [(xo, .inr (6, [.ref xg, .int gc, .ref xp, .int pc, .ref xq, .int qc, .ref r1, .ref r2, .ref r3, .ref r4, .ref se, .int ts, .int hou, .int dr, .int su, .int br])), (xq, .inl (cq, 16, .inr (.inr (.inr (.inr (zq [none, none, none, none, none, none, none, none, none, none, none, none, none, none, none, none]))))))]) (wr := [(va, .inl (ci, 1, .inl (zi [0])))]) (w1 := [(xo, .inr (6, [.ref xg, .int gc, .ref xp, .int pc, .ref xq, .int qc, .ref r1, .ref r2, .ref r3, .ref r4, .ref se, .int ts, .int hou, .int dr, .int su, .int br])), (xq, .inl (cq, 16, .inr (.inr (.inr (.inr (zq [none, none, none, none, none, none, none, none, none, none, none, none, none, none, none, none]))))))]) (tyr := [(ci, .int)]) (ty1 := [(cq, .object "Gatherhouse$Piece")]) hP hD hK [0, 1] [2] [1] rfl rfl (by decide) (by decide) rfl hFc hk1 ht hvm hB
    have hP : va_P D vwCl [(va, .inl (ci, 1, .inl (zi [0]))), (xo, .inr (6, [.ref xg, .int gc, .ref xp, .int pc, .ref xq, .int qc, .ref r1, .ref r2, .ref r3, .ref r4, .ref se, .int ts, .int hou, .int dr, .int su, .int br])), (xq, .inl (cq, 16, .inr (.inr (.inr (.inr (zq [none, none, none, none, none, none, none, none, none, none, none, none, none, none, none, none]))))))] H := hP
    have hD : va_D A [(va, .inl (ci, 1, .inl (zi [0]))), (xo, .inr (6, [.ref xg, .int gc, .ref xp, .int pc, .ref xq, .int qc, .ref r1, .ref r2, .ref r3, .ref r4, .ref se, .int ts, .int hou, .int dr, .int su, .int br])), (xq, .inl (cq, 16, .inr (.inr (.inr (.inr (zq [none, none, none, none, none, none, none, none, none, none, none, none, none, none, none, none]))))))] := hD
    have hK : va_K D vwCl [(ci, .int), (cq, .object "Gatherhouse$Piece")] s := hK
    have hBX : (E = "java/lang/IndexOutOfBoundsException") := hBX
    rcases hBX with rfl
    exact vx_out (fun x h => (hxt x h).elim) hlocks hce hcv hcl (fun t ht hW9 => ⟨(), trivial, ⟨rfl, q_RW_mk hP hK hD [1, 2] [1, 0] rfl rfl (by decide) rfl ht hW9⟩, hS.F ht⟩) hS.2.2 (Nat.le_of_ble_eq_true rfl) (Nat.le_of_ble_eq_true rfl)
  · exact w_1262.elim
def wzEL_ask_flaws_no : List Cond := [.codeWith yL_ask cL_ask 4 (some .int) ttL_ask, .methodLink RL 73 yL_asked, .static yL_asked, .initialized RL, .code yL_asked cL_asked 3 (some .int), .methodLink RL 120 yX6_flaws, .instanceMethod yX6_flaws, .selects RX6 yX6_flaws yX6_flaws, .initialized RX6, .code yX6_flaws cX6_flaws 2 (some .int), .methodLink RX6 169 yX6_findPiece, .instanceMethod yX6_findPiece, .selects RX6 yX6_findPiece yX6_findPiece, .code yX6_findPiece cX6_findPiece 3 (some (.object "Gatherhouse$Piece")), .fieldLink RX6 30 "Gatherhouse" "pieces" "[LGatherhouse$Piece;", .classLink RX6 365 "java/lang/IndexOutOfBoundsException", .initialized "java/lang/IndexOutOfBoundsException", .classLink RL 79 "java/lang/IndexOutOfBoundsException", .constant RL 81 (-2000000001)]
def wzL_ask_flaws_no : List Cond := wzEL_ask_flaws_no ++ (u_ws RX6 TX6 16 ++ ((vx_atS RX6 369 "java/lang/IndexOutOfBoundsException" ["java/lang/RuntimeException", "java/lang/Exception"]).filter goodWord))
theorem zgEL_ask_flaws_no : wzEL_ask_flaws_no.all goodWord = true := by decide +kernel
theorem zuL_ask_flaws_no_X6 : ∀ w ∈ u_ws RX6 TX6 16, w ∈ wzL_ask_flaws_no := (fun _ h => (List.mem_append_right _ (List.mem_append_left _ h)))
theorem ztL_ask_flaws_no_X6_369 : ∀ w ∈ (vx_atS RX6 369 "java/lang/IndexOutOfBoundsException" ["java/lang/RuntimeException", "java/lang/Exception"]).filter goodWord, w ∈ wzL_ask_flaws_no := (fun _ h => (List.mem_append_right _ (List.mem_append_right _ h)))
theorem gzL_ask_flaws_no_L_asked_flaws_no_73 : GoodIn wzL_ask_flaws_no (va_wsS RL 73 yL_asked wzL_asked_flaws_no) := (goodIn_app (z_lift (goodIn_r _ [1, 2, 3] rfl (by decide +kernel))) (goodIn_app (z_lift (goodIn_r wzEL_asked_flaws_no [4, 5, 6, 7, 8, 9, 10, 11, 12, 13, 14, 15, 16] rfl zgEL_asked_flaws_no)) (goodIn_app (goodIn_sub (fun _ h => (List.mem_append_right _ (List.mem_append_left _ h))) zgU_X6) (goodIn_sub (fun _ h => (List.mem_append_right _ (List.mem_append_right _ h))) zgV_X6_369))))
set_option maxHeartbeats 4000000 in
set_option maxRecDepth 100000 in
theorem zc_L_ask_flaws_no (l : Launch) (hnt : l.stackTraces = false) (D : va_G) (G : Nat × Nat × (Nat → Int32)) (xo : Nat) (va : Nat) (xg : Nat) (gc : Int32) (xp : Nat) (pc : Int32) (xq : Nat) (qc : Int32) (r1 : Nat) (r2 : Nat) (r3 : Nat) (r4 : Nat) (se : Nat) (ts : Int32) (hou : Int32) (dr : Int32) (su : Int32) (br : Int32) (cq : ClassId) (ci : ClassId) (sz : Nat) : vx_Met l yL_ask wzL_ask_flaws_no ({ frames := 9, cells := 1, slots := 6, locals := 147 }) (va_Pc [.ref xo, .int 102, .ref va] (p_RW D G [(cq, .object "Gatherhouse$Piece"), (ci, .int)] [(xo, .inr (6, [.ref xg, .int gc, .ref xp, .int pc, .ref xq, .int qc, .ref r1, .ref r2, .ref r3, .ref r4, .ref se, .int ts, .int hou, .int dr, .int su, .int br])), (xq, .inl (cq, 16, .inr (.inr (.inr (.inr (zq [none, none, none, none, none, none, none, none, none, none, none, none, none, none, none, none])))))), (va, .inl (ci, 1, .inl (zi [0])))] sz)) (va_Qi (fun (r : Int32) (u : Unit) => r = (-2000000001)) (fun (u : Unit) (t : State) => q_RW D [(cq, .object "Gatherhouse$Piece")] [(xo, .inr (6, [.ref xg, .int gc, .ref xp, .int pc, .ref xq, .int qc, .ref r1, .ref r2, .ref r3, .ref r4, .ref se, .int ts, .int hou, .int dr, .int su, .int br])), (xq, .inl (cq, 16, .inr (.inr (.inr (.inr (zq [none, none, none, none, none, none, none, none, none, none, none, none, none, none, none, none]))))))] (va_A [(xo, .inr (6, [.ref xg, .int gc, .ref xp, .int pc, .ref xq, .int qc, .ref r1, .ref r2, .ref r3, .ref r4, .ref se, .int ts, .int hou, .int dr, .int su, .int br])), (xq, .inl (cq, 16, .inr (.inr (.inr (.inr (zq [none, none, none, none, none, none, none, none, none, none, none, none, none, none, none, none])))))), (va, .inl (ci, 1, .inl (zi [0])))] sz) t) (va_A [(xo, .inr (6, [.ref xg, .int gc, .ref xp, .int pc, .ref xq, .int qc, .ref r1, .ref r2, .ref r3, .ref r4, .ref se, .int ts, .int hou, .int dr, .int su, .int br])), (xq, .inl (cq, 16, .inr (.inr (.inr (.inr (zq [none, none, none, none, none, none, none, none, none, none, none, none, none, none, none, none])))))), (va, .inl (ci, 1, .inl (zi [0])))] sz)) (vx_X (fun (_ : Unit) => True) (fun E (_ : Unit) (_ : State) => False) (va_A [(xo, .inr (6, [.ref xg, .int gc, .ref xp, .int pc, .ref xq, .int qc, .ref r1, .ref r2, .ref r3, .ref r4, .ref se, .int ts, .int hou, .int dr, .int su, .int br])), (xq, .inl (cq, 16, .inr (.inr (.inr (.inr (zq [none, none, none, none, none, none, none, none, none, none, none, none, none, none, none, none])))))), (va, .inl (ci, 1, .inl (zi [0])))] sz)) 1 6 (va_A [(xo, .inr (6, [.ref xg, .int gc, .ref xp, .int pc, .ref xq, .int qc, .ref r1, .ref r2, .ref r3, .ref r4, .ref se, .int ts, .int hou, .int dr, .int su, .int br])), (xq, .inl (cq, 16, .inr (.inr (.inr (.inr (zq [none, none, none, none, none, none, none, none, none, none, none, none, none, none, none, none])))))), (va, .inl (ci, 1, .inl (zi [0])))] sz) := by
  refine vx_ofWH (cc := cL_ask) (maxL := 4) (ret := (some .int)) (by decide) rfl ?_
  intro p e s m args below meth c s₁ B hml hv
  obtain ⟨rfl, hsz, hP, hK, hD0, hT, hZ⟩ := hv
  have hx := B.exec
  have hb := B.bytes
  have hr := B.returns
  have hts := atoms_spec (ws := wzL_ask_flaws_no) B.pre
  have hown : s.vm.findClass RL = some m.cls := findClass_of_methodNamed B.named
  have hlocks := B.notSynchronized
  have hxe := vx_table (x := yL_ask) B (hts _ List.mem_cons_self)
  subst hsz
  have hD := hD0.self (sz := s.heap.size)
  generalize hAe : va_A [(xo, .inr (6, [.ref xg, .int gc, .ref xp, .int pc, .ref xq, .int qc, .ref r1, .ref r2, .ref r3, .ref r4, .ref se, .int ts, .int hou, .int dr, .int su, .int br])), (xq, .inl (cq, 16, .inr (.inr (.inr (.inr (zq [none, none, none, none, none, none, none, none, none, none, none, none, none, none, none, none])))))), (va, .inl (ci, 1, .inl (zi [0])))] s.heap.size = A at hD hZ ⊢
  have hA : ∀ q : Nat, s.heap.size ≤ q → A q := fun q h => by rw [← hAe]; exact Or.inr h
  have hS : va_S A s.heap s.heap [] := va_S.rf
  have hl := lv_entry ([.ref xo, .int 102, .ref va]) (n := 4) (Nat.le_of_ble_eq_true rfl)
  rw [lg_entry_eq]
  generalize (lg_sl ([.ref xo, .int 102, .ref va]) ++ List.replicate (4 - (lg_sl ([.ref xo, .int 102, .ref va])).length) Slot.unset).toArray = ls at hl ⊢
  have hl : lv_has ls 4 [(0, .ref xo), (1, .int 102), (2, .ref va)] := hl
  refine lv_iload_n hx hb dL_ask_0 rfl (lv_at hl 1 rfl) ?_
  refine lv_tableIn (off := 460) (tgt := 461) hx hb dL_ask_1 (by decide +kernel) (by decide +kernel) (by decide +kernel) (by decide) ?_
  refine lv_aload_n hx hb dL_ask_461 rfl (lv_at hl 0 rfl) ?_
  refine lv_iload_n hx hb dL_ask_462 rfl (lv_at hl 1 rfl) ?_
  refine lv_aload_n hx hb dL_ask_463 rfl (lv_at hl 2 rfl) ?_
  have hFc := va_free (wc := [(xo, .inr (6, [.ref xg, .int gc, .ref xp, .int pc, .ref xq, .int qc, .ref r1, .ref r2, .ref r3, .ref r4, .ref se, .int ts, .int hou, .int dr, .int su, .int br])), (xq, .inl (cq, 16, .inr (.inr (.inr (.inr (zq [none, none, none, none, none, none, none, none, none, none, none, none, none, none, none, none])))))), (va, .inl (ci, 1, .inl (zi [0])))]) hD hS hA [0, 1, 2] rfl
  refine vx_calli (vx_runS (As := [.ref xo, .int 102, .ref va]) (rest := []) ⟨hx, hb, hml, hown, hts⟩ (zc_L_asked_flaws_no l hnt D G xo va xg gc xp pc xq qc r1 r2 r3 r4 se ts hou dr su br cq ci s.heap.size) (cwS 3 hts gzL_ask_flaws_no_L_asked_flaws_no_73 rfl rfl rfl (by decide +kernel) ⟨(Nat.le_of_ble_eq_true rfl), (Nat.le_of_ble_eq_true rfl)⟩) ⟨p_RW_blind, (p_RW_at (tc := [(cq, .object "Gatherhouse$Piece"), (ci, .int)]) (wc := [(xo, .inr (6, [.ref xg, .int gc, .ref xp, .int pc, .ref xq, .int qc, .ref r1, .ref r2, .ref r3, .ref r4, .ref se, .int ts, .int hou, .int dr, .int su, .int br])), (xq, .inl (cq, 16, .inr (.inr (.inr (.inr (zq [none, none, none, none, none, none, none, none, none, none, none, none, none, none, none, none])))))), (va, .inl (ci, 1, .inl (zi [0])))]) hP hK hD hS hA hT hZ [0, 1, 2] [0, 1] rfl rfl (by decide) rfl [.ref xo, .int 102, .ref va])⟩ rfl rfl hl.1 rfl (lv_room (Nat.le_of_ble_eq_true rfl)) dL_ask_464 ⟨(Nat.le_of_ble_eq_true rfl), (Nat.le_of_ble_eq_true rfl)⟩) hS (fun q _ h => hFc q h) hFc (fun q _ h => hFc q h) (fun E ce q9 u t H locs ht hvm hpx hBX hz1 hk1 hS hce hcv hcl => ?_) (fun r_1263 u t H locs ht hvm w_1264 hB hz1 hk1 hS => ?_)
  · obtain ⟨hBX, hB⟩ := hBX
    obtain ⟨hP, hD, hK⟩ := q_join (D := D) (wc := [(xo, .inr (6, [.ref xg, .int gc, .ref xp, .int pc, .ref xq, .int qc, .ref r1, .ref r2, .ref r3, .ref r4, .ref se, .int ts, .int hou, .int dr, .int su, .int br])), (xq, .inl (cq, 16, .inr (.inr (.inr (.inr (zq [none, none, none, none, none, none, none, none, none, none, none, none, none, none, none, none])))))), (va, .inl (ci, 1, .inl (zi [0])))]) (wr := []) (w1 := [(xo, .inr (6, [.ref xg, .int gc, .ref xp, .int pc, .ref xq, .int qc, .ref r1, .ref r2, .ref r3, .ref r4, .ref se, .int ts, .int hou, .int dr, .int su, .int br])), (xq, .inl (cq, 16, .inr (.inr (.inr (.inr (zq [none, none, none, none, none, none, none, none, none, none, none, none, none, none, none, none]))))))]) (tyr := []) (ty1 := [(cq, .object "Gatherhouse$Piece"), (ci, .int)]) hP hD hK [0, 1, 2] [] [] rfl rfl (by decide) (by decide) rfl hFc hk1 ht hvm hB
    have hP : va_P D vwCl [(xo, .inr (6, [.ref xg, .int gc, .ref xp, .int pc, .ref xq, .int qc, .ref r1, .ref r2, .ref r3, .ref r4, .ref se, .int ts, .int hou, .int dr, .int su, .int br])), (xq, .inl (cq, 16, .inr (.inr (.inr (.inr (zq [none, none, none, none, none, none, none, none, none, none, none, none, none, none, none, none]))))))] H := hP
    have hD : va_D A [(xo, .inr (6, [.ref xg, .int gc, .ref xp, .int pc, .ref xq, .int qc, .ref r1, .ref r2, .ref r3, .ref r4, .ref se, .int ts, .int hou, .int dr, .int su, .int br])), (xq, .inl (cq, 16, .inr (.inr (.inr (.inr (zq [none, none, none, none, none, none, none, none, none, none, none, none, none, none, none, none]))))))] := hD
    have hK : va_K D vwCl [(cq, .object "Gatherhouse$Piece"), (ci, .int)] s := hK
    have hBX : (E = "java/lang/IndexOutOfBoundsException") := hBX
    rcases hBX with rfl
    refine z_catch (own := RL) (name := "java/lang/IndexOutOfBoundsException") (hh := ttL_ask) (x := ⟨461, 467, 468, 79⟩) hown hxe 19 rfl [] (by decide +kernel) (fun _ h => absurd h List.not_mem_nil) (by decide) (by decide) (hts (.classLink RL 79 "java/lang/IndexOutOfBoundsException") (by decide +kernel)) (va_Nw.use rfl (hT.2.2.1 ("java/lang/IndexOutOfBoundsException", "java/lang/IndexOutOfBoundsException") (by decide +kernel))) hce hcv hcl ?_
    refine W.eq (g2 := F0 m 468 ls [.ref q9]) rfl ?_
    refine lv_astore_n (lv' := [(3, .ref q9), (0, .ref xo), (1, .int 102), (2, .ref va)]) hx hb dL_ask_468 rfl hl (by decide) rfl (fun ls hl => ?_)
    refine lv_ldc (v := (-2000000001)) hx hb hown (hts (.constant RL 81 (-2000000001)) (by decide +kernel)) dL_ask_469 ?_
    refine vx_ret ?_
    exact W.iret (v := (-2000000001)) hx hb hr (fun t ht hW => ⟨⟨(-2000000001), (), rfl, rfl, q_RW_mk hP hK hD [0, 1] [0] rfl rfl (by decide) rfl ht hW.alike⟩, hS.F ht⟩) hS.2.2 dL_ask_471
  · exact w_1264.elim
theorem dL_asked_315 : decode cL_asked 315 = .ok (.aload_n 0, 1) := by decide +kernel
theorem dL_asked_316 : decode cL_asked 316 = .ok (.aload_n 2, 1) := by decide +kernel
theorem dL_asked_317 : decode cL_asked 317 = .ok (.iconst 0, 1) := by decide +kernel
theorem dL_asked_318 : decode cL_asked 318 = .ok (.iaload, 1) := by decide +kernel
theorem dL_asked_319 : decode cL_asked 319 = .ok (.aload_n 2, 1) := by decide +kernel
theorem dL_asked_320 : decode cL_asked 320 = .ok (.iconst 1, 1) := by decide +kernel
theorem dL_asked_321 : decode cL_asked 321 = .ok (.iaload, 1) := by decide +kernel
theorem dL_asked_322 : decode cL_asked 322 = .ok (.iconst 1, 1) := by decide +kernel
theorem dL_asked_323 : decode cL_asked 323 = .ok (.if_icmp .ne 7, 3) := by decide +kernel
theorem dL_asked_330 : decode cL_asked 330 = .ok (.iconst 0, 1) := by decide +kernel
theorem dL_asked_331 : decode cL_asked 331 = .ok (.invokevirtual 123, 3) := by decide +kernel
def wzEL_asked_low_no : List Cond := [.code yL_asked cL_asked 3 (some .int), .methodLink RL 123 yX6_low, .instanceMethod yX6_low, .selects RX6 yX6_low yX6_low, .initialized RX6, .code yX6_low cX6_low 4 (some .int), .methodLink RX6 169 yX6_findPiece, .instanceMethod yX6_findPiece, .selects RX6 yX6_findPiece yX6_findPiece, .code yX6_findPiece cX6_findPiece 3 (some (.object "Gatherhouse$Piece")), .fieldLink RX6 30 "Gatherhouse" "pieces" "[LGatherhouse$Piece;", .classLink RX6 365 "java/lang/IndexOutOfBoundsException", .initialized "java/lang/IndexOutOfBoundsException"]
def wzL_asked_low_no : List Cond := wzEL_asked_low_no ++ (u_ws RX6 TX6 16 ++ ((vx_atS RX6 369 "java/lang/IndexOutOfBoundsException" ["java/lang/RuntimeException", "java/lang/Exception"]).filter goodWord))
theorem zgEL_asked_low_no : wzEL_asked_low_no.all goodWord = true := by decide +kernel
theorem zuL_asked_low_no_X6 : ∀ w ∈ u_ws RX6 TX6 16, w ∈ wzL_asked_low_no := (fun _ h => (List.mem_append_right _ (List.mem_append_left _ h)))
theorem ztL_asked_low_no_X6_369 : ∀ w ∈ (vx_atS RX6 369 "java/lang/IndexOutOfBoundsException" ["java/lang/RuntimeException", "java/lang/Exception"]).filter goodWord, w ∈ wzL_asked_low_no := (fun _ h => (List.mem_append_right _ (List.mem_append_right _ h)))
theorem gzL_asked_low_no_X6_low_no_123 : GoodIn wzL_asked_low_no (wsV RL 123 RX6 yX6_low wzX6_low_no) := (goodIn_app (z_lift (goodIn_r _ [1, 2, 3, 4] rfl (by decide +kernel))) (goodIn_app (z_lift (goodIn_r wzEX6_low_no [5, 6, 7, 8, 4, 9, 10, 11, 12] rfl zgEX6_low_no)) (goodIn_app (goodIn_sub (fun _ h => (List.mem_append_right _ (List.mem_append_left _ h))) zgU_X6) (goodIn_sub (fun _ h => (List.mem_append_right _ (List.mem_append_right _ h))) zgV_X6_369))))
set_option maxHeartbeats 4000000 in
set_option maxRecDepth 100000 in
theorem zc_L_asked_low_no (l : Launch) (hnt : l.stackTraces = false) (D : va_G) (G : Nat × Nat × (Nat → Int32)) (xo : Nat) (va : Nat) (xg : Nat) (gc : Int32) (xp : Nat) (pc : Int32) (xq : Nat) (qc : Int32) (r1 : Nat) (r2 : Nat) (r3 : Nat) (r4 : Nat) (se : Nat) (ts : Int32) (hou : Int32) (dr : Int32) (su : Int32) (br : Int32) (cq : ClassId) (ci : ClassId) (sz : Nat) : vx_Met l yL_asked wzL_asked_low_no ({ frames := 8, cells := 1, slots := 6, locals := 127 }) (va_Pc [.ref xo, .int 119, .ref va] (p_RW D G [(cq, .object "Gatherhouse$Piece"), (ci, .int)] [(xo, .inr (6, [.ref xg, .int gc, .ref xp, .int pc, .ref xq, .int qc, .ref r1, .ref r2, .ref r3, .ref r4, .ref se, .int ts, .int hou, .int dr, .int su, .int br])), (xq, .inl (cq, 16, .inr (.inr (.inr (.inr (zq [none, none, none, none, none, none, none, none, none, none, none, none, none, none, none, none])))))), (va, .inl (ci, 2, .inl (zi [0, 0])))] sz)) (va_Qi (fun (r : Int32) (u : Unit) => False) (fun (u : Unit) (t : State) => q_RW D [(cq, .object "Gatherhouse$Piece")] [(xo, .inr (6, [.ref xg, .int gc, .ref xp, .int pc, .ref xq, .int qc, .ref r1, .ref r2, .ref r3, .ref r4, .ref se, .int ts, .int hou, .int dr, .int su, .int br])), (xq, .inl (cq, 16, .inr (.inr (.inr (.inr (zq [none, none, none, none, none, none, none, none, none, none, none, none, none, none, none, none]))))))] (va_A [(xo, .inr (6, [.ref xg, .int gc, .ref xp, .int pc, .ref xq, .int qc, .ref r1, .ref r2, .ref r3, .ref r4, .ref se, .int ts, .int hou, .int dr, .int su, .int br])), (xq, .inl (cq, 16, .inr (.inr (.inr (.inr (zq [none, none, none, none, none, none, none, none, none, none, none, none, none, none, none, none])))))), (va, .inl (ci, 2, .inl (zi [0, 0])))] sz) t) (va_A [(xo, .inr (6, [.ref xg, .int gc, .ref xp, .int pc, .ref xq, .int qc, .ref r1, .ref r2, .ref r3, .ref r4, .ref se, .int ts, .int hou, .int dr, .int su, .int br])), (xq, .inl (cq, 16, .inr (.inr (.inr (.inr (zq [none, none, none, none, none, none, none, none, none, none, none, none, none, none, none, none])))))), (va, .inl (ci, 2, .inl (zi [0, 0])))] sz)) (vx_X (fun (_ : Unit) => True) (fun E (_ : Unit) (t : State) => ((E = "java/lang/IndexOutOfBoundsException")) ∧ q_RW D [(cq, .object "Gatherhouse$Piece"), (ci, .int)] [(xo, .inr (6, [.ref xg, .int gc, .ref xp, .int pc, .ref xq, .int qc, .ref r1, .ref r2, .ref r3, .ref r4, .ref se, .int ts, .int hou, .int dr, .int su, .int br])), (xq, .inl (cq, 16, .inr (.inr (.inr (.inr (zq [none, none, none, none, none, none, none, none, none, none, none, none, none, none, none, none]))))))] (va_A [(xo, .inr (6, [.ref xg, .int gc, .ref xp, .int pc, .ref xq, .int qc, .ref r1, .ref r2, .ref r3, .ref r4, .ref se, .int ts, .int hou, .int dr, .int su, .int br])), (xq, .inl (cq, 16, .inr (.inr (.inr (.inr (zq [none, none, none, none, none, none, none, none, none, none, none, none, none, none, none, none])))))), (va, .inl (ci, 2, .inl (zi [0, 0])))] sz) t) (va_A [(xo, .inr (6, [.ref xg, .int gc, .ref xp, .int pc, .ref xq, .int qc, .ref r1, .ref r2, .ref r3, .ref r4, .ref se, .int ts, .int hou, .int dr, .int su, .int br])), (xq, .inl (cq, 16, .inr (.inr (.inr (.inr (zq [none, none, none, none, none, none, none, none, none, none, none, none, none, none, none, none])))))), (va, .inl (ci, 2, .inl (zi [0, 0])))] sz)) 1 6 (va_A [(xo, .inr (6, [.ref xg, .int gc, .ref xp, .int pc, .ref xq, .int qc, .ref r1, .ref r2, .ref r3, .ref r4, .ref se, .int ts, .int hou, .int dr, .int su, .int br])), (xq, .inl (cq, 16, .inr (.inr (.inr (.inr (zq [none, none, none, none, none, none, none, none, none, none, none, none, none, none, none, none])))))), (va, .inl (ci, 2, .inl (zi [0, 0])))] sz) := by
  refine vx_ofW (cc := cL_asked) (maxL := 3) (ret := (some .int)) (by decide) rfl ?_
  intro p e s m args below meth c s₁ B hml hxt hv
  obtain ⟨rfl, hsz, hP, hK, hD0, hT, hZ⟩ := hv
  have hx := B.exec
  have hb := B.bytes
  have hr := B.returns
  have hts := atoms_spec (ws := wzL_asked_low_no) B.pre
  have hown : s.vm.findClass RL = some m.cls := findClass_of_methodNamed B.named
  have hlocks := B.notSynchronized
  subst hsz
  have hD := hD0.self (sz := s.heap.size)
  generalize hAe : va_A [(xo, .inr (6, [.ref xg, .int gc, .ref xp, .int pc, .ref xq, .int qc, .ref r1, .ref r2, .ref r3, .ref r4, .ref se, .int ts, .int hou, .int dr, .int su, .int br])), (xq, .inl (cq, 16, .inr (.inr (.inr (.inr (zq [none, none, none, none, none, none, none, none, none, none, none, none, none, none, none, none])))))), (va, .inl (ci, 2, .inl (zi [0, 0])))] s.heap.size = A at hD hZ ⊢
  have hA : ∀ q : Nat, s.heap.size ≤ q → A q := fun q h => by rw [← hAe]; exact Or.inr h
  have hS : va_S A s.heap s.heap [] := va_S.rf
  have hl := lv_entry ([.ref xo, .int 119, .ref va]) (n := 3) (Nat.le_of_ble_eq_true rfl)
  rw [lg_entry_eq]
  generalize (lg_sl ([.ref xo, .int 119, .ref va]) ++ List.replicate (3 - (lg_sl ([.ref xo, .int 119, .ref va])).length) Slot.unset).toArray = ls at hl ⊢
  have hl : lv_has ls 3 [(0, .ref xo), (1, .int 119), (2, .ref va)] := hl
  refine lv_iload_n hx hb dL_asked_0 rfl (lv_at hl 1 rfl) ?_
  refine lv_tableIn (off := 314) (tgt := 315) hx hb dL_asked_1 (by decide +kernel) (by decide +kernel) (by decide +kernel) (by decide) ?_
  refine lv_aload_n hx hb dL_asked_315 rfl (lv_at hl 0 rfl) ?_
  refine lv_aload_n hx hb dL_asked_316 rfl (lv_at hl 2 rfl) ?_
  refine lv_iconst (v := 0) hx hb dL_asked_317 (by decide) ?_
  refine va_iald (D := D) (cl := vwCl) hx hb hK hP 2 1 rfl rfl (vp_in_nI (n := 0) (N := 2) (by decide) (by decide)) dL_asked_318 ?_
  refine W.eq (g2 := F0 m 319 ls [.int 0, .ref xo]) rfl ?_
  refine lv_aload_n hx hb dL_asked_319 rfl (lv_at hl 2 rfl) ?_
  refine lv_iconst (v := 1) hx hb dL_asked_320 (by decide) ?_
  refine va_iald (D := D) (cl := vwCl) hx hb hK hP 2 1 rfl rfl (vp_in_nI (n := 1) (N := 2) (by decide) (by decide)) dL_asked_321 ?_
  refine W.eq (g2 := F0 m 322 ls [.int 0, .int 0, .ref xo]) rfl ?_
  refine lv_iconst (v := 1) hx hb dL_asked_322 (by decide) ?_
  refine lv_icmp_ne (tgt := 330) hx hb dL_asked_323 (by decide) (fun _ => ?_) (fun cc => absurd cc (by decide))
  refine lv_iconst (v := 0) hx hb dL_asked_330 (by decide) ?_
  have hFc := va_free (wc := [(xo, .inr (6, [.ref xg, .int gc, .ref xp, .int pc, .ref xq, .int qc, .ref r1, .ref r2, .ref r3, .ref r4, .ref se, .int ts, .int hou, .int dr, .int su, .int br])), (xq, .inl (cq, 16, .inr (.inr (.inr (.inr (zq [none, none, none, none, none, none, none, none, none, none, none, none, none, none, none, none]))))))]) hD hS hA [0, 1] rfl
  refine vx_calli (vx_runV (As := [.int 0, .int 0]) (rest := []) ⟨hx, hb, hml, hown, hts⟩ (zc_X6_low_no l hnt D G xo xg gc xp pc xq qc r1 r2 r3 r4 se ts hou dr su br cq s.heap.size) (cwV 2 hts gzL_asked_low_no_X6_low_no_123 rfl rfl rfl (by decide +kernel) ⟨(Nat.le_of_ble_eq_true rfl), (Nat.le_of_ble_eq_true rfl)⟩) ⟨p_RW_blind, va_recv hK hP (ci := 6) (q0 := 0) rfl rfl, (p_RW_at (tc := [(cq, .object "Gatherhouse$Piece")]) (wc := [(xo, .inr (6, [.ref xg, .int gc, .ref xp, .int pc, .ref xq, .int qc, .ref r1, .ref r2, .ref r3, .ref r4, .ref se, .int ts, .int hou, .int dr, .int su, .int br])), (xq, .inl (cq, 16, .inr (.inr (.inr (.inr (zq [none, none, none, none, none, none, none, none, none, none, none, none, none, none, none, none]))))))]) hP hK hD hS hA hT hZ [0, 1] [0] rfl rfl (by decide) rfl [.ref xo, .int 0, .int 0])⟩ rfl rfl hl.1 rfl (lv_room (Nat.le_of_ble_eq_true rfl)) dL_asked_331 ⟨(Nat.le_of_ble_eq_true rfl), (Nat.le_of_ble_eq_true rfl)⟩) hS (fun q _ h => hFc q h) hFc (fun q _ h => hFc q h) (fun E ce q9 u t H locs ht hvm hpx hBX hz1 hk1 hS hce hcv hcl => ?_) (fun r_1265 u t H locs ht hvm w_1266 hB hz1 hk1 hS => ?_)
  · obtain ⟨hBX, hB⟩ := hBX
    obtain ⟨hP, hD, hK⟩ := q_join (D := D) (wc := [(xo, .inr (6, [.ref xg, .int gc, .ref xp, .int pc, .ref xq, .int qc, .ref r1, .ref r2, .ref r3, .ref r4, .ref se, .int ts, .int hou, .int dr, .int su, .int br])), (xq, .inl (cq, 16, .inr (.inr (.inr (.inr (zq [none, none, none, none, none, none, none, none, none, none, none, none, none, none, none, none]))))))]) (wr := [(va, .inl (ci, 2, .inl (zi [0, 0])))]) (w1 := [(xo, .inr (6, [.ref xg, .int gc, .ref xp, .int pc, .ref xq, .int qc, .ref r1, .ref r2, .ref r3, .ref r4, .ref se, .int ts, .int hou, .int dr, .int su, .int br])), (xq, .inl (cq, 16, .inr (.inr (.inr (.inr (zq [none, none, none, none, none, none, none, none, none, none, none, none, none, none, none, none]))))))]) (tyr := [(ci, .int)]) (ty1 := [(cq, .object "Gatherhouse$Piece")]) hP hD hK [0, 1] [2] [1] rfl rfl (by decide) (by decide) rfl hFc hk1 ht hvm hB
    have hP : va_P D vwCl [(va, .inl (ci, 2, .inl (zi [0, 0]))), (xo, .inr (6, [.ref xg, .int gc, .ref xp, .int pc, .ref xq, .int qc, .ref r1, .ref r2, .ref r3, .ref r4, .ref se, .int ts, .int hou, .int dr, .int su, .int br])), (xq, .inl (cq, 16, .inr (.inr (.inr (.inr (zq [none, none, none, none, none, none, none, none, none, none, none, none, none, none, none, none]))))))] H := hP
    have hD : va_D A [(va, .inl (ci, 2, .inl (zi [0, 0]))), (xo, .inr (6, [.ref xg, .int gc, .ref xp, .int pc, .ref xq, .int qc, .ref r1, .ref r2, .ref r3, .ref r4, .ref se, .int ts, .int hou, .int dr, .int su, .int br])), (xq, .inl (cq, 16, .inr (.inr (.inr (.inr (zq [none, none, none, none, none, none, none, none, none, none, none, none, none, none, none, none]))))))] := hD
    have hK : va_K D vwCl [(ci, .int), (cq, .object "Gatherhouse$Piece")] s := hK
    have hBX : (E = "java/lang/IndexOutOfBoundsException") := hBX
    rcases hBX with rfl
    exact vx_out (fun x h => (hxt x h).elim) hlocks hce hcv hcl (fun t ht hW9 => ⟨(), trivial, ⟨rfl, q_RW_mk hP hK hD [1, 2] [1, 0] rfl rfl (by decide) rfl ht hW9⟩, hS.F ht⟩) hS.2.2 (Nat.le_of_ble_eq_true rfl) (Nat.le_of_ble_eq_true rfl)
  · exact w_1266.elim
def wzEL_ask_low_no : List Cond := [.codeWith yL_ask cL_ask 4 (some .int) ttL_ask, .methodLink RL 73 yL_asked, .static yL_asked, .initialized RL, .code yL_asked cL_asked 3 (some .int), .methodLink RL 123 yX6_low, .instanceMethod yX6_low, .selects RX6 yX6_low yX6_low, .initialized RX6, .code yX6_low cX6_low 4 (some .int), .methodLink RX6 169 yX6_findPiece, .instanceMethod yX6_findPiece, .selects RX6 yX6_findPiece yX6_findPiece, .code yX6_findPiece cX6_findPiece 3 (some (.object "Gatherhouse$Piece")), .fieldLink RX6 30 "Gatherhouse" "pieces" "[LGatherhouse$Piece;", .classLink RX6 365 "java/lang/IndexOutOfBoundsException", .initialized "java/lang/IndexOutOfBoundsException", .classLink RL 79 "java/lang/IndexOutOfBoundsException", .constant RL 81 (-2000000001)]
def wzL_ask_low_no : List Cond := wzEL_ask_low_no ++ (u_ws RX6 TX6 16 ++ ((vx_atS RX6 369 "java/lang/IndexOutOfBoundsException" ["java/lang/RuntimeException", "java/lang/Exception"]).filter goodWord))
theorem zgEL_ask_low_no : wzEL_ask_low_no.all goodWord = true := by decide +kernel
theorem zuL_ask_low_no_X6 : ∀ w ∈ u_ws RX6 TX6 16, w ∈ wzL_ask_low_no := (fun _ h => (List.mem_append_right _ (List.mem_append_left _ h)))
theorem ztL_ask_low_no_X6_369 : ∀ w ∈ (vx_atS RX6 369 "java/lang/IndexOutOfBoundsException" ["java/lang/RuntimeException", "java/lang/Exception"]).filter goodWord, w ∈ wzL_ask_low_no := (fun _ h => (List.mem_append_right _ (List.mem_append_right _ h)))
theorem gzL_ask_low_no_L_asked_low_no_73 : GoodIn wzL_ask_low_no (va_wsS RL 73 yL_asked wzL_asked_low_no) := (goodIn_app (z_lift (goodIn_r _ [1, 2, 3] rfl (by decide +kernel))) (goodIn_app (z_lift (goodIn_r wzEL_asked_low_no [4, 5, 6, 7, 8, 9, 10, 11, 12, 13, 14, 15, 16] rfl zgEL_asked_low_no)) (goodIn_app (goodIn_sub (fun _ h => (List.mem_append_right _ (List.mem_append_left _ h))) zgU_X6) (goodIn_sub (fun _ h => (List.mem_append_right _ (List.mem_append_right _ h))) zgV_X6_369))))
set_option maxHeartbeats 4000000 in
set_option maxRecDepth 100000 in
theorem zc_L_ask_low_no (l : Launch) (hnt : l.stackTraces = false) (D : va_G) (G : Nat × Nat × (Nat → Int32)) (xo : Nat) (va : Nat) (xg : Nat) (gc : Int32) (xp : Nat) (pc : Int32) (xq : Nat) (qc : Int32) (r1 : Nat) (r2 : Nat) (r3 : Nat) (r4 : Nat) (se : Nat) (ts : Int32) (hou : Int32) (dr : Int32) (su : Int32) (br : Int32) (cq : ClassId) (ci : ClassId) (sz : Nat) : vx_Met l yL_ask wzL_ask_low_no ({ frames := 9, cells := 1, slots := 6, locals := 149 }) (va_Pc [.ref xo, .int 119, .ref va] (p_RW D G [(cq, .object "Gatherhouse$Piece"), (ci, .int)] [(xo, .inr (6, [.ref xg, .int gc, .ref xp, .int pc, .ref xq, .int qc, .ref r1, .ref r2, .ref r3, .ref r4, .ref se, .int ts, .int hou, .int dr, .int su, .int br])), (xq, .inl (cq, 16, .inr (.inr (.inr (.inr (zq [none, none, none, none, none, none, none, none, none, none, none, none, none, none, none, none])))))), (va, .inl (ci, 2, .inl (zi [0, 0])))] sz)) (va_Qi (fun (r : Int32) (u : Unit) => r = (-2000000001)) (fun (u : Unit) (t : State) => q_RW D [(cq, .object "Gatherhouse$Piece")] [(xo, .inr (6, [.ref xg, .int gc, .ref xp, .int pc, .ref xq, .int qc, .ref r1, .ref r2, .ref r3, .ref r4, .ref se, .int ts, .int hou, .int dr, .int su, .int br])), (xq, .inl (cq, 16, .inr (.inr (.inr (.inr (zq [none, none, none, none, none, none, none, none, none, none, none, none, none, none, none, none]))))))] (va_A [(xo, .inr (6, [.ref xg, .int gc, .ref xp, .int pc, .ref xq, .int qc, .ref r1, .ref r2, .ref r3, .ref r4, .ref se, .int ts, .int hou, .int dr, .int su, .int br])), (xq, .inl (cq, 16, .inr (.inr (.inr (.inr (zq [none, none, none, none, none, none, none, none, none, none, none, none, none, none, none, none])))))), (va, .inl (ci, 2, .inl (zi [0, 0])))] sz) t) (va_A [(xo, .inr (6, [.ref xg, .int gc, .ref xp, .int pc, .ref xq, .int qc, .ref r1, .ref r2, .ref r3, .ref r4, .ref se, .int ts, .int hou, .int dr, .int su, .int br])), (xq, .inl (cq, 16, .inr (.inr (.inr (.inr (zq [none, none, none, none, none, none, none, none, none, none, none, none, none, none, none, none])))))), (va, .inl (ci, 2, .inl (zi [0, 0])))] sz)) (vx_X (fun (_ : Unit) => True) (fun E (_ : Unit) (_ : State) => False) (va_A [(xo, .inr (6, [.ref xg, .int gc, .ref xp, .int pc, .ref xq, .int qc, .ref r1, .ref r2, .ref r3, .ref r4, .ref se, .int ts, .int hou, .int dr, .int su, .int br])), (xq, .inl (cq, 16, .inr (.inr (.inr (.inr (zq [none, none, none, none, none, none, none, none, none, none, none, none, none, none, none, none])))))), (va, .inl (ci, 2, .inl (zi [0, 0])))] sz)) 1 6 (va_A [(xo, .inr (6, [.ref xg, .int gc, .ref xp, .int pc, .ref xq, .int qc, .ref r1, .ref r2, .ref r3, .ref r4, .ref se, .int ts, .int hou, .int dr, .int su, .int br])), (xq, .inl (cq, 16, .inr (.inr (.inr (.inr (zq [none, none, none, none, none, none, none, none, none, none, none, none, none, none, none, none])))))), (va, .inl (ci, 2, .inl (zi [0, 0])))] sz) := by
  refine vx_ofWH (cc := cL_ask) (maxL := 4) (ret := (some .int)) (by decide) rfl ?_
  intro p e s m args below meth c s₁ B hml hv
  obtain ⟨rfl, hsz, hP, hK, hD0, hT, hZ⟩ := hv
  have hx := B.exec
  have hb := B.bytes
  have hr := B.returns
  have hts := atoms_spec (ws := wzL_ask_low_no) B.pre
  have hown : s.vm.findClass RL = some m.cls := findClass_of_methodNamed B.named
  have hlocks := B.notSynchronized
  have hxe := vx_table (x := yL_ask) B (hts _ List.mem_cons_self)
  subst hsz
  have hD := hD0.self (sz := s.heap.size)
  generalize hAe : va_A [(xo, .inr (6, [.ref xg, .int gc, .ref xp, .int pc, .ref xq, .int qc, .ref r1, .ref r2, .ref r3, .ref r4, .ref se, .int ts, .int hou, .int dr, .int su, .int br])), (xq, .inl (cq, 16, .inr (.inr (.inr (.inr (zq [none, none, none, none, none, none, none, none, none, none, none, none, none, none, none, none])))))), (va, .inl (ci, 2, .inl (zi [0, 0])))] s.heap.size = A at hD hZ ⊢
  have hA : ∀ q : Nat, s.heap.size ≤ q → A q := fun q h => by rw [← hAe]; exact Or.inr h
  have hS : va_S A s.heap s.heap [] := va_S.rf
  have hl := lv_entry ([.ref xo, .int 119, .ref va]) (n := 4) (Nat.le_of_ble_eq_true rfl)
  rw [lg_entry_eq]
  generalize (lg_sl ([.ref xo, .int 119, .ref va]) ++ List.replicate (4 - (lg_sl ([.ref xo, .int 119, .ref va])).length) Slot.unset).toArray = ls at hl ⊢
  have hl : lv_has ls 4 [(0, .ref xo), (1, .int 119), (2, .ref va)] := hl
  refine lv_iload_n hx hb dL_ask_0 rfl (lv_at hl 1 rfl) ?_
  refine lv_tableIn (off := 460) (tgt := 461) hx hb dL_ask_1 (by decide +kernel) (by decide +kernel) (by decide +kernel) (by decide) ?_
  refine lv_aload_n hx hb dL_ask_461 rfl (lv_at hl 0 rfl) ?_
  refine lv_iload_n hx hb dL_ask_462 rfl (lv_at hl 1 rfl) ?_
  refine lv_aload_n hx hb dL_ask_463 rfl (lv_at hl 2 rfl) ?_
  have hFc := va_free (wc := [(xo, .inr (6, [.ref xg, .int gc, .ref xp, .int pc, .ref xq, .int qc, .ref r1, .ref r2, .ref r3, .ref r4, .ref se, .int ts, .int hou, .int dr, .int su, .int br])), (xq, .inl (cq, 16, .inr (.inr (.inr (.inr (zq [none, none, none, none, none, none, none, none, none, none, none, none, none, none, none, none])))))), (va, .inl (ci, 2, .inl (zi [0, 0])))]) hD hS hA [0, 1, 2] rfl
  refine vx_calli (vx_runS (As := [.ref xo, .int 119, .ref va]) (rest := []) ⟨hx, hb, hml, hown, hts⟩ (zc_L_asked_low_no l hnt D G xo va xg gc xp pc xq qc r1 r2 r3 r4 se ts hou dr su br cq ci s.heap.size) (cwS 3 hts gzL_ask_low_no_L_asked_low_no_73 rfl rfl rfl (by decide +kernel) ⟨(Nat.le_of_ble_eq_true rfl), (Nat.le_of_ble_eq_true rfl)⟩) ⟨p_RW_blind, (p_RW_at (tc := [(cq, .object "Gatherhouse$Piece"), (ci, .int)]) (wc := [(xo, .inr (6, [.ref xg, .int gc, .ref xp, .int pc, .ref xq, .int qc, .ref r1, .ref r2, .ref r3, .ref r4, .ref se, .int ts, .int hou, .int dr, .int su, .int br])), (xq, .inl (cq, 16, .inr (.inr (.inr (.inr (zq [none, none, none, none, none, none, none, none, none, none, none, none, none, none, none, none])))))), (va, .inl (ci, 2, .inl (zi [0, 0])))]) hP hK hD hS hA hT hZ [0, 1, 2] [0, 1] rfl rfl (by decide) rfl [.ref xo, .int 119, .ref va])⟩ rfl rfl hl.1 rfl (lv_room (Nat.le_of_ble_eq_true rfl)) dL_ask_464 ⟨(Nat.le_of_ble_eq_true rfl), (Nat.le_of_ble_eq_true rfl)⟩) hS (fun q _ h => hFc q h) hFc (fun q _ h => hFc q h) (fun E ce q9 u t H locs ht hvm hpx hBX hz1 hk1 hS hce hcv hcl => ?_) (fun r_1267 u t H locs ht hvm w_1268 hB hz1 hk1 hS => ?_)
  · obtain ⟨hBX, hB⟩ := hBX
    obtain ⟨hP, hD, hK⟩ := q_join (D := D) (wc := [(xo, .inr (6, [.ref xg, .int gc, .ref xp, .int pc, .ref xq, .int qc, .ref r1, .ref r2, .ref r3, .ref r4, .ref se, .int ts, .int hou, .int dr, .int su, .int br])), (xq, .inl (cq, 16, .inr (.inr (.inr (.inr (zq [none, none, none, none, none, none, none, none, none, none, none, none, none, none, none, none])))))), (va, .inl (ci, 2, .inl (zi [0, 0])))]) (wr := []) (w1 := [(xo, .inr (6, [.ref xg, .int gc, .ref xp, .int pc, .ref xq, .int qc, .ref r1, .ref r2, .ref r3, .ref r4, .ref se, .int ts, .int hou, .int dr, .int su, .int br])), (xq, .inl (cq, 16, .inr (.inr (.inr (.inr (zq [none, none, none, none, none, none, none, none, none, none, none, none, none, none, none, none]))))))]) (tyr := []) (ty1 := [(cq, .object "Gatherhouse$Piece"), (ci, .int)]) hP hD hK [0, 1, 2] [] [] rfl rfl (by decide) (by decide) rfl hFc hk1 ht hvm hB
    have hP : va_P D vwCl [(xo, .inr (6, [.ref xg, .int gc, .ref xp, .int pc, .ref xq, .int qc, .ref r1, .ref r2, .ref r3, .ref r4, .ref se, .int ts, .int hou, .int dr, .int su, .int br])), (xq, .inl (cq, 16, .inr (.inr (.inr (.inr (zq [none, none, none, none, none, none, none, none, none, none, none, none, none, none, none, none]))))))] H := hP
    have hD : va_D A [(xo, .inr (6, [.ref xg, .int gc, .ref xp, .int pc, .ref xq, .int qc, .ref r1, .ref r2, .ref r3, .ref r4, .ref se, .int ts, .int hou, .int dr, .int su, .int br])), (xq, .inl (cq, 16, .inr (.inr (.inr (.inr (zq [none, none, none, none, none, none, none, none, none, none, none, none, none, none, none, none]))))))] := hD
    have hK : va_K D vwCl [(cq, .object "Gatherhouse$Piece"), (ci, .int)] s := hK
    have hBX : (E = "java/lang/IndexOutOfBoundsException") := hBX
    rcases hBX with rfl
    refine z_catch (own := RL) (name := "java/lang/IndexOutOfBoundsException") (hh := ttL_ask) (x := ⟨461, 467, 468, 79⟩) hown hxe 19 rfl [] (by decide +kernel) (fun _ h => absurd h List.not_mem_nil) (by decide) (by decide) (hts (.classLink RL 79 "java/lang/IndexOutOfBoundsException") (by decide +kernel)) (va_Nw.use rfl (hT.2.2.1 ("java/lang/IndexOutOfBoundsException", "java/lang/IndexOutOfBoundsException") (by decide +kernel))) hce hcv hcl ?_
    refine W.eq (g2 := F0 m 468 ls [.ref q9]) rfl ?_
    refine lv_astore_n (lv' := [(3, .ref q9), (0, .ref xo), (1, .int 119), (2, .ref va)]) hx hb dL_ask_468 rfl hl (by decide) rfl (fun ls hl => ?_)
    refine lv_ldc (v := (-2000000001)) hx hb hown (hts (.constant RL 81 (-2000000001)) (by decide +kernel)) dL_ask_469 ?_
    refine vx_ret ?_
    exact W.iret (v := (-2000000001)) hx hb hr (fun t ht hW => ⟨⟨(-2000000001), (), rfl, rfl, q_RW_mk hP hK hD [0, 1] [0] rfl rfl (by decide) rfl ht hW.alike⟩, hS.F ht⟩) hS.2.2 dL_ask_471
  · exact w_1268.elim
theorem dL_asked_335 : decode cL_asked 335 = .ok (.aload_n 0, 1) := by decide +kernel
theorem dL_asked_336 : decode cL_asked 336 = .ok (.aload_n 2, 1) := by decide +kernel
theorem dL_asked_337 : decode cL_asked 337 = .ok (.iconst 0, 1) := by decide +kernel
theorem dL_asked_338 : decode cL_asked 338 = .ok (.iaload, 1) := by decide +kernel
theorem dL_asked_339 : decode cL_asked 339 = .ok (.invokevirtual 127, 3) := by decide +kernel
def wzEL_asked_strain_no : List Cond := [.code yL_asked cL_asked 3 (some .int), .methodLink RL 127 yX6_strain, .instanceMethod yX6_strain, .selects RX6 yX6_strain yX6_strain, .initialized RX6, .code yX6_strain cX6_strain 2 (some .int), .methodLink RX6 169 yX6_findPiece, .instanceMethod yX6_findPiece, .selects RX6 yX6_findPiece yX6_findPiece, .code yX6_findPiece cX6_findPiece 3 (some (.object "Gatherhouse$Piece")), .fieldLink RX6 30 "Gatherhouse" "pieces" "[LGatherhouse$Piece;", .classLink RX6 365 "java/lang/IndexOutOfBoundsException", .initialized "java/lang/IndexOutOfBoundsException"]
def wzL_asked_strain_no : List Cond := wzEL_asked_strain_no ++ (u_ws RX6 TX6 16 ++ ((vx_atS RX6 369 "java/lang/IndexOutOfBoundsException" ["java/lang/RuntimeException", "java/lang/Exception"]).filter goodWord))
theorem zgEL_asked_strain_no : wzEL_asked_strain_no.all goodWord = true := by decide +kernel
theorem zuL_asked_strain_no_X6 : ∀ w ∈ u_ws RX6 TX6 16, w ∈ wzL_asked_strain_no := (fun _ h => (List.mem_append_right _ (List.mem_append_left _ h)))
theorem ztL_asked_strain_no_X6_369 : ∀ w ∈ (vx_atS RX6 369 "java/lang/IndexOutOfBoundsException" ["java/lang/RuntimeException", "java/lang/Exception"]).filter goodWord, w ∈ wzL_asked_strain_no := (fun _ h => (List.mem_append_right _ (List.mem_append_right _ h)))
theorem gzL_asked_strain_no_X6_strain_no_127 : GoodIn wzL_asked_strain_no (wsV RL 127 RX6 yX6_strain wzX6_strain_no) := (goodIn_app (z_lift (goodIn_r _ [1, 2, 3, 4] rfl (by decide +kernel))) (goodIn_app (z_lift (goodIn_r wzEX6_strain_no [5, 6, 7, 8, 4, 9, 10, 11, 12] rfl zgEX6_strain_no)) (goodIn_app (goodIn_sub (fun _ h => (List.mem_append_right _ (List.mem_append_left _ h))) zgU_X6) (goodIn_sub (fun _ h => (List.mem_append_right _ (List.mem_append_right _ h))) zgV_X6_369))))
set_option maxHeartbeats 4000000 in
set_option maxRecDepth 100000 in
theorem zc_L_asked_strain_no (l : Launch) (hnt : l.stackTraces = false) (D : va_G) (G : Nat × Nat × (Nat → Int32)) (xo : Nat) (va : Nat) (xg : Nat) (gc : Int32) (xp : Nat) (pc : Int32) (xq : Nat) (qc : Int32) (r1 : Nat) (r2 : Nat) (r3 : Nat) (r4 : Nat) (se : Nat) (ts : Int32) (hou : Int32) (dr : Int32) (su : Int32) (br : Int32) (cq : ClassId) (ci : ClassId) (sz : Nat) : vx_Met l yL_asked wzL_asked_strain_no ({ frames := 8, cells := 1, slots := 6, locals := 125 }) (va_Pc [.ref xo, .int 120, .ref va] (p_RW D G [(cq, .object "Gatherhouse$Piece"), (ci, .int)] [(xo, .inr (6, [.ref xg, .int gc, .ref xp, .int pc, .ref xq, .int qc, .ref r1, .ref r2, .ref r3, .ref r4, .ref se, .int ts, .int hou, .int dr, .int su, .int br])), (xq, .inl (cq, 16, .inr (.inr (.inr (.inr (zq [none, none, none, none, none, none, none, none, none, none, none, none, none, none, none, none])))))), (va, .inl (ci, 1, .inl (zi [0])))] sz)) (va_Qi (fun (r : Int32) (u : Unit) => False) (fun (u : Unit) (t : State) => q_RW D [(cq, .object "Gatherhouse$Piece")] [(xo, .inr (6, [.ref xg, .int gc, .ref xp, .int pc, .ref xq, .int qc, .ref r1, .ref r2, .ref r3, .ref r4, .ref se, .int ts, .int hou, .int dr, .int su, .int br])), (xq, .inl (cq, 16, .inr (.inr (.inr (.inr (zq [none, none, none, none, none, none, none, none, none, none, none, none, none, none, none, none]))))))] (va_A [(xo, .inr (6, [.ref xg, .int gc, .ref xp, .int pc, .ref xq, .int qc, .ref r1, .ref r2, .ref r3, .ref r4, .ref se, .int ts, .int hou, .int dr, .int su, .int br])), (xq, .inl (cq, 16, .inr (.inr (.inr (.inr (zq [none, none, none, none, none, none, none, none, none, none, none, none, none, none, none, none])))))), (va, .inl (ci, 1, .inl (zi [0])))] sz) t) (va_A [(xo, .inr (6, [.ref xg, .int gc, .ref xp, .int pc, .ref xq, .int qc, .ref r1, .ref r2, .ref r3, .ref r4, .ref se, .int ts, .int hou, .int dr, .int su, .int br])), (xq, .inl (cq, 16, .inr (.inr (.inr (.inr (zq [none, none, none, none, none, none, none, none, none, none, none, none, none, none, none, none])))))), (va, .inl (ci, 1, .inl (zi [0])))] sz)) (vx_X (fun (_ : Unit) => True) (fun E (_ : Unit) (t : State) => ((E = "java/lang/IndexOutOfBoundsException")) ∧ q_RW D [(cq, .object "Gatherhouse$Piece"), (ci, .int)] [(xo, .inr (6, [.ref xg, .int gc, .ref xp, .int pc, .ref xq, .int qc, .ref r1, .ref r2, .ref r3, .ref r4, .ref se, .int ts, .int hou, .int dr, .int su, .int br])), (xq, .inl (cq, 16, .inr (.inr (.inr (.inr (zq [none, none, none, none, none, none, none, none, none, none, none, none, none, none, none, none]))))))] (va_A [(xo, .inr (6, [.ref xg, .int gc, .ref xp, .int pc, .ref xq, .int qc, .ref r1, .ref r2, .ref r3, .ref r4, .ref se, .int ts, .int hou, .int dr, .int su, .int br])), (xq, .inl (cq, 16, .inr (.inr (.inr (.inr (zq [none, none, none, none, none, none, none, none, none, none, none, none, none, none, none, none])))))), (va, .inl (ci, 1, .inl (zi [0])))] sz) t) (va_A [(xo, .inr (6, [.ref xg, .int gc, .ref xp, .int pc, .ref xq, .int qc, .ref r1, .ref r2, .ref r3, .ref r4, .ref se, .int ts, .int hou, .int dr, .int su, .int br])), (xq, .inl (cq, 16, .inr (.inr (.inr (.inr (zq [none, none, none, none, none, none, none, none, none, none, none, none, none, none, none, none])))))), (va, .inl (ci, 1, .inl (zi [0])))] sz)) 1 6 (va_A [(xo, .inr (6, [.ref xg, .int gc, .ref xp, .int pc, .ref xq, .int qc, .ref r1, .ref r2, .ref r3, .ref r4, .ref se, .int ts, .int hou, .int dr, .int su, .int br])), (xq, .inl (cq, 16, .inr (.inr (.inr (.inr (zq [none, none, none, none, none, none, none, none, none, none, none, none, none, none, none, none])))))), (va, .inl (ci, 1, .inl (zi [0])))] sz) := by
  refine vx_ofW (cc := cL_asked) (maxL := 3) (ret := (some .int)) (by decide) rfl ?_
  intro p e s m args below meth c s₁ B hml hxt hv
  obtain ⟨rfl, hsz, hP, hK, hD0, hT, hZ⟩ := hv
  have hx := B.exec
  have hb := B.bytes
  have hr := B.returns
  have hts := atoms_spec (ws := wzL_asked_strain_no) B.pre
  have hown : s.vm.findClass RL = some m.cls := findClass_of_methodNamed B.named
  have hlocks := B.notSynchronized
  subst hsz
  have hD := hD0.self (sz := s.heap.size)
  generalize hAe : va_A [(xo, .inr (6, [.ref xg, .int gc, .ref xp, .int pc, .ref xq, .int qc, .ref r1, .ref r2, .ref r3, .ref r4, .ref se, .int ts, .int hou, .int dr, .int su, .int br])), (xq, .inl (cq, 16, .inr (.inr (.inr (.inr (zq [none, none, none, none, none, none, none, none, none, none, none, none, none, none, none, none])))))), (va, .inl (ci, 1, .inl (zi [0])))] s.heap.size = A at hD hZ ⊢
  have hA : ∀ q : Nat, s.heap.size ≤ q → A q := fun q h => by rw [← hAe]; exact Or.inr h
  have hS : va_S A s.heap s.heap [] := va_S.rf
  have hl := lv_entry ([.ref xo, .int 120, .ref va]) (n := 3) (Nat.le_of_ble_eq_true rfl)
  rw [lg_entry_eq]
  generalize (lg_sl ([.ref xo, .int 120, .ref va]) ++ List.replicate (3 - (lg_sl ([.ref xo, .int 120, .ref va])).length) Slot.unset).toArray = ls at hl ⊢
  have hl : lv_has ls 3 [(0, .ref xo), (1, .int 120), (2, .ref va)] := hl
  refine lv_iload_n hx hb dL_asked_0 rfl (lv_at hl 1 rfl) ?_
  refine lv_tableIn (off := 334) (tgt := 335) hx hb dL_asked_1 (by decide +kernel) (by decide +kernel) (by decide +kernel) (by decide) ?_
  refine lv_aload_n hx hb dL_asked_335 rfl (lv_at hl 0 rfl) ?_
  refine lv_aload_n hx hb dL_asked_336 rfl (lv_at hl 2 rfl) ?_
  refine lv_iconst (v := 0) hx hb dL_asked_337 (by decide) ?_
  refine va_iald (D := D) (cl := vwCl) hx hb hK hP 2 1 rfl rfl (vp_in_nI (n := 0) (N := 1) (by decide) (by decide)) dL_asked_338 ?_
  refine W.eq (g2 := F0 m 339 ls [.int 0, .ref xo]) rfl ?_
  have hFc := va_free (wc := [(xo, .inr (6, [.ref xg, .int gc, .ref xp, .int pc, .ref xq, .int qc, .ref r1, .ref r2, .ref r3, .ref r4, .ref se, .int ts, .int hou, .int dr, .int su, .int br])), (xq, .inl (cq, 16, .inr (.inr (.inr (.inr (zq [none, none, none, none, none, none, none, none, none, none, none, none, none, none, none, none]))))))]) hD hS hA [0, 1] rfl
  refine vx_calli (vx_runV (As := [.int 0]) (rest := []) ⟨hx, hb, hml, hown, hts⟩ (zc_X6_strain_no l hnt D G xo xg gc xp pc xq qc r1 r2 r3 r4 se ts hou dr su br cq s.heap.size) (cwV 1 hts gzL_asked_strain_no_X6_strain_no_127 rfl rfl rfl (by decide +kernel) ⟨(Nat.le_of_ble_eq_true rfl), (Nat.le_of_ble_eq_true rfl)⟩) ⟨p_RW_blind, va_recv hK hP (ci := 6) (q0 := 0) rfl rfl, (p_RW_at (tc := [(cq, .object "Gatherhouse$Piece")]) (wc := [(xo, .inr (6, [.ref xg, .int gc, .ref xp, .int pc, .ref xq, .int qc, .ref r1, .ref r2, .ref r3, .ref r4, .ref se, .int ts, .int hou, .int dr, .int su, .int br])), (xq, .inl (cq, 16, .inr (.inr (.inr (.inr (zq [none, none, none, none, none, none, none, none, none, none, none, none, none, none, none, none]))))))]) hP hK hD hS hA hT hZ [0, 1] [0] rfl rfl (by decide) rfl [.ref xo, .int 0])⟩ rfl rfl hl.1 rfl (lv_room (Nat.le_of_ble_eq_true rfl)) dL_asked_339 ⟨(Nat.le_of_ble_eq_true rfl), (Nat.le_of_ble_eq_true rfl)⟩) hS (fun q _ h => hFc q h) hFc (fun q _ h => hFc q h) (fun E ce q9 u t H locs ht hvm hpx hBX hz1 hk1 hS hce hcv hcl => ?_) (fun r_1269 u t H locs ht hvm w_1270 hB hz1 hk1 hS => ?_)
  · obtain ⟨hBX, hB⟩ := hBX
    obtain ⟨hP, hD, hK⟩ := q_join (D := D) (wc := [(xo, .inr (6, [.ref xg, .int gc, .ref xp, .int pc, .ref xq, .int qc, .ref r1, .ref r2, .ref r3, .ref r4, .ref se, .int ts, .int hou, .int dr, .int su, .int br])), (xq, .inl (cq, 16, .inr (.inr (.inr (.inr (zq [none, none, none, none, none, none, none, none, none, none, none, none, none, none, none, none]))))))]) (wr := [(va, .inl (ci, 1, .inl (zi [0])))]) (w1 := [(xo, .inr (6, [.ref xg, .int gc, .ref xp, .int pc, .ref xq, .int qc, .ref r1, .ref r2, .ref r3, .ref r4, .ref se, .int ts, .int hou, .int dr, .int su, .int br])), (xq, .inl (cq, 16, .inr (.inr (.inr (.inr (zq [none, none, none, none, none, none, none, none, none, none, none, none, none, none, none, none]))))))]) (tyr := [(ci, .int)]) (ty1 := [(cq, .object "Gatherhouse$Piece")]) hP hD hK [0, 1] [2] [1] rfl rfl (by decide) (by decide) rfl hFc hk1 ht hvm hB
    have hP : va_P D vwCl [(va, .inl (ci, 1, .inl (zi [0]))), (xo, .inr (6, [.ref xg, .int gc, .ref xp, .int pc, .ref xq, .int qc, .ref r1, .ref r2, .ref r3, .ref r4, .ref se, .int ts, .int hou, .int dr, .int su, .int br])), (xq, .inl (cq, 16, .inr (.inr (.inr (.inr (zq [none, none, none, none, none, none, none, none, none, none, none, none, none, none, none, none]))))))] H := hP
    have hD : va_D A [(va, .inl (ci, 1, .inl (zi [0]))), (xo, .inr (6, [.ref xg, .int gc, .ref xp, .int pc, .ref xq, .int qc, .ref r1, .ref r2, .ref r3, .ref r4, .ref se, .int ts, .int hou, .int dr, .int su, .int br])), (xq, .inl (cq, 16, .inr (.inr (.inr (.inr (zq [none, none, none, none, none, none, none, none, none, none, none, none, none, none, none, none]))))))] := hD
    have hK : va_K D vwCl [(ci, .int), (cq, .object "Gatherhouse$Piece")] s := hK
    have hBX : (E = "java/lang/IndexOutOfBoundsException") := hBX
    rcases hBX with rfl
    exact vx_out (fun x h => (hxt x h).elim) hlocks hce hcv hcl (fun t ht hW9 => ⟨(), trivial, ⟨rfl, q_RW_mk hP hK hD [1, 2] [1, 0] rfl rfl (by decide) rfl ht hW9⟩, hS.F ht⟩) hS.2.2 (Nat.le_of_ble_eq_true rfl) (Nat.le_of_ble_eq_true rfl)
  · exact w_1270.elim
def wzEL_ask_strain_no : List Cond := [.codeWith yL_ask cL_ask 4 (some .int) ttL_ask, .methodLink RL 73 yL_asked, .static yL_asked, .initialized RL, .code yL_asked cL_asked 3 (some .int), .methodLink RL 127 yX6_strain, .instanceMethod yX6_strain, .selects RX6 yX6_strain yX6_strain, .initialized RX6, .code yX6_strain cX6_strain 2 (some .int), .methodLink RX6 169 yX6_findPiece, .instanceMethod yX6_findPiece, .selects RX6 yX6_findPiece yX6_findPiece, .code yX6_findPiece cX6_findPiece 3 (some (.object "Gatherhouse$Piece")), .fieldLink RX6 30 "Gatherhouse" "pieces" "[LGatherhouse$Piece;", .classLink RX6 365 "java/lang/IndexOutOfBoundsException", .initialized "java/lang/IndexOutOfBoundsException", .classLink RL 79 "java/lang/IndexOutOfBoundsException", .constant RL 81 (-2000000001)]
def wzL_ask_strain_no : List Cond := wzEL_ask_strain_no ++ (u_ws RX6 TX6 16 ++ ((vx_atS RX6 369 "java/lang/IndexOutOfBoundsException" ["java/lang/RuntimeException", "java/lang/Exception"]).filter goodWord))
theorem zgEL_ask_strain_no : wzEL_ask_strain_no.all goodWord = true := by decide +kernel
theorem zuL_ask_strain_no_X6 : ∀ w ∈ u_ws RX6 TX6 16, w ∈ wzL_ask_strain_no := (fun _ h => (List.mem_append_right _ (List.mem_append_left _ h)))
theorem ztL_ask_strain_no_X6_369 : ∀ w ∈ (vx_atS RX6 369 "java/lang/IndexOutOfBoundsException" ["java/lang/RuntimeException", "java/lang/Exception"]).filter goodWord, w ∈ wzL_ask_strain_no := (fun _ h => (List.mem_append_right _ (List.mem_append_right _ h)))
theorem gzL_ask_strain_no_L_asked_strain_no_73 : GoodIn wzL_ask_strain_no (va_wsS RL 73 yL_asked wzL_asked_strain_no) := (goodIn_app (z_lift (goodIn_r _ [1, 2, 3] rfl (by decide +kernel))) (goodIn_app (z_lift (goodIn_r wzEL_asked_strain_no [4, 5, 6, 7, 8, 9, 10, 11, 12, 13, 14, 15, 16] rfl zgEL_asked_strain_no)) (goodIn_app (goodIn_sub (fun _ h => (List.mem_append_right _ (List.mem_append_left _ h))) zgU_X6) (goodIn_sub (fun _ h => (List.mem_append_right _ (List.mem_append_right _ h))) zgV_X6_369))))
set_option maxHeartbeats 4000000 in
set_option maxRecDepth 100000 in
theorem zc_L_ask_strain_no (l : Launch) (hnt : l.stackTraces = false) (D : va_G) (G : Nat × Nat × (Nat → Int32)) (xo : Nat) (va : Nat) (xg : Nat) (gc : Int32) (xp : Nat) (pc : Int32) (xq : Nat) (qc : Int32) (r1 : Nat) (r2 : Nat) (r3 : Nat) (r4 : Nat) (se : Nat) (ts : Int32) (hou : Int32) (dr : Int32) (su : Int32) (br : Int32) (cq : ClassId) (ci : ClassId) (sz : Nat) : vx_Met l yL_ask wzL_ask_strain_no ({ frames := 9, cells := 1, slots := 6, locals := 147 }) (va_Pc [.ref xo, .int 120, .ref va] (p_RW D G [(cq, .object "Gatherhouse$Piece"), (ci, .int)] [(xo, .inr (6, [.ref xg, .int gc, .ref xp, .int pc, .ref xq, .int qc, .ref r1, .ref r2, .ref r3, .ref r4, .ref se, .int ts, .int hou, .int dr, .int su, .int br])), (xq, .inl (cq, 16, .inr (.inr (.inr (.inr (zq [none, none, none, none, none, none, none, none, none, none, none, none, none, none, none, none])))))), (va, .inl (ci, 1, .inl (zi [0])))] sz)) (va_Qi (fun (r : Int32) (u : Unit) => r = (-2000000001)) (fun (u : Unit) (t : State) => q_RW D [(cq, .object "Gatherhouse$Piece")] [(xo, .inr (6, [.ref xg, .int gc, .ref xp, .int pc, .ref xq, .int qc, .ref r1, .ref r2, .ref r3, .ref r4, .ref se, .int ts, .int hou, .int dr, .int su, .int br])), (xq, .inl (cq, 16, .inr (.inr (.inr (.inr (zq [none, none, none, none, none, none, none, none, none, none, none, none, none, none, none, none]))))))] (va_A [(xo, .inr (6, [.ref xg, .int gc, .ref xp, .int pc, .ref xq, .int qc, .ref r1, .ref r2, .ref r3, .ref r4, .ref se, .int ts, .int hou, .int dr, .int su, .int br])), (xq, .inl (cq, 16, .inr (.inr (.inr (.inr (zq [none, none, none, none, none, none, none, none, none, none, none, none, none, none, none, none])))))), (va, .inl (ci, 1, .inl (zi [0])))] sz) t) (va_A [(xo, .inr (6, [.ref xg, .int gc, .ref xp, .int pc, .ref xq, .int qc, .ref r1, .ref r2, .ref r3, .ref r4, .ref se, .int ts, .int hou, .int dr, .int su, .int br])), (xq, .inl (cq, 16, .inr (.inr (.inr (.inr (zq [none, none, none, none, none, none, none, none, none, none, none, none, none, none, none, none])))))), (va, .inl (ci, 1, .inl (zi [0])))] sz)) (vx_X (fun (_ : Unit) => True) (fun E (_ : Unit) (_ : State) => False) (va_A [(xo, .inr (6, [.ref xg, .int gc, .ref xp, .int pc, .ref xq, .int qc, .ref r1, .ref r2, .ref r3, .ref r4, .ref se, .int ts, .int hou, .int dr, .int su, .int br])), (xq, .inl (cq, 16, .inr (.inr (.inr (.inr (zq [none, none, none, none, none, none, none, none, none, none, none, none, none, none, none, none])))))), (va, .inl (ci, 1, .inl (zi [0])))] sz)) 1 6 (va_A [(xo, .inr (6, [.ref xg, .int gc, .ref xp, .int pc, .ref xq, .int qc, .ref r1, .ref r2, .ref r3, .ref r4, .ref se, .int ts, .int hou, .int dr, .int su, .int br])), (xq, .inl (cq, 16, .inr (.inr (.inr (.inr (zq [none, none, none, none, none, none, none, none, none, none, none, none, none, none, none, none])))))), (va, .inl (ci, 1, .inl (zi [0])))] sz) := by
  refine vx_ofWH (cc := cL_ask) (maxL := 4) (ret := (some .int)) (by decide) rfl ?_
  intro p e s m args below meth c s₁ B hml hv
  obtain ⟨rfl, hsz, hP, hK, hD0, hT, hZ⟩ := hv
  have hx := B.exec
  have hb := B.bytes
  have hr := B.returns
  have hts := atoms_spec (ws := wzL_ask_strain_no) B.pre
  have hown : s.vm.findClass RL = some m.cls := findClass_of_methodNamed B.named
  have hlocks := B.notSynchronized
  have hxe := vx_table (x := yL_ask) B (hts _ List.mem_cons_self)
  subst hsz
  have hD := hD0.self (sz := s.heap.size)
  generalize hAe : va_A [(xo, .inr (6, [.ref xg, .int gc, .ref xp, .int pc, .ref xq, .int qc, .ref r1, .ref r2, .ref r3, .ref r4, .ref se, .int ts, .int hou, .int dr, .int su, .int br])), (xq, .inl (cq, 16, .inr (.inr (.inr (.inr (zq [none, none, none, none, none, none, none, none, none, none, none, none, none, none, none, none])))))), (va, .inl (ci, 1, .inl (zi [0])))] s.heap.size = A at hD hZ ⊢
  have hA : ∀ q : Nat, s.heap.size ≤ q → A q := fun q h => by rw [← hAe]; exact Or.inr h
  have hS : va_S A s.heap s.heap [] := va_S.rf
  have hl := lv_entry ([.ref xo, .int 120, .ref va]) (n := 4) (Nat.le_of_ble_eq_true rfl)
  rw [lg_entry_eq]
  generalize (lg_sl ([.ref xo, .int 120, .ref va]) ++ List.replicate (4 - (lg_sl ([.ref xo, .int 120, .ref va])).length) Slot.unset).toArray = ls at hl ⊢
  have hl : lv_has ls 4 [(0, .ref xo), (1, .int 120), (2, .ref va)] := hl
  refine lv_iload_n hx hb dL_ask_0 rfl (lv_at hl 1 rfl) ?_
  refine lv_tableIn (off := 460) (tgt := 461) hx hb dL_ask_1 (by decide +kernel) (by decide +kernel) (by decide +kernel) (by decide) ?_
  refine lv_aload_n hx hb dL_ask_461 rfl (lv_at hl 0 rfl) ?_
  refine lv_iload_n hx hb dL_ask_462 rfl (lv_at hl 1 rfl) ?_
  refine lv_aload_n hx hb dL_ask_463 rfl (lv_at hl 2 rfl) ?_
  have hFc := va_free (wc := [(xo, .inr (6, [.ref xg, .int gc, .ref xp, .int pc, .ref xq, .int qc, .ref r1, .ref r2, .ref r3, .ref r4, .ref se, .int ts, .int hou, .int dr, .int su, .int br])), (xq, .inl (cq, 16, .inr (.inr (.inr (.inr (zq [none, none, none, none, none, none, none, none, none, none, none, none, none, none, none, none])))))), (va, .inl (ci, 1, .inl (zi [0])))]) hD hS hA [0, 1, 2] rfl
  refine vx_calli (vx_runS (As := [.ref xo, .int 120, .ref va]) (rest := []) ⟨hx, hb, hml, hown, hts⟩ (zc_L_asked_strain_no l hnt D G xo va xg gc xp pc xq qc r1 r2 r3 r4 se ts hou dr su br cq ci s.heap.size) (cwS 3 hts gzL_ask_strain_no_L_asked_strain_no_73 rfl rfl rfl (by decide +kernel) ⟨(Nat.le_of_ble_eq_true rfl), (Nat.le_of_ble_eq_true rfl)⟩) ⟨p_RW_blind, (p_RW_at (tc := [(cq, .object "Gatherhouse$Piece"), (ci, .int)]) (wc := [(xo, .inr (6, [.ref xg, .int gc, .ref xp, .int pc, .ref xq, .int qc, .ref r1, .ref r2, .ref r3, .ref r4, .ref se, .int ts, .int hou, .int dr, .int su, .int br])), (xq, .inl (cq, 16, .inr (.inr (.inr (.inr (zq [none, none, none, none, none, none, none, none, none, none, none, none, none, none, none, none])))))), (va, .inl (ci, 1, .inl (zi [0])))]) hP hK hD hS hA hT hZ [0, 1, 2] [0, 1] rfl rfl (by decide) rfl [.ref xo, .int 120, .ref va])⟩ rfl rfl hl.1 rfl (lv_room (Nat.le_of_ble_eq_true rfl)) dL_ask_464 ⟨(Nat.le_of_ble_eq_true rfl), (Nat.le_of_ble_eq_true rfl)⟩) hS (fun q _ h => hFc q h) hFc (fun q _ h => hFc q h) (fun E ce q9 u t H locs ht hvm hpx hBX hz1 hk1 hS hce hcv hcl => ?_) (fun r_1271 u t H locs ht hvm w_1272 hB hz1 hk1 hS => ?_)
  · obtain ⟨hBX, hB⟩ := hBX
    obtain ⟨hP, hD, hK⟩ := q_join (D := D) (wc := [(xo, .inr (6, [.ref xg, .int gc, .ref xp, .int pc, .ref xq, .int qc, .ref r1, .ref r2, .ref r3, .ref r4, .ref se, .int ts, .int hou, .int dr, .int su, .int br])), (xq, .inl (cq, 16, .inr (.inr (.inr (.inr (zq [none, none, none, none, none, none, none, none, none, none, none, none, none, none, none, none])))))), (va, .inl (ci, 1, .inl (zi [0])))]) (wr := []) (w1 := [(xo, .inr (6, [.ref xg, .int gc, .ref xp, .int pc, .ref xq, .int qc, .ref r1, .ref r2, .ref r3, .ref r4, .ref se, .int ts, .int hou, .int dr, .int su, .int br])), (xq, .inl (cq, 16, .inr (.inr (.inr (.inr (zq [none, none, none, none, none, none, none, none, none, none, none, none, none, none, none, none]))))))]) (tyr := []) (ty1 := [(cq, .object "Gatherhouse$Piece"), (ci, .int)]) hP hD hK [0, 1, 2] [] [] rfl rfl (by decide) (by decide) rfl hFc hk1 ht hvm hB
    have hP : va_P D vwCl [(xo, .inr (6, [.ref xg, .int gc, .ref xp, .int pc, .ref xq, .int qc, .ref r1, .ref r2, .ref r3, .ref r4, .ref se, .int ts, .int hou, .int dr, .int su, .int br])), (xq, .inl (cq, 16, .inr (.inr (.inr (.inr (zq [none, none, none, none, none, none, none, none, none, none, none, none, none, none, none, none]))))))] H := hP
    have hD : va_D A [(xo, .inr (6, [.ref xg, .int gc, .ref xp, .int pc, .ref xq, .int qc, .ref r1, .ref r2, .ref r3, .ref r4, .ref se, .int ts, .int hou, .int dr, .int su, .int br])), (xq, .inl (cq, 16, .inr (.inr (.inr (.inr (zq [none, none, none, none, none, none, none, none, none, none, none, none, none, none, none, none]))))))] := hD
    have hK : va_K D vwCl [(cq, .object "Gatherhouse$Piece"), (ci, .int)] s := hK
    have hBX : (E = "java/lang/IndexOutOfBoundsException") := hBX
    rcases hBX with rfl
    refine z_catch (own := RL) (name := "java/lang/IndexOutOfBoundsException") (hh := ttL_ask) (x := ⟨461, 467, 468, 79⟩) hown hxe 19 rfl [] (by decide +kernel) (fun _ h => absurd h List.not_mem_nil) (by decide) (by decide) (hts (.classLink RL 79 "java/lang/IndexOutOfBoundsException") (by decide +kernel)) (va_Nw.use rfl (hT.2.2.1 ("java/lang/IndexOutOfBoundsException", "java/lang/IndexOutOfBoundsException") (by decide +kernel))) hce hcv hcl ?_
    refine W.eq (g2 := F0 m 468 ls [.ref q9]) rfl ?_
    refine lv_astore_n (lv' := [(3, .ref q9), (0, .ref xo), (1, .int 120), (2, .ref va)]) hx hb dL_ask_468 rfl hl (by decide) rfl (fun ls hl => ?_)
    refine lv_ldc (v := (-2000000001)) hx hb hown (hts (.constant RL 81 (-2000000001)) (by decide +kernel)) dL_ask_469 ?_
    refine vx_ret ?_
    exact W.iret (v := (-2000000001)) hx hb hr (fun t ht hW => ⟨⟨(-2000000001), (), rfl, rfl, q_RW_mk hP hK hD [0, 1] [0] rfl rfl (by decide) rfl ht hW.alike⟩, hS.F ht⟩) hS.2.2 dL_ask_471
  · exact w_1272.elim
theorem dL_asked_343 : decode cL_asked 343 = .ok (.aload_n 0, 1) := by decide +kernel
theorem dL_asked_344 : decode cL_asked 344 = .ok (.aload_n 2, 1) := by decide +kernel
theorem dL_asked_345 : decode cL_asked 345 = .ok (.iconst 0, 1) := by decide +kernel
theorem dL_asked_346 : decode cL_asked 346 = .ok (.iaload, 1) := by decide +kernel
theorem dL_asked_347 : decode cL_asked 347 = .ok (.invokevirtual 130, 3) := by decide +kernel
def wzEL_asked_isFirst_no : List Cond := [.code yL_asked cL_asked 3 (some .int), .methodLink RL 130 yX6_isFirst, .instanceMethod yX6_isFirst, .selects RX6 yX6_isFirst yX6_isFirst, .initialized RX6, .code yX6_isFirst cX6_isFirst 3 (some .boolean), .methodLink RX6 169 yX6_findPiece, .instanceMethod yX6_findPiece, .selects RX6 yX6_findPiece yX6_findPiece, .code yX6_findPiece cX6_findPiece 3 (some (.object "Gatherhouse$Piece")), .fieldLink RX6 30 "Gatherhouse" "pieces" "[LGatherhouse$Piece;", .classLink RX6 365 "java/lang/IndexOutOfBoundsException", .initialized "java/lang/IndexOutOfBoundsException"]
def wzL_asked_isFirst_no : List Cond := wzEL_asked_isFirst_no ++ (u_ws RX6 TX6 16 ++ ((vx_atS RX6 369 "java/lang/IndexOutOfBoundsException" ["java/lang/RuntimeException", "java/lang/Exception"]).filter goodWord))
theorem zgEL_asked_isFirst_no : wzEL_asked_isFirst_no.all goodWord = true := by decide +kernel
theorem zuL_asked_isFirst_no_X6 : ∀ w ∈ u_ws RX6 TX6 16, w ∈ wzL_asked_isFirst_no := (fun _ h => (List.mem_append_right _ (List.mem_append_left _ h)))
theorem ztL_asked_isFirst_no_X6_369 : ∀ w ∈ (vx_atS RX6 369 "java/lang/IndexOutOfBoundsException" ["java/lang/RuntimeException", "java/lang/Exception"]).filter goodWord, w ∈ wzL_asked_isFirst_no := (fun _ h => (List.mem_append_right _ (List.mem_append_right _ h)))
theorem gzL_asked_isFirst_no_X6_isFirst_no_130 : GoodIn wzL_asked_isFirst_no (wsV RL 130 RX6 yX6_isFirst wzX6_isFirst_no) := (goodIn_app (z_lift (goodIn_r _ [1, 2, 3, 4] rfl (by decide +kernel))) (goodIn_app (z_lift (goodIn_r wzEX6_isFirst_no [5, 6, 7, 8, 4, 9, 10, 11, 12] rfl zgEX6_isFirst_no)) (goodIn_app (goodIn_sub (fun _ h => (List.mem_append_right _ (List.mem_append_left _ h))) zgU_X6) (goodIn_sub (fun _ h => (List.mem_append_right _ (List.mem_append_right _ h))) zgV_X6_369))))
set_option maxHeartbeats 4000000 in
set_option maxRecDepth 100000 in
theorem zc_L_asked_isFirst_no (l : Launch) (hnt : l.stackTraces = false) (D : va_G) (G : Nat × Nat × (Nat → Int32)) (xo : Nat) (va : Nat) (xg : Nat) (gc : Int32) (xp : Nat) (pc : Int32) (xq : Nat) (qc : Int32) (r1 : Nat) (r2 : Nat) (r3 : Nat) (r4 : Nat) (se : Nat) (ts : Int32) (hou : Int32) (dr : Int32) (su : Int32) (br : Int32) (cq : ClassId) (ci : ClassId) (sz : Nat) : vx_Met l yL_asked wzL_asked_isFirst_no ({ frames := 8, cells := 1, slots := 6, locals := 126 }) (va_Pc [.ref xo, .int 70, .ref va] (p_RW D G [(cq, .object "Gatherhouse$Piece"), (ci, .int)] [(xo, .inr (6, [.ref xg, .int gc, .ref xp, .int pc, .ref xq, .int qc, .ref r1, .ref r2, .ref r3, .ref r4, .ref se, .int ts, .int hou, .int dr, .int su, .int br])), (xq, .inl (cq, 16, .inr (.inr (.inr (.inr (zq [none, none, none, none, none, none, none, none, none, none, none, none, none, none, none, none])))))), (va, .inl (ci, 1, .inl (zi [0])))] sz)) (va_Qi (fun (r : Int32) (u : Unit) => False) (fun (u : Unit) (t : State) => q_RW D [(cq, .object "Gatherhouse$Piece")] [(xo, .inr (6, [.ref xg, .int gc, .ref xp, .int pc, .ref xq, .int qc, .ref r1, .ref r2, .ref r3, .ref r4, .ref se, .int ts, .int hou, .int dr, .int su, .int br])), (xq, .inl (cq, 16, .inr (.inr (.inr (.inr (zq [none, none, none, none, none, none, none, none, none, none, none, none, none, none, none, none]))))))] (va_A [(xo, .inr (6, [.ref xg, .int gc, .ref xp, .int pc, .ref xq, .int qc, .ref r1, .ref r2, .ref r3, .ref r4, .ref se, .int ts, .int hou, .int dr, .int su, .int br])), (xq, .inl (cq, 16, .inr (.inr (.inr (.inr (zq [none, none, none, none, none, none, none, none, none, none, none, none, none, none, none, none])))))), (va, .inl (ci, 1, .inl (zi [0])))] sz) t) (va_A [(xo, .inr (6, [.ref xg, .int gc, .ref xp, .int pc, .ref xq, .int qc, .ref r1, .ref r2, .ref r3, .ref r4, .ref se, .int ts, .int hou, .int dr, .int su, .int br])), (xq, .inl (cq, 16, .inr (.inr (.inr (.inr (zq [none, none, none, none, none, none, none, none, none, none, none, none, none, none, none, none])))))), (va, .inl (ci, 1, .inl (zi [0])))] sz)) (vx_X (fun (_ : Unit) => True) (fun E (_ : Unit) (t : State) => ((E = "java/lang/IndexOutOfBoundsException")) ∧ q_RW D [(cq, .object "Gatherhouse$Piece"), (ci, .int)] [(xo, .inr (6, [.ref xg, .int gc, .ref xp, .int pc, .ref xq, .int qc, .ref r1, .ref r2, .ref r3, .ref r4, .ref se, .int ts, .int hou, .int dr, .int su, .int br])), (xq, .inl (cq, 16, .inr (.inr (.inr (.inr (zq [none, none, none, none, none, none, none, none, none, none, none, none, none, none, none, none]))))))] (va_A [(xo, .inr (6, [.ref xg, .int gc, .ref xp, .int pc, .ref xq, .int qc, .ref r1, .ref r2, .ref r3, .ref r4, .ref se, .int ts, .int hou, .int dr, .int su, .int br])), (xq, .inl (cq, 16, .inr (.inr (.inr (.inr (zq [none, none, none, none, none, none, none, none, none, none, none, none, none, none, none, none])))))), (va, .inl (ci, 1, .inl (zi [0])))] sz) t) (va_A [(xo, .inr (6, [.ref xg, .int gc, .ref xp, .int pc, .ref xq, .int qc, .ref r1, .ref r2, .ref r3, .ref r4, .ref se, .int ts, .int hou, .int dr, .int su, .int br])), (xq, .inl (cq, 16, .inr (.inr (.inr (.inr (zq [none, none, none, none, none, none, none, none, none, none, none, none, none, none, none, none])))))), (va, .inl (ci, 1, .inl (zi [0])))] sz)) 1 6 (va_A [(xo, .inr (6, [.ref xg, .int gc, .ref xp, .int pc, .ref xq, .int qc, .ref r1, .ref r2, .ref r3, .ref r4, .ref se, .int ts, .int hou, .int dr, .int su, .int br])), (xq, .inl (cq, 16, .inr (.inr (.inr (.inr (zq [none, none, none, none, none, none, none, none, none, none, none, none, none, none, none, none])))))), (va, .inl (ci, 1, .inl (zi [0])))] sz) := by
  refine vx_ofW (cc := cL_asked) (maxL := 3) (ret := (some .int)) (by decide) rfl ?_
  intro p e s m args below meth c s₁ B hml hxt hv
  obtain ⟨rfl, hsz, hP, hK, hD0, hT, hZ⟩ := hv
  have hx := B.exec
  have hb := B.bytes
  have hr := B.returns
  have hts := atoms_spec (ws := wzL_asked_isFirst_no) B.pre
  have hown : s.vm.findClass RL = some m.cls := findClass_of_methodNamed B.named
  have hlocks := B.notSynchronized
  subst hsz
  have hD := hD0.self (sz := s.heap.size)
  generalize hAe : va_A [(xo, .inr (6, [.ref xg, .int gc, .ref xp, .int pc, .ref xq, .int qc, .ref r1, .ref r2, .ref r3, .ref r4, .ref se, .int ts, .int hou, .int dr, .int su, .int br])), (xq, .inl (cq, 16, .inr (.inr (.inr (.inr (zq [none, none, none, none, none, none, none, none, none, none, none, none, none, none, none, none])))))), (va, .inl (ci, 1, .inl (zi [0])))] s.heap.size = A at hD hZ ⊢
  have hA : ∀ q : Nat, s.heap.size ≤ q → A q := fun q h => by rw [← hAe]; exact Or.inr h
  have hS : va_S A s.heap s.heap [] := va_S.rf
  have hl := lv_entry ([.ref xo, .int 70, .ref va]) (n := 3) (Nat.le_of_ble_eq_true rfl)
  rw [lg_entry_eq]
  generalize (lg_sl ([.ref xo, .int 70, .ref va]) ++ List.replicate (3 - (lg_sl ([.ref xo, .int 70, .ref va])).length) Slot.unset).toArray = ls at hl ⊢
  have hl : lv_has ls 3 [(0, .ref xo), (1, .int 70), (2, .ref va)] := hl
  refine lv_iload_n hx hb dL_asked_0 rfl (lv_at hl 1 rfl) ?_
  refine lv_tableIn (off := 342) (tgt := 343) hx hb dL_asked_1 (by decide +kernel) (by decide +kernel) (by decide +kernel) (by decide) ?_
  refine lv_aload_n hx hb dL_asked_343 rfl (lv_at hl 0 rfl) ?_
  refine lv_aload_n hx hb dL_asked_344 rfl (lv_at hl 2 rfl) ?_
  refine lv_iconst (v := 0) hx hb dL_asked_345 (by decide) ?_
  refine va_iald (D := D) (cl := vwCl) hx hb hK hP 2 1 rfl rfl (vp_in_nI (n := 0) (N := 1) (by decide) (by decide)) dL_asked_346 ?_
  refine W.eq (g2 := F0 m 347 ls [.int 0, .ref xo]) rfl ?_
  have hFc := va_free (wc := [(xo, .inr (6, [.ref xg, .int gc, .ref xp, .int pc, .ref xq, .int qc, .ref r1, .ref r2, .ref r3, .ref r4, .ref se, .int ts, .int hou, .int dr, .int su, .int br])), (xq, .inl (cq, 16, .inr (.inr (.inr (.inr (zq [none, none, none, none, none, none, none, none, none, none, none, none, none, none, none, none]))))))]) hD hS hA [0, 1] rfl
  refine vx_calli (vx_runV (As := [.int 0]) (rest := []) ⟨hx, hb, hml, hown, hts⟩ (zc_X6_isFirst_no l hnt D G xo xg gc xp pc xq qc r1 r2 r3 r4 se ts hou dr su br cq s.heap.size) (cwV 1 hts gzL_asked_isFirst_no_X6_isFirst_no_130 rfl rfl rfl (by decide +kernel) ⟨(Nat.le_of_ble_eq_true rfl), (Nat.le_of_ble_eq_true rfl)⟩) ⟨p_RW_blind, va_recv hK hP (ci := 6) (q0 := 0) rfl rfl, (p_RW_at (tc := [(cq, .object "Gatherhouse$Piece")]) (wc := [(xo, .inr (6, [.ref xg, .int gc, .ref xp, .int pc, .ref xq, .int qc, .ref r1, .ref r2, .ref r3, .ref r4, .ref se, .int ts, .int hou, .int dr, .int su, .int br])), (xq, .inl (cq, 16, .inr (.inr (.inr (.inr (zq [none, none, none, none, none, none, none, none, none, none, none, none, none, none, none, none]))))))]) hP hK hD hS hA hT hZ [0, 1] [0] rfl rfl (by decide) rfl [.ref xo, .int 0])⟩ rfl rfl hl.1 rfl (lv_room (Nat.le_of_ble_eq_true rfl)) dL_asked_347 ⟨(Nat.le_of_ble_eq_true rfl), (Nat.le_of_ble_eq_true rfl)⟩) hS (fun q _ h => hFc q h) hFc (fun q _ h => hFc q h) (fun E ce q9 u t H locs ht hvm hpx hBX hz1 hk1 hS hce hcv hcl => ?_) (fun r_1273 u t H locs ht hvm w_1274 hB hz1 hk1 hS => ?_)
  · obtain ⟨hBX, hB⟩ := hBX
    obtain ⟨hP, hD, hK⟩ := q_join (D := D) (wc := [(xo, .inr (6, [.ref xg, .int gc, .ref xp, .int pc, .ref xq, .int qc, .ref r1, .ref r2, .ref r3, .ref r4, .ref se, .int ts, .int hou, .int dr, .int su, .int br])), (xq, .inl (cq, 16, .inr (.inr (.inr (.inr (zq [none, none, none, none, none, none, none, none, none, none, none, none, none, none, none, none]))))))]) (wr := [(va, .inl (ci, 1, .inl (zi [0])))]) (w1 := [(xo, .inr (6, [.ref xg, .int gc, .ref xp, .int pc, .ref xq, .int qc, .ref r1, .ref r2, .ref r3, .ref r4, .ref se, .int ts, .int hou, .int dr, .int su, .int br])), (xq, .inl (cq, 16, .inr (.inr (.inr (.inr (zq [none, none, none, none, none, none, none, none, none, none, none, none, none, none, none, none]))))))]) (tyr := [(ci, .int)]) (ty1 := [(cq, .object "Gatherhouse$Piece")]) hP hD hK [0, 1] [2] [1] rfl rfl (by decide) (by decide) rfl hFc hk1 ht hvm hB
    have hP : va_P D vwCl [(va, .inl (ci, 1, .inl (zi [0]))), (xo, .inr (6, [.ref xg, .int gc, .ref xp, .int pc, .ref xq, .int qc, .ref r1, .ref r2, .ref r3, .ref r4, .ref se, .int ts, .int hou, .int dr, .int su, .int br])), (xq, .inl (cq, 16, .inr (.inr (.inr (.inr (zq [none, none, none, none, none, none, none, none, none, none, none, none, none, none, none, none]))))))] H := hP
    have hD : va_D A [(va, .inl (ci, 1, .inl (zi [0]))), (xo, .inr (6, [.ref xg, .int gc, .ref xp, .int pc, .ref xq, .int qc, .ref r1, .ref r2, .ref r3, .ref r4, .ref se, .int ts, .int hou, .int dr, .int su, .int br])), (xq, .inl (cq, 16, .inr (.inr (.inr (.inr (zq [none, none, none, none, none, none, none, none, none, none, none, none, none, none, none, none]))))))] := hD
    have hK : va_K D vwCl [(ci, .int), (cq, .object "Gatherhouse$Piece")] s := hK
    have hBX : (E = "java/lang/IndexOutOfBoundsException") := hBX
    rcases hBX with rfl
    exact vx_out (fun x h => (hxt x h).elim) hlocks hce hcv hcl (fun t ht hW9 => ⟨(), trivial, ⟨rfl, q_RW_mk hP hK hD [1, 2] [1, 0] rfl rfl (by decide) rfl ht hW9⟩, hS.F ht⟩) hS.2.2 (Nat.le_of_ble_eq_true rfl) (Nat.le_of_ble_eq_true rfl)
  · exact w_1274.elim
def wzEL_ask_isFirst_no : List Cond := [.codeWith yL_ask cL_ask 4 (some .int) ttL_ask, .methodLink RL 73 yL_asked, .static yL_asked, .initialized RL, .code yL_asked cL_asked 3 (some .int), .methodLink RL 130 yX6_isFirst, .instanceMethod yX6_isFirst, .selects RX6 yX6_isFirst yX6_isFirst, .initialized RX6, .code yX6_isFirst cX6_isFirst 3 (some .boolean), .methodLink RX6 169 yX6_findPiece, .instanceMethod yX6_findPiece, .selects RX6 yX6_findPiece yX6_findPiece, .code yX6_findPiece cX6_findPiece 3 (some (.object "Gatherhouse$Piece")), .fieldLink RX6 30 "Gatherhouse" "pieces" "[LGatherhouse$Piece;", .classLink RX6 365 "java/lang/IndexOutOfBoundsException", .initialized "java/lang/IndexOutOfBoundsException", .classLink RL 79 "java/lang/IndexOutOfBoundsException", .constant RL 81 (-2000000001)]
def wzL_ask_isFirst_no : List Cond := wzEL_ask_isFirst_no ++ (u_ws RX6 TX6 16 ++ ((vx_atS RX6 369 "java/lang/IndexOutOfBoundsException" ["java/lang/RuntimeException", "java/lang/Exception"]).filter goodWord))
theorem zgEL_ask_isFirst_no : wzEL_ask_isFirst_no.all goodWord = true := by decide +kernel
theorem zuL_ask_isFirst_no_X6 : ∀ w ∈ u_ws RX6 TX6 16, w ∈ wzL_ask_isFirst_no := (fun _ h => (List.mem_append_right _ (List.mem_append_left _ h)))
theorem ztL_ask_isFirst_no_X6_369 : ∀ w ∈ (vx_atS RX6 369 "java/lang/IndexOutOfBoundsException" ["java/lang/RuntimeException", "java/lang/Exception"]).filter goodWord, w ∈ wzL_ask_isFirst_no := (fun _ h => (List.mem_append_right _ (List.mem_append_right _ h)))
theorem gzL_ask_isFirst_no_L_asked_isFirst_no_73 : GoodIn wzL_ask_isFirst_no (va_wsS RL 73 yL_asked wzL_asked_isFirst_no) := (goodIn_app (z_lift (goodIn_r _ [1, 2, 3] rfl (by decide +kernel))) (goodIn_app (z_lift (goodIn_r wzEL_asked_isFirst_no [4, 5, 6, 7, 8, 9, 10, 11, 12, 13, 14, 15, 16] rfl zgEL_asked_isFirst_no)) (goodIn_app (goodIn_sub (fun _ h => (List.mem_append_right _ (List.mem_append_left _ h))) zgU_X6) (goodIn_sub (fun _ h => (List.mem_append_right _ (List.mem_append_right _ h))) zgV_X6_369))))
set_option maxHeartbeats 4000000 in
set_option maxRecDepth 100000 in
theorem zc_L_ask_isFirst_no (l : Launch) (hnt : l.stackTraces = false) (D : va_G) (G : Nat × Nat × (Nat → Int32)) (xo : Nat) (va : Nat) (xg : Nat) (gc : Int32) (xp : Nat) (pc : Int32) (xq : Nat) (qc : Int32) (r1 : Nat) (r2 : Nat) (r3 : Nat) (r4 : Nat) (se : Nat) (ts : Int32) (hou : Int32) (dr : Int32) (su : Int32) (br : Int32) (cq : ClassId) (ci : ClassId) (sz : Nat) : vx_Met l yL_ask wzL_ask_isFirst_no ({ frames := 9, cells := 1, slots := 6, locals := 148 }) (va_Pc [.ref xo, .int 70, .ref va] (p_RW D G [(cq, .object "Gatherhouse$Piece"), (ci, .int)] [(xo, .inr (6, [.ref xg, .int gc, .ref xp, .int pc, .ref xq, .int qc, .ref r1, .ref r2, .ref r3, .ref r4, .ref se, .int ts, .int hou, .int dr, .int su, .int br])), (xq, .inl (cq, 16, .inr (.inr (.inr (.inr (zq [none, none, none, none, none, none, none, none, none, none, none, none, none, none, none, none])))))), (va, .inl (ci, 1, .inl (zi [0])))] sz)) (va_Qi (fun (r : Int32) (u : Unit) => r = (-2000000001)) (fun (u : Unit) (t : State) => q_RW D [(cq, .object "Gatherhouse$Piece")] [(xo, .inr (6, [.ref xg, .int gc, .ref xp, .int pc, .ref xq, .int qc, .ref r1, .ref r2, .ref r3, .ref r4, .ref se, .int ts, .int hou, .int dr, .int su, .int br])), (xq, .inl (cq, 16, .inr (.inr (.inr (.inr (zq [none, none, none, none, none, none, none, none, none, none, none, none, none, none, none, none]))))))] (va_A [(xo, .inr (6, [.ref xg, .int gc, .ref xp, .int pc, .ref xq, .int qc, .ref r1, .ref r2, .ref r3, .ref r4, .ref se, .int ts, .int hou, .int dr, .int su, .int br])), (xq, .inl (cq, 16, .inr (.inr (.inr (.inr (zq [none, none, none, none, none, none, none, none, none, none, none, none, none, none, none, none])))))), (va, .inl (ci, 1, .inl (zi [0])))] sz) t) (va_A [(xo, .inr (6, [.ref xg, .int gc, .ref xp, .int pc, .ref xq, .int qc, .ref r1, .ref r2, .ref r3, .ref r4, .ref se, .int ts, .int hou, .int dr, .int su, .int br])), (xq, .inl (cq, 16, .inr (.inr (.inr (.inr (zq [none, none, none, none, none, none, none, none, none, none, none, none, none, none, none, none])))))), (va, .inl (ci, 1, .inl (zi [0])))] sz)) (vx_X (fun (_ : Unit) => True) (fun E (_ : Unit) (_ : State) => False) (va_A [(xo, .inr (6, [.ref xg, .int gc, .ref xp, .int pc, .ref xq, .int qc, .ref r1, .ref r2, .ref r3, .ref r4, .ref se, .int ts, .int hou, .int dr, .int su, .int br])), (xq, .inl (cq, 16, .inr (.inr (.inr (.inr (zq [none, none, none, none, none, none, none, none, none, none, none, none, none, none, none, none])))))), (va, .inl (ci, 1, .inl (zi [0])))] sz)) 1 6 (va_A [(xo, .inr (6, [.ref xg, .int gc, .ref xp, .int pc, .ref xq, .int qc, .ref r1, .ref r2, .ref r3, .ref r4, .ref se, .int ts, .int hou, .int dr, .int su, .int br])), (xq, .inl (cq, 16, .inr (.inr (.inr (.inr (zq [none, none, none, none, none, none, none, none, none, none, none, none, none, none, none, none])))))), (va, .inl (ci, 1, .inl (zi [0])))] sz) := by
  refine vx_ofWH (cc := cL_ask) (maxL := 4) (ret := (some .int)) (by decide) rfl ?_
  intro p e s m args below meth c s₁ B hml hv
  obtain ⟨rfl, hsz, hP, hK, hD0, hT, hZ⟩ := hv
  have hx := B.exec
  have hb := B.bytes
  have hr := B.returns
  have hts := atoms_spec (ws := wzL_ask_isFirst_no) B.pre
  have hown : s.vm.findClass RL = some m.cls := findClass_of_methodNamed B.named
  have hlocks := B.notSynchronized
  have hxe := vx_table (x := yL_ask) B (hts _ List.mem_cons_self)
  subst hsz
  have hD := hD0.self (sz := s.heap.size)
  generalize hAe : va_A [(xo, .inr (6, [.ref xg, .int gc, .ref xp, .int pc, .ref xq, .int qc, .ref r1, .ref r2, .ref r3, .ref r4, .ref se, .int ts, .int hou, .int dr, .int su, .int br])), (xq, .inl (cq, 16, .inr (.inr (.inr (.inr (zq [none, none, none, none, none, none, none, none, none, none, none, none, none, none, none, none])))))), (va, .inl (ci, 1, .inl (zi [0])))] s.heap.size = A at hD hZ ⊢
  have hA : ∀ q : Nat, s.heap.size ≤ q → A q := fun q h => by rw [← hAe]; exact Or.inr h
  have hS : va_S A s.heap s.heap [] := va_S.rf
  have hl := lv_entry ([.ref xo, .int 70, .ref va]) (n := 4) (Nat.le_of_ble_eq_true rfl)
  rw [lg_entry_eq]
  generalize (lg_sl ([.ref xo, .int 70, .ref va]) ++ List.replicate (4 - (lg_sl ([.ref xo, .int 70, .ref va])).length) Slot.unset).toArray = ls at hl ⊢
  have hl : lv_has ls 4 [(0, .ref xo), (1, .int 70), (2, .ref va)] := hl
  refine lv_iload_n hx hb dL_ask_0 rfl (lv_at hl 1 rfl) ?_
  refine lv_tableIn (off := 460) (tgt := 461) hx hb dL_ask_1 (by decide +kernel) (by decide +kernel) (by decide +kernel) (by decide) ?_
  refine lv_aload_n hx hb dL_ask_461 rfl (lv_at hl 0 rfl) ?_
  refine lv_iload_n hx hb dL_ask_462 rfl (lv_at hl 1 rfl) ?_
  refine lv_aload_n hx hb dL_ask_463 rfl (lv_at hl 2 rfl) ?_
  have hFc := va_free (wc := [(xo, .inr (6, [.ref xg, .int gc, .ref xp, .int pc, .ref xq, .int qc, .ref r1, .ref r2, .ref r3, .ref r4, .ref se, .int ts, .int hou, .int dr, .int su, .int br])), (xq, .inl (cq, 16, .inr (.inr (.inr (.inr (zq [none, none, none, none, none, none, none, none, none, none, none, none, none, none, none, none])))))), (va, .inl (ci, 1, .inl (zi [0])))]) hD hS hA [0, 1, 2] rfl
  refine vx_calli (vx_runS (As := [.ref xo, .int 70, .ref va]) (rest := []) ⟨hx, hb, hml, hown, hts⟩ (zc_L_asked_isFirst_no l hnt D G xo va xg gc xp pc xq qc r1 r2 r3 r4 se ts hou dr su br cq ci s.heap.size) (cwS 3 hts gzL_ask_isFirst_no_L_asked_isFirst_no_73 rfl rfl rfl (by decide +kernel) ⟨(Nat.le_of_ble_eq_true rfl), (Nat.le_of_ble_eq_true rfl)⟩) ⟨p_RW_blind, (p_RW_at (tc := [(cq, .object "Gatherhouse$Piece"), (ci, .int)]) (wc := [(xo, .inr (6, [.ref xg, .int gc, .ref xp, .int pc, .ref xq, .int qc, .ref r1, .ref r2, .ref r3, .ref r4, .ref se, .int ts, .int hou, .int dr, .int su, .int br])), (xq, .inl (cq, 16, .inr (.inr (.inr (.inr (zq [none, none, none, none, none, none, none, none, none, none, none, none, none, none, none, none])))))), (va, .inl (ci, 1, .inl (zi [0])))]) hP hK hD hS hA hT hZ [0, 1, 2] [0, 1] rfl rfl (by decide) rfl [.ref xo, .int 70, .ref va])⟩ rfl rfl hl.1 rfl (lv_room (Nat.le_of_ble_eq_true rfl)) dL_ask_464 ⟨(Nat.le_of_ble_eq_true rfl), (Nat.le_of_ble_eq_true rfl)⟩) hS (fun q _ h => hFc q h) hFc (fun q _ h => hFc q h) (fun E ce q9 u t H locs ht hvm hpx hBX hz1 hk1 hS hce hcv hcl => ?_) (fun r_1275 u t H locs ht hvm w_1276 hB hz1 hk1 hS => ?_)
  · obtain ⟨hBX, hB⟩ := hBX
    obtain ⟨hP, hD, hK⟩ := q_join (D := D) (wc := [(xo, .inr (6, [.ref xg, .int gc, .ref xp, .int pc, .ref xq, .int qc, .ref r1, .ref r2, .ref r3, .ref r4, .ref se, .int ts, .int hou, .int dr, .int su, .int br])), (xq, .inl (cq, 16, .inr (.inr (.inr (.inr (zq [none, none, none, none, none, none, none, none, none, none, none, none, none, none, none, none])))))), (va, .inl (ci, 1, .inl (zi [0])))]) (wr := []) (w1 := [(xo, .inr (6, [.ref xg, .int gc, .ref xp, .int pc, .ref xq, .int qc, .ref r1, .ref r2, .ref r3, .ref r4, .ref se, .int ts, .int hou, .int dr, .int su, .int br])), (xq, .inl (cq, 16, .inr (.inr (.inr (.inr (zq [none, none, none, none, none, none, none, none, none, none, none, none, none, none, none, none]))))))]) (tyr := []) (ty1 := [(cq, .object "Gatherhouse$Piece"), (ci, .int)]) hP hD hK [0, 1, 2] [] [] rfl rfl (by decide) (by decide) rfl hFc hk1 ht hvm hB
    have hP : va_P D vwCl [(xo, .inr (6, [.ref xg, .int gc, .ref xp, .int pc, .ref xq, .int qc, .ref r1, .ref r2, .ref r3, .ref r4, .ref se, .int ts, .int hou, .int dr, .int su, .int br])), (xq, .inl (cq, 16, .inr (.inr (.inr (.inr (zq [none, none, none, none, none, none, none, none, none, none, none, none, none, none, none, none]))))))] H := hP
    have hD : va_D A [(xo, .inr (6, [.ref xg, .int gc, .ref xp, .int pc, .ref xq, .int qc, .ref r1, .ref r2, .ref r3, .ref r4, .ref se, .int ts, .int hou, .int dr, .int su, .int br])), (xq, .inl (cq, 16, .inr (.inr (.inr (.inr (zq [none, none, none, none, none, none, none, none, none, none, none, none, none, none, none, none]))))))] := hD
    have hK : va_K D vwCl [(cq, .object "Gatherhouse$Piece"), (ci, .int)] s := hK
    have hBX : (E = "java/lang/IndexOutOfBoundsException") := hBX
    rcases hBX with rfl
    refine z_catch (own := RL) (name := "java/lang/IndexOutOfBoundsException") (hh := ttL_ask) (x := ⟨461, 467, 468, 79⟩) hown hxe 19 rfl [] (by decide +kernel) (fun _ h => absurd h List.not_mem_nil) (by decide) (by decide) (hts (.classLink RL 79 "java/lang/IndexOutOfBoundsException") (by decide +kernel)) (va_Nw.use rfl (hT.2.2.1 ("java/lang/IndexOutOfBoundsException", "java/lang/IndexOutOfBoundsException") (by decide +kernel))) hce hcv hcl ?_
    refine W.eq (g2 := F0 m 468 ls [.ref q9]) rfl ?_
    refine lv_astore_n (lv' := [(3, .ref q9), (0, .ref xo), (1, .int 70), (2, .ref va)]) hx hb dL_ask_468 rfl hl (by decide) rfl (fun ls hl => ?_)
    refine lv_ldc (v := (-2000000001)) hx hb hown (hts (.constant RL 81 (-2000000001)) (by decide +kernel)) dL_ask_469 ?_
    refine vx_ret ?_
    exact W.iret (v := (-2000000001)) hx hb hr (fun t ht hW => ⟨⟨(-2000000001), (), rfl, rfl, q_RW_mk hP hK hD [0, 1] [0] rfl rfl (by decide) rfl ht hW.alike⟩, hS.F ht⟩) hS.2.2 dL_ask_471
  · exact w_1276.elim
theorem dL_asked_375 : decode cL_asked 375 = .ok (.aload_n 0, 1) := by decide +kernel
theorem dL_asked_376 : decode cL_asked 376 = .ok (.aload_n 2, 1) := by decide +kernel
theorem dL_asked_377 : decode cL_asked 377 = .ok (.iconst 0, 1) := by decide +kernel
theorem dL_asked_378 : decode cL_asked 378 = .ok (.iaload, 1) := by decide +kernel
theorem dL_asked_379 : decode cL_asked 379 = .ok (.aload_n 2, 1) := by decide +kernel
theorem dL_asked_380 : decode cL_asked 380 = .ok (.iconst 1, 1) := by decide +kernel
theorem dL_asked_381 : decode cL_asked 381 = .ok (.iaload, 1) := by decide +kernel
theorem dL_asked_382 : decode cL_asked 382 = .ok (.aload_n 2, 1) := by decide +kernel
theorem dL_asked_383 : decode cL_asked 383 = .ok (.iconst 2, 1) := by decide +kernel
theorem dL_asked_384 : decode cL_asked 384 = .ok (.iaload, 1) := by decide +kernel
theorem dL_asked_385 : decode cL_asked 385 = .ok (.invokevirtual 140, 3) := by decide +kernel
def wzEL_asked_cut_no : List Cond := [.code yL_asked cL_asked 3 (some .int), .methodLink RL 140 yX6_cut, .instanceMethod yX6_cut, .selects RX6 yX6_cut yX6_cut, .initialized RX6, .code yX6_cut cX6_cut 6 (some .int), .methodLink RX6 169 yX6_findPiece, .instanceMethod yX6_findPiece, .selects RX6 yX6_findPiece yX6_findPiece, .code yX6_findPiece cX6_findPiece 3 (some (.object "Gatherhouse$Piece")), .fieldLink RX6 30 "Gatherhouse" "pieces" "[LGatherhouse$Piece;", .classLink RX6 365 "java/lang/IndexOutOfBoundsException", .initialized "java/lang/IndexOutOfBoundsException"]
def wzL_asked_cut_no : List Cond := wzEL_asked_cut_no ++ (u_ws RX6 TX6 16 ++ ((vx_atS RX6 369 "java/lang/IndexOutOfBoundsException" ["java/lang/RuntimeException", "java/lang/Exception"]).filter goodWord))
theorem zgEL_asked_cut_no : wzEL_asked_cut_no.all goodWord = true := by decide +kernel
theorem zuL_asked_cut_no_X6 : ∀ w ∈ u_ws RX6 TX6 16, w ∈ wzL_asked_cut_no := (fun _ h => (List.mem_append_right _ (List.mem_append_left _ h)))
theorem ztL_asked_cut_no_X6_369 : ∀ w ∈ (vx_atS RX6 369 "java/lang/IndexOutOfBoundsException" ["java/lang/RuntimeException", "java/lang/Exception"]).filter goodWord, w ∈ wzL_asked_cut_no := (fun _ h => (List.mem_append_right _ (List.mem_append_right _ h)))
theorem gzL_asked_cut_no_X6_cut_no_140 : GoodIn wzL_asked_cut_no (wsV RL 140 RX6 yX6_cut wzX6_cut_no) := (goodIn_app (z_lift (goodIn_r _ [1, 2, 3, 4] rfl (by decide +kernel))) (goodIn_app (z_lift (goodIn_r wzEX6_cut_no [5, 6, 7, 8, 4, 9, 10, 11, 12] rfl zgEX6_cut_no)) (goodIn_app (goodIn_sub (fun _ h => (List.mem_append_right _ (List.mem_append_left _ h))) zgU_X6) (goodIn_sub (fun _ h => (List.mem_append_right _ (List.mem_append_right _ h))) zgV_X6_369))))
set_option maxHeartbeats 4000000 in
set_option maxRecDepth 100000 in
theorem zc_L_asked_cut_no (l : Launch) (hnt : l.stackTraces = false) (D : va_G) (G : Nat × Nat × (Nat → Int32)) (xo : Nat) (va : Nat) (xg : Nat) (gc : Int32) (xp : Nat) (pc : Int32) (xq : Nat) (qc : Int32) (r1 : Nat) (r2 : Nat) (r3 : Nat) (r4 : Nat) (se : Nat) (ts : Int32) (hou : Int32) (dr : Int32) (su : Int32) (br : Int32) (cq : ClassId) (ci : ClassId) (sz : Nat) : vx_Met l yL_asked wzL_asked_cut_no ({ frames := 8, cells := 1, slots := 6, locals := 129 }) (va_Pc [.ref xo, .int 117, .ref va] (p_RW D G [(cq, .object "Gatherhouse$Piece"), (ci, .int)] [(xo, .inr (6, [.ref xg, .int gc, .ref xp, .int pc, .ref xq, .int qc, .ref r1, .ref r2, .ref r3, .ref r4, .ref se, .int ts, .int hou, .int dr, .int su, .int br])), (xq, .inl (cq, 16, .inr (.inr (.inr (.inr (zq [none, none, none, none, none, none, none, none, none, none, none, none, none, none, none, none])))))), (va, .inl (ci, 3, .inl (zi [0, 0, 10])))] sz)) (va_Qi (fun (r : Int32) (u : Unit) => False) (fun (u : Unit) (t : State) => q_RW D [(cq, .object "Gatherhouse$Piece")] [(xo, .inr (6, [.ref xg, .int gc, .ref xp, .int pc, .ref xq, .int qc, .ref r1, .ref r2, .ref r3, .ref r4, .ref se, .int ts, .int hou, .int dr, .int su, .int br])), (xq, .inl (cq, 16, .inr (.inr (.inr (.inr (zq [none, none, none, none, none, none, none, none, none, none, none, none, none, none, none, none]))))))] (va_A [(xo, .inr (6, [.ref xg, .int gc, .ref xp, .int pc, .ref xq, .int qc, .ref r1, .ref r2, .ref r3, .ref r4, .ref se, .int ts, .int hou, .int dr, .int su, .int br])), (xq, .inl (cq, 16, .inr (.inr (.inr (.inr (zq [none, none, none, none, none, none, none, none, none, none, none, none, none, none, none, none])))))), (va, .inl (ci, 3, .inl (zi [0, 0, 10])))] sz) t) (va_A [(xo, .inr (6, [.ref xg, .int gc, .ref xp, .int pc, .ref xq, .int qc, .ref r1, .ref r2, .ref r3, .ref r4, .ref se, .int ts, .int hou, .int dr, .int su, .int br])), (xq, .inl (cq, 16, .inr (.inr (.inr (.inr (zq [none, none, none, none, none, none, none, none, none, none, none, none, none, none, none, none])))))), (va, .inl (ci, 3, .inl (zi [0, 0, 10])))] sz)) (vx_X (fun (_ : Unit) => True) (fun E (_ : Unit) (t : State) => ((E = "java/lang/IndexOutOfBoundsException")) ∧ q_RW D [(cq, .object "Gatherhouse$Piece"), (ci, .int)] [(xo, .inr (6, [.ref xg, .int gc, .ref xp, .int pc, .ref xq, .int qc, .ref r1, .ref r2, .ref r3, .ref r4, .ref se, .int ts, .int hou, .int dr, .int su, .int br])), (xq, .inl (cq, 16, .inr (.inr (.inr (.inr (zq [none, none, none, none, none, none, none, none, none, none, none, none, none, none, none, none]))))))] (va_A [(xo, .inr (6, [.ref xg, .int gc, .ref xp, .int pc, .ref xq, .int qc, .ref r1, .ref r2, .ref r3, .ref r4, .ref se, .int ts, .int hou, .int dr, .int su, .int br])), (xq, .inl (cq, 16, .inr (.inr (.inr (.inr (zq [none, none, none, none, none, none, none, none, none, none, none, none, none, none, none, none])))))), (va, .inl (ci, 3, .inl (zi [0, 0, 10])))] sz) t) (va_A [(xo, .inr (6, [.ref xg, .int gc, .ref xp, .int pc, .ref xq, .int qc, .ref r1, .ref r2, .ref r3, .ref r4, .ref se, .int ts, .int hou, .int dr, .int su, .int br])), (xq, .inl (cq, 16, .inr (.inr (.inr (.inr (zq [none, none, none, none, none, none, none, none, none, none, none, none, none, none, none, none])))))), (va, .inl (ci, 3, .inl (zi [0, 0, 10])))] sz)) 1 6 (va_A [(xo, .inr (6, [.ref xg, .int gc, .ref xp, .int pc, .ref xq, .int qc, .ref r1, .ref r2, .ref r3, .ref r4, .ref se, .int ts, .int hou, .int dr, .int su, .int br])), (xq, .inl (cq, 16, .inr (.inr (.inr (.inr (zq [none, none, none, none, none, none, none, none, none, none, none, none, none, none, none, none])))))), (va, .inl (ci, 3, .inl (zi [0, 0, 10])))] sz) := by
  refine vx_ofW (cc := cL_asked) (maxL := 3) (ret := (some .int)) (by decide) rfl ?_
  intro p e s m args below meth c s₁ B hml hxt hv
  obtain ⟨rfl, hsz, hP, hK, hD0, hT, hZ⟩ := hv
  have hx := B.exec
  have hb := B.bytes
  have hr := B.returns
  have hts := atoms_spec (ws := wzL_asked_cut_no) B.pre
  have hown : s.vm.findClass RL = some m.cls := findClass_of_methodNamed B.named
  have hlocks := B.notSynchronized
  subst hsz
  have hD := hD0.self (sz := s.heap.size)
  generalize hAe : va_A [(xo, .inr (6, [.ref xg, .int gc, .ref xp, .int pc, .ref xq, .int qc, .ref r1, .ref r2, .ref r3, .ref r4, .ref se, .int ts, .int hou, .int dr, .int su, .int br])), (xq, .inl (cq, 16, .inr (.inr (.inr (.inr (zq [none, none, none, none, none, none, none, none, none, none, none, none, none, none, none, none])))))), (va, .inl (ci, 3, .inl (zi [0, 0, 10])))] s.heap.size = A at hD hZ ⊢
  have hA : ∀ q : Nat, s.heap.size ≤ q → A q := fun q h => by rw [← hAe]; exact Or.inr h
  have hS : va_S A s.heap s.heap [] := va_S.rf
  have hl := lv_entry ([.ref xo, .int 117, .ref va]) (n := 3) (Nat.le_of_ble_eq_true rfl)
  rw [lg_entry_eq]
  generalize (lg_sl ([.ref xo, .int 117, .ref va]) ++ List.replicate (3 - (lg_sl ([.ref xo, .int 117, .ref va])).length) Slot.unset).toArray = ls at hl ⊢
  have hl : lv_has ls 3 [(0, .ref xo), (1, .int 117), (2, .ref va)] := hl
  refine lv_iload_n hx hb dL_asked_0 rfl (lv_at hl 1 rfl) ?_
  refine lv_tableIn (off := 374) (tgt := 375) hx hb dL_asked_1 (by decide +kernel) (by decide +kernel) (by decide +kernel) (by decide) ?_
  refine lv_aload_n hx hb dL_asked_375 rfl (lv_at hl 0 rfl) ?_
  refine lv_aload_n hx hb dL_asked_376 rfl (lv_at hl 2 rfl) ?_
  refine lv_iconst (v := 0) hx hb dL_asked_377 (by decide) ?_
  refine va_iald (D := D) (cl := vwCl) hx hb hK hP 2 1 rfl rfl (vp_in_nI (n := 0) (N := 3) (by decide) (by decide)) dL_asked_378 ?_
  refine W.eq (g2 := F0 m 379 ls [.int 0, .ref xo]) rfl ?_
  refine lv_aload_n hx hb dL_asked_379 rfl (lv_at hl 2 rfl) ?_
  refine lv_iconst (v := 1) hx hb dL_asked_380 (by decide) ?_
  refine va_iald (D := D) (cl := vwCl) hx hb hK hP 2 1 rfl rfl (vp_in_nI (n := 1) (N := 3) (by decide) (by decide)) dL_asked_381 ?_
  refine W.eq (g2 := F0 m 382 ls [.int 0, .int 0, .ref xo]) rfl ?_
  refine lv_aload_n hx hb dL_asked_382 rfl (lv_at hl 2 rfl) ?_
  refine lv_iconst (v := 2) hx hb dL_asked_383 (by decide) ?_
  refine va_iald (D := D) (cl := vwCl) hx hb hK hP 2 1 rfl rfl (vp_in_nI (n := 2) (N := 3) (by decide) (by decide)) dL_asked_384 ?_
  refine W.eq (g2 := F0 m 385 ls [.int 10, .int 0, .int 0, .ref xo]) rfl ?_
  have hFc := va_free (wc := [(xo, .inr (6, [.ref xg, .int gc, .ref xp, .int pc, .ref xq, .int qc, .ref r1, .ref r2, .ref r3, .ref r4, .ref se, .int ts, .int hou, .int dr, .int su, .int br])), (xq, .inl (cq, 16, .inr (.inr (.inr (.inr (zq [none, none, none, none, none, none, none, none, none, none, none, none, none, none, none, none]))))))]) hD hS hA [0, 1] rfl
  refine vx_calli (vx_runV (As := [.int 0, .int 0, .int 10]) (rest := []) ⟨hx, hb, hml, hown, hts⟩ (zc_X6_cut_no l hnt D G xo xg gc xp pc xq qc r1 r2 r3 r4 se ts hou dr su br cq s.heap.size) (cwV 3 hts gzL_asked_cut_no_X6_cut_no_140 rfl rfl rfl (by decide +kernel) ⟨(Nat.le_of_ble_eq_true rfl), (Nat.le_of_ble_eq_true rfl)⟩) ⟨p_RW_blind, va_recv hK hP (ci := 6) (q0 := 0) rfl rfl, (p_RW_at (tc := [(cq, .object "Gatherhouse$Piece")]) (wc := [(xo, .inr (6, [.ref xg, .int gc, .ref xp, .int pc, .ref xq, .int qc, .ref r1, .ref r2, .ref r3, .ref r4, .ref se, .int ts, .int hou, .int dr, .int su, .int br])), (xq, .inl (cq, 16, .inr (.inr (.inr (.inr (zq [none, none, none, none, none, none, none, none, none, none, none, none, none, none, none, none]))))))]) hP hK hD hS hA hT hZ [0, 1] [0] rfl rfl (by decide) rfl [.ref xo, .int 0, .int 0, .int 10])⟩ rfl rfl hl.1 rfl (lv_room (Nat.le_of_ble_eq_true rfl)) dL_asked_385 ⟨(Nat.le_of_ble_eq_true rfl), (Nat.le_of_ble_eq_true rfl)⟩) hS (fun q _ h => hFc q h) hFc (fun q _ h => hFc q h) (fun E ce q9 u t H locs ht hvm hpx hBX hz1 hk1 hS hce hcv hcl => ?_) (fun r_1277 u t H locs ht hvm w_1278 hB hz1 hk1 hS => ?_)
  · obtain ⟨hBX, hB⟩ := hBX
    obtain ⟨hP, hD, hK⟩ := q_join (D := D) (wc := [(xo, .inr (6, [.ref xg, .int gc, .ref xp, .int pc, .ref xq, .int qc, .ref r1, .ref r2, .ref r3, .ref r4, .ref se, .int ts, .int hou, .int dr, .int su, .int br])), (xq, .inl (cq, 16, .inr (.inr (.inr (.inr (zq [none, none, none, none, none, none, none, none, none, none, none, none, none, none, none, none]))))))]) (wr := [(va, .inl (ci, 3, .inl (zi [0, 0, 10])))]) (w1 := [(xo, .inr (6, [.ref xg, .int gc, .ref xp, .int pc, .ref xq, .int qc, .ref r1, .ref r2, .ref r3, .ref r4, .ref se, .int ts, .int hou, .int dr, .int su, .int br])), (xq, .inl (cq, 16, .inr (.inr (.inr (.inr (zq [none, none, none, none, none, none, none, none, none, none, none, none, none, none, none, none]))))))]) (tyr := [(ci, .int)]) (ty1 := [(cq, .object "Gatherhouse$Piece")]) hP hD hK [0, 1] [2] [1] rfl rfl (by decide) (by decide) rfl hFc hk1 ht hvm hB
    have hP : va_P D vwCl [(va, .inl (ci, 3, .inl (zi [0, 0, 10]))), (xo, .inr (6, [.ref xg, .int gc, .ref xp, .int pc, .ref xq, .int qc, .ref r1, .ref r2, .ref r3, .ref r4, .ref se, .int ts, .int hou, .int dr, .int su, .int br])), (xq, .inl (cq, 16, .inr (.inr (.inr (.inr (zq [none, none, none, none, none, none, none, none, none, none, none, none, none, none, none, none]))))))] H := hP
    have hD : va_D A [(va, .inl (ci, 3, .inl (zi [0, 0, 10]))), (xo, .inr (6, [.ref xg, .int gc, .ref xp, .int pc, .ref xq, .int qc, .ref r1, .ref r2, .ref r3, .ref r4, .ref se, .int ts, .int hou, .int dr, .int su, .int br])), (xq, .inl (cq, 16, .inr (.inr (.inr (.inr (zq [none, none, none, none, none, none, none, none, none, none, none, none, none, none, none, none]))))))] := hD
    have hK : va_K D vwCl [(ci, .int), (cq, .object "Gatherhouse$Piece")] s := hK
    have hBX : (E = "java/lang/IndexOutOfBoundsException") := hBX
    rcases hBX with rfl
    exact vx_out (fun x h => (hxt x h).elim) hlocks hce hcv hcl (fun t ht hW9 => ⟨(), trivial, ⟨rfl, q_RW_mk hP hK hD [1, 2] [1, 0] rfl rfl (by decide) rfl ht hW9⟩, hS.F ht⟩) hS.2.2 (Nat.le_of_ble_eq_true rfl) (Nat.le_of_ble_eq_true rfl)
  · exact w_1278.elim
def wzEL_ask_cut_no : List Cond := [.codeWith yL_ask cL_ask 4 (some .int) ttL_ask, .methodLink RL 73 yL_asked, .static yL_asked, .initialized RL, .code yL_asked cL_asked 3 (some .int), .methodLink RL 140 yX6_cut, .instanceMethod yX6_cut, .selects RX6 yX6_cut yX6_cut, .initialized RX6, .code yX6_cut cX6_cut 6 (some .int), .methodLink RX6 169 yX6_findPiece, .instanceMethod yX6_findPiece, .selects RX6 yX6_findPiece yX6_findPiece, .code yX6_findPiece cX6_findPiece 3 (some (.object "Gatherhouse$Piece")), .fieldLink RX6 30 "Gatherhouse" "pieces" "[LGatherhouse$Piece;", .classLink RX6 365 "java/lang/IndexOutOfBoundsException", .initialized "java/lang/IndexOutOfBoundsException", .classLink RL 79 "java/lang/IndexOutOfBoundsException", .constant RL 81 (-2000000001)]
def wzL_ask_cut_no : List Cond := wzEL_ask_cut_no ++ (u_ws RX6 TX6 16 ++ ((vx_atS RX6 369 "java/lang/IndexOutOfBoundsException" ["java/lang/RuntimeException", "java/lang/Exception"]).filter goodWord))
theorem zgEL_ask_cut_no : wzEL_ask_cut_no.all goodWord = true := by decide +kernel
theorem zuL_ask_cut_no_X6 : ∀ w ∈ u_ws RX6 TX6 16, w ∈ wzL_ask_cut_no := (fun _ h => (List.mem_append_right _ (List.mem_append_left _ h)))
theorem ztL_ask_cut_no_X6_369 : ∀ w ∈ (vx_atS RX6 369 "java/lang/IndexOutOfBoundsException" ["java/lang/RuntimeException", "java/lang/Exception"]).filter goodWord, w ∈ wzL_ask_cut_no := (fun _ h => (List.mem_append_right _ (List.mem_append_right _ h)))
theorem gzL_ask_cut_no_L_asked_cut_no_73 : GoodIn wzL_ask_cut_no (va_wsS RL 73 yL_asked wzL_asked_cut_no) := (goodIn_app (z_lift (goodIn_r _ [1, 2, 3] rfl (by decide +kernel))) (goodIn_app (z_lift (goodIn_r wzEL_asked_cut_no [4, 5, 6, 7, 8, 9, 10, 11, 12, 13, 14, 15, 16] rfl zgEL_asked_cut_no)) (goodIn_app (goodIn_sub (fun _ h => (List.mem_append_right _ (List.mem_append_left _ h))) zgU_X6) (goodIn_sub (fun _ h => (List.mem_append_right _ (List.mem_append_right _ h))) zgV_X6_369))))
set_option maxHeartbeats 4000000 in
set_option maxRecDepth 100000 in
theorem zc_L_ask_cut_no (l : Launch) (hnt : l.stackTraces = false) (D : va_G) (G : Nat × Nat × (Nat → Int32)) (xo : Nat) (va : Nat) (xg : Nat) (gc : Int32) (xp : Nat) (pc : Int32) (xq : Nat) (qc : Int32) (r1 : Nat) (r2 : Nat) (r3 : Nat) (r4 : Nat) (se : Nat) (ts : Int32) (hou : Int32) (dr : Int32) (su : Int32) (br : Int32) (cq : ClassId) (ci : ClassId) (sz : Nat) : vx_Met l yL_ask wzL_ask_cut_no ({ frames := 9, cells := 1, slots := 6, locals := 151 }) (va_Pc [.ref xo, .int 117, .ref va] (p_RW D G [(cq, .object "Gatherhouse$Piece"), (ci, .int)] [(xo, .inr (6, [.ref xg, .int gc, .ref xp, .int pc, .ref xq, .int qc, .ref r1, .ref r2, .ref r3, .ref r4, .ref se, .int ts, .int hou, .int dr, .int su, .int br])), (xq, .inl (cq, 16, .inr (.inr (.inr (.inr (zq [none, none, none, none, none, none, none, none, none, none, none, none, none, none, none, none])))))), (va, .inl (ci, 3, .inl (zi [0, 0, 10])))] sz)) (va_Qi (fun (r : Int32) (u : Unit) => r = (-2000000001)) (fun (u : Unit) (t : State) => q_RW D [(cq, .object "Gatherhouse$Piece")] [(xo, .inr (6, [.ref xg, .int gc, .ref xp, .int pc, .ref xq, .int qc, .ref r1, .ref r2, .ref r3, .ref r4, .ref se, .int ts, .int hou, .int dr, .int su, .int br])), (xq, .inl (cq, 16, .inr (.inr (.inr (.inr (zq [none, none, none, none, none, none, none, none, none, none, none, none, none, none, none, none]))))))] (va_A [(xo, .inr (6, [.ref xg, .int gc, .ref xp, .int pc, .ref xq, .int qc, .ref r1, .ref r2, .ref r3, .ref r4, .ref se, .int ts, .int hou, .int dr, .int su, .int br])), (xq, .inl (cq, 16, .inr (.inr (.inr (.inr (zq [none, none, none, none, none, none, none, none, none, none, none, none, none, none, none, none])))))), (va, .inl (ci, 3, .inl (zi [0, 0, 10])))] sz) t) (va_A [(xo, .inr (6, [.ref xg, .int gc, .ref xp, .int pc, .ref xq, .int qc, .ref r1, .ref r2, .ref r3, .ref r4, .ref se, .int ts, .int hou, .int dr, .int su, .int br])), (xq, .inl (cq, 16, .inr (.inr (.inr (.inr (zq [none, none, none, none, none, none, none, none, none, none, none, none, none, none, none, none])))))), (va, .inl (ci, 3, .inl (zi [0, 0, 10])))] sz)) (vx_X (fun (_ : Unit) => True) (fun E (_ : Unit) (_ : State) => False) (va_A [(xo, .inr (6, [.ref xg, .int gc, .ref xp, .int pc, .ref xq, .int qc, .ref r1, .ref r2, .ref r3, .ref r4, .ref se, .int ts, .int hou, .int dr, .int su, .int br])), (xq, .inl (cq, 16, .inr (.inr (.inr (.inr (zq [none, none, none, none, none, none, none, none, none, none, none, none, none, none, none, none])))))), (va, .inl (ci, 3, .inl (zi [0, 0, 10])))] sz)) 1 6 (va_A [(xo, .inr (6, [.ref xg, .int gc, .ref xp, .int pc, .ref xq, .int qc, .ref r1, .ref r2, .ref r3, .ref r4, .ref se, .int ts, .int hou, .int dr, .int su, .int br])), (xq, .inl (cq, 16, .inr (.inr (.inr (.inr (zq [none, none, none, none, none, none, none, none, none, none, none, none, none, none, none, none])))))), (va, .inl (ci, 3, .inl (zi [0, 0, 10])))] sz) := by
  refine vx_ofWH (cc := cL_ask) (maxL := 4) (ret := (some .int)) (by decide) rfl ?_
  intro p e s m args below meth c s₁ B hml hv
  obtain ⟨rfl, hsz, hP, hK, hD0, hT, hZ⟩ := hv
  have hx := B.exec
  have hb := B.bytes
  have hr := B.returns
  have hts := atoms_spec (ws := wzL_ask_cut_no) B.pre
  have hown : s.vm.findClass RL = some m.cls := findClass_of_methodNamed B.named
  have hlocks := B.notSynchronized
  have hxe := vx_table (x := yL_ask) B (hts _ List.mem_cons_self)
  subst hsz
  have hD := hD0.self (sz := s.heap.size)
  generalize hAe : va_A [(xo, .inr (6, [.ref xg, .int gc, .ref xp, .int pc, .ref xq, .int qc, .ref r1, .ref r2, .ref r3, .ref r4, .ref se, .int ts, .int hou, .int dr, .int su, .int br])), (xq, .inl (cq, 16, .inr (.inr (.inr (.inr (zq [none, none, none, none, none, none, none, none, none, none, none, none, none, none, none, none])))))), (va, .inl (ci, 3, .inl (zi [0, 0, 10])))] s.heap.size = A at hD hZ ⊢
  have hA : ∀ q : Nat, s.heap.size ≤ q → A q := fun q h => by rw [← hAe]; exact Or.inr h
  have hS : va_S A s.heap s.heap [] := va_S.rf
  have hl := lv_entry ([.ref xo, .int 117, .ref va]) (n := 4) (Nat.le_of_ble_eq_true rfl)
  rw [lg_entry_eq]
  generalize (lg_sl ([.ref xo, .int 117, .ref va]) ++ List.replicate (4 - (lg_sl ([.ref xo, .int 117, .ref va])).length) Slot.unset).toArray = ls at hl ⊢
  have hl : lv_has ls 4 [(0, .ref xo), (1, .int 117), (2, .ref va)] := hl
  refine lv_iload_n hx hb dL_ask_0 rfl (lv_at hl 1 rfl) ?_
  refine lv_tableIn (off := 460) (tgt := 461) hx hb dL_ask_1 (by decide +kernel) (by decide +kernel) (by decide +kernel) (by decide) ?_
  refine lv_aload_n hx hb dL_ask_461 rfl (lv_at hl 0 rfl) ?_
  refine lv_iload_n hx hb dL_ask_462 rfl (lv_at hl 1 rfl) ?_
  refine lv_aload_n hx hb dL_ask_463 rfl (lv_at hl 2 rfl) ?_
  have hFc := va_free (wc := [(xo, .inr (6, [.ref xg, .int gc, .ref xp, .int pc, .ref xq, .int qc, .ref r1, .ref r2, .ref r3, .ref r4, .ref se, .int ts, .int hou, .int dr, .int su, .int br])), (xq, .inl (cq, 16, .inr (.inr (.inr (.inr (zq [none, none, none, none, none, none, none, none, none, none, none, none, none, none, none, none])))))), (va, .inl (ci, 3, .inl (zi [0, 0, 10])))]) hD hS hA [0, 1, 2] rfl
  refine vx_calli (vx_runS (As := [.ref xo, .int 117, .ref va]) (rest := []) ⟨hx, hb, hml, hown, hts⟩ (zc_L_asked_cut_no l hnt D G xo va xg gc xp pc xq qc r1 r2 r3 r4 se ts hou dr su br cq ci s.heap.size) (cwS 3 hts gzL_ask_cut_no_L_asked_cut_no_73 rfl rfl rfl (by decide +kernel) ⟨(Nat.le_of_ble_eq_true rfl), (Nat.le_of_ble_eq_true rfl)⟩) ⟨p_RW_blind, (p_RW_at (tc := [(cq, .object "Gatherhouse$Piece"), (ci, .int)]) (wc := [(xo, .inr (6, [.ref xg, .int gc, .ref xp, .int pc, .ref xq, .int qc, .ref r1, .ref r2, .ref r3, .ref r4, .ref se, .int ts, .int hou, .int dr, .int su, .int br])), (xq, .inl (cq, 16, .inr (.inr (.inr (.inr (zq [none, none, none, none, none, none, none, none, none, none, none, none, none, none, none, none])))))), (va, .inl (ci, 3, .inl (zi [0, 0, 10])))]) hP hK hD hS hA hT hZ [0, 1, 2] [0, 1] rfl rfl (by decide) rfl [.ref xo, .int 117, .ref va])⟩ rfl rfl hl.1 rfl (lv_room (Nat.le_of_ble_eq_true rfl)) dL_ask_464 ⟨(Nat.le_of_ble_eq_true rfl), (Nat.le_of_ble_eq_true rfl)⟩) hS (fun q _ h => hFc q h) hFc (fun q _ h => hFc q h) (fun E ce q9 u t H locs ht hvm hpx hBX hz1 hk1 hS hce hcv hcl => ?_) (fun r_1279 u t H locs ht hvm w_1280 hB hz1 hk1 hS => ?_)
  · obtain ⟨hBX, hB⟩ := hBX
    obtain ⟨hP, hD, hK⟩ := q_join (D := D) (wc := [(xo, .inr (6, [.ref xg, .int gc, .ref xp, .int pc, .ref xq, .int qc, .ref r1, .ref r2, .ref r3, .ref r4, .ref se, .int ts, .int hou, .int dr, .int su, .int br])), (xq, .inl (cq, 16, .inr (.inr (.inr (.inr (zq [none, none, none, none, none, none, none, none, none, none, none, none, none, none, none, none])))))), (va, .inl (ci, 3, .inl (zi [0, 0, 10])))]) (wr := []) (w1 := [(xo, .inr (6, [.ref xg, .int gc, .ref xp, .int pc, .ref xq, .int qc, .ref r1, .ref r2, .ref r3, .ref r4, .ref se, .int ts, .int hou, .int dr, .int su, .int br])), (xq, .inl (cq, 16, .inr (.inr (.inr (.inr (zq [none, none, none, none, none, none, none, none, none, none, none, none, none, none, none, none]))))))]) (tyr := []) (ty1 := [(cq, .object "Gatherhouse$Piece"), (ci, .int)]) hP hD hK [0, 1, 2] [] [] rfl rfl (by decide) (by decide) rfl hFc hk1 ht hvm hB
    have hP : va_P D vwCl [(xo, .inr (6, [.ref xg, .int gc, .ref xp, .int pc, .ref xq, .int qc, .ref r1, .ref r2, .ref r3, .ref r4, .ref se, .int ts, .int hou, .int dr, .int su, .int br])), (xq, .inl (cq, 16, .inr (.inr (.inr (.inr (zq [none, none, none, none, none, none, none, none, none, none, none, none, none, none, none, none]))))))] H := hP
    have hD : va_D A [(xo, .inr (6, [.ref xg, .int gc, .ref xp, .int pc, .ref xq, .int qc, .ref r1, .ref r2, .ref r3, .ref r4, .ref se, .int ts, .int hou, .int dr, .int su, .int br])), (xq, .inl (cq, 16, .inr (.inr (.inr (.inr (zq [none, none, none, none, none, none, none, none, none, none, none, none, none, none, none, none]))))))] := hD
    have hK : va_K D vwCl [(cq, .object "Gatherhouse$Piece"), (ci, .int)] s := hK
    have hBX : (E = "java/lang/IndexOutOfBoundsException") := hBX
    rcases hBX with rfl
    refine z_catch (own := RL) (name := "java/lang/IndexOutOfBoundsException") (hh := ttL_ask) (x := ⟨461, 467, 468, 79⟩) hown hxe 19 rfl [] (by decide +kernel) (fun _ h => absurd h List.not_mem_nil) (by decide) (by decide) (hts (.classLink RL 79 "java/lang/IndexOutOfBoundsException") (by decide +kernel)) (va_Nw.use rfl (hT.2.2.1 ("java/lang/IndexOutOfBoundsException", "java/lang/IndexOutOfBoundsException") (by decide +kernel))) hce hcv hcl ?_
    refine W.eq (g2 := F0 m 468 ls [.ref q9]) rfl ?_
    refine lv_astore_n (lv' := [(3, .ref q9), (0, .ref xo), (1, .int 117), (2, .ref va)]) hx hb dL_ask_468 rfl hl (by decide) rfl (fun ls hl => ?_)
    refine lv_ldc (v := (-2000000001)) hx hb hown (hts (.constant RL 81 (-2000000001)) (by decide +kernel)) dL_ask_469 ?_
    refine vx_ret ?_
    exact W.iret (v := (-2000000001)) hx hb hr (fun t ht hW => ⟨⟨(-2000000001), (), rfl, rfl, q_RW_mk hP hK hD [0, 1] [0] rfl rfl (by decide) rfl ht hW.alike⟩, hS.F ht⟩) hS.2.2 dL_ask_471
  · exact w_1280.elim
theorem dL_asked_389 : decode cL_asked 389 = .ok (.aload_n 0, 1) := by decide +kernel
theorem dL_asked_390 : decode cL_asked 390 = .ok (.aload_n 2, 1) := by decide +kernel
theorem dL_asked_391 : decode cL_asked 391 = .ok (.iconst 0, 1) := by decide +kernel
theorem dL_asked_392 : decode cL_asked 392 = .ok (.iaload, 1) := by decide +kernel
theorem dL_asked_393 : decode cL_asked 393 = .ok (.aload_n 2, 1) := by decide +kernel
theorem dL_asked_394 : decode cL_asked 394 = .ok (.iconst 1, 1) := by decide +kernel
theorem dL_asked_395 : decode cL_asked 395 = .ok (.iaload, 1) := by decide +kernel
theorem dL_asked_396 : decode cL_asked 396 = .ok (.invokevirtual 143, 3) := by decide +kernel
def wzEL_asked_colour_no : List Cond := [.code yL_asked cL_asked 3 (some .int), .methodLink RL 143 yX6_colour, .instanceMethod yX6_colour, .selects RX6 yX6_colour yX6_colour, .initialized RX6, .code yX6_colour cX6_colour 3 (some .int), .methodLink RX6 169 yX6_findPiece, .instanceMethod yX6_findPiece, .selects RX6 yX6_findPiece yX6_findPiece, .code yX6_findPiece cX6_findPiece 3 (some (.object "Gatherhouse$Piece")), .fieldLink RX6 30 "Gatherhouse" "pieces" "[LGatherhouse$Piece;", .classLink RX6 365 "java/lang/IndexOutOfBoundsException", .initialized "java/lang/IndexOutOfBoundsException"]
def wzL_asked_colour_no : List Cond := wzEL_asked_colour_no ++ (u_ws RX6 TX6 16 ++ ((vx_atS RX6 369 "java/lang/IndexOutOfBoundsException" ["java/lang/RuntimeException", "java/lang/Exception"]).filter goodWord))
theorem zgEL_asked_colour_no : wzEL_asked_colour_no.all goodWord = true := by decide +kernel
theorem zuL_asked_colour_no_X6 : ∀ w ∈ u_ws RX6 TX6 16, w ∈ wzL_asked_colour_no := (fun _ h => (List.mem_append_right _ (List.mem_append_left _ h)))
theorem ztL_asked_colour_no_X6_369 : ∀ w ∈ (vx_atS RX6 369 "java/lang/IndexOutOfBoundsException" ["java/lang/RuntimeException", "java/lang/Exception"]).filter goodWord, w ∈ wzL_asked_colour_no := (fun _ h => (List.mem_append_right _ (List.mem_append_right _ h)))
theorem gzL_asked_colour_no_X6_colour_no_143 : GoodIn wzL_asked_colour_no (wsV RL 143 RX6 yX6_colour wzX6_colour_no) := (goodIn_app (z_lift (goodIn_r _ [1, 2, 3, 4] rfl (by decide +kernel))) (goodIn_app (z_lift (goodIn_r wzEX6_colour_no [5, 6, 7, 8, 4, 9, 10, 11, 12] rfl zgEX6_colour_no)) (goodIn_app (goodIn_sub (fun _ h => (List.mem_append_right _ (List.mem_append_left _ h))) zgU_X6) (goodIn_sub (fun _ h => (List.mem_append_right _ (List.mem_append_right _ h))) zgV_X6_369))))
set_option maxHeartbeats 4000000 in
set_option maxRecDepth 100000 in
theorem zc_L_asked_colour_no (l : Launch) (hnt : l.stackTraces = false) (D : va_G) (G : Nat × Nat × (Nat → Int32)) (xo : Nat) (va : Nat) (xg : Nat) (gc : Int32) (xp : Nat) (pc : Int32) (xq : Nat) (qc : Int32) (r1 : Nat) (r2 : Nat) (r3 : Nat) (r4 : Nat) (se : Nat) (ts : Int32) (hou : Int32) (dr : Int32) (su : Int32) (br : Int32) (cq : ClassId) (ci : ClassId) (sz : Nat) : vx_Met l yL_asked wzL_asked_colour_no ({ frames := 8, cells := 1, slots := 6, locals := 126 }) (va_Pc [.ref xo, .int 113, .ref va] (p_RW D G [(cq, .object "Gatherhouse$Piece"), (ci, .int)] [(xo, .inr (6, [.ref xg, .int gc, .ref xp, .int pc, .ref xq, .int qc, .ref r1, .ref r2, .ref r3, .ref r4, .ref se, .int ts, .int hou, .int dr, .int su, .int br])), (xq, .inl (cq, 16, .inr (.inr (.inr (.inr (zq [none, none, none, none, none, none, none, none, none, none, none, none, none, none, none, none])))))), (va, .inl (ci, 2, .inl (zi [0, 0])))] sz)) (va_Qi (fun (r : Int32) (u : Unit) => False) (fun (u : Unit) (t : State) => q_RW D [(cq, .object "Gatherhouse$Piece")] [(xo, .inr (6, [.ref xg, .int gc, .ref xp, .int pc, .ref xq, .int qc, .ref r1, .ref r2, .ref r3, .ref r4, .ref se, .int ts, .int hou, .int dr, .int su, .int br])), (xq, .inl (cq, 16, .inr (.inr (.inr (.inr (zq [none, none, none, none, none, none, none, none, none, none, none, none, none, none, none, none]))))))] (va_A [(xo, .inr (6, [.ref xg, .int gc, .ref xp, .int pc, .ref xq, .int qc, .ref r1, .ref r2, .ref r3, .ref r4, .ref se, .int ts, .int hou, .int dr, .int su, .int br])), (xq, .inl (cq, 16, .inr (.inr (.inr (.inr (zq [none, none, none, none, none, none, none, none, none, none, none, none, none, none, none, none])))))), (va, .inl (ci, 2, .inl (zi [0, 0])))] sz) t) (va_A [(xo, .inr (6, [.ref xg, .int gc, .ref xp, .int pc, .ref xq, .int qc, .ref r1, .ref r2, .ref r3, .ref r4, .ref se, .int ts, .int hou, .int dr, .int su, .int br])), (xq, .inl (cq, 16, .inr (.inr (.inr (.inr (zq [none, none, none, none, none, none, none, none, none, none, none, none, none, none, none, none])))))), (va, .inl (ci, 2, .inl (zi [0, 0])))] sz)) (vx_X (fun (_ : Unit) => True) (fun E (_ : Unit) (t : State) => ((E = "java/lang/IndexOutOfBoundsException")) ∧ q_RW D [(cq, .object "Gatherhouse$Piece"), (ci, .int)] [(xo, .inr (6, [.ref xg, .int gc, .ref xp, .int pc, .ref xq, .int qc, .ref r1, .ref r2, .ref r3, .ref r4, .ref se, .int ts, .int hou, .int dr, .int su, .int br])), (xq, .inl (cq, 16, .inr (.inr (.inr (.inr (zq [none, none, none, none, none, none, none, none, none, none, none, none, none, none, none, none]))))))] (va_A [(xo, .inr (6, [.ref xg, .int gc, .ref xp, .int pc, .ref xq, .int qc, .ref r1, .ref r2, .ref r3, .ref r4, .ref se, .int ts, .int hou, .int dr, .int su, .int br])), (xq, .inl (cq, 16, .inr (.inr (.inr (.inr (zq [none, none, none, none, none, none, none, none, none, none, none, none, none, none, none, none])))))), (va, .inl (ci, 2, .inl (zi [0, 0])))] sz) t) (va_A [(xo, .inr (6, [.ref xg, .int gc, .ref xp, .int pc, .ref xq, .int qc, .ref r1, .ref r2, .ref r3, .ref r4, .ref se, .int ts, .int hou, .int dr, .int su, .int br])), (xq, .inl (cq, 16, .inr (.inr (.inr (.inr (zq [none, none, none, none, none, none, none, none, none, none, none, none, none, none, none, none])))))), (va, .inl (ci, 2, .inl (zi [0, 0])))] sz)) 1 6 (va_A [(xo, .inr (6, [.ref xg, .int gc, .ref xp, .int pc, .ref xq, .int qc, .ref r1, .ref r2, .ref r3, .ref r4, .ref se, .int ts, .int hou, .int dr, .int su, .int br])), (xq, .inl (cq, 16, .inr (.inr (.inr (.inr (zq [none, none, none, none, none, none, none, none, none, none, none, none, none, none, none, none])))))), (va, .inl (ci, 2, .inl (zi [0, 0])))] sz) := by
  refine vx_ofW (cc := cL_asked) (maxL := 3) (ret := (some .int)) (by decide) rfl ?_
  intro p e s m args below meth c s₁ B hml hxt hv
  obtain ⟨rfl, hsz, hP, hK, hD0, hT, hZ⟩ := hv
  have hx := B.exec
  have hb := B.bytes
  have hr := B.returns
  have hts := atoms_spec (ws := wzL_asked_colour_no) B.pre
  have hown : s.vm.findClass RL = some m.cls := findClass_of_methodNamed B.named
  have hlocks := B.notSynchronized
  subst hsz
  have hD := hD0.self (sz := s.heap.size)
  generalize hAe : va_A [(xo, .inr (6, [.ref xg, .int gc, .ref xp, .int pc, .ref xq, .int qc, .ref r1, .ref r2, .ref r3, .ref r4, .ref se, .int ts, .int hou, .int dr, .int su, .int br])), (xq, .inl (cq, 16, .inr (.inr (.inr (.inr (zq [none, none, none, none, none, none, none, none, none, none, none, none, none, none, none, none])))))), (va, .inl (ci, 2, .inl (zi [0, 0])))] s.heap.size = A at hD hZ ⊢
  have hA : ∀ q : Nat, s.heap.size ≤ q → A q := fun q h => by rw [← hAe]; exact Or.inr h
  have hS : va_S A s.heap s.heap [] := va_S.rf
  have hl := lv_entry ([.ref xo, .int 113, .ref va]) (n := 3) (Nat.le_of_ble_eq_true rfl)
  rw [lg_entry_eq]
  generalize (lg_sl ([.ref xo, .int 113, .ref va]) ++ List.replicate (3 - (lg_sl ([.ref xo, .int 113, .ref va])).length) Slot.unset).toArray = ls at hl ⊢
  have hl : lv_has ls 3 [(0, .ref xo), (1, .int 113), (2, .ref va)] := hl
  refine lv_iload_n hx hb dL_asked_0 rfl (lv_at hl 1 rfl) ?_
  refine lv_tableIn (off := 388) (tgt := 389) hx hb dL_asked_1 (by decide +kernel) (by decide +kernel) (by decide +kernel) (by decide) ?_
  refine lv_aload_n hx hb dL_asked_389 rfl (lv_at hl 0 rfl) ?_
  refine lv_aload_n hx hb dL_asked_390 rfl (lv_at hl 2 rfl) ?_
  refine lv_iconst (v := 0) hx hb dL_asked_391 (by decide) ?_
  refine va_iald (D := D) (cl := vwCl) hx hb hK hP 2 1 rfl rfl (vp_in_nI (n := 0) (N := 2) (by decide) (by decide)) dL_asked_392 ?_
  refine W.eq (g2 := F0 m 393 ls [.int 0, .ref xo]) rfl ?_
  refine lv_aload_n hx hb dL_asked_393 rfl (lv_at hl 2 rfl) ?_
  refine lv_iconst (v := 1) hx hb dL_asked_394 (by decide) ?_
  refine va_iald (D := D) (cl := vwCl) hx hb hK hP 2 1 rfl rfl (vp_in_nI (n := 1) (N := 2) (by decide) (by decide)) dL_asked_395 ?_
  refine W.eq (g2 := F0 m 396 ls [.int 0, .int 0, .ref xo]) rfl ?_
  have hFc := va_free (wc := [(xo, .inr (6, [.ref xg, .int gc, .ref xp, .int pc, .ref xq, .int qc, .ref r1, .ref r2, .ref r3, .ref r4, .ref se, .int ts, .int hou, .int dr, .int su, .int br])), (xq, .inl (cq, 16, .inr (.inr (.inr (.inr (zq [none, none, none, none, none, none, none, none, none, none, none, none, none, none, none, none]))))))]) hD hS hA [0, 1] rfl
  refine vx_calli (vx_runV (As := [.int 0, .int 0]) (rest := []) ⟨hx, hb, hml, hown, hts⟩ (zc_X6_colour_no l hnt D G xo xg gc xp pc xq qc r1 r2 r3 r4 se ts hou dr su br cq s.heap.size) (cwV 2 hts gzL_asked_colour_no_X6_colour_no_143 rfl rfl rfl (by decide +kernel) ⟨(Nat.le_of_ble_eq_true rfl), (Nat.le_of_ble_eq_true rfl)⟩) ⟨p_RW_blind, va_recv hK hP (ci := 6) (q0 := 0) rfl rfl, (p_RW_at (tc := [(cq, .object "Gatherhouse$Piece")]) (wc := [(xo, .inr (6, [.ref xg, .int gc, .ref xp, .int pc, .ref xq, .int qc, .ref r1, .ref r2, .ref r3, .ref r4, .ref se, .int ts, .int hou, .int dr, .int su, .int br])), (xq, .inl (cq, 16, .inr (.inr (.inr (.inr (zq [none, none, none, none, none, none, none, none, none, none, none, none, none, none, none, none]))))))]) hP hK hD hS hA hT hZ [0, 1] [0] rfl rfl (by decide) rfl [.ref xo, .int 0, .int 0])⟩ rfl rfl hl.1 rfl (lv_room (Nat.le_of_ble_eq_true rfl)) dL_asked_396 ⟨(Nat.le_of_ble_eq_true rfl), (Nat.le_of_ble_eq_true rfl)⟩) hS (fun q _ h => hFc q h) hFc (fun q _ h => hFc q h) (fun E ce q9 u t H locs ht hvm hpx hBX hz1 hk1 hS hce hcv hcl => ?_) (fun r_1281 u t H locs ht hvm w_1282 hB hz1 hk1 hS => ?_)
  · obtain ⟨hBX, hB⟩ := hBX
    obtain ⟨hP, hD, hK⟩ := q_join (D := D) (wc := [(xo, .inr (6, [.ref xg, .int gc, .ref xp, .int pc, .ref xq, .int qc, .ref r1, .ref r2, .ref r3, .ref r4, .ref se, .int ts, .int hou, .int dr, .int su, .int br])), (xq, .inl (cq, 16, .inr (.inr (.inr (.inr (zq [none, none, none, none, none, none, none, none, none, none, none, none, none, none, none, none]))))))]) (wr := [(va, .inl (ci, 2, .inl (zi [0, 0])))]) (w1 := [(xo, .inr (6, [.ref xg, .int gc, .ref xp, .int pc, .ref xq, .int qc, .ref r1, .ref r2, .ref r3, .ref r4, .ref se, .int ts, .int hou, .int dr, .int su, .int br])), (xq, .inl (cq, 16, .inr (.inr (.inr (.inr (zq [none, none, none, none, none, none, none, none, none, none, none, none, none, none, none, none]))))))]) (tyr := [(ci, .int)]) (ty1 := [(cq, .object "Gatherhouse$Piece")]) hP hD hK [0, 1] [2] [1] rfl rfl (by decide) (by decide) rfl hFc hk1 ht hvm hB
    have hP : va_P D vwCl [(va, .inl (ci, 2, .inl (zi [0, 0]))), (xo, .inr (6, [.ref xg, .int gc, .ref xp, .int pc, .ref xq, .int qc, .ref r1, .ref r2, .ref r3, .ref r4, .ref se, .int ts, .int hou, .int dr, .int su, .int br])), (xq, .inl (cq, 16, .inr (.inr (.inr (.inr (zq [none, none, none, none, none, none, none, none, none, none, none, none, none, none, none, none]))))))] H := hP
    have hD : va_D A [(va, .inl (ci, 2, .inl (zi [0, 0]))), (xo, .inr (6, [.ref xg, .int gc, .ref xp, .int pc, .ref xq, .int qc, .ref r1, .ref r2, .ref r3, .ref r4, .ref se, .int ts, .int hou, .int dr, .int su, .int br])), (xq, .inl (cq, 16, .inr (.inr (.inr (.inr (zq [none, none, none, none, none, none, none, none, none, none, none, none, none, none, none, none]))))))] := hD
    have hK : va_K D vwCl [(ci, .int), (cq, .object "Gatherhouse$Piece")] s := hK
    have hBX : (E = "java/lang/IndexOutOfBoundsException") := hBX
    rcases hBX with rfl
    exact vx_out (fun x h => (hxt x h).elim) hlocks hce hcv hcl (fun t ht hW9 => ⟨(), trivial, ⟨rfl, q_RW_mk hP hK hD [1, 2] [1, 0] rfl rfl (by decide) rfl ht hW9⟩, hS.F ht⟩) hS.2.2 (Nat.le_of_ble_eq_true rfl) (Nat.le_of_ble_eq_true rfl)
  · exact w_1282.elim
def wzEL_ask_colour_no : List Cond := [.codeWith yL_ask cL_ask 4 (some .int) ttL_ask, .methodLink RL 73 yL_asked, .static yL_asked, .initialized RL, .code yL_asked cL_asked 3 (some .int), .methodLink RL 143 yX6_colour, .instanceMethod yX6_colour, .selects RX6 yX6_colour yX6_colour, .initialized RX6, .code yX6_colour cX6_colour 3 (some .int), .methodLink RX6 169 yX6_findPiece, .instanceMethod yX6_findPiece, .selects RX6 yX6_findPiece yX6_findPiece, .code yX6_findPiece cX6_findPiece 3 (some (.object "Gatherhouse$Piece")), .fieldLink RX6 30 "Gatherhouse" "pieces" "[LGatherhouse$Piece;", .classLink RX6 365 "java/lang/IndexOutOfBoundsException", .initialized "java/lang/IndexOutOfBoundsException", .classLink RL 79 "java/lang/IndexOutOfBoundsException", .constant RL 81 (-2000000001)]
def wzL_ask_colour_no : List Cond := wzEL_ask_colour_no ++ (u_ws RX6 TX6 16 ++ ((vx_atS RX6 369 "java/lang/IndexOutOfBoundsException" ["java/lang/RuntimeException", "java/lang/Exception"]).filter goodWord))
theorem zgEL_ask_colour_no : wzEL_ask_colour_no.all goodWord = true := by decide +kernel
theorem zuL_ask_colour_no_X6 : ∀ w ∈ u_ws RX6 TX6 16, w ∈ wzL_ask_colour_no := (fun _ h => (List.mem_append_right _ (List.mem_append_left _ h)))
theorem ztL_ask_colour_no_X6_369 : ∀ w ∈ (vx_atS RX6 369 "java/lang/IndexOutOfBoundsException" ["java/lang/RuntimeException", "java/lang/Exception"]).filter goodWord, w ∈ wzL_ask_colour_no := (fun _ h => (List.mem_append_right _ (List.mem_append_right _ h)))
theorem gzL_ask_colour_no_L_asked_colour_no_73 : GoodIn wzL_ask_colour_no (va_wsS RL 73 yL_asked wzL_asked_colour_no) := (goodIn_app (z_lift (goodIn_r _ [1, 2, 3] rfl (by decide +kernel))) (goodIn_app (z_lift (goodIn_r wzEL_asked_colour_no [4, 5, 6, 7, 8, 9, 10, 11, 12, 13, 14, 15, 16] rfl zgEL_asked_colour_no)) (goodIn_app (goodIn_sub (fun _ h => (List.mem_append_right _ (List.mem_append_left _ h))) zgU_X6) (goodIn_sub (fun _ h => (List.mem_append_right _ (List.mem_append_right _ h))) zgV_X6_369))))
set_option maxHeartbeats 4000000 in
set_option maxRecDepth 100000 in
theorem zc_L_ask_colour_no (l : Launch) (hnt : l.stackTraces = false) (D : va_G) (G : Nat × Nat × (Nat → Int32)) (xo : Nat) (va : Nat) (xg : Nat) (gc : Int32) (xp : Nat) (pc : Int32) (xq : Nat) (qc : Int32) (r1 : Nat) (r2 : Nat) (r3 : Nat) (r4 : Nat) (se : Nat) (ts : Int32) (hou : Int32) (dr : Int32) (su : Int32) (br : Int32) (cq : ClassId) (ci : ClassId) (sz : Nat) : vx_Met l yL_ask wzL_ask_colour_no ({ frames := 9, cells := 1, slots := 6, locals := 148 }) (va_Pc [.ref xo, .int 113, .ref va] (p_RW D G [(cq, .object "Gatherhouse$Piece"), (ci, .int)] [(xo, .inr (6, [.ref xg, .int gc, .ref xp, .int pc, .ref xq, .int qc, .ref r1, .ref r2, .ref r3, .ref r4, .ref se, .int ts, .int hou, .int dr, .int su, .int br])), (xq, .inl (cq, 16, .inr (.inr (.inr (.inr (zq [none, none, none, none, none, none, none, none, none, none, none, none, none, none, none, none])))))), (va, .inl (ci, 2, .inl (zi [0, 0])))] sz)) (va_Qi (fun (r : Int32) (u : Unit) => r = (-2000000001)) (fun (u : Unit) (t : State) => q_RW D [(cq, .object "Gatherhouse$Piece")] [(xo, .inr (6, [.ref xg, .int gc, .ref xp, .int pc, .ref xq, .int qc, .ref r1, .ref r2, .ref r3, .ref r4, .ref se, .int ts, .int hou, .int dr, .int su, .int br])), (xq, .inl (cq, 16, .inr (.inr (.inr (.inr (zq [none, none, none, none, none, none, none, none, none, none, none, none, none, none, none, none]))))))] (va_A [(xo, .inr (6, [.ref xg, .int gc, .ref xp, .int pc, .ref xq, .int qc, .ref r1, .ref r2, .ref r3, .ref r4, .ref se, .int ts, .int hou, .int dr, .int su, .int br])), (xq, .inl (cq, 16, .inr (.inr (.inr (.inr (zq [none, none, none, none, none, none, none, none, none, none, none, none, none, none, none, none])))))), (va, .inl (ci, 2, .inl (zi [0, 0])))] sz) t) (va_A [(xo, .inr (6, [.ref xg, .int gc, .ref xp, .int pc, .ref xq, .int qc, .ref r1, .ref r2, .ref r3, .ref r4, .ref se, .int ts, .int hou, .int dr, .int su, .int br])), (xq, .inl (cq, 16, .inr (.inr (.inr (.inr (zq [none, none, none, none, none, none, none, none, none, none, none, none, none, none, none, none])))))), (va, .inl (ci, 2, .inl (zi [0, 0])))] sz)) (vx_X (fun (_ : Unit) => True) (fun E (_ : Unit) (_ : State) => False) (va_A [(xo, .inr (6, [.ref xg, .int gc, .ref xp, .int pc, .ref xq, .int qc, .ref r1, .ref r2, .ref r3, .ref r4, .ref se, .int ts, .int hou, .int dr, .int su, .int br])), (xq, .inl (cq, 16, .inr (.inr (.inr (.inr (zq [none, none, none, none, none, none, none, none, none, none, none, none, none, none, none, none])))))), (va, .inl (ci, 2, .inl (zi [0, 0])))] sz)) 1 6 (va_A [(xo, .inr (6, [.ref xg, .int gc, .ref xp, .int pc, .ref xq, .int qc, .ref r1, .ref r2, .ref r3, .ref r4, .ref se, .int ts, .int hou, .int dr, .int su, .int br])), (xq, .inl (cq, 16, .inr (.inr (.inr (.inr (zq [none, none, none, none, none, none, none, none, none, none, none, none, none, none, none, none])))))), (va, .inl (ci, 2, .inl (zi [0, 0])))] sz) := by
  refine vx_ofWH (cc := cL_ask) (maxL := 4) (ret := (some .int)) (by decide) rfl ?_
  intro p e s m args below meth c s₁ B hml hv
  obtain ⟨rfl, hsz, hP, hK, hD0, hT, hZ⟩ := hv
  have hx := B.exec
  have hb := B.bytes
  have hr := B.returns
  have hts := atoms_spec (ws := wzL_ask_colour_no) B.pre
  have hown : s.vm.findClass RL = some m.cls := findClass_of_methodNamed B.named
  have hlocks := B.notSynchronized
  have hxe := vx_table (x := yL_ask) B (hts _ List.mem_cons_self)
  subst hsz
  have hD := hD0.self (sz := s.heap.size)
  generalize hAe : va_A [(xo, .inr (6, [.ref xg, .int gc, .ref xp, .int pc, .ref xq, .int qc, .ref r1, .ref r2, .ref r3, .ref r4, .ref se, .int ts, .int hou, .int dr, .int su, .int br])), (xq, .inl (cq, 16, .inr (.inr (.inr (.inr (zq [none, none, none, none, none, none, none, none, none, none, none, none, none, none, none, none])))))), (va, .inl (ci, 2, .inl (zi [0, 0])))] s.heap.size = A at hD hZ ⊢
  have hA : ∀ q : Nat, s.heap.size ≤ q → A q := fun q h => by rw [← hAe]; exact Or.inr h
  have hS : va_S A s.heap s.heap [] := va_S.rf
  have hl := lv_entry ([.ref xo, .int 113, .ref va]) (n := 4) (Nat.le_of_ble_eq_true rfl)
  rw [lg_entry_eq]
  generalize (lg_sl ([.ref xo, .int 113, .ref va]) ++ List.replicate (4 - (lg_sl ([.ref xo, .int 113, .ref va])).length) Slot.unset).toArray = ls at hl ⊢
  have hl : lv_has ls 4 [(0, .ref xo), (1, .int 113), (2, .ref va)] := hl
  refine lv_iload_n hx hb dL_ask_0 rfl (lv_at hl 1 rfl) ?_
  refine lv_tableIn (off := 460) (tgt := 461) hx hb dL_ask_1 (by decide +kernel) (by decide +kernel) (by decide +kernel) (by decide) ?_
  refine lv_aload_n hx hb dL_ask_461 rfl (lv_at hl 0 rfl) ?_
  refine lv_iload_n hx hb dL_ask_462 rfl (lv_at hl 1 rfl) ?_
  refine lv_aload_n hx hb dL_ask_463 rfl (lv_at hl 2 rfl) ?_
  have hFc := va_free (wc := [(xo, .inr (6, [.ref xg, .int gc, .ref xp, .int pc, .ref xq, .int qc, .ref r1, .ref r2, .ref r3, .ref r4, .ref se, .int ts, .int hou, .int dr, .int su, .int br])), (xq, .inl (cq, 16, .inr (.inr (.inr (.inr (zq [none, none, none, none, none, none, none, none, none, none, none, none, none, none, none, none])))))), (va, .inl (ci, 2, .inl (zi [0, 0])))]) hD hS hA [0, 1, 2] rfl
  refine vx_calli (vx_runS (As := [.ref xo, .int 113, .ref va]) (rest := []) ⟨hx, hb, hml, hown, hts⟩ (zc_L_asked_colour_no l hnt D G xo va xg gc xp pc xq qc r1 r2 r3 r4 se ts hou dr su br cq ci s.heap.size) (cwS 3 hts gzL_ask_colour_no_L_asked_colour_no_73 rfl rfl rfl (by decide +kernel) ⟨(Nat.le_of_ble_eq_true rfl), (Nat.le_of_ble_eq_true rfl)⟩) ⟨p_RW_blind, (p_RW_at (tc := [(cq, .object "Gatherhouse$Piece"), (ci, .int)]) (wc := [(xo, .inr (6, [.ref xg, .int gc, .ref xp, .int pc, .ref xq, .int qc, .ref r1, .ref r2, .ref r3, .ref r4, .ref se, .int ts, .int hou, .int dr, .int su, .int br])), (xq, .inl (cq, 16, .inr (.inr (.inr (.inr (zq [none, none, none, none, none, none, none, none, none, none, none, none, none, none, none, none])))))), (va, .inl (ci, 2, .inl (zi [0, 0])))]) hP hK hD hS hA hT hZ [0, 1, 2] [0, 1] rfl rfl (by decide) rfl [.ref xo, .int 113, .ref va])⟩ rfl rfl hl.1 rfl (lv_room (Nat.le_of_ble_eq_true rfl)) dL_ask_464 ⟨(Nat.le_of_ble_eq_true rfl), (Nat.le_of_ble_eq_true rfl)⟩) hS (fun q _ h => hFc q h) hFc (fun q _ h => hFc q h) (fun E ce q9 u t H locs ht hvm hpx hBX hz1 hk1 hS hce hcv hcl => ?_) (fun r_1283 u t H locs ht hvm w_1284 hB hz1 hk1 hS => ?_)
  · obtain ⟨hBX, hB⟩ := hBX
    obtain ⟨hP, hD, hK⟩ := q_join (D := D) (wc := [(xo, .inr (6, [.ref xg, .int gc, .ref xp, .int pc, .ref xq, .int qc, .ref r1, .ref r2, .ref r3, .ref r4, .ref se, .int ts, .int hou, .int dr, .int su, .int br])), (xq, .inl (cq, 16, .inr (.inr (.inr (.inr (zq [none, none, none, none, none, none, none, none, none, none, none, none, none, none, none, none])))))), (va, .inl (ci, 2, .inl (zi [0, 0])))]) (wr := []) (w1 := [(xo, .inr (6, [.ref xg, .int gc, .ref xp, .int pc, .ref xq, .int qc, .ref r1, .ref r2, .ref r3, .ref r4, .ref se, .int ts, .int hou, .int dr, .int su, .int br])), (xq, .inl (cq, 16, .inr (.inr (.inr (.inr (zq [none, none, none, none, none, none, none, none, none, none, none, none, none, none, none, none]))))))]) (tyr := []) (ty1 := [(cq, .object "Gatherhouse$Piece"), (ci, .int)]) hP hD hK [0, 1, 2] [] [] rfl rfl (by decide) (by decide) rfl hFc hk1 ht hvm hB
    have hP : va_P D vwCl [(xo, .inr (6, [.ref xg, .int gc, .ref xp, .int pc, .ref xq, .int qc, .ref r1, .ref r2, .ref r3, .ref r4, .ref se, .int ts, .int hou, .int dr, .int su, .int br])), (xq, .inl (cq, 16, .inr (.inr (.inr (.inr (zq [none, none, none, none, none, none, none, none, none, none, none, none, none, none, none, none]))))))] H := hP
    have hD : va_D A [(xo, .inr (6, [.ref xg, .int gc, .ref xp, .int pc, .ref xq, .int qc, .ref r1, .ref r2, .ref r3, .ref r4, .ref se, .int ts, .int hou, .int dr, .int su, .int br])), (xq, .inl (cq, 16, .inr (.inr (.inr (.inr (zq [none, none, none, none, none, none, none, none, none, none, none, none, none, none, none, none]))))))] := hD
    have hK : va_K D vwCl [(cq, .object "Gatherhouse$Piece"), (ci, .int)] s := hK
    have hBX : (E = "java/lang/IndexOutOfBoundsException") := hBX
    rcases hBX with rfl
    refine z_catch (own := RL) (name := "java/lang/IndexOutOfBoundsException") (hh := ttL_ask) (x := ⟨461, 467, 468, 79⟩) hown hxe 19 rfl [] (by decide +kernel) (fun _ h => absurd h List.not_mem_nil) (by decide) (by decide) (hts (.classLink RL 79 "java/lang/IndexOutOfBoundsException") (by decide +kernel)) (va_Nw.use rfl (hT.2.2.1 ("java/lang/IndexOutOfBoundsException", "java/lang/IndexOutOfBoundsException") (by decide +kernel))) hce hcv hcl ?_
    refine W.eq (g2 := F0 m 468 ls [.ref q9]) rfl ?_
    refine lv_astore_n (lv' := [(3, .ref q9), (0, .ref xo), (1, .int 113), (2, .ref va)]) hx hb dL_ask_468 rfl hl (by decide) rfl (fun ls hl => ?_)
    refine lv_ldc (v := (-2000000001)) hx hb hown (hts (.constant RL 81 (-2000000001)) (by decide +kernel)) dL_ask_469 ?_
    refine vx_ret ?_
    exact W.iret (v := (-2000000001)) hx hb hr (fun t ht hW => ⟨⟨(-2000000001), (), rfl, rfl, q_RW_mk hP hK hD [0, 1] [0] rfl rfl (by decide) rfl ht hW.alike⟩, hS.F ht⟩) hS.2.2 dL_ask_471
  · exact w_1284.elim
theorem dL_asked_414 : decode cL_asked 414 = .ok (.aload_n 0, 1) := by decide +kernel
theorem dL_asked_415 : decode cL_asked 415 = .ok (.aload_n 2, 1) := by decide +kernel
theorem dL_asked_416 : decode cL_asked 416 = .ok (.iconst 0, 1) := by decide +kernel
theorem dL_asked_417 : decode cL_asked 417 = .ok (.iaload, 1) := by decide +kernel
theorem dL_asked_418 : decode cL_asked 418 = .ok (.invokevirtual 149, 3) := by decide +kernel
def wzEL_asked_isInSet_no : List Cond := [.code yL_asked cL_asked 3 (some .int), .methodLink RL 149 yX6_isInSet, .instanceMethod yX6_isInSet, .selects RX6 yX6_isInSet yX6_isInSet, .initialized RX6, .code yX6_isInSet cX6_isInSet 2 (some .boolean), .methodLink RX6 169 yX6_findPiece, .instanceMethod yX6_findPiece, .selects RX6 yX6_findPiece yX6_findPiece, .code yX6_findPiece cX6_findPiece 3 (some (.object "Gatherhouse$Piece")), .fieldLink RX6 30 "Gatherhouse" "pieces" "[LGatherhouse$Piece;", .classLink RX6 365 "java/lang/IndexOutOfBoundsException", .initialized "java/lang/IndexOutOfBoundsException"]
def wzL_asked_isInSet_no : List Cond := wzEL_asked_isInSet_no ++ (u_ws RX6 TX6 16 ++ ((vx_atS RX6 369 "java/lang/IndexOutOfBoundsException" ["java/lang/RuntimeException", "java/lang/Exception"]).filter goodWord))
theorem zgEL_asked_isInSet_no : wzEL_asked_isInSet_no.all goodWord = true := by decide +kernel
theorem zuL_asked_isInSet_no_X6 : ∀ w ∈ u_ws RX6 TX6 16, w ∈ wzL_asked_isInSet_no := (fun _ h => (List.mem_append_right _ (List.mem_append_left _ h)))
theorem ztL_asked_isInSet_no_X6_369 : ∀ w ∈ (vx_atS RX6 369 "java/lang/IndexOutOfBoundsException" ["java/lang/RuntimeException", "java/lang/Exception"]).filter goodWord, w ∈ wzL_asked_isInSet_no := (fun _ h => (List.mem_append_right _ (List.mem_append_right _ h)))
theorem gzL_asked_isInSet_no_X6_isInSet_no_149 : GoodIn wzL_asked_isInSet_no (wsV RL 149 RX6 yX6_isInSet wzX6_isInSet_no) := (goodIn_app (z_lift (goodIn_r _ [1, 2, 3, 4] rfl (by decide +kernel))) (goodIn_app (z_lift (goodIn_r wzEX6_isInSet_no [5, 6, 7, 8, 4, 9, 10, 11, 12] rfl zgEX6_isInSet_no)) (goodIn_app (goodIn_sub (fun _ h => (List.mem_append_right _ (List.mem_append_left _ h))) zgU_X6) (goodIn_sub (fun _ h => (List.mem_append_right _ (List.mem_append_right _ h))) zgV_X6_369))))
set_option maxHeartbeats 4000000 in
set_option maxRecDepth 100000 in
theorem zc_L_asked_isInSet_no (l : Launch) (hnt : l.stackTraces = false) (D : va_G) (G : Nat × Nat × (Nat → Int32)) (xo : Nat) (va : Nat) (xg : Nat) (gc : Int32) (xp : Nat) (pc : Int32) (xq : Nat) (qc : Int32) (r1 : Nat) (r2 : Nat) (r3 : Nat) (r4 : Nat) (se : Nat) (ts : Int32) (hou : Int32) (dr : Int32) (su : Int32) (br : Int32) (cq : ClassId) (ci : ClassId) (sz : Nat) : vx_Met l yL_asked wzL_asked_isInSet_no ({ frames := 8, cells := 1, slots := 6, locals := 125 }) (va_Pc [.ref xo, .int 122, .ref va] (p_RW D G [(cq, .object "Gatherhouse$Piece"), (ci, .int)] [(xo, .inr (6, [.ref xg, .int gc, .ref xp, .int pc, .ref xq, .int qc, .ref r1, .ref r2, .ref r3, .ref r4, .ref se, .int ts, .int hou, .int dr, .int su, .int br])), (xq, .inl (cq, 16, .inr (.inr (.inr (.inr (zq [none, none, none, none, none, none, none, none, none, none, none, none, none, none, none, none])))))), (va, .inl (ci, 1, .inl (zi [0])))] sz)) (va_Qi (fun (r : Int32) (u : Unit) => False) (fun (u : Unit) (t : State) => q_RW D [(cq, .object "Gatherhouse$Piece")] [(xo, .inr (6, [.ref xg, .int gc, .ref xp, .int pc, .ref xq, .int qc, .ref r1, .ref r2, .ref r3, .ref r4, .ref se, .int ts, .int hou, .int dr, .int su, .int br])), (xq, .inl (cq, 16, .inr (.inr (.inr (.inr (zq [none, none, none, none, none, none, none, none, none, none, none, none, none, none, none, none]))))))] (va_A [(xo, .inr (6, [.ref xg, .int gc, .ref xp, .int pc, .ref xq, .int qc, .ref r1, .ref r2, .ref r3, .ref r4, .ref se, .int ts, .int hou, .int dr, .int su, .int br])), (xq, .inl (cq, 16, .inr (.inr (.inr (.inr (zq [none, none, none, none, none, none, none, none, none, none, none, none, none, none, none, none])))))), (va, .inl (ci, 1, .inl (zi [0])))] sz) t) (va_A [(xo, .inr (6, [.ref xg, .int gc, .ref xp, .int pc, .ref xq, .int qc, .ref r1, .ref r2, .ref r3, .ref r4, .ref se, .int ts, .int hou, .int dr, .int su, .int br])), (xq, .inl (cq, 16, .inr (.inr (.inr (.inr (zq [none, none, none, none, none, none, none, none, none, none, none, none, none, none, none, none])))))), (va, .inl (ci, 1, .inl (zi [0])))] sz)) (vx_X (fun (_ : Unit) => True) (fun E (_ : Unit) (t : State) => ((E = "java/lang/IndexOutOfBoundsException")) ∧ q_RW D [(cq, .object "Gatherhouse$Piece"), (ci, .int)] [(xo, .inr (6, [.ref xg, .int gc, .ref xp, .int pc, .ref xq, .int qc, .ref r1, .ref r2, .ref r3, .ref r4, .ref se, .int ts, .int hou, .int dr, .int su, .int br])), (xq, .inl (cq, 16, .inr (.inr (.inr (.inr (zq [none, none, none, none, none, none, none, none, none, none, none, none, none, none, none, none]))))))] (va_A [(xo, .inr (6, [.ref xg, .int gc, .ref xp, .int pc, .ref xq, .int qc, .ref r1, .ref r2, .ref r3, .ref r4, .ref se, .int ts, .int hou, .int dr, .int su, .int br])), (xq, .inl (cq, 16, .inr (.inr (.inr (.inr (zq [none, none, none, none, none, none, none, none, none, none, none, none, none, none, none, none])))))), (va, .inl (ci, 1, .inl (zi [0])))] sz) t) (va_A [(xo, .inr (6, [.ref xg, .int gc, .ref xp, .int pc, .ref xq, .int qc, .ref r1, .ref r2, .ref r3, .ref r4, .ref se, .int ts, .int hou, .int dr, .int su, .int br])), (xq, .inl (cq, 16, .inr (.inr (.inr (.inr (zq [none, none, none, none, none, none, none, none, none, none, none, none, none, none, none, none])))))), (va, .inl (ci, 1, .inl (zi [0])))] sz)) 1 6 (va_A [(xo, .inr (6, [.ref xg, .int gc, .ref xp, .int pc, .ref xq, .int qc, .ref r1, .ref r2, .ref r3, .ref r4, .ref se, .int ts, .int hou, .int dr, .int su, .int br])), (xq, .inl (cq, 16, .inr (.inr (.inr (.inr (zq [none, none, none, none, none, none, none, none, none, none, none, none, none, none, none, none])))))), (va, .inl (ci, 1, .inl (zi [0])))] sz) := by
  refine vx_ofW (cc := cL_asked) (maxL := 3) (ret := (some .int)) (by decide) rfl ?_
  intro p e s m args below meth c s₁ B hml hxt hv
  obtain ⟨rfl, hsz, hP, hK, hD0, hT, hZ⟩ := hv
  have hx := B.exec
  have hb := B.bytes
  have hr := B.returns
  have hts := atoms_spec (ws := wzL_asked_isInSet_no) B.pre
  have hown : s.vm.findClass RL = some m.cls := findClass_of_methodNamed B.named
  have hlocks := B.notSynchronized
  subst hsz
  have hD := hD0.self (sz := s.heap.size)
  generalize hAe : va_A [(xo, .inr (6, [.ref xg, .int gc, .ref xp, .int pc, .ref xq, .int qc, .ref r1, .ref r2, .ref r3, .ref r4, .ref se, .int ts, .int hou, .int dr, .int su, .int br])), (xq, .inl (cq, 16, .inr (.inr (.inr (.inr (zq [none, none, none, none, none, none, none, none, none, none, none, none, none, none, none, none])))))), (va, .inl (ci, 1, .inl (zi [0])))] s.heap.size = A at hD hZ ⊢
  have hA : ∀ q : Nat, s.heap.size ≤ q → A q := fun q h => by rw [← hAe]; exact Or.inr h
  have hS : va_S A s.heap s.heap [] := va_S.rf
  have hl := lv_entry ([.ref xo, .int 122, .ref va]) (n := 3) (Nat.le_of_ble_eq_true rfl)
  rw [lg_entry_eq]
  generalize (lg_sl ([.ref xo, .int 122, .ref va]) ++ List.replicate (3 - (lg_sl ([.ref xo, .int 122, .ref va])).length) Slot.unset).toArray = ls at hl ⊢
  have hl : lv_has ls 3 [(0, .ref xo), (1, .int 122), (2, .ref va)] := hl
  refine lv_iload_n hx hb dL_asked_0 rfl (lv_at hl 1 rfl) ?_
  refine lv_tableIn (off := 413) (tgt := 414) hx hb dL_asked_1 (by decide +kernel) (by decide +kernel) (by decide +kernel) (by decide) ?_
  refine lv_aload_n hx hb dL_asked_414 rfl (lv_at hl 0 rfl) ?_
  refine lv_aload_n hx hb dL_asked_415 rfl (lv_at hl 2 rfl) ?_
  refine lv_iconst (v := 0) hx hb dL_asked_416 (by decide) ?_
  refine va_iald (D := D) (cl := vwCl) hx hb hK hP 2 1 rfl rfl (vp_in_nI (n := 0) (N := 1) (by decide) (by decide)) dL_asked_417 ?_
  refine W.eq (g2 := F0 m 418 ls [.int 0, .ref xo]) rfl ?_
  have hFc := va_free (wc := [(xo, .inr (6, [.ref xg, .int gc, .ref xp, .int pc, .ref xq, .int qc, .ref r1, .ref r2, .ref r3, .ref r4, .ref se, .int ts, .int hou, .int dr, .int su, .int br])), (xq, .inl (cq, 16, .inr (.inr (.inr (.inr (zq [none, none, none, none, none, none, none, none, none, none, none, none, none, none, none, none]))))))]) hD hS hA [0, 1] rfl
  refine vx_calli (vx_runV (As := [.int 0]) (rest := []) ⟨hx, hb, hml, hown, hts⟩ (zc_X6_isInSet_no l hnt D G xo xg gc xp pc xq qc r1 r2 r3 r4 se ts hou dr su br cq s.heap.size) (cwV 1 hts gzL_asked_isInSet_no_X6_isInSet_no_149 rfl rfl rfl (by decide +kernel) ⟨(Nat.le_of_ble_eq_true rfl), (Nat.le_of_ble_eq_true rfl)⟩) ⟨p_RW_blind, va_recv hK hP (ci := 6) (q0 := 0) rfl rfl, (p_RW_at (tc := [(cq, .object "Gatherhouse$Piece")]) (wc := [(xo, .inr (6, [.ref xg, .int gc, .ref xp, .int pc, .ref xq, .int qc, .ref r1, .ref r2, .ref r3, .ref r4, .ref se, .int ts, .int hou, .int dr, .int su, .int br])), (xq, .inl (cq, 16, .inr (.inr (.inr (.inr (zq [none, none, none, none, none, none, none, none, none, none, none, none, none, none, none, none]))))))]) hP hK hD hS hA hT hZ [0, 1] [0] rfl rfl (by decide) rfl [.ref xo, .int 0])⟩ rfl rfl hl.1 rfl (lv_room (Nat.le_of_ble_eq_true rfl)) dL_asked_418 ⟨(Nat.le_of_ble_eq_true rfl), (Nat.le_of_ble_eq_true rfl)⟩) hS (fun q _ h => hFc q h) hFc (fun q _ h => hFc q h) (fun E ce q9 u t H locs ht hvm hpx hBX hz1 hk1 hS hce hcv hcl => ?_) (fun r_1285 u t H locs ht hvm w_1286 hB hz1 hk1 hS => ?_)
  · obtain ⟨hBX, hB⟩ := hBX
    obtain ⟨hP, hD, hK⟩ := q_join (D := D) (wc := [(xo, .inr (6, [.ref xg, .int gc, .ref xp, .int pc, .ref xq, .int qc, .ref r1, .ref r2, .ref r3, .ref r4, .ref se, .int ts, .int hou, .int dr, .int su, .int br])), (xq, .inl (cq, 16, .inr (.inr (.inr (.inr (zq [none, none, none, none, none, none, none, none, none, none, none, none, none, none, none, none]))))))]) (wr := [(va, .inl (ci, 1, .inl (zi [0])))]) (w1 := [(xo, .inr (6, [.ref xg, .int gc, .ref xp, .int pc, .ref xq, .int qc, .ref r1, .ref r2, .ref r3, .ref r4, .ref se, .int ts, .int hou, .int dr, .int su, .int br])), (xq, .inl (cq, 16, .inr (.inr (.inr (.inr (zq [none, none, none, none, none, none, none, none, none, none, none, none, none, none, none, none]))))))]) (tyr := [(ci, .int)]) (ty1 := [(cq, .object "Gatherhouse$Piece")]) hP hD hK [0, 1] [2] [1] rfl rfl (by decide) (by decide) rfl hFc hk1 ht hvm hB
    have hP : va_P D vwCl [(va, .inl (ci, 1, .inl (zi [0]))), (xo, .inr (6, [.ref xg, .int gc, .ref xp, .int pc, .ref xq, .int qc, .ref r1, .ref r2, .ref r3, .ref r4, .ref se, .int ts, .int hou, .int dr, .int su, .int br])), (xq, .inl (cq, 16, .inr (.inr (.inr (.inr (zq [none, none, none, none, none, none, none, none, none, none, none, none, none, none, none, none]))))))] H := hP
    have hD : va_D A [(va, .inl (ci, 1, .inl (zi [0]))), (xo, .inr (6, [.ref xg, .int gc, .ref xp, .int pc, .ref xq, .int qc, .ref r1, .ref r2, .ref r3, .ref r4, .ref se, .int ts, .int hou, .int dr, .int su, .int br])), (xq, .inl (cq, 16, .inr (.inr (.inr (.inr (zq [none, none, none, none, none, none, none, none, none, none, none, none, none, none, none, none]))))))] := hD
    have hK : va_K D vwCl [(ci, .int), (cq, .object "Gatherhouse$Piece")] s := hK
    have hBX : (E = "java/lang/IndexOutOfBoundsException") := hBX
    rcases hBX with rfl
    exact vx_out (fun x h => (hxt x h).elim) hlocks hce hcv hcl (fun t ht hW9 => ⟨(), trivial, ⟨rfl, q_RW_mk hP hK hD [1, 2] [1, 0] rfl rfl (by decide) rfl ht hW9⟩, hS.F ht⟩) hS.2.2 (Nat.le_of_ble_eq_true rfl) (Nat.le_of_ble_eq_true rfl)
  · exact w_1286.elim
def wzEL_ask_isInSet_no : List Cond := [.codeWith yL_ask cL_ask 4 (some .int) ttL_ask, .methodLink RL 73 yL_asked, .static yL_asked, .initialized RL, .code yL_asked cL_asked 3 (some .int), .methodLink RL 149 yX6_isInSet, .instanceMethod yX6_isInSet, .selects RX6 yX6_isInSet yX6_isInSet, .initialized RX6, .code yX6_isInSet cX6_isInSet 2 (some .boolean), .methodLink RX6 169 yX6_findPiece, .instanceMethod yX6_findPiece, .selects RX6 yX6_findPiece yX6_findPiece, .code yX6_findPiece cX6_findPiece 3 (some (.object "Gatherhouse$Piece")), .fieldLink RX6 30 "Gatherhouse" "pieces" "[LGatherhouse$Piece;", .classLink RX6 365 "java/lang/IndexOutOfBoundsException", .initialized "java/lang/IndexOutOfBoundsException", .classLink RL 79 "java/lang/IndexOutOfBoundsException", .constant RL 81 (-2000000001)]
def wzL_ask_isInSet_no : List Cond := wzEL_ask_isInSet_no ++ (u_ws RX6 TX6 16 ++ ((vx_atS RX6 369 "java/lang/IndexOutOfBoundsException" ["java/lang/RuntimeException", "java/lang/Exception"]).filter goodWord))
theorem zgEL_ask_isInSet_no : wzEL_ask_isInSet_no.all goodWord = true := by decide +kernel
theorem zuL_ask_isInSet_no_X6 : ∀ w ∈ u_ws RX6 TX6 16, w ∈ wzL_ask_isInSet_no := (fun _ h => (List.mem_append_right _ (List.mem_append_left _ h)))
theorem ztL_ask_isInSet_no_X6_369 : ∀ w ∈ (vx_atS RX6 369 "java/lang/IndexOutOfBoundsException" ["java/lang/RuntimeException", "java/lang/Exception"]).filter goodWord, w ∈ wzL_ask_isInSet_no := (fun _ h => (List.mem_append_right _ (List.mem_append_right _ h)))
theorem gzL_ask_isInSet_no_L_asked_isInSet_no_73 : GoodIn wzL_ask_isInSet_no (va_wsS RL 73 yL_asked wzL_asked_isInSet_no) := (goodIn_app (z_lift (goodIn_r _ [1, 2, 3] rfl (by decide +kernel))) (goodIn_app (z_lift (goodIn_r wzEL_asked_isInSet_no [4, 5, 6, 7, 8, 9, 10, 11, 12, 13, 14, 15, 16] rfl zgEL_asked_isInSet_no)) (goodIn_app (goodIn_sub (fun _ h => (List.mem_append_right _ (List.mem_append_left _ h))) zgU_X6) (goodIn_sub (fun _ h => (List.mem_append_right _ (List.mem_append_right _ h))) zgV_X6_369))))
set_option maxHeartbeats 4000000 in
set_option maxRecDepth 100000 in
theorem zc_L_ask_isInSet_no (l : Launch) (hnt : l.stackTraces = false) (D : va_G) (G : Nat × Nat × (Nat → Int32)) (xo : Nat) (va : Nat) (xg : Nat) (gc : Int32) (xp : Nat) (pc : Int32) (xq : Nat) (qc : Int32) (r1 : Nat) (r2 : Nat) (r3 : Nat) (r4 : Nat) (se : Nat) (ts : Int32) (hou : Int32) (dr : Int32) (su : Int32) (br : Int32) (cq : ClassId) (ci : ClassId) (sz : Nat) : vx_Met l yL_ask wzL_ask_isInSet_no ({ frames := 9, cells := 1, slots := 6, locals := 147 }) (va_Pc [.ref xo, .int 122, .ref va] (p_RW D G [(cq, .object "Gatherhouse$Piece"), (ci, .int)] [(xo, .inr (6, [.ref xg, .int gc, .ref xp, .int pc, .ref xq, .int qc, .ref r1, .ref r2, .ref r3, .ref r4, .ref se, .int ts, .int hou, .int dr, .int su, .int br])), (xq, .inl (cq, 16, .inr (.inr (.inr (.inr (zq [none, none, none, none, none, none, none, none, none, none, none, none, none, none, none, none])))))), (va, .inl (ci, 1, .inl (zi [0])))] sz)) (va_Qi (fun (r : Int32) (u : Unit) => r = (-2000000001)) (fun (u : Unit) (t : State) => q_RW D [(cq, .object "Gatherhouse$Piece")] [(xo, .inr (6, [.ref xg, .int gc, .ref xp, .int pc, .ref xq, .int qc, .ref r1, .ref r2, .ref r3, .ref r4, .ref se, .int ts, .int hou, .int dr, .int su, .int br])), (xq, .inl (cq, 16, .inr (.inr (.inr (.inr (zq [none, none, none, none, none, none, none, none, none, none, none, none, none, none, none, none]))))))] (va_A [(xo, .inr (6, [.ref xg, .int gc, .ref xp, .int pc, .ref xq, .int qc, .ref r1, .ref r2, .ref r3, .ref r4, .ref se, .int ts, .int hou, .int dr, .int su, .int br])), (xq, .inl (cq, 16, .inr (.inr (.inr (.inr (zq [none, none, none, none, none, none, none, none, none, none, none, none, none, none, none, none])))))), (va, .inl (ci, 1, .inl (zi [0])))] sz) t) (va_A [(xo, .inr (6, [.ref xg, .int gc, .ref xp, .int pc, .ref xq, .int qc, .ref r1, .ref r2, .ref r3, .ref r4, .ref se, .int ts, .int hou, .int dr, .int su, .int br])), (xq, .inl (cq, 16, .inr (.inr (.inr (.inr (zq [none, none, none, none, none, none, none, none, none, none, none, none, none, none, none, none])))))), (va, .inl (ci, 1, .inl (zi [0])))] sz)) (vx_X (fun (_ : Unit) => True) (fun E (_ : Unit) (_ : State) => False) (va_A [(xo, .inr (6, [.ref xg, .int gc, .ref xp, .int pc, .ref xq, .int qc, .ref r1, .ref r2, .ref r3, .ref r4, .ref se, .int ts, .int hou, .int dr, .int su, .int br])), (xq, .inl (cq, 16, .inr (.inr (.inr (.inr (zq [none, none, none, none, none, none, none, none, none, none, none, none, none, none, none, none])))))), (va, .inl (ci, 1, .inl (zi [0])))] sz)) 1 6 (va_A [(xo, .inr (6, [.ref xg, .int gc, .ref xp, .int pc, .ref xq, .int qc, .ref r1, .ref r2, .ref r3, .ref r4, .ref se, .int ts, .int hou, .int dr, .int su, .int br])), (xq, .inl (cq, 16, .inr (.inr (.inr (.inr (zq [none, none, none, none, none, none, none, none, none, none, none, none, none, none, none, none])))))), (va, .inl (ci, 1, .inl (zi [0])))] sz) := by
  refine vx_ofWH (cc := cL_ask) (maxL := 4) (ret := (some .int)) (by decide) rfl ?_
  intro p e s m args below meth c s₁ B hml hv
  obtain ⟨rfl, hsz, hP, hK, hD0, hT, hZ⟩ := hv
  have hx := B.exec
  have hb := B.bytes
  have hr := B.returns
  have hts := atoms_spec (ws := wzL_ask_isInSet_no) B.pre
  have hown : s.vm.findClass RL = some m.cls := findClass_of_methodNamed B.named
  have hlocks := B.notSynchronized
  have hxe := vx_table (x := yL_ask) B (hts _ List.mem_cons_self)
  subst hsz
  have hD := hD0.self (sz := s.heap.size)
  generalize hAe : va_A [(xo, .inr (6, [.ref xg, .int gc, .ref xp, .int pc, .ref xq, .int qc, .ref r1, .ref r2, .ref r3, .ref r4, .ref se, .int ts, .int hou, .int dr, .int su, .int br])), (xq, .inl (cq, 16, .inr (.inr (.inr (.inr (zq [none, none, none, none, none, none, none, none, none, none, none, none, none, none, none, none])))))), (va, .inl (ci, 1, .inl (zi [0])))] s.heap.size = A at hD hZ ⊢
  have hA : ∀ q : Nat, s.heap.size ≤ q → A q := fun q h => by rw [← hAe]; exact Or.inr h
  have hS : va_S A s.heap s.heap [] := va_S.rf
  have hl := lv_entry ([.ref xo, .int 122, .ref va]) (n := 4) (Nat.le_of_ble_eq_true rfl)
  rw [lg_entry_eq]
  generalize (lg_sl ([.ref xo, .int 122, .ref va]) ++ List.replicate (4 - (lg_sl ([.ref xo, .int 122, .ref va])).length) Slot.unset).toArray = ls at hl ⊢
  have hl : lv_has ls 4 [(0, .ref xo), (1, .int 122), (2, .ref va)] := hl
  refine lv_iload_n hx hb dL_ask_0 rfl (lv_at hl 1 rfl) ?_
  refine lv_tableOut (tgt := 461) hx hb dL_ask_1 (by decide +kernel) (by decide) ?_
  refine lv_aload_n hx hb dL_ask_461 rfl (lv_at hl 0 rfl) ?_
  refine lv_iload_n hx hb dL_ask_462 rfl (lv_at hl 1 rfl) ?_
  refine lv_aload_n hx hb dL_ask_463 rfl (lv_at hl 2 rfl) ?_
  have hFc := va_free (wc := [(xo, .inr (6, [.ref xg, .int gc, .ref xp, .int pc, .ref xq, .int qc, .ref r1, .ref r2, .ref r3, .ref r4, .ref se, .int ts, .int hou, .int dr, .int su, .int br])), (xq, .inl (cq, 16, .inr (.inr (.inr (.inr (zq [none, none, none, none, none, none, none, none, none, none, none, none, none, none, none, none])))))), (va, .inl (ci, 1, .inl (zi [0])))]) hD hS hA [0, 1, 2] rfl
  refine vx_calli (vx_runS (As := [.ref xo, .int 122, .ref va]) (rest := []) ⟨hx, hb, hml, hown, hts⟩ (zc_L_asked_isInSet_no l hnt D G xo va xg gc xp pc xq qc r1 r2 r3 r4 se ts hou dr su br cq ci s.heap.size) (cwS 3 hts gzL_ask_isInSet_no_L_asked_isInSet_no_73 rfl rfl rfl (by decide +kernel) ⟨(Nat.le_of_ble_eq_true rfl), (Nat.le_of_ble_eq_true rfl)⟩) ⟨p_RW_blind, (p_RW_at (tc := [(cq, .object "Gatherhouse$Piece"), (ci, .int)]) (wc := [(xo, .inr (6, [.ref xg, .int gc, .ref xp, .int pc, .ref xq, .int qc, .ref r1, .ref r2, .ref r3, .ref r4, .ref se, .int ts, .int hou, .int dr, .int su, .int br])), (xq, .inl (cq, 16, .inr (.inr (.inr (.inr (zq [none, none, none, none, none, none, none, none, none, none, none, none, none, none, none, none])))))), (va, .inl (ci, 1, .inl (zi [0])))]) hP hK hD hS hA hT hZ [0, 1, 2] [0, 1] rfl rfl (by decide) rfl [.ref xo, .int 122, .ref va])⟩ rfl rfl hl.1 rfl (lv_room (Nat.le_of_ble_eq_true rfl)) dL_ask_464 ⟨(Nat.le_of_ble_eq_true rfl), (Nat.le_of_ble_eq_true rfl)⟩) hS (fun q _ h => hFc q h) hFc (fun q _ h => hFc q h) (fun E ce q9 u t H locs ht hvm hpx hBX hz1 hk1 hS hce hcv hcl => ?_) (fun r_1287 u t H locs ht hvm w_1288 hB hz1 hk1 hS => ?_)
  · obtain ⟨hBX, hB⟩ := hBX
    obtain ⟨hP, hD, hK⟩ := q_join (D := D) (wc := [(xo, .inr (6, [.ref xg, .int gc, .ref xp, .int pc, .ref xq, .int qc, .ref r1, .ref r2, .ref r3, .ref r4, .ref se, .int ts, .int hou, .int dr, .int su, .int br])), (xq, .inl (cq, 16, .inr (.inr (.inr (.inr (zq [none, none, none, none, none, none, none, none, none, none, none, none, none, none, none, none])))))), (va, .inl (ci, 1, .inl (zi [0])))]) (wr := []) (w1 := [(xo, .inr (6, [.ref xg, .int gc, .ref xp, .int pc, .ref xq, .int qc, .ref r1, .ref r2, .ref r3, .ref r4, .ref se, .int ts, .int hou, .int dr, .int su, .int br])), (xq, .inl (cq, 16, .inr (.inr (.inr (.inr (zq [none, none, none, none, none, none, none, none, none, none, none, none, none, none, none, none]))))))]) (tyr := []) (ty1 := [(cq, .object "Gatherhouse$Piece"), (ci, .int)]) hP hD hK [0, 1, 2] [] [] rfl rfl (by decide) (by decide) rfl hFc hk1 ht hvm hB
    have hP : va_P D vwCl [(xo, .inr (6, [.ref xg, .int gc, .ref xp, .int pc, .ref xq, .int qc, .ref r1, .ref r2, .ref r3, .ref r4, .ref se, .int ts, .int hou, .int dr, .int su, .int br])), (xq, .inl (cq, 16, .inr (.inr (.inr (.inr (zq [none, none, none, none, none, none, none, none, none, none, none, none, none, none, none, none]))))))] H := hP
    have hD : va_D A [(xo, .inr (6, [.ref xg, .int gc, .ref xp, .int pc, .ref xq, .int qc, .ref r1, .ref r2, .ref r3, .ref r4, .ref se, .int ts, .int hou, .int dr, .int su, .int br])), (xq, .inl (cq, 16, .inr (.inr (.inr (.inr (zq [none, none, none, none, none, none, none, none, none, none, none, none, none, none, none, none]))))))] := hD
    have hK : va_K D vwCl [(cq, .object "Gatherhouse$Piece"), (ci, .int)] s := hK
    have hBX : (E = "java/lang/IndexOutOfBoundsException") := hBX
    rcases hBX with rfl
    refine z_catch (own := RL) (name := "java/lang/IndexOutOfBoundsException") (hh := ttL_ask) (x := ⟨461, 467, 468, 79⟩) hown hxe 19 rfl [] (by decide +kernel) (fun _ h => absurd h List.not_mem_nil) (by decide) (by decide) (hts (.classLink RL 79 "java/lang/IndexOutOfBoundsException") (by decide +kernel)) (va_Nw.use rfl (hT.2.2.1 ("java/lang/IndexOutOfBoundsException", "java/lang/IndexOutOfBoundsException") (by decide +kernel))) hce hcv hcl ?_
    refine W.eq (g2 := F0 m 468 ls [.ref q9]) rfl ?_
    refine lv_astore_n (lv' := [(3, .ref q9), (0, .ref xo), (1, .int 122), (2, .ref va)]) hx hb dL_ask_468 rfl hl (by decide) rfl (fun ls hl => ?_)
    refine lv_ldc (v := (-2000000001)) hx hb hown (hts (.constant RL 81 (-2000000001)) (by decide +kernel)) dL_ask_469 ?_
    refine vx_ret ?_
    exact W.iret (v := (-2000000001)) hx hb hr (fun t ht hW => ⟨⟨(-2000000001), (), rfl, rfl, q_RW_mk hP hK hD [0, 1] [0] rfl rfl (by decide) rfl ht hW.alike⟩, hS.F ht⟩) hS.2.2 dL_ask_471
  · exact w_1288.elim
theorem dL_asked_430 : decode cL_asked 430 = .ok (.aload_n 0, 1) := by decide +kernel
theorem dL_asked_431 : decode cL_asked 431 = .ok (.aload_n 2, 1) := by decide +kernel
theorem dL_asked_432 : decode cL_asked 432 = .ok (.iconst 0, 1) := by decide +kernel
theorem dL_asked_433 : decode cL_asked 433 = .ok (.iaload, 1) := by decide +kernel
theorem dL_asked_434 : decode cL_asked 434 = .ok (.invokevirtual 152, 3) := by decide +kernel
def wzEL_asked_price_no : List Cond := [.code yL_asked cL_asked 3 (some .int), .methodLink RL 152 yX6_price, .instanceMethod yX6_price, .selects RX6 yX6_price yX6_price, .initialized RX6, .code yX6_price cX6_price 2 (some .int), .methodLink RX6 169 yX6_findPiece, .instanceMethod yX6_findPiece, .selects RX6 yX6_findPiece yX6_findPiece, .code yX6_findPiece cX6_findPiece 3 (some (.object "Gatherhouse$Piece")), .fieldLink RX6 30 "Gatherhouse" "pieces" "[LGatherhouse$Piece;", .classLink RX6 365 "java/lang/IndexOutOfBoundsException", .initialized "java/lang/IndexOutOfBoundsException"]
def wzL_asked_price_no : List Cond := wzEL_asked_price_no ++ (u_ws RX6 TX6 16 ++ ((vx_atS RX6 369 "java/lang/IndexOutOfBoundsException" ["java/lang/RuntimeException", "java/lang/Exception"]).filter goodWord))
theorem zgEL_asked_price_no : wzEL_asked_price_no.all goodWord = true := by decide +kernel
theorem zuL_asked_price_no_X6 : ∀ w ∈ u_ws RX6 TX6 16, w ∈ wzL_asked_price_no := (fun _ h => (List.mem_append_right _ (List.mem_append_left _ h)))
theorem ztL_asked_price_no_X6_369 : ∀ w ∈ (vx_atS RX6 369 "java/lang/IndexOutOfBoundsException" ["java/lang/RuntimeException", "java/lang/Exception"]).filter goodWord, w ∈ wzL_asked_price_no := (fun _ h => (List.mem_append_right _ (List.mem_append_right _ h)))
theorem gzL_asked_price_no_X6_price_no_152 : GoodIn wzL_asked_price_no (wsV RL 152 RX6 yX6_price wzX6_price_no) := (goodIn_app (z_lift (goodIn_r _ [1, 2, 3, 4] rfl (by decide +kernel))) (goodIn_app (z_lift (goodIn_r wzEX6_price_no [5, 6, 7, 8, 4, 9, 10, 11, 12] rfl zgEX6_price_no)) (goodIn_app (goodIn_sub (fun _ h => (List.mem_append_right _ (List.mem_append_left _ h))) zgU_X6) (goodIn_sub (fun _ h => (List.mem_append_right _ (List.mem_append_right _ h))) zgV_X6_369))))
set_option maxHeartbeats 4000000 in
set_option maxRecDepth 100000 in
theorem zc_L_asked_price_no (l : Launch) (hnt : l.stackTraces = false) (D : va_G) (G : Nat × Nat × (Nat → Int32)) (xo : Nat) (va : Nat) (xg : Nat) (gc : Int32) (xp : Nat) (pc : Int32) (xq : Nat) (qc : Int32) (r1 : Nat) (r2 : Nat) (r3 : Nat) (r4 : Nat) (se : Nat) (ts : Int32) (hou : Int32) (dr : Int32) (su : Int32) (br : Int32) (cq : ClassId) (ci : ClassId) (sz : Nat) : vx_Met l yL_asked wzL_asked_price_no ({ frames := 8, cells := 1, slots := 6, locals := 125 }) (va_Pc [.ref xo, .int 118, .ref va] (p_RW D G [(cq, .object "Gatherhouse$Piece"), (ci, .int)] [(xo, .inr (6, [.ref xg, .int gc, .ref xp, .int pc, .ref xq, .int qc, .ref r1, .ref r2, .ref r3, .ref r4, .ref se, .int ts, .int hou, .int dr, .int su, .int br])), (xq, .inl (cq, 16, .inr (.inr (.inr (.inr (zq [none, none, none, none, none, none, none, none, none, none, none, none, none, none, none, none])))))), (va, .inl (ci, 1, .inl (zi [0])))] sz)) (va_Qi (fun (r : Int32) (u : Unit) => False) (fun (u : Unit) (t : State) => q_RW D [(cq, .object "Gatherhouse$Piece")] [(xo, .inr (6, [.ref xg, .int gc, .ref xp, .int pc, .ref xq, .int qc, .ref r1, .ref r2, .ref r3, .ref r4, .ref se, .int ts, .int hou, .int dr, .int su, .int br])), (xq, .inl (cq, 16, .inr (.inr (.inr (.inr (zq [none, none, none, none, none, none, none, none, none, none, none, none, none, none, none, none]))))))] (va_A [(xo, .inr (6, [.ref xg, .int gc, .ref xp, .int pc, .ref xq, .int qc, .ref r1, .ref r2, .ref r3, .ref r4, .ref se, .int ts, .int hou, .int dr, .int su, .int br])), (xq, .inl (cq, 16, .inr (.inr (.inr (.inr (zq [none, none, none, none, none, none, none, none, none, none, none, none, none, none, none, none])))))), (va, .inl (ci, 1, .inl (zi [0])))] sz) t) (va_A [(xo, .inr (6, [.ref xg, .int gc, .ref xp, .int pc, .ref xq, .int qc, .ref r1, .ref r2, .ref r3, .ref r4, .ref se, .int ts, .int hou, .int dr, .int su, .int br])), (xq, .inl (cq, 16, .inr (.inr (.inr (.inr (zq [none, none, none, none, none, none, none, none, none, none, none, none, none, none, none, none])))))), (va, .inl (ci, 1, .inl (zi [0])))] sz)) (vx_X (fun (_ : Unit) => True) (fun E (_ : Unit) (t : State) => ((E = "java/lang/IndexOutOfBoundsException")) ∧ q_RW D [(cq, .object "Gatherhouse$Piece"), (ci, .int)] [(xo, .inr (6, [.ref xg, .int gc, .ref xp, .int pc, .ref xq, .int qc, .ref r1, .ref r2, .ref r3, .ref r4, .ref se, .int ts, .int hou, .int dr, .int su, .int br])), (xq, .inl (cq, 16, .inr (.inr (.inr (.inr (zq [none, none, none, none, none, none, none, none, none, none, none, none, none, none, none, none]))))))] (va_A [(xo, .inr (6, [.ref xg, .int gc, .ref xp, .int pc, .ref xq, .int qc, .ref r1, .ref r2, .ref r3, .ref r4, .ref se, .int ts, .int hou, .int dr, .int su, .int br])), (xq, .inl (cq, 16, .inr (.inr (.inr (.inr (zq [none, none, none, none, none, none, none, none, none, none, none, none, none, none, none, none])))))), (va, .inl (ci, 1, .inl (zi [0])))] sz) t) (va_A [(xo, .inr (6, [.ref xg, .int gc, .ref xp, .int pc, .ref xq, .int qc, .ref r1, .ref r2, .ref r3, .ref r4, .ref se, .int ts, .int hou, .int dr, .int su, .int br])), (xq, .inl (cq, 16, .inr (.inr (.inr (.inr (zq [none, none, none, none, none, none, none, none, none, none, none, none, none, none, none, none])))))), (va, .inl (ci, 1, .inl (zi [0])))] sz)) 1 6 (va_A [(xo, .inr (6, [.ref xg, .int gc, .ref xp, .int pc, .ref xq, .int qc, .ref r1, .ref r2, .ref r3, .ref r4, .ref se, .int ts, .int hou, .int dr, .int su, .int br])), (xq, .inl (cq, 16, .inr (.inr (.inr (.inr (zq [none, none, none, none, none, none, none, none, none, none, none, none, none, none, none, none])))))), (va, .inl (ci, 1, .inl (zi [0])))] sz) := by
  refine vx_ofW (cc := cL_asked) (maxL := 3) (ret := (some .int)) (by decide) rfl ?_
  intro p e s m args below meth c s₁ B hml hxt hv
  obtain ⟨rfl, hsz, hP, hK, hD0, hT, hZ⟩ := hv
  have hx := B.exec
  have hb := B.bytes
  have hr := B.returns
  have hts := atoms_spec (ws := wzL_asked_price_no) B.pre
  have hown : s.vm.findClass RL = some m.cls := findClass_of_methodNamed B.named
  have hlocks := B.notSynchronized
  subst hsz
  have hD := hD0.self (sz := s.heap.size)
  generalize hAe : va_A [(xo, .inr (6, [.ref xg, .int gc, .ref xp, .int pc, .ref xq, .int qc, .ref r1, .ref r2, .ref r3, .ref r4, .ref se, .int ts, .int hou, .int dr, .int su, .int br])), (xq, .inl (cq, 16, .inr (.inr (.inr (.inr (zq [none, none, none, none, none, none, none, none, none, none, none, none, none, none, none, none])))))), (va, .inl (ci, 1, .inl (zi [0])))] s.heap.size = A at hD hZ ⊢
  have hA : ∀ q : Nat, s.heap.size ≤ q → A q := fun q h => by rw [← hAe]; exact Or.inr h
  have hS : va_S A s.heap s.heap [] := va_S.rf
  have hl := lv_entry ([.ref xo, .int 118, .ref va]) (n := 3) (Nat.le_of_ble_eq_true rfl)
  rw [lg_entry_eq]
  generalize (lg_sl ([.ref xo, .int 118, .ref va]) ++ List.replicate (3 - (lg_sl ([.ref xo, .int 118, .ref va])).length) Slot.unset).toArray = ls at hl ⊢
  have hl : lv_has ls 3 [(0, .ref xo), (1, .int 118), (2, .ref va)] := hl
  refine lv_iload_n hx hb dL_asked_0 rfl (lv_at hl 1 rfl) ?_
  refine lv_tableIn (off := 429) (tgt := 430) hx hb dL_asked_1 (by decide +kernel) (by decide +kernel) (by decide +kernel) (by decide) ?_
  refine lv_aload_n hx hb dL_asked_430 rfl (lv_at hl 0 rfl) ?_
  refine lv_aload_n hx hb dL_asked_431 rfl (lv_at hl 2 rfl) ?_
  refine lv_iconst (v := 0) hx hb dL_asked_432 (by decide) ?_
  refine va_iald (D := D) (cl := vwCl) hx hb hK hP 2 1 rfl rfl (vp_in_nI (n := 0) (N := 1) (by decide) (by decide)) dL_asked_433 ?_
  refine W.eq (g2 := F0 m 434 ls [.int 0, .ref xo]) rfl ?_
  have hFc := va_free (wc := [(xo, .inr (6, [.ref xg, .int gc, .ref xp, .int pc, .ref xq, .int qc, .ref r1, .ref r2, .ref r3, .ref r4, .ref se, .int ts, .int hou, .int dr, .int su, .int br])), (xq, .inl (cq, 16, .inr (.inr (.inr (.inr (zq [none, none, none, none, none, none, none, none, none, none, none, none, none, none, none, none]))))))]) hD hS hA [0, 1] rfl
  refine vx_calli (vx_runV (As := [.int 0]) (rest := []) ⟨hx, hb, hml, hown, hts⟩ (zc_X6_price_no l hnt D G xo xg gc xp pc xq qc r1 r2 r3 r4 se ts hou dr su br cq s.heap.size) (cwV 1 hts gzL_asked_price_no_X6_price_no_152 rfl rfl rfl (by decide +kernel) ⟨(Nat.le_of_ble_eq_true rfl), (Nat.le_of_ble_eq_true rfl)⟩) ⟨p_RW_blind, va_recv hK hP (ci := 6) (q0 := 0) rfl rfl, (p_RW_at (tc := [(cq, .object "Gatherhouse$Piece")]) (wc := [(xo, .inr (6, [.ref xg, .int gc, .ref xp, .int pc, .ref xq, .int qc, .ref r1, .ref r2, .ref r3, .ref r4, .ref se, .int ts, .int hou, .int dr, .int su, .int br])), (xq, .inl (cq, 16, .inr (.inr (.inr (.inr (zq [none, none, none, none, none, none, none, none, none, none, none, none, none, none, none, none]))))))]) hP hK hD hS hA hT hZ [0, 1] [0] rfl rfl (by decide) rfl [.ref xo, .int 0])⟩ rfl rfl hl.1 rfl (lv_room (Nat.le_of_ble_eq_true rfl)) dL_asked_434 ⟨(Nat.le_of_ble_eq_true rfl), (Nat.le_of_ble_eq_true rfl)⟩) hS (fun q _ h => hFc q h) hFc (fun q _ h => hFc q h) (fun E ce q9 u t H locs ht hvm hpx hBX hz1 hk1 hS hce hcv hcl => ?_) (fun r_1289 u t H locs ht hvm w_1290 hB hz1 hk1 hS => ?_)
  · obtain ⟨hBX, hB⟩ := hBX
    obtain ⟨hP, hD, hK⟩ := q_join (D := D) (wc := [(xo, .inr (6, [.ref xg, .int gc, .ref xp, .int pc, .ref xq, .int qc, .ref r1, .ref r2, .ref r3, .ref r4, .ref se, .int ts, .int hou, .int dr, .int su, .int br])), (xq, .inl (cq, 16, .inr (.inr (.inr (.inr (zq [none, none, none, none, none, none, none, none, none, none, none, none, none, none, none, none]))))))]) (wr := [(va, .inl (ci, 1, .inl (zi [0])))]) (w1 := [(xo, .inr (6, [.ref xg, .int gc, .ref xp, .int pc, .ref xq, .int qc, .ref r1, .ref r2, .ref r3, .ref r4, .ref se, .int ts, .int hou, .int dr, .int su, .int br])), (xq, .inl (cq, 16, .inr (.inr (.inr (.inr (zq [none, none, none, none, none, none, none, none, none, none, none, none, none, none, none, none]))))))]) (tyr := [(ci, .int)]) (ty1 := [(cq, .object "Gatherhouse$Piece")]) hP hD hK [0, 1] [2] [1] rfl rfl (by decide) (by decide) rfl hFc hk1 ht hvm hB
    have hP : va_P D vwCl [(va, .inl (ci, 1, .inl (zi [0]))), (xo, .inr (6, [.ref xg, .int gc, .ref xp, .int pc, .ref xq, .int qc, .ref r1, .ref r2, .ref r3, .ref r4, .ref se, .int ts, .int hou, .int dr, .int su, .int br])), (xq, .inl (cq, 16, .inr (.inr (.inr (.inr (zq [none, none, none, none, none, none, none, none, none, none, none, none, none, none, none, none]))))))] H := hP
    have hD : va_D A [(va, .inl (ci, 1, .inl (zi [0]))), (xo, .inr (6, [.ref xg, .int gc, .ref xp, .int pc, .ref xq, .int qc, .ref r1, .ref r2, .ref r3, .ref r4, .ref se, .int ts, .int hou, .int dr, .int su, .int br])), (xq, .inl (cq, 16, .inr (.inr (.inr (.inr (zq [none, none, none, none, none, none, none, none, none, none, none, none, none, none, none, none]))))))] := hD
    have hK : va_K D vwCl [(ci, .int), (cq, .object "Gatherhouse$Piece")] s := hK
    have hBX : (E = "java/lang/IndexOutOfBoundsException") := hBX
    rcases hBX with rfl
    exact vx_out (fun x h => (hxt x h).elim) hlocks hce hcv hcl (fun t ht hW9 => ⟨(), trivial, ⟨rfl, q_RW_mk hP hK hD [1, 2] [1, 0] rfl rfl (by decide) rfl ht hW9⟩, hS.F ht⟩) hS.2.2 (Nat.le_of_ble_eq_true rfl) (Nat.le_of_ble_eq_true rfl)
  · exact w_1290.elim
def wzEL_ask_price_no : List Cond := [.codeWith yL_ask cL_ask 4 (some .int) ttL_ask, .methodLink RL 73 yL_asked, .static yL_asked, .initialized RL, .code yL_asked cL_asked 3 (some .int), .methodLink RL 152 yX6_price, .instanceMethod yX6_price, .selects RX6 yX6_price yX6_price, .initialized RX6, .code yX6_price cX6_price 2 (some .int), .methodLink RX6 169 yX6_findPiece, .instanceMethod yX6_findPiece, .selects RX6 yX6_findPiece yX6_findPiece, .code yX6_findPiece cX6_findPiece 3 (some (.object "Gatherhouse$Piece")), .fieldLink RX6 30 "Gatherhouse" "pieces" "[LGatherhouse$Piece;", .classLink RX6 365 "java/lang/IndexOutOfBoundsException", .initialized "java/lang/IndexOutOfBoundsException", .classLink RL 79 "java/lang/IndexOutOfBoundsException", .constant RL 81 (-2000000001)]
def wzL_ask_price_no : List Cond := wzEL_ask_price_no ++ (u_ws RX6 TX6 16 ++ ((vx_atS RX6 369 "java/lang/IndexOutOfBoundsException" ["java/lang/RuntimeException", "java/lang/Exception"]).filter goodWord))
theorem zgEL_ask_price_no : wzEL_ask_price_no.all goodWord = true := by decide +kernel
theorem zuL_ask_price_no_X6 : ∀ w ∈ u_ws RX6 TX6 16, w ∈ wzL_ask_price_no := (fun _ h => (List.mem_append_right _ (List.mem_append_left _ h)))
theorem ztL_ask_price_no_X6_369 : ∀ w ∈ (vx_atS RX6 369 "java/lang/IndexOutOfBoundsException" ["java/lang/RuntimeException", "java/lang/Exception"]).filter goodWord, w ∈ wzL_ask_price_no := (fun _ h => (List.mem_append_right _ (List.mem_append_right _ h)))
theorem gzL_ask_price_no_L_asked_price_no_73 : GoodIn wzL_ask_price_no (va_wsS RL 73 yL_asked wzL_asked_price_no) := (goodIn_app (z_lift (goodIn_r _ [1, 2, 3] rfl (by decide +kernel))) (goodIn_app (z_lift (goodIn_r wzEL_asked_price_no [4, 5, 6, 7, 8, 9, 10, 11, 12, 13, 14, 15, 16] rfl zgEL_asked_price_no)) (goodIn_app (goodIn_sub (fun _ h => (List.mem_append_right _ (List.mem_append_left _ h))) zgU_X6) (goodIn_sub (fun _ h => (List.mem_append_right _ (List.mem_append_right _ h))) zgV_X6_369))))
set_option maxHeartbeats 4000000 in
set_option maxRecDepth 100000 in
theorem zc_L_ask_price_no (l : Launch) (hnt : l.stackTraces = false) (D : va_G) (G : Nat × Nat × (Nat → Int32)) (xo : Nat) (va : Nat) (xg : Nat) (gc : Int32) (xp : Nat) (pc : Int32) (xq : Nat) (qc : Int32) (r1 : Nat) (r2 : Nat) (r3 : Nat) (r4 : Nat) (se : Nat) (ts : Int32) (hou : Int32) (dr : Int32) (su : Int32) (br : Int32) (cq : ClassId) (ci : ClassId) (sz : Nat) : vx_Met l yL_ask wzL_ask_price_no ({ frames := 9, cells := 1, slots := 6, locals := 147 }) (va_Pc [.ref xo, .int 118, .ref va] (p_RW D G [(cq, .object "Gatherhouse$Piece"), (ci, .int)] [(xo, .inr (6, [.ref xg, .int gc, .ref xp, .int pc, .ref xq, .int qc, .ref r1, .ref r2, .ref r3, .ref r4, .ref se, .int ts, .int hou, .int dr, .int su, .int br])), (xq, .inl (cq, 16, .inr (.inr (.inr (.inr (zq [none, none, none, none, none, none, none, none, none, none, none, none, none, none, none, none])))))), (va, .inl (ci, 1, .inl (zi [0])))] sz)) (va_Qi (fun (r : Int32) (u : Unit) => r = (-2000000001)) (fun (u : Unit) (t : State) => q_RW D [(cq, .object "Gatherhouse$Piece")] [(xo, .inr (6, [.ref xg, .int gc, .ref xp, .int pc, .ref xq, .int qc, .ref r1, .ref r2, .ref r3, .ref r4, .ref se, .int ts, .int hou, .int dr, .int su, .int br])), (xq, .inl (cq, 16, .inr (.inr (.inr (.inr (zq [none, none, none, none, none, none, none, none, none, none, none, none, none, none, none, none]))))))] (va_A [(xo, .inr (6, [.ref xg, .int gc, .ref xp, .int pc, .ref xq, .int qc, .ref r1, .ref r2, .ref r3, .ref r4, .ref se, .int ts, .int hou, .int dr, .int su, .int br])), (xq, .inl (cq, 16, .inr (.inr (.inr (.inr (zq [none, none, none, none, none, none, none, none, none, none, none, none, none, none, none, none])))))), (va, .inl (ci, 1, .inl (zi [0])))] sz) t) (va_A [(xo, .inr (6, [.ref xg, .int gc, .ref xp, .int pc, .ref xq, .int qc, .ref r1, .ref r2, .ref r3, .ref r4, .ref se, .int ts, .int hou, .int dr, .int su, .int br])), (xq, .inl (cq, 16, .inr (.inr (.inr (.inr (zq [none, none, none, none, none, none, none, none, none, none, none, none, none, none, none, none])))))), (va, .inl (ci, 1, .inl (zi [0])))] sz)) (vx_X (fun (_ : Unit) => True) (fun E (_ : Unit) (_ : State) => False) (va_A [(xo, .inr (6, [.ref xg, .int gc, .ref xp, .int pc, .ref xq, .int qc, .ref r1, .ref r2, .ref r3, .ref r4, .ref se, .int ts, .int hou, .int dr, .int su, .int br])), (xq, .inl (cq, 16, .inr (.inr (.inr (.inr (zq [none, none, none, none, none, none, none, none, none, none, none, none, none, none, none, none])))))), (va, .inl (ci, 1, .inl (zi [0])))] sz)) 1 6 (va_A [(xo, .inr (6, [.ref xg, .int gc, .ref xp, .int pc, .ref xq, .int qc, .ref r1, .ref r2, .ref r3, .ref r4, .ref se, .int ts, .int hou, .int dr, .int su, .int br])), (xq, .inl (cq, 16, .inr (.inr (.inr (.inr (zq [none, none, none, none, none, none, none, none, none, none, none, none, none, none, none, none])))))), (va, .inl (ci, 1, .inl (zi [0])))] sz) := by
  refine vx_ofWH (cc := cL_ask) (maxL := 4) (ret := (some .int)) (by decide) rfl ?_
  intro p e s m args below meth c s₁ B hml hv
  obtain ⟨rfl, hsz, hP, hK, hD0, hT, hZ⟩ := hv
  have hx := B.exec
  have hb := B.bytes
  have hr := B.returns
  have hts := atoms_spec (ws := wzL_ask_price_no) B.pre
  have hown : s.vm.findClass RL = some m.cls := findClass_of_methodNamed B.named
  have hlocks := B.notSynchronized
  have hxe := vx_table (x := yL_ask) B (hts _ List.mem_cons_self)
  subst hsz
  have hD := hD0.self (sz := s.heap.size)
  generalize hAe : va_A [(xo, .inr (6, [.ref xg, .int gc, .ref xp, .int pc, .ref xq, .int qc, .ref r1, .ref r2, .ref r3, .ref r4, .ref se, .int ts, .int hou, .int dr, .int su, .int br])), (xq, .inl (cq, 16, .inr (.inr (.inr (.inr (zq [none, none, none, none, none, none, none, none, none, none, none, none, none, none, none, none])))))), (va, .inl (ci, 1, .inl (zi [0])))] s.heap.size = A at hD hZ ⊢
  have hA : ∀ q : Nat, s.heap.size ≤ q → A q := fun q h => by rw [← hAe]; exact Or.inr h
  have hS : va_S A s.heap s.heap [] := va_S.rf
  have hl := lv_entry ([.ref xo, .int 118, .ref va]) (n := 4) (Nat.le_of_ble_eq_true rfl)
  rw [lg_entry_eq]
  generalize (lg_sl ([.ref xo, .int 118, .ref va]) ++ List.replicate (4 - (lg_sl ([.ref xo, .int 118, .ref va])).length) Slot.unset).toArray = ls at hl ⊢
  have hl : lv_has ls 4 [(0, .ref xo), (1, .int 118), (2, .ref va)] := hl
  refine lv_iload_n hx hb dL_ask_0 rfl (lv_at hl 1 rfl) ?_
  refine lv_tableIn (off := 460) (tgt := 461) hx hb dL_ask_1 (by decide +kernel) (by decide +kernel) (by decide +kernel) (by decide) ?_
  refine lv_aload_n hx hb dL_ask_461 rfl (lv_at hl 0 rfl) ?_
  refine lv_iload_n hx hb dL_ask_462 rfl (lv_at hl 1 rfl) ?_
  refine lv_aload_n hx hb dL_ask_463 rfl (lv_at hl 2 rfl) ?_
  have hFc := va_free (wc := [(xo, .inr (6, [.ref xg, .int gc, .ref xp, .int pc, .ref xq, .int qc, .ref r1, .ref r2, .ref r3, .ref r4, .ref se, .int ts, .int hou, .int dr, .int su, .int br])), (xq, .inl (cq, 16, .inr (.inr (.inr (.inr (zq [none, none, none, none, none, none, none, none, none, none, none, none, none, none, none, none])))))), (va, .inl (ci, 1, .inl (zi [0])))]) hD hS hA [0, 1, 2] rfl
  refine vx_calli (vx_runS (As := [.ref xo, .int 118, .ref va]) (rest := []) ⟨hx, hb, hml, hown, hts⟩ (zc_L_asked_price_no l hnt D G xo va xg gc xp pc xq qc r1 r2 r3 r4 se ts hou dr su br cq ci s.heap.size) (cwS 3 hts gzL_ask_price_no_L_asked_price_no_73 rfl rfl rfl (by decide +kernel) ⟨(Nat.le_of_ble_eq_true rfl), (Nat.le_of_ble_eq_true rfl)⟩) ⟨p_RW_blind, (p_RW_at (tc := [(cq, .object "Gatherhouse$Piece"), (ci, .int)]) (wc := [(xo, .inr (6, [.ref xg, .int gc, .ref xp, .int pc, .ref xq, .int qc, .ref r1, .ref r2, .ref r3, .ref r4, .ref se, .int ts, .int hou, .int dr, .int su, .int br])), (xq, .inl (cq, 16, .inr (.inr (.inr (.inr (zq [none, none, none, none, none, none, none, none, none, none, none, none, none, none, none, none])))))), (va, .inl (ci, 1, .inl (zi [0])))]) hP hK hD hS hA hT hZ [0, 1, 2] [0, 1] rfl rfl (by decide) rfl [.ref xo, .int 118, .ref va])⟩ rfl rfl hl.1 rfl (lv_room (Nat.le_of_ble_eq_true rfl)) dL_ask_464 ⟨(Nat.le_of_ble_eq_true rfl), (Nat.le_of_ble_eq_true rfl)⟩) hS (fun q _ h => hFc q h) hFc (fun q _ h => hFc q h) (fun E ce q9 u t H locs ht hvm hpx hBX hz1 hk1 hS hce hcv hcl => ?_) (fun r_1291 u t H locs ht hvm w_1292 hB hz1 hk1 hS => ?_)
  · obtain ⟨hBX, hB⟩ := hBX
    obtain ⟨hP, hD, hK⟩ := q_join (D := D) (wc := [(xo, .inr (6, [.ref xg, .int gc, .ref xp, .int pc, .ref xq, .int qc, .ref r1, .ref r2, .ref r3, .ref r4, .ref se, .int ts, .int hou, .int dr, .int su, .int br])), (xq, .inl (cq, 16, .inr (.inr (.inr (.inr (zq [none, none, none, none, none, none, none, none, none, none, none, none, none, none, none, none])))))), (va, .inl (ci, 1, .inl (zi [0])))]) (wr := []) (w1 := [(xo, .inr (6, [.ref xg, .int gc, .ref xp, .int pc, .ref xq, .int qc, .ref r1, .ref r2, .ref r3, .ref r4, .ref se, .int ts, .int hou, .int dr, .int su, .int br])), (xq, .inl (cq, 16, .inr (.inr (.inr (.inr (zq [none, none, none, none, none, none, none, none, none, none, none, none, none, none, none, none]))))))]) (tyr := []) (ty1 := [(cq, .object "Gatherhouse$Piece"), (ci, .int)]) hP hD hK [0, 1, 2] [] [] rfl rfl (by decide) (by decide) rfl hFc hk1 ht hvm hB
    have hP : va_P D vwCl [(xo, .inr (6, [.ref xg, .int gc, .ref xp, .int pc, .ref xq, .int qc, .ref r1, .ref r2, .ref r3, .ref r4, .ref se, .int ts, .int hou, .int dr, .int su, .int br])), (xq, .inl (cq, 16, .inr (.inr (.inr (.inr (zq [none, none, none, none, none, none, none, none, none, none, none, none, none, none, none, none]))))))] H := hP
    have hD : va_D A [(xo, .inr (6, [.ref xg, .int gc, .ref xp, .int pc, .ref xq, .int qc, .ref r1, .ref r2, .ref r3, .ref r4, .ref se, .int ts, .int hou, .int dr, .int su, .int br])), (xq, .inl (cq, 16, .inr (.inr (.inr (.inr (zq [none, none, none, none, none, none, none, none, none, none, none, none, none, none, none, none]))))))] := hD
    have hK : va_K D vwCl [(cq, .object "Gatherhouse$Piece"), (ci, .int)] s := hK
    have hBX : (E = "java/lang/IndexOutOfBoundsException") := hBX
    rcases hBX with rfl
    refine z_catch (own := RL) (name := "java/lang/IndexOutOfBoundsException") (hh := ttL_ask) (x := ⟨461, 467, 468, 79⟩) hown hxe 19 rfl [] (by decide +kernel) (fun _ h => absurd h List.not_mem_nil) (by decide) (by decide) (hts (.classLink RL 79 "java/lang/IndexOutOfBoundsException") (by decide +kernel)) (va_Nw.use rfl (hT.2.2.1 ("java/lang/IndexOutOfBoundsException", "java/lang/IndexOutOfBoundsException") (by decide +kernel))) hce hcv hcl ?_
    refine W.eq (g2 := F0 m 468 ls [.ref q9]) rfl ?_
    refine lv_astore_n (lv' := [(3, .ref q9), (0, .ref xo), (1, .int 118), (2, .ref va)]) hx hb dL_ask_468 rfl hl (by decide) rfl (fun ls hl => ?_)
    refine lv_ldc (v := (-2000000001)) hx hb hown (hts (.constant RL 81 (-2000000001)) (by decide +kernel)) dL_ask_469 ?_
    refine vx_ret ?_
    exact W.iret (v := (-2000000001)) hx hb hr (fun t ht hW => ⟨⟨(-2000000001), (), rfl, rfl, q_RW_mk hP hK hD [0, 1] [0] rfl rfl (by decide) rfl ht hW.alike⟩, hS.F ht⟩) hS.2.2 dL_ask_471
  · exact w_1292.elim
theorem dL_asked_438 : decode cL_asked 438 = .ok (.aload_n 0, 1) := by decide +kernel
theorem dL_asked_439 : decode cL_asked 439 = .ok (.aload_n 2, 1) := by decide +kernel
theorem dL_asked_440 : decode cL_asked 440 = .ok (.iconst 0, 1) := by decide +kernel
theorem dL_asked_441 : decode cL_asked 441 = .ok (.iaload, 1) := by decide +kernel
theorem dL_asked_442 : decode cL_asked 442 = .ok (.invokevirtual 155, 3) := by decide +kernel
def wzEL_asked_sell_no : List Cond := [.code yL_asked cL_asked 3 (some .int), .methodLink RL 155 yX6_sell, .instanceMethod yX6_sell, .selects RX6 yX6_sell yX6_sell, .initialized RX6, .code yX6_sell cX6_sell 4 (some .int), .methodLink RX6 169 yX6_findPiece, .instanceMethod yX6_findPiece, .selects RX6 yX6_findPiece yX6_findPiece, .code yX6_findPiece cX6_findPiece 3 (some (.object "Gatherhouse$Piece")), .fieldLink RX6 30 "Gatherhouse" "pieces" "[LGatherhouse$Piece;", .classLink RX6 365 "java/lang/IndexOutOfBoundsException", .initialized "java/lang/IndexOutOfBoundsException"]
def wzL_asked_sell_no : List Cond := wzEL_asked_sell_no ++ (u_ws RX6 TX6 16 ++ ((vx_atS RX6 369 "java/lang/IndexOutOfBoundsException" ["java/lang/RuntimeException", "java/lang/Exception"]).filter goodWord))
theorem zgEL_asked_sell_no : wzEL_asked_sell_no.all goodWord = true := by decide +kernel
theorem zuL_asked_sell_no_X6 : ∀ w ∈ u_ws RX6 TX6 16, w ∈ wzL_asked_sell_no := (fun _ h => (List.mem_append_right _ (List.mem_append_left _ h)))
theorem ztL_asked_sell_no_X6_369 : ∀ w ∈ (vx_atS RX6 369 "java/lang/IndexOutOfBoundsException" ["java/lang/RuntimeException", "java/lang/Exception"]).filter goodWord, w ∈ wzL_asked_sell_no := (fun _ h => (List.mem_append_right _ (List.mem_append_right _ h)))
theorem gzL_asked_sell_no_X6_sell_no_155 : GoodIn wzL_asked_sell_no (wsV RL 155 RX6 yX6_sell wzX6_sell_no) := (goodIn_app (z_lift (goodIn_r _ [1, 2, 3, 4] rfl (by decide +kernel))) (goodIn_app (z_lift (goodIn_r wzEX6_sell_no [5, 6, 7, 8, 4, 9, 10, 11, 12] rfl zgEX6_sell_no)) (goodIn_app (goodIn_sub (fun _ h => (List.mem_append_right _ (List.mem_append_left _ h))) zgU_X6) (goodIn_sub (fun _ h => (List.mem_append_right _ (List.mem_append_right _ h))) zgV_X6_369))))
set_option maxHeartbeats 4000000 in
set_option maxRecDepth 100000 in
theorem zc_L_asked_sell_no (l : Launch) (hnt : l.stackTraces = false) (D : va_G) (G : Nat × Nat × (Nat → Int32)) (xo : Nat) (va : Nat) (xg : Nat) (gc : Int32) (xp : Nat) (pc : Int32) (xq : Nat) (qc : Int32) (r1 : Nat) (r2 : Nat) (r3 : Nat) (r4 : Nat) (se : Nat) (ts : Int32) (hou : Int32) (dr : Int32) (su : Int32) (br : Int32) (cq : ClassId) (ci : ClassId) (sz : Nat) : vx_Met l yL_asked wzL_asked_sell_no ({ frames := 8, cells := 1, slots := 6, locals := 127 }) (va_Pc [.ref xo, .int 86, .ref va] (p_RW D G [(cq, .object "Gatherhouse$Piece"), (ci, .int)] [(xo, .inr (6, [.ref xg, .int gc, .ref xp, .int pc, .ref xq, .int qc, .ref r1, .ref r2, .ref r3, .ref r4, .ref se, .int ts, .int hou, .int dr, .int su, .int br])), (xq, .inl (cq, 16, .inr (.inr (.inr (.inr (zq [none, none, none, none, none, none, none, none, none, none, none, none, none, none, none, none])))))), (va, .inl (ci, 1, .inl (zi [0])))] sz)) (va_Qi (fun (r : Int32) (u : Unit) => False) (fun (u : Unit) (t : State) => q_RW D [(cq, .object "Gatherhouse$Piece")] [(xo, .inr (6, [.ref xg, .int gc, .ref xp, .int pc, .ref xq, .int qc, .ref r1, .ref r2, .ref r3, .ref r4, .ref se, .int ts, .int hou, .int dr, .int su, .int br])), (xq, .inl (cq, 16, .inr (.inr (.inr (.inr (zq [none, none, none, none, none, none, none, none, none, none, none, none, none, none, none, none]))))))] (va_A [(xo, .inr (6, [.ref xg, .int gc, .ref xp, .int pc, .ref xq, .int qc, .ref r1, .ref r2, .ref r3, .ref r4, .ref se, .int ts, .int hou, .int dr, .int su, .int br])), (xq, .inl (cq, 16, .inr (.inr (.inr (.inr (zq [none, none, none, none, none, none, none, none, none, none, none, none, none, none, none, none])))))), (va, .inl (ci, 1, .inl (zi [0])))] sz) t) (va_A [(xo, .inr (6, [.ref xg, .int gc, .ref xp, .int pc, .ref xq, .int qc, .ref r1, .ref r2, .ref r3, .ref r4, .ref se, .int ts, .int hou, .int dr, .int su, .int br])), (xq, .inl (cq, 16, .inr (.inr (.inr (.inr (zq [none, none, none, none, none, none, none, none, none, none, none, none, none, none, none, none])))))), (va, .inl (ci, 1, .inl (zi [0])))] sz)) (vx_X (fun (_ : Unit) => True) (fun E (_ : Unit) (t : State) => ((E = "java/lang/IndexOutOfBoundsException")) ∧ q_RW D [(cq, .object "Gatherhouse$Piece"), (ci, .int)] [(xo, .inr (6, [.ref xg, .int gc, .ref xp, .int pc, .ref xq, .int qc, .ref r1, .ref r2, .ref r3, .ref r4, .ref se, .int ts, .int hou, .int dr, .int su, .int br])), (xq, .inl (cq, 16, .inr (.inr (.inr (.inr (zq [none, none, none, none, none, none, none, none, none, none, none, none, none, none, none, none]))))))] (va_A [(xo, .inr (6, [.ref xg, .int gc, .ref xp, .int pc, .ref xq, .int qc, .ref r1, .ref r2, .ref r3, .ref r4, .ref se, .int ts, .int hou, .int dr, .int su, .int br])), (xq, .inl (cq, 16, .inr (.inr (.inr (.inr (zq [none, none, none, none, none, none, none, none, none, none, none, none, none, none, none, none])))))), (va, .inl (ci, 1, .inl (zi [0])))] sz) t) (va_A [(xo, .inr (6, [.ref xg, .int gc, .ref xp, .int pc, .ref xq, .int qc, .ref r1, .ref r2, .ref r3, .ref r4, .ref se, .int ts, .int hou, .int dr, .int su, .int br])), (xq, .inl (cq, 16, .inr (.inr (.inr (.inr (zq [none, none, none, none, none, none, none, none, none, none, none, none, none, none, none, none])))))), (va, .inl (ci, 1, .inl (zi [0])))] sz)) 1 6 (va_A [(xo, .inr (6, [.ref xg, .int gc, .ref xp, .int pc, .ref xq, .int qc, .ref r1, .ref r2, .ref r3, .ref r4, .ref se, .int ts, .int hou, .int dr, .int su, .int br])), (xq, .inl (cq, 16, .inr (.inr (.inr (.inr (zq [none, none, none, none, none, none, none, none, none, none, none, none, none, none, none, none])))))), (va, .inl (ci, 1, .inl (zi [0])))] sz) := by
  refine vx_ofW (cc := cL_asked) (maxL := 3) (ret := (some .int)) (by decide) rfl ?_
  intro p e s m args below meth c s₁ B hml hxt hv
  obtain ⟨rfl, hsz, hP, hK, hD0, hT, hZ⟩ := hv
  have hx := B.exec
  have hb := B.bytes
  have hr := B.returns
  have hts := atoms_spec (ws := wzL_asked_sell_no) B.pre
  have hown : s.vm.findClass RL = some m.cls := findClass_of_methodNamed B.named
  have hlocks := B.notSynchronized
  subst hsz
  have hD := hD0.self (sz := s.heap.size)
  generalize hAe : va_A [(xo, .inr (6, [.ref xg, .int gc, .ref xp, .int pc, .ref xq, .int qc, .ref r1, .ref r2, .ref r3, .ref r4, .ref se, .int ts, .int hou, .int dr, .int su, .int br])), (xq, .inl (cq, 16, .inr (.inr (.inr (.inr (zq [none, none, none, none, none, none, none, none, none, none, none, none, none, none, none, none])))))), (va, .inl (ci, 1, .inl (zi [0])))] s.heap.size = A at hD hZ ⊢
  have hA : ∀ q : Nat, s.heap.size ≤ q → A q := fun q h => by rw [← hAe]; exact Or.inr h
  have hS : va_S A s.heap s.heap [] := va_S.rf
  have hl := lv_entry ([.ref xo, .int 86, .ref va]) (n := 3) (Nat.le_of_ble_eq_true rfl)
  rw [lg_entry_eq]
  generalize (lg_sl ([.ref xo, .int 86, .ref va]) ++ List.replicate (3 - (lg_sl ([.ref xo, .int 86, .ref va])).length) Slot.unset).toArray = ls at hl ⊢
  have hl : lv_has ls 3 [(0, .ref xo), (1, .int 86), (2, .ref va)] := hl
  refine lv_iload_n hx hb dL_asked_0 rfl (lv_at hl 1 rfl) ?_
  refine lv_tableIn (off := 437) (tgt := 438) hx hb dL_asked_1 (by decide +kernel) (by decide +kernel) (by decide +kernel) (by decide) ?_
  refine lv_aload_n hx hb dL_asked_438 rfl (lv_at hl 0 rfl) ?_
  refine lv_aload_n hx hb dL_asked_439 rfl (lv_at hl 2 rfl) ?_
  refine lv_iconst (v := 0) hx hb dL_asked_440 (by decide) ?_
  refine va_iald (D := D) (cl := vwCl) hx hb hK hP 2 1 rfl rfl (vp_in_nI (n := 0) (N := 1) (by decide) (by decide)) dL_asked_441 ?_
  refine W.eq (g2 := F0 m 442 ls [.int 0, .ref xo]) rfl ?_
  have hFc := va_free (wc := [(xo, .inr (6, [.ref xg, .int gc, .ref xp, .int pc, .ref xq, .int qc, .ref r1, .ref r2, .ref r3, .ref r4, .ref se, .int ts, .int hou, .int dr, .int su, .int br])), (xq, .inl (cq, 16, .inr (.inr (.inr (.inr (zq [none, none, none, none, none, none, none, none, none, none, none, none, none, none, none, none]))))))]) hD hS hA [0, 1] rfl
  refine vx_calli (vx_runV (As := [.int 0]) (rest := []) ⟨hx, hb, hml, hown, hts⟩ (zc_X6_sell_no l hnt D G xo xg gc xp pc xq qc r1 r2 r3 r4 se ts hou dr su br cq s.heap.size) (cwV 1 hts gzL_asked_sell_no_X6_sell_no_155 rfl rfl rfl (by decide +kernel) ⟨(Nat.le_of_ble_eq_true rfl), (Nat.le_of_ble_eq_true rfl)⟩) ⟨p_RW_blind, va_recv hK hP (ci := 6) (q0 := 0) rfl rfl, (p_RW_at (tc := [(cq, .object "Gatherhouse$Piece")]) (wc := [(xo, .inr (6, [.ref xg, .int gc, .ref xp, .int pc, .ref xq, .int qc, .ref r1, .ref r2, .ref r3, .ref r4, .ref se, .int ts, .int hou, .int dr, .int su, .int br])), (xq, .inl (cq, 16, .inr (.inr (.inr (.inr (zq [none, none, none, none, none, none, none, none, none, none, none, none, none, none, none, none]))))))]) hP hK hD hS hA hT hZ [0, 1] [0] rfl rfl (by decide) rfl [.ref xo, .int 0])⟩ rfl rfl hl.1 rfl (lv_room (Nat.le_of_ble_eq_true rfl)) dL_asked_442 ⟨(Nat.le_of_ble_eq_true rfl), (Nat.le_of_ble_eq_true rfl)⟩) hS (fun q _ h => hFc q h) hFc (fun q _ h => hFc q h) (fun E ce q9 u t H locs ht hvm hpx hBX hz1 hk1 hS hce hcv hcl => ?_) (fun r_1293 u t H locs ht hvm w_1294 hB hz1 hk1 hS => ?_)
  · obtain ⟨hBX, hB⟩ := hBX
    obtain ⟨hP, hD, hK⟩ := q_join (D := D) (wc := [(xo, .inr (6, [.ref xg, .int gc, .ref xp, .int pc, .ref xq, .int qc, .ref r1, .ref r2, .ref r3, .ref r4, .ref se, .int ts, .int hou, .int dr, .int su, .int br])), (xq, .inl (cq, 16, .inr (.inr (.inr (.inr (zq [none, none, none, none, none, none, none, none, none, none, none, none, none, none, none, none]))))))]) (wr := [(va, .inl (ci, 1, .inl (zi [0])))]) (w1 := [(xo, .inr (6, [.ref xg, .int gc, .ref xp, .int pc, .ref xq, .int qc, .ref r1, .ref r2, .ref r3, .ref r4, .ref se, .int ts, .int hou, .int dr, .int su, .int br])), (xq, .inl (cq, 16, .inr (.inr (.inr (.inr (zq [none, none, none, none, none, none, none, none, none, none, none, none, none, none, none, none]))))))]) (tyr := [(ci, .int)]) (ty1 := [(cq, .object "Gatherhouse$Piece")]) hP hD hK [0, 1] [2] [1] rfl rfl (by decide) (by decide) rfl hFc hk1 ht hvm hB
    have hP : va_P D vwCl [(va, .inl (ci, 1, .inl (zi [0]))), (xo, .inr (6, [.ref xg, .int gc, .ref xp, .int pc, .ref xq, .int qc, .ref r1, .ref r2, .ref r3, .ref r4, .ref se, .int ts, .int hou, .int dr, .int su, .int br])), (xq, .inl (cq, 16, .inr (.inr (.inr (.inr (zq [none, none, none, none, none, none, none, none, none, none, none, none, none, none, none, none]))))))] H := hP
    have hD : va_D A [(va, .inl (ci, 1, .inl (zi [0]))), (xo, .inr (6, [.ref xg, .int gc, .ref xp, .int pc, .ref xq, .int qc, .ref r1, .ref r2, .ref r3, .ref r4, .ref se, .int ts, .int hou, .int dr, .int su, .int br])), (xq, .inl (cq, 16, .inr (.inr (.inr (.inr (zq [none, none, none, none, none, none, none, none, none, none, none, none, none, none, none, none]))))))] := hD
    have hK : va_K D vwCl [(ci, .int), (cq, .object "Gatherhouse$Piece")] s := hK
    have hBX : (E = "java/lang/IndexOutOfBoundsException") := hBX
    rcases hBX with rfl
    exact vx_out (fun x h => (hxt x h).elim) hlocks hce hcv hcl (fun t ht hW9 => ⟨(), trivial, ⟨rfl, q_RW_mk hP hK hD [1, 2] [1, 0] rfl rfl (by decide) rfl ht hW9⟩, hS.F ht⟩) hS.2.2 (Nat.le_of_ble_eq_true rfl) (Nat.le_of_ble_eq_true rfl)
  · exact w_1294.elim
def wzEL_ask_sell_no : List Cond := [.codeWith yL_ask cL_ask 4 (some .int) ttL_ask, .methodLink RL 73 yL_asked, .static yL_asked, .initialized RL, .code yL_asked cL_asked 3 (some .int), .methodLink RL 155 yX6_sell, .instanceMethod yX6_sell, .selects RX6 yX6_sell yX6_sell, .initialized RX6, .code yX6_sell cX6_sell 4 (some .int), .methodLink RX6 169 yX6_findPiece, .instanceMethod yX6_findPiece, .selects RX6 yX6_findPiece yX6_findPiece, .code yX6_findPiece cX6_findPiece 3 (some (.object "Gatherhouse$Piece")), .fieldLink RX6 30 "Gatherhouse" "pieces" "[LGatherhouse$Piece;", .classLink RX6 365 "java/lang/IndexOutOfBoundsException", .initialized "java/lang/IndexOutOfBoundsException", .classLink RL 79 "java/lang/IndexOutOfBoundsException", .constant RL 81 (-2000000001)]
def wzL_ask_sell_no : List Cond := wzEL_ask_sell_no ++ (u_ws RX6 TX6 16 ++ ((vx_atS RX6 369 "java/lang/IndexOutOfBoundsException" ["java/lang/RuntimeException", "java/lang/Exception"]).filter goodWord))
theorem zgEL_ask_sell_no : wzEL_ask_sell_no.all goodWord = true := by decide +kernel
theorem zuL_ask_sell_no_X6 : ∀ w ∈ u_ws RX6 TX6 16, w ∈ wzL_ask_sell_no := (fun _ h => (List.mem_append_right _ (List.mem_append_left _ h)))
theorem ztL_ask_sell_no_X6_369 : ∀ w ∈ (vx_atS RX6 369 "java/lang/IndexOutOfBoundsException" ["java/lang/RuntimeException", "java/lang/Exception"]).filter goodWord, w ∈ wzL_ask_sell_no := (fun _ h => (List.mem_append_right _ (List.mem_append_right _ h)))
theorem gzL_ask_sell_no_L_asked_sell_no_73 : GoodIn wzL_ask_sell_no (va_wsS RL 73 yL_asked wzL_asked_sell_no) := (goodIn_app (z_lift (goodIn_r _ [1, 2, 3] rfl (by decide +kernel))) (goodIn_app (z_lift (goodIn_r wzEL_asked_sell_no [4, 5, 6, 7, 8, 9, 10, 11, 12, 13, 14, 15, 16] rfl zgEL_asked_sell_no)) (goodIn_app (goodIn_sub (fun _ h => (List.mem_append_right _ (List.mem_append_left _ h))) zgU_X6) (goodIn_sub (fun _ h => (List.mem_append_right _ (List.mem_append_right _ h))) zgV_X6_369))))
set_option maxHeartbeats 4000000 in
set_option maxRecDepth 100000 in
theorem zc_L_ask_sell_no (l : Launch) (hnt : l.stackTraces = false) (D : va_G) (G : Nat × Nat × (Nat → Int32)) (xo : Nat) (va : Nat) (xg : Nat) (gc : Int32) (xp : Nat) (pc : Int32) (xq : Nat) (qc : Int32) (r1 : Nat) (r2 : Nat) (r3 : Nat) (r4 : Nat) (se : Nat) (ts : Int32) (hou : Int32) (dr : Int32) (su : Int32) (br : Int32) (cq : ClassId) (ci : ClassId) (sz : Nat) : vx_Met l yL_ask wzL_ask_sell_no ({ frames := 9, cells := 1, slots := 6, locals := 149 }) (va_Pc [.ref xo, .int 86, .ref va] (p_RW D G [(cq, .object "Gatherhouse$Piece"), (ci, .int)] [(xo, .inr (6, [.ref xg, .int gc, .ref xp, .int pc, .ref xq, .int qc, .ref r1, .ref r2, .ref r3, .ref r4, .ref se, .int ts, .int hou, .int dr, .int su, .int br])), (xq, .inl (cq, 16, .inr (.inr (.inr (.inr (zq [none, none, none, none, none, none, none, none, none, none, none, none, none, none, none, none])))))), (va, .inl (ci, 1, .inl (zi [0])))] sz)) (va_Qi (fun (r : Int32) (u : Unit) => r = (-2000000001)) (fun (u : Unit) (t : State) => q_RW D [(cq, .object "Gatherhouse$Piece")] [(xo, .inr (6, [.ref xg, .int gc, .ref xp, .int pc, .ref xq, .int qc, .ref r1, .ref r2, .ref r3, .ref r4, .ref se, .int ts, .int hou, .int dr, .int su, .int br])), (xq, .inl (cq, 16, .inr (.inr (.inr (.inr (zq [none, none, none, none, none, none, none, none, none, none, none, none, none, none, none, none]))))))] (va_A [(xo, .inr (6, [.ref xg, .int gc, .ref xp, .int pc, .ref xq, .int qc, .ref r1, .ref r2, .ref r3, .ref r4, .ref se, .int ts, .int hou, .int dr, .int su, .int br])), (xq, .inl (cq, 16, .inr (.inr (.inr (.inr (zq [none, none, none, none, none, none, none, none, none, none, none, none, none, none, none, none])))))), (va, .inl (ci, 1, .inl (zi [0])))] sz) t) (va_A [(xo, .inr (6, [.ref xg, .int gc, .ref xp, .int pc, .ref xq, .int qc, .ref r1, .ref r2, .ref r3, .ref r4, .ref se, .int ts, .int hou, .int dr, .int su, .int br])), (xq, .inl (cq, 16, .inr (.inr (.inr (.inr (zq [none, none, none, none, none, none, none, none, none, none, none, none, none, none, none, none])))))), (va, .inl (ci, 1, .inl (zi [0])))] sz)) (vx_X (fun (_ : Unit) => True) (fun E (_ : Unit) (_ : State) => False) (va_A [(xo, .inr (6, [.ref xg, .int gc, .ref xp, .int pc, .ref xq, .int qc, .ref r1, .ref r2, .ref r3, .ref r4, .ref se, .int ts, .int hou, .int dr, .int su, .int br])), (xq, .inl (cq, 16, .inr (.inr (.inr (.inr (zq [none, none, none, none, none, none, none, none, none, none, none, none, none, none, none, none])))))), (va, .inl (ci, 1, .inl (zi [0])))] sz)) 1 6 (va_A [(xo, .inr (6, [.ref xg, .int gc, .ref xp, .int pc, .ref xq, .int qc, .ref r1, .ref r2, .ref r3, .ref r4, .ref se, .int ts, .int hou, .int dr, .int su, .int br])), (xq, .inl (cq, 16, .inr (.inr (.inr (.inr (zq [none, none, none, none, none, none, none, none, none, none, none, none, none, none, none, none])))))), (va, .inl (ci, 1, .inl (zi [0])))] sz) := by
  refine vx_ofWH (cc := cL_ask) (maxL := 4) (ret := (some .int)) (by decide) rfl ?_
  intro p e s m args below meth c s₁ B hml hv
  obtain ⟨rfl, hsz, hP, hK, hD0, hT, hZ⟩ := hv
  have hx := B.exec
  have hb := B.bytes
  have hr := B.returns
  have hts := atoms_spec (ws := wzL_ask_sell_no) B.pre
  have hown : s.vm.findClass RL = some m.cls := findClass_of_methodNamed B.named
  have hlocks := B.notSynchronized
  have hxe := vx_table (x := yL_ask) B (hts _ List.mem_cons_self)
  subst hsz
  have hD := hD0.self (sz := s.heap.size)
  generalize hAe : va_A [(xo, .inr (6, [.ref xg, .int gc, .ref xp, .int pc, .ref xq, .int qc, .ref r1, .ref r2, .ref r3, .ref r4, .ref se, .int ts, .int hou, .int dr, .int su, .int br])), (xq, .inl (cq, 16, .inr (.inr (.inr (.inr (zq [none, none, none, none, none, none, none, none, none, none, none, none, none, none, none, none])))))), (va, .inl (ci, 1, .inl (zi [0])))] s.heap.size = A at hD hZ ⊢
  have hA : ∀ q : Nat, s.heap.size ≤ q → A q := fun q h => by rw [← hAe]; exact Or.inr h
  have hS : va_S A s.heap s.heap [] := va_S.rf
  have hl := lv_entry ([.ref xo, .int 86, .ref va]) (n := 4) (Nat.le_of_ble_eq_true rfl)
  rw [lg_entry_eq]
  generalize (lg_sl ([.ref xo, .int 86, .ref va]) ++ List.replicate (4 - (lg_sl ([.ref xo, .int 86, .ref va])).length) Slot.unset).toArray = ls at hl ⊢
  have hl : lv_has ls 4 [(0, .ref xo), (1, .int 86), (2, .ref va)] := hl
  refine lv_iload_n hx hb dL_ask_0 rfl (lv_at hl 1 rfl) ?_
  refine lv_tableIn (off := 460) (tgt := 461) hx hb dL_ask_1 (by decide +kernel) (by decide +kernel) (by decide +kernel) (by decide) ?_
  refine lv_aload_n hx hb dL_ask_461 rfl (lv_at hl 0 rfl) ?_
  refine lv_iload_n hx hb dL_ask_462 rfl (lv_at hl 1 rfl) ?_
  refine lv_aload_n hx hb dL_ask_463 rfl (lv_at hl 2 rfl) ?_
  have hFc := va_free (wc := [(xo, .inr (6, [.ref xg, .int gc, .ref xp, .int pc, .ref xq, .int qc, .ref r1, .ref r2, .ref r3, .ref r4, .ref se, .int ts, .int hou, .int dr, .int su, .int br])), (xq, .inl (cq, 16, .inr (.inr (.inr (.inr (zq [none, none, none, none, none, none, none, none, none, none, none, none, none, none, none, none])))))), (va, .inl (ci, 1, .inl (zi [0])))]) hD hS hA [0, 1, 2] rfl
  refine vx_calli (vx_runS (As := [.ref xo, .int 86, .ref va]) (rest := []) ⟨hx, hb, hml, hown, hts⟩ (zc_L_asked_sell_no l hnt D G xo va xg gc xp pc xq qc r1 r2 r3 r4 se ts hou dr su br cq ci s.heap.size) (cwS 3 hts gzL_ask_sell_no_L_asked_sell_no_73 rfl rfl rfl (by decide +kernel) ⟨(Nat.le_of_ble_eq_true rfl), (Nat.le_of_ble_eq_true rfl)⟩) ⟨p_RW_blind, (p_RW_at (tc := [(cq, .object "Gatherhouse$Piece"), (ci, .int)]) (wc := [(xo, .inr (6, [.ref xg, .int gc, .ref xp, .int pc, .ref xq, .int qc, .ref r1, .ref r2, .ref r3, .ref r4, .ref se, .int ts, .int hou, .int dr, .int su, .int br])), (xq, .inl (cq, 16, .inr (.inr (.inr (.inr (zq [none, none, none, none, none, none, none, none, none, none, none, none, none, none, none, none])))))), (va, .inl (ci, 1, .inl (zi [0])))]) hP hK hD hS hA hT hZ [0, 1, 2] [0, 1] rfl rfl (by decide) rfl [.ref xo, .int 86, .ref va])⟩ rfl rfl hl.1 rfl (lv_room (Nat.le_of_ble_eq_true rfl)) dL_ask_464 ⟨(Nat.le_of_ble_eq_true rfl), (Nat.le_of_ble_eq_true rfl)⟩) hS (fun q _ h => hFc q h) hFc (fun q _ h => hFc q h) (fun E ce q9 u t H locs ht hvm hpx hBX hz1 hk1 hS hce hcv hcl => ?_) (fun r_1295 u t H locs ht hvm w_1296 hB hz1 hk1 hS => ?_)
  · obtain ⟨hBX, hB⟩ := hBX
    obtain ⟨hP, hD, hK⟩ := q_join (D := D) (wc := [(xo, .inr (6, [.ref xg, .int gc, .ref xp, .int pc, .ref xq, .int qc, .ref r1, .ref r2, .ref r3, .ref r4, .ref se, .int ts, .int hou, .int dr, .int su, .int br])), (xq, .inl (cq, 16, .inr (.inr (.inr (.inr (zq [none, none, none, none, none, none, none, none, none, none, none, none, none, none, none, none])))))), (va, .inl (ci, 1, .inl (zi [0])))]) (wr := []) (w1 := [(xo, .inr (6, [.ref xg, .int gc, .ref xp, .int pc, .ref xq, .int qc, .ref r1, .ref r2, .ref r3, .ref r4, .ref se, .int ts, .int hou, .int dr, .int su, .int br])), (xq, .inl (cq, 16, .inr (.inr (.inr (.inr (zq [none, none, none, none, none, none, none, none, none, none, none, none, none, none, none, none]))))))]) (tyr := []) (ty1 := [(cq, .object "Gatherhouse$Piece"), (ci, .int)]) hP hD hK [0, 1, 2] [] [] rfl rfl (by decide) (by decide) rfl hFc hk1 ht hvm hB
    have hP : va_P D vwCl [(xo, .inr (6, [.ref xg, .int gc, .ref xp, .int pc, .ref xq, .int qc, .ref r1, .ref r2, .ref r3, .ref r4, .ref se, .int ts, .int hou, .int dr, .int su, .int br])), (xq, .inl (cq, 16, .inr (.inr (.inr (.inr (zq [none, none, none, none, none, none, none, none, none, none, none, none, none, none, none, none]))))))] H := hP
    have hD : va_D A [(xo, .inr (6, [.ref xg, .int gc, .ref xp, .int pc, .ref xq, .int qc, .ref r1, .ref r2, .ref r3, .ref r4, .ref se, .int ts, .int hou, .int dr, .int su, .int br])), (xq, .inl (cq, 16, .inr (.inr (.inr (.inr (zq [none, none, none, none, none, none, none, none, none, none, none, none, none, none, none, none]))))))] := hD
    have hK : va_K D vwCl [(cq, .object "Gatherhouse$Piece"), (ci, .int)] s := hK
    have hBX : (E = "java/lang/IndexOutOfBoundsException") := hBX
    rcases hBX with rfl
    refine z_catch (own := RL) (name := "java/lang/IndexOutOfBoundsException") (hh := ttL_ask) (x := ⟨461, 467, 468, 79⟩) hown hxe 19 rfl [] (by decide +kernel) (fun _ h => absurd h List.not_mem_nil) (by decide) (by decide) (hts (.classLink RL 79 "java/lang/IndexOutOfBoundsException") (by decide +kernel)) (va_Nw.use rfl (hT.2.2.1 ("java/lang/IndexOutOfBoundsException", "java/lang/IndexOutOfBoundsException") (by decide +kernel))) hce hcv hcl ?_
    refine W.eq (g2 := F0 m 468 ls [.ref q9]) rfl ?_
    refine lv_astore_n (lv' := [(3, .ref q9), (0, .ref xo), (1, .int 86), (2, .ref va)]) hx hb dL_ask_468 rfl hl (by decide) rfl (fun ls hl => ?_)
    refine lv_ldc (v := (-2000000001)) hx hb hown (hts (.constant RL 81 (-2000000001)) (by decide +kernel)) dL_ask_469 ?_
    refine vx_ret ?_
    exact W.iret (v := (-2000000001)) hx hb hr (fun t ht hW => ⟨⟨(-2000000001), (), rfl, rfl, q_RW_mk hP hK hD [0, 1] [0] rfl rfl (by decide) rfl ht hW.alike⟩, hS.F ht⟩) hS.2.2 dL_ask_471
  · exact w_1296.elim
theorem dL_ask_319 : decode cL_ask 319 = .ok (.aload_n 0, 1) := by decide +kernel
theorem dL_ask_320 : decode cL_ask 320 = .ok (.aload_n 2, 1) := by decide +kernel
theorem dL_ask_321 : decode cL_ask 321 = .ok (.iconst 0, 1) := by decide +kernel
theorem dL_ask_322 : decode cL_ask 322 = .ok (.iaload, 1) := by decide +kernel
theorem dL_ask_323 : decode cL_ask 323 = .ok (.invokevirtual 32, 3) := by decide +kernel
def wzEL_ask_hours_b : List Cond := [.codeWith yL_ask cL_ask 4 (some .int) ttL_ask, .methodLink RL 32 yX6_hours, .instanceMethod yX6_hours, .selects RX6 yX6_hours yX6_hours, .initialized RX6, .code yX6_hours cX6_hours 4 (some .int), .methodLink RX6 75 yX6_checkRange, .static yX6_checkRange, .code yX6_checkRange cX6_checkRange 3 none, .classLink RX6 118 "java/lang/IllegalArgumentException", .initialized "java/lang/IllegalArgumentException", .classLink RL 79 "java/lang/IndexOutOfBoundsException", .classLink RL 82 "java/lang/IllegalArgumentException", .constant RL 84 (-2000000002)]
def wzL_ask_hours_b : List Cond := wzEL_ask_hours_b ++ ((vx_atS RX6 122 "java/lang/IllegalArgumentException" ["java/lang/RuntimeException", "java/lang/Exception"]).filter goodWord)
theorem zgEL_ask_hours_b : wzEL_ask_hours_b.all goodWord = true := by decide +kernel
theorem ztL_ask_hours_b_X6_122 : ∀ w ∈ (vx_atS RX6 122 "java/lang/IllegalArgumentException" ["java/lang/RuntimeException", "java/lang/Exception"]).filter goodWord, w ∈ wzL_ask_hours_b := (fun _ h => (List.mem_append_right _ h))
theorem gzL_ask_hours_b_X6_hours_b_32 : GoodIn wzL_ask_hours_b (wsV RL 32 RX6 yX6_hours wzX6_hours_b) := (goodIn_app (z_lift (goodIn_r _ [1, 2, 3, 4] rfl (by decide +kernel))) (goodIn_app (z_lift (goodIn_r wzEX6_hours_b [5, 6, 7, 4, 8, 9, 10] rfl zgEX6_hours_b)) (goodIn_sub (fun _ h => (List.mem_append_right _ h)) zgV_X6_122)))
set_option maxHeartbeats 4000000 in
set_option maxRecDepth 100000 in
theorem zc_L_ask_hours_b (l : Launch) (hnt : l.stackTraces = false) (D : va_G) (G : Nat × Nat × (Nat → Int32)) (xo : Nat) (va : Nat) (xg : Nat) (gc : Int32) (xp : Nat) (pc : Int32) (xq : Nat) (qc : Int32) (r1 : Nat) (r2 : Nat) (r3 : Nat) (r4 : Nat) (se : Nat) (ts : Int32) (hou : Int32) (dr : Int32) (su : Int32) (br : Int32) (ci : ClassId) (sz : Nat) : vx_Met l yL_ask wzL_ask_hours_b ({ frames := 8, cells := 1, slots := 6, locals := 127 }) (va_Pc [.ref xo, .int 104, .ref va] (p_RW D G [(ci, .int)] [(xo, .inr (6, [.ref xg, .int gc, .ref xp, .int pc, .ref xq, .int qc, .ref r1, .ref r2, .ref r3, .ref r4, .ref se, .int ts, .int hou, .int dr, .int su, .int br])), (va, .inl (ci, 1, .inl (zi [241])))] sz)) (va_Qi (fun (r : Int32) (u : Unit) => r = (-2000000002)) (fun (u : Unit) (t : State) => q_RW D [] [(xo, .inr (6, [.ref xg, .int gc, .ref xp, .int pc, .ref xq, .int qc, .ref r1, .ref r2, .ref r3, .ref r4, .ref se, .int ts, .int hou, .int dr, .int su, .int br]))] (va_A [(xo, .inr (6, [.ref xg, .int gc, .ref xp, .int pc, .ref xq, .int qc, .ref r1, .ref r2, .ref r3, .ref r4, .ref se, .int ts, .int hou, .int dr, .int su, .int br])), (va, .inl (ci, 1, .inl (zi [241])))] sz) t) (va_A [(xo, .inr (6, [.ref xg, .int gc, .ref xp, .int pc, .ref xq, .int qc, .ref r1, .ref r2, .ref r3, .ref r4, .ref se, .int ts, .int hou, .int dr, .int su, .int br])), (va, .inl (ci, 1, .inl (zi [241])))] sz)) (vx_X (fun (_ : Unit) => True) (fun E (_ : Unit) (_ : State) => False) (va_A [(xo, .inr (6, [.ref xg, .int gc, .ref xp, .int pc, .ref xq, .int qc, .ref r1, .ref r2, .ref r3, .ref r4, .ref se, .int ts, .int hou, .int dr, .int su, .int br])), (va, .inl (ci, 1, .inl (zi [241])))] sz)) 1 6 (va_A [(xo, .inr (6, [.ref xg, .int gc, .ref xp, .int pc, .ref xq, .int qc, .ref r1, .ref r2, .ref r3, .ref r4, .ref se, .int ts, .int hou, .int dr, .int su, .int br])), (va, .inl (ci, 1, .inl (zi [241])))] sz) := by
  refine vx_ofWH (cc := cL_ask) (maxL := 4) (ret := (some .int)) (by decide) rfl ?_
  intro p e s m args below meth c s₁ B hml hv
  obtain ⟨rfl, hsz, hP, hK, hD0, hT, hZ⟩ := hv
  have hx := B.exec
  have hb := B.bytes
  have hr := B.returns
  have hts := atoms_spec (ws := wzL_ask_hours_b) B.pre
  have hown : s.vm.findClass RL = some m.cls := findClass_of_methodNamed B.named
  have hlocks := B.notSynchronized
  have hxe := vx_table (x := yL_ask) B (hts _ List.mem_cons_self)
  subst hsz
  have hD := hD0.self (sz := s.heap.size)
  generalize hAe : va_A [(xo, .inr (6, [.ref xg, .int gc, .ref xp, .int pc, .ref xq, .int qc, .ref r1, .ref r2, .ref r3, .ref r4, .ref se, .int ts, .int hou, .int dr, .int su, .int br])), (va, .inl (ci, 1, .inl (zi [241])))] s.heap.size = A at hD hZ ⊢
  have hA : ∀ q : Nat, s.heap.size ≤ q → A q := fun q h => by rw [← hAe]; exact Or.inr h
  have hS : va_S A s.heap s.heap [] := va_S.rf
  have hl := lv_entry ([.ref xo, .int 104, .ref va]) (n := 4) (Nat.le_of_ble_eq_true rfl)
  rw [lg_entry_eq]
  generalize (lg_sl ([.ref xo, .int 104, .ref va]) ++ List.replicate (4 - (lg_sl ([.ref xo, .int 104, .ref va])).length) Slot.unset).toArray = ls at hl ⊢
  have hl : lv_has ls 4 [(0, .ref xo), (1, .int 104), (2, .ref va)] := hl
  refine lv_iload_n hx hb dL_ask_0 rfl (lv_at hl 1 rfl) ?_
  refine lv_tableIn (off := 318) (tgt := 319) hx hb dL_ask_1 (by decide +kernel) (by decide +kernel) (by decide +kernel) (by decide) ?_
  refine lv_aload_n hx hb dL_ask_319 rfl (lv_at hl 0 rfl) ?_
  refine lv_aload_n hx hb dL_ask_320 rfl (lv_at hl 2 rfl) ?_
  refine lv_iconst (v := 0) hx hb dL_ask_321 (by decide) ?_
  refine va_iald (D := D) (cl := vwCl) hx hb hK hP 1 0 rfl rfl (vp_in_nI (n := 0) (N := 1) (by decide) (by decide)) dL_ask_322 ?_
  refine W.eq (g2 := F0 m 323 ls [.int 241, .ref xo]) rfl ?_
  have hFc := va_free (wc := [(xo, .inr (6, [.ref xg, .int gc, .ref xp, .int pc, .ref xq, .int qc, .ref r1, .ref r2, .ref r3, .ref r4, .ref se, .int ts, .int hou, .int dr, .int su, .int br]))]) hD hS hA [0] rfl
  refine vx_calli (vx_runV (As := [.int 241]) (rest := []) ⟨hx, hb, hml, hown, hts⟩ (zc_X6_hours_b l hnt D G xo xg gc xp pc xq qc r1 r2 r3 r4 se ts hou dr su br s.heap.size) (cwV 1 hts gzL_ask_hours_b_X6_hours_b_32 rfl rfl rfl (by decide +kernel) ⟨(Nat.le_of_ble_eq_true rfl), (Nat.le_of_ble_eq_true rfl)⟩) ⟨p_RW_blind, va_recv hK hP (ci := 6) (q0 := 0) rfl rfl, (p_RW_at (tc := []) (wc := [(xo, .inr (6, [.ref xg, .int gc, .ref xp, .int pc, .ref xq, .int qc, .ref r1, .ref r2, .ref r3, .ref r4, .ref se, .int ts, .int hou, .int dr, .int su, .int br]))]) hP hK hD hS hA hT hZ [0] [] rfl rfl (by decide) rfl [.ref xo, .int 241])⟩ rfl rfl hl.1 rfl (lv_room (Nat.le_of_ble_eq_true rfl)) dL_ask_323 ⟨(Nat.le_of_ble_eq_true rfl), (Nat.le_of_ble_eq_true rfl)⟩) hS (fun q _ h => hFc q h) hFc (fun q _ h => hFc q h) (fun E ce q9 u t H locs ht hvm hpx hBX hz1 hk1 hS hce hcv hcl => ?_) (fun r_1297 u t H locs ht hvm w_1298 hB hz1 hk1 hS => ?_)
  · obtain ⟨hBX, hB⟩ := hBX
    obtain ⟨hP, hD, hK⟩ := q_join (D := D) (wc := [(xo, .inr (6, [.ref xg, .int gc, .ref xp, .int pc, .ref xq, .int qc, .ref r1, .ref r2, .ref r3, .ref r4, .ref se, .int ts, .int hou, .int dr, .int su, .int br]))]) (wr := [(va, .inl (ci, 1, .inl (zi [241])))]) (w1 := [(xo, .inr (6, [.ref xg, .int gc, .ref xp, .int pc, .ref xq, .int qc, .ref r1, .ref r2, .ref r3, .ref r4, .ref se, .int ts, .int hou, .int dr, .int su, .int br]))]) (tyr := [(ci, .int)]) (ty1 := []) hP hD hK [0] [1] [0] rfl rfl (by decide) (by decide) rfl hFc hk1 ht hvm hB
    have hP : va_P D vwCl [(va, .inl (ci, 1, .inl (zi [241]))), (xo, .inr (6, [.ref xg, .int gc, .ref xp, .int pc, .ref xq, .int qc, .ref r1, .ref r2, .ref r3, .ref r4, .ref se, .int ts, .int hou, .int dr, .int su, .int br]))] H := hP
    have hD : va_D A [(va, .inl (ci, 1, .inl (zi [241]))), (xo, .inr (6, [.ref xg, .int gc, .ref xp, .int pc, .ref xq, .int qc, .ref r1, .ref r2, .ref r3, .ref r4, .ref se, .int ts, .int hou, .int dr, .int su, .int br]))] := hD
    have hK : va_K D vwCl [(ci, .int)] s := hK
    have hBX : (E = "java/lang/IllegalArgumentException") := hBX
    rcases hBX with rfl
    refine z_catch (own := RL) (name := "java/lang/IllegalArgumentException") (hh := ttL_ask) (x := ⟨319, 326, 472, 82⟩) hown hxe 26 rfl [(79, "java/lang/IndexOutOfBoundsException")] (by decide +kernel) (List.forall_mem_cons.mpr ⟨⟨by decide, (hts (.classLink RL 79 "java/lang/IndexOutOfBoundsException") (by decide +kernel)), hT.2.2.2.1 ("java/lang/IllegalArgumentException", "java/lang/IndexOutOfBoundsException") (by decide +kernel)⟩, (fun _ h => absurd h List.not_mem_nil)⟩) (by decide) (by decide) (hts (.classLink RL 82 "java/lang/IllegalArgumentException") (by decide +kernel)) (va_Nw.use rfl (hT.2.2.1 ("java/lang/IllegalArgumentException", "java/lang/IllegalArgumentException") (by decide +kernel))) hce hcv hcl ?_
    refine W.eq (g2 := F0 m 472 ls [.ref q9]) rfl ?_
    refine lv_astore_n (lv' := [(3, .ref q9), (0, .ref xo), (1, .int 104), (2, .ref va)]) hx hb dL_ask_472 rfl hl (by decide) rfl (fun ls hl => ?_)
    refine lv_ldc (v := (-2000000002)) hx hb hown (hts (.constant RL 84 (-2000000002)) (by decide +kernel)) dL_ask_473 ?_
    refine vx_ret ?_
    exact W.iret (v := (-2000000002)) hx hb hr (fun t ht hW => ⟨⟨(-2000000002), (), rfl, rfl, q_RW_mk hP hK hD [1] [] rfl rfl (by decide) rfl ht hW.alike⟩, hS.F ht⟩) hS.2.2 dL_ask_475
  · exact w_1298.elim
theorem dL_ask_327 : decode cL_ask 327 = .ok (.aload_n 0, 1) := by decide +kernel
theorem dL_ask_328 : decode cL_ask 328 = .ok (.aload_n 2, 1) := by decide +kernel
theorem dL_ask_329 : decode cL_ask 329 = .ok (.iconst 0, 1) := by decide +kernel
theorem dL_ask_330 : decode cL_ask 330 = .ok (.iaload, 1) := by decide +kernel
theorem dL_ask_331 : decode cL_ask 331 = .ok (.invokevirtual 35, 3) := by decide +kernel
def wzEL_ask_pass_b : List Cond := [.codeWith yL_ask cL_ask 4 (some .int) ttL_ask, .methodLink RL 35 yX6_pass, .instanceMethod yX6_pass, .selects RX6 yX6_pass yX6_pass, .initialized RX6, .code yX6_pass cX6_pass 4 (some .int), .methodLink RX6 75 yX6_checkRange, .static yX6_checkRange, .code yX6_checkRange cX6_checkRange 3 none, .classLink RX6 118 "java/lang/IllegalArgumentException", .initialized "java/lang/IllegalArgumentException", .classLink RL 79 "java/lang/IndexOutOfBoundsException", .classLink RL 82 "java/lang/IllegalArgumentException", .constant RL 84 (-2000000002)]
def wzL_ask_pass_b : List Cond := wzEL_ask_pass_b ++ ((vx_atS RX6 122 "java/lang/IllegalArgumentException" ["java/lang/RuntimeException", "java/lang/Exception"]).filter goodWord)
theorem zgEL_ask_pass_b : wzEL_ask_pass_b.all goodWord = true := by decide +kernel
theorem ztL_ask_pass_b_X6_122 : ∀ w ∈ (vx_atS RX6 122 "java/lang/IllegalArgumentException" ["java/lang/RuntimeException", "java/lang/Exception"]).filter goodWord, w ∈ wzL_ask_pass_b := (fun _ h => (List.mem_append_right _ h))
theorem gzL_ask_pass_b_X6_pass_b_35 : GoodIn wzL_ask_pass_b (wsV RL 35 RX6 yX6_pass wzX6_pass_b) := (goodIn_app (z_lift (goodIn_r _ [1, 2, 3, 4] rfl (by decide +kernel))) (goodIn_app (z_lift (goodIn_r wzEX6_pass_b [5, 6, 7, 4, 8, 9, 10] rfl zgEX6_pass_b)) (goodIn_sub (fun _ h => (List.mem_append_right _ h)) zgV_X6_122)))
set_option maxHeartbeats 4000000 in
set_option maxRecDepth 100000 in
theorem zc_L_ask_pass_b (l : Launch) (hnt : l.stackTraces = false) (D : va_G) (G : Nat × Nat × (Nat → Int32)) (xo : Nat) (va : Nat) (xg : Nat) (gc : Int32) (xp : Nat) (pc : Int32) (xq : Nat) (qc : Int32) (r1 : Nat) (r2 : Nat) (r3 : Nat) (r4 : Nat) (se : Nat) (ts : Int32) (hou : Int32) (dr : Int32) (su : Int32) (br : Int32) (ci : ClassId) (sz : Nat) : vx_Met l yL_ask wzL_ask_pass_b ({ frames := 8, cells := 1, slots := 6, locals := 127 }) (va_Pc [.ref xo, .int 112, .ref va] (p_RW D G [(ci, .int)] [(xo, .inr (6, [.ref xg, .int gc, .ref xp, .int pc, .ref xq, .int qc, .ref r1, .ref r2, .ref r3, .ref r4, .ref se, .int ts, .int hou, .int dr, .int su, .int br])), (va, .inl (ci, 1, .inl (zi [601])))] sz)) (va_Qi (fun (r : Int32) (u : Unit) => r = (-2000000002)) (fun (u : Unit) (t : State) => q_RW D [] [(xo, .inr (6, [.ref xg, .int gc, .ref xp, .int pc, .ref xq, .int qc, .ref r1, .ref r2, .ref r3, .ref r4, .ref se, .int ts, .int hou, .int dr, .int su, .int br]))] (va_A [(xo, .inr (6, [.ref xg, .int gc, .ref xp, .int pc, .ref xq, .int qc, .ref r1, .ref r2, .ref r3, .ref r4, .ref se, .int ts, .int hou, .int dr, .int su, .int br])), (va, .inl (ci, 1, .inl (zi [601])))] sz) t) (va_A [(xo, .inr (6, [.ref xg, .int gc, .ref xp, .int pc, .ref xq, .int qc, .ref r1, .ref r2, .ref r3, .ref r4, .ref se, .int ts, .int hou, .int dr, .int su, .int br])), (va, .inl (ci, 1, .inl (zi [601])))] sz)) (vx_X (fun (_ : Unit) => True) (fun E (_ : Unit) (_ : State) => False) (va_A [(xo, .inr (6, [.ref xg, .int gc, .ref xp, .int pc, .ref xq, .int qc, .ref r1, .ref r2, .ref r3, .ref r4, .ref se, .int ts, .int hou, .int dr, .int su, .int br])), (va, .inl (ci, 1, .inl (zi [601])))] sz)) 1 6 (va_A [(xo, .inr (6, [.ref xg, .int gc, .ref xp, .int pc, .ref xq, .int qc, .ref r1, .ref r2, .ref r3, .ref r4, .ref se, .int ts, .int hou, .int dr, .int su, .int br])), (va, .inl (ci, 1, .inl (zi [601])))] sz) := by
  refine vx_ofWH (cc := cL_ask) (maxL := 4) (ret := (some .int)) (by decide) rfl ?_
  intro p e s m args below meth c s₁ B hml hv
  obtain ⟨rfl, hsz, hP, hK, hD0, hT, hZ⟩ := hv
  have hx := B.exec
  have hb := B.bytes
  have hr := B.returns
  have hts := atoms_spec (ws := wzL_ask_pass_b) B.pre
  have hown : s.vm.findClass RL = some m.cls := findClass_of_methodNamed B.named
  have hlocks := B.notSynchronized
  have hxe := vx_table (x := yL_ask) B (hts _ List.mem_cons_self)
  subst hsz
  have hD := hD0.self (sz := s.heap.size)
  generalize hAe : va_A [(xo, .inr (6, [.ref xg, .int gc, .ref xp, .int pc, .ref xq, .int qc, .ref r1, .ref r2, .ref r3, .ref r4, .ref se, .int ts, .int hou, .int dr, .int su, .int br])), (va, .inl (ci, 1, .inl (zi [601])))] s.heap.size = A at hD hZ ⊢
  have hA : ∀ q : Nat, s.heap.size ≤ q → A q := fun q h => by rw [← hAe]; exact Or.inr h
  have hS : va_S A s.heap s.heap [] := va_S.rf
  have hl := lv_entry ([.ref xo, .int 112, .ref va]) (n := 4) (Nat.le_of_ble_eq_true rfl)
  rw [lg_entry_eq]
  generalize (lg_sl ([.ref xo, .int 112, .ref va]) ++ List.replicate (4 - (lg_sl ([.ref xo, .int 112, .ref va])).length) Slot.unset).toArray = ls at hl ⊢
  have hl : lv_has ls 4 [(0, .ref xo), (1, .int 112), (2, .ref va)] := hl
  refine lv_iload_n hx hb dL_ask_0 rfl (lv_at hl 1 rfl) ?_
  refine lv_tableIn (off := 326) (tgt := 327) hx hb dL_ask_1 (by decide +kernel) (by decide +kernel) (by decide +kernel) (by decide) ?_
  refine lv_aload_n hx hb dL_ask_327 rfl (lv_at hl 0 rfl) ?_
  refine lv_aload_n hx hb dL_ask_328 rfl (lv_at hl 2 rfl) ?_
  refine lv_iconst (v := 0) hx hb dL_ask_329 (by decide) ?_
  refine va_iald (D := D) (cl := vwCl) hx hb hK hP 1 0 rfl rfl (vp_in_nI (n := 0) (N := 1) (by decide) (by decide)) dL_ask_330 ?_
  refine W.eq (g2 := F0 m 331 ls [.int 601, .ref xo]) rfl ?_
  have hFc := va_free (wc := [(xo, .inr (6, [.ref xg, .int gc, .ref xp, .int pc, .ref xq, .int qc, .ref r1, .ref r2, .ref r3, .ref r4, .ref se, .int ts, .int hou, .int dr, .int su, .int br]))]) hD hS hA [0] rfl
  refine vx_calli (vx_runV (As := [.int 601]) (rest := []) ⟨hx, hb, hml, hown, hts⟩ (zc_X6_pass_b l hnt D G xo xg gc xp pc xq qc r1 r2 r3 r4 se ts hou dr su br s.heap.size) (cwV 1 hts gzL_ask_pass_b_X6_pass_b_35 rfl rfl rfl (by decide +kernel) ⟨(Nat.le_of_ble_eq_true rfl), (Nat.le_of_ble_eq_true rfl)⟩) ⟨p_RW_blind, va_recv hK hP (ci := 6) (q0 := 0) rfl rfl, (p_RW_at (tc := []) (wc := [(xo, .inr (6, [.ref xg, .int gc, .ref xp, .int pc, .ref xq, .int qc, .ref r1, .ref r2, .ref r3, .ref r4, .ref se, .int ts, .int hou, .int dr, .int su, .int br]))]) hP hK hD hS hA hT hZ [0] [] rfl rfl (by decide) rfl [.ref xo, .int 601])⟩ rfl rfl hl.1 rfl (lv_room (Nat.le_of_ble_eq_true rfl)) dL_ask_331 ⟨(Nat.le_of_ble_eq_true rfl), (Nat.le_of_ble_eq_true rfl)⟩) hS (fun q _ h => hFc q h) hFc (fun q _ h => hFc q h) (fun E ce q9 u t H locs ht hvm hpx hBX hz1 hk1 hS hce hcv hcl => ?_) (fun r_1299 u t H locs ht hvm w_1300 hB hz1 hk1 hS => ?_)
  · obtain ⟨hBX, hB⟩ := hBX
    obtain ⟨hP, hD, hK⟩ := q_join (D := D) (wc := [(xo, .inr (6, [.ref xg, .int gc, .ref xp, .int pc, .ref xq, .int qc, .ref r1, .ref r2, .ref r3, .ref r4, .ref se, .int ts, .int hou, .int dr, .int su, .int br]))]) (wr := [(va, .inl (ci, 1, .inl (zi [601])))]) (w1 := [(xo, .inr (6, [.ref xg, .int gc, .ref xp, .int pc, .ref xq, .int qc, .ref r1, .ref r2, .ref r3, .ref r4, .ref se, .int ts, .int hou, .int dr, .int su, .int br]))]) (tyr := [(ci, .int)]) (ty1 := []) hP hD hK [0] [1] [0] rfl rfl (by decide) (by decide) rfl hFc hk1 ht hvm hB
    have hP : va_P D vwCl [(va, .inl (ci, 1, .inl (zi [601]))), (xo, .inr (6, [.ref xg, .int gc, .ref xp, .int pc, .ref xq, .int qc, .ref r1, .ref r2, .ref r3, .ref r4, .ref se, .int ts, .int hou, .int dr, .int su, .int br]))] H := hP
    have hD : va_D A [(va, .inl (ci, 1, .inl (zi [601]))), (xo, .inr (6, [.ref xg, .int gc, .ref xp, .int pc, .ref xq, .int qc, .ref r1, .ref r2, .ref r3, .ref r4, .ref se, .int ts, .int hou, .int dr, .int su, .int br]))] := hD
    have hK : va_K D vwCl [(ci, .int)] s := hK
    have hBX : (E = "java/lang/IllegalArgumentException") := hBX
    rcases hBX with rfl
    refine z_catch (own := RL) (name := "java/lang/IllegalArgumentException") (hh := ttL_ask) (x := ⟨327, 334, 472, 82⟩) hown hxe 27 rfl [(79, "java/lang/IndexOutOfBoundsException")] (by decide +kernel) (List.forall_mem_cons.mpr ⟨⟨by decide, (hts (.classLink RL 79 "java/lang/IndexOutOfBoundsException") (by decide +kernel)), hT.2.2.2.1 ("java/lang/IllegalArgumentException", "java/lang/IndexOutOfBoundsException") (by decide +kernel)⟩, (fun _ h => absurd h List.not_mem_nil)⟩) (by decide) (by decide) (hts (.classLink RL 82 "java/lang/IllegalArgumentException") (by decide +kernel)) (va_Nw.use rfl (hT.2.2.1 ("java/lang/IllegalArgumentException", "java/lang/IllegalArgumentException") (by decide +kernel))) hce hcv hcl ?_
    refine W.eq (g2 := F0 m 472 ls [.ref q9]) rfl ?_
    refine lv_astore_n (lv' := [(3, .ref q9), (0, .ref xo), (1, .int 112), (2, .ref va)]) hx hb dL_ask_472 rfl hl (by decide) rfl (fun ls hl => ?_)
    refine lv_ldc (v := (-2000000002)) hx hb hown (hts (.constant RL 84 (-2000000002)) (by decide +kernel)) dL_ask_473 ?_
    refine vx_ret ?_
    exact W.iret (v := (-2000000002)) hx hb hr (fun t ht hW => ⟨⟨(-2000000002), (), rfl, rfl, q_RW_mk hP hK hD [1] [] rfl rfl (by decide) rfl ht hW.alike⟩, hS.F ht⟩) hS.2.2 dL_ask_475
  · exact w_1300.elim
theorem dL_ask_335 : decode cL_ask 335 = .ok (.aload_n 0, 1) := by decide +kernel
theorem dL_ask_336 : decode cL_ask 336 = .ok (.aload_n 2, 1) := by decide +kernel
theorem dL_ask_337 : decode cL_ask 337 = .ok (.iconst 0, 1) := by decide +kernel
theorem dL_ask_338 : decode cL_ask 338 = .ok (.iaload, 1) := by decide +kernel
theorem dL_ask_339 : decode cL_ask 339 = .ok (.i2c, 1) := by decide +kernel
theorem dL_ask_340 : decode cL_ask 340 = .ok (.invokevirtual 38, 3) := by decide +kernel
def wzEL_ask_busy_b : List Cond := [.codeWith yL_ask cL_ask 4 (some .int) ttL_ask, .methodLink RL 38 yX6_busy, .instanceMethod yX6_busy, .selects RX6 yX6_busy yX6_busy, .initialized RX6, .code yX6_busy cX6_busy 2 (some .int), .methodLink RX6 133 yX6_findRole, .instanceMethod yX6_findRole, .selects RX6 yX6_findRole yX6_findRole, .code yX6_findRole cX6_findRole 2 (some (.object "Gatherhouse$Role")), .classLink RX6 118 "java/lang/IllegalArgumentException", .initialized "java/lang/IllegalArgumentException", .classLink RL 79 "java/lang/IndexOutOfBoundsException", .classLink RL 82 "java/lang/IllegalArgumentException", .constant RL 84 (-2000000002)]
def wzL_ask_busy_b : List Cond := wzEL_ask_busy_b ++ ((vx_atS RX6 122 "java/lang/IllegalArgumentException" ["java/lang/RuntimeException", "java/lang/Exception"]).filter goodWord)
theorem zgEL_ask_busy_b : wzEL_ask_busy_b.all goodWord = true := by decide +kernel
theorem ztL_ask_busy_b_X6_122 : ∀ w ∈ (vx_atS RX6 122 "java/lang/IllegalArgumentException" ["java/lang/RuntimeException", "java/lang/Exception"]).filter goodWord, w ∈ wzL_ask_busy_b := (fun _ h => (List.mem_append_right _ h))
theorem gzL_ask_busy_b_X6_busy_b_38 : GoodIn wzL_ask_busy_b (wsV RL 38 RX6 yX6_busy wzX6_busy_b) := (goodIn_app (z_lift (goodIn_r _ [1, 2, 3, 4] rfl (by decide +kernel))) (goodIn_app (z_lift (goodIn_r wzEX6_busy_b [5, 6, 7, 8, 4, 9, 10, 11] rfl zgEX6_busy_b)) (goodIn_sub (fun _ h => (List.mem_append_right _ h)) zgV_X6_122)))
set_option maxHeartbeats 4000000 in
set_option maxRecDepth 100000 in
theorem zc_L_ask_busy_b (l : Launch) (hnt : l.stackTraces = false) (D : va_G) (G : Nat × Nat × (Nat → Int32)) (xo : Nat) (va : Nat) (xg : Nat) (gc : Int32) (xp : Nat) (pc : Int32) (xq : Nat) (qc : Int32) (r1 : Nat) (r2 : Nat) (r3 : Nat) (r4 : Nat) (se : Nat) (ts : Int32) (hou : Int32) (dr : Int32) (su : Int32) (br : Int32) (ci : ClassId) (sz : Nat) : vx_Met l yL_ask wzL_ask_busy_b ({ frames := 8, cells := 1, slots := 6, locals := 124 }) (va_Pc [.ref xo, .int 98, .ref va] (p_RW D G [(ci, .int)] [(xo, .inr (6, [.ref xg, .int gc, .ref xp, .int pc, .ref xq, .int qc, .ref r1, .ref r2, .ref r3, .ref r4, .ref se, .int ts, .int hou, .int dr, .int su, .int br])), (va, .inl (ci, 1, .inl (zi [120])))] sz)) (va_Qi (fun (r : Int32) (u : Unit) => r = (-2000000002)) (fun (u : Unit) (t : State) => q_RW D [] [(xo, .inr (6, [.ref xg, .int gc, .ref xp, .int pc, .ref xq, .int qc, .ref r1, .ref r2, .ref r3, .ref r4, .ref se, .int ts, .int hou, .int dr, .int su, .int br]))] (va_A [(xo, .inr (6, [.ref xg, .int gc, .ref xp, .int pc, .ref xq, .int qc, .ref r1, .ref r2, .ref r3, .ref r4, .ref se, .int ts, .int hou, .int dr, .int su, .int br])), (va, .inl (ci, 1, .inl (zi [120])))] sz) t) (va_A [(xo, .inr (6, [.ref xg, .int gc, .ref xp, .int pc, .ref xq, .int qc, .ref r1, .ref r2, .ref r3, .ref r4, .ref se, .int ts, .int hou, .int dr, .int su, .int br])), (va, .inl (ci, 1, .inl (zi [120])))] sz)) (vx_X (fun (_ : Unit) => True) (fun E (_ : Unit) (_ : State) => False) (va_A [(xo, .inr (6, [.ref xg, .int gc, .ref xp, .int pc, .ref xq, .int qc, .ref r1, .ref r2, .ref r3, .ref r4, .ref se, .int ts, .int hou, .int dr, .int su, .int br])), (va, .inl (ci, 1, .inl (zi [120])))] sz)) 1 6 (va_A [(xo, .inr (6, [.ref xg, .int gc, .ref xp, .int pc, .ref xq, .int qc, .ref r1, .ref r2, .ref r3, .ref r4, .ref se, .int ts, .int hou, .int dr, .int su, .int br])), (va, .inl (ci, 1, .inl (zi [120])))] sz) := by
  refine vx_ofWH (cc := cL_ask) (maxL := 4) (ret := (some .int)) (by decide) rfl ?_
  intro p e s m args below meth c s₁ B hml hv
  obtain ⟨rfl, hsz, hP, hK, hD0, hT, hZ⟩ := hv
  have hx := B.exec
  have hb := B.bytes
  have hr := B.returns
  have hts := atoms_spec (ws := wzL_ask_busy_b) B.pre
  have hown : s.vm.findClass RL = some m.cls := findClass_of_methodNamed B.named
  have hlocks := B.notSynchronized
  have hxe := vx_table (x := yL_ask) B (hts _ List.mem_cons_self)
  subst hsz
  have hD := hD0.self (sz := s.heap.size)
  generalize hAe : va_A [(xo, .inr (6, [.ref xg, .int gc, .ref xp, .int pc, .ref xq, .int qc, .ref r1, .ref r2, .ref r3, .ref r4, .ref se, .int ts, .int hou, .int dr, .int su, .int br])), (va, .inl (ci, 1, .inl (zi [120])))] s.heap.size = A at hD hZ ⊢
  have hA : ∀ q : Nat, s.heap.size ≤ q → A q := fun q h => by rw [← hAe]; exact Or.inr h
  have hS : va_S A s.heap s.heap [] := va_S.rf
  have hl := lv_entry ([.ref xo, .int 98, .ref va]) (n := 4) (Nat.le_of_ble_eq_true rfl)
  rw [lg_entry_eq]
  generalize (lg_sl ([.ref xo, .int 98, .ref va]) ++ List.replicate (4 - (lg_sl ([.ref xo, .int 98, .ref va])).length) Slot.unset).toArray = ls at hl ⊢
  have hl : lv_has ls 4 [(0, .ref xo), (1, .int 98), (2, .ref va)] := hl
  refine lv_iload_n hx hb dL_ask_0 rfl (lv_at hl 1 rfl) ?_
  refine lv_tableIn (off := 334) (tgt := 335) hx hb dL_ask_1 (by decide +kernel) (by decide +kernel) (by decide +kernel) (by decide) ?_
  refine lv_aload_n hx hb dL_ask_335 rfl (lv_at hl 0 rfl) ?_
  refine lv_aload_n hx hb dL_ask_336 rfl (lv_at hl 2 rfl) ?_
  refine lv_iconst (v := 0) hx hb dL_ask_337 (by decide) ?_
  refine va_iald (D := D) (cl := vwCl) hx hb hK hP 1 0 rfl rfl (vp_in_nI (n := 0) (N := 1) (by decide) (by decide)) dL_ask_338 ?_
  refine W.eq (g2 := F0 m 339 ls [.int 120, .ref xo]) rfl ?_
  refine lv_i2c (v := 120) hx hb dL_ask_339 (by decide +kernel) ?_
  have hFc := va_free (wc := [(xo, .inr (6, [.ref xg, .int gc, .ref xp, .int pc, .ref xq, .int qc, .ref r1, .ref r2, .ref r3, .ref r4, .ref se, .int ts, .int hou, .int dr, .int su, .int br]))]) hD hS hA [0] rfl
  refine vx_calli (vx_runV (As := [.int 120]) (rest := []) ⟨hx, hb, hml, hown, hts⟩ (zc_X6_busy_b l hnt D G xo xg gc xp pc xq qc r1 r2 r3 r4 se ts hou dr su br s.heap.size) (cwV 1 hts gzL_ask_busy_b_X6_busy_b_38 rfl rfl rfl (by decide +kernel) ⟨(Nat.le_of_ble_eq_true rfl), (Nat.le_of_ble_eq_true rfl)⟩) ⟨p_RW_blind, va_recv hK hP (ci := 6) (q0 := 0) rfl rfl, (p_RW_at (tc := []) (wc := [(xo, .inr (6, [.ref xg, .int gc, .ref xp, .int pc, .ref xq, .int qc, .ref r1, .ref r2, .ref r3, .ref r4, .ref se, .int ts, .int hou, .int dr, .int su, .int br]))]) hP hK hD hS hA hT hZ [0] [] rfl rfl (by decide) rfl [.ref xo, .int 120])⟩ rfl rfl hl.1 rfl (lv_room (Nat.le_of_ble_eq_true rfl)) dL_ask_340 ⟨(Nat.le_of_ble_eq_true rfl), (Nat.le_of_ble_eq_true rfl)⟩) hS (fun q _ h => hFc q h) hFc (fun q _ h => hFc q h) (fun E ce q9 u t H locs ht hvm hpx hBX hz1 hk1 hS hce hcv hcl => ?_) (fun r_1301 u t H locs ht hvm w_1302 hB hz1 hk1 hS => ?_)
  · obtain ⟨hBX, hB⟩ := hBX
    obtain ⟨hP, hD, hK⟩ := q_join (D := D) (wc := [(xo, .inr (6, [.ref xg, .int gc, .ref xp, .int pc, .ref xq, .int qc, .ref r1, .ref r2, .ref r3, .ref r4, .ref se, .int ts, .int hou, .int dr, .int su, .int br]))]) (wr := [(va, .inl (ci, 1, .inl (zi [120])))]) (w1 := [(xo, .inr (6, [.ref xg, .int gc, .ref xp, .int pc, .ref xq, .int qc, .ref r1, .ref r2, .ref r3, .ref r4, .ref se, .int ts, .int hou, .int dr, .int su, .int br]))]) (tyr := [(ci, .int)]) (ty1 := []) hP hD hK [0] [1] [0] rfl rfl (by decide) (by decide) rfl hFc hk1 ht hvm hB
    have hP : va_P D vwCl [(va, .inl (ci, 1, .inl (zi [120]))), (xo, .inr (6, [.ref xg, .int gc, .ref xp, .int pc, .ref xq, .int qc, .ref r1, .ref r2, .ref r3, .ref r4, .ref se, .int ts, .int hou, .int dr, .int su, .int br]))] H := hP
    have hD : va_D A [(va, .inl (ci, 1, .inl (zi [120]))), (xo, .inr (6, [.ref xg, .int gc, .ref xp, .int pc, .ref xq, .int qc, .ref r1, .ref r2, .ref r3, .ref r4, .ref se, .int ts, .int hou, .int dr, .int su, .int br]))] := hD
    have hK : va_K D vwCl [(ci, .int)] s := hK
    have hBX : (E = "java/lang/IllegalArgumentException") := hBX
    rcases hBX with rfl
    refine z_catch (own := RL) (name := "java/lang/IllegalArgumentException") (hh := ttL_ask) (x := ⟨335, 343, 472, 82⟩) hown hxe 28 rfl [(79, "java/lang/IndexOutOfBoundsException")] (by decide +kernel) (List.forall_mem_cons.mpr ⟨⟨by decide, (hts (.classLink RL 79 "java/lang/IndexOutOfBoundsException") (by decide +kernel)), hT.2.2.2.1 ("java/lang/IllegalArgumentException", "java/lang/IndexOutOfBoundsException") (by decide +kernel)⟩, (fun _ h => absurd h List.not_mem_nil)⟩) (by decide) (by decide) (hts (.classLink RL 82 "java/lang/IllegalArgumentException") (by decide +kernel)) (va_Nw.use rfl (hT.2.2.1 ("java/lang/IllegalArgumentException", "java/lang/IllegalArgumentException") (by decide +kernel))) hce hcv hcl ?_
    refine W.eq (g2 := F0 m 472 ls [.ref q9]) rfl ?_
    refine lv_astore_n (lv' := [(3, .ref q9), (0, .ref xo), (1, .int 98), (2, .ref va)]) hx hb dL_ask_472 rfl hl (by decide) rfl (fun ls hl => ?_)
    refine lv_ldc (v := (-2000000002)) hx hb hown (hts (.constant RL 84 (-2000000002)) (by decide +kernel)) dL_ask_473 ?_
    refine vx_ret ?_
    exact W.iret (v := (-2000000002)) hx hb hr (fun t ht hW => ⟨⟨(-2000000002), (), rfl, rfl, q_RW_mk hP hK hD [1] [] rfl rfl (by decide) rfl ht hW.alike⟩, hS.F ht⟩) hS.2.2 dL_ask_475
  · exact w_1302.elim
theorem dL_ask_344 : decode cL_ask 344 = .ok (.aload_n 0, 1) := by decide +kernel
theorem dL_ask_345 : decode cL_ask 345 = .ok (.aload_n 2, 1) := by decide +kernel
theorem dL_ask_346 : decode cL_ask 346 = .ok (.iconst 0, 1) := by decide +kernel
theorem dL_ask_347 : decode cL_ask 347 = .ok (.iaload, 1) := by decide +kernel
theorem dL_ask_348 : decode cL_ask 348 = .ok (.i2c, 1) := by decide +kernel
theorem dL_ask_349 : decode cL_ask 349 = .ok (.invokevirtual 42, 3) := by decide +kernel
def wzEL_ask_pay_b : List Cond := [.codeWith yL_ask cL_ask 4 (some .int) ttL_ask, .methodLink RL 42 yX6_pay, .instanceMethod yX6_pay, .selects RX6 yX6_pay yX6_pay, .initialized RX6, .code yX6_pay cX6_pay 2 (some .int), .methodLink RX6 133 yX6_findRole, .instanceMethod yX6_findRole, .selects RX6 yX6_findRole yX6_findRole, .code yX6_findRole cX6_findRole 2 (some (.object "Gatherhouse$Role")), .classLink RX6 118 "java/lang/IllegalArgumentException", .initialized "java/lang/IllegalArgumentException", .classLink RL 79 "java/lang/IndexOutOfBoundsException", .classLink RL 82 "java/lang/IllegalArgumentException", .constant RL 84 (-2000000002)]
def wzL_ask_pay_b : List Cond := wzEL_ask_pay_b ++ ((vx_atS RX6 122 "java/lang/IllegalArgumentException" ["java/lang/RuntimeException", "java/lang/Exception"]).filter goodWord)
theorem zgEL_ask_pay_b : wzEL_ask_pay_b.all goodWord = true := by decide +kernel
theorem ztL_ask_pay_b_X6_122 : ∀ w ∈ (vx_atS RX6 122 "java/lang/IllegalArgumentException" ["java/lang/RuntimeException", "java/lang/Exception"]).filter goodWord, w ∈ wzL_ask_pay_b := (fun _ h => (List.mem_append_right _ h))
theorem gzL_ask_pay_b_X6_pay_b_42 : GoodIn wzL_ask_pay_b (wsV RL 42 RX6 yX6_pay wzX6_pay_b) := (goodIn_app (z_lift (goodIn_r _ [1, 2, 3, 4] rfl (by decide +kernel))) (goodIn_app (z_lift (goodIn_r wzEX6_pay_b [5, 6, 7, 8, 4, 9, 10, 11] rfl zgEX6_pay_b)) (goodIn_sub (fun _ h => (List.mem_append_right _ h)) zgV_X6_122)))
set_option maxHeartbeats 4000000 in
set_option maxRecDepth 100000 in
theorem zc_L_ask_pay_b (l : Launch) (hnt : l.stackTraces = false) (D : va_G) (G : Nat × Nat × (Nat → Int32)) (xo : Nat) (va : Nat) (xg : Nat) (gc : Int32) (xp : Nat) (pc : Int32) (xq : Nat) (qc : Int32) (r1 : Nat) (r2 : Nat) (r3 : Nat) (r4 : Nat) (se : Nat) (ts : Int32) (hou : Int32) (dr : Int32) (su : Int32) (br : Int32) (ci : ClassId) (sz : Nat) : vx_Met l yL_ask wzL_ask_pay_b ({ frames := 8, cells := 1, slots := 6, locals := 124 }) (va_Pc [.ref xo, .int 121, .ref va] (p_RW D G [(ci, .int)] [(xo, .inr (6, [.ref xg, .int gc, .ref xp, .int pc, .ref xq, .int qc, .ref r1, .ref r2, .ref r3, .ref r4, .ref se, .int ts, .int hou, .int dr, .int su, .int br])), (va, .inl (ci, 1, .inl (zi [120])))] sz)) (va_Qi (fun (r : Int32) (u : Unit) => r = (-2000000002)) (fun (u : Unit) (t : State) => q_RW D [] [(xo, .inr (6, [.ref xg, .int gc, .ref xp, .int pc, .ref xq, .int qc, .ref r1, .ref r2, .ref r3, .ref r4, .ref se, .int ts, .int hou, .int dr, .int su, .int br]))] (va_A [(xo, .inr (6, [.ref xg, .int gc, .ref xp, .int pc, .ref xq, .int qc, .ref r1, .ref r2, .ref r3, .ref r4, .ref se, .int ts, .int hou, .int dr, .int su, .int br])), (va, .inl (ci, 1, .inl (zi [120])))] sz) t) (va_A [(xo, .inr (6, [.ref xg, .int gc, .ref xp, .int pc, .ref xq, .int qc, .ref r1, .ref r2, .ref r3, .ref r4, .ref se, .int ts, .int hou, .int dr, .int su, .int br])), (va, .inl (ci, 1, .inl (zi [120])))] sz)) (vx_X (fun (_ : Unit) => True) (fun E (_ : Unit) (_ : State) => False) (va_A [(xo, .inr (6, [.ref xg, .int gc, .ref xp, .int pc, .ref xq, .int qc, .ref r1, .ref r2, .ref r3, .ref r4, .ref se, .int ts, .int hou, .int dr, .int su, .int br])), (va, .inl (ci, 1, .inl (zi [120])))] sz)) 1 6 (va_A [(xo, .inr (6, [.ref xg, .int gc, .ref xp, .int pc, .ref xq, .int qc, .ref r1, .ref r2, .ref r3, .ref r4, .ref se, .int ts, .int hou, .int dr, .int su, .int br])), (va, .inl (ci, 1, .inl (zi [120])))] sz) := by
  refine vx_ofWH (cc := cL_ask) (maxL := 4) (ret := (some .int)) (by decide) rfl ?_
  intro p e s m args below meth c s₁ B hml hv
  obtain ⟨rfl, hsz, hP, hK, hD0, hT, hZ⟩ := hv
  have hx := B.exec
  have hb := B.bytes
  have hr := B.returns
  have hts := atoms_spec (ws := wzL_ask_pay_b) B.pre
  have hown : s.vm.findClass RL = some m.cls := findClass_of_methodNamed B.named
  have hlocks := B.notSynchronized
  have hxe := vx_table (x := yL_ask) B (hts _ List.mem_cons_self)
  subst hsz
  have hD := hD0.self (sz := s.heap.size)
  generalize hAe : va_A [(xo, .inr (6, [.ref xg, .int gc, .ref xp, .int pc, .ref xq, .int qc, .ref r1, .ref r2, .ref r3, .ref r4, .ref se, .int ts, .int hou, .int dr, .int su, .int br])), (va, .inl (ci, 1, .inl (zi [120])))] s.heap.size = A at hD hZ ⊢
  have hA : ∀ q : Nat, s.heap.size ≤ q → A q := fun q h => by rw [← hAe]; exact Or.inr h
  have hS : va_S A s.heap s.heap [] := va_S.rf
  have hl := lv_entry ([.ref xo, .int 121, .ref va]) (n := 4) (Nat.le_of_ble_eq_true rfl)
  rw [lg_entry_eq]
  generalize (lg_sl ([.ref xo, .int 121, .ref va]) ++ List.replicate (4 - (lg_sl ([.ref xo, .int 121, .ref va])).length) Slot.unset).toArray = ls at hl ⊢
  have hl : lv_has ls 4 [(0, .ref xo), (1, .int 121), (2, .ref va)] := hl
  refine lv_iload_n hx hb dL_ask_0 rfl (lv_at hl 1 rfl) ?_
  refine lv_tableIn (off := 343) (tgt := 344) hx hb dL_ask_1 (by decide +kernel) (by decide +kernel) (by decide +kernel) (by decide) ?_
  refine lv_aload_n hx hb dL_ask_344 rfl (lv_at hl 0 rfl) ?_
  refine lv_aload_n hx hb dL_ask_345 rfl (lv_at hl 2 rfl) ?_
  refine lv_iconst (v := 0) hx hb dL_ask_346 (by decide) ?_
  refine va_iald (D := D) (cl := vwCl) hx hb hK hP 1 0 rfl rfl (vp_in_nI (n := 0) (N := 1) (by decide) (by decide)) dL_ask_347 ?_
  refine W.eq (g2 := F0 m 348 ls [.int 120, .ref xo]) rfl ?_
  refine lv_i2c (v := 120) hx hb dL_ask_348 (by decide +kernel) ?_
  have hFc := va_free (wc := [(xo, .inr (6, [.ref xg, .int gc, .ref xp, .int pc, .ref xq, .int qc, .ref r1, .ref r2, .ref r3, .ref r4, .ref se, .int ts, .int hou, .int dr, .int su, .int br]))]) hD hS hA [0] rfl
  refine vx_calli (vx_runV (As := [.int 120]) (rest := []) ⟨hx, hb, hml, hown, hts⟩ (zc_X6_pay_b l hnt D G xo xg gc xp pc xq qc r1 r2 r3 r4 se ts hou dr su br s.heap.size) (cwV 1 hts gzL_ask_pay_b_X6_pay_b_42 rfl rfl rfl (by decide +kernel) ⟨(Nat.le_of_ble_eq_true rfl), (Nat.le_of_ble_eq_true rfl)⟩) ⟨p_RW_blind, va_recv hK hP (ci := 6) (q0 := 0) rfl rfl, (p_RW_at (tc := []) (wc := [(xo, .inr (6, [.ref xg, .int gc, .ref xp, .int pc, .ref xq, .int qc, .ref r1, .ref r2, .ref r3, .ref r4, .ref se, .int ts, .int hou, .int dr, .int su, .int br]))]) hP hK hD hS hA hT hZ [0] [] rfl rfl (by decide) rfl [.ref xo, .int 120])⟩ rfl rfl hl.1 rfl (lv_room (Nat.le_of_ble_eq_true rfl)) dL_ask_349 ⟨(Nat.le_of_ble_eq_true rfl), (Nat.le_of_ble_eq_true rfl)⟩) hS (fun q _ h => hFc q h) hFc (fun q _ h => hFc q h) (fun E ce q9 u t H locs ht hvm hpx hBX hz1 hk1 hS hce hcv hcl => ?_) (fun r_1303 u t H locs ht hvm w_1304 hB hz1 hk1 hS => ?_)
  · obtain ⟨hBX, hB⟩ := hBX
    obtain ⟨hP, hD, hK⟩ := q_join (D := D) (wc := [(xo, .inr (6, [.ref xg, .int gc, .ref xp, .int pc, .ref xq, .int qc, .ref r1, .ref r2, .ref r3, .ref r4, .ref se, .int ts, .int hou, .int dr, .int su, .int br]))]) (wr := [(va, .inl (ci, 1, .inl (zi [120])))]) (w1 := [(xo, .inr (6, [.ref xg, .int gc, .ref xp, .int pc, .ref xq, .int qc, .ref r1, .ref r2, .ref r3, .ref r4, .ref se, .int ts, .int hou, .int dr, .int su, .int br]))]) (tyr := [(ci, .int)]) (ty1 := []) hP hD hK [0] [1] [0] rfl rfl (by decide) (by decide) rfl hFc hk1 ht hvm hB
    have hP : va_P D vwCl [(va, .inl (ci, 1, .inl (zi [120]))), (xo, .inr (6, [.ref xg, .int gc, .ref xp, .int pc, .ref xq, .int qc, .ref r1, .ref r2, .ref r3, .ref r4, .ref se, .int ts, .int hou, .int dr, .int su, .int br]))] H := hP
    have hD : va_D A [(va, .inl (ci, 1, .inl (zi [120]))), (xo, .inr (6, [.ref xg, .int gc, .ref xp, .int pc, .ref xq, .int qc, .ref r1, .ref r2, .ref r3, .ref r4, .ref se, .int ts, .int hou, .int dr, .int su, .int br]))] := hD
    have hK : va_K D vwCl [(ci, .int)] s := hK
    have hBX : (E = "java/lang/IllegalArgumentException") := hBX
    rcases hBX with rfl
    refine z_catch (own := RL) (name := "java/lang/IllegalArgumentException") (hh := ttL_ask) (x := ⟨344, 352, 472, 82⟩) hown hxe 29 rfl [(79, "java/lang/IndexOutOfBoundsException")] (by decide +kernel) (List.forall_mem_cons.mpr ⟨⟨by decide, (hts (.classLink RL 79 "java/lang/IndexOutOfBoundsException") (by decide +kernel)), hT.2.2.2.1 ("java/lang/IllegalArgumentException", "java/lang/IndexOutOfBoundsException") (by decide +kernel)⟩, (fun _ h => absurd h List.not_mem_nil)⟩) (by decide) (by decide) (hts (.classLink RL 82 "java/lang/IllegalArgumentException") (by decide +kernel)) (va_Nw.use rfl (hT.2.2.1 ("java/lang/IllegalArgumentException", "java/lang/IllegalArgumentException") (by decide +kernel))) hce hcv hcl ?_
    refine W.eq (g2 := F0 m 472 ls [.ref q9]) rfl ?_
    refine lv_astore_n (lv' := [(3, .ref q9), (0, .ref xo), (1, .int 121), (2, .ref va)]) hx hb dL_ask_472 rfl hl (by decide) rfl (fun ls hl => ?_)
    refine lv_ldc (v := (-2000000002)) hx hb hown (hts (.constant RL 84 (-2000000002)) (by decide +kernel)) dL_ask_473 ?_
    refine vx_ret ?_
    exact W.iret (v := (-2000000002)) hx hb hr (fun t ht hW => ⟨⟨(-2000000002), (), rfl, rfl, q_RW_mk hP hK hD [1] [] rfl rfl (by decide) rfl ht hW.alike⟩, hS.F ht⟩) hS.2.2 dL_ask_475
  · exact w_1304.elim
theorem dL_asked_359 : decode cL_asked 359 = .ok (.aload_n 0, 1) := by decide +kernel
theorem dL_asked_360 : decode cL_asked 360 = .ok (.aload_n 2, 1) := by decide +kernel
theorem dL_asked_361 : decode cL_asked 361 = .ok (.iconst 0, 1) := by decide +kernel
theorem dL_asked_362 : decode cL_asked 362 = .ok (.iaload, 1) := by decide +kernel
theorem dL_asked_363 : decode cL_asked 363 = .ok (.invokevirtual 134, 3) := by decide +kernel
def wzEL_asked_drop_b : List Cond := [.code yL_asked cL_asked 3 (some .int), .methodLink RL 134 yX6_drop, .instanceMethod yX6_drop, .selects RX6 yX6_drop yX6_drop, .initialized RX6, .code yX6_drop cX6_drop 3 (some .int), .methodLink RX6 75 yX6_checkRange, .static yX6_checkRange, .code yX6_checkRange cX6_checkRange 3 none, .classLink RX6 118 "java/lang/IllegalArgumentException", .initialized "java/lang/IllegalArgumentException"]
def wzL_asked_drop_b : List Cond := wzEL_asked_drop_b ++ ((vx_atS RX6 122 "java/lang/IllegalArgumentException" ["java/lang/RuntimeException", "java/lang/Exception"]).filter goodWord)
theorem zgEL_asked_drop_b : wzEL_asked_drop_b.all goodWord = true := by decide +kernel
theorem ztL_asked_drop_b_X6_122 : ∀ w ∈ (vx_atS RX6 122 "java/lang/IllegalArgumentException" ["java/lang/RuntimeException", "java/lang/Exception"]).filter goodWord, w ∈ wzL_asked_drop_b := (fun _ h => (List.mem_append_right _ h))
theorem gzL_asked_drop_b_X6_drop_b_134 : GoodIn wzL_asked_drop_b (wsV RL 134 RX6 yX6_drop wzX6_drop_b) := (goodIn_app (z_lift (goodIn_r _ [1, 2, 3, 4] rfl (by decide +kernel))) (goodIn_app (z_lift (goodIn_r wzEX6_drop_b [5, 6, 7, 4, 8, 9, 10] rfl zgEX6_drop_b)) (goodIn_sub (fun _ h => (List.mem_append_right _ h)) zgV_X6_122)))
set_option maxHeartbeats 4000000 in
set_option maxRecDepth 100000 in
theorem zc_L_asked_drop_b (l : Launch) (hnt : l.stackTraces = false) (D : va_G) (G : Nat × Nat × (Nat → Int32)) (xo : Nat) (va : Nat) (xg : Nat) (gc : Int32) (xp : Nat) (pc : Int32) (xq : Nat) (qc : Int32) (r1 : Nat) (r2 : Nat) (r3 : Nat) (r4 : Nat) (se : Nat) (ts : Int32) (hou : Int32) (dr : Int32) (su : Int32) (br : Int32) (ci : ClassId) (sz : Nat) : vx_Met l yL_asked wzL_asked_drop_b ({ frames := 8, cells := 1, slots := 6, locals := 126 }) (va_Pc [.ref xo, .int 68, .ref va] (p_RW D G [(ci, .int)] [(xo, .inr (6, [.ref xg, .int gc, .ref xp, .int pc, .ref xq, .int qc, .ref r1, .ref r2, .ref r3, .ref r4, .ref se, .int ts, .int hou, .int dr, .int su, .int br])), (va, .inl (ci, 1, .inl (zi [9])))] sz)) (va_Qi (fun (r : Int32) (u : Unit) => False) (fun (u : Unit) (t : State) => q_RW D [] [(xo, .inr (6, [.ref xg, .int gc, .ref xp, .int pc, .ref xq, .int qc, .ref r1, .ref r2, .ref r3, .ref r4, .ref se, .int ts, .int hou, .int dr, .int su, .int br]))] (va_A [(xo, .inr (6, [.ref xg, .int gc, .ref xp, .int pc, .ref xq, .int qc, .ref r1, .ref r2, .ref r3, .ref r4, .ref se, .int ts, .int hou, .int dr, .int su, .int br])), (va, .inl (ci, 1, .inl (zi [9])))] sz) t) (va_A [(xo, .inr (6, [.ref xg, .int gc, .ref xp, .int pc, .ref xq, .int qc, .ref r1, .ref r2, .ref r3, .ref r4, .ref se, .int ts, .int hou, .int dr, .int su, .int br])), (va, .inl (ci, 1, .inl (zi [9])))] sz)) (vx_X (fun (_ : Unit) => True) (fun E (_ : Unit) (t : State) => ((E = "java/lang/IllegalArgumentException")) ∧ q_RW D [(ci, .int)] [(xo, .inr (6, [.ref xg, .int gc, .ref xp, .int pc, .ref xq, .int qc, .ref r1, .ref r2, .ref r3, .ref r4, .ref se, .int ts, .int hou, .int dr, .int su, .int br]))] (va_A [(xo, .inr (6, [.ref xg, .int gc, .ref xp, .int pc, .ref xq, .int qc, .ref r1, .ref r2, .ref r3, .ref r4, .ref se, .int ts, .int hou, .int dr, .int su, .int br])), (va, .inl (ci, 1, .inl (zi [9])))] sz) t) (va_A [(xo, .inr (6, [.ref xg, .int gc, .ref xp, .int pc, .ref xq, .int qc, .ref r1, .ref r2, .ref r3, .ref r4, .ref se, .int ts, .int hou, .int dr, .int su, .int br])), (va, .inl (ci, 1, .inl (zi [9])))] sz)) 1 6 (va_A [(xo, .inr (6, [.ref xg, .int gc, .ref xp, .int pc, .ref xq, .int qc, .ref r1, .ref r2, .ref r3, .ref r4, .ref se, .int ts, .int hou, .int dr, .int su, .int br])), (va, .inl (ci, 1, .inl (zi [9])))] sz) := by
  refine vx_ofW (cc := cL_asked) (maxL := 3) (ret := (some .int)) (by decide) rfl ?_
  intro p e s m args below meth c s₁ B hml hxt hv
  obtain ⟨rfl, hsz, hP, hK, hD0, hT, hZ⟩ := hv
  have hx := B.exec
  have hb := B.bytes
  have hr := B.returns
  have hts := atoms_spec (ws := wzL_asked_drop_b) B.pre
  have hown : s.vm.findClass RL = some m.cls := findClass_of_methodNamed B.named
  have hlocks := B.notSynchronized
  subst hsz
  have hD := hD0.self (sz := s.heap.size)
  generalize hAe : va_A [(xo, .inr (6, [.ref xg, .int gc, .ref xp, .int pc, .ref xq, .int qc, .ref r1, .ref r2, .ref r3, .ref r4, .ref se, .int ts, .int hou, .int dr, .int su, .int br])), (va, .inl (ci, 1, .inl (zi [9])))] s.heap.size = A at hD hZ ⊢
  have hA : ∀ q : Nat, s.heap.size ≤ q → A q := fun q h => by rw [← hAe]; exact Or.inr h
  have hS : va_S A s.heap s.heap [] := va_S.rf
  have hl := lv_entry ([.ref xo, .int 68, .ref va]) (n := 3) (Nat.le_of_ble_eq_true rfl)
  rw [lg_entry_eq]
  generalize (lg_sl ([.ref xo, .int 68, .ref va]) ++ List.replicate (3 - (lg_sl ([.ref xo, .int 68, .ref va])).length) Slot.unset).toArray = ls at hl ⊢
  have hl : lv_has ls 3 [(0, .ref xo), (1, .int 68), (2, .ref va)] := hl
  refine lv_iload_n hx hb dL_asked_0 rfl (lv_at hl 1 rfl) ?_
  refine lv_tableIn (off := 358) (tgt := 359) hx hb dL_asked_1 (by decide +kernel) (by decide +kernel) (by decide +kernel) (by decide) ?_
  refine lv_aload_n hx hb dL_asked_359 rfl (lv_at hl 0 rfl) ?_
  refine lv_aload_n hx hb dL_asked_360 rfl (lv_at hl 2 rfl) ?_
  refine lv_iconst (v := 0) hx hb dL_asked_361 (by decide) ?_
  refine va_iald (D := D) (cl := vwCl) hx hb hK hP 1 0 rfl rfl (vp_in_nI (n := 0) (N := 1) (by decide) (by decide)) dL_asked_362 ?_
  refine W.eq (g2 := F0 m 363 ls [.int 9, .ref xo]) rfl ?_
  have hFc := va_free (wc := [(xo, .inr (6, [.ref xg, .int gc, .ref xp, .int pc, .ref xq, .int qc, .ref r1, .ref r2, .ref r3, .ref r4, .ref se, .int ts, .int hou, .int dr, .int su, .int br]))]) hD hS hA [0] rfl
  refine vx_calli (vx_runV (As := [.int 9]) (rest := []) ⟨hx, hb, hml, hown, hts⟩ (zc_X6_drop_b l hnt D G xo xg gc xp pc xq qc r1 r2 r3 r4 se ts hou dr su br s.heap.size) (cwV 1 hts gzL_asked_drop_b_X6_drop_b_134 rfl rfl rfl (by decide +kernel) ⟨(Nat.le_of_ble_eq_true rfl), (Nat.le_of_ble_eq_true rfl)⟩) ⟨p_RW_blind, va_recv hK hP (ci := 6) (q0 := 0) rfl rfl, (p_RW_at (tc := []) (wc := [(xo, .inr (6, [.ref xg, .int gc, .ref xp, .int pc, .ref xq, .int qc, .ref r1, .ref r2, .ref r3, .ref r4, .ref se, .int ts, .int hou, .int dr, .int su, .int br]))]) hP hK hD hS hA hT hZ [0] [] rfl rfl (by decide) rfl [.ref xo, .int 9])⟩ rfl rfl hl.1 rfl (lv_room (Nat.le_of_ble_eq_true rfl)) dL_asked_363 ⟨(Nat.le_of_ble_eq_true rfl), (Nat.le_of_ble_eq_true rfl)⟩) hS (fun q _ h => hFc q h) hFc (fun q _ h => hFc q h) (fun E ce q9 u t H locs ht hvm hpx hBX hz1 hk1 hS hce hcv hcl => ?_) (fun r_1305 u t H locs ht hvm w_1306 hB hz1 hk1 hS => ?_)
  · obtain ⟨hBX, hB⟩ := hBX
    obtain ⟨hP, hD, hK⟩ := q_join (D := D) (wc := [(xo, .inr (6, [.ref xg, .int gc, .ref xp, .int pc, .ref xq, .int qc, .ref r1, .ref r2, .ref r3, .ref r4, .ref se, .int ts, .int hou, .int dr, .int su, .int br]))]) (wr := [(va, .inl (ci, 1, .inl (zi [9])))]) (w1 := [(xo, .inr (6, [.ref xg, .int gc, .ref xp, .int pc, .ref xq, .int qc, .ref r1, .ref r2, .ref r3, .ref r4, .ref se, .int ts, .int hou, .int dr, .int su, .int br]))]) (tyr := [(ci, .int)]) (ty1 := []) hP hD hK [0] [1] [0] rfl rfl (by decide) (by decide) rfl hFc hk1 ht hvm hB
    have hP : va_P D vwCl [(va, .inl (ci, 1, .inl (zi [9]))), (xo, .inr (6, [.ref xg, .int gc, .ref xp, .int pc, .ref xq, .int qc, .ref r1, .ref r2, .ref r3, .ref r4, .ref se, .int ts, .int hou, .int dr, .int su, .int br]))] H := hP
    have hD : va_D A [(va, .inl (ci, 1, .inl (zi [9]))), (xo, .inr (6, [.ref xg, .int gc, .ref xp, .int pc, .ref xq, .int qc, .ref r1, .ref r2, .ref r3, .ref r4, .ref se, .int ts, .int hou, .int dr, .int su, .int br]))] := hD
    have hK : va_K D vwCl [(ci, .int)] s := hK
    have hBX : (E = "java/lang/IllegalArgumentException") := hBX
    rcases hBX with rfl
    exact vx_out (fun x h => (hxt x h).elim) hlocks hce hcv hcl (fun t ht hW9 => ⟨(), trivial, ⟨rfl, q_RW_mk hP hK hD [1] [0] rfl rfl (by decide) rfl ht hW9⟩, hS.F ht⟩) hS.2.2 (Nat.le_of_ble_eq_true rfl) (Nat.le_of_ble_eq_true rfl)
  · exact w_1306.elim
def wzEL_ask_drop_b : List Cond := [.codeWith yL_ask cL_ask 4 (some .int) ttL_ask, .methodLink RL 73 yL_asked, .static yL_asked, .initialized RL, .code yL_asked cL_asked 3 (some .int), .methodLink RL 134 yX6_drop, .instanceMethod yX6_drop, .selects RX6 yX6_drop yX6_drop, .initialized RX6, .code yX6_drop cX6_drop 3 (some .int), .methodLink RX6 75 yX6_checkRange, .static yX6_checkRange, .code yX6_checkRange cX6_checkRange 3 none, .classLink RX6 118 "java/lang/IllegalArgumentException", .initialized "java/lang/IllegalArgumentException", .classLink RL 79 "java/lang/IndexOutOfBoundsException", .classLink RL 82 "java/lang/IllegalArgumentException", .constant RL 84 (-2000000002)]
def wzL_ask_drop_b : List Cond := wzEL_ask_drop_b ++ ((vx_atS RX6 122 "java/lang/IllegalArgumentException" ["java/lang/RuntimeException", "java/lang/Exception"]).filter goodWord)
theorem zgEL_ask_drop_b : wzEL_ask_drop_b.all goodWord = true := by decide +kernel
theorem ztL_ask_drop_b_X6_122 : ∀ w ∈ (vx_atS RX6 122 "java/lang/IllegalArgumentException" ["java/lang/RuntimeException", "java/lang/Exception"]).filter goodWord, w ∈ wzL_ask_drop_b := (fun _ h => (List.mem_append_right _ h))
theorem gzL_ask_drop_b_L_asked_drop_b_73 : GoodIn wzL_ask_drop_b (va_wsS RL 73 yL_asked wzL_asked_drop_b) := (goodIn_app (z_lift (goodIn_r _ [1, 2, 3] rfl (by decide +kernel))) (goodIn_app (z_lift (goodIn_r wzEL_asked_drop_b [4, 5, 6, 7, 8, 9, 10, 11, 12, 13, 14] rfl zgEL_asked_drop_b)) (goodIn_sub (fun _ h => (List.mem_append_right _ h)) zgV_X6_122)))
set_option maxHeartbeats 4000000 in
set_option maxRecDepth 100000 in
theorem zc_L_ask_drop_b (l : Launch) (hnt : l.stackTraces = false) (D : va_G) (G : Nat × Nat × (Nat → Int32)) (xo : Nat) (va : Nat) (xg : Nat) (gc : Int32) (xp : Nat) (pc : Int32) (xq : Nat) (qc : Int32) (r1 : Nat) (r2 : Nat) (r3 : Nat) (r4 : Nat) (se : Nat) (ts : Int32) (hou : Int32) (dr : Int32) (su : Int32) (br : Int32) (ci : ClassId) (sz : Nat) : vx_Met l yL_ask wzL_ask_drop_b ({ frames := 9, cells := 1, slots := 6, locals := 148 }) (va_Pc [.ref xo, .int 68, .ref va] (p_RW D G [(ci, .int)] [(xo, .inr (6, [.ref xg, .int gc, .ref xp, .int pc, .ref xq, .int qc, .ref r1, .ref r2, .ref r3, .ref r4, .ref se, .int ts, .int hou, .int dr, .int su, .int br])), (va, .inl (ci, 1, .inl (zi [9])))] sz)) (va_Qi (fun (r : Int32) (u : Unit) => r = (-2000000002)) (fun (u : Unit) (t : State) => q_RW D [] [(xo, .inr (6, [.ref xg, .int gc, .ref xp, .int pc, .ref xq, .int qc, .ref r1, .ref r2, .ref r3, .ref r4, .ref se, .int ts, .int hou, .int dr, .int su, .int br]))] (va_A [(xo, .inr (6, [.ref xg, .int gc, .ref xp, .int pc, .ref xq, .int qc, .ref r1, .ref r2, .ref r3, .ref r4, .ref se, .int ts, .int hou, .int dr, .int su, .int br])), (va, .inl (ci, 1, .inl (zi [9])))] sz) t) (va_A [(xo, .inr (6, [.ref xg, .int gc, .ref xp, .int pc, .ref xq, .int qc, .ref r1, .ref r2, .ref r3, .ref r4, .ref se, .int ts, .int hou, .int dr, .int su, .int br])), (va, .inl (ci, 1, .inl (zi [9])))] sz)) (vx_X (fun (_ : Unit) => True) (fun E (_ : Unit) (_ : State) => False) (va_A [(xo, .inr (6, [.ref xg, .int gc, .ref xp, .int pc, .ref xq, .int qc, .ref r1, .ref r2, .ref r3, .ref r4, .ref se, .int ts, .int hou, .int dr, .int su, .int br])), (va, .inl (ci, 1, .inl (zi [9])))] sz)) 1 6 (va_A [(xo, .inr (6, [.ref xg, .int gc, .ref xp, .int pc, .ref xq, .int qc, .ref r1, .ref r2, .ref r3, .ref r4, .ref se, .int ts, .int hou, .int dr, .int su, .int br])), (va, .inl (ci, 1, .inl (zi [9])))] sz) := by
  refine vx_ofWH (cc := cL_ask) (maxL := 4) (ret := (some .int)) (by decide) rfl ?_
  intro p e s m args below meth c s₁ B hml hv
  obtain ⟨rfl, hsz, hP, hK, hD0, hT, hZ⟩ := hv
  have hx := B.exec
  have hb := B.bytes
  have hr := B.returns
  have hts := atoms_spec (ws := wzL_ask_drop_b) B.pre
  have hown : s.vm.findClass RL = some m.cls := findClass_of_methodNamed B.named
  have hlocks := B.notSynchronized
  have hxe := vx_table (x := yL_ask) B (hts _ List.mem_cons_self)
  subst hsz
  have hD := hD0.self (sz := s.heap.size)
  generalize hAe : va_A [(xo, .inr (6, [.ref xg, .int gc, .ref xp, .int pc, .ref xq, .int qc, .ref r1, .ref r2, .ref r3, .ref r4, .ref se, .int ts, .int hou, .int dr, .int su, .int br])), (va, .inl (ci, 1, .inl (zi [9])))] s.heap.size = A at hD hZ ⊢
  have hA : ∀ q : Nat, s.heap.size ≤ q → A q := fun q h => by rw [← hAe]; exact Or.inr h
  have hS : va_S A s.heap s.heap [] := va_S.rf
  have hl := lv_entry ([.ref xo, .int 68, .ref va]) (n := 4) (Nat.le_of_ble_eq_true rfl)
  rw [lg_entry_eq]
  generalize (lg_sl ([.ref xo, .int 68, .ref va]) ++ List.replicate (4 - (lg_sl ([.ref xo, .int 68, .ref va])).length) Slot.unset).toArray = ls at hl ⊢
  have hl : lv_has ls 4 [(0, .ref xo), (1, .int 68), (2, .ref va)] := hl
  refine lv_iload_n hx hb dL_ask_0 rfl (lv_at hl 1 rfl) ?_
  refine lv_tableIn (off := 460) (tgt := 461) hx hb dL_ask_1 (by decide +kernel) (by decide +kernel) (by decide +kernel) (by decide) ?_
  refine lv_aload_n hx hb dL_ask_461 rfl (lv_at hl 0 rfl) ?_
  refine lv_iload_n hx hb dL_ask_462 rfl (lv_at hl 1 rfl) ?_
  refine lv_aload_n hx hb dL_ask_463 rfl (lv_at hl 2 rfl) ?_
  have hFc := va_free (wc := [(xo, .inr (6, [.ref xg, .int gc, .ref xp, .int pc, .ref xq, .int qc, .ref r1, .ref r2, .ref r3, .ref r4, .ref se, .int ts, .int hou, .int dr, .int su, .int br])), (va, .inl (ci, 1, .inl (zi [9])))]) hD hS hA [0, 1] rfl
  refine vx_calli (vx_runS (As := [.ref xo, .int 68, .ref va]) (rest := []) ⟨hx, hb, hml, hown, hts⟩ (zc_L_asked_drop_b l hnt D G xo va xg gc xp pc xq qc r1 r2 r3 r4 se ts hou dr su br ci s.heap.size) (cwS 3 hts gzL_ask_drop_b_L_asked_drop_b_73 rfl rfl rfl (by decide +kernel) ⟨(Nat.le_of_ble_eq_true rfl), (Nat.le_of_ble_eq_true rfl)⟩) ⟨p_RW_blind, (p_RW_at (tc := [(ci, .int)]) (wc := [(xo, .inr (6, [.ref xg, .int gc, .ref xp, .int pc, .ref xq, .int qc, .ref r1, .ref r2, .ref r3, .ref r4, .ref se, .int ts, .int hou, .int dr, .int su, .int br])), (va, .inl (ci, 1, .inl (zi [9])))]) hP hK hD hS hA hT hZ [0, 1] [0] rfl rfl (by decide) rfl [.ref xo, .int 68, .ref va])⟩ rfl rfl hl.1 rfl (lv_room (Nat.le_of_ble_eq_true rfl)) dL_ask_464 ⟨(Nat.le_of_ble_eq_true rfl), (Nat.le_of_ble_eq_true rfl)⟩) hS (fun q _ h => hFc q h) hFc (fun q _ h => hFc q h) (fun E ce q9 u t H locs ht hvm hpx hBX hz1 hk1 hS hce hcv hcl => ?_) (fun r_1307 u t H locs ht hvm w_1308 hB hz1 hk1 hS => ?_)
  · obtain ⟨hBX, hB⟩ := hBX
    obtain ⟨hP, hD, hK⟩ := q_join (D := D) (wc := [(xo, .inr (6, [.ref xg, .int gc, .ref xp, .int pc, .ref xq, .int qc, .ref r1, .ref r2, .ref r3, .ref r4, .ref se, .int ts, .int hou, .int dr, .int su, .int br])), (va, .inl (ci, 1, .inl (zi [9])))]) (wr := []) (w1 := [(xo, .inr (6, [.ref xg, .int gc, .ref xp, .int pc, .ref xq, .int qc, .ref r1, .ref r2, .ref r3, .ref r4, .ref se, .int ts, .int hou, .int dr, .int su, .int br]))]) (tyr := []) (ty1 := [(ci, .int)]) hP hD hK [0, 1] [] [] rfl rfl (by decide) (by decide) rfl hFc hk1 ht hvm hB
    have hP : va_P D vwCl [(xo, .inr (6, [.ref xg, .int gc, .ref xp, .int pc, .ref xq, .int qc, .ref r1, .ref r2, .ref r3, .ref r4, .ref se, .int ts, .int hou, .int dr, .int su, .int br]))] H := hP
    have hD : va_D A [(xo, .inr (6, [.ref xg, .int gc, .ref xp, .int pc, .ref xq, .int qc, .ref r1, .ref r2, .ref r3, .ref r4, .ref se, .int ts, .int hou, .int dr, .int su, .int br]))] := hD
    have hK : va_K D vwCl [(ci, .int)] s := hK
    have hBX : (E = "java/lang/IllegalArgumentException") := hBX
    rcases hBX with rfl
    refine z_catch (own := RL) (name := "java/lang/IllegalArgumentException") (hh := ttL_ask) (x := ⟨461, 467, 472, 82⟩) hown hxe 39 rfl [(79, "java/lang/IndexOutOfBoundsException")] (by decide +kernel) (List.forall_mem_cons.mpr ⟨⟨by decide, (hts (.classLink RL 79 "java/lang/IndexOutOfBoundsException") (by decide +kernel)), hT.2.2.2.1 ("java/lang/IllegalArgumentException", "java/lang/IndexOutOfBoundsException") (by decide +kernel)⟩, (fun _ h => absurd h List.not_mem_nil)⟩) (by decide) (by decide) (hts (.classLink RL 82 "java/lang/IllegalArgumentException") (by decide +kernel)) (va_Nw.use rfl (hT.2.2.1 ("java/lang/IllegalArgumentException", "java/lang/IllegalArgumentException") (by decide +kernel))) hce hcv hcl ?_
    refine W.eq (g2 := F0 m 472 ls [.ref q9]) rfl ?_
    refine lv_astore_n (lv' := [(3, .ref q9), (0, .ref xo), (1, .int 68), (2, .ref va)]) hx hb dL_ask_472 rfl hl (by decide) rfl (fun ls hl => ?_)
    refine lv_ldc (v := (-2000000002)) hx hb hown (hts (.constant RL 84 (-2000000002)) (by decide +kernel)) dL_ask_473 ?_
    refine vx_ret ?_
    exact W.iret (v := (-2000000002)) hx hb hr (fun t ht hW => ⟨⟨(-2000000002), (), rfl, rfl, q_RW_mk hP hK hD [0] [] rfl rfl (by decide) rfl ht hW.alike⟩, hS.F ht⟩) hS.2.2 dL_ask_475
  · exact w_1308.elim
theorem dL_asked_367 : decode cL_asked 367 = .ok (.aload_n 0, 1) := by decide +kernel
theorem dL_asked_368 : decode cL_asked 368 = .ok (.aload_n 2, 1) := by decide +kernel
theorem dL_asked_369 : decode cL_asked 369 = .ok (.iconst 0, 1) := by decide +kernel
theorem dL_asked_370 : decode cL_asked 370 = .ok (.iaload, 1) := by decide +kernel
theorem dL_asked_371 : decode cL_asked 371 = .ok (.invokevirtual 137, 3) := by decide +kernel
def wzEL_asked_days_b : List Cond := [.code yL_asked cL_asked 3 (some .int), .methodLink RL 137 yX6_days, .instanceMethod yX6_days, .selects RX6 yX6_days yX6_days, .initialized RX6, .code yX6_days cX6_days 4 (some .int), .methodLink RX6 75 yX6_checkRange, .static yX6_checkRange, .code yX6_checkRange cX6_checkRange 3 none, .classLink RX6 118 "java/lang/IllegalArgumentException", .initialized "java/lang/IllegalArgumentException"]
def wzL_asked_days_b : List Cond := wzEL_asked_days_b ++ ((vx_atS RX6 122 "java/lang/IllegalArgumentException" ["java/lang/RuntimeException", "java/lang/Exception"]).filter goodWord)
theorem zgEL_asked_days_b : wzEL_asked_days_b.all goodWord = true := by decide +kernel
theorem ztL_asked_days_b_X6_122 : ∀ w ∈ (vx_atS RX6 122 "java/lang/IllegalArgumentException" ["java/lang/RuntimeException", "java/lang/Exception"]).filter goodWord, w ∈ wzL_asked_days_b := (fun _ h => (List.mem_append_right _ h))
theorem gzL_asked_days_b_X6_days_b_137 : GoodIn wzL_asked_days_b (wsV RL 137 RX6 yX6_days wzX6_days_b) := (goodIn_app (z_lift (goodIn_r _ [1, 2, 3, 4] rfl (by decide +kernel))) (goodIn_app (z_lift (goodIn_r wzEX6_days_b [5, 6, 7, 4, 8, 9, 10] rfl zgEX6_days_b)) (goodIn_sub (fun _ h => (List.mem_append_right _ h)) zgV_X6_122)))
set_option maxHeartbeats 4000000 in
set_option maxRecDepth 100000 in
theorem zc_L_asked_days_b (l : Launch) (hnt : l.stackTraces = false) (D : va_G) (G : Nat × Nat × (Nat → Int32)) (xo : Nat) (va : Nat) (xg : Nat) (gc : Int32) (xp : Nat) (pc : Int32) (xq : Nat) (qc : Int32) (r1 : Nat) (r2 : Nat) (r3 : Nat) (r4 : Nat) (se : Nat) (ts : Int32) (hou : Int32) (dr : Int32) (su : Int32) (br : Int32) (ci : ClassId) (sz : Nat) : vx_Met l yL_asked wzL_asked_days_b ({ frames := 8, cells := 1, slots := 6, locals := 127 }) (va_Pc [.ref xo, .int 100, .ref va] (p_RW D G [(ci, .int)] [(xo, .inr (6, [.ref xg, .int gc, .ref xp, .int pc, .ref xq, .int qc, .ref r1, .ref r2, .ref r3, .ref r4, .ref se, .int ts, .int hou, .int dr, .int su, .int br])), (va, .inl (ci, 1, .inl (zi [61])))] sz)) (va_Qi (fun (r : Int32) (u : Unit) => False) (fun (u : Unit) (t : State) => q_RW D [] [(xo, .inr (6, [.ref xg, .int gc, .ref xp, .int pc, .ref xq, .int qc, .ref r1, .ref r2, .ref r3, .ref r4, .ref se, .int ts, .int hou, .int dr, .int su, .int br]))] (va_A [(xo, .inr (6, [.ref xg, .int gc, .ref xp, .int pc, .ref xq, .int qc, .ref r1, .ref r2, .ref r3, .ref r4, .ref se, .int ts, .int hou, .int dr, .int su, .int br])), (va, .inl (ci, 1, .inl (zi [61])))] sz) t) (va_A [(xo, .inr (6, [.ref xg, .int gc, .ref xp, .int pc, .ref xq, .int qc, .ref r1, .ref r2, .ref r3, .ref r4, .ref se, .int ts, .int hou, .int dr, .int su, .int br])), (va, .inl (ci, 1, .inl (zi [61])))] sz)) (vx_X (fun (_ : Unit) => True) (fun E (_ : Unit) (t : State) => ((E = "java/lang/IllegalArgumentException")) ∧ q_RW D [(ci, .int)] [(xo, .inr (6, [.ref xg, .int gc, .ref xp, .int pc, .ref xq, .int qc, .ref r1, .ref r2, .ref r3, .ref r4, .ref se, .int ts, .int hou, .int dr, .int su, .int br]))] (va_A [(xo, .inr (6, [.ref xg, .int gc, .ref xp, .int pc, .ref xq, .int qc, .ref r1, .ref r2, .ref r3, .ref r4, .ref se, .int ts, .int hou, .int dr, .int su, .int br])), (va, .inl (ci, 1, .inl (zi [61])))] sz) t) (va_A [(xo, .inr (6, [.ref xg, .int gc, .ref xp, .int pc, .ref xq, .int qc, .ref r1, .ref r2, .ref r3, .ref r4, .ref se, .int ts, .int hou, .int dr, .int su, .int br])), (va, .inl (ci, 1, .inl (zi [61])))] sz)) 1 6 (va_A [(xo, .inr (6, [.ref xg, .int gc, .ref xp, .int pc, .ref xq, .int qc, .ref r1, .ref r2, .ref r3, .ref r4, .ref se, .int ts, .int hou, .int dr, .int su, .int br])), (va, .inl (ci, 1, .inl (zi [61])))] sz) := by
  refine vx_ofW (cc := cL_asked) (maxL := 3) (ret := (some .int)) (by decide) rfl ?_
  intro p e s m args below meth c s₁ B hml hxt hv
  obtain ⟨rfl, hsz, hP, hK, hD0, hT, hZ⟩ := hv
  have hx := B.exec
  have hb := B.bytes
  have hr := B.returns
  have hts := atoms_spec (ws := wzL_asked_days_b) B.pre
  have hown : s.vm.findClass RL = some m.cls := findClass_of_methodNamed B.named
  have hlocks := B.notSynchronized
  subst hsz
  have hD := hD0.self (sz := s.heap.size)
  generalize hAe : va_A [(xo, .inr (6, [.ref xg, .int gc, .ref xp, .int pc, .ref xq, .int qc, .ref r1, .ref r2, .ref r3, .ref r4, .ref se, .int ts, .int hou, .int dr, .int su, .int br])), (va, .inl (ci, 1, .inl (zi [61])))] s.heap.size = A at hD hZ ⊢
  have hA : ∀ q : Nat, s.heap.size ≤ q → A q := fun q h => by rw [← hAe]; exact Or.inr h
  have hS : va_S A s.heap s.heap [] := va_S.rf
  have hl := lv_entry ([.ref xo, .int 100, .ref va]) (n := 3) (Nat.le_of_ble_eq_true rfl)
  rw [lg_entry_eq]
  generalize (lg_sl ([.ref xo, .int 100, .ref va]) ++ List.replicate (3 - (lg_sl ([.ref xo, .int 100, .ref va])).length) Slot.unset).toArray = ls at hl ⊢
  have hl : lv_has ls 3 [(0, .ref xo), (1, .int 100), (2, .ref va)] := hl
  refine lv_iload_n hx hb dL_asked_0 rfl (lv_at hl 1 rfl) ?_
  refine lv_tableIn (off := 366) (tgt := 367) hx hb dL_asked_1 (by decide +kernel) (by decide +kernel) (by decide +kernel) (by decide) ?_
  refine lv_aload_n hx hb dL_asked_367 rfl (lv_at hl 0 rfl) ?_
  refine lv_aload_n hx hb dL_asked_368 rfl (lv_at hl 2 rfl) ?_
  refine lv_iconst (v := 0) hx hb dL_asked_369 (by decide) ?_
  refine va_iald (D := D) (cl := vwCl) hx hb hK hP 1 0 rfl rfl (vp_in_nI (n := 0) (N := 1) (by decide) (by decide)) dL_asked_370 ?_
  refine W.eq (g2 := F0 m 371 ls [.int 61, .ref xo]) rfl ?_
  have hFc := va_free (wc := [(xo, .inr (6, [.ref xg, .int gc, .ref xp, .int pc, .ref xq, .int qc, .ref r1, .ref r2, .ref r3, .ref r4, .ref se, .int ts, .int hou, .int dr, .int su, .int br]))]) hD hS hA [0] rfl
  refine vx_calli (vx_runV (As := [.int 61]) (rest := []) ⟨hx, hb, hml, hown, hts⟩ (zc_X6_days_b l hnt D G xo xg gc xp pc xq qc r1 r2 r3 r4 se ts hou dr su br s.heap.size) (cwV 1 hts gzL_asked_days_b_X6_days_b_137 rfl rfl rfl (by decide +kernel) ⟨(Nat.le_of_ble_eq_true rfl), (Nat.le_of_ble_eq_true rfl)⟩) ⟨p_RW_blind, va_recv hK hP (ci := 6) (q0 := 0) rfl rfl, (p_RW_at (tc := []) (wc := [(xo, .inr (6, [.ref xg, .int gc, .ref xp, .int pc, .ref xq, .int qc, .ref r1, .ref r2, .ref r3, .ref r4, .ref se, .int ts, .int hou, .int dr, .int su, .int br]))]) hP hK hD hS hA hT hZ [0] [] rfl rfl (by decide) rfl [.ref xo, .int 61])⟩ rfl rfl hl.1 rfl (lv_room (Nat.le_of_ble_eq_true rfl)) dL_asked_371 ⟨(Nat.le_of_ble_eq_true rfl), (Nat.le_of_ble_eq_true rfl)⟩) hS (fun q _ h => hFc q h) hFc (fun q _ h => hFc q h) (fun E ce q9 u t H locs ht hvm hpx hBX hz1 hk1 hS hce hcv hcl => ?_) (fun r_1309 u t H locs ht hvm w_1310 hB hz1 hk1 hS => ?_)
  · obtain ⟨hBX, hB⟩ := hBX
    obtain ⟨hP, hD, hK⟩ := q_join (D := D) (wc := [(xo, .inr (6, [.ref xg, .int gc, .ref xp, .int pc, .ref xq, .int qc, .ref r1, .ref r2, .ref r3, .ref r4, .ref se, .int ts, .int hou, .int dr, .int su, .int br]))]) (wr := [(va, .inl (ci, 1, .inl (zi [61])))]) (w1 := [(xo, .inr (6, [.ref xg, .int gc, .ref xp, .int pc, .ref xq, .int qc, .ref r1, .ref r2, .ref r3, .ref r4, .ref se, .int ts, .int hou, .int dr, .int su, .int br]))]) (tyr := [(ci, .int)]) (ty1 := []) hP hD hK [0] [1] [0] rfl rfl (by decide) (by decide) rfl hFc hk1 ht hvm hB
    have hP : va_P D vwCl [(va, .inl (ci, 1, .inl (zi [61]))), (xo, .inr (6, [.ref xg, .int gc, .ref xp, .int pc, .ref xq, .int qc, .ref r1, .ref r2, .ref r3, .ref r4, .ref se, .int ts, .int hou, .int dr, .int su, .int br]))] H := hP
    have hD : va_D A [(va, .inl (ci, 1, .inl (zi [61]))), (xo, .inr (6, [.ref xg, .int gc, .ref xp, .int pc, .ref xq, .int qc, .ref r1, .ref r2, .ref r3, .ref r4, .ref se, .int ts, .int hou, .int dr, .int su, .int br]))] := hD
    have hK : va_K D vwCl [(ci, .int)] s := hK
    have hBX : (E = "java/lang/IllegalArgumentException") := hBX
    rcases hBX with rfl
    exact vx_out (fun x h => (hxt x h).elim) hlocks hce hcv hcl (fun t ht hW9 => ⟨(), trivial, ⟨rfl, q_RW_mk hP hK hD [1] [0] rfl rfl (by decide) rfl ht hW9⟩, hS.F ht⟩) hS.2.2 (Nat.le_of_ble_eq_true rfl) (Nat.le_of_ble_eq_true rfl)
  · exact w_1310.elim
def wzEL_ask_days_b : List Cond := [.codeWith yL_ask cL_ask 4 (some .int) ttL_ask, .methodLink RL 73 yL_asked, .static yL_asked, .initialized RL, .code yL_asked cL_asked 3 (some .int), .methodLink RL 137 yX6_days, .instanceMethod yX6_days, .selects RX6 yX6_days yX6_days, .initialized RX6, .code yX6_days cX6_days 4 (some .int), .methodLink RX6 75 yX6_checkRange, .static yX6_checkRange, .code yX6_checkRange cX6_checkRange 3 none, .classLink RX6 118 "java/lang/IllegalArgumentException", .initialized "java/lang/IllegalArgumentException", .classLink RL 79 "java/lang/IndexOutOfBoundsException", .classLink RL 82 "java/lang/IllegalArgumentException", .constant RL 84 (-2000000002)]
def wzL_ask_days_b : List Cond := wzEL_ask_days_b ++ ((vx_atS RX6 122 "java/lang/IllegalArgumentException" ["java/lang/RuntimeException", "java/lang/Exception"]).filter goodWord)
theorem zgEL_ask_days_b : wzEL_ask_days_b.all goodWord = true := by decide +kernel
theorem ztL_ask_days_b_X6_122 : ∀ w ∈ (vx_atS RX6 122 "java/lang/IllegalArgumentException" ["java/lang/RuntimeException", "java/lang/Exception"]).filter goodWord, w ∈ wzL_ask_days_b := (fun _ h => (List.mem_append_right _ h))
theorem gzL_ask_days_b_L_asked_days_b_73 : GoodIn wzL_ask_days_b (va_wsS RL 73 yL_asked wzL_asked_days_b) := (goodIn_app (z_lift (goodIn_r _ [1, 2, 3] rfl (by decide +kernel))) (goodIn_app (z_lift (goodIn_r wzEL_asked_days_b [4, 5, 6, 7, 8, 9, 10, 11, 12, 13, 14] rfl zgEL_asked_days_b)) (goodIn_sub (fun _ h => (List.mem_append_right _ h)) zgV_X6_122)))
set_option maxHeartbeats 4000000 in
set_option maxRecDepth 100000 in
theorem zc_L_ask_days_b (l : Launch) (hnt : l.stackTraces = false) (D : va_G) (G : Nat × Nat × (Nat → Int32)) (xo : Nat) (va : Nat) (xg : Nat) (gc : Int32) (xp : Nat) (pc : Int32) (xq : Nat) (qc : Int32) (r1 : Nat) (r2 : Nat) (r3 : Nat) (r4 : Nat) (se : Nat) (ts : Int32) (hou : Int32) (dr : Int32) (su : Int32) (br : Int32) (ci : ClassId) (sz : Nat) : vx_Met l yL_ask wzL_ask_days_b ({ frames := 9, cells := 1, slots := 6, locals := 149 }) (va_Pc [.ref xo, .int 100, .ref va] (p_RW D G [(ci, .int)] [(xo, .inr (6, [.ref xg, .int gc, .ref xp, .int pc, .ref xq, .int qc, .ref r1, .ref r2, .ref r3, .ref r4, .ref se, .int ts, .int hou, .int dr, .int su, .int br])), (va, .inl (ci, 1, .inl (zi [61])))] sz)) (va_Qi (fun (r : Int32) (u : Unit) => r = (-2000000002)) (fun (u : Unit) (t : State) => q_RW D [] [(xo, .inr (6, [.ref xg, .int gc, .ref xp, .int pc, .ref xq, .int qc, .ref r1, .ref r2, .ref r3, .ref r4, .ref se, .int ts, .int hou, .int dr, .int su, .int br]))] (va_A [(xo, .inr (6, [.ref xg, .int gc, .ref xp, .int pc, .ref xq, .int qc, .ref r1, .ref r2, .ref r3, .ref r4, .ref se, .int ts, .int hou, .int dr, .int su, .int br])), (va, .inl (ci, 1, .inl (zi [61])))] sz) t) (va_A [(xo, .inr (6, [.ref xg, .int gc, .ref xp, .int pc, .ref xq, .int qc, .ref r1, .ref r2, .ref r3, .ref r4, .ref se, .int ts, .int hou, .int dr, .int su, .int br])), (va, .inl (ci, 1, .inl (zi [61])))] sz)) (vx_X (fun (_ : Unit) => True) (fun E (_ : Unit) (_ : State) => False) (va_A [(xo, .inr (6, [.ref xg, .int gc, .ref xp, .int pc, .ref xq, .int qc, .ref r1, .ref r2, .ref r3, .ref r4, .ref se, .int ts, .int hou, .int dr, .int su, .int br])), (va, .inl (ci, 1, .inl (zi [61])))] sz)) 1 6 (va_A [(xo, .inr (6, [.ref xg, .int gc, .ref xp, .int pc, .ref xq, .int qc, .ref r1, .ref r2, .ref r3, .ref r4, .ref se, .int ts, .int hou, .int dr, .int su, .int br])), (va, .inl (ci, 1, .inl (zi [61])))] sz) := by
  refine vx_ofWH (cc := cL_ask) (maxL := 4) (ret := (some .int)) (by decide) rfl ?_
  intro p e s m args below meth c s₁ B hml hv
  obtain ⟨rfl, hsz, hP, hK, hD0, hT, hZ⟩ := hv
  have hx := B.exec
  have hb := B.bytes
  have hr := B.returns
  have hts := atoms_spec (ws := wzL_ask_days_b) B.pre
  have hown : s.vm.findClass RL = some m.cls := findClass_of_methodNamed B.named
  have hlocks := B.notSynchronized
  have hxe := vx_table (x := yL_ask) B (hts _ List.mem_cons_self)
  subst hsz
  have hD := hD0.self (sz := s.heap.size)
  generalize hAe : va_A [(xo, .inr (6, [.ref xg, .int gc, .ref xp, .int pc, .ref xq, .int qc, .ref r1, .ref r2, .ref r3, .ref r4, .ref se, .int ts, .int hou, .int dr, .int su, .int br])), (va, .inl (ci, 1, .inl (zi [61])))] s.heap.size = A at hD hZ ⊢
  have hA : ∀ q : Nat, s.heap.size ≤ q → A q := fun q h => by rw [← hAe]; exact Or.inr h
  have hS : va_S A s.heap s.heap [] := va_S.rf
  have hl := lv_entry ([.ref xo, .int 100, .ref va]) (n := 4) (Nat.le_of_ble_eq_true rfl)
  rw [lg_entry_eq]
  generalize (lg_sl ([.ref xo, .int 100, .ref va]) ++ List.replicate (4 - (lg_sl ([.ref xo, .int 100, .ref va])).length) Slot.unset).toArray = ls at hl ⊢
  have hl : lv_has ls 4 [(0, .ref xo), (1, .int 100), (2, .ref va)] := hl
  refine lv_iload_n hx hb dL_ask_0 rfl (lv_at hl 1 rfl) ?_
  refine lv_tableIn (off := 460) (tgt := 461) hx hb dL_ask_1 (by decide +kernel) (by decide +kernel) (by decide +kernel) (by decide) ?_
  refine lv_aload_n hx hb dL_ask_461 rfl (lv_at hl 0 rfl) ?_
  refine lv_iload_n hx hb dL_ask_462 rfl (lv_at hl 1 rfl) ?_
  refine lv_aload_n hx hb dL_ask_463 rfl (lv_at hl 2 rfl) ?_
  have hFc := va_free (wc := [(xo, .inr (6, [.ref xg, .int gc, .ref xp, .int pc, .ref xq, .int qc, .ref r1, .ref r2, .ref r3, .ref r4, .ref se, .int ts, .int hou, .int dr, .int su, .int br])), (va, .inl (ci, 1, .inl (zi [61])))]) hD hS hA [0, 1] rfl
  refine vx_calli (vx_runS (As := [.ref xo, .int 100, .ref va]) (rest := []) ⟨hx, hb, hml, hown, hts⟩ (zc_L_asked_days_b l hnt D G xo va xg gc xp pc xq qc r1 r2 r3 r4 se ts hou dr su br ci s.heap.size) (cwS 3 hts gzL_ask_days_b_L_asked_days_b_73 rfl rfl rfl (by decide +kernel) ⟨(Nat.le_of_ble_eq_true rfl), (Nat.le_of_ble_eq_true rfl)⟩) ⟨p_RW_blind, (p_RW_at (tc := [(ci, .int)]) (wc := [(xo, .inr (6, [.ref xg, .int gc, .ref xp, .int pc, .ref xq, .int qc, .ref r1, .ref r2, .ref r3, .ref r4, .ref se, .int ts, .int hou, .int dr, .int su, .int br])), (va, .inl (ci, 1, .inl (zi [61])))]) hP hK hD hS hA hT hZ [0, 1] [0] rfl rfl (by decide) rfl [.ref xo, .int 100, .ref va])⟩ rfl rfl hl.1 rfl (lv_room (Nat.le_of_ble_eq_true rfl)) dL_ask_464 ⟨(Nat.le_of_ble_eq_true rfl), (Nat.le_of_ble_eq_true rfl)⟩) hS (fun q _ h => hFc q h) hFc (fun q _ h => hFc q h) (fun E ce q9 u t H locs ht hvm hpx hBX hz1 hk1 hS hce hcv hcl => ?_) (fun r_1311 u t H locs ht hvm w_1312 hB hz1 hk1 hS => ?_)
  · obtain ⟨hBX, hB⟩ := hBX
    obtain ⟨hP, hD, hK⟩ := q_join (D := D) (wc := [(xo, .inr (6, [.ref xg, .int gc, .ref xp, .int pc, .ref xq, .int qc, .ref r1, .ref r2, .ref r3, .ref r4, .ref se, .int ts, .int hou, .int dr, .int su, .int br])), (va, .inl (ci, 1, .inl (zi [61])))]) (wr := []) (w1 := [(xo, .inr (6, [.ref xg, .int gc, .ref xp, .int pc, .ref xq, .int qc, .ref r1, .ref r2, .ref r3, .ref r4, .ref se, .int ts, .int hou, .int dr, .int su, .int br]))]) (tyr := []) (ty1 := [(ci, .int)]) hP hD hK [0, 1] [] [] rfl rfl (by decide) (by decide) rfl hFc hk1 ht hvm hB
    have hP : va_P D vwCl [(xo, .inr (6, [.ref xg, .int gc, .ref xp, .int pc, .ref xq, .int qc, .ref r1, .ref r2, .ref r3, .ref r4, .ref se, .int ts, .int hou, .int dr, .int su, .int br]))] H := hP
    have hD : va_D A [(xo, .inr (6, [.ref xg, .int gc, .ref xp, .int pc, .ref xq, .int qc, .ref r1, .ref r2, .ref r3, .ref r4, .ref se, .int ts, .int hou, .int dr, .int su, .int br]))] := hD
    have hK : va_K D vwCl [(ci, .int)] s := hK
    have hBX : (E = "java/lang/IllegalArgumentException") := hBX
    rcases hBX with rfl
    refine z_catch (own := RL) (name := "java/lang/IllegalArgumentException") (hh := ttL_ask) (x := ⟨461, 467, 472, 82⟩) hown hxe 39 rfl [(79, "java/lang/IndexOutOfBoundsException")] (by decide +kernel) (List.forall_mem_cons.mpr ⟨⟨by decide, (hts (.classLink RL 79 "java/lang/IndexOutOfBoundsException") (by decide +kernel)), hT.2.2.2.1 ("java/lang/IllegalArgumentException", "java/lang/IndexOutOfBoundsException") (by decide +kernel)⟩, (fun _ h => absurd h List.not_mem_nil)⟩) (by decide) (by decide) (hts (.classLink RL 82 "java/lang/IllegalArgumentException") (by decide +kernel)) (va_Nw.use rfl (hT.2.2.1 ("java/lang/IllegalArgumentException", "java/lang/IllegalArgumentException") (by decide +kernel))) hce hcv hcl ?_
    refine W.eq (g2 := F0 m 472 ls [.ref q9]) rfl ?_
    refine lv_astore_n (lv' := [(3, .ref q9), (0, .ref xo), (1, .int 100), (2, .ref va)]) hx hb dL_ask_472 rfl hl (by decide) rfl (fun ls hl => ?_)
    refine lv_ldc (v := (-2000000002)) hx hb hown (hts (.constant RL 84 (-2000000002)) (by decide +kernel)) dL_ask_473 ?_
    refine vx_ret ?_
    exact W.iret (v := (-2000000002)) hx hb hr (fun t ht hW => ⟨⟨(-2000000002), (), rfl, rfl, q_RW_mk hP hK hD [0] [] rfl rfl (by decide) rfl ht hW.alike⟩, hS.F ht⟩) hS.2.2 dL_ask_475
  · exact w_1312.elim
theorem dL_asked_400 : decode cL_asked 400 = .ok (.aload_n 0, 1) := by decide +kernel
theorem dL_asked_401 : decode cL_asked 401 = .ok (.aload_n 2, 1) := by decide +kernel
theorem dL_asked_402 : decode cL_asked 402 = .ok (.iconst 0, 1) := by decide +kernel
theorem dL_asked_403 : decode cL_asked 403 = .ok (.iaload, 1) := by decide +kernel
theorem dL_asked_404 : decode cL_asked 404 = .ok (.aload_n 2, 1) := by decide +kernel
theorem dL_asked_405 : decode cL_asked 405 = .ok (.iconst 1, 1) := by decide +kernel
theorem dL_asked_406 : decode cL_asked 406 = .ok (.iaload, 1) := by decide +kernel
theorem dL_asked_407 : decode cL_asked 407 = .ok (.aload_n 2, 1) := by decide +kernel
theorem dL_asked_408 : decode cL_asked 408 = .ok (.iconst 2, 1) := by decide +kernel
theorem dL_asked_409 : decode cL_asked 409 = .ok (.iaload, 1) := by decide +kernel
theorem dL_asked_410 : decode cL_asked 410 = .ok (.invokevirtual 146, 3) := by decide +kernel
def wzEL_asked_set_b : List Cond := [.code yL_asked cL_asked 3 (some .int), .methodLink RL 146 yX6_set, .instanceMethod yX6_set, .selects RX6 yX6_set yX6_set, .initialized RX6, .code yX6_set cX6_set 6 (some .int), .methodLink RX6 75 yX6_checkRange, .static yX6_checkRange, .code yX6_checkRange cX6_checkRange 3 none, .classLink RX6 118 "java/lang/IllegalArgumentException", .initialized "java/lang/IllegalArgumentException"]
def wzL_asked_set_b : List Cond := wzEL_asked_set_b ++ ((vx_atS RX6 122 "java/lang/IllegalArgumentException" ["java/lang/RuntimeException", "java/lang/Exception"]).filter goodWord)
theorem zgEL_asked_set_b : wzEL_asked_set_b.all goodWord = true := by decide +kernel
theorem ztL_asked_set_b_X6_122 : ∀ w ∈ (vx_atS RX6 122 "java/lang/IllegalArgumentException" ["java/lang/RuntimeException", "java/lang/Exception"]).filter goodWord, w ∈ wzL_asked_set_b := (fun _ h => (List.mem_append_right _ h))
theorem gzL_asked_set_b_X6_set_b_146 : GoodIn wzL_asked_set_b (wsV RL 146 RX6 yX6_set wzX6_set_b) := (goodIn_app (z_lift (goodIn_r _ [1, 2, 3, 4] rfl (by decide +kernel))) (goodIn_app (z_lift (goodIn_r wzEX6_set_b [5, 6, 7, 4, 8, 9, 10] rfl zgEX6_set_b)) (goodIn_sub (fun _ h => (List.mem_append_right _ h)) zgV_X6_122)))
set_option maxHeartbeats 4000000 in
set_option maxRecDepth 100000 in
theorem zc_L_asked_set_b (l : Launch) (hnt : l.stackTraces = false) (D : va_G) (G : Nat × Nat × (Nat → Int32)) (xo : Nat) (va : Nat) (xg : Nat) (gc : Int32) (xp : Nat) (pc : Int32) (xq : Nat) (qc : Int32) (r1 : Nat) (r2 : Nat) (r3 : Nat) (r4 : Nat) (se : Nat) (ts : Int32) (hou : Int32) (dr : Int32) (su : Int32) (br : Int32) (ci : ClassId) (sz : Nat) : vx_Met l yL_asked wzL_asked_set_b ({ frames := 8, cells := 1, slots := 6, locals := 129 }) (va_Pc [.ref xo, .int 84, .ref va] (p_RW D G [(ci, .int)] [(xo, .inr (6, [.ref xg, .int gc, .ref xp, .int pc, .ref xq, .int qc, .ref r1, .ref r2, .ref r3, .ref r4, .ref se, .int ts, .int hou, .int dr, .int su, .int br])), (va, .inl (ci, 3, .inl (zi [1, 1, 0])))] sz)) (va_Qi (fun (r : Int32) (u : Unit) => False) (fun (u : Unit) (t : State) => q_RW D [] [(xo, .inr (6, [.ref xg, .int gc, .ref xp, .int pc, .ref xq, .int qc, .ref r1, .ref r2, .ref r3, .ref r4, .ref se, .int ts, .int hou, .int dr, .int su, .int br]))] (va_A [(xo, .inr (6, [.ref xg, .int gc, .ref xp, .int pc, .ref xq, .int qc, .ref r1, .ref r2, .ref r3, .ref r4, .ref se, .int ts, .int hou, .int dr, .int su, .int br])), (va, .inl (ci, 3, .inl (zi [1, 1, 0])))] sz) t) (va_A [(xo, .inr (6, [.ref xg, .int gc, .ref xp, .int pc, .ref xq, .int qc, .ref r1, .ref r2, .ref r3, .ref r4, .ref se, .int ts, .int hou, .int dr, .int su, .int br])), (va, .inl (ci, 3, .inl (zi [1, 1, 0])))] sz)) (vx_X (fun (_ : Unit) => True) (fun E (_ : Unit) (t : State) => ((E = "java/lang/IllegalArgumentException")) ∧ q_RW D [(ci, .int)] [(xo, .inr (6, [.ref xg, .int gc, .ref xp, .int pc, .ref xq, .int qc, .ref r1, .ref r2, .ref r3, .ref r4, .ref se, .int ts, .int hou, .int dr, .int su, .int br]))] (va_A [(xo, .inr (6, [.ref xg, .int gc, .ref xp, .int pc, .ref xq, .int qc, .ref r1, .ref r2, .ref r3, .ref r4, .ref se, .int ts, .int hou, .int dr, .int su, .int br])), (va, .inl (ci, 3, .inl (zi [1, 1, 0])))] sz) t) (va_A [(xo, .inr (6, [.ref xg, .int gc, .ref xp, .int pc, .ref xq, .int qc, .ref r1, .ref r2, .ref r3, .ref r4, .ref se, .int ts, .int hou, .int dr, .int su, .int br])), (va, .inl (ci, 3, .inl (zi [1, 1, 0])))] sz)) 1 6 (va_A [(xo, .inr (6, [.ref xg, .int gc, .ref xp, .int pc, .ref xq, .int qc, .ref r1, .ref r2, .ref r3, .ref r4, .ref se, .int ts, .int hou, .int dr, .int su, .int br])), (va, .inl (ci, 3, .inl (zi [1, 1, 0])))] sz) := by
  refine vx_ofW (cc := cL_asked) (maxL := 3) (ret := (some .int)) (by decide) rfl ?_
  intro p e s m args below meth c s₁ B hml hxt hv
  obtain ⟨rfl, hsz, hP, hK, hD0, hT, hZ⟩ := hv
  have hx := B.exec
  have hb := B.bytes
  have hr := B.returns
  have hts := atoms_spec (ws := wzL_asked_set_b) B.pre
  have hown : s.vm.findClass RL = some m.cls := findClass_of_methodNamed B.named
  have hlocks := B.notSynchronized
  subst hsz
  have hD := hD0.self (sz := s.heap.size)
  generalize hAe : va_A [(xo, .inr (6, [.ref xg, .int gc, .ref xp, .int pc, .ref xq, .int qc, .ref r1, .ref r2, .ref r3, .ref r4, .ref se, .int ts, .int hou, .int dr, .int su, .int br])), (va, .inl (ci, 3, .inl (zi [1, 1, 0])))] s.heap.size = A at hD hZ ⊢
  have hA : ∀ q : Nat, s.heap.size ≤ q → A q := fun q h => by rw [← hAe]; exact Or.inr h
  have hS : va_S A s.heap s.heap [] := va_S.rf
  have hl := lv_entry ([.ref xo, .int 84, .ref va]) (n := 3) (Nat.le_of_ble_eq_true rfl)
  rw [lg_entry_eq]
  generalize (lg_sl ([.ref xo, .int 84, .ref va]) ++ List.replicate (3 - (lg_sl ([.ref xo, .int 84, .ref va])).length) Slot.unset).toArray = ls at hl ⊢
  have hl : lv_has ls 3 [(0, .ref xo), (1, .int 84), (2, .ref va)] := hl
  refine lv_iload_n hx hb dL_asked_0 rfl (lv_at hl 1 rfl) ?_
  refine lv_tableIn (off := 399) (tgt := 400) hx hb dL_asked_1 (by decide +kernel) (by decide +kernel) (by decide +kernel) (by decide) ?_
  refine lv_aload_n hx hb dL_asked_400 rfl (lv_at hl 0 rfl) ?_
  refine lv_aload_n hx hb dL_asked_401 rfl (lv_at hl 2 rfl) ?_
  refine lv_iconst (v := 0) hx hb dL_asked_402 (by decide) ?_
  refine va_iald (D := D) (cl := vwCl) hx hb hK hP 1 0 rfl rfl (vp_in_nI (n := 0) (N := 3) (by decide) (by decide)) dL_asked_403 ?_
  refine W.eq (g2 := F0 m 404 ls [.int 1, .ref xo]) rfl ?_
  refine lv_aload_n hx hb dL_asked_404 rfl (lv_at hl 2 rfl) ?_
  refine lv_iconst (v := 1) hx hb dL_asked_405 (by decide) ?_
  refine va_iald (D := D) (cl := vwCl) hx hb hK hP 1 0 rfl rfl (vp_in_nI (n := 1) (N := 3) (by decide) (by decide)) dL_asked_406 ?_
  refine W.eq (g2 := F0 m 407 ls [.int 1, .int 1, .ref xo]) rfl ?_
  refine lv_aload_n hx hb dL_asked_407 rfl (lv_at hl 2 rfl) ?_
  refine lv_iconst (v := 2) hx hb dL_asked_408 (by decide) ?_
  refine va_iald (D := D) (cl := vwCl) hx hb hK hP 1 0 rfl rfl (vp_in_nI (n := 2) (N := 3) (by decide) (by decide)) dL_asked_409 ?_
  refine W.eq (g2 := F0 m 410 ls [.int 0, .int 1, .int 1, .ref xo]) rfl ?_
  have hFc := va_free (wc := [(xo, .inr (6, [.ref xg, .int gc, .ref xp, .int pc, .ref xq, .int qc, .ref r1, .ref r2, .ref r3, .ref r4, .ref se, .int ts, .int hou, .int dr, .int su, .int br]))]) hD hS hA [0] rfl
  refine vx_calli (vx_runV (As := [.int 1, .int 1, .int 0]) (rest := []) ⟨hx, hb, hml, hown, hts⟩ (zc_X6_set_b l hnt D G xo xg gc xp pc xq qc r1 r2 r3 r4 se ts hou dr su br s.heap.size) (cwV 3 hts gzL_asked_set_b_X6_set_b_146 rfl rfl rfl (by decide +kernel) ⟨(Nat.le_of_ble_eq_true rfl), (Nat.le_of_ble_eq_true rfl)⟩) ⟨p_RW_blind, va_recv hK hP (ci := 6) (q0 := 0) rfl rfl, (p_RW_at (tc := []) (wc := [(xo, .inr (6, [.ref xg, .int gc, .ref xp, .int pc, .ref xq, .int qc, .ref r1, .ref r2, .ref r3, .ref r4, .ref se, .int ts, .int hou, .int dr, .int su, .int br]))]) hP hK hD hS hA hT hZ [0] [] rfl rfl (by decide) rfl [.ref xo, .int 1, .int 1, .int 0])⟩ rfl rfl hl.1 rfl (lv_room (Nat.le_of_ble_eq_true rfl)) dL_asked_410 ⟨(Nat.le_of_ble_eq_true rfl), (Nat.le_of_ble_eq_true rfl)⟩) hS (fun q _ h => hFc q h) hFc (fun q _ h => hFc q h) (fun E ce q9 u t H locs ht hvm hpx hBX hz1 hk1 hS hce hcv hcl => ?_) (fun r_1313 u t H locs ht hvm w_1314 hB hz1 hk1 hS => ?_)
  · obtain ⟨hBX, hB⟩ := hBX
    obtain ⟨hP, hD, hK⟩ := q_join (D := D) (wc := [(xo, .inr (6, [.ref xg, .int gc, .ref xp, .int pc, .ref xq, .int qc, .ref r1, .ref r2, .ref r3, .ref r4, .ref se, .int ts, .int hou, .int dr, .int su, .int br]))]) (wr := [(va, .inl (ci, 3, .inl (zi [1, 1, 0])))]) (w1 := [(xo, .inr (6, [.ref xg, .int gc, .ref xp, .int pc, .ref xq, .int qc, .ref r1, .ref r2, .ref r3, .ref r4, .ref se, .int ts, .int hou, .int dr, .int su, .int br]))]) (tyr := [(ci, .int)]) (ty1 := []) hP hD hK [0] [1] [0] rfl rfl (by decide) (by decide) rfl hFc hk1 ht hvm hB
    have hP : va_P D vwCl [(va, .inl (ci, 3, .inl (zi [1, 1, 0]))), (xo, .inr (6, [.ref xg, .int gc, .ref xp, .int pc, .ref xq, .int qc, .ref r1, .ref r2, .ref r3, .ref r4, .ref se, .int ts, .int hou, .int dr, .int su, .int br]))] H := hP
    have hD : va_D A [(va, .inl (ci, 3, .inl (zi [1, 1, 0]))), (xo, .inr (6, [.ref xg, .int gc, .ref xp, .int pc, .ref xq, .int qc, .ref r1, .ref r2, .ref r3, .ref r4, .ref se, .int ts, .int hou, .int dr, .int su, .int br]))] := hD
    have hK : va_K D vwCl [(ci, .int)] s := hK
    have hBX : (E = "java/lang/IllegalArgumentException") := hBX
    rcases hBX with rfl
    exact vx_out (fun x h => (hxt x h).elim) hlocks hce hcv hcl (fun t ht hW9 => ⟨(), trivial, ⟨rfl, q_RW_mk hP hK hD [1] [0] rfl rfl (by decide) rfl ht hW9⟩, hS.F ht⟩) hS.2.2 (Nat.le_of_ble_eq_true rfl) (Nat.le_of_ble_eq_true rfl)
  · exact w_1314.elim
def wzEL_ask_set_b : List Cond := [.codeWith yL_ask cL_ask 4 (some .int) ttL_ask, .methodLink RL 73 yL_asked, .static yL_asked, .initialized RL, .code yL_asked cL_asked 3 (some .int), .methodLink RL 146 yX6_set, .instanceMethod yX6_set, .selects RX6 yX6_set yX6_set, .initialized RX6, .code yX6_set cX6_set 6 (some .int), .methodLink RX6 75 yX6_checkRange, .static yX6_checkRange, .code yX6_checkRange cX6_checkRange 3 none, .classLink RX6 118 "java/lang/IllegalArgumentException", .initialized "java/lang/IllegalArgumentException", .classLink RL 79 "java/lang/IndexOutOfBoundsException", .classLink RL 82 "java/lang/IllegalArgumentException", .constant RL 84 (-2000000002)]
def wzL_ask_set_b : List Cond := wzEL_ask_set_b ++ ((vx_atS RX6 122 "java/lang/IllegalArgumentException" ["java/lang/RuntimeException", "java/lang/Exception"]).filter goodWord)
theorem zgEL_ask_set_b : wzEL_ask_set_b.all goodWord = true := by decide +kernel
theorem ztL_ask_set_b_X6_122 : ∀ w ∈ (vx_atS RX6 122 "java/lang/IllegalArgumentException" ["java/lang/RuntimeException", "java/lang/Exception"]).filter goodWord, w ∈ wzL_ask_set_b := (fun _ h => (List.mem_append_right _ h))
theorem gzL_ask_set_b_L_asked_set_b_73 : GoodIn wzL_ask_set_b (va_wsS RL 73 yL_asked wzL_asked_set_b) := (goodIn_app (z_lift (goodIn_r _ [1, 2, 3] rfl (by decide +kernel))) (goodIn_app (z_lift (goodIn_r wzEL_asked_set_b [4, 5, 6, 7, 8, 9, 10, 11, 12, 13, 14] rfl zgEL_asked_set_b)) (goodIn_sub (fun _ h => (List.mem_append_right _ h)) zgV_X6_122)))
set_option maxHeartbeats 4000000 in
set_option maxRecDepth 100000 in
theorem zc_L_ask_set_b (l : Launch) (hnt : l.stackTraces = false) (D : va_G) (G : Nat × Nat × (Nat → Int32)) (xo : Nat) (va : Nat) (xg : Nat) (gc : Int32) (xp : Nat) (pc : Int32) (xq : Nat) (qc : Int32) (r1 : Nat) (r2 : Nat) (r3 : Nat) (r4 : Nat) (se : Nat) (ts : Int32) (hou : Int32) (dr : Int32) (su : Int32) (br : Int32) (ci : ClassId) (sz : Nat) : vx_Met l yL_ask wzL_ask_set_b ({ frames := 9, cells := 1, slots := 6, locals := 151 }) (va_Pc [.ref xo, .int 84, .ref va] (p_RW D G [(ci, .int)] [(xo, .inr (6, [.ref xg, .int gc, .ref xp, .int pc, .ref xq, .int qc, .ref r1, .ref r2, .ref r3, .ref r4, .ref se, .int ts, .int hou, .int dr, .int su, .int br])), (va, .inl (ci, 3, .inl (zi [1, 1, 0])))] sz)) (va_Qi (fun (r : Int32) (u : Unit) => r = (-2000000002)) (fun (u : Unit) (t : State) => q_RW D [] [(xo, .inr (6, [.ref xg, .int gc, .ref xp, .int pc, .ref xq, .int qc, .ref r1, .ref r2, .ref r3, .ref r4, .ref se, .int ts, .int hou, .int dr, .int su, .int br]))] (va_A [(xo, .inr (6, [.ref xg, .int gc, .ref xp, .int pc, .ref xq, .int qc, .ref r1, .ref r2, .ref r3, .ref r4, .ref se, .int ts, .int hou, .int dr, .int su, .int br])), (va, .inl (ci, 3, .inl (zi [1, 1, 0])))] sz) t) (va_A [(xo, .inr (6, [.ref xg, .int gc, .ref xp, .int pc, .ref xq, .int qc, .ref r1, .ref r2, .ref r3, .ref r4, .ref se, .int ts, .int hou, .int dr, .int su, .int br])), (va, .inl (ci, 3, .inl (zi [1, 1, 0])))] sz)) (vx_X (fun (_ : Unit) => True) (fun E (_ : Unit) (_ : State) => False) (va_A [(xo, .inr (6, [.ref xg, .int gc, .ref xp, .int pc, .ref xq, .int qc, .ref r1, .ref r2, .ref r3, .ref r4, .ref se, .int ts, .int hou, .int dr, .int su, .int br])), (va, .inl (ci, 3, .inl (zi [1, 1, 0])))] sz)) 1 6 (va_A [(xo, .inr (6, [.ref xg, .int gc, .ref xp, .int pc, .ref xq, .int qc, .ref r1, .ref r2, .ref r3, .ref r4, .ref se, .int ts, .int hou, .int dr, .int su, .int br])), (va, .inl (ci, 3, .inl (zi [1, 1, 0])))] sz) := by
  refine vx_ofWH (cc := cL_ask) (maxL := 4) (ret := (some .int)) (by decide) rfl ?_
  intro p e s m args below meth c s₁ B hml hv
  obtain ⟨rfl, hsz, hP, hK, hD0, hT, hZ⟩ := hv
  have hx := B.exec
  have hb := B.bytes
  have hr := B.returns
  have hts := atoms_spec (ws := wzL_ask_set_b) B.pre
  have hown : s.vm.findClass RL = some m.cls := findClass_of_methodNamed B.named
  have hlocks := B.notSynchronized
  have hxe := vx_table (x := yL_ask) B (hts _ List.mem_cons_self)
  subst hsz
  have hD := hD0.self (sz := s.heap.size)
  generalize hAe : va_A [(xo, .inr (6, [.ref xg, .int gc, .ref xp, .int pc, .ref xq, .int qc, .ref r1, .ref r2, .ref r3, .ref r4, .ref se, .int ts, .int hou, .int dr, .int su, .int br])), (va, .inl (ci, 3, .inl (zi [1, 1, 0])))] s.heap.size = A at hD hZ ⊢
  have hA : ∀ q : Nat, s.heap.size ≤ q → A q := fun q h => by rw [← hAe]; exact Or.inr h
  have hS : va_S A s.heap s.heap [] := va_S.rf
  have hl := lv_entry ([.ref xo, .int 84, .ref va]) (n := 4) (Nat.le_of_ble_eq_true rfl)
  rw [lg_entry_eq]
  generalize (lg_sl ([.ref xo, .int 84, .ref va]) ++ List.replicate (4 - (lg_sl ([.ref xo, .int 84, .ref va])).length) Slot.unset).toArray = ls at hl ⊢
  have hl : lv_has ls 4 [(0, .ref xo), (1, .int 84), (2, .ref va)] := hl
  refine lv_iload_n hx hb dL_ask_0 rfl (lv_at hl 1 rfl) ?_
  refine lv_tableIn (off := 460) (tgt := 461) hx hb dL_ask_1 (by decide +kernel) (by decide +kernel) (by decide +kernel) (by decide) ?_
  refine lv_aload_n hx hb dL_ask_461 rfl (lv_at hl 0 rfl) ?_
  refine lv_iload_n hx hb dL_ask_462 rfl (lv_at hl 1 rfl) ?_
  refine lv_aload_n hx hb dL_ask_463 rfl (lv_at hl 2 rfl) ?_
  have hFc := va_free (wc := [(xo, .inr (6, [.ref xg, .int gc, .ref xp, .int pc, .ref xq, .int qc, .ref r1, .ref r2, .ref r3, .ref r4, .ref se, .int ts, .int hou, .int dr, .int su, .int br])), (va, .inl (ci, 3, .inl (zi [1, 1, 0])))]) hD hS hA [0, 1] rfl
  refine vx_calli (vx_runS (As := [.ref xo, .int 84, .ref va]) (rest := []) ⟨hx, hb, hml, hown, hts⟩ (zc_L_asked_set_b l hnt D G xo va xg gc xp pc xq qc r1 r2 r3 r4 se ts hou dr su br ci s.heap.size) (cwS 3 hts gzL_ask_set_b_L_asked_set_b_73 rfl rfl rfl (by decide +kernel) ⟨(Nat.le_of_ble_eq_true rfl), (Nat.le_of_ble_eq_true rfl)⟩) ⟨p_RW_blind, (p_RW_at (tc := [(ci, .int)]) (wc := [(xo, .inr (6, [.ref xg, .int gc, .ref xp, .int pc, .ref xq, .int qc, .ref r1, .ref r2, .ref r3, .ref r4, .ref se, .int ts, .int hou, .int dr, .int su, .int br])), (va, .inl (ci, 3, .inl (zi [1, 1, 0])))]) hP hK hD hS hA hT hZ [0, 1] [0] rfl rfl (by decide) rfl [.ref xo, .int 84, .ref va])⟩ rfl rfl hl.1 rfl (lv_room (Nat.le_of_ble_eq_true rfl)) dL_ask_464 ⟨(Nat.le_of_ble_eq_true rfl), (Nat.le_of_ble_eq_true rfl)⟩) hS (fun q _ h => hFc q h) hFc (fun q _ h => hFc q h) (fun E ce q9 u t H locs ht hvm hpx hBX hz1 hk1 hS hce hcv hcl => ?_) (fun r_1315 u t H locs ht hvm w_1316 hB hz1 hk1 hS => ?_)
  · obtain ⟨hBX, hB⟩ := hBX
    obtain ⟨hP, hD, hK⟩ := q_join (D := D) (wc := [(xo, .inr (6, [.ref xg, .int gc, .ref xp, .int pc, .ref xq, .int qc, .ref r1, .ref r2, .ref r3, .ref r4, .ref se, .int ts, .int hou, .int dr, .int su, .int br])), (va, .inl (ci, 3, .inl (zi [1, 1, 0])))]) (wr := []) (w1 := [(xo, .inr (6, [.ref xg, .int gc, .ref xp, .int pc, .ref xq, .int qc, .ref r1, .ref r2, .ref r3, .ref r4, .ref se, .int ts, .int hou, .int dr, .int su, .int br]))]) (tyr := []) (ty1 := [(ci, .int)]) hP hD hK [0, 1] [] [] rfl rfl (by decide) (by decide) rfl hFc hk1 ht hvm hB
    have hP : va_P D vwCl [(xo, .inr (6, [.ref xg, .int gc, .ref xp, .int pc, .ref xq, .int qc, .ref r1, .ref r2, .ref r3, .ref r4, .ref se, .int ts, .int hou, .int dr, .int su, .int br]))] H := hP
    have hD : va_D A [(xo, .inr (6, [.ref xg, .int gc, .ref xp, .int pc, .ref xq, .int qc, .ref r1, .ref r2, .ref r3, .ref r4, .ref se, .int ts, .int hou, .int dr, .int su, .int br]))] := hD
    have hK : va_K D vwCl [(ci, .int)] s := hK
    have hBX : (E = "java/lang/IllegalArgumentException") := hBX
    rcases hBX with rfl
    refine z_catch (own := RL) (name := "java/lang/IllegalArgumentException") (hh := ttL_ask) (x := ⟨461, 467, 472, 82⟩) hown hxe 39 rfl [(79, "java/lang/IndexOutOfBoundsException")] (by decide +kernel) (List.forall_mem_cons.mpr ⟨⟨by decide, (hts (.classLink RL 79 "java/lang/IndexOutOfBoundsException") (by decide +kernel)), hT.2.2.2.1 ("java/lang/IllegalArgumentException", "java/lang/IndexOutOfBoundsException") (by decide +kernel)⟩, (fun _ h => absurd h List.not_mem_nil)⟩) (by decide) (by decide) (hts (.classLink RL 82 "java/lang/IllegalArgumentException") (by decide +kernel)) (va_Nw.use rfl (hT.2.2.1 ("java/lang/IllegalArgumentException", "java/lang/IllegalArgumentException") (by decide +kernel))) hce hcv hcl ?_
    refine W.eq (g2 := F0 m 472 ls [.ref q9]) rfl ?_
    refine lv_astore_n (lv' := [(3, .ref q9), (0, .ref xo), (1, .int 84), (2, .ref va)]) hx hb dL_ask_472 rfl hl (by decide) rfl (fun ls hl => ?_)
    refine lv_ldc (v := (-2000000002)) hx hb hown (hts (.constant RL 84 (-2000000002)) (by decide +kernel)) dL_ask_473 ?_
    refine vx_ret ?_
    exact W.iret (v := (-2000000002)) hx hb hr (fun t ht hW => ⟨⟨(-2000000002), (), rfl, rfl, q_RW_mk hP hK hD [0] [] rfl rfl (by decide) rfl ht hW.alike⟩, hS.F ht⟩) hS.2.2 dL_ask_475
  · exact w_1316.elim
def wzEL_asked_set_n : List Cond := [.code yL_asked cL_asked 3 (some .int), .methodLink RL 146 yX6_set, .instanceMethod yX6_set, .selects RX6 yX6_set yX6_set, .initialized RX6, .code yX6_set cX6_set 6 (some .int), .methodLink RX6 75 yX6_checkRange, .static yX6_checkRange, .code yX6_checkRange cX6_checkRange 3 none, .fieldLink RX6 56 "Gatherhouse" "search" "LGatherhouse$SetSearch;", .code yX5_begin cX5_begin 1 none, .fieldLink RX5 21 "Gatherhouse$SetSearch" "size" "I", .constant RX5 36 (2147483647), .fieldLink RX5 25 "Gatherhouse$SetSearch" "bestApart" "I", .fieldLink RX5 28 "Gatherhouse$SetSearch" "bestMass" "I", .fieldLink RX5 31 "Gatherhouse$SetSearch" "bestChoice" "I", .initialized RX5, .instanceMethod yX5_begin, .selects RX5 yX5_begin yX5_begin, .fieldLink RX6 30 "Gatherhouse" "pieces" "[LGatherhouse$Piece;", .classLink RX6 280 "java/util/NoSuchElementException", .initialized "java/util/NoSuchElementException"]
def wzL_asked_set_n : List Cond := wzEL_asked_set_n ++ (u_ws RX6 TX6 16 ++ (u_ws RX5 TX5 7 ++ ((z_atN RX6 284 "java/util/NoSuchElementException" "java/lang/RuntimeException" ["java/lang/Exception"]).filter goodWord)))
theorem zgEL_asked_set_n : wzEL_asked_set_n.all goodWord = true := by decide +kernel
theorem zuL_asked_set_n_X6 : ∀ w ∈ u_ws RX6 TX6 16, w ∈ wzL_asked_set_n := (fun _ h => (List.mem_append_right _ (List.mem_append_left _ h)))
theorem zuL_asked_set_n_X5 : ∀ w ∈ u_ws RX5 TX5 7, w ∈ wzL_asked_set_n := (fun _ h => (List.mem_append_right _ (List.mem_append_right _ (List.mem_append_left _ h))))
theorem ztL_asked_set_n_X6_284 : ∀ w ∈ (z_atN RX6 284 "java/util/NoSuchElementException" "java/lang/RuntimeException" ["java/lang/Exception"]).filter goodWord, w ∈ wzL_asked_set_n := (fun _ h => (List.mem_append_right _ (List.mem_append_right _ (List.mem_append_right _ h))))
theorem gzL_asked_set_n_X6_set_n_146 : GoodIn wzL_asked_set_n (wsV RL 146 RX6 yX6_set wzX6_set_n) := (goodIn_app (z_lift (goodIn_r _ [1, 2, 3, 4] rfl (by decide +kernel))) (goodIn_app (z_lift (goodIn_r wzEX6_set_n [5, 6, 7, 4, 8, 9, 10, 11, 12, 13, 14, 15, 16, 17, 18, 19, 20, 21] rfl zgEX6_set_n)) (goodIn_app (goodIn_sub (fun _ h => (List.mem_append_right _ (List.mem_append_left _ h))) zgU_X6) (goodIn_app (goodIn_sub (fun _ h => (List.mem_append_right _ (List.mem_append_right _ (List.mem_append_left _ h)))) zgU_X5) (goodIn_sub (fun _ h => (List.mem_append_right _ (List.mem_append_right _ (List.mem_append_right _ h)))) zgV_X6_284)))))
set_option maxHeartbeats 4000000 in
set_option maxRecDepth 100000 in
theorem zc_L_asked_set_n (l : Launch) (hnt : l.stackTraces = false) (D : va_G) (G : Nat × Nat × (Nat → Int32)) (xo : Nat) (va : Nat) (xg : Nat) (gc : Int32) (xp : Nat) (pc : Int32) (xq : Nat) (qc : Int32) (r1 : Nat) (r2 : Nat) (r3 : Nat) (r4 : Nat) (se : Nat) (ts : Int32) (hou : Int32) (dr : Int32) (su : Int32) (br : Int32) (cq : ClassId) (n1 : Nat) (n2 : Nat) (n3 : Nat) (ci : ClassId) (sz : Nat) : vx_Met l yL_asked wzL_asked_set_n ({ frames := 7, cells := 1, slots := 6, locals := 107 }) (va_Pc [.ref xo, .int 84, .ref va] (p_RW D G [(cq, .object "Gatherhouse$Piece"), (ci, .int)] [(xo, .inr (6, [.ref xg, .int gc, .ref xp, .int pc, .ref xq, .int qc, .ref r1, .ref r2, .ref r3, .ref r4, .ref se, .int ts, .int hou, .int dr, .int su, .int br])), (xq, .inl (cq, 16, .inr (.inr (.inr (.inr (zq [none, none, none, none, none, none, none, none, none, none, none, none, none, none, none, none])))))), (se, .inr (5, [.ref n1, .ref n2, .ref n3, .int 0, .int 0, .int 0, .int 0])), (va, .inl (ci, 3, .inl (zi [2, 1, 0])))] sz)) (va_Qi (fun (r : Int32) (u : Unit) => False) (fun (u : Unit) (t : State) => q_RW D [(cq, .object "Gatherhouse$Piece")] [(xo, .inr (6, [.ref xg, .int gc, .ref xp, .int pc, .ref xq, .int qc, .ref r1, .ref r2, .ref r3, .ref r4, .ref se, .int ts, .int hou, .int dr, .int su, .int br])), (xq, .inl (cq, 16, .inr (.inr (.inr (.inr (zq [none, none, none, none, none, none, none, none, none, none, none, none, none, none, none, none])))))), (se, .inr (5, [.ref n1, .ref n2, .ref n3, .int 0, .int 0, .int 0, .int 0]))] (va_A [(xo, .inr (6, [.ref xg, .int gc, .ref xp, .int pc, .ref xq, .int qc, .ref r1, .ref r2, .ref r3, .ref r4, .ref se, .int ts, .int hou, .int dr, .int su, .int br])), (xq, .inl (cq, 16, .inr (.inr (.inr (.inr (zq [none, none, none, none, none, none, none, none, none, none, none, none, none, none, none, none])))))), (se, .inr (5, [.ref n1, .ref n2, .ref n3, .int 0, .int 0, .int 0, .int 0])), (va, .inl (ci, 3, .inl (zi [2, 1, 0])))] sz) t) (va_A [(xo, .inr (6, [.ref xg, .int gc, .ref xp, .int pc, .ref xq, .int qc, .ref r1, .ref r2, .ref r3, .ref r4, .ref se, .int ts, .int hou, .int dr, .int su, .int br])), (xq, .inl (cq, 16, .inr (.inr (.inr (.inr (zq [none, none, none, none, none, none, none, none, none, none, none, none, none, none, none, none])))))), (se, .inr (5, [.ref n1, .ref n2, .ref n3, .int 0, .int 0, .int 0, .int 0])), (va, .inl (ci, 3, .inl (zi [2, 1, 0])))] sz)) (vx_X (fun (_ : Unit) => True) (fun E (_ : Unit) (t : State) => ((E = "java/util/NoSuchElementException")) ∧ q_RW D [(cq, .object "Gatherhouse$Piece"), (ci, .int)] [(xo, .inr (6, [.ref xg, .int gc, .ref xp, .int pc, .ref xq, .int qc, .ref r1, .ref r2, .ref r3, .ref r4, .ref se, .int ts, .int hou, .int dr, .int su, .int br])), (xq, .inl (cq, 16, .inr (.inr (.inr (.inr (zq [none, none, none, none, none, none, none, none, none, none, none, none, none, none, none, none])))))), (se, .inr (5, [.ref n1, .ref n2, .ref n3, .int 0, .int 2147483647, .int 2147483647, .int 0]))] (va_A [(xo, .inr (6, [.ref xg, .int gc, .ref xp, .int pc, .ref xq, .int qc, .ref r1, .ref r2, .ref r3, .ref r4, .ref se, .int ts, .int hou, .int dr, .int su, .int br])), (xq, .inl (cq, 16, .inr (.inr (.inr (.inr (zq [none, none, none, none, none, none, none, none, none, none, none, none, none, none, none, none])))))), (se, .inr (5, [.ref n1, .ref n2, .ref n3, .int 0, .int 0, .int 0, .int 0])), (va, .inl (ci, 3, .inl (zi [2, 1, 0])))] sz) t) (va_A [(xo, .inr (6, [.ref xg, .int gc, .ref xp, .int pc, .ref xq, .int qc, .ref r1, .ref r2, .ref r3, .ref r4, .ref se, .int ts, .int hou, .int dr, .int su, .int br])), (xq, .inl (cq, 16, .inr (.inr (.inr (.inr (zq [none, none, none, none, none, none, none, none, none, none, none, none, none, none, none, none])))))), (se, .inr (5, [.ref n1, .ref n2, .ref n3, .int 0, .int 0, .int 0, .int 0])), (va, .inl (ci, 3, .inl (zi [2, 1, 0])))] sz)) 1 6 (va_A [(xo, .inr (6, [.ref xg, .int gc, .ref xp, .int pc, .ref xq, .int qc, .ref r1, .ref r2, .ref r3, .ref r4, .ref se, .int ts, .int hou, .int dr, .int su, .int br])), (xq, .inl (cq, 16, .inr (.inr (.inr (.inr (zq [none, none, none, none, none, none, none, none, none, none, none, none, none, none, none, none])))))), (se, .inr (5, [.ref n1, .ref n2, .ref n3, .int 0, .int 0, .int 0, .int 0])), (va, .inl (ci, 3, .inl (zi [2, 1, 0])))] sz) := by
  refine vx_ofW (cc := cL_asked) (maxL := 3) (ret := (some .int)) (by decide) rfl ?_
  intro p e s m args below meth c s₁ B hml hxt hv
  obtain ⟨rfl, hsz, hP, hK, hD0, hT, hZ⟩ := hv
  have hx := B.exec
  have hb := B.bytes
  have hr := B.returns
  have hts := atoms_spec (ws := wzL_asked_set_n) B.pre
  have hown : s.vm.findClass RL = some m.cls := findClass_of_methodNamed B.named
  have hlocks := B.notSynchronized
  subst hsz
  have hD := hD0.self (sz := s.heap.size)
  generalize hAe : va_A [(xo, .inr (6, [.ref xg, .int gc, .ref xp, .int pc, .ref xq, .int qc, .ref r1, .ref r2, .ref r3, .ref r4, .ref se, .int ts, .int hou, .int dr, .int su, .int br])), (xq, .inl (cq, 16, .inr (.inr (.inr (.inr (zq [none, none, none, none, none, none, none, none, none, none, none, none, none, none, none, none])))))), (se, .inr (5, [.ref n1, .ref n2, .ref n3, .int 0, .int 0, .int 0, .int 0])), (va, .inl (ci, 3, .inl (zi [2, 1, 0])))] s.heap.size = A at hD hZ ⊢
  have hA : ∀ q : Nat, s.heap.size ≤ q → A q := fun q h => by rw [← hAe]; exact Or.inr h
  have hS : va_S A s.heap s.heap [] := va_S.rf
  have hl := lv_entry ([.ref xo, .int 84, .ref va]) (n := 3) (Nat.le_of_ble_eq_true rfl)
  rw [lg_entry_eq]
  generalize (lg_sl ([.ref xo, .int 84, .ref va]) ++ List.replicate (3 - (lg_sl ([.ref xo, .int 84, .ref va])).length) Slot.unset).toArray = ls at hl ⊢
  have hl : lv_has ls 3 [(0, .ref xo), (1, .int 84), (2, .ref va)] := hl
  refine lv_iload_n hx hb dL_asked_0 rfl (lv_at hl 1 rfl) ?_
  refine lv_tableIn (off := 399) (tgt := 400) hx hb dL_asked_1 (by decide +kernel) (by decide +kernel) (by decide +kernel) (by decide) ?_
  refine lv_aload_n hx hb dL_asked_400 rfl (lv_at hl 0 rfl) ?_
  refine lv_aload_n hx hb dL_asked_401 rfl (lv_at hl 2 rfl) ?_
  refine lv_iconst (v := 0) hx hb dL_asked_402 (by decide) ?_
  refine va_iald (D := D) (cl := vwCl) hx hb hK hP 3 1 rfl rfl (vp_in_nI (n := 0) (N := 3) (by decide) (by decide)) dL_asked_403 ?_
  refine W.eq (g2 := F0 m 404 ls [.int 2, .ref xo]) rfl ?_
  refine lv_aload_n hx hb dL_asked_404 rfl (lv_at hl 2 rfl) ?_
  refine lv_iconst (v := 1) hx hb dL_asked_405 (by decide) ?_
  refine va_iald (D := D) (cl := vwCl) hx hb hK hP 3 1 rfl rfl (vp_in_nI (n := 1) (N := 3) (by decide) (by decide)) dL_asked_406 ?_
  refine W.eq (g2 := F0 m 407 ls [.int 1, .int 2, .ref xo]) rfl ?_
  refine lv_aload_n hx hb dL_asked_407 rfl (lv_at hl 2 rfl) ?_
  refine lv_iconst (v := 2) hx hb dL_asked_408 (by decide) ?_
  refine va_iald (D := D) (cl := vwCl) hx hb hK hP 3 1 rfl rfl (vp_in_nI (n := 2) (N := 3) (by decide) (by decide)) dL_asked_409 ?_
  refine W.eq (g2 := F0 m 410 ls [.int 0, .int 1, .int 2, .ref xo]) rfl ?_
  have hFc := va_free (wc := [(xo, .inr (6, [.ref xg, .int gc, .ref xp, .int pc, .ref xq, .int qc, .ref r1, .ref r2, .ref r3, .ref r4, .ref se, .int ts, .int hou, .int dr, .int su, .int br])), (xq, .inl (cq, 16, .inr (.inr (.inr (.inr (zq [none, none, none, none, none, none, none, none, none, none, none, none, none, none, none, none])))))), (se, .inr (5, [.ref n1, .ref n2, .ref n3, .int 0, .int 0, .int 0, .int 0]))]) hD hS hA [0, 1, 2] rfl
  refine vx_calli (vx_runV (As := [.int 2, .int 1, .int 0]) (rest := []) ⟨hx, hb, hml, hown, hts⟩ (zc_X6_set_n l hnt D G xo xg gc xp pc xq qc r1 r2 r3 r4 se ts hou dr su br cq n1 n2 n3 s.heap.size) (cwV 3 hts gzL_asked_set_n_X6_set_n_146 rfl rfl rfl (by decide +kernel) ⟨(Nat.le_of_ble_eq_true rfl), (Nat.le_of_ble_eq_true rfl)⟩) ⟨p_RW_blind, va_recv hK hP (ci := 6) (q0 := 0) rfl rfl, (p_RW_at (tc := [(cq, .object "Gatherhouse$Piece")]) (wc := [(xo, .inr (6, [.ref xg, .int gc, .ref xp, .int pc, .ref xq, .int qc, .ref r1, .ref r2, .ref r3, .ref r4, .ref se, .int ts, .int hou, .int dr, .int su, .int br])), (xq, .inl (cq, 16, .inr (.inr (.inr (.inr (zq [none, none, none, none, none, none, none, none, none, none, none, none, none, none, none, none])))))), (se, .inr (5, [.ref n1, .ref n2, .ref n3, .int 0, .int 0, .int 0, .int 0]))]) hP hK hD hS hA hT hZ [0, 1, 2] [0] rfl rfl (by decide) rfl [.ref xo, .int 2, .int 1, .int 0])⟩ rfl rfl hl.1 rfl (lv_room (Nat.le_of_ble_eq_true rfl)) dL_asked_410 ⟨(Nat.le_of_ble_eq_true rfl), (Nat.le_of_ble_eq_true rfl)⟩) hS (fun q _ h => hFc q h) hFc (fun q _ h => hFc q h) (fun E ce q9 u t H locs ht hvm hpx hBX hz1 hk1 hS hce hcv hcl => ?_) (fun r_1317 u t H locs ht hvm w_1318 hB hz1 hk1 hS => ?_)
  · obtain ⟨hBX, hB⟩ := hBX
    obtain ⟨hP, hD, hK⟩ := q_join (D := D) (wc := [(xo, .inr (6, [.ref xg, .int gc, .ref xp, .int pc, .ref xq, .int qc, .ref r1, .ref r2, .ref r3, .ref r4, .ref se, .int ts, .int hou, .int dr, .int su, .int br])), (xq, .inl (cq, 16, .inr (.inr (.inr (.inr (zq [none, none, none, none, none, none, none, none, none, none, none, none, none, none, none, none])))))), (se, .inr (5, [.ref n1, .ref n2, .ref n3, .int 0, .int 0, .int 0, .int 0]))]) (wr := [(va, .inl (ci, 3, .inl (zi [2, 1, 0])))]) (w1 := [(xo, .inr (6, [.ref xg, .int gc, .ref xp, .int pc, .ref xq, .int qc, .ref r1, .ref r2, .ref r3, .ref r4, .ref se, .int ts, .int hou, .int dr, .int su, .int br])), (xq, .inl (cq, 16, .inr (.inr (.inr (.inr (zq [none, none, none, none, none, none, none, none, none, none, none, none, none, none, none, none])))))), (se, .inr (5, [.ref n1, .ref n2, .ref n3, .int 0, .int 2147483647, .int 2147483647, .int 0]))]) (tyr := [(ci, .int)]) (ty1 := [(cq, .object "Gatherhouse$Piece")]) hP hD hK [0, 1, 2] [3] [1] rfl rfl (by decide) (by decide) rfl hFc hk1 ht hvm hB
    have hP : va_P D vwCl [(va, .inl (ci, 3, .inl (zi [2, 1, 0]))), (xo, .inr (6, [.ref xg, .int gc, .ref xp, .int pc, .ref xq, .int qc, .ref r1, .ref r2, .ref r3, .ref r4, .ref se, .int ts, .int hou, .int dr, .int su, .int br])), (xq, .inl (cq, 16, .inr (.inr (.inr (.inr (zq [none, none, none, none, none, none, none, none, none, none, none, none, none, none, none, none])))))), (se, .inr (5, [.ref n1, .ref n2, .ref n3, .int 0, .int 2147483647, .int 2147483647, .int 0]))] H := hP
    have hD : va_D A [(va, .inl (ci, 3, .inl (zi [2, 1, 0]))), (xo, .inr (6, [.ref xg, .int gc, .ref xp, .int pc, .ref xq, .int qc, .ref r1, .ref r2, .ref r3, .ref r4, .ref se, .int ts, .int hou, .int dr, .int su, .int br])), (xq, .inl (cq, 16, .inr (.inr (.inr (.inr (zq [none, none, none, none, none, none, none, none, none, none, none, none, none, none, none, none])))))), (se, .inr (5, [.ref n1, .ref n2, .ref n3, .int 0, .int 2147483647, .int 2147483647, .int 0]))] := hD
    have hK : va_K D vwCl [(ci, .int), (cq, .object "Gatherhouse$Piece")] s := hK
    have hBX : (E = "java/util/NoSuchElementException") := hBX
    rcases hBX with rfl
    exact vx_out (fun x h => (hxt x h).elim) hlocks hce hcv hcl (fun t ht hW9 => ⟨(), trivial, ⟨rfl, q_RW_mk hP hK hD [1, 2, 3] [1, 0] rfl rfl (by decide) rfl ht hW9⟩, hS.F ht⟩) hS.2.2 (Nat.le_of_ble_eq_true rfl) (Nat.le_of_ble_eq_true rfl)
  · exact w_1318.elim
theorem dL_ask_484 : decode cL_ask 484 = .ok (.astore_n 3, 1) := by decide +kernel
theorem dL_ask_485 : decode cL_ask 485 = .ok (.ldc 93, 2) := by decide +kernel
theorem dL_ask_487 : decode cL_ask 487 = .ok (.ireturn, 1) := by decide +kernel
def wzEL_ask_set_n : List Cond := [.codeWith yL_ask cL_ask 4 (some .int) ttL_ask, .methodLink RL 73 yL_asked, .static yL_asked, .initialized RL, .code yL_asked cL_asked 3 (some .int), .methodLink RL 146 yX6_set, .instanceMethod yX6_set, .selects RX6 yX6_set yX6_set, .initialized RX6, .code yX6_set cX6_set 6 (some .int), .methodLink RX6 75 yX6_checkRange, .static yX6_checkRange, .code yX6_checkRange cX6_checkRange 3 none, .fieldLink RX6 56 "Gatherhouse" "search" "LGatherhouse$SetSearch;", .code yX5_begin cX5_begin 1 none, .fieldLink RX5 21 "Gatherhouse$SetSearch" "size" "I", .constant RX5 36 (2147483647), .fieldLink RX5 25 "Gatherhouse$SetSearch" "bestApart" "I", .fieldLink RX5 28 "Gatherhouse$SetSearch" "bestMass" "I", .fieldLink RX5 31 "Gatherhouse$SetSearch" "bestChoice" "I", .initialized RX5, .instanceMethod yX5_begin, .selects RX5 yX5_begin yX5_begin, .fieldLink RX6 30 "Gatherhouse" "pieces" "[LGatherhouse$Piece;", .classLink RX6 280 "java/util/NoSuchElementException", .initialized "java/util/NoSuchElementException", .classLink RL 88 "java/lang/UnsupportedOperationException", .classLink RL 85 "java/lang/IllegalStateException", .classLink RL 82 "java/lang/IllegalArgumentException", .classLink RL 79 "java/lang/IndexOutOfBoundsException", .classLink RL 91 "java/util/NoSuchElementException", .constant RL 93 (-2000000005)]
def wzL_ask_set_n : List Cond := wzEL_ask_set_n ++ (u_ws RX6 TX6 16 ++ (u_ws RX5 TX5 7 ++ ((z_atN RX6 284 "java/util/NoSuchElementException" "java/lang/RuntimeException" ["java/lang/Exception"]).filter goodWord)))
theorem zgEL_ask_set_n : wzEL_ask_set_n.all goodWord = true := by decide +kernel
theorem zuL_ask_set_n_X6 : ∀ w ∈ u_ws RX6 TX6 16, w ∈ wzL_ask_set_n := (fun _ h => (List.mem_append_right _ (List.mem_append_left _ h)))
theorem zuL_ask_set_n_X5 : ∀ w ∈ u_ws RX5 TX5 7, w ∈ wzL_ask_set_n := (fun _ h => (List.mem_append_right _ (List.mem_append_right _ (List.mem_append_left _ h))))
theorem ztL_ask_set_n_X6_284 : ∀ w ∈ (z_atN RX6 284 "java/util/NoSuchElementException" "java/lang/RuntimeException" ["java/lang/Exception"]).filter goodWord, w ∈ wzL_ask_set_n := (fun _ h => (List.mem_append_right _ (List.mem_append_right _ (List.mem_append_right _ h))))
theorem gzL_ask_set_n_L_asked_set_n_73 : GoodIn wzL_ask_set_n (va_wsS RL 73 yL_asked wzL_asked_set_n) := (goodIn_app (z_lift (goodIn_r _ [1, 2, 3] rfl (by decide +kernel))) (goodIn_app (z_lift (goodIn_r wzEL_asked_set_n [4, 5, 6, 7, 8, 9, 10, 11, 12, 13, 14, 15, 16, 17, 18, 19, 20, 21, 22, 23, 24, 25] rfl zgEL_asked_set_n)) (goodIn_app (goodIn_sub (fun _ h => (List.mem_append_right _ (List.mem_append_left _ h))) zgU_X6) (goodIn_app (goodIn_sub (fun _ h => (List.mem_append_right _ (List.mem_append_right _ (List.mem_append_left _ h)))) zgU_X5) (goodIn_sub (fun _ h => (List.mem_append_right _ (List.mem_append_right _ (List.mem_append_right _ h)))) zgV_X6_284)))))
set_option maxHeartbeats 4000000 in
set_option maxRecDepth 100000 in
theorem zc_L_ask_set_n (l : Launch) (hnt : l.stackTraces = false) (D : va_G) (G : Nat × Nat × (Nat → Int32)) (xo : Nat) (va : Nat) (xg : Nat) (gc : Int32) (xp : Nat) (pc : Int32) (xq : Nat) (qc : Int32) (r1 : Nat) (r2 : Nat) (r3 : Nat) (r4 : Nat) (se : Nat) (ts : Int32) (hou : Int32) (dr : Int32) (su : Int32) (br : Int32) (cq : ClassId) (n1 : Nat) (n2 : Nat) (n3 : Nat) (ci : ClassId) (sz : Nat) : vx_Met l yL_ask wzL_ask_set_n ({ frames := 8, cells := 1, slots := 6, locals := 129 }) (va_Pc [.ref xo, .int 84, .ref va] (p_RW D G [(cq, .object "Gatherhouse$Piece"), (ci, .int)] [(xo, .inr (6, [.ref xg, .int gc, .ref xp, .int pc, .ref xq, .int qc, .ref r1, .ref r2, .ref r3, .ref r4, .ref se, .int ts, .int hou, .int dr, .int su, .int br])), (xq, .inl (cq, 16, .inr (.inr (.inr (.inr (zq [none, none, none, none, none, none, none, none, none, none, none, none, none, none, none, none])))))), (se, .inr (5, [.ref n1, .ref n2, .ref n3, .int 0, .int 0, .int 0, .int 0])), (va, .inl (ci, 3, .inl (zi [2, 1, 0])))] sz)) (va_Qi (fun (r : Int32) (u : Unit) => r = (-2000000005)) (fun (u : Unit) (t : State) => q_RW D [(cq, .object "Gatherhouse$Piece")] [(xo, .inr (6, [.ref xg, .int gc, .ref xp, .int pc, .ref xq, .int qc, .ref r1, .ref r2, .ref r3, .ref r4, .ref se, .int ts, .int hou, .int dr, .int su, .int br])), (xq, .inl (cq, 16, .inr (.inr (.inr (.inr (zq [none, none, none, none, none, none, none, none, none, none, none, none, none, none, none, none])))))), (se, .inr (5, [.ref n1, .ref n2, .ref n3, .int 0, .int 2147483647, .int 2147483647, .int 0]))] (va_A [(xo, .inr (6, [.ref xg, .int gc, .ref xp, .int pc, .ref xq, .int qc, .ref r1, .ref r2, .ref r3, .ref r4, .ref se, .int ts, .int hou, .int dr, .int su, .int br])), (xq, .inl (cq, 16, .inr (.inr (.inr (.inr (zq [none, none, none, none, none, none, none, none, none, none, none, none, none, none, none, none])))))), (se, .inr (5, [.ref n1, .ref n2, .ref n3, .int 0, .int 0, .int 0, .int 0])), (va, .inl (ci, 3, .inl (zi [2, 1, 0])))] sz) t) (va_A [(xo, .inr (6, [.ref xg, .int gc, .ref xp, .int pc, .ref xq, .int qc, .ref r1, .ref r2, .ref r3, .ref r4, .ref se, .int ts, .int hou, .int dr, .int su, .int br])), (xq, .inl (cq, 16, .inr (.inr (.inr (.inr (zq [none, none, none, none, none, none, none, none, none, none, none, none, none, none, none, none])))))), (se, .inr (5, [.ref n1, .ref n2, .ref n3, .int 0, .int 0, .int 0, .int 0])), (va, .inl (ci, 3, .inl (zi [2, 1, 0])))] sz)) (vx_X (fun (_ : Unit) => True) (fun E (_ : Unit) (_ : State) => False) (va_A [(xo, .inr (6, [.ref xg, .int gc, .ref xp, .int pc, .ref xq, .int qc, .ref r1, .ref r2, .ref r3, .ref r4, .ref se, .int ts, .int hou, .int dr, .int su, .int br])), (xq, .inl (cq, 16, .inr (.inr (.inr (.inr (zq [none, none, none, none, none, none, none, none, none, none, none, none, none, none, none, none])))))), (se, .inr (5, [.ref n1, .ref n2, .ref n3, .int 0, .int 0, .int 0, .int 0])), (va, .inl (ci, 3, .inl (zi [2, 1, 0])))] sz)) 1 6 (va_A [(xo, .inr (6, [.ref xg, .int gc, .ref xp, .int pc, .ref xq, .int qc, .ref r1, .ref r2, .ref r3, .ref r4, .ref se, .int ts, .int hou, .int dr, .int su, .int br])), (xq, .inl (cq, 16, .inr (.inr (.inr (.inr (zq [none, none, none, none, none, none, none, none, none, none, none, none, none, none, none, none])))))), (se, .inr (5, [.ref n1, .ref n2, .ref n3, .int 0, .int 0, .int 0, .int 0])), (va, .inl (ci, 3, .inl (zi [2, 1, 0])))] sz) := by
  refine vx_ofWH (cc := cL_ask) (maxL := 4) (ret := (some .int)) (by decide) rfl ?_
  intro p e s m args below meth c s₁ B hml hv
  obtain ⟨rfl, hsz, hP, hK, hD0, hT, hZ⟩ := hv
  have hx := B.exec
  have hb := B.bytes
  have hr := B.returns
  have hts := atoms_spec (ws := wzL_ask_set_n) B.pre
  have hown : s.vm.findClass RL = some m.cls := findClass_of_methodNamed B.named
  have hlocks := B.notSynchronized
  have hxe := vx_table (x := yL_ask) B (hts _ List.mem_cons_self)
  subst hsz
  have hD := hD0.self (sz := s.heap.size)
  generalize hAe : va_A [(xo, .inr (6, [.ref xg, .int gc, .ref xp, .int pc, .ref xq, .int qc, .ref r1, .ref r2, .ref r3, .ref r4, .ref se, .int ts, .int hou, .int dr, .int su, .int br])), (xq, .inl (cq, 16, .inr (.inr (.inr (.inr (zq [none, none, none, none, none, none, none, none, none, none, none, none, none, none, none, none])))))), (se, .inr (5, [.ref n1, .ref n2, .ref n3, .int 0, .int 0, .int 0, .int 0])), (va, .inl (ci, 3, .inl (zi [2, 1, 0])))] s.heap.size = A at hD hZ ⊢
  have hA : ∀ q : Nat, s.heap.size ≤ q → A q := fun q h => by rw [← hAe]; exact Or.inr h
  have hS : va_S A s.heap s.heap [] := va_S.rf
  have hl := lv_entry ([.ref xo, .int 84, .ref va]) (n := 4) (Nat.le_of_ble_eq_true rfl)
  rw [lg_entry_eq]
  generalize (lg_sl ([.ref xo, .int 84, .ref va]) ++ List.replicate (4 - (lg_sl ([.ref xo, .int 84, .ref va])).length) Slot.unset).toArray = ls at hl ⊢
  have hl : lv_has ls 4 [(0, .ref xo), (1, .int 84), (2, .ref va)] := hl
  refine lv_iload_n hx hb dL_ask_0 rfl (lv_at hl 1 rfl) ?_
  refine lv_tableIn (off := 460) (tgt := 461) hx hb dL_ask_1 (by decide +kernel) (by decide +kernel) (by decide +kernel) (by decide) ?_
  refine lv_aload_n hx hb dL_ask_461 rfl (lv_at hl 0 rfl) ?_
  refine lv_iload_n hx hb dL_ask_462 rfl (lv_at hl 1 rfl) ?_
  refine lv_aload_n hx hb dL_ask_463 rfl (lv_at hl 2 rfl) ?_
  have hFc := va_free (wc := [(xo, .inr (6, [.ref xg, .int gc, .ref xp, .int pc, .ref xq, .int qc, .ref r1, .ref r2, .ref r3, .ref r4, .ref se, .int ts, .int hou, .int dr, .int su, .int br])), (xq, .inl (cq, 16, .inr (.inr (.inr (.inr (zq [none, none, none, none, none, none, none, none, none, none, none, none, none, none, none, none])))))), (se, .inr (5, [.ref n1, .ref n2, .ref n3, .int 0, .int 0, .int 0, .int 0])), (va, .inl (ci, 3, .inl (zi [2, 1, 0])))]) hD hS hA [0, 1, 2, 3] rfl
  refine vx_calli (vx_runS (As := [.ref xo, .int 84, .ref va]) (rest := []) ⟨hx, hb, hml, hown, hts⟩ (zc_L_asked_set_n l hnt D G xo va xg gc xp pc xq qc r1 r2 r3 r4 se ts hou dr su br cq n1 n2 n3 ci s.heap.size) (cwS 3 hts gzL_ask_set_n_L_asked_set_n_73 rfl rfl rfl (by decide +kernel) ⟨(Nat.le_of_ble_eq_true rfl), (Nat.le_of_ble_eq_true rfl)⟩) ⟨p_RW_blind, (p_RW_at (tc := [(cq, .object "Gatherhouse$Piece"), (ci, .int)]) (wc := [(xo, .inr (6, [.ref xg, .int gc, .ref xp, .int pc, .ref xq, .int qc, .ref r1, .ref r2, .ref r3, .ref r4, .ref se, .int ts, .int hou, .int dr, .int su, .int br])), (xq, .inl (cq, 16, .inr (.inr (.inr (.inr (zq [none, none, none, none, none, none, none, none, none, none, none, none, none, none, none, none])))))), (se, .inr (5, [.ref n1, .ref n2, .ref n3, .int 0, .int 0, .int 0, .int 0])), (va, .inl (ci, 3, .inl (zi [2, 1, 0])))]) hP hK hD hS hA hT hZ [0, 1, 2, 3] [0, 1] rfl rfl (by decide) rfl [.ref xo, .int 84, .ref va])⟩ rfl rfl hl.1 rfl (lv_room (Nat.le_of_ble_eq_true rfl)) dL_ask_464 ⟨(Nat.le_of_ble_eq_true rfl), (Nat.le_of_ble_eq_true rfl)⟩) hS (fun q _ h => hFc q h) hFc (fun q _ h => hFc q h) (fun E ce q9 u t H locs ht hvm hpx hBX hz1 hk1 hS hce hcv hcl => ?_) (fun r_1319 u t H locs ht hvm w_1320 hB hz1 hk1 hS => ?_)
  · obtain ⟨hBX, hB⟩ := hBX
    obtain ⟨hP, hD, hK⟩ := q_join (D := D) (wc := [(xo, .inr (6, [.ref xg, .int gc, .ref xp, .int pc, .ref xq, .int qc, .ref r1, .ref r2, .ref r3, .ref r4, .ref se, .int ts, .int hou, .int dr, .int su, .int br])), (xq, .inl (cq, 16, .inr (.inr (.inr (.inr (zq [none, none, none, none, none, none, none, none, none, none, none, none, none, none, none, none])))))), (se, .inr (5, [.ref n1, .ref n2, .ref n3, .int 0, .int 0, .int 0, .int 0])), (va, .inl (ci, 3, .inl (zi [2, 1, 0])))]) (wr := []) (w1 := [(xo, .inr (6, [.ref xg, .int gc, .ref xp, .int pc, .ref xq, .int qc, .ref r1, .ref r2, .ref r3, .ref r4, .ref se, .int ts, .int hou, .int dr, .int su, .int br])), (xq, .inl (cq, 16, .inr (.inr (.inr (.inr (zq [none, none, none, none, none, none, none, none, none, none, none, none, none, none, none, none])))))), (se, .inr (5, [.ref n1, .ref n2, .ref n3, .int 0, .int 2147483647, .int 2147483647, .int 0]))]) (tyr := []) (ty1 := [(cq, .object "Gatherhouse$Piece"), (ci, .int)]) hP hD hK [0, 1, 2, 3] [] [] rfl rfl (by decide) (by decide) rfl hFc hk1 ht hvm hB
    have hP : va_P D vwCl [(xo, .inr (6, [.ref xg, .int gc, .ref xp, .int pc, .ref xq, .int qc, .ref r1, .ref r2, .ref r3, .ref r4, .ref se, .int ts, .int hou, .int dr, .int su, .int br])), (xq, .inl (cq, 16, .inr (.inr (.inr (.inr (zq [none, none, none, none, none, none, none, none, none, none, none, none, none, none, none, none])))))), (se, .inr (5, [.ref n1, .ref n2, .ref n3, .int 0, .int 2147483647, .int 2147483647, .int 0]))] H := hP
    have hD : va_D A [(xo, .inr (6, [.ref xg, .int gc, .ref xp, .int pc, .ref xq, .int qc, .ref r1, .ref r2, .ref r3, .ref r4, .ref se, .int ts, .int hou, .int dr, .int su, .int br])), (xq, .inl (cq, 16, .inr (.inr (.inr (.inr (zq [none, none, none, none, none, none, none, none, none, none, none, none, none, none, none, none])))))), (se, .inr (5, [.ref n1, .ref n2, .ref n3, .int 0, .int 2147483647, .int 2147483647, .int 0]))] := hD
    have hK : va_K D vwCl [(cq, .object "Gatherhouse$Piece"), (ci, .int)] s := hK
    have hBX : (E = "java/util/NoSuchElementException") := hBX
    rcases hBX with rfl
    refine z_catch (own := RL) (name := "java/util/NoSuchElementException") (hh := ttL_ask) (x := ⟨461, 467, 484, 91⟩) hown hxe 99 rfl [(79, "java/lang/IndexOutOfBoundsException"), (82, "java/lang/IllegalArgumentException"), (85, "java/lang/IllegalStateException"), (88, "java/lang/UnsupportedOperationException")] (by decide +kernel) (List.forall_mem_cons.mpr ⟨⟨by decide, (hts (.classLink RL 79 "java/lang/IndexOutOfBoundsException") (by decide +kernel)), hT.2.2.2.1 ("java/util/NoSuchElementException", "java/lang/IndexOutOfBoundsException") (by decide +kernel)⟩, (List.forall_mem_cons.mpr ⟨⟨by decide, (hts (.classLink RL 82 "java/lang/IllegalArgumentException") (by decide +kernel)), hT.2.2.2.1 ("java/util/NoSuchElementException", "java/lang/IllegalArgumentException") (by decide +kernel)⟩, (List.forall_mem_cons.mpr ⟨⟨by decide, (hts (.classLink RL 85 "java/lang/IllegalStateException") (by decide +kernel)), hT.2.2.2.1 ("java/util/NoSuchElementException", "java/lang/IllegalStateException") (by decide +kernel)⟩, (List.forall_mem_cons.mpr ⟨⟨by decide, (hts (.classLink RL 88 "java/lang/UnsupportedOperationException") (by decide +kernel)), hT.2.2.2.1 ("java/util/NoSuchElementException", "java/lang/UnsupportedOperationException") (by decide +kernel)⟩, (fun _ h => absurd h List.not_mem_nil)⟩)⟩)⟩)⟩) (by decide) (by decide) (hts (.classLink RL 91 "java/util/NoSuchElementException") (by decide +kernel)) (va_Nw.use rfl (hT.2.2.1 ("java/util/NoSuchElementException", "java/util/NoSuchElementException") (by decide +kernel))) hce hcv hcl ?_
    refine W.eq (g2 := F0 m 484 ls [.ref q9]) rfl ?_
    refine lv_astore_n (lv' := [(3, .ref q9), (0, .ref xo), (1, .int 84), (2, .ref va)]) hx hb dL_ask_484 rfl hl (by decide) rfl (fun ls hl => ?_)
    refine lv_ldc (v := (-2000000005)) hx hb hown (hts (.constant RL 93 (-2000000005)) (by decide +kernel)) dL_ask_485 ?_
    refine vx_ret ?_
    exact W.iret (v := (-2000000005)) hx hb hr (fun t ht hW => ⟨⟨(-2000000005), (), rfl, rfl, q_RW_mk hP hK hD [0, 1, 2] [0] rfl rfl (by decide) rfl ht hW.alike⟩, hS.F ht⟩) hS.2.2 dL_ask_487
  · exact w_1320.elim
