/-! THE CLAIM OUT OF ONE WALK OF THE LAW'S BODY. Your part is whole_start (and what it stands on); all else here is the same for every law, but numbers. -/
def R_law : String := "GatherhouseLaw"
def lw_P (b : Addr) (xs : List Int32) (args : Array Value) (s : State) : Prop := args = #[.ref b] ∧ s.IntsAt b xs ∧ xs.length ≤ 5 ∧ (Jvm.Cond.and given_1 narrow_1).before args s = true
/-- what a walk over the start with the record d0 says of its end, said of the start itself -/
theorem lw_closed {s t : State} {o : Outcome} {d0 : Drawn} {L : List Loc} {k n : Nat} (hd0 : s.drawn.sameBut d0 lw_cs) (hv : ∃ v, o = .returned v) (hW : (s.setDrawn d0).WarmedH t.vm) (hs : (s.setDrawn d0).sameButNew ({ t with vm := s.vm } : State) L k n) : State.butDraws s t lw_cs (fun t1 => Framed s o t1 L k n) := by
  have h2 : t.drawn = d0 := congrArg State.drawn hs.1
  refine ⟨⟨hv, hW, State.sameButNew.setDrawn hs s.drawn⟩, ?_, by decide⟩
  rw [h2]
  exact hd0
def lw_Q (_ : Array Value) (s : State) (o : Outcome) (t : State) : Prop := o = .returned (some (.int 1)) ∧ State.butDraws s t lw_cs (fun t1 => Framed s o t1 [] 797152 6710780)
def lw_Z (below : List Frame) (a : Array Value) (s : State) : State → Prop := fun t => ∃ o, t.status = .running ∧ Ended t below o ∧ lw_Q a s o t
/-- the law's own end, with 1 on the stack, nothing written that was there before, its room as the claim has it; d0: the record of draws at this point (at the entry s.drawn: begin with 'refine W.base ?_' and 'have hd0 := Drawn.sameBut.refl s.drawn lw_cs') -/
theorem lw_ret {p : Program} {l : Launch} {e : Env} {s : State} {m : MethodId} {below : List Frame} {meth : Method} {c : Code} {b : Nat} {d0 : Drawn} (hd0 : s.drawn.sameBut d0 lw_cs) (hx : p.tables.exec = Jvm.exec) (hb : c.code = code) (hr : meth.sig.returnType = ret) (hlocks : meth.locks = false) {pc : Nat} {H : Heap} {ls : Array Slot} (hdg : decode code pc = .ok (.ireturn, 1)) : W p l e room_1 (s.setDrawn d0) m #[Value.ref b] below meth c H [] 797152 6710780 (lw_Z below #[Value.ref b] s) (F0 m pc ls [.int 1]) := by
  intro T hT X
  obtain ⟨fs, hret, hrun, hended, hW, hframe⟩ := X.leave (v := some (.int 1)) (hlocks := hlocks) (fun h => by rw [hr] at h; cases h)
  have hmeth' : T.vm.method? m = some meth := X.method'
  refine ⟨T.setFrames fs, ?_, .returned (some (.int 1)), hrun, hended, rfl, lw_closed hd0 ⟨_, rfl⟩ hW hframe⟩
  jvm_step X.here [X.here.top, hx, hb, hdg, hmeth', hr, ret, narrow_b1]
  (try refine ⟨rfl, ?_⟩); (try refine ⟨rfl, ?_⟩)
  first | (intro acts; rw [hret _ acts rfl rfl rfl]) | rw [hret _ _ rfl rfl rfl]
  exact Steps.refl _
/-- what holds at the law's entry: the machine, the code, the tables' words (any of lw_tbl by 'hts w (by decide +kernel)'), the script of L ints xs at the cell b, what the Statement gives of the start (any of its parts by flat_of_before) -/
def lw_At (p : Program) (s : State) (m : MethodId) (meth : Method) (c : Code) (b L : Nat) (xs : Nat → Int32) : Prop :=
  p.tables.exec = Jvm.exec ∧ c.code = code ∧ meth.sig.returnType = ret ∧ c.maxLocals = 9 ∧ s.vm.findClass R_law = some m.cls ∧ (∀ w ∈ lw_tbl, w.before #[Value.ref b] s = true) ∧ va_X b L xs s s.heap ∧ b < s.heap.size ∧ meth.locks = false ∧ (Jvm.Cond.and given_1 narrow_1).before #[Value.ref b] s = true

theorem z_L5 : ∀ L, L < 5 → Int32.ofNat L - 5 < 0 := by decide +kernel
theorem dL_law_0 : decode cL_law 0 = .ok (.new 8, 3) := by decide +kernel
theorem dL_law_3 : decode cL_law 3 = .ok (.dup, 1) := by decide +kernel
theorem dL_law_4 : decode cL_law 4 = .ok (.invokespecial 155, 3) := by decide +kernel
theorem dL_law_7 : decode cL_law 7 = .ok (.astore_n 1, 1) := by decide +kernel
theorem dL_law_8 : decode cL_law 8 = .ok (.new 156, 3) := by decide +kernel
theorem dL_law_11 : decode cL_law 11 = .ok (.dup, 1) := by decide +kernel
theorem dL_law_12 : decode cL_law 12 = .ok (.invokespecial 158, 3) := by decide +kernel
theorem dL_law_15 : decode cL_law 15 = .ok (.astore_n 2, 1) := by decide +kernel
theorem dL_law_16 : decode cL_law 16 = .ok (.iconst 1, 1) := by decide +kernel
theorem dL_law_17 : decode cL_law 17 = .ok (.newarray .long, 2) := by decide +kernel
theorem dL_law_19 : decode cL_law 19 = .ok (.astore_n 3, 1) := by decide +kernel
theorem dL_law_20 : decode cL_law 20 = .ok (.iconst 1, 1) := by decide +kernel
theorem dL_law_21 : decode cL_law 21 = .ok (.newarray .double, 2) := by decide +kernel
theorem dL_law_23 : decode cL_law 23 = .ok (.astore 4, 2) := by decide +kernel
theorem dL_law_25 : decode cL_law 25 = .ok (.iconst 0, 1) := by decide +kernel
theorem dL_law_26 : decode cL_law 26 = .ok (.istore 5, 2) := by decide +kernel
theorem dL_law_3005 : decode cL_law 3005 = .ok (.iconst 1, 1) := by decide +kernel
theorem dL_law_3006 : decode cL_law 3006 = .ok (.ireturn, 1) := by decide +kernel
theorem dL_law_28 : decode cL_law 28 = .ok (.iload 5, 2) := by decide +kernel
theorem dL_law_30 : decode cL_law 30 = .ok (.aload_n 0, 1) := by decide +kernel
theorem dL_law_31 : decode cL_law 31 = .ok (.arraylength, 1) := by decide +kernel
theorem dL_law_32 : decode cL_law 32 = .ok (.iconst 5, 1) := by decide +kernel
theorem dL_law_33 : decode cL_law 33 = .ok (.isub, 1) := by decide +kernel
theorem dL_law_34 : decode cL_law 34 = .ok (.if_icmp .gt 2971, 3) := by decide +kernel
theorem dL_law_2999 : decode cL_law 2999 = .ok (.iinc 5 5, 3) := by decide +kernel
theorem dL_law_3002 : decode cL_law 3002 = .ok (.goto (-2974), 3) := by decide +kernel
theorem dL_law_37 : decode cL_law 37 = .ok (.aload_n 0, 1) := by decide +kernel
theorem dL_law_38 : decode cL_law 38 = .ok (.iload 5, 2) := by decide +kernel
theorem dL_law_40 : decode cL_law 40 = .ok (.iaload, 1) := by decide +kernel
theorem dL_law_41 : decode cL_law 41 = .ok (.bipush 63, 2) := by decide +kernel
theorem dL_law_43 : decode cL_law 43 = .ok (.iand, 1) := by decide +kernel
theorem dL_law_44 : decode cL_law 44 = .ok (.tableswitch 2955 0 46 #[204, 296, 371, 427, 495, 551, 621, 677, 733, 746, 804, 862, 930, 998, 1078, 1158, 1238, 1306, 1362, 1442, 1510, 1566, 1622, 1678, 1734, 1816, 1872, 1928, 1984, 2040, 2124, 2180, 2243, 2299, 2312, 2368, 2381, 2461, 2529, 2609, 2672, 2728, 2784, 2797, 2811, 2877, 2942], 204) := by decide +kernel
set_option maxHeartbeats 4000000 in
set_option maxRecDepth 100000 in
theorem whole_start {p : Program} {e : Env} {s : State} {m : MethodId} {below : List Frame} {meth : Method} {c : Code} (l : Launch) (hflags : l.flags = flags0) {b L : Nat} {xs : Nat → Int32} (hL : L ≤ 5) (C0 : lw_At p s m meth c b L xs) : W p l e room_1 s m #[Value.ref b] below meth c s.heap [] 0 0 (lw_Z below #[Value.ref b] s) (entryFrame m ([Value.ref b] : List Value).toArray 9) := by
  obtain ⟨hx, hb, hr, hml, hown0, hts0, hX, hbl, hlocks, hgv⟩ := id C0
  have hown : s.vm.findClass RL = some m.cls := hown0
  have hts : ∀ w ∈ wzL_law, w.before #[Value.ref b] s = true := fun w h => hts0 w (zwL_in w h)
  have hnt : l.stackTraces = false := by unfold Launch.stackTraces; rw [hflags]; decide
  obtain ⟨A, hAd⟩ : ∃ A : Nat → Prop, A = fun q : Nat => s.heap.size ≤ q := ⟨_, rfl⟩
  have hA : ∀ q : Nat, s.heap.size ≤ q → A q := fun q h => by rw [hAd]; exact h
  have hbA : ¬ A b := by rw [hAd]; exact Nat.not_le.mpr hbl
  obtain ⟨D, hKc⟩ := z_known hts0
  obtain ⟨G, hT, hZ⟩ := z_start hts0 hgv (A := A) (fun a h => by rw [hAd]; exact Nat.not_le.mpr h)
  have hS : va_S A s.heap s.heap [] := va_S.rf
  have hK : va_K D vwCl [] s := ⟨hKc, fun k q h => by simp at h⟩
  have hP : va_P D vwCl [] s.heap := fun k q h => by simp at h
  have hD : va_D A [] := ⟨fun i j p q h => by simp at h, fun k q h => by simp at h⟩
  have hl := lv_entry ([.ref b]) (n := 9) (Nat.le_of_ble_eq_true rfl)
  rw [lg_entry_eq]
  generalize (lg_sl ([.ref b]) ++ List.replicate (9 - (lg_sl ([.ref b])).length) Slot.unset).toArray = ls at hl ⊢
  have hl : lv_has ls 9 [(0, .ref b)] := hl
  have hend : ∀ (H : Heap) (locs : List Loc) (ls : Array Slot), va_S A s.heap H locs → W p l e room_1 s m #[Value.ref b] below meth c H locs 797152 6710780 (lw_Z below #[Value.ref b] s) (F0 m 3005 ls []) := by
    intro H locs ls hS
    refine lv_iconst (v := 1) hx hb dL_law_3005 (by decide) ?_
    refine va_forget (fun q hq => by have h9 := hS.2.2 q hq; rw [hAd] at h9; exact h9) ?_
    exact W.base (lw_ret (Drawn.sameBut.refl s.drawn lw_cs) hx hb hr hlocks dL_law_3006)
  refine va_new (D := D) (cl := vwCl) (ci := 11) (fs := [.null, .int 0, .null, .int 0, .null, .int 0, .null, .null, .null, .null, .null, .int 0, .int 0, .int 0, .int 0, .int 0]) (C := RX6) (T := TX6) (N := 16) hx hb hts zuL_law_X6 tyX6 tyX6_ok hown (hts (.classLink RL 8 RX6) (by decide +kernel)) (hts (.instantiable RX6 16) (by decide +kernel)) (hts (.initialized RX6) (by decide +kernel)) hK hP hD hS hA rfl (fun j hj => by rcases (show j = 0 ∨ j = 1 ∨ j = 2 ∨ j = 3 ∨ j = 4 ∨ j = 5 ∨ j = 6 ∨ j = 7 ∨ j = 8 ∨ j = 9 ∨ j = 10 ∨ j = 11 ∨ j = 12 ∨ j = 13 ∨ j = 14 ∨ j = 15 by omega) with rfl | rfl | rfl | rfl | rfl | rfl | rfl | rfl | rfl | rfl | rfl | rfl | rfl | rfl | rfl | rfl <;> rfl) (Nat.le_of_ble_eq_true rfl) (Nat.le_of_ble_eq_true rfl) dL_law_0 (fun o_1362 H hP hD hS => ?_)
  have hP : va_P D vwCl [(o_1362, .inr (11, [.null, .int 0, .null, .int 0, .null, .int 0, .null, .null, .null, .null, .null, .int 0, .int 0, .int 0, .int 0, .int 0]))] H := hP
  have hD : va_D A [(o_1362, .inr (11, [.null, .int 0, .null, .int 0, .null, .int 0, .null, .null, .null, .null, .null, .int 0, .int 0, .int 0, .int 0, .int 0]))] := hD
  refine W.widen (k := 1) (n := 16) (Nat.le_of_ble_eq_true rfl) (Nat.le_of_ble_eq_true rfl) ?_
  refine lv_dup hx hb dL_law_3 rfl ?_
  have hFc := va_free (wc := [(o_1362, .inr (11, [.null, .int 0, .null, .int 0, .null, .int 0, .null, .null, .null, .null, .null, .int 0, .int 0, .int 0, .int 0, .int 0]))]) hD hS hA [0] rfl
  refine va_callv (va_runI (As := []) (rest := [.ref o_1362]) ⟨hx, hb, hml, hown, hts⟩ (zc_X6_init l D G o_1362 H.size) (cwI 0 hts gzL_law_X6_init_155 rfl rfl rfl (hts (.initialized RX6) (by decide +kernel)) (hts (.methodLink RL 155 yX6_init) (by decide +kernel)) (hts (.instanceMethod yX6_init) (by decide +kernel)) rfl (by decide +kernel) ⟨(Nat.le_of_ble_eq_true rfl), (Nat.le_of_ble_eq_true rfl)⟩) ⟨p_RW_blind, (p_RW_at (tc := []) (wc := [(o_1362, .inr (11, [.null, .int 0, .null, .int 0, .null, .int 0, .null, .null, .null, .null, .null, .int 0, .int 0, .int 0, .int 0, .int 0]))]) hP hK hD hS hA hT hZ [0] [] rfl rfl (by decide) rfl [.ref o_1362])⟩ rfl rfl hl.1 rfl (lv_room (Nat.le_of_ble_eq_true rfl)) dL_law_4 ⟨(Nat.le_of_ble_eq_true rfl), (Nat.le_of_ble_eq_true rfl)⟩) hS (fun q _ h => hFc q h) hFc (fun u t H locs ht hvm w_1364 hB hz1 hk1 hS => ?_)
  obtain ⟨v_1365, v_1366, v_1367, v_1368, v_1369, v_1370, v_1371, v_1372, v_1373, v_1374, v_1375, v_1376, v_1377, v_1378, hB⟩ := hB
  obtain ⟨hP, hD, hK⟩ := q_join (D := D) (wc := [(o_1362, .inr (11, [.null, .int 0, .null, .int 0, .null, .int 0, .null, .null, .null, .null, .null, .int 0, .int 0, .int 0, .int 0, .int 0]))]) (wr := []) (w1 := [(o_1362, .inr (11, [.ref v_1365, .int 0, .ref v_1366, .int 0, .ref v_1367, .int 0, .ref v_1368, .ref v_1369, .ref v_1370, .ref v_1371, .ref v_1372, .int 0, .int 0, .int 40, .int 0, .int 0])), (v_1365, .inl (v_1376, 6, .inr (.inr (.inr (.inr (fun _ => none)))))), (v_1366, .inl (v_1377, 4, .inr (.inr (.inr (.inr (fun _ => none)))))), (v_1367, .inl (v_1378, 16, .inr (.inr (.inr (.inr (fun _ => none)))))), (v_1368, .inr (9, [.int 0, .int 0])), (v_1369, .inr (9, [.int 0, .int 0])), (v_1370, .inr (9, [.int 0, .int 0])), (v_1371, .inr (9, [.int 0, .int 0])), (v_1372, .inr (10, [.ref v_1373, .ref v_1374, .ref v_1375, .int 0, .int 0, .int 0, .int 0]))]) (tyr := []) (ty1 := [(v_1376, .object "Gatherhouse$Glass"), (v_1377, .object "Gatherhouse$Pot"), (v_1378, .object "Gatherhouse$Piece")]) hP hD hK [0] [] [] rfl rfl (by decide) (by decide) rfl hFc hk1 ht hvm hB
  have hP : va_P D vwCl [(o_1362, .inr (11, [.ref v_1365, .int 0, .ref v_1366, .int 0, .ref v_1367, .int 0, .ref v_1368, .ref v_1369, .ref v_1370, .ref v_1371, .ref v_1372, .int 0, .int 0, .int 40, .int 0, .int 0])), (v_1365, .inl (v_1376, 6, .inr (.inr (.inr (.inr (fun _ => none)))))), (v_1366, .inl (v_1377, 4, .inr (.inr (.inr (.inr (fun _ => none)))))), (v_1367, .inl (v_1378, 16, .inr (.inr (.inr (.inr (fun _ => none)))))), (v_1368, .inr (9, [.int 0, .int 0])), (v_1369, .inr (9, [.int 0, .int 0])), (v_1370, .inr (9, [.int 0, .int 0])), (v_1371, .inr (9, [.int 0, .int 0])), (v_1372, .inr (10, [.ref v_1373, .ref v_1374, .ref v_1375, .int 0, .int 0, .int 0, .int 0]))] H := hP
  have hD : va_D A [(o_1362, .inr (11, [.ref v_1365, .int 0, .ref v_1366, .int 0, .ref v_1367, .int 0, .ref v_1368, .ref v_1369, .ref v_1370, .ref v_1371, .ref v_1372, .int 0, .int 0, .int 40, .int 0, .int 0])), (v_1365, .inl (v_1376, 6, .inr (.inr (.inr (.inr (fun _ => none)))))), (v_1366, .inl (v_1377, 4, .inr (.inr (.inr (.inr (fun _ => none)))))), (v_1367, .inl (v_1378, 16, .inr (.inr (.inr (.inr (fun _ => none)))))), (v_1368, .inr (9, [.int 0, .int 0])), (v_1369, .inr (9, [.int 0, .int 0])), (v_1370, .inr (9, [.int 0, .int 0])), (v_1371, .inr (9, [.int 0, .int 0])), (v_1372, .inr (10, [.ref v_1373, .ref v_1374, .ref v_1375, .int 0, .int 0, .int 0, .int 0]))] := hD
  have hK : va_K D vwCl [(v_1376, .object "Gatherhouse$Glass"), (v_1377, .object "Gatherhouse$Pot"), (v_1378, .object "Gatherhouse$Piece")] s := hK
  refine W.widen (k := 12) (n := 105) (Nat.le_of_ble_eq_true rfl) (Nat.le_of_ble_eq_true rfl) ?_
  refine lv_astore_n (lv' := [(1, .ref o_1362), (0, .ref b)]) hx hb dL_law_7 rfl hl (by decide) rfl (fun ls hl => ?_)
  refine va_new (D := D) (cl := vwCl) (ci := 16) (fs := [.int 0, .null, .null, .null, .null, .null, .int 0, .int 0, .int 0, .int 0, .null, .int 0, .int 0]) (C := RX11) (T := TX11) (N := 13) hx hb hts zuL_law_X11 tyX11 tyX11_ok hown (hts (.classLink RL 156 RX11) (by decide +kernel)) (hts (.instantiable RX11 13) (by decide +kernel)) (hts (.initialized RX11) (by decide +kernel)) hK hP hD hS hA rfl (fun j hj => by rcases (show j = 0 ∨ j = 1 ∨ j = 2 ∨ j = 3 ∨ j = 4 ∨ j = 5 ∨ j = 6 ∨ j = 7 ∨ j = 8 ∨ j = 9 ∨ j = 10 ∨ j = 11 ∨ j = 12 by omega) with rfl | rfl | rfl | rfl | rfl | rfl | rfl | rfl | rfl | rfl | rfl | rfl | rfl <;> rfl) (Nat.le_of_ble_eq_true rfl) (Nat.le_of_ble_eq_true rfl) dL_law_8 (fun o_1379 H hP hD hS => ?_)
  have hP : va_P D vwCl [(o_1362, .inr (11, [.ref v_1365, .int 0, .ref v_1366, .int 0, .ref v_1367, .int 0, .ref v_1368, .ref v_1369, .ref v_1370, .ref v_1371, .ref v_1372, .int 0, .int 0, .int 40, .int 0, .int 0])), (v_1365, .inl (v_1376, 6, .inr (.inr (.inr (.inr (fun _ => none)))))), (v_1366, .inl (v_1377, 4, .inr (.inr (.inr (.inr (fun _ => none)))))), (v_1367, .inl (v_1378, 16, .inr (.inr (.inr (.inr (fun _ => none)))))), (v_1368, .inr (9, [.int 0, .int 0])), (v_1369, .inr (9, [.int 0, .int 0])), (v_1370, .inr (9, [.int 0, .int 0])), (v_1371, .inr (9, [.int 0, .int 0])), (v_1372, .inr (10, [.ref v_1373, .ref v_1374, .ref v_1375, .int 0, .int 0, .int 0, .int 0])), (o_1379, .inr (16, [.int 0, .null, .null, .null, .null, .null, .int 0, .int 0, .int 0, .int 0, .null, .int 0, .int 0]))] H := hP
  have hD : va_D A [(o_1362, .inr (11, [.ref v_1365, .int 0, .ref v_1366, .int 0, .ref v_1367, .int 0, .ref v_1368, .ref v_1369, .ref v_1370, .ref v_1371, .ref v_1372, .int 0, .int 0, .int 40, .int 0, .int 0])), (v_1365, .inl (v_1376, 6, .inr (.inr (.inr (.inr (fun _ => none)))))), (v_1366, .inl (v_1377, 4, .inr (.inr (.inr (.inr (fun _ => none)))))), (v_1367, .inl (v_1378, 16, .inr (.inr (.inr (.inr (fun _ => none)))))), (v_1368, .inr (9, [.int 0, .int 0])), (v_1369, .inr (9, [.int 0, .int 0])), (v_1370, .inr (9, [.int 0, .int 0])), (v_1371, .inr (9, [.int 0, .int 0])), (v_1372, .inr (10, [.ref v_1373, .ref v_1374, .ref v_1375, .int 0, .int 0, .int 0, .int 0])), (o_1379, .inr (16, [.int 0, .null, .null, .null, .null, .null, .int 0, .int 0, .int 0, .int 0, .null, .int 0, .int 0]))] := hD
  refine W.widen (k := 13) (n := 118) (Nat.le_of_ble_eq_true rfl) (Nat.le_of_ble_eq_true rfl) ?_
  refine lv_dup hx hb dL_law_11 rfl ?_
  have hFc := va_free (wc := [(o_1379, .inr (16, [.int 0, .null, .null, .null, .null, .null, .int 0, .int 0, .int 0, .int 0, .null, .int 0, .int 0]))]) hD hS hA [9] rfl
  refine va_callv (va_runI (As := []) (rest := [.ref o_1379]) ⟨hx, hb, hml, hown, hts⟩ (zc_X11_init l D G o_1379 H.size) (cwI 0 hts gzL_law_X11_init_158 rfl rfl rfl (hts (.initialized RX11) (by decide +kernel)) (hts (.methodLink RL 158 yX11_init) (by decide +kernel)) (hts (.instanceMethod yX11_init) (by decide +kernel)) rfl (by decide +kernel) ⟨(Nat.le_of_ble_eq_true rfl), (Nat.le_of_ble_eq_true rfl)⟩) ⟨p_RW_blind, (p_RW_at (tc := []) (wc := [(o_1379, .inr (16, [.int 0, .null, .null, .null, .null, .null, .int 0, .int 0, .int 0, .int 0, .null, .int 0, .int 0]))]) hP hK hD hS hA hT hZ [9] [] rfl rfl (by decide) rfl [.ref o_1379])⟩ rfl rfl hl.1 rfl (lv_room (Nat.le_of_ble_eq_true rfl)) dL_law_12 ⟨(Nat.le_of_ble_eq_true rfl), (Nat.le_of_ble_eq_true rfl)⟩) hS (fun q _ h => hFc q h) hFc (fun u t H locs ht hvm w_1381 hB hz1 hk1 hS => ?_)
  obtain ⟨v_1382, v_1383, v_1384, v_1385, v_1386, v_1387, v_1388, hB⟩ := hB
  obtain ⟨hP, hD, hK⟩ := q_join (D := D) (wc := [(o_1379, .inr (16, [.int 0, .null, .null, .null, .null, .null, .int 0, .int 0, .int 0, .int 0, .null, .int 0, .int 0]))]) (wr := [(o_1362, .inr (11, [.ref v_1365, .int 0, .ref v_1366, .int 0, .ref v_1367, .int 0, .ref v_1368, .ref v_1369, .ref v_1370, .ref v_1371, .ref v_1372, .int 0, .int 0, .int 40, .int 0, .int 0])), (v_1365, .inl (v_1376, 6, .inr (.inr (.inr (.inr (fun _ => none)))))), (v_1366, .inl (v_1377, 4, .inr (.inr (.inr (.inr (fun _ => none)))))), (v_1367, .inl (v_1378, 16, .inr (.inr (.inr (.inr (fun _ => none)))))), (v_1368, .inr (9, [.int 0, .int 0])), (v_1369, .inr (9, [.int 0, .int 0])), (v_1370, .inr (9, [.int 0, .int 0])), (v_1371, .inr (9, [.int 0, .int 0])), (v_1372, .inr (10, [.ref v_1373, .ref v_1374, .ref v_1375, .int 0, .int 0, .int 0, .int 0]))]) (w1 := [(o_1379, .inr (16, [.int 0, .ref v_1382, .ref v_1383, .ref v_1384, .ref v_1385, .ref v_1386, .int 0, .int 0, .int 40, .int 0, .null, .int 0, .int 0])), (v_1382, .inr (4, [.int 0, .ref G.1, .int 0])), (v_1383, .inr (4, [.int 0, .ref G.1, .int 0])), (v_1384, .inr (4, [.int 0, .ref G.1, .int 0])), (v_1385, .inl (v_1387, 4, .inl (fun _ => 0))), (v_1386, .inl (v_1388, 4, .inl (fun _ => 0)))]) (tyr := [(v_1376, .object "Gatherhouse$Glass"), (v_1377, .object "Gatherhouse$Pot"), (v_1378, .object "Gatherhouse$Piece")]) (ty1 := [(v_1387, .int), (v_1388, .int)]) hP hD hK [9] [0, 1, 2, 3, 4, 5, 6, 7, 8] [0, 1, 2] rfl rfl (by decide) (by decide) rfl hFc hk1 ht hvm hB
  have hP : va_P D vwCl [(o_1362, .inr (11, [.ref v_1365, .int 0, .ref v_1366, .int 0, .ref v_1367, .int 0, .ref v_1368, .ref v_1369, .ref v_1370, .ref v_1371, .ref v_1372, .int 0, .int 0, .int 40, .int 0, .int 0])), (v_1365, .inl (v_1376, 6, .inr (.inr (.inr (.inr (fun _ => none)))))), (v_1366, .inl (v_1377, 4, .inr (.inr (.inr (.inr (fun _ => none)))))), (v_1367, .inl (v_1378, 16, .inr (.inr (.inr (.inr (fun _ => none)))))), (v_1368, .inr (9, [.int 0, .int 0])), (v_1369, .inr (9, [.int 0, .int 0])), (v_1370, .inr (9, [.int 0, .int 0])), (v_1371, .inr (9, [.int 0, .int 0])), (v_1372, .inr (10, [.ref v_1373, .ref v_1374, .ref v_1375, .int 0, .int 0, .int 0, .int 0])), (o_1379, .inr (16, [.int 0, .ref v_1382, .ref v_1383, .ref v_1384, .ref v_1385, .ref v_1386, .int 0, .int 0, .int 40, .int 0, .null, .int 0, .int 0])), (v_1382, .inr (4, [.int 0, .ref G.1, .int 0])), (v_1383, .inr (4, [.int 0, .ref G.1, .int 0])), (v_1384, .inr (4, [.int 0, .ref G.1, .int 0])), (v_1385, .inl (v_1387, 4, .inl (fun _ => 0))), (v_1386, .inl (v_1388, 4, .inl (fun _ => 0)))] H := hP
  have hD : va_D A [(o_1362, .inr (11, [.ref v_1365, .int 0, .ref v_1366, .int 0, .ref v_1367, .int 0, .ref v_1368, .ref v_1369, .ref v_1370, .ref v_1371, .ref v_1372, .int 0, .int 0, .int 40, .int 0, .int 0])), (v_1365, .inl (v_1376, 6, .inr (.inr (.inr (.inr (fun _ => none)))))), (v_1366, .inl (v_1377, 4, .inr (.inr (.inr (.inr (fun _ => none)))))), (v_1367, .inl (v_1378, 16, .inr (.inr (.inr (.inr (fun _ => none)))))), (v_1368, .inr (9, [.int 0, .int 0])), (v_1369, .inr (9, [.int 0, .int 0])), (v_1370, .inr (9, [.int 0, .int 0])), (v_1371, .inr (9, [.int 0, .int 0])), (v_1372, .inr (10, [.ref v_1373, .ref v_1374, .ref v_1375, .int 0, .int 0, .int 0, .int 0])), (o_1379, .inr (16, [.int 0, .ref v_1382, .ref v_1383, .ref v_1384, .ref v_1385, .ref v_1386, .int 0, .int 0, .int 40, .int 0, .null, .int 0, .int 0])), (v_1382, .inr (4, [.int 0, .ref G.1, .int 0])), (v_1383, .inr (4, [.int 0, .ref G.1, .int 0])), (v_1384, .inr (4, [.int 0, .ref G.1, .int 0])), (v_1385, .inl (v_1387, 4, .inl (fun _ => 0))), (v_1386, .inl (v_1388, 4, .inl (fun _ => 0)))] := hD
  have hK : va_K D vwCl [(v_1376, .object "Gatherhouse$Glass"), (v_1377, .object "Gatherhouse$Pot"), (v_1378, .object "Gatherhouse$Piece"), (v_1387, .int), (v_1388, .int)] s := hK
  refine W.widen (k := 18) (n := 135) (Nat.le_of_ble_eq_true rfl) (Nat.le_of_ble_eq_true rfl) ?_
  refine lv_astore_n (lv' := [(2, .ref o_1379), (1, .ref o_1362), (0, .ref b)]) hx hb dL_law_15 rfl hl (by decide) rfl (fun ls hl => ?_)
  refine lv_iconst (v := 1) hx hb dL_law_16 (by decide) ?_
  refine va_newa (D := D) (cl := vwCl) (atype := .long) (ty := .long) (N' := 1) (a0 := (1, .inr (.inl (fun _ => 0)))) hx hb (hts (.arrayClass .long) (by decide +kernel)) rfl hK hP hD hS hA (fun _ => rfl) (by decide) (by decide) (by decide) (Nat.le_of_ble_eq_true rfl) (Nat.le_of_ble_eq_true rfl) dL_law_17 (fun o_1389 cA_1390 H hK hP hD hS => ?_)
  have hP : va_P D vwCl [(o_1362, .inr (11, [.ref v_1365, .int 0, .ref v_1366, .int 0, .ref v_1367, .int 0, .ref v_1368, .ref v_1369, .ref v_1370, .ref v_1371, .ref v_1372, .int 0, .int 0, .int 40, .int 0, .int 0])), (v_1365, .inl (v_1376, 6, .inr (.inr (.inr (.inr (fun _ => none)))))), (v_1366, .inl (v_1377, 4, .inr (.inr (.inr (.inr (fun _ => none)))))), (v_1367, .inl (v_1378, 16, .inr (.inr (.inr (.inr (fun _ => none)))))), (v_1368, .inr (9, [.int 0, .int 0])), (v_1369, .inr (9, [.int 0, .int 0])), (v_1370, .inr (9, [.int 0, .int 0])), (v_1371, .inr (9, [.int 0, .int 0])), (v_1372, .inr (10, [.ref v_1373, .ref v_1374, .ref v_1375, .int 0, .int 0, .int 0, .int 0])), (o_1379, .inr (16, [.int 0, .ref v_1382, .ref v_1383, .ref v_1384, .ref v_1385, .ref v_1386, .int 0, .int 0, .int 40, .int 0, .null, .int 0, .int 0])), (v_1382, .inr (4, [.int 0, .ref G.1, .int 0])), (v_1383, .inr (4, [.int 0, .ref G.1, .int 0])), (v_1384, .inr (4, [.int 0, .ref G.1, .int 0])), (v_1385, .inl (v_1387, 4, .inl (fun _ => 0))), (v_1386, .inl (v_1388, 4, .inl (fun _ => 0))), (o_1389, .inl (cA_1390, 1, .inr (.inl (fun _ => 0))))] H := hP
  have hD : va_D A [(o_1362, .inr (11, [.ref v_1365, .int 0, .ref v_1366, .int 0, .ref v_1367, .int 0, .ref v_1368, .ref v_1369, .ref v_1370, .ref v_1371, .ref v_1372, .int 0, .int 0, .int 40, .int 0, .int 0])), (v_1365, .inl (v_1376, 6, .inr (.inr (.inr (.inr (fun _ => none)))))), (v_1366, .inl (v_1377, 4, .inr (.inr (.inr (.inr (fun _ => none)))))), (v_1367, .inl (v_1378, 16, .inr (.inr (.inr (.inr (fun _ => none)))))), (v_1368, .inr (9, [.int 0, .int 0])), (v_1369, .inr (9, [.int 0, .int 0])), (v_1370, .inr (9, [.int 0, .int 0])), (v_1371, .inr (9, [.int 0, .int 0])), (v_1372, .inr (10, [.ref v_1373, .ref v_1374, .ref v_1375, .int 0, .int 0, .int 0, .int 0])), (o_1379, .inr (16, [.int 0, .ref v_1382, .ref v_1383, .ref v_1384, .ref v_1385, .ref v_1386, .int 0, .int 0, .int 40, .int 0, .null, .int 0, .int 0])), (v_1382, .inr (4, [.int 0, .ref G.1, .int 0])), (v_1383, .inr (4, [.int 0, .ref G.1, .int 0])), (v_1384, .inr (4, [.int 0, .ref G.1, .int 0])), (v_1385, .inl (v_1387, 4, .inl (fun _ => 0))), (v_1386, .inl (v_1388, 4, .inl (fun _ => 0))), (o_1389, .inl (cA_1390, 1, .inr (.inl (fun _ => 0))))] := hD
  have hK : va_K D vwCl [(v_1376, .object "Gatherhouse$Glass"), (v_1377, .object "Gatherhouse$Pot"), (v_1378, .object "Gatherhouse$Piece"), (v_1387, .int), (v_1388, .int), (cA_1390, .long)] s := hK
  refine W.widen (k := 19) (n := 136) (Nat.le_of_ble_eq_true rfl) (Nat.le_of_ble_eq_true rfl) ?_
  refine lv_astore_n (lv' := [(3, .ref o_1389), (2, .ref o_1379), (1, .ref o_1362), (0, .ref b)]) hx hb dL_law_19 rfl hl (by decide) rfl (fun ls hl => ?_)
  refine lv_iconst (v := 1) hx hb dL_law_20 (by decide) ?_
  refine va_newa (D := D) (cl := vwCl) (atype := .double) (ty := .double) (N' := 1) (a0 := (1, .inr (.inr (.inr (.inl (fun _ => 0)))))) hx hb (hts (.arrayClass .double) (by decide +kernel)) rfl hK hP hD hS hA (fun _ => rfl) (by decide) (by decide) (by decide) (Nat.le_of_ble_eq_true rfl) (Nat.le_of_ble_eq_true rfl) dL_law_21 (fun o_1391 cA_1392 H hK hP hD hS => ?_)
  have hP : va_P D vwCl [(o_1362, .inr (11, [.ref v_1365, .int 0, .ref v_1366, .int 0, .ref v_1367, .int 0, .ref v_1368, .ref v_1369, .ref v_1370, .ref v_1371, .ref v_1372, .int 0, .int 0, .int 40, .int 0, .int 0])), (v_1365, .inl (v_1376, 6, .inr (.inr (.inr (.inr (fun _ => none)))))), (v_1366, .inl (v_1377, 4, .inr (.inr (.inr (.inr (fun _ => none)))))), (v_1367, .inl (v_1378, 16, .inr (.inr (.inr (.inr (fun _ => none)))))), (v_1368, .inr (9, [.int 0, .int 0])), (v_1369, .inr (9, [.int 0, .int 0])), (v_1370, .inr (9, [.int 0, .int 0])), (v_1371, .inr (9, [.int 0, .int 0])), (v_1372, .inr (10, [.ref v_1373, .ref v_1374, .ref v_1375, .int 0, .int 0, .int 0, .int 0])), (o_1379, .inr (16, [.int 0, .ref v_1382, .ref v_1383, .ref v_1384, .ref v_1385, .ref v_1386, .int 0, .int 0, .int 40, .int 0, .null, .int 0, .int 0])), (v_1382, .inr (4, [.int 0, .ref G.1, .int 0])), (v_1383, .inr (4, [.int 0, .ref G.1, .int 0])), (v_1384, .inr (4, [.int 0, .ref G.1, .int 0])), (v_1385, .inl (v_1387, 4, .inl (fun _ => 0))), (v_1386, .inl (v_1388, 4, .inl (fun _ => 0))), (o_1389, .inl (cA_1390, 1, .inr (.inl (fun _ => 0)))), (o_1391, .inl (cA_1392, 1, .inr (.inr (.inr (.inl (fun _ => 0))))))] H := hP
  have hD : va_D A [(o_1362, .inr (11, [.ref v_1365, .int 0, .ref v_1366, .int 0, .ref v_1367, .int 0, .ref v_1368, .ref v_1369, .ref v_1370, .ref v_1371, .ref v_1372, .int 0, .int 0, .int 40, .int 0, .int 0])), (v_1365, .inl (v_1376, 6, .inr (.inr (.inr (.inr (fun _ => none)))))), (v_1366, .inl (v_1377, 4, .inr (.inr (.inr (.inr (fun _ => none)))))), (v_1367, .inl (v_1378, 16, .inr (.inr (.inr (.inr (fun _ => none)))))), (v_1368, .inr (9, [.int 0, .int 0])), (v_1369, .inr (9, [.int 0, .int 0])), (v_1370, .inr (9, [.int 0, .int 0])), (v_1371, .inr (9, [.int 0, .int 0])), (v_1372, .inr (10, [.ref v_1373, .ref v_1374, .ref v_1375, .int 0, .int 0, .int 0, .int 0])), (o_1379, .inr (16, [.int 0, .ref v_1382, .ref v_1383, .ref v_1384, .ref v_1385, .ref v_1386, .int 0, .int 0, .int 40, .int 0, .null, .int 0, .int 0])), (v_1382, .inr (4, [.int 0, .ref G.1, .int 0])), (v_1383, .inr (4, [.int 0, .ref G.1, .int 0])), (v_1384, .inr (4, [.int 0, .ref G.1, .int 0])), (v_1385, .inl (v_1387, 4, .inl (fun _ => 0))), (v_1386, .inl (v_1388, 4, .inl (fun _ => 0))), (o_1389, .inl (cA_1390, 1, .inr (.inl (fun _ => 0)))), (o_1391, .inl (cA_1392, 1, .inr (.inr (.inr (.inl (fun _ => 0))))))] := hD
  have hK : va_K D vwCl [(v_1376, .object "Gatherhouse$Glass"), (v_1377, .object "Gatherhouse$Pot"), (v_1378, .object "Gatherhouse$Piece"), (v_1387, .int), (v_1388, .int), (cA_1390, .long), (cA_1392, .double)] s := hK
  refine W.widen (k := 20) (n := 137) (Nat.le_of_ble_eq_true rfl) (Nat.le_of_ble_eq_true rfl) ?_
  refine lv_astore (lv' := [(4, .ref o_1391), (3, .ref o_1389), (2, .ref o_1379), (1, .ref o_1362), (0, .ref b)]) hx hb dL_law_23 hl (by decide) rfl (fun ls hl => ?_)
  refine lv_iconst (v := 0) hx hb dL_law_25 (by decide) ?_
  refine lv_istore (lv' := [(5, .int 0), (4, .ref o_1391), (3, .ref o_1389), (2, .ref o_1379), (1, .ref o_1362), (0, .ref b)]) hx hb dL_law_26 hl (by decide) rfl (fun ls hl => ?_)
  refine lv_iload hx hb dL_law_28 (lv_at hl 0 rfl) ?_
  refine lv_aload_n hx hb dL_law_30 rfl (lv_at hl 5 rfl) ?_
  refine va_slen hx hb hX hbl hbA hS dL_law_31 ?_
  refine lv_iconst (v := 5) hx hb dL_law_32 (by decide) ?_
  refine lv_isub hx hb dL_law_33 ?_
  refine W.widen (k := 60) (n := 300) (Nat.le_of_ble_eq_true rfl) (Nat.le_of_ble_eq_true rfl) ?_
  refine lv_icmp_gt (tgt := 3005) hx hb dL_law_34 (by decide) (fun c1 => ?_) (fun c1 => ?_)
  · refine W.widen (k := 797152) (n := 6710780) (Nat.le_of_ble_eq_true rfl) (Nat.le_of_ble_eq_true rfl) ?_
    exact hend _ _ _ hS
  have hL5 : L = 5 := by
    rcases Nat.lt_or_ge L 5 with q | q
    · exact absurd (z_L5 L q) c1
    · omega
  have hE : ∀ (H : Heap) (locs : List Loc) (ls : Array Slot), va_S A s.heap H locs → lv_has ls 9 [(0, .ref b), (5, .int 0)] → W p l e room_1 s m #[Value.ref b] below meth c H locs 797152 6710780 (lw_Z below #[Value.ref b] s) (F0 m 2999 ls []) := by
    intro H locs ls hS hl
    refine lv_iinc (v := 5) (lv' := [(5, .int 5), (0, .ref b)]) hx hb dL_law_2999 hl (k := 1) rfl (by decide) (by decide) rfl (fun ls hl => ?_)
    refine lv_goto (tgt := 28) hx hb dL_law_3002 (by decide) ?_
    refine lv_iload hx hb dL_law_28 (lv_at hl 0 rfl) ?_
    refine lv_aload_n hx hb dL_law_30 rfl (lv_at hl 1 rfl) ?_
    refine va_slen hx hb hX hbl hbA hS dL_law_31 ?_
    refine lv_iconst (v := 5) hx hb dL_law_32 (by decide) ?_
    refine lv_isub hx hb dL_law_33 ?_
    refine lv_icmp_gt (tgt := 3005) hx hb dL_law_34 (by decide) (fun _ => hend _ _ _ hS) (fun cc => absurd (by rw [hL5]; decide +kernel) cc)
  refine lv_aload_n hx hb dL_law_37 rfl (lv_at hl 5 rfl) ?_
  refine lv_iload hx hb dL_law_38 (lv_at hl 0 rfl) ?_
  refine va_sld hx hb hX hbl hbA hS (vp_in_iff.mpr (by rw [hL5]; decide +kernel)) dL_law_40 ?_
  refine lv_bipush (v := 63) hx hb dL_law_41 (by decide) ?_
  refine lv_iand hx hb dL_law_43 ?_
  obtain ⟨j, hj, ej⟩ := pk_andE (xs (0 : Int32).toNatClampNeg) (m := 63) 6 (by decide)
  rw [ej]
  have hj : j < 64 := hj
  have hl : lv_has ls 9 [(5, .int 0), (4, .ref o_1391), (3, .ref o_1389), (2, .ref o_1379), (1, .ref o_1362), (0, .ref b)] := lv_sub hl [0, 1, 2, 3, 4, 5] rfl
  match j, hj with
  | 0, _ =>
    refine lv_tableIn (off := 204) (tgt := 248) hx hb dL_law_44 (by decide +kernel) (by decide +kernel) (by decide +kernel) (by decide) ?_
    exact zl_0 l hnt D G o_1362 v_1365 v_1366 v_1367 v_1368 v_1369 v_1370 v_1371 v_1372 v_1373 v_1374 v_1375 o_1379 v_1382 v_1383 v_1384 v_1385 v_1386 o_1389 o_1391 v_1376 v_1377 v_1378 v_1387 v_1388 cA_1390 cA_1392 hx hb hml hown hts hT hA hZ hX hbl hbA hL5 hK hP hD hS hl hE
  | 1, _ =>
    refine lv_tableIn (off := 296) (tgt := 340) hx hb dL_law_44 (by decide +kernel) (by decide +kernel) (by decide +kernel) (by decide) ?_
    exact zl_1 l hnt D G o_1362 v_1365 v_1366 v_1367 v_1368 v_1369 v_1370 v_1371 v_1372 v_1373 v_1374 v_1375 o_1379 v_1382 v_1383 v_1384 v_1385 v_1386 o_1389 o_1391 v_1376 v_1377 v_1378 v_1387 v_1388 cA_1390 cA_1392 hx hb hml hown hts hT hA hZ hX hbl hbA hL5 hK hP hD hS hl hE
  | 2, _ =>
    refine lv_tableIn (off := 371) (tgt := 415) hx hb dL_law_44 (by decide +kernel) (by decide +kernel) (by decide +kernel) (by decide) ?_
    exact zl_2 l hnt D G o_1362 v_1365 v_1366 v_1367 v_1368 v_1369 v_1370 v_1371 v_1372 v_1373 v_1374 v_1375 o_1379 v_1382 v_1383 v_1384 v_1385 v_1386 o_1389 o_1391 v_1376 v_1377 v_1378 v_1387 v_1388 cA_1390 cA_1392 hx hb hml hown hts hT hA hZ hX hbl hbA hL5 hK hP hD hS hl hE
  | 3, _ =>
    refine lv_tableIn (off := 427) (tgt := 471) hx hb dL_law_44 (by decide +kernel) (by decide +kernel) (by decide +kernel) (by decide) ?_
    exact zl_3 l hnt D G o_1362 v_1365 v_1366 v_1367 v_1368 v_1369 v_1370 v_1371 v_1372 v_1373 v_1374 v_1375 o_1379 v_1382 v_1383 v_1384 v_1385 v_1386 o_1389 o_1391 v_1376 v_1377 v_1378 v_1387 v_1388 cA_1390 cA_1392 hx hb hml hown hts hT hA hZ hX hbl hbA hL5 hK hP hD hS hl hE
  | 4, _ =>
    refine lv_tableIn (off := 495) (tgt := 539) hx hb dL_law_44 (by decide +kernel) (by decide +kernel) (by decide +kernel) (by decide) ?_
    exact zl_4 l hnt D G o_1362 v_1365 v_1366 v_1367 v_1368 v_1369 v_1370 v_1371 v_1372 v_1373 v_1374 v_1375 o_1379 v_1382 v_1383 v_1384 v_1385 v_1386 o_1389 o_1391 v_1376 v_1377 v_1378 v_1387 v_1388 cA_1390 cA_1392 hx hb hml hown hts hT hA hZ hX hbl hbA hL5 hK hP hD hS hl hE
  | 5, _ =>
    refine lv_tableIn (off := 551) (tgt := 595) hx hb dL_law_44 (by decide +kernel) (by decide +kernel) (by decide +kernel) (by decide) ?_
    exact zl_5 l hnt D G o_1362 v_1365 v_1366 v_1367 v_1368 v_1369 v_1370 v_1371 v_1372 v_1373 v_1374 v_1375 o_1379 v_1382 v_1383 v_1384 v_1385 v_1386 o_1389 o_1391 v_1376 v_1377 v_1378 v_1387 v_1388 cA_1390 cA_1392 hx hb hml hown hts hT hA hZ hX hbl hbA hL5 hK hP hD hS hl hE
  | 6, _ =>
    refine lv_tableIn (off := 621) (tgt := 665) hx hb dL_law_44 (by decide +kernel) (by decide +kernel) (by decide +kernel) (by decide) ?_
    exact zl_6 l hnt D G o_1362 v_1365 v_1366 v_1367 v_1368 v_1369 v_1370 v_1371 v_1372 v_1373 v_1374 v_1375 o_1379 v_1382 v_1383 v_1384 v_1385 v_1386 o_1389 o_1391 v_1376 v_1377 v_1378 v_1387 v_1388 cA_1390 cA_1392 hx hb hml hown hts hT hA hZ hX hbl hbA hL5 hK hP hD hS hl hE
  | 7, _ =>
    refine lv_tableIn (off := 677) (tgt := 721) hx hb dL_law_44 (by decide +kernel) (by decide +kernel) (by decide +kernel) (by decide) ?_
    exact zl_7 l hnt D G o_1362 v_1365 v_1366 v_1367 v_1368 v_1369 v_1370 v_1371 v_1372 v_1373 v_1374 v_1375 o_1379 v_1382 v_1383 v_1384 v_1385 v_1386 o_1389 o_1391 v_1376 v_1377 v_1378 v_1387 v_1388 cA_1390 cA_1392 hx hb hml hown hts hT hA hZ hX hbl hbA hL5 hK hP hD hS hl hE
  | 8, _ =>
    refine lv_tableIn (off := 733) (tgt := 777) hx hb dL_law_44 (by decide +kernel) (by decide +kernel) (by decide +kernel) (by decide) ?_
    exact zl_8 l hnt D G o_1362 v_1365 v_1366 v_1367 v_1368 v_1369 v_1370 v_1371 v_1372 v_1373 v_1374 v_1375 o_1379 v_1382 v_1383 v_1384 v_1385 v_1386 o_1389 o_1391 v_1376 v_1377 v_1378 v_1387 v_1388 cA_1390 cA_1392 hx hb hml hown hts hT hA hZ hX hbl hbA hL5 hK hP hD hS hl hE
  | 9, _ =>
    refine lv_tableIn (off := 746) (tgt := 790) hx hb dL_law_44 (by decide +kernel) (by decide +kernel) (by decide +kernel) (by decide) ?_
    exact zl_9 l hnt D G o_1362 v_1365 v_1366 v_1367 v_1368 v_1369 v_1370 v_1371 v_1372 v_1373 v_1374 v_1375 o_1379 v_1382 v_1383 v_1384 v_1385 v_1386 o_1389 o_1391 v_1376 v_1377 v_1378 v_1387 v_1388 cA_1390 cA_1392 hx hb hml hown hts hT hA hZ hX hbl hbA hL5 hK hP hD hS hl hE
  | 10, _ =>
    refine lv_tableIn (off := 804) (tgt := 848) hx hb dL_law_44 (by decide +kernel) (by decide +kernel) (by decide +kernel) (by decide) ?_
    exact zl_10 l hnt D G o_1362 v_1365 v_1366 v_1367 v_1368 v_1369 v_1370 v_1371 v_1372 v_1373 v_1374 v_1375 o_1379 v_1382 v_1383 v_1384 v_1385 v_1386 o_1389 o_1391 v_1376 v_1377 v_1378 v_1387 v_1388 cA_1390 cA_1392 hx hb hml hown hts hT hA hZ hX hbl hbA hL5 hK hP hD hS hl hE
  | 11, _ =>
    refine lv_tableIn (off := 862) (tgt := 906) hx hb dL_law_44 (by decide +kernel) (by decide +kernel) (by decide +kernel) (by decide) ?_
    exact zl_11 l hnt D G o_1362 v_1365 v_1366 v_1367 v_1368 v_1369 v_1370 v_1371 v_1372 v_1373 v_1374 v_1375 o_1379 v_1382 v_1383 v_1384 v_1385 v_1386 o_1389 o_1391 v_1376 v_1377 v_1378 v_1387 v_1388 cA_1390 cA_1392 hx hb hml hown hts hT hA hZ hX hbl hbA hL5 hK hP hD hS hl hE
  | 12, _ =>
    refine lv_tableIn (off := 930) (tgt := 974) hx hb dL_law_44 (by decide +kernel) (by decide +kernel) (by decide +kernel) (by decide) ?_
    exact zl_12 l hnt D G o_1362 v_1365 v_1366 v_1367 v_1368 v_1369 v_1370 v_1371 v_1372 v_1373 v_1374 v_1375 o_1379 v_1382 v_1383 v_1384 v_1385 v_1386 o_1389 o_1391 v_1376 v_1377 v_1378 v_1387 v_1388 cA_1390 cA_1392 hx hb hml hown hts hT hA hZ hX hbl hbA hL5 hK hP hD hS hl hE
  | 13, _ =>
    refine lv_tableIn (off := 998) (tgt := 1042) hx hb dL_law_44 (by decide +kernel) (by decide +kernel) (by decide +kernel) (by decide) ?_
    exact zl_13 l hnt D G o_1362 v_1365 v_1366 v_1367 v_1368 v_1369 v_1370 v_1371 v_1372 v_1373 v_1374 v_1375 o_1379 v_1382 v_1383 v_1384 v_1385 v_1386 o_1389 o_1391 v_1376 v_1377 v_1378 v_1387 v_1388 cA_1390 cA_1392 hx hb hml hown hts hT hA hZ hX hbl hbA hL5 hK hP hD hS hl hE
  | 14, _ =>
    refine lv_tableIn (off := 1078) (tgt := 1122) hx hb dL_law_44 (by decide +kernel) (by decide +kernel) (by decide +kernel) (by decide) ?_
    exact zl_14 l hnt D G o_1362 v_1365 v_1366 v_1367 v_1368 v_1369 v_1370 v_1371 v_1372 v_1373 v_1374 v_1375 o_1379 v_1382 v_1383 v_1384 v_1385 v_1386 o_1389 o_1391 v_1376 v_1377 v_1378 v_1387 v_1388 cA_1390 cA_1392 hx hb hml hown hts hT hA hZ hX hbl hbA hL5 hK hP hD hS hl hE
  | 15, _ =>
    refine lv_tableIn (off := 1158) (tgt := 1202) hx hb dL_law_44 (by decide +kernel) (by decide +kernel) (by decide +kernel) (by decide) ?_
    exact zl_15 l hnt D G o_1362 v_1365 v_1366 v_1367 v_1368 v_1369 v_1370 v_1371 v_1372 v_1373 v_1374 v_1375 o_1379 v_1382 v_1383 v_1384 v_1385 v_1386 o_1389 o_1391 v_1376 v_1377 v_1378 v_1387 v_1388 cA_1390 cA_1392 hx hb hml hown hts hT hA hZ hX hbl hbA hL5 hK hP hD hS hl hE
  | 16, _ =>
    refine lv_tableIn (off := 1238) (tgt := 1282) hx hb dL_law_44 (by decide +kernel) (by decide +kernel) (by decide +kernel) (by decide) ?_
    exact zl_16 l hnt D G o_1362 v_1365 v_1366 v_1367 v_1368 v_1369 v_1370 v_1371 v_1372 v_1373 v_1374 v_1375 o_1379 v_1382 v_1383 v_1384 v_1385 v_1386 o_1389 o_1391 v_1376 v_1377 v_1378 v_1387 v_1388 cA_1390 cA_1392 hx hb hml hown hts hT hA hZ hX hbl hbA hL5 hK hP hD hS hl hE
  | 17, _ =>
    refine lv_tableIn (off := 1306) (tgt := 1350) hx hb dL_law_44 (by decide +kernel) (by decide +kernel) (by decide +kernel) (by decide) ?_
    exact zl_17 l hnt D G o_1362 v_1365 v_1366 v_1367 v_1368 v_1369 v_1370 v_1371 v_1372 v_1373 v_1374 v_1375 o_1379 v_1382 v_1383 v_1384 v_1385 v_1386 o_1389 o_1391 v_1376 v_1377 v_1378 v_1387 v_1388 cA_1390 cA_1392 hx hb hml hown hts hT hA hZ hX hbl hbA hL5 hK hP hD hS hl hE
  | 18, _ =>
    refine lv_tableIn (off := 1362) (tgt := 1406) hx hb dL_law_44 (by decide +kernel) (by decide +kernel) (by decide +kernel) (by decide) ?_
    exact zl_18 l hnt D G o_1362 v_1365 v_1366 v_1367 v_1368 v_1369 v_1370 v_1371 v_1372 v_1373 v_1374 v_1375 o_1379 v_1382 v_1383 v_1384 v_1385 v_1386 o_1389 o_1391 v_1376 v_1377 v_1378 v_1387 v_1388 cA_1390 cA_1392 hx hb hml hown hts hT hA hZ hX hbl hbA hL5 hK hP hD hS hl hE
  | 19, _ =>
    refine lv_tableIn (off := 1442) (tgt := 1486) hx hb dL_law_44 (by decide +kernel) (by decide +kernel) (by decide +kernel) (by decide) ?_
    exact zl_19 l hnt D G o_1362 v_1365 v_1366 v_1367 v_1368 v_1369 v_1370 v_1371 v_1372 v_1373 v_1374 v_1375 o_1379 v_1382 v_1383 v_1384 v_1385 v_1386 o_1389 o_1391 v_1376 v_1377 v_1378 v_1387 v_1388 cA_1390 cA_1392 hx hb hml hown hts hT hA hZ hX hbl hbA hL5 hK hP hD hS hl hE
  | 20, _ =>
    refine lv_tableIn (off := 1510) (tgt := 1554) hx hb dL_law_44 (by decide +kernel) (by decide +kernel) (by decide +kernel) (by decide) ?_
    exact zl_20 l hnt D G o_1362 v_1365 v_1366 v_1367 v_1368 v_1369 v_1370 v_1371 v_1372 v_1373 v_1374 v_1375 o_1379 v_1382 v_1383 v_1384 v_1385 v_1386 o_1389 o_1391 v_1376 v_1377 v_1378 v_1387 v_1388 cA_1390 cA_1392 hx hb hml hown hts hT hA hZ hX hbl hbA hL5 hK hP hD hS hl hE
  | 21, _ =>
    refine lv_tableIn (off := 1566) (tgt := 1610) hx hb dL_law_44 (by decide +kernel) (by decide +kernel) (by decide +kernel) (by decide) ?_
    exact zl_21 l hnt D G o_1362 v_1365 v_1366 v_1367 v_1368 v_1369 v_1370 v_1371 v_1372 v_1373 v_1374 v_1375 o_1379 v_1382 v_1383 v_1384 v_1385 v_1386 o_1389 o_1391 v_1376 v_1377 v_1378 v_1387 v_1388 cA_1390 cA_1392 hx hb hml hown hts hT hA hZ hX hbl hbA hL5 hK hP hD hS hl hE
  | 22, _ =>
    refine lv_tableIn (off := 1622) (tgt := 1666) hx hb dL_law_44 (by decide +kernel) (by decide +kernel) (by decide +kernel) (by decide) ?_
    exact zl_22 l hnt D G o_1362 v_1365 v_1366 v_1367 v_1368 v_1369 v_1370 v_1371 v_1372 v_1373 v_1374 v_1375 o_1379 v_1382 v_1383 v_1384 v_1385 v_1386 o_1389 o_1391 v_1376 v_1377 v_1378 v_1387 v_1388 cA_1390 cA_1392 hx hb hml hown hts hT hA hZ hX hbl hbA hL5 hK hP hD hS hl hE
  | 23, _ =>
    refine lv_tableIn (off := 1678) (tgt := 1722) hx hb dL_law_44 (by decide +kernel) (by decide +kernel) (by decide +kernel) (by decide) ?_
    exact zl_23 l hnt D G o_1362 v_1365 v_1366 v_1367 v_1368 v_1369 v_1370 v_1371 v_1372 v_1373 v_1374 v_1375 o_1379 v_1382 v_1383 v_1384 v_1385 v_1386 o_1389 o_1391 v_1376 v_1377 v_1378 v_1387 v_1388 cA_1390 cA_1392 hx hb hml hown hts hT hA hZ hX hbl hbA hL5 hK hP hD hS hl hE
  | 24, _ =>
    refine lv_tableIn (off := 1734) (tgt := 1778) hx hb dL_law_44 (by decide +kernel) (by decide +kernel) (by decide +kernel) (by decide) ?_
    exact zl_24 l hnt D G o_1362 v_1365 v_1366 v_1367 v_1368 v_1369 v_1370 v_1371 v_1372 v_1373 v_1374 v_1375 o_1379 v_1382 v_1383 v_1384 v_1385 v_1386 o_1389 o_1391 v_1376 v_1377 v_1378 v_1387 v_1388 cA_1390 cA_1392 hx hb hml hown hts hT hA hZ hX hbl hbA hL5 hK hP hD hS hl hE
  | 25, _ =>
    refine lv_tableIn (off := 1816) (tgt := 1860) hx hb dL_law_44 (by decide +kernel) (by decide +kernel) (by decide +kernel) (by decide) ?_
    exact zl_25 l hnt D G o_1362 v_1365 v_1366 v_1367 v_1368 v_1369 v_1370 v_1371 v_1372 v_1373 v_1374 v_1375 o_1379 v_1382 v_1383 v_1384 v_1385 v_1386 o_1389 o_1391 v_1376 v_1377 v_1378 v_1387 v_1388 cA_1390 cA_1392 hx hb hml hown hts hT hA hZ hX hbl hbA hL5 hK hP hD hS hl hE
  | 26, _ =>
    refine lv_tableIn (off := 1872) (tgt := 1916) hx hb dL_law_44 (by decide +kernel) (by decide +kernel) (by decide +kernel) (by decide) ?_
    exact zl_26 l hnt D G o_1362 v_1365 v_1366 v_1367 v_1368 v_1369 v_1370 v_1371 v_1372 v_1373 v_1374 v_1375 o_1379 v_1382 v_1383 v_1384 v_1385 v_1386 o_1389 o_1391 v_1376 v_1377 v_1378 v_1387 v_1388 cA_1390 cA_1392 hx hb hml hown hts hT hA hZ hX hbl hbA hL5 hK hP hD hS hl hE
  | 27, _ =>
    refine lv_tableIn (off := 1928) (tgt := 1972) hx hb dL_law_44 (by decide +kernel) (by decide +kernel) (by decide +kernel) (by decide) ?_
    exact zl_27 l hnt D G o_1362 v_1365 v_1366 v_1367 v_1368 v_1369 v_1370 v_1371 v_1372 v_1373 v_1374 v_1375 o_1379 v_1382 v_1383 v_1384 v_1385 v_1386 o_1389 o_1391 v_1376 v_1377 v_1378 v_1387 v_1388 cA_1390 cA_1392 hx hb hml hown hts hT hA hZ hX hbl hbA hL5 hK hP hD hS hl hE
  | 28, _ =>
    refine lv_tableIn (off := 1984) (tgt := 2028) hx hb dL_law_44 (by decide +kernel) (by decide +kernel) (by decide +kernel) (by decide) ?_
    exact zl_28 l hnt D G o_1362 v_1365 v_1366 v_1367 v_1368 v_1369 v_1370 v_1371 v_1372 v_1373 v_1374 v_1375 o_1379 v_1382 v_1383 v_1384 v_1385 v_1386 o_1389 o_1391 v_1376 v_1377 v_1378 v_1387 v_1388 cA_1390 cA_1392 hx hb hml hown hts hT hA hZ hX hbl hbA hL5 hK hP hD hS hl hE
  | 29, _ =>
    refine lv_tableIn (off := 2040) (tgt := 2084) hx hb dL_law_44 (by decide +kernel) (by decide +kernel) (by decide +kernel) (by decide) ?_
    exact zl_29 l hnt D G o_1362 v_1365 v_1366 v_1367 v_1368 v_1369 v_1370 v_1371 v_1372 v_1373 v_1374 v_1375 o_1379 v_1382 v_1383 v_1384 v_1385 v_1386 o_1389 o_1391 v_1376 v_1377 v_1378 v_1387 v_1388 cA_1390 cA_1392 hx hb hml hown hts hT hA hZ hX hbl hbA hL5 hK hP hD hS hl hE
  | 30, _ =>
    refine lv_tableIn (off := 2124) (tgt := 2168) hx hb dL_law_44 (by decide +kernel) (by decide +kernel) (by decide +kernel) (by decide) ?_
    exact zl_30 l hnt D G o_1362 v_1365 v_1366 v_1367 v_1368 v_1369 v_1370 v_1371 v_1372 v_1373 v_1374 v_1375 o_1379 v_1382 v_1383 v_1384 v_1385 v_1386 o_1389 o_1391 v_1376 v_1377 v_1378 v_1387 v_1388 cA_1390 cA_1392 hx hb hml hown hts hT hA hZ hX hbl hbA hL5 hK hP hD hS hl hE
  | 31, _ =>
    refine lv_tableIn (off := 2180) (tgt := 2224) hx hb dL_law_44 (by decide +kernel) (by decide +kernel) (by decide +kernel) (by decide) ?_
    exact zl_31 l hnt D G o_1362 v_1365 v_1366 v_1367 v_1368 v_1369 v_1370 v_1371 v_1372 v_1373 v_1374 v_1375 o_1379 v_1382 v_1383 v_1384 v_1385 v_1386 o_1389 o_1391 v_1376 v_1377 v_1378 v_1387 v_1388 cA_1390 cA_1392 hx hb hml hown hts hT hA hZ hX hbl hbA hL5 hK hP hD hS hl hE
  | 32, _ =>
    refine lv_tableIn (off := 2243) (tgt := 2287) hx hb dL_law_44 (by decide +kernel) (by decide +kernel) (by decide +kernel) (by decide) ?_
    exact zl_32 l hnt D G o_1362 v_1365 v_1366 v_1367 v_1368 v_1369 v_1370 v_1371 v_1372 v_1373 v_1374 v_1375 o_1379 v_1382 v_1383 v_1384 v_1385 v_1386 o_1389 o_1391 v_1376 v_1377 v_1378 v_1387 v_1388 cA_1390 cA_1392 hx hb hml hown hts hT hA hZ hX hbl hbA hL5 hK hP hD hS hl hE
  | 33, _ =>
    refine lv_tableIn (off := 2299) (tgt := 2343) hx hb dL_law_44 (by decide +kernel) (by decide +kernel) (by decide +kernel) (by decide) ?_
    exact zl_33 l hnt D G o_1362 v_1365 v_1366 v_1367 v_1368 v_1369 v_1370 v_1371 v_1372 v_1373 v_1374 v_1375 o_1379 v_1382 v_1383 v_1384 v_1385 v_1386 o_1389 o_1391 v_1376 v_1377 v_1378 v_1387 v_1388 cA_1390 cA_1392 hx hb hml hown hts hT hA hZ hX hbl hbA hL5 hK hP hD hS hl hE
  | 34, _ =>
    refine lv_tableIn (off := 2312) (tgt := 2356) hx hb dL_law_44 (by decide +kernel) (by decide +kernel) (by decide +kernel) (by decide) ?_
    exact zl_34 l hnt D G o_1362 v_1365 v_1366 v_1367 v_1368 v_1369 v_1370 v_1371 v_1372 v_1373 v_1374 v_1375 o_1379 v_1382 v_1383 v_1384 v_1385 v_1386 o_1389 o_1391 v_1376 v_1377 v_1378 v_1387 v_1388 cA_1390 cA_1392 hx hb hml hown hts hT hA hZ hX hbl hbA hL5 hK hP hD hS hl hE
  | 35, _ =>
    refine lv_tableIn (off := 2368) (tgt := 2412) hx hb dL_law_44 (by decide +kernel) (by decide +kernel) (by decide +kernel) (by decide) ?_
    exact zl_35 l hnt D G o_1362 v_1365 v_1366 v_1367 v_1368 v_1369 v_1370 v_1371 v_1372 v_1373 v_1374 v_1375 o_1379 v_1382 v_1383 v_1384 v_1385 v_1386 o_1389 o_1391 v_1376 v_1377 v_1378 v_1387 v_1388 cA_1390 cA_1392 hx hb hml hown hts hT hA hZ hX hbl hbA hL5 hK hP hD hS hl hE
  | 36, _ =>
    refine lv_tableIn (off := 2381) (tgt := 2425) hx hb dL_law_44 (by decide +kernel) (by decide +kernel) (by decide +kernel) (by decide) ?_
    exact zl_36 l hnt D G o_1362 v_1365 v_1366 v_1367 v_1368 v_1369 v_1370 v_1371 v_1372 v_1373 v_1374 v_1375 o_1379 v_1382 v_1383 v_1384 v_1385 v_1386 o_1389 o_1391 v_1376 v_1377 v_1378 v_1387 v_1388 cA_1390 cA_1392 hx hb hml hown hts hT hA hZ hX hbl hbA hL5 hK hP hD hS hl hE
  | 37, _ =>
    refine lv_tableIn (off := 2461) (tgt := 2505) hx hb dL_law_44 (by decide +kernel) (by decide +kernel) (by decide +kernel) (by decide) ?_
    exact zl_37 l hnt D G o_1362 v_1365 v_1366 v_1367 v_1368 v_1369 v_1370 v_1371 v_1372 v_1373 v_1374 v_1375 o_1379 v_1382 v_1383 v_1384 v_1385 v_1386 o_1389 o_1391 v_1376 v_1377 v_1378 v_1387 v_1388 cA_1390 cA_1392 hx hb hml hown hts hT hA hZ hX hbl hbA hL5 hK hP hD hS hl hE
  | 38, _ =>
    refine lv_tableIn (off := 2529) (tgt := 2573) hx hb dL_law_44 (by decide +kernel) (by decide +kernel) (by decide +kernel) (by decide) ?_
    exact zl_38 l hnt D G o_1362 v_1365 v_1366 v_1367 v_1368 v_1369 v_1370 v_1371 v_1372 v_1373 v_1374 v_1375 o_1379 v_1382 v_1383 v_1384 v_1385 v_1386 o_1389 o_1391 v_1376 v_1377 v_1378 v_1387 v_1388 cA_1390 cA_1392 hx hb hml hown hts hT hA hZ hX hbl hbA hL5 hK hP hD hS hl hE
  | 39, _ =>
    refine lv_tableIn (off := 2609) (tgt := 2653) hx hb dL_law_44 (by decide +kernel) (by decide +kernel) (by decide +kernel) (by decide) ?_
    exact zl_39 l hnt D G o_1362 v_1365 v_1366 v_1367 v_1368 v_1369 v_1370 v_1371 v_1372 v_1373 v_1374 v_1375 o_1379 v_1382 v_1383 v_1384 v_1385 v_1386 o_1389 o_1391 v_1376 v_1377 v_1378 v_1387 v_1388 cA_1390 cA_1392 hx hb hml hown hts hT hA hZ hX hbl hbA hL5 hK hP hD hS hl hE
  | 40, _ =>
    refine lv_tableIn (off := 2672) (tgt := 2716) hx hb dL_law_44 (by decide +kernel) (by decide +kernel) (by decide +kernel) (by decide) ?_
    exact zl_40 l hnt D G o_1362 v_1365 v_1366 v_1367 v_1368 v_1369 v_1370 v_1371 v_1372 v_1373 v_1374 v_1375 o_1379 v_1382 v_1383 v_1384 v_1385 v_1386 o_1389 o_1391 v_1376 v_1377 v_1378 v_1387 v_1388 cA_1390 cA_1392 hx hb hml hown hts hT hA hZ hX hbl hbA hL5 hK hP hD hS hl hE
  | 41, _ =>
    refine lv_tableIn (off := 2728) (tgt := 2772) hx hb dL_law_44 (by decide +kernel) (by decide +kernel) (by decide +kernel) (by decide) ?_
    exact zl_41 l hnt D G o_1362 v_1365 v_1366 v_1367 v_1368 v_1369 v_1370 v_1371 v_1372 v_1373 v_1374 v_1375 o_1379 v_1382 v_1383 v_1384 v_1385 v_1386 o_1389 o_1391 v_1376 v_1377 v_1378 v_1387 v_1388 cA_1390 cA_1392 hx hb hml hown hts hT hA hZ hX hbl hbA hL5 hK hP hD hS hl hE
  | 42, _ =>
    refine lv_tableIn (off := 2784) (tgt := 2828) hx hb dL_law_44 (by decide +kernel) (by decide +kernel) (by decide +kernel) (by decide) ?_
    exact zl_42 l hnt D G o_1362 v_1365 v_1366 v_1367 v_1368 v_1369 v_1370 v_1371 v_1372 v_1373 v_1374 v_1375 o_1379 v_1382 v_1383 v_1384 v_1385 v_1386 o_1389 o_1391 v_1376 v_1377 v_1378 v_1387 v_1388 cA_1390 cA_1392 hx hb hml hown hts hT hA hZ hX hbl hbA hL5 hK hP hD hS hl hE
  | 43, _ =>
    refine lv_tableIn (off := 2797) (tgt := 2841) hx hb dL_law_44 (by decide +kernel) (by decide +kernel) (by decide +kernel) (by decide) ?_
    exact zl_43 l hnt D G o_1362 v_1365 v_1366 v_1367 v_1368 v_1369 v_1370 v_1371 v_1372 v_1373 v_1374 v_1375 o_1379 v_1382 v_1383 v_1384 v_1385 v_1386 o_1389 o_1391 v_1376 v_1377 v_1378 v_1387 v_1388 cA_1390 cA_1392 hx hb hml hown hts hT hA hZ hX hbl hbA hL5 hK hP hD hS hl hE
  | 44, _ =>
    refine lv_tableIn (off := 2811) (tgt := 2855) hx hb dL_law_44 (by decide +kernel) (by decide +kernel) (by decide +kernel) (by decide) ?_
    exact zl_44 l hnt D G o_1362 v_1365 v_1366 v_1367 v_1368 v_1369 v_1370 v_1371 v_1372 v_1373 v_1374 v_1375 o_1379 v_1382 v_1383 v_1384 v_1385 v_1386 o_1389 o_1391 v_1376 v_1377 v_1378 v_1387 v_1388 cA_1390 cA_1392 hx hb hml hown hts hT hA hZ hX hbl hbA hL5 hK hP hD hS hl hE
  | 45, _ =>
    refine lv_tableIn (off := 2877) (tgt := 2921) hx hb dL_law_44 (by decide +kernel) (by decide +kernel) (by decide +kernel) (by decide) ?_
    exact zl_45 l hnt D G o_1362 v_1365 v_1366 v_1367 v_1368 v_1369 v_1370 v_1371 v_1372 v_1373 v_1374 v_1375 o_1379 v_1382 v_1383 v_1384 v_1385 v_1386 o_1389 o_1391 v_1376 v_1377 v_1378 v_1387 v_1388 cA_1390 cA_1392 hx hb hml hown hts hT hA hZ hX hbl hbA hL5 hK hP hD hS hl hE
  | 46, _ =>
    refine lv_tableIn (off := 2942) (tgt := 2986) hx hb dL_law_44 (by decide +kernel) (by decide +kernel) (by decide +kernel) (by decide) ?_
    exact zl_46 l hnt D G o_1362 v_1365 v_1366 v_1367 v_1368 v_1369 v_1370 v_1371 v_1372 v_1373 v_1374 v_1375 o_1379 v_1382 v_1383 v_1384 v_1385 v_1386 o_1389 o_1391 v_1376 v_1377 v_1378 v_1387 v_1388 cA_1390 cA_1392 hx hb hml hown hts hT hA hZ hX hbl hbA hL5 hK hP hD hS hl hE
  | k + 47, hk =>
    refine lv_tableOut (tgt := 2999) hx hb dL_law_44 (Or.inr (by rw [nI_toInt (by omega)]; omega)) (by decide) ?_
    refine W.widen (k := 797152) (n := 6710780) (Nat.le_of_ble_eq_true rfl) (Nat.le_of_ble_eq_true rfl) ?_
    exact hE _ _ _ hS (lv_sub hl [5, 0] rfl)
-- ===== YOUR PART ENDS =====
set_option maxHeartbeats 4000000 in
theorem lw_walk (l : Launch) (hflags : l.flags = flags0) (b : Addr) (xs : List Int32) : MetFree l x (headSpec (Jvm.Cond.code x code maxLocals ret :: tables_1) room_1) (lw_P b xs) (fun _ _ _ _ _ => True) lw_Q := by
  refine MetFree.of_bodyS (code := code) (maxLocals := maxLocals) (ret := ret) (by decide) ?_ ?_
  · intro args s m h hn
    obtain ⟨meth, c, h1, h2, h3, h4, h5, h6, -, -⟩ := Cond.code_spec hn (atoms_spec (ws := Jvm.Cond.code x code maxLocals ret :: tables_1) h _ List.mem_cons_self)
    exact ⟨meth, c, h1, h2, h3, h4, h5, h6⟩
  · intro p e s m args below meth c s₁ B hml0 hP _
    obtain ⟨rfl, hx, hbd, hgv⟩ := hP
    obtain ⟨scr, harrAt, hlist, hof, hsmall⟩ := hx
    obtain ⟨hcb, hkn, -, -⟩ := State.arrayAt?_spec harrAt
    have hown : s.vm.findClass R_law = some m.cls := findClass_of_methodNamed B.named
    have hts0 : ∀ c ∈ (Jvm.Cond.code x code maxLocals ret :: tables_1), c.before #[Value.ref b] s = true := atoms_spec (ws := Jvm.Cond.code x code maxLocals ret :: tables_1) B.pre
    have hts : ∀ w ∈ lw_tbl, w.before #[Value.ref b] s = true := k2_hts_sels lw_privs (fun w hw => hts0 w (List.mem_cons_of_mem _ hw)) lw_privs_ok
    have hml : c.maxLocals = 9 := B.maxLocals_eq (hts0 _ List.mem_cons_self)
    have X₀ : Stand p l e room_1 s m #[Value.ref b] below meth c s₁ [] 0 0 := Stand.of_body B
    have hh0 : s₁.heap = s.heap := by rw [B.state]; rfl
    have hsz : scr.slots.size = xs.length := by rw [← Array.length_toList, hlist, List.length_map]
    have hval : ∀ j : Nat, j < xs.length → scr.slots[j]? = some (.int (xs.getD j 0)) := fun j hj => by
      rw [← Array.getElem?_toList, hlist]
      simp [hj]
    have hbl : b < s.heap.size := (Array.getElem?_eq_some_iff.mp hcb).1
    have hX : va_X b xs.length (fun j => xs.getD j 0) s s.heap := ⟨scr, hcb, hof, hkn, hsz, hval⟩
    have K : W p l e room_1 s m #[Value.ref b] below meth c s₁.heap [] 0 0 (lw_Z below #[Value.ref b] s) (entryFrame m ([Value.ref b] : List Value).toArray 9) := by
      rw [hh0]
      exact whole_start l hflags hbd ⟨B.exec, B.bytes, B.returns, hml, hown, hts, hX, hbl, B.notSynchronized, hgv⟩
    obtain ⟨t, a1, o, b1, b2, b3⟩ := K s₁ rfl X₀
    exact ⟨t, o, a1, b1, b2, b3⟩
theorem lw_pre_spec {args : Array Value} {s : State} (h : (Jvm.Cond.and given_1 narrow_1).before args s = true) (hr : rest_1_c.before args s = true) : ∃ (b : Addr) (xs : List Int32), lw_P b xs args s := by
  have hs := flat_of_before _ h
  have hq := flat_of_before _ hr
  have hc : (Cond.count 1).before args s = true := hs _ (by decide +kernel)
  have harr : (Cond.arrayOf (.arg 0) .int).before args s = true := hs _ (by decide +kernel)
  have hle : (Cond.le (.length (.arg 0)) (.int 5)).before args s = true := hs _ (by decide +kernel)
  have hlen : (Cond.isInt (.length (.arg 0))).before args s = true := hq _ (by decide +kernel)
  have hall : (Cond.all (.arg 0) (.isInt (.elem (.arg 0) (.index 0)))).before args s = true := hq _ (by decide +kernel)
  obtain ⟨b, xs, hb, hx⟩ := State.ints_of_pre rfl harr hlen hall
  have hsm : xs.length < 2 ^ 31 := hx.choose_spec.2.2.2
  have hev : (Term.length (.arg 0)).eval args s none [] s = some (.int xs.length.toInt32) := hx.length_eval hb
  have hv := Cond.le_ints hev (show (Term.int 5).eval args s none [] s = some (.int 5) from rfl)
  have hd : xs.length.toInt32 ≤ 5 := by
    simpa [Cond.before, Cond.holds, hv] using hle
  have hN : xs.length ≤ 5 := (Int32.ofNat_le_ofNat hsm (by decide)).mp (show Int32.ofNat xs.length ≤ Int32.ofNat 5 from hd)
  exact ⟨b, xs, Cond.one_arg hc (show args[0]? = some (.ref b) from hb), hx, hN, h⟩
theorem lw_comes (l : Launch) (hflags : l.flags = flags0) : Comes l x (Jvm.Cond.code x code maxLocals ret :: tables_1) room_1 (fun tb e args s => Calls_1 tb e args s ∧ rest_1 tb e args s ∧ Pre_1 tb e args s)
    (fun _ _ args s o t => lw_Q args s o t) := by
  intro p e ha hc hk s m args below hf hfit hheap happ hpre
  obtain ⟨b, xs, hP⟩ := lw_pre_spec hpre.2.2 hpre.2.1
  obtain ⟨k, o, h1, h2, h3, hQ⟩ := lw_walk l hflags b xs p e ha hc hk s m args below hf ((Spec.applies_iff_loose hf).mp happ).1 hP trivial
  exact ⟨k, o, h1, h2, h3, hQ⟩
theorem lw_frame {s t : State} {o : Outcome} {args : Array Value} (h : State.butDraws s t lw_cs (fun t1 => Framed s o t1 [] 797152 6710780)) :
    State.butDraws s t [Jvm.Choice.named "NaN.bits"] (fun t1 => Framed s o t1 (fieldLocs frame_1_writes args s ++ arrayLocs frame_1_arrays args s ++ staticLocs frame_1_statics s) 797152 6710780) := h
theorem lw_limb (L : Cond) (hL : ∀ (args : Array Value) (s t : State), L.after args s (.returned (some (.int 1))) t = true) :
    ArmFor flags0 classFile x code maxLocals ret World_1 tables_1 room_1 Calls_1 rest_1 Pre_1
      (fun tb e a s o t => postC L tb e a s o t ∧ State.butDraws s t [Jvm.Choice.named "NaN.bits"] (fun t1 => Framed s o t1 (fieldLocs frame_1_writes a s ++ arrayLocs frame_1_arrays a s ++ staticLocs frame_1_statics s) 797152 6710780)) := by
  intro l hflags _ _ p e ha hc hk s m args below hf hfit hheap happ hpre
  obtain ⟨k, o, h1, h2, h3, rfl, hF⟩ := lw_comes l hflags p e ha hc hk s m args below hf hfit hheap happ hpre
  exact ⟨k, _, h1, h2, h3, hL args s _, lw_frame hF⟩
theorem i_vc : Claimed_1_1 ∧ Claimed_1_2 := ⟨lw_limb limb_1_1 (fun args s t => by simp [limb_1_1, Cond.after, Cond.holds, Cond.value]), lw_limb limb_1_2 (fun args s t => Cond.after_iff.mpr (by
  first | (rw [show limb_1_2 = Cond.eq .result (.int 1) from rfl, Cond.eq_ints (x := 1) (y := 1) rfl rfl]; simp; done) | (simp [limb_1_2, Cond.value, Term.eval]; done)))⟩

