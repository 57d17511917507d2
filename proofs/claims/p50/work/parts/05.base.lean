/-! what the tables say beside the words of a method: links between nest mates, casts, rows of references, texts, interface methods -/
def FTM : List (String × Nat × MethodName × String) := [("Gatherhouse", 39, ⟨"Gatherhouse$Role", "<init>", "()V"⟩, "Gatherhouse"), ("Gatherhouse", 55, ⟨"Gatherhouse$SetSearch", "<init>", "()V"⟩, "Gatherhouse"), ("Gatherhouse", 228, ⟨"Gatherhouse$Piece", "weight", "()I"⟩, "Gatherhouse"), ("Gatherhouse", 360, ⟨"Gatherhouse$Piece", "isSoundItself", "()Z"⟩, "Gatherhouse"), ("Gatherhouse$Piece", 143, ⟨"Gatherhouse$Ring", "isWithinBounds", "(III)Z"⟩, "Gatherhouse"), ("Gatherhouse$Piece", 147, ⟨"Gatherhouse$Ring", "isCutTooDeep", "()Z"⟩, "Gatherhouse"), ("Gatherhouse", 86, ⟨"Gatherhouse$Glass", "<init>", "(IIII)V"⟩, "Gatherhouse"), ("Gatherhouse", 93, ⟨"Gatherhouse$Glass", "agreesWith", "(LGatherhouse$Glass;)Z"⟩, "Gatherhouse"), ("Gatherhouse", 99, ⟨"Gatherhouse$Pot", "<init>", "(LGatherhouse$Glass;)V"⟩, "Gatherhouse"), ("Gatherhouse", 147, ⟨"Gatherhouse$Role", "isBusy", "()Z"⟩, "Gatherhouse"), ("Gatherhouse", 399, ⟨"Gatherhouse$Pot", "passHour", "()V"⟩, "Gatherhouse"), ("Gatherhouse", 401, ⟨"Gatherhouse$Piece", "coolInLehr", "(II)V"⟩, "Gatherhouse"), ("Gatherhouse", 408, ⟨"Gatherhouse$Piece", "breaksAtEndOf", "(I)Z"⟩, "Gatherhouse"), ("Gatherhouse", 396, ⟨"Gatherhouse$Role", "passSecond", "()V"⟩, "Gatherhouse"), ("Gatherhouse", 398, ⟨"Gatherhouse$Piece", "passSecond", "()V"⟩, "Gatherhouse"), ("Gatherhouse", 143, ⟨"Gatherhouse$Pot", "canGive", "(I)Z"⟩, "Gatherhouse"), ("Gatherhouse", 162, ⟨"Gatherhouse$Piece", "<init>", "(LGatherhouse$Glass;II)V"⟩, "Gatherhouse"), ("Gatherhouse$Piece", 65, ⟨"Gatherhouse$Ring", "<init>", "(III)V"⟩, "Gatherhouse"), ("Gatherhouse$Piece", 71, ⟨"Gatherhouse$Ring", "dye", "(I)V"⟩, "Gatherhouse"), ("Gatherhouse", 261, ⟨"Gatherhouse$Piece", "isWorkedAt", "(I)Z"⟩, "Gatherhouse"), ("Gatherhouse", 202, ⟨"Gatherhouse$Ring", "wallOver", "(II)I"⟩, "Gatherhouse"), ("Gatherhouse", 390, ⟨"Gatherhouse$Ring", "isWithinBounds", "(III)Z"⟩, "Gatherhouse"), ("Gatherhouse", 218, ⟨"Gatherhouse$Ring", "copied", "()LGatherhouse$Ring;"⟩, "Gatherhouse"), ("Gatherhouse", 222, ⟨"Gatherhouse$Piece", "insertRing", "(ILGatherhouse$Ring;)V"⟩, "Gatherhouse"), ("Gatherhouse", 231, ⟨"Gatherhouse$Piece", "removeLastRing", "()V"⟩, "Gatherhouse"), ("Gatherhouse", 234, ⟨"Gatherhouse$Piece", "agreesWith", "(LGatherhouse$Glass;)Z"⟩, "Gatherhouse"), ("Gatherhouse$Piece", 101, ⟨"Gatherhouse$Glass", "agreesWith", "(LGatherhouse$Glass;)Z"⟩, "Gatherhouse"), ("Gatherhouse", 238, ⟨"Gatherhouse$Glass", "isWorkedAt", "(I)Z"⟩, "Gatherhouse"), ("Gatherhouse", 246, ⟨"Gatherhouse$Piece", "greatestWall", "()I"⟩, "Gatherhouse"), ("Gatherhouse", 251, ⟨"Gatherhouse$Piece", "cover", "(LGatherhouse$Glass;I)V"⟩, "Gatherhouse"), ("Gatherhouse$Piece", 106, ⟨"Gatherhouse$Ring", "cover", "(II)V"⟩, "Gatherhouse"), ("Gatherhouse", 257, ⟨"Gatherhouse$Piece", "agreesWithAllOf", "(LGatherhouse$Piece;)Z"⟩, "Gatherhouse"), ("Gatherhouse", 266, ⟨"Gatherhouse$Piece", "takeOver", "(LGatherhouse$Piece;)V"⟩, "Gatherhouse"), ("Gatherhouse$Piece", 110, ⟨"Gatherhouse$Ring", "copied", "()LGatherhouse$Ring;"⟩, "Gatherhouse"), ("Gatherhouse", 285, ⟨"Gatherhouse$Piece", "fullHeight", "()I"⟩, "Gatherhouse"), ("Gatherhouse", 308, ⟨"Gatherhouse$Ring", "leftAtSurface", "()I"⟩, "Gatherhouse"), ("Gatherhouse", 313, ⟨"Gatherhouse$Ring", "carve", "(I)V"⟩, "Gatherhouse"), ("Gatherhouse", 317, ⟨"Gatherhouse$Ring", "surfaceColour", "()I"⟩, "Gatherhouse"), ("Gatherhouse", 320, ⟨"Gatherhouse$SetSearch", "begin", "()V"⟩, "Gatherhouse"), ("Gatherhouse", 323, ⟨"Gatherhouse$Piece", "isFreeForSet", "(I)Z"⟩, "Gatherhouse"), ("Gatherhouse", 326, ⟨"Gatherhouse$SetSearch", "offer", "(III)V"⟩, "Gatherhouse"), ("Gatherhouse", 334, ⟨"Gatherhouse$SetSearch", "choose", "(IIIIII)V"⟩, "Gatherhouse"), ("Gatherhouse", 343, ⟨"Gatherhouse$SetSearch", "hasChosen", "(I)Z"⟩, "Gatherhouse"), ("Gatherhouse", 349, ⟨"Gatherhouse$Piece", "worth", "()I"⟩, "Gatherhouse")]
def FTF : List (String × Nat × String × String × String × String) := [("Gatherhouse", 137, "Gatherhouse$Role", "busy", "I", "Gatherhouse"), ("Gatherhouse", 140, "Gatherhouse$Role", "paid", "I", "Gatherhouse"), ("Gatherhouse", 329, "Gatherhouse$SetSearch", "size", "I", "Gatherhouse"), ("Gatherhouse", 338, "Gatherhouse$SetSearch", "bestApart", "I", "Gatherhouse"), ("Gatherhouse$Piece", 86, "Gatherhouse$Glass", "low", "I", "Gatherhouse"), ("Gatherhouse$Piece", 95, "Gatherhouse$Glass", "high", "I", "Gatherhouse"), ("Gatherhouse$Piece", 137, "Gatherhouse$Glass", "expansion", "I", "Gatherhouse"), ("Gatherhouse$Piece", 68, "Gatherhouse$Glass", "colour", "I", "Gatherhouse"), ("Gatherhouse", 158, "Gatherhouse$Pot", "glass", "LGatherhouse$Glass;", "Gatherhouse"), ("Gatherhouse", 106, "Gatherhouse$Pot", "mass", "I", "Gatherhouse"), ("Gatherhouse", 109, "Gatherhouse$Pot", "seeds", "I", "Gatherhouse"), ("Gatherhouse", 112, "Gatherhouse$Pot", "stones", "I", "Gatherhouse"), ("Gatherhouse", 115, "Gatherhouse$Pot", "age", "I", "Gatherhouse"), ("Gatherhouse$Piece", 114, "Gatherhouse$Ring", "radius", "I", "Gatherhouse"), ("Gatherhouse", 194, "Gatherhouse$Ring", "radius", "I", "Gatherhouse"), ("Gatherhouse$Piece", 117, "Gatherhouse$Ring", "height", "I", "Gatherhouse"), ("Gatherhouse", 199, "Gatherhouse$Ring", "height", "I", "Gatherhouse"), ("Gatherhouse$Piece", 120, "Gatherhouse$Ring", "wall", "I", "Gatherhouse"), ("Gatherhouse", 210, "Gatherhouse$Ring", "wall", "I", "Gatherhouse"), ("Gatherhouse", 374, "Gatherhouse$Piece", "rings", "[LGatherhouse$Ring;", "Gatherhouse"), ("Gatherhouse", 213, "Gatherhouse$Piece", "ringCount", "I", "Gatherhouse"), ("Gatherhouse", 294, "Gatherhouse$Piece", "greatestLow", "I", "Gatherhouse"), ("Gatherhouse", 291, "Gatherhouse$Piece", "leastHigh", "I", "Gatherhouse"), ("Gatherhouse", 270, "Gatherhouse$Piece", "state", "C", "Gatherhouse"), ("Gatherhouse", 235, "Gatherhouse$Piece", "heat", "I", "Gatherhouse"), ("Gatherhouse", 182, "Gatherhouse$Piece", "busy", "I", "Gatherhouse"), ("Gatherhouse", 183, "Gatherhouse$Piece", "isInHole", "Z", "Gatherhouse"), ("Gatherhouse", 243, "Gatherhouse$Piece", "layers", "I", "Gatherhouse"), ("Gatherhouse", 288, "Gatherhouse$Piece", "flaws", "I", "Gatherhouse"), ("Gatherhouse", 297, "Gatherhouse$Piece", "strain", "I", "Gatherhouse"), ("Gatherhouse", 300, "Gatherhouse$Piece", "hasComeOut", "Z", "Gatherhouse"), ("Gatherhouse", 305, "Gatherhouse$Piece", "isOfFirsts", "Z", "Gatherhouse"), ("Gatherhouse", 346, "Gatherhouse$Piece", "isOfSet", "Z", "Gatherhouse")]
def FTC : List (String × String) := [("java/lang/IllegalArgumentException", "java/lang/IllegalArgumentException"), ("java/lang/IllegalStateException", "java/lang/IllegalStateException"), ("java/lang/IndexOutOfBoundsException", "java/lang/IndexOutOfBoundsException"), ("java/lang/UnsupportedOperationException", "java/lang/UnsupportedOperationException"), ("java/util/NoSuchElementException", "java/util/NoSuchElementException")]
def FTN : List (String × String) := [("java/lang/IllegalArgumentException", "java/lang/IllegalStateException"), ("java/lang/IllegalArgumentException", "java/lang/IndexOutOfBoundsException"), ("java/lang/IllegalArgumentException", "java/lang/UnsupportedOperationException"), ("java/lang/IllegalArgumentException", "java/util/NoSuchElementException"), ("java/lang/IllegalStateException", "java/lang/IllegalArgumentException"), ("java/lang/IllegalStateException", "java/lang/IndexOutOfBoundsException"), ("java/lang/IllegalStateException", "java/lang/UnsupportedOperationException"), ("java/lang/IllegalStateException", "java/util/NoSuchElementException"), ("java/lang/IndexOutOfBoundsException", "java/lang/IllegalArgumentException"), ("java/lang/IndexOutOfBoundsException", "java/lang/IllegalStateException"), ("java/lang/IndexOutOfBoundsException", "java/lang/UnsupportedOperationException"), ("java/lang/IndexOutOfBoundsException", "java/util/NoSuchElementException"), ("java/lang/UnsupportedOperationException", "java/lang/IllegalArgumentException"), ("java/lang/UnsupportedOperationException", "java/lang/IllegalStateException"), ("java/lang/UnsupportedOperationException", "java/lang/IndexOutOfBoundsException"), ("java/lang/UnsupportedOperationException", "java/util/NoSuchElementException"), ("java/util/NoSuchElementException", "java/lang/IllegalArgumentException"), ("java/util/NoSuchElementException", "java/lang/IllegalStateException"), ("java/util/NoSuchElementException", "java/lang/IndexOutOfBoundsException"), ("java/util/NoSuchElementException", "java/lang/UnsupportedOperationException")]
def FTO : List String := ["Gatherhouse$Glass", "Gatherhouse$Pot", "Gatherhouse$Piece", "Gatherhouse$Ring"]
def FTS : List (String × Nat × String) := [("Gatherhouse", 363, "a number is out of range"), ("Gatherhouse", 81, "no more glasses"), ("Gatherhouse", 367, "no such glass"), ("Gatherhouse", 97, "no more pots"), ("Gatherhouse", 370, "no such pot"), ("Gatherhouse", 120, "no such letter"), ("Gatherhouse", 386, "a piece is on a pipe"), ("Gatherhouse", 388, "a role is busy"), ("Gatherhouse", 380, "no such role"), ("Gatherhouse", 153, "the pot cannot give it, or the role is busy"), ("Gatherhouse", 156, "no more pieces"), ("Gatherhouse", 372, "no such piece"), ("Gatherhouse", 382, "it is not on a pipe, or it or the role is busy"), ("Gatherhouse", 180, "no hole is free"), ("Gatherhouse", 378, "no such ring"), ("Gatherhouse", 384, "it cannot be worked on"), ("Gatherhouse", 394, "the ring would be out of bounds"), ("Gatherhouse", 216, "the ring is too low, or there are too many"), ("Gatherhouse", 226, "it has one ring"), ("Gatherhouse", 241, "the pot or its glass does not suit"), ("Gatherhouse", 249, "too many layers, or a wall would be too thick"), ("Gatherhouse", 255, "both are the same"), ("Gatherhouse", 262, "the pieces do not suit each other"), ("Gatherhouse", 264, "too many rings"), ("Gatherhouse", 278, "the lehr is full"), ("Gatherhouse", 282, "it has no heat"), ("Gatherhouse", 303, "it did not come out"), ("Gatherhouse", 311, "it is not done, or the cut would be too deep"), ("Gatherhouse", 332, "there are not so many"), ("Gatherhouse", 341, "they are farther apart"), ("Gatherhouse", 352, "it is not done"), ("Gatherhouse", 358, "there are no pieces")]
def FTD : List MethodName := [⟨"java/lang/RuntimeException", "<init>", "()V"⟩, ⟨"java/lang/RuntimeException", "<init>", "(Ljava/lang/String;)V"⟩, ⟨"java/lang/Exception", "<init>", "()V"⟩, ⟨"java/lang/Exception", "<init>", "(Ljava/lang/String;)V"⟩, ⟨"java/lang/Throwable", "<init>", "()V"⟩, ⟨"java/lang/Throwable", "<init>", "(Ljava/lang/String;)V"⟩]

def va_AI (U : State) : Prop := (Cond.arrayOver (.array .int)).before #[] U = true
theorem va_AI.moved {u U : State} (hvm : u.vm.Alike U.vm) (h : va_AI u) : va_AI U := over_moved hvm h
def FT (G : Nat × Nat × (Nat → Int32)) (U : State) : Prop :=
  (∀ q ∈ FTM, va_Nw (.methodLinkNest q.1 q.2.1 q.2.2.1 q.2.2.2) U) ∧
  (∀ q ∈ FTF, va_Nw (.fieldLinkNest q.1 q.2.1 q.2.2.1 q.2.2.2.1 q.2.2.2.2.1 q.2.2.2.2.2) U) ∧
  (∀ q ∈ FTC, va_Nw (.castable q.1 q.2) U) ∧ (∀ q ∈ FTN, va_Nc q.1 q.2 U) ∧ (∀ q ∈ FTO, va_AO q U) ∧
  (∀ q ∈ FTS, ∃ a, vk_R q.1 q.2.1 q.2.2 a U) ∧ True ∧ (∀ q ∈ FTD, va_Nw (.declares q) U) ∧ va_AI U
theorem FT.warm {G : Nat × Nat × (Nat → Int32)} {s U : State} (hW : s.WarmedH U.vm) (h : FT G s) : FT G U :=
  ⟨fun q hq => va_Nw.warmM hW (h.1 q hq), fun q hq => va_Nw.warmF hW (h.2.1 q hq), fun q hq => va_Nw.warmC hW (h.2.2.1 q hq), fun q hq => va_Nc.moved hW.alike (h.2.2.2.1 q hq), fun q hq => va_AO.moved hW.alike (h.2.2.2.2.1 q hq),
    fun q hq => by obtain ⟨a, ha⟩ := h.2.2.2.2.2.1 q hq; exact ⟨a, vk_R.warm hW ha⟩, trivial, fun q hq => va_Nw.warmD hW (h.2.2.2.2.2.2.2.1 q hq), va_AI.moved hW.alike h.2.2.2.2.2.2.2.2⟩
theorem FT.same {G : Nat × Nat × (Nat → Int32)} {u U : State} (hv : u.vm = U.vm) (h : FT G u) : FT G U := by
  have ha : u.vm.Alike U.vm := by rw [hv]; exact Vm.Alike.refl _
  exact ⟨fun q hq => va_Nw.same rfl hv (h.1 q hq), fun q hq => va_Nw.same rfl hv (h.2.1 q hq), fun q hq => va_Nw.same rfl hv (h.2.2.1 q hq), fun q hq => va_Nc.moved ha (h.2.2.2.1 q hq), fun q hq => va_AO.moved ha (h.2.2.2.2.1 q hq),
    fun q hq => by obtain ⟨a, ha⟩ := h.2.2.2.2.2.1 q hq; exact ⟨a, vk_R.same hv.symm ha⟩, trivial, fun q hq => va_Nw.same rfl hv (h.2.2.2.2.2.2.2.1 q hq), va_AI.moved ha h.2.2.2.2.2.2.2.2⟩
/-- what lies outside A: the two statics that a new Throwable reads; the law's script at G.1 -/
def FZ (G : Nat × Nat × (Nat → Int32)) (A : Nat → Prop) (U : State) (H : Heap) : Prop := vx_Zq Bundle.tN "UNASSIGNED_STACK" Bundle.steD A U H ∧ vx_Zq Bundle.tN "SUPPRESSED_SENTINEL" Bundle.listD A U H ∧
  va_T .int G.1 G.2.1 (fun j => .int (G.2.2 j)) A U H
theorem FZ.moved {G : Nat × Nat × (Nat → Int32)} {A : Nat → Prop} {u U : State} {H : Heap} (hvm : u.vm.Alike U.vm) (h : FZ G A u H) : FZ G A U H := ⟨vx_Zq.moved hvm h.1, vx_Zq.moved hvm h.2.1, va_T.moved hvm h.2.2⟩
theorem FZ.kept {G : Nat × Nat × (Nat → Int32)} {A : Nat → Prop} {U : State} {H H1 : Heap} (h : FZ G A U H) (hq : ∀ a : Nat, a < H.size → ¬ A a → H1[a]? = H[a]?) : FZ G A U H1 := ⟨vx_Zq.kept h.1 hq, vx_Zq.kept h.2.1 hq, va_T.kept h.2.2 hq⟩
theorem FZ.narrow {G : Nat × Nat × (Nat → Int32)} {A B : Nat → Prop} {U : State} {H : Heap} (h : FZ G A U H) (hAB : ∀ q, B q → A q) : FZ G B U H := ⟨vx_Zq.narrow h.1 hAB, vx_Zq.narrow h.2.1 hAB, va_T.narrow h.2.2 hAB⟩
/-! starts of contracts -/
def p_RO (D : va_G) (G : Nat × Nat × (Nat → Int32)) (tys : List (ClassId × FieldType)) (ws : va_W) (U : State) : Prop := va_P D vwCl ws U.heap ∧ va_K D vwCl tys U ∧ FT G U
theorem p_RO_blind {G : Nat × Nat × (Nat → Int32)} {D : va_G} {tys : List (ClassId × FieldType)} {ws : va_W} {av : List Value} : FrameBlind (va_Pc av (p_RO D G tys ws)) :=
  fun a U g mk q => ⟨q.1, q.2.1, va_K.moved (u := U) (U := U.calling g mk a) (Vm.Alike.refl U.vm) q.2.2.1, FT.same (u := U) rfl q.2.2.2⟩
theorem p_RO_at {G : Nat × Nat × (Nat → Int32)} {s : State} {H : Heap} {D : va_G} {tys tc : List (ClassId × FieldType)} {ws wc : va_W} (hP : va_P D vwCl ws H) (hK : va_K D vwCl tys s) (hT : FT G s) (isC isT : List Nat) (hC : isC.filterMap (fun i => ws[i]?) = wc) (hTy : isT.filterMap (fun i => tys[i]?) = tc) (av : List Value) :
    ∀ U : State, U.heap = H → s.WarmedH U.vm → va_Pc av (p_RO D G tc wc) av.toArray U :=
  fun U hU hW => ⟨rfl, by rw [hU]; exact hP.sub isC hC, va_K.moved hW.alike (hK.sub isT hTy), hT.warm hW⟩
def p_RW (D : va_G) (G : Nat × Nat × (Nat → Int32)) (tys : List (ClassId × FieldType)) (ws : va_W) (sz : Nat) (U : State) : Prop :=
  U.heap.size = sz ∧ va_P D vwCl ws U.heap ∧ va_K D vwCl tys U ∧ va_D (fun _ => True) ws ∧ FT G U ∧ FZ G (va_A ws sz) U U.heap
theorem p_RW_blind {G : Nat × Nat × (Nat → Int32)} {D : va_G} {tys : List (ClassId × FieldType)} {ws : va_W} {sz : Nat} {av : List Value} : FrameBlind (va_Pc av (p_RW D G tys ws sz)) :=
  fun a U g mk q => ⟨q.1, q.2.1, q.2.2.1, va_K.moved (u := U) (U := U.calling g mk a) (Vm.Alike.refl U.vm) q.2.2.2.1, q.2.2.2.2.1, FT.same (u := U) rfl q.2.2.2.2.2.1, FZ.moved (u := U) (U := U.calling g mk a) (Vm.Alike.refl U.vm) q.2.2.2.2.2.2⟩
theorem p_RW_at {G : Nat × Nat × (Nat → Int32)} {s : State} {H : Heap} {D : va_G} {tys tc : List (ClassId × FieldType)} {ws wc : va_W} {A0 : Nat → Prop} {locs : List Loc} (hP : va_P D vwCl ws H) (hK : va_K D vwCl tys s) (hD : va_D A0 ws) (hS : va_S A0 s.heap H locs) (hA : ∀ q, s.heap.size ≤ q → A0 q) (hT : FT G s) (hZ : FZ G A0 s s.heap)
    (isC isT : List Nat) (hC : isC.map (fun i => ws[i]?) = wc.map some) (hC2 : isC.filterMap (fun i => ws[i]?) = wc) (hn : va_nd isC = true) (hTy : isT.filterMap (fun i => tys[i]?) = tc) (av : List Value) :
    ∀ U : State, U.heap = H → s.WarmedH U.vm → va_Pc av (p_RW D G tc wc H.size) av.toArray U :=
  fun U hU hW => ⟨rfl, by rw [hU], by rw [hU]; exact hP.sub isC hC2, va_K.moved hW.alike (hK.sub isT hTy), (hD.sub isC hn hC).weaken (fun _ _ _ _ => trivial), hT.warm hW,
    by rw [hU]; exact FZ.moved hW.alike (FZ.narrow (FZ.kept hZ hS.2.1) (va_free hD hS hA isC hC))⟩
/-! ends of contracts -/
def q_RW (D : va_G) (tys : List (ClassId × FieldType)) (ws : va_W) (A : Nat → Prop) (t : State) : Prop := va_P D vwCl ws t.heap ∧ va_K D vwCl tys t ∧ va_D A ws
theorem q_RW_mk {s t : State} {H : Heap} {D : va_G} {tys tc : List (ClassId × FieldType)} {ws wc : va_W} {A : Nat → Prop} (hP : va_P D vwCl ws H) (hK : va_K D vwCl tys s) (hD : va_D A ws) (isC isT : List Nat) (hC : isC.map (fun i => ws[i]?) = wc.map some) (hC2 : isC.filterMap (fun i => ws[i]?) = wc) (hn : va_nd isC = true) (hTy : isT.filterMap (fun i => tys[i]?) = tc)
    (ht : t.heap = H) (hW : s.vm.Alike t.vm) : q_RW D tc wc A t := ⟨by rw [ht]; exact hP.sub isC hC2, va_K.moved hW (hK.sub isT hTy), hD.sub isC hn hC⟩
theorem q_join {s t : State} {H H1 : Heap} {D : va_G} {tys tyr ty1 : List (ClassId × FieldType)} {ws wc wr w1 : va_W} {A0 : Nat → Prop} (hP : va_P D vwCl ws H) (hD : va_D A0 ws) (hK : va_K D vwCl tys s) (isC isR isT : List Nat) (hC : isC.map (fun i => ws[i]?) = wc.map some) (hR : isR.map (fun i => ws[i]?) = wr.map some) (hn : va_nd isR = true) (hdis : ∀ i ∈ isR, i ∉ isC)
    (hTy : isT.filterMap (fun i => tys[i]?) = tyr) (hF : ∀ q, va_A wc H.size q → A0 q) (hk : ∀ q : Nat, q < H.size → ¬ va_A wc H.size q → H1[q]? = H[q]?) (ht : t.heap = H1) (hvm : s.vm.Alike t.vm) (hq : q_RW D ty1 w1 (va_A wc H.size) t) :
    va_P D vwCl (wr ++ w1) H1 ∧ va_D A0 (wr ++ w1) ∧ va_K D vwCl (tyr ++ ty1) s := by
  obtain ⟨hP1, hK1, hD1⟩ := hq
  rw [ht] at hP1
  obtain ⟨h1, h2⟩ := va_join hP hD isC isR hC hR hn hdis hk hF hP1 hD1
  exact ⟨h1, h2, (hK.sub isT hTy).app (va_K.moved hvm.symm hK1)⟩
/-- nothing is known of the callee's cells -/
theorem q_none {D : va_G} {A : Nat → Prop} {s t : State} {tys : List (ClassId × FieldType)} (hK : va_K D vwCl tys s) (hvm : s.vm.Alike t.vm) : q_RW D [] [] A t := ⟨fun _ _ h => by simp at h, va_K.moved hvm (hK.sub [] rfl), ⟨fun i j p q h => by simp at h, fun k q h => by simp at h⟩⟩
/-! throwing -/
theorem z_throw {args : Array Value} {s : State} {own cls : String} {ic : Nat} {names : List String} (hgw : ∀ w ∈ (vx_atS own ic cls names).filter goodWord, w.before args s = true) (hc : va_Nw (.castable cls cls) s) (hd : ∀ q ∈ FTD, va_Nw (.declares q) s) (h2 : ∀ w ∈ (vx_atS own ic cls names).filter (fun w => !goodWord w), w ∈ Cond.castable cls cls :: FTD.map Cond.declares) :
    ∀ w ∈ vx_atS own ic cls names, w.before args s = true := vx_hat hgw h2 (fun w h => by
  rcases List.mem_cons.mp h with rfl | h
  · exact va_Nw.use rfl hc
  · obtain ⟨q, hq, rfl⟩ := List.mem_map.mp h
    exact va_Nw.use rfl (hd q hq))
/-! numbers -/
def inR (v l h : Int32) : Prop := l ≤ v ∧ v ≤ h
theorem inR_none (v : Int32) : ¬ inR v 0 (-1) := fun h => by
  have h1 := Int32.le_iff_toInt_le.mp h.1
  have h2 := Int32.le_iff_toInt_le.mp h.2
  have e1 : (0 : Int32).toInt = 0 := by decide
  have e2 : (-1 : Int32).toInt = -1 := by decide
  omega
theorem inR_1 {v l h : Int32} (a : ¬ v < l) (b : v ≤ h) : inR v l h := ⟨Int32.not_lt.mp a, b⟩
theorem inR_2 {v l h : Int32} (a : ¬ v < l) (b : ¬ h < v) : inR v l h := ⟨Int32.not_lt.mp a, Int32.not_lt.mp b⟩
theorem inR_3 {v l h : Int32} (a : v < l) : ¬ inR v l h := fun q => absurd a (Int32.not_lt.mpr q.1)
theorem inR_4 {v l h : Int32} (b : ¬ v ≤ h) : ¬ inR v l h := fun q => b q.2
theorem inR_5 {v l h : Int32} (b : h < v) : ¬ inR v l h := fun q => absurd b (Int32.not_lt.mpr q.2)
theorem z_in {i : Int32} {n : Nat} (h0 : ¬ i < 0) (h1 : i < nI n) (hn : n < 2 ^ 31) : vp_in i n := by
  obtain ⟨j, hj, rfl⟩ := nI_of h0
  exact vp_in_nI ((nI_ltI hj hn).mp h1) hn
def gOK (lo hi xe co : Int32) : Prop := inR lo 600 1100 ∧ inR hi lo 1100 ∧ inR xe 50 150 ∧ inR co 0 9
def sOK (a b c : Int32) : Prop := inR a 2 6 ∧ inR b 1 8 ∧ inR c 0 99
def isRole (ch : Int32) : Prop := ch = 98 ∨ ch = 102 ∨ ch = 103 ∨ ch = 115
theorem isRole_no {ch : Int32} (a : ¬ ch = 98) (b : ¬ ch = 102) (c : ¬ ch = 103) (d : ¬ ch = 115) : ¬ isRole ch := fun q => by
  rcases q with q | q | q | q
  · exact a q
  · exact b q
  · exact c q
  · exact d q
theorem inR_pos {v h : Int32} (q : inR v 2 h) : ¬ v ≤ 0 := fun z => by
  have h1 := Int32.le_iff_toInt_le.mp q.1
  have h2 := Int32.le_iff_toInt_le.mp z
  have e1 : (0 : Int32).toInt = 0 := by decide
  have e2 : (2 : Int32).toInt = 2 := by decide
  omega
theorem z_upd (k : Nat) : upd (fun _ => (0 : Int32)) k 0 = fun _ => 0 := by
  funext j
  by_cases h : j = k
  · subst h; rw [pk_us]
  · rw [pk_un h]
/-- a loop that counts to n; hv: what grows with it -/
theorem z_loop {α : Type} (P : Nat → α → Heap → List Loc → Array Slot → Prop) (Wp : Nat → Heap → List Loc → Array Slot → Prop) (n : Nat)
    (step : ∀ k, k < n → (∀ hv H locs ls, P (k + 1) hv H locs ls → Wp (k + 1) H locs ls) → ∀ hv H locs ls, P k hv H locs ls → Wp k H locs ls)
    (exit : ∀ hv H locs ls, P n hv H locs ls → Wp n H locs ls) : ∀ (j k : Nat), k + j = n → ∀ hv H locs ls, P k hv H locs ls → Wp k H locs ls
  | 0, k, h, hv, H, locs, ls, hp => by
    have e : k = n := by omega
    subst e
    exact exit hv H locs ls hp
  | j + 1, k, h, hv, H, locs, ls, hp => step k (by omega) (fun hv H locs ls hp => z_loop P Wp n step exit j (k + 1) (by omega) hv H locs ls hp) hv H locs ls hp
theorem inR_n {v : Int32} {h : Nat} (hh : h < 2 ^ 31) (q : inR v 1 (nI h)) : ∃ n : Nat, n ≤ h ∧ v = nI n := by
  have h0 : ¬ v < 0 := fun z => by
    have h1 := Int32.le_iff_toInt_le.mp q.1
    have h2 := Int32.lt_iff_toInt_lt.mp z
    have e1 : (0 : Int32).toInt = 0 := by decide
    have e2 : (1 : Int32).toInt = 1 := by decide
    omega
  obtain ⟨j, hj, rfl⟩ := nI_of h0
  exact ⟨j, (nI_leI hj hh).mp q.2, rfl⟩
theorem inR_26 {v : Int32} (q : inR v 2 6) : ∃ n : Nat, 2 ≤ n ∧ n ≤ 6 ∧ v = nI n := by
  have h0 : ¬ v < 0 := fun z => by
    have h1 := Int32.le_iff_toInt_le.mp q.1
    have h2 := Int32.lt_iff_toInt_lt.mp z
    have e1 : (0 : Int32).toInt = 0 := by decide
    have e2 : (2 : Int32).toInt = 2 := by decide
    omega
  obtain ⟨j, hj, rfl⟩ := nI_of h0
  exact ⟨j, (nI_leI (a := 2) (by decide) hj).mp q.1, (nI_leI (b := 6) hj (by decide)).mp q.2, rfl⟩
theorem z_lift {E R ws : List Cond} (h : GoodIn E ws) : GoodIn (E ++ R) ws := fun w hw => ⟨List.mem_append_left _ (h w hw).1, (h w hw).2⟩
theorem z_gnil {big : List Cond} : GoodIn big [] := fun _ h => absurd h List.not_mem_nil
/-! NoSuchElementException: its constructor passes on at the entry 13 -/
section ZX
variable {p : Program} {l : Launch} {e : Env} {R : Room} {s : State} {m₀ : MethodId} {args : Array Value} {below : List Frame} {meth : Method} {c : Code} {W : State} {locs : List Loc} {cells slots : Nat}
def z_sixN : ByteArray := ⟨#[42, 43, 183, 0, 13, 177]⟩
def z_own (own : String) (ic : Nat) (X Y : String) (r : List String) : List Cond :=
  Bundle.throwableAtoms ++ Bundle.throwableSAtoms ++ (Bundle.passSAtoms X Y 13 z_sixN ++ Bundle.chainSAtoms Y r) ++
    [.methodLink own ic (Bundle.initS X), .instantiable X 6, .castable X X, .selects X Bundle.tFill0 Bundle.tFill0, .selects X Bundle.tFill Bundle.tFill, .lays X Bundle.tN "cause" "Ljava/lang/Throwable;", .lays X Bundle.tN "stackTrace" Bundle.steD, .lays X Bundle.tN "suppressedExceptions" Bundle.listD, .lays X Bundle.tN "detailMessage" "Ljava/lang/String;", .isRef (.static Bundle.tN "UNASSIGNED_STACK" Bundle.steD), .isRef (.static Bundle.tN "SUPPRESSED_SENTINEL" Bundle.listD), .fieldLink Bundle.tN 198 Bundle.tN "backtrace" "Ljava/lang/Object;", .lays Bundle.tN Bundle.tN "backtrace" "Ljava/lang/Object;", .lays X Bundle.tN "backtrace" "Ljava/lang/Object;"]
def z_atN (own : String) (ic : Nat) (X Y : String) (r : List String) : List Cond := (z_own own ic X Y r).filter vx_no
theorem zx_chain {pl : Platform} (hpl : pl.magicAccessors = ({} : Platform).magicAccessors) {top : MethodId} (hn : s.methodNamed? (Bundle.initS Bundle.tN) = some top) (X Y : String) (r : List String) (hX : Bundle.fit X = true) (hY : Bundle.fit Y = true) (hr : ∀ n ∈ r, Bundle.fit n = true) (h : ∀ c ∈ Bundle.passSAtoms X Y 13 z_sixN ++ Bundle.chainSAtoms Y r, c.before args s = true) :
    ∃ (P1 : PassC) (Ps : List PassC), Ps.length = r.length + 1 ∧ P1.LinksS pl s ∧ (∀ P ∈ Ps, PassC.LinksS P pl s) ∧ s.methodNamed? (Bundle.initS X) = some P1.m ∧ P1.sup = firstOf top (List.map (fun x => x.toPassT) Ps) ∧ PassesOn top (List.map (fun x => x.toPassT) Ps) := by
  obtain ⟨P1, L1, n1, n2⟩ := PassC.ofS_atoms (args := args) hpl (X := X) (Y := Y) (index := 13) (bytes := z_sixN) (Bundle.fit_spec hX).1 (Bundle.fit_spec hY).2 (by decide +kernel) (by decide +kernel) (by decide +kernel) (by decide +kernel) (fun c hc => h c (List.mem_append_left _ hc))
  obtain ⟨P2, Ps, hlen, L2, hL, hm, hsup, hon⟩ := Bundle.chainS (args := args) hpl hn r Y hY hr (fun c hc => h c (List.mem_append_right _ hc))
  refine ⟨P1, P2 :: Ps, by simp [hlen], L1, ?_, n1, ?_, ?_⟩
  · intro P hP
    rcases List.mem_cons.mp hP with rfl | hP
    · exact L2
    · exact hL P hP
  · exact Option.some.inj (n2.symm.trans hm)
  · exact ⟨hsup, hon⟩
set_option maxHeartbeats 1000000 in
theorem zx_ctorMade (X : Stand p l e R s m₀ args below meth c W locs cells slots) (hexec : p.tables.exec = Jvm.exec) (htr : e.platform.stackTraces = false) {own cls up : String} {r : List String} {ic : Nat}
    (hown : s.vm.findClass own = some m₀.cls) (hcls : Bundle.fit cls = true) (hup : Bundle.fit up = true) (hr : ∀ n ∈ r, Bundle.fit n = true)
    (h : ∀ a ∈ z_own own ic cls up r, a.before args s = true)
    (hlocs : ∀ x ∈ locs, ∀ cell, s.heap[x.base]? = some cell → cell.vm.isStatics = false)
    {a : Addr} {cX : ClassId} {kX : Class} (hfoundX : s.vm.findClass cls = some cX) (hkX : s.vm.classes[cX]? = some kX) (hcell : W.heap[a]? = some (freshCell cX kX)) (hnew : s.heap.size ≤ a)
    {msg : Value} (hmsg : msg.isRef = true)
    {g : JFrame} (hg : g.method = m₀) (hsize : g.locals.size = c.maxLocals) {rest : List Value} (hstack : g.stack = msg :: .ref a :: .ref a :: rest)
    (hd6 : decode c.code g.pc = .ok (.invokespecial ic, 3))
    (hRframes : r.length + 4 < R.frames) (hRlocals : 2 * g.monitorRoom + ((Value.ref a :: rest).map fun v => v.category).sum + (13 * (r.length + 2) + 42) ≤ R.locals) :
    ∃ (V : State) (ce : Cell) (L : List Loc), Stand p l e R s m₀ args below meth c (V.setCell a ce) (locs ++ L) cells slots ∧ (∀ y ∈ L, y.base = a) ∧ a < V.heap.size ∧ ce.cls = cX ∧ ce.vm = .none ∧
      ∀ target, Steps p.tables e below ((V.setCell a ce).setTop { g with stack := .ref a :: rest, pc := g.pc + 3 }) target → Steps p.tables e below (W.setTop g) target := by
  have howns : e.platform.frameOwnsMonitors = true := by rw [X.admits.platform]
  have hfin : e.platform.finalization = false := by rw [X.admits.platform]
  have hpl : e.platform.magicAccessors = ({} : Platform).magicAccessors := by rw [X.admits.platform]
  have a' : ∀ x, x ∈ z_own own ic cls up r → x.holds args s none s [] = true := fun x hx => h x hx
  obtain ⟨T, Z0, L, -, Y⟩ := ThrowableC.of_atoms (args := args) howns hfin hpl (fun x hx => h x (by simp [z_own, hx]))
  obtain ⟨Z, M, LZ, LM, hnZ⟩ := Init0T.ofS_atoms (args := args) hpl L Y (fun x hx => h x (by simp [z_own, hx]))
  obtain ⟨P1, Ps, hlen, L1, hL, hP1m, hlink1, hlink⟩ := zx_chain (args := args) hpl hnZ cls up r hcls hup hr (fun x hx => h x (List.mem_append_left _ (List.mem_append_right _ hx)))
  have hfound : s.vm.findClass cls = some P1.m.cls := findClass_of_methodNamed hP1m
  cases Option.some.inj (hfoundX.symm.trans hfound)
  obtain ⟨c1, kX', hc1, hk, hord, -, -, hn6⟩ := Cond.instantiable_spec (a' (.instantiable cls 6) (by simp [z_own]))
  cases Option.some.inj (hc1.symm.trans hfound)
  cases Option.some.inj (hkX.symm.trans hk)
  have hsel0 : selectMethod e.platform s.vm P1.m.cls T.fill0 = .method T.fill0 := by
    obtain ⟨c2, r2, m2, q1, q2, q3, q4, -⟩ := Cond.selects_spec (a' (.selects cls Bundle.tFill0 Bundle.tFill0) (by simp [z_own]))
    cases Option.some.inj (q1.symm.trans hfound)
    cases Option.some.inj (q2.symm.trans (State.methodFound?_of_named Y.fill0 (by decide)))
    cases Option.some.inj (q3.symm.trans Y.fill0)
    rw [Launch.admits_selectMethod X.admits]; exact q4
  have hselF : selectMethod e.platform s.vm P1.m.cls T.fill = .method T.fill := by
    obtain ⟨c2, r2, m2, q1, q2, q3, q4, -⟩ := Cond.selects_spec (a' (.selects cls Bundle.tFill Bundle.tFill) (by simp [z_own]))
    cases Option.some.inj (q1.symm.trans hfound)
    cases Option.some.inj (q2.symm.trans (State.methodFound?_of_named Y.fill (by decide)))
    cases Option.some.inj (q3.symm.trans Y.fill)
    rw [Launch.admits_selectMethod X.admits]; exact q4
  obtain ⟨cellS0, hcS0, hiss⟩ := Y.statics
  obtain ⟨u0, hu0⟩ := Cond.staticRefV Y.unassigned L.unassignedStatic L.statics hcS0 hiss (a' (.isRef (.static Bundle.tN "UNASSIGNED_STACK" Bundle.steD)) (by simp [z_own]))
  obtain ⟨sen, hsen⟩ := Cond.staticRefV Y.sentinel L.sentinelStatic L.statics hcS0 hiss (a' (.isRef (.static Bundle.tN "SUPPRESSED_SENTINEL" Bundle.listD)) (by simp [z_own]))
  obtain ⟨ci198, i198, fB, hk198, hg198, ha198, hsB, -, hnB, htB, hffB⟩ := Cond.ownField (t := .object "java/lang/Object") Y.found L.cls (by decide +kernel) (a' (.fieldLink Bundle.tN 198 Bundle.tN "backtrace" "Ljava/lang/Object;") (by simp [z_own])) (a' (.lays Bundle.tN Bundle.tN "backtrace" "Ljava/lang/Object;") (by simp [z_own])) e.platform hpl
  obtain ⟨cellS, hcS', heS, -, hkeep⟩ := X.same.2.2.2.2.2 T.aS cellS0 hcS0
  have hcellS : W.heap[T.aS]? = some cellS := hcS'
  have hout' : ∀ i, (⟨T.aS, i⟩ : Loc) ∉ locs := fun i hmem => by
    have := hlocs _ hmem cellS0 hcS0
    rw [hiss] at this; cases this
  have hknownS : cellS.vm ≠ .unknown := by
    rw [heS]; intro hu
    rw [show cellS0.vm = .unknown from hu] at hiss
    cases hiss
  have hneS : T.aS ≠ a := Nat.ne_of_lt (Nat.lt_of_lt_of_le (Array.getElem?_eq_some_iff.mp hcS0).1 hnew)
  obtain ⟨iM, hffM⟩ := Y.msg
  obtain ⟨tyC, dC, hdC, hdnC⟩ := Cond.laysAt hfound hk Y.cause (a' (.lays cls Bundle.tN "cause" "Ljava/lang/Throwable;") (by simp [z_own]))
  obtain ⟨tyS, dS, hdS, hdnS⟩ := Cond.laysAt hfound hk Y.stack (a' (.lays cls Bundle.tN "stackTrace" Bundle.steD) (by simp [z_own]))
  obtain ⟨tyP, dP, hdP, hdnP⟩ := Cond.laysAt hfound hk Y.supp (a' (.lays cls Bundle.tN "suppressedExceptions" Bundle.listD) (by simp [z_own]))
  obtain ⟨tyM, dM, hdM, hdnM⟩ := Cond.laysAt hfound hk hffM (a' (.lays cls Bundle.tN "detailMessage" "Ljava/lang/String;") (by simp [z_own]))
  obtain ⟨tyB, dB, hdB, hdnB⟩ := Cond.laysAt hfound hk hffB (a' (.lays cls Bundle.tN "backtrace" "Ljava/lang/Object;") (by simp [z_own]))
  have bC := Cond.laysApart hdB hdC hdnB hdnC (by rw [hnB, Y.causeName]; decide)
  have bS := Cond.laysApart hdB hdS hdnB hdnS (by rw [hnB, Y.stackName]; decide)
  have bP := Cond.laysApart hdB hdP hdnB hdnP (by rw [hnB, Y.suppName]; decide)
  have hskip : SkipFacts T e.platform s (fun u => u) u0 ((preparedCellV T.toThrowableT (freshCell P1.m.cls kX) a u0 sen).withEntry W.cur) :=
    ⟨{ ci198 := ci198, i198 := i198, fBack := fB }, ⟨hk198, hg198, ha198, hsB⟩, by
      have := fresh_default (c := P1.m.cls) tyB
      rw [htB] at this
      simpa [preparedCellV, Cell.setSlot, Cell.withEntry, Array.getElem?_setIfInBounds, bC, bS, bP, bC.symm, bS.symm, bP.symm, defaultValue] using this, fun _ _ => rfl⟩
  obtain ⟨tm, methC, cdC, kC, vm₁, hnC, -, -, -, -, -, -, -, hW₁, st1⟩ := Steps.initColdS (tb := p.tables) (e := e) (below := below) (s := s) (U := W) X.here hexec X.warmed hpl hown (t := Bundle.initS cls) rfl rfl (Bundle.fit_spec hcls).2
    (a' (.methodLink own ic (Bundle.initS cls)) (by simp [z_own])) (h (.instanceMethod (Bundle.initS cls)) (by simp [z_own, Bundle.passSAtoms])) (bytes := z_sixN) (maxL := 2) (h (.code (Bundle.initS cls) z_sixN 2 none) (by simp [z_own, Bundle.passSAtoms]))
    (f := g) hg (a := a) (msg := msg) (rest := .ref a :: rest) hstack hd6
  cases Option.some.inj (hnC.symm.trans hP1m)
  have X₁ := X.noted hW₁
  obtain ⟨vm₂, X₂, st2⟩ := X₁.ctorMessageOffV hexec (g := { g with stack := .ref a :: rest }) hg hsize T L Z LZ M LM (P1 :: Ps)
    (fun P hP => by rcases List.mem_cons.mp hP with rfl | hP; exact L1; exact hL P hP) ⟨hlink1, hlink⟩ (u0 := u0) (sen := sen) (self := a) hmsg (cell := freshCell P1.m.cls kX) (cellS := cellS)
    hcell (fun _ => by simp) (by simp) rfl rfl hsel0 hselF hcellS hneS hknownS (by rw [hkeep _ (hout' _)]; exact hu0) (by rw [hkeep _ (hout' _)]; exact hsen)
    (Takes.of_laid hk hord tyC (by rw [Y.causeType]; rfl)) (Takes.of_laid hk hord tyS (by rw [Y.stackType]; exact fits_refV_array _ u0)) (Takes.of_laid hk hord tyP (by rw [Y.suppType]; exact fits_refV_object _ sen))
    (Takes.of_laid hk hord tyM (by rw [Y.msgType]; exact fits_refV_object _ ⟨msg, hmsg⟩)) Y.objLocals hskip htr [] hd6
    (by simp only [List.length_cons, hlen]; omega) (by simp only [List.length_cons, hlen]; exact hRlocals)
  have hlt : a < ((W.setVm vm₁).setVm vm₂).heap.size := (Array.getElem?_eq_some_iff.mp hcell).1
  refine ⟨(W.setVm vm₁).setVm vm₂, _, _, X₂, fun y hy => ?_, hlt, rfl, rfl, fun target hwalk => st1 _ (fun acts => ?_)⟩
  · simp only [List.mem_cons, List.not_mem_nil, or_false] at hy
    rcases hy with rfl | rfl | rfl | rfl | rfl <;> rfl
  · rw [doInvoke_state]
    exact st2 _ hwalk
end ZX
section ZX2
variable {p : Program} {l : Launch} {e : Env} {R : Room} {s : State} {m : MethodId} {args : Array Value} {below : List Frame} {meth : Method} {c : Code} {H : Heap} {locs : List Loc} {cells slots : Nat} {free : Addr → Prop}
variable {ls : Array Slot} {rest : List Value} {Qc : Array Value → State → Outcome → State → Prop} {XC : String → State → State → Prop}
theorem zx_throw {cc : ByteArray} {pc : Nat} (hexec : p.tables.exec = Jvm.exec) (hb : c.code = cc) (hl : l.stackTraces = false) {own cls text up : String} {r : List String} {ik is ic mc ms sa : Nat} {A : Nat → Prop}
    (hown : s.vm.findClass own = some m.cls) (hcls : Bundle.fit cls = true) (hup : Bundle.fit up = true) (hr : ∀ n ∈ r, Bundle.fit n = true)
    (hk : (Cond.classLink own ik cls).before args s = true) (hini : (Cond.initialized cls).before args s = true) (hstr : vk_R own is text sa s) (hat : ∀ w ∈ z_atN own ic cls up r, w.before args s = true)
    (hgood : ∀ w ∈ Cond.classLink own ik cls :: Cond.initialized cls :: z_atN own ic cls up r, vx_ot w = true)
    (hU : vx_Zq Bundle.tN "UNASSIGNED_STACK" Bundle.steD A s s.heap) (hN : vx_Zq Bundle.tN "SUPPRESSED_SENTINEL" Bundle.listD A s s.heap) (hS : va_S A s.heap H locs) (hsize : ls.size = c.maxLocals)
    (d0 : decode cc pc = .ok (.new ik, 3)) (d3 : decode cc (pc + 3) = .ok (.dup, 1)) (d4 : decode cc (pc + 4) = .ok (.ldc_w is, 3)) (d7 : decode cc (pc + 7) = .ok (.invokespecial ic, 3)) (d10 : decode cc (pc + 10) = .ok (.athrow, 1))
    (hout : ∀ x ∈ c.exceptionTable.toList, covers x (pc + 10) = false)
    (hRframes : r.length + 4 < R.frames) (hRlocals : (rest.map fun v => v.category).sum + (13 * (r.length + 2) + 43) ≤ R.locals) (hRcells : cells + 1 ≤ R.cells) (hRslots : slots + 6 ≤ R.slots) (hlocks : meth.locks = false)
    (hx : ∀ t : State, s.vm.Alike t.vm → H.size ≤ t.heap.size → (∀ q : Nat, q < H.size → t.heap[q]? = H[q]?) → XC cls s t)
    (hf : ∀ z ∈ locs, free z.base) (hc : cells + 1 ≤ mc) (hs : slots + 6 ≤ ms) :
    W p l e R s m args below meth c H locs cells slots (vx_MQ below Qc XC args s mc ms free) (F0 m pc ls rest) := by
  intro T hT X
  subst hT
  have htr : e.platform.stackTraces = false := (show e.platform.stackTraces = l.stackTraces by rw [X.admits.platform]).trans hl
  have Y := vx_rebase X (R' := { frames := R.frames, locals := R.locals, cells := 1, slots := 6 }) (Nat.le_refl _) (Nat.le_refl _) hRcells hRslots
  obtain ⟨s', hA'⟩ : ∃ z, z = (T.setVm s.vm).setFrames (.invoking m args :: below) := ⟨_, rfl⟩
  rw [← hA'] at Y
  have hvm : s'.vm = s.vm := by rw [hA']; rfl
  have hhp : s'.heap = T.heap := by rw [hA']; rfl
  have hW0 : s.WarmedH s'.vm := by rw [hvm]; exact State.WarmedH.refl s
  have hat' : ∀ w ∈ z_atN own ic cls up r, w.before args s' = true := fun w hw => vx_ot_at hW0 hvm.symm (hgood w (List.mem_cons_of_mem _ (List.mem_cons_of_mem _ hw))) (hat w hw)
  have hk' : (Cond.classLink own ik cls).before args s' = true := vx_ot_at hW0 hvm.symm (hgood _ List.mem_cons_self) hk
  have hini' : (Cond.initialized cls).before args s' = true := vx_ot_at hW0 hvm.symm (hgood _ (List.mem_cons_of_mem _ List.mem_cons_self)) hini
  have hU' : vx_Zq Bundle.tN "UNASSIGNED_STACK" Bundle.steD A s' s'.heap := by rw [hhp]; exact vx_Zq.moved hW0.alike (hU.kept hS.2.1)
  have hN' : vx_Zq Bundle.tN "SUPPRESSED_SENTINEL" Bundle.listD A s' s'.heap := by rw [hhp]; exact vx_Zq.moved hW0.alike (hN.kept hS.2.1)
  have h : ∀ w ∈ z_own own ic cls up r, w.before args s' = true := vx_own hat' (vx_isRefq hU'.1) (vx_isRefq hN'.1) hU'.2.word hN'.2.word
  have hown' : s'.vm.findClass own = some m.cls := by rw [hvm]; exact hown
  have hins : (Cond.instantiable cls 6).before args s' = true := h _ (by simp [z_own])
  obtain ⟨vm₁, cX, kX, hfX, hkX, -, -, X₁, st1⟩ := Y.newCold hexec (own := own) (C := cls) (index := ik) (n := 6) hown' hk' hins hini'
    (g := F0 m pc ls rest) rfl (by rw [hb]; exact d0) (Nat.le_refl _) (Nat.le_refl _)
  generalize hT1 : (T.setVm vm₁).pushCell { cls := cX, slots := kX.instanceTypes.map defaultValue, vm := .none } = T1 at X₁ st1
  have hcat : (Value.ref T.heap.size).category = 1 := rfl
  have hcellA : T1.heap[T.heap.size]? = some (freshCell cX kX) := by rw [← hT1]; exact State.heap_pushCell_size _ _
  have d3' : decode c.code (pc + 3) = .ok (.dup, 1) := by rw [hb]; exact d3
  have d4' : decode c.code (pc + 4) = .ok (.ldc_w is, 3) := by rw [hb]; exact d4
  have hstr' : vk_R own is text sa s' := vk_R.warm hW0 hstr
  obtain ⟨V, ce, L, Z, hL, hlt, hcl9, hvm9, st⟩ := zx_ctorMade X₁ hexec htr (own := own) (cls := cls) (up := up) (r := r) (ic := ic) hown' hcls hup hr h (fun x hx => nomatch hx) hfX hkX hcellA (by rw [hhp]; exact Nat.le_refl _) (msg := .ref sa) rfl
    (g := { method := m, pc := pc + 7, locals := ls, stack := .ref sa :: .ref T.heap.size :: .ref T.heap.size :: rest, locked := none }) rfl hsize (rest := rest) rfl
    (by rw [hb]; exact d7) hRframes (by simp only [List.map_cons, List.sum_cons, hcat]; omega)
  have Z0 := Stand.forget (locs := []) Z (fun y hy => by rw [hL y hy, hhp]; exact Nat.le_refl _)
  obtain ⟨f1, f2⟩ := vx_frame Z0.same
  rw [hhp] at f1 f2
  have hcE : s.vm.findClass cls = some ce.cls := by
    rw [hcl9]
    rw [hvm] at hfX
    exact hfX
  have hh : (V.setCell T.heap.size ce).heap[T.heap.size]? = some ce := heapAt_setCell_self (s := V) ce hlt
  subst hA'
  have X5 := vx_back9 X Y Z0
  have X6 : Stand p l e R s m args below meth c (V.setCell T.heap.size ce) locs (cells + 1) (slots + 6) := { X5 with same := X5.same.mono (by omega) (by omega) }
  obtain ⟨t, a1, b1⟩ := vx_athrow (rest := rest) (pc := pc + 10) (ls := ls) (q := T.heap.size) hexec hb d10 (vx_out (ce := ce) (Qc := Qc) (XC := XC) hout hlocks hh hvm9 hcE (fun t ht ha => hx t ha (by rw [ht]; exact f1) (fun q hq => by rw [ht]; exact f2 q hq (fun z hz => nomatch hz))) hf hc hs) _ rfl X6
  refine ⟨t, st1 _ ?_, b1⟩
  show Steps p.tables e below (T1.setTop { method := m, pc := pc + 3, locals := ls, stack := .ref T.heap.size :: rest, locked := none }) _
  jvm_step X₁.here [X₁.here.top, hexec, d3', Value.category]
  exact X₁.ldcStringW hexec (own := own) (text := text) (index := is) (a := sa) hown' hstr'.1 hstr'.2
    (g := { method := m, pc := pc + 4, locals := ls, stack := .ref T.heap.size :: .ref T.heap.size :: rest, locked := none }) rfl d4' _ (st _ a1)
end ZX2
theorem z_throwN {args : Array Value} {s : State} {own cls up : String} {ic : Nat} {r : List String} (hgw : ∀ w ∈ (z_atN own ic cls up r).filter goodWord, w.before args s = true) (hc : va_Nw (.castable cls cls) s) (hd : ∀ q ∈ FTD, va_Nw (.declares q) s) (h2 : ∀ w ∈ (z_atN own ic cls up r).filter (fun w => !goodWord w), w ∈ Cond.castable cls cls :: FTD.map Cond.declares) :
    ∀ w ∈ z_atN own ic cls up r, w.before args s = true := vx_hat hgw h2 (fun w h => by
  rcases List.mem_cons.mp h with rfl | h
  · exact va_Nw.use rfl hc
  · obtain ⟨q, hq, rfl⟩ := List.mem_map.mp h
    exact va_Nw.use rfl (hd q hq))
theorem z_memr {big : List Cond} (ws : List Cond) (ps : List Nat) (hp : ws = ps.filterMap (fun i => big[i]?)) : ∀ w ∈ ws, w ∈ big := fun w hw => by
  rw [hp] at hw
  obtain ⟨i, -, hi⟩ := List.mem_filterMap.mp hw
  exact List.mem_of_getElem? hi
/-! contents of small arrays, written out -/
def zq (l : List (Option Nat)) : Nat → Option Nat := fun i => l.getD i none
def zi (l : List Int32) : Nat → Int32 := fun i => l.getD i 0
theorem zi_upd {l l' : List Int32} {i : Int32} {k : Nat} {x : Int32} (hk : i.toNatClampNeg = k) (hl : k < l.length) (h : l.set k x = l') : upd (zi l) i.toNatClampNeg x = zi l' := by
  subst hk; subst h
  funext j
  by_cases e : j = i.toNatClampNeg
  · subst e
    rw [pk_us]
    simp [zi, hl]
  · rw [pk_un e]
    simp [zi, List.getElem?_set_ne (Ne.symm e)]
theorem zq_upd {l l' : List (Option Nat)} {i : Int32} {k : Nat} {x : Option Nat} (hk : i.toNatClampNeg = k) (hl : k < l.length) (h : l.set k x = l') : va_up (zq l) i.toNatClampNeg x = zq l' := by
  subst hk; subst h
  funext j
  by_cases e : j = i.toNatClampNeg
  · subst e
    rw [va_up_self]
    simp [zq, hl]
  · rw [va_up_ne _ _ e]
    simp [zq, List.getElem?_set_ne (Ne.symm e)]
theorem zq_new (n : Nat) : (fun _ => none : Nat → Option Nat) = zq (List.replicate n none) := by
  funext j
  simp only [zq, List.getD_eq_getElem?_getD]
  by_cases h : j < n
  · simp [h]
  · simp [h]
theorem zi_new (n : Nat) : (fun _ => 0 : Nat → Int32) = zi (List.replicate n 0) := by
  funext j
  simp only [zi, List.getD_eq_getElem?_getD]
  by_cases h : j < n
  · simp [h]
  · simp [h]
theorem z_rf {f : Nat → Option Nat} {k a : Nat} (hk : k < 2 ^ 31) (h : f k = some a) : va_rf (f (nI k).toNatClampNeg) = .ref a := by
  rw [nI_clamp hk, h]; rfl
theorem z_rfN {f : Nat → Option Nat} {k : Nat} (hk : k < 2 ^ 31) (h : f k = none) : va_rf (f (nI k).toNatClampNeg) = .null := by
  rw [nI_clamp hk, h]; rfl
/-! numbers that are no less than 0 -/
theorem z_msub {c a : Nat} (hc : c < 2 ^ 31) (ha : a < 2 ^ 30) (hc2 : c < 2 ^ 30) : (if (0 : Int32) < nI a - nI c then nI a - nI c else 0) = nI (a - c) := by
  rcases Nat.lt_or_ge c a with h | h
  · rw [pk_sub (Nat.le_of_lt h), if_pos]
    exact nI_lt (a := 0) (by omega) (by omega)
  · rw [if_neg]
    · rw [show a - c = 0 by omega]; rfl
    · intro z
      have h1 := Int32.lt_iff_toInt_lt.mp z
      rw [pk_sub_toInt ha hc2] at h1
      have e1 : (0 : Int32).toInt = 0 := by decide
      omega
theorem z_msubR {c a : Nat} (hc : c < 2 ^ 31) (ha : a < 2 ^ 30) (hc2 : c < 2 ^ 30) : (if nI a - nI c < (0 : Int32) then (0 : Int32) else nI a - nI c) = nI (a - c) := by
  rcases Nat.lt_or_ge a c with h | h
  · rw [if_pos]
    · rw [show a - c = 0 by omega]; rfl
    · apply Int32.lt_iff_toInt_lt.mpr
      rw [pk_sub_toInt ha hc2]
      have e1 : (0 : Int32).toInt = 0 := by decide
      omega
  · rw [pk_sub h, if_neg]
    exact nI_pos (by omega)
theorem z_max {a b : Nat} (ha : a < 2 ^ 31) (hb : b < 2 ^ 31) : (if nI a < nI b then nI b else nI a) = nI (max a b) := by
  by_cases h : a < b
  · rw [if_pos (nI_lt h hb), Nat.max_eq_right (Nat.le_of_lt h)]
  · rw [if_neg (nI_nlt (by omega) ha), Nat.max_eq_left (by omega)]
theorem z_min {a b : Nat} (ha : a < 2 ^ 31) (hb : b < 2 ^ 31) : (if nI b < nI a then nI b else nI a) = nI (min a b) := by
  by_cases h : b < a
  · rw [if_pos (nI_lt h ha), Nat.min_eq_right (Nat.le_of_lt h)]
  · rw [if_neg (nI_nlt (by omega) hb), Nat.min_eq_left (by omega)]
/-! behind a throw the old cells are as they were -/
theorem q_RW_th {s t : State} {H : Heap} {D : va_G} {tys tc : List (ClassId × FieldType)} {ws wc : va_W} {A : Nat → Prop} (hP : va_P D vwCl ws H) (hK : va_K D vwCl tys s) (hD : va_D A ws) (isC isT : List Nat) (hC : isC.map (fun i => ws[i]?) = wc.map some) (hC2 : isC.filterMap (fun i => ws[i]?) = wc) (hn : va_nd isC = true) (hTy : isT.filterMap (fun i => tys[i]?) = tc)
    (hk : ∀ q : Nat, q < H.size → t.heap[q]? = H[q]?) (hW : s.vm.Alike t.vm) : q_RW D tc wc A t := ⟨(hP.kept (fun k x hx => hk x.1 ((hP k x hx).lt))).sub isC hC2, va_K.moved hW (hK.sub isT hTy), hD.sub isC hn hC⟩
theorem z_scr {k n : Nat} (hL : n < 2 ^ 31) (hk : k < 2 ^ 31) (h : ¬ Int32.ofNat n ≤ nI k) : vp_in (nI k) n :=
  vp_in_nI (Nat.lt_of_not_le fun q => h (nI_le q hk)) hL
section ZA
variable {p : Program} {l : Launch} {e : Env} {R : Room} {s : State} {m : MethodId} {args : Array Value} {below : List Frame} {meth : Method} {c : Code} {H : Heap} {locs : List Loc} {cells slots : Nat} {Q : State → Prop}
variable {cc : ByteArray} {pc : Nat} {ls : Array Slot} {rest : List Value} {D : va_G} {cl : List vw_C} {A : Nat → Prop} {a : Nat} {tys : List (ClassId × FieldType)} {ws : va_W} {H0 : Heap}
/-- rows of rows of ints: read, made, written -/
theorem va_aldqA (hexec : p.tables.exec = Jvm.exec) (hb : c.code = cc) (hK : va_K D cl tys s) (hP : va_P D cl ws H) (q0 t0 : Nat) {cA : ClassId} {n : Nat} {f : Nat → Option Nat} (ha : ws[q0]? = some (a, .inl (cA, n, .inr (.inr (.inr (.inr f)))))) (ht : tys[t0]? = some (cA, .array .int)) {i : Int32} (hin : vp_in i n) (hdg : decode cc pc = .ok (.aaload, 1))
    (kk : W p l e R s m args below meth c H locs cells slots Q (F0 m (pc + 1) ls (va_rf (f i.toNatClampNeg) :: rest))) : W p l e R s m args below meth c H locs cells slots Q (F0 m pc ls (.int i :: .ref a :: rest)) := by
  have hlt : i.toNatClampNeg < n := Nat.not_le.mp fun q => hin (Or.inr q)
  exact W.aald (v := va_rf (f i.toNatClampNeg)) (ty := .array .int) hexec hb (hP q0 _ ha) ((hK.2 t0 _ ht).1 n (fun j => va_rf (f j))) rfl (fun q => by cases q) (by show ¬ (i < 0 ∨ (arrV _ _ _).slots.size ≤ _); rw [arrV_size]; exact hin) (by show (arrV _ _ _).slots[_]? = _; rw [arrV_read _ _ hlt]) rfl rfl hdg kk
theorem va_newqA (hexec : p.tables.exec = Jvm.exec) (hb : c.code = cc) {own : String} {index : Nat} (hown : s.vm.findClass own = some m.cls) (hclink : (Cond.classLink own index "[I").before args s = true) (hover : va_AI s) (hK : va_K D cl tys s) (hP : va_P D cl ws H) (hD : va_D A ws) (hS : va_S A H0 H locs) (hA : ∀ q, H0.size ≤ q → A q)
    {n : Int32} {N' : Nat} (hn : ¬ n < 0) (hN : n.toNatClampNeg = N') (hbytes : N' * 4 ≤ 536870912) (hcells : cells + 1 ≤ R.cells) (hslots : slots + N' ≤ R.slots) (hdg : decode cc pc = .ok (.anewarray index, 3))
    (kk : ∀ (q : Nat) (cA : ClassId) (H1 : Heap), va_K D cl (tys ++ [(cA, .array .int)]) s → va_P D cl (ws ++ [(q, .inl (cA, N', .inr (.inr (.inr (.inr (fun _ => none))))))]) H1 → va_D A (ws ++ [(q, .inl (cA, N', .inr (.inr (.inr (.inr (fun _ => none))))))]) → va_S A H0 H1 locs →
      W p l e R s m args below meth c H1 locs (cells + 1) (slots + N') Q (F0 m (pc + 3) ls (.ref q :: rest))) : W p l e R s m args below meth c H locs cells slots Q (F0 m pc ls (.int n :: rest)) := by
  subst hN
  refine W.anewA (t := .int) hexec hb hown hclink (over_moved (Vm.Alike.refl _) hover) rfl hdg rfl hn hbytes hcells hslots fun cA kA comp f1 f2 f3 f4 => ?_
  generalize hH1 : H.push ({ cls := cA, slots := Array.replicate n.toNatClampNeg .null, vm := .none } : Cell) = H1
  have z1 : H1.size = H.size + 1 := by rw [← hH1, Array.size_push]
  have e1 : H1[H.size]? = some (arrV cA n.toNatClampNeg (fun _ => .null)) := by rw [← hH1, Array.getElem?_push_size, ← arrV_new]
  have o1 : ∀ q : Nat, q < H.size → H1[q]? = H[q]? := fun q hq => by rw [← hH1, Array.getElem?_push, if_neg (Nat.ne_of_lt hq)]
  have hAr : ArrOfT s cA (.array .int) := fun N z => ⟨(fun k h => by cases h), kA, f2, comp, f3⟩
  have hk : ∀ (k : Nat) (x : Nat × va_E), ws[k]? = some x → H1[x.1]? = H[x.1]? := fun k x hx => o1 x.1 ((hP k x hx).lt)
  refine kk H.size cA H1 ⟨hK.1, fun k x hx => ?_⟩ ((hP.kept hk).app (fun k x hx => ?_)) (hD.push hP rfl (hA _ hS.1)) ⟨Nat.le_trans hS.1 (by omega), fun x h1 h2 => (o1 x (Nat.lt_of_lt_of_le h1 hS.1)).trans (hS.2.1 x h1 h2), hS.2.2⟩
  · by_cases hl : k < tys.length
    · rw [List.getElem?_append_left hl] at hx
      exact hK.2 k x hx
    · rw [List.getElem?_append_right (by omega)] at hx
      have hz : k - tys.length < 1 := (List.getElem?_eq_some_iff.mp hx).1
      rw [show k - tys.length = 0 by omega] at hx
      cases hx
      exact ⟨hAr, f1⟩
  · have hz : k < 1 := (List.getElem?_eq_some_iff.mp hx).1
    rw [show k = 0 by omega] at hx
    cases hx
    show H1[H.size]? = some (vp_cell _ _)
    rw [vp_cell_q]
    exact e1
theorem va_astqA (hexec : p.tables.exec = Jvm.exec) (hb : c.code = cc) (hover : va_AI s) (hK : va_K D cl tys s) (hP : va_P D cl ws H) (hD : va_D A ws) (hS : va_S A H0 H locs) (q0 t0 qk tk : Nat) {cA cI : ClassId} {n v N : Nat} {g : Nat → Int32} {f : Nat → Option Nat} (ha : ws[q0]? = some (a, .inl (cA, n, .inr (.inr (.inr (.inr f)))))) (ht : tys[t0]? = some (cA, .array .int)) (hv : ws[qk]? = some (v, .inl (cI, N, .inl g))) (htk : tys[tk]? = some (cI, .int)) {i : Int32} (hin : vp_in i n) (hdg : decode cc pc = .ok (.aastore, 1))
    (kk : ∀ (H1 : Heap) (locs1 : List Loc), va_P D cl (ws.set q0 (a, .inl (cA, n, .inr (.inr (.inr (.inr (va_up f i.toNatClampNeg (some v)))))))) H1 → va_D A (ws.set q0 (a, .inl (cA, n, .inr (.inr (.inr (.inr (va_up f i.toNatClampNeg (some v)))))))) → va_S A H0 H1 locs1 → W p l e R s m args below meth c H1 locs1 cells slots Q (F0 m (pc + 1) ls rest)) : W p l e R s m args below meth c H locs cells slots Q (F0 m pc ls (.ref v :: .int i :: .ref a :: rest)) := by
  have hlt : i.toNatClampNeg < n := Nat.not_le.mp fun q => hin (Or.inr q)
  have h0 : ¬ i < 0 := fun q => hin (Or.inl q)
  obtain ⟨comp, cA', kA, hc1, -, hk1, hkind1, hn1⟩ := arrayOverA_spec hover
  have hcA : cA' = cA := Option.some.inj (hn1.symm.trans (hK.2 t0 _ ht).2)
  subst hcA
  have hcI : comp = cI := Option.some.inj (hc1.symm.trans (hK.2 tk _ htk).2)
  subst hcI
  obtain ⟨kC, hkC, -⟩ := Vm.findClass_spec hc1
  obtain ⟨-, kI, hkI, compI, hkindI⟩ := (hK.2 tk _ htk).1 N (fun j => .int (g j))
  cases Option.some.inj (hkC.symm.trans hkI)
  refine W.aast hexec hb (hP q0 _ ha) (fun q h => by cases h) (fun h => by cases h) hk1 hkind1 rfl hkC ⟨h0, by show _ < (arrV _ _ _).slots.size; rw [arrV_size]; exact hlt⟩ (hP qk _ hv) (fun q h => by cases h) hkC (by show Vm.assignableAux _ (255 + 1) _ _ = true; rw [Vm.assignableAux]; exact (Bool.or_eq_true _ _).mpr (Or.inl (beq_self_eq_true comp))) rfl rfl hdg fun H1 e z oq => ?_
  refine kk H1 _ (hP.set hD ha ?_ oq) (hD.set ha) (hS.put z oq (hD.2 q0 _ ha))
  show H1[a]? = some (vp_cell _ _)
  rw [e]
  rw [vp_cell_q, vp_cell_q, arrV_store]
  congr 2
  funext q
  by_cases hq : q = i.toNatClampNeg
  · subst hq
    simp [updV, va_up, va_rf]
  · simp [updV, va_up, hq]
end ZA
/-! differences -/
theorem z_dlt {a b c : Nat} (ha : a < 2 ^ 30) (hb : b < 2 ^ 30) (hc : c < 2 ^ 30) : nI a - nI b < nI c ↔ a < b + c := by
  rw [Int32.lt_iff_toInt_lt, pk_sub_toInt ha hb, nI_toInt (by omega)]
  omega
theorem z_dle {a b c : Nat} (ha : a < 2 ^ 30) (hb : b < 2 ^ 30) (hc : c < 2 ^ 30) : nI a - nI b ≤ nI c ↔ a ≤ b + c := by
  rw [Int32.le_iff_toInt_le, pk_sub_toInt ha hb, nI_toInt (by omega)]
  omega
theorem z_ltd {a b c : Nat} (ha : a < 2 ^ 30) (hb : b < 2 ^ 30) (hc : c < 2 ^ 30) : nI c < nI a - nI b ↔ b + c < a := by
  rw [Int32.lt_iff_toInt_lt, pk_sub_toInt ha hb, nI_toInt (by omega)]
  omega
theorem z_led {a b c : Nat} (ha : a < 2 ^ 30) (hb : b < 2 ^ 30) (hc : c < 2 ^ 30) : nI c ≤ nI a - nI b ↔ b + c ≤ a := by
  rw [Int32.le_iff_toInt_le, pk_sub_toInt ha hb, nI_toInt (by omega)]
  omega
theorem z_absd {a b : Nat} (ha : a < 2 ^ 30) (hb : b < 2 ^ 30) : (if 0 ≤ nI a - nI b then nI a - nI b else 0 - (nI a - nI b)) = nI (a - b + (b - a)) := by
  have hz : (0 : Int32) ≤ nI a - nI b ↔ b + 0 ≤ a := z_led (c := 0) ha hb (by decide)
  by_cases h : b ≤ a
  · rw [if_pos (hz.mpr (by omega)), pk_sub h, show b - a = 0 by omega, Nat.add_zero]
  · rw [if_neg (fun z => absurd (hz.mp z) (by omega)), show a - b = 0 by omega, Nat.zero_add, ← pk_sub (a := b) (b := a) (by omega)]
    apply Int32.toInt_inj.mp
    rw [Int32.toInt_sub, pk_sub_toInt ha hb, pk_sub_toInt hb ha, show (0 : Int32).toInt = 0 from by decide]
    exact (Int.bmod_eq_of_le (by omega) (by omega)).trans (by omega)
/-! rests -/
theorem z_rem_toInt (v : Int32) {n : Nat} (h0 : 0 < n) (hn : n < 2 ^ 30) : (v - v / nI n * nI n).toInt = v.toInt.tmod (n : Int) := by
  have e1 : (v / nI n).toInt = v.toInt.tdiv (n : Int) := by
    rw [Int32.toInt_div, nI_toInt (by omega)]
    have h1 := Int32.le_toInt v
    have h2 := Int32.toInt_lt v
    have h3 : (v.toInt.tdiv (n : Int)).natAbs ≤ v.toInt.natAbs := Int.natAbs_tdiv_le_natAbs _ _
    by_cases h9 : v.toInt = -2 ^ 31
    · by_cases h8 : n = 1
      · subst h8
        rw [show ((1 : Nat) : Int) = 1 from rfl, Int.tdiv_one]
        exact Int.bmod_eq_of_le (by omega) (by omega)
      · rw [h9] at h3 ⊢
        have h7 : ((-2 ^ 31 : Int).tdiv (n : Int)) = -(((2 ^ 31 : Nat) / n : Nat) : Int) := by
          rw [show (-2 ^ 31 : Int) = -((2 ^ 31 : Nat) : Int) from by decide, Int.neg_tdiv]
          rfl
        have h6 : (2 ^ 31 : Nat) / n ≤ 2 ^ 31 / 2 := Nat.div_le_div_left (by omega) (by decide)
        rw [h7]
        generalize (2 ^ 31 : Nat) / n = q at h6 ⊢
        exact Int.bmod_eq_of_le (by omega) (by omega)
    · exact Int.bmod_eq_of_le (by omega) (by omega)
  have e3 : v.toInt.tmod (n : Int) = v.toInt - v.toInt.tdiv (n : Int) * n := by
    have := Int.tmod_add_tdiv_mul v.toInt (n : Int)
    omega
  have h5 : (v.toInt.tmod (n : Int)).natAbs < n := by
    have g1 := Int.tmod_lt_of_pos v.toInt (b := (n : Int)) (by omega)
    have g2 := Int.lt_tmod_of_pos v.toInt (b := (n : Int)) (by omega)
    omega
  rw [Int32.toInt_sub, Int32.toInt_mul, e1, nI_toInt (by omega), Int.sub_bmod_bmod, ← e3]
  exact Int.bmod_eq_of_le (by omega) (by omega)
theorem z_some1 {v y : Int32} {n : Nat} (h0 : 0 < n) (hn : n < 2 ^ 30) (e : y = v - v / nI n * nI n) (c : 0 ≤ y) : ∃ w, w < n ∧ y = nI w := by
  have h1 := Int32.le_iff_toInt_le.mp c
  have h2 := z_rem_toInt v h0 hn
  rw [← e] at h2
  have h5 : (v.toInt.tmod (n : Int)).natAbs < n := by
    have g1 := Int.tmod_lt_of_pos v.toInt (b := (n : Int)) (by omega)
    have g2 := Int.lt_tmod_of_pos v.toInt (b := (n : Int)) (by omega)
    omega
  rw [show (0 : Int32).toInt = 0 from by decide] at h1
  refine ⟨y.toInt.toNat, by omega, ?_⟩
  apply Int32.toInt_inj.mp
  rw [nI_toInt (by omega)]
  omega
theorem z_some2 {v y : Int32} {n : Nat} (h0 : 0 < n) (hn : n < 2 ^ 30) (e : y = v - v / nI n * nI n) (c : ¬ 0 ≤ y) : ∃ w, w < n ∧ y + nI n = nI w := by
  have h1 : ¬ (0 : Int32).toInt ≤ y.toInt := fun q => c (Int32.le_iff_toInt_le.mpr q)
  have h2 := z_rem_toInt v h0 hn
  rw [← e] at h2
  have h5 : (v.toInt.tmod (n : Int)).natAbs < n := by
    have g1 := Int.tmod_lt_of_pos v.toInt (b := (n : Int)) (by omega)
    have g2 := Int.lt_tmod_of_pos v.toInt (b := (n : Int)) (by omega)
    omega
  rw [show (0 : Int32).toInt = 0 from by decide] at h1
  refine ⟨(y.toInt + n).toNat, by omega, ?_⟩
  apply Int32.toInt_inj.mp
  rw [Int32.toInt_add, nI_toInt (by omega), nI_toInt (by omega)]
  exact (Int.bmod_eq_of_le (by omega) (by omega)).trans (by omega)
/-- hours of a pot: its seeds -/
def zS (m e k : Nat) : Nat := if m = 0 then e else e - 2 * k
theorem zS_le (m e k : Nat) : zS m e k ≤ e := by
  simp only [zS]
  split <;> omega
/-- of so many degrees from 600 on, those that two glasses have in common -/
def zcnt (l h l2 h2 : Nat) : Nat → Nat
  | 0 => 0
  | n + 1 => zcnt l h l2 h2 n + (if l ≤ 600 + n ∧ l2 ≤ 600 + n ∧ 600 + n ≤ h ∧ 600 + n ≤ h2 then 1 else 0)
theorem zcnt_is {l h l2 h2 : Nat} (a : 600 ≤ l) (b : 600 ≤ l2) : ∀ n, zcnt l h l2 h2 n = min (600 + n) (min h h2 + 1) - max l l2
  | 0 => by
    simp only [zcnt]
    omega
  | n + 1 => by
    simp only [zcnt]
    rw [zcnt_is a b n]
    split <;> omega
theorem zcnt_le {l h l2 h2 : Nat} : ∀ n, zcnt l h l2 h2 n ≤ n
  | 0 => Nat.le_refl 0
  | n + 1 => by
    have := zcnt_le (l := l) (h := h) (l2 := l2) (h2 := h2) n
    simp only [zcnt]
    split <;> omega
/-- two glasses agree -/
def gAg (l h e l2 h2 e2 : Nat) : Prop := max l l2 + 100 ≤ min h h2 ∧ e ≤ e2 + 5 ∧ e2 ≤ e + 5
section ZCUT
variable {p : Program} {l : Launch} {e : Env} {R : Room} {s : State} {m : MethodId} {args : Array Value} {below : List Frame} {meth : Method} {c : Code} {H : Heap} {locs : List Loc} {cells slots cells2 slots2 : Nat} {Q : State → Prop}
/-- ways that meet -/
theorem z_cutF {g : JFrame} {Pq : Heap → List Loc → Array Slot → Prop} {g2 : Array Slot → JFrame} (h : (∀ (H : Heap) (locs : List Loc) (ls : Array Slot), Pq H locs ls → W p l e R s m args below meth c H locs cells2 slots2 Q (g2 ls)) → W p l e R s m args below meth c H locs cells slots Q g) (k : ∀ (H : Heap) (locs : List Loc) (ls : Array Slot), Pq H locs ls → W p l e R s m args below meth c H locs cells2 slots2 Q (g2 ls)) : W p l e R s m args below meth c H locs cells slots Q g := h k
theorem z_cut {g g2 : JFrame} (h : W p l e R s m args below meth c H locs cells slots Q g2 → W p l e R s m args below meth c H locs cells slots Q g) (k : W p l e R s m args below meth c H locs cells slots Q g2) : W p l e R s m args below meth c H locs cells slots Q g := h k
end ZCUT
