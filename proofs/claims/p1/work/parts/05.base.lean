/-! what the tables say beside the words of a method: links between nest mates, casts, rows of references, texts, interface methods -/
def FTM : List (String × Nat × MethodName × String) := [("Gatherhouse", 39, ⟨"Gatherhouse$Role", "<init>", "()V"⟩, "Gatherhouse"), ("Gatherhouse", 55, ⟨"Gatherhouse$SetSearch", "<init>", "()V"⟩, "Gatherhouse"), ("Gatherhouse", 228, ⟨"Gatherhouse$Piece", "weight", "()I"⟩, "Gatherhouse"), ("Gatherhouse", 360, ⟨"Gatherhouse$Piece", "isSoundItself", "()Z"⟩, "Gatherhouse"), ("Gatherhouse$Piece", 143, ⟨"Gatherhouse$Ring", "isWithinBounds", "(III)Z"⟩, "Gatherhouse"), ("Gatherhouse$Piece", 147, ⟨"Gatherhouse$Ring", "isCutTooDeep", "()Z"⟩, "Gatherhouse"), ("Gatherhouse", 86, ⟨"Gatherhouse$Glass", "<init>", "(IIII)V"⟩, "Gatherhouse"), ("Gatherhouse", 93, ⟨"Gatherhouse$Glass", "agreesWith", "(LGatherhouse$Glass;)Z"⟩, "Gatherhouse"), ("Gatherhouse", 99, ⟨"Gatherhouse$Pot", "<init>", "(LGatherhouse$Glass;)V"⟩, "Gatherhouse"), ("Gatherhouse", 147, ⟨"Gatherhouse$Role", "isBusy", "()Z"⟩, "Gatherhouse"), ("Gatherhouse", 399, ⟨"Gatherhouse$Pot", "passHour", "()V"⟩, "Gatherhouse"), ("Gatherhouse", 401, ⟨"Gatherhouse$Piece", "coolInLehr", "(II)V"⟩, "Gatherhouse"), ("Gatherhouse", 408, ⟨"Gatherhouse$Piece", "breaksAtEndOf", "(I)Z"⟩, "Gatherhouse"), ("Gatherhouse", 396, ⟨"Gatherhouse$Role", "passSecond", "()V"⟩, "Gatherhouse"), ("Gatherhouse", 398, ⟨"Gatherhouse$Piece", "passSecond", "()V"⟩, "Gatherhouse"), ("Gatherhouse", 143, ⟨"Gatherhouse$Pot", "canGive", "(I)Z"⟩, "Gatherhouse"), ("Gatherhouse", 162, ⟨"Gatherhouse$Piece", "<init>", "(LGatherhouse$Glass;II)V"⟩, "Gatherhouse"), ("Gatherhouse$Piece", 65, ⟨"Gatherhouse$Ring", "<init>", "(III)V"⟩, "Gatherhouse"), ("Gatherhouse$Piece", 71, ⟨"Gatherhouse$Ring", "dye", "(I)V"⟩, "Gatherhouse"), ("Gatherhouse", 261, ⟨"Gatherhouse$Piece", "isWorkedAt", "(I)Z"⟩, "Gatherhouse"), ("Gatherhouse", 202, ⟨"Gatherhouse$Ring", "wallOver", "(II)I"⟩, "Gatherhouse"), ("Gatherhouse", 390, ⟨"Gatherhouse$Ring", "isWithinBounds", "(III)Z"⟩, "Gatherhouse"), ("Gatherhouse", 218, ⟨"Gatherhouse$Ring", "copied", "()LGatherhouse$Ring;"⟩, "Gatherhouse"), ("Gatherhouse", 222, ⟨"Gatherhouse$Piece", "insertRing", "(ILGatherhouse$Ring;)V"⟩, "Gatherhouse"), ("Gatherhouse", 231, ⟨"Gatherhouse$Piece", "removeLastRing", "()V"⟩, "Gatherhouse"), ("Gatherhouse", 234, ⟨"Gatherhouse$Piece", "agreesWith", "(LGatherhouse$Glass;)Z"⟩, "Gatherhouse"), ("Gatherhouse$Piece", 101, ⟨"Gatherhouse$Glass", "agreesWith", "(LGatherhouse$Glass;)Z"⟩, "Gatherhouse"), ("Gatherhouse", 238, ⟨"Gatherhouse$Glass", "isWorkedAt", "(I)Z"⟩, "Gatherhouse"), ("Gatherhouse", 246, ⟨"Gatherhouse$Piece", "greatestWall", "()I"⟩, "Gatherhouse"), ("Gatherhouse", 251, ⟨"Gatherhouse$Piece", "cover", "(LGatherhouse$Glass;I)V"⟩, "Gatherhouse"), ("Gatherhouse$Piece", 106, ⟨"Gatherhouse$Ring", "cover", "(II)V"⟩, "Gatherhouse"), ("Gatherhouse", 257, ⟨"Gatherhouse$Piece", "agreesWithAllOf", "(LGatherhouse$Piece;)Z"⟩, "Gatherhouse"), ("Gatherhouse", 266, ⟨"Gatherhouse$Piece", "takeOver", "(LGatherhouse$Piece;)V"⟩, "Gatherhouse"), ("Gatherhouse$Piece", 110, ⟨"Gatherhouse$Ring", "copied", "()LGatherhouse$Ring;"⟩, "Gatherhouse"), ("Gatherhouse", 285, ⟨"Gatherhouse$Piece", "fullHeight", "()I"⟩, "Gatherhouse"), ("Gatherhouse", 308, ⟨"Gatherhouse$Ring", "leftAtSurface", "()I"⟩, "Gatherhouse"), ("Gatherhouse", 313, ⟨"Gatherhouse$Ring", "carve", "(I)V"⟩, "Gatherhouse"), ("Gatherhouse", 317, ⟨"Gatherhouse$Ring", "surfaceColour", "()I"⟩, "Gatherhouse"), ("Gatherhouse", 320, ⟨"Gatherhouse$SetSearch", "begin", "()V"⟩, "Gatherhouse"), ("Gatherhouse", 323, ⟨"Gatherhouse$Piece", "isFreeForSet", "(I)Z"⟩, "Gatherhouse"), ("Gatherhouse", 326, ⟨"Gatherhouse$SetSearch", "offer", "(III)V"⟩, "Gatherhouse"), ("Gatherhouse", 334, ⟨"Gatherhouse$SetSearch", "choose", "(IIIIII)V"⟩, "Gatherhouse"), ("Gatherhouse", 343, ⟨"Gatherhouse$SetSearch", "hasChosen", "(I)Z"⟩, "Gatherhouse"), ("Gatherhouse", 349, ⟨"Gatherhouse$Piece", "worth", "()I"⟩, "Gatherhouse"), ("GatherhouseModel", 209, ⟨"GatherhouseModel$Piece", "<init>", "()V"⟩, "GatherhouseModel"), ("GatherhouseModel$Ring", 31, ⟨"GatherhouseModel", "in", "(III)Z"⟩, "GatherhouseModel")]
def FTF : List (String × Nat × String × String × String × String) := [("Gatherhouse", 137, "Gatherhouse$Role", "busy", "I", "Gatherhouse"), ("Gatherhouse", 140, "Gatherhouse$Role", "paid", "I", "Gatherhouse"), ("Gatherhouse", 329, "Gatherhouse$SetSearch", "size", "I", "Gatherhouse"), ("Gatherhouse", 338, "Gatherhouse$SetSearch", "bestApart", "I", "Gatherhouse"), ("Gatherhouse$Piece", 86, "Gatherhouse$Glass", "low", "I", "Gatherhouse"), ("Gatherhouse$Piece", 95, "Gatherhouse$Glass", "high", "I", "Gatherhouse"), ("Gatherhouse$Piece", 137, "Gatherhouse$Glass", "expansion", "I", "Gatherhouse"), ("Gatherhouse$Piece", 68, "Gatherhouse$Glass", "colour", "I", "Gatherhouse"), ("Gatherhouse", 158, "Gatherhouse$Pot", "glass", "LGatherhouse$Glass;", "Gatherhouse"), ("Gatherhouse", 106, "Gatherhouse$Pot", "mass", "I", "Gatherhouse"), ("Gatherhouse", 109, "Gatherhouse$Pot", "seeds", "I", "Gatherhouse"), ("Gatherhouse", 112, "Gatherhouse$Pot", "stones", "I", "Gatherhouse"), ("Gatherhouse", 115, "Gatherhouse$Pot", "age", "I", "Gatherhouse"), ("Gatherhouse$Piece", 114, "Gatherhouse$Ring", "radius", "I", "Gatherhouse"), ("Gatherhouse", 194, "Gatherhouse$Ring", "radius", "I", "Gatherhouse"), ("Gatherhouse$Piece", 117, "Gatherhouse$Ring", "height", "I", "Gatherhouse"), ("Gatherhouse", 199, "Gatherhouse$Ring", "height", "I", "Gatherhouse"), ("Gatherhouse$Piece", 120, "Gatherhouse$Ring", "wall", "I", "Gatherhouse"), ("Gatherhouse", 210, "Gatherhouse$Ring", "wall", "I", "Gatherhouse"), ("Gatherhouse", 374, "Gatherhouse$Piece", "rings", "[LGatherhouse$Ring;", "Gatherhouse"), ("Gatherhouse", 213, "Gatherhouse$Piece", "ringCount", "I", "Gatherhouse"), ("Gatherhouse", 294, "Gatherhouse$Piece", "greatestLow", "I", "Gatherhouse"), ("Gatherhouse", 291, "Gatherhouse$Piece", "leastHigh", "I", "Gatherhouse"), ("Gatherhouse", 270, "Gatherhouse$Piece", "state", "C", "Gatherhouse"), ("Gatherhouse", 235, "Gatherhouse$Piece", "heat", "I", "Gatherhouse"), ("Gatherhouse", 182, "Gatherhouse$Piece", "busy", "I", "Gatherhouse"), ("Gatherhouse", 183, "Gatherhouse$Piece", "isInHole", "Z", "Gatherhouse"), ("Gatherhouse", 243, "Gatherhouse$Piece", "layers", "I", "Gatherhouse"), ("Gatherhouse", 288, "Gatherhouse$Piece", "flaws", "I", "Gatherhouse"), ("Gatherhouse", 297, "Gatherhouse$Piece", "strain", "I", "Gatherhouse"), ("Gatherhouse", 300, "Gatherhouse$Piece", "hasComeOut", "Z", "Gatherhouse"), ("Gatherhouse", 305, "Gatherhouse$Piece", "isOfFirsts", "Z", "Gatherhouse"), ("Gatherhouse", 346, "Gatherhouse$Piece", "isOfSet", "Z", "Gatherhouse"), ("java/util/ArrayList$Itr", 28, "java/util/ArrayList", "size", "I", "java/util/ArrayList"), ("GatherhouseModel", 184, "GatherhouseModel$Glass", "low", "I", "GatherhouseModel"), ("GatherhouseModel", 181, "GatherhouseModel$Glass", "high", "I", "GatherhouseModel"), ("GatherhouseModel", 155, "GatherhouseModel$Glass", "expansion", "I", "GatherhouseModel"), ("GatherhouseModel", 281, "GatherhouseModel$Glass", "colour", "I", "GatherhouseModel"), ("GatherhouseModel", 212, "GatherhouseModel$Pot", "glass", "I", "GatherhouseModel"), ("GatherhouseModel", 88, "GatherhouseModel$Pot", "mass", "I", "GatherhouseModel"), ("GatherhouseModel", 91, "GatherhouseModel$Pot", "seeds", "I", "GatherhouseModel"), ("GatherhouseModel", 97, "GatherhouseModel$Pot", "stones", "I", "GatherhouseModel"), ("GatherhouseModel", 94, "GatherhouseModel$Pot", "age", "I", "GatherhouseModel"), ("GatherhouseModel", 126, "GatherhouseModel$Piece", "state", "C", "GatherhouseModel"), ("GatherhouseModel", 133, "GatherhouseModel$Piece", "heat", "I", "GatherhouseModel"), ("GatherhouseModel", 197, "GatherhouseModel$Piece", "busy", "I", "GatherhouseModel"), ("GatherhouseModel", 190, "GatherhouseModel$Piece", "hole", "I", "GatherhouseModel"), ("GatherhouseModel", 146, "GatherhouseModel$Piece", "flaws", "I", "GatherhouseModel"), ("GatherhouseModel", 130, "GatherhouseModel$Piece", "strain", "I", "GatherhouseModel"), ("GatherhouseModel", 266, "GatherhouseModel$Piece", "layers", "I", "GatherhouseModel"), ("GatherhouseModel", 153, "GatherhouseModel$Piece", "glasses", "I", "GatherhouseModel"), ("GatherhouseModel", 143, "GatherhouseModel$Piece", "outDay", "I", "GatherhouseModel"), ("GatherhouseModel", 149, "GatherhouseModel$Piece", "isFirst", "Z", "GatherhouseModel"), ("GatherhouseModel", 310, "GatherhouseModel$Piece", "isInSet", "Z", "GatherhouseModel"), ("GatherhouseModel", 61, "GatherhouseModel$Piece", "rings", "Ljava/util/ArrayList;", "GatherhouseModel"), ("GatherhouseModel$Piece", 45, "GatherhouseModel$Ring", "radius", "I", "GatherhouseModel"), ("GatherhouseModel", 234, "GatherhouseModel$Ring", "radius", "I", "GatherhouseModel"), ("GatherhouseModel$Piece", 48, "GatherhouseModel$Ring", "height", "I", "GatherhouseModel"), ("GatherhouseModel", 231, "GatherhouseModel$Ring", "height", "I", "GatherhouseModel"), ("GatherhouseModel$Piece", 51, "GatherhouseModel$Ring", "wall", "I", "GatherhouseModel"), ("GatherhouseModel", 237, "GatherhouseModel$Ring", "wall", "I", "GatherhouseModel"), ("GatherhouseModel", 279, "GatherhouseModel$Ring", "glass", "I", "GatherhouseModel"), ("GatherhouseModel", 269, "GatherhouseModel$Ring", "layers", "Ljava/util/ArrayList;", "GatherhouseModel")]
def FTC : List (String × String) := [("java/lang/IllegalArgumentException", "java/lang/IllegalArgumentException"), ("java/lang/IllegalStateException", "java/lang/IllegalStateException"), ("java/lang/IndexOutOfBoundsException", "java/lang/IndexOutOfBoundsException"), ("java/lang/UnsupportedOperationException", "java/lang/UnsupportedOperationException"), ("java/util/NoSuchElementException", "java/util/NoSuchElementException"), ("GatherhouseModel$Glass", "java/lang/Object")]
def FTN : List (String × String) := [("java/lang/IllegalArgumentException", "java/lang/IllegalStateException"), ("java/lang/IllegalArgumentException", "java/lang/IndexOutOfBoundsException"), ("java/lang/IllegalArgumentException", "java/lang/UnsupportedOperationException"), ("java/lang/IllegalArgumentException", "java/util/NoSuchElementException"), ("java/lang/IllegalStateException", "java/lang/IllegalArgumentException"), ("java/lang/IllegalStateException", "java/lang/IndexOutOfBoundsException"), ("java/lang/IllegalStateException", "java/lang/UnsupportedOperationException"), ("java/lang/IllegalStateException", "java/util/NoSuchElementException"), ("java/lang/IndexOutOfBoundsException", "java/lang/IllegalArgumentException"), ("java/lang/IndexOutOfBoundsException", "java/lang/IllegalStateException"), ("java/lang/IndexOutOfBoundsException", "java/lang/UnsupportedOperationException"), ("java/lang/IndexOutOfBoundsException", "java/util/NoSuchElementException"), ("java/lang/UnsupportedOperationException", "java/lang/IllegalArgumentException"), ("java/lang/UnsupportedOperationException", "java/lang/IllegalStateException"), ("java/lang/UnsupportedOperationException", "java/lang/IndexOutOfBoundsException"), ("java/lang/UnsupportedOperationException", "java/util/NoSuchElementException"), ("java/util/NoSuchElementException", "java/lang/IllegalArgumentException"), ("java/util/NoSuchElementException", "java/lang/IllegalStateException"), ("java/util/NoSuchElementException", "java/lang/IndexOutOfBoundsException"), ("java/util/NoSuchElementException", "java/lang/UnsupportedOperationException")]
def FTO : List String := ["Gatherhouse$Glass", "Gatherhouse$Pot", "Gatherhouse$Piece", "Gatherhouse$Ring", "java/lang/Object"]
def FTS : List (String × Nat × String) := [("Gatherhouse", 363, "a number is out of range"), ("Gatherhouse", 81, "no more glasses"), ("Gatherhouse", 367, "no such glass"), ("Gatherhouse", 97, "no more pots"), ("Gatherhouse", 370, "no such pot"), ("Gatherhouse", 120, "no such letter"), ("Gatherhouse", 386, "a piece is on a pipe"), ("Gatherhouse", 388, "a role is busy"), ("Gatherhouse", 380, "no such role"), ("Gatherhouse", 153, "the pot cannot give it, or the role is busy"), ("Gatherhouse", 156, "no more pieces"), ("Gatherhouse", 372, "no such piece"), ("Gatherhouse", 382, "it is not on a pipe, or it or the role is busy"), ("Gatherhouse", 180, "no hole is free"), ("Gatherhouse", 378, "no such ring"), ("Gatherhouse", 384, "it cannot be worked on"), ("Gatherhouse", 394, "the ring would be out of bounds"), ("Gatherhouse", 216, "the ring is too low, or there are too many"), ("Gatherhouse", 226, "it has one ring"), ("Gatherhouse", 241, "the pot or its glass does not suit"), ("Gatherhouse", 249, "too many layers, or a wall would be too thick"), ("Gatherhouse", 255, "both are the same"), ("Gatherhouse", 262, "the pieces do not suit each other"), ("Gatherhouse", 264, "too many rings"), ("Gatherhouse", 278, "the lehr is full"), ("Gatherhouse", 282, "it has no heat"), ("Gatherhouse", 303, "it did not come out"), ("Gatherhouse", 311, "it is not done, or the cut would be too deep"), ("Gatherhouse", 332, "there are not so many"), ("Gatherhouse", 341, "they are farther apart"), ("Gatherhouse", 352, "it is not done"), ("Gatherhouse", 358, "there are no pieces"), ("GatherhouseModel", 22, "gsfb"), ("GatherhouseModel", 100, "msta")]
def FTI : List (String × MethodName × MethodName) := [("java/util/ArrayList$Itr", ⟨"java/util/Iterator", "hasNext", "()Z"⟩, ⟨"java/util/ArrayList$Itr", "hasNext", "()Z"⟩), ("java/util/ArrayList$Itr", ⟨"java/util/Iterator", "next", "()Ljava/lang/Object;"⟩, ⟨"java/util/ArrayList$Itr", "next", "()Ljava/lang/Object;"⟩)]
def FTD : List MethodName := [⟨"java/lang/RuntimeException", "<init>", "()V"⟩, ⟨"java/lang/RuntimeException", "<init>", "(Ljava/lang/String;)V"⟩, ⟨"java/lang/Exception", "<init>", "()V"⟩, ⟨"java/lang/Exception", "<init>", "(Ljava/lang/String;)V"⟩, ⟨"java/lang/Throwable", "<init>", "()V"⟩, ⟨"java/lang/Throwable", "<init>", "(Ljava/lang/String;)V"⟩, ⟨"java/util/Iterator", "hasNext", "()Z"⟩, ⟨"java/util/Iterator", "next", "()Ljava/lang/Object;"⟩, ⟨"java/lang/Object", "getClass", "()Ljava/lang/Class;"⟩]
abbrev vwCl : List vw_C := [(RJ0, TJ0, 4), (RJ4, TJ4, 4), (RJ6, TJ6, 1), (RJx35411, TJx35411, 4), (RJx4a65c, TJx4a65c, 3), (RX0, TX0, 4), (RX1, TX1, 16), (RX2, TX2, 5), (RX3, TX3, 6), (RX4, TX4, 2), (RX5, TX5, 7), (RX6, TX6, 16), (RX7, TX7, 4), (RX8, TX8, 12), (RX9, TX9, 5), (RX10, TX10, 5), (RX11, TX11, 13)]
theorem FTI_ok : ∀ q ∈ FTI, q.2.1.cls ≠ "java/lang/invoke/MethodHandle" ∧ q.2.1.cls ≠ "java/lang/invoke/VarHandle" := by decide +kernel
def FT (G : Nat × Nat × Nat) (U : State) : Prop :=
  (∀ q ∈ FTM, va_Nw (.methodLinkNest q.1 q.2.1 q.2.2.1 q.2.2.2) U) ∧
  (∀ q ∈ FTF, va_Nw (.fieldLinkNest q.1 q.2.1 q.2.2.1 q.2.2.2.1 q.2.2.2.2.1 q.2.2.2.2.2) U) ∧
  (∀ q ∈ FTC, va_Nw (.castable q.1 q.2) U) ∧ (∀ q ∈ FTN, va_Nc q.1 q.2 U) ∧ (∀ q ∈ FTO, va_AO q U) ∧
  (∀ q ∈ FTS, ∃ a, vk_R q.1 q.2.1 q.2.2 a U) ∧ (∀ q ∈ FTI, va_Fw q.1 q.2.1 q.2.2 U) ∧ (∀ q ∈ FTD, va_Nw (.declares q) U) ∧ vk_R "GatherhouseModel" 22 "gsfb" G.2.1 U
theorem FT.warm {G : Nat × Nat × Nat} {s U : State} (hW : s.WarmedH U.vm) (h : FT G s) : FT G U :=
  ⟨fun q hq => va_Nw.warmM hW (h.1 q hq), fun q hq => va_Nw.warmF hW (h.2.1 q hq), fun q hq => va_Nw.warmC hW (h.2.2.1 q hq), fun q hq => va_Nc.moved hW.alike (h.2.2.2.1 q hq), fun q hq => va_AO.moved hW.alike (h.2.2.2.2.1 q hq),
    fun q hq => by obtain ⟨a, ha⟩ := h.2.2.2.2.2.1 q hq; exact ⟨a, vk_R.warm hW ha⟩, fun q hq => va_Fw.moved (FTI_ok q hq) hW.alike (h.2.2.2.2.2.2.1 q hq), fun q hq => va_Nw.warmD hW (h.2.2.2.2.2.2.2.1 q hq), vk_R.warm hW h.2.2.2.2.2.2.2.2⟩
theorem FT.same {G : Nat × Nat × Nat} {u U : State} (hv : u.vm = U.vm) (h : FT G u) : FT G U := by
  have ha : u.vm.Alike U.vm := by rw [hv]; exact Vm.Alike.refl _
  exact ⟨fun q hq => va_Nw.same rfl hv (h.1 q hq), fun q hq => va_Nw.same rfl hv (h.2.1 q hq), fun q hq => va_Nw.same rfl hv (h.2.2.1 q hq), fun q hq => va_Nc.moved ha (h.2.2.2.1 q hq), fun q hq => va_AO.moved ha (h.2.2.2.2.1 q hq),
    fun q hq => by obtain ⟨a, ha⟩ := h.2.2.2.2.2.1 q hq; exact ⟨a, vk_R.same hv.symm ha⟩, fun q hq => va_Fw.moved (FTI_ok q hq) ha (h.2.2.2.2.2.2.1 q hq), fun q hq => va_Nw.same rfl hv (h.2.2.2.2.2.2.2.1 q hq), vk_R.same hv.symm h.2.2.2.2.2.2.2.2⟩
/-- what lies outside A: the two statics that a new Throwable reads; the empty row of ArrayList; the text "gsfb" -/
def FZ (G : Nat × Nat × Nat) (A : Nat → Prop) (U : State) (H : Heap) : Prop := vx_Zq Bundle.tN "UNASSIGNED_STACK" Bundle.steD A U H ∧ vx_Zq Bundle.tN "SUPPRESSED_SENTINEL" Bundle.listD A U H ∧
  va_Z "java/util/ArrayList" "DEFAULTCAPACITY_EMPTY_ELEMENTDATA" "[Ljava/lang/Object;" (.ref G.1) A U H ∧ va_T (.object "java/lang/Object") G.1 0 (fun _ => .null) A U H ∧ va_Z "java/lang/String" "COMPACT_STRINGS" "Z" (.int 1) A U H ∧
  vk_S 1 [4] [[103, 115, 102, 98]] (fun _ => G.2.1) (fun _ => G.2.2) A U H
theorem FZ.moved {G : Nat × Nat × Nat} {A : Nat → Prop} {u U : State} {H : Heap} (hvm : u.vm.Alike U.vm) (h : FZ G A u H) : FZ G A U H := ⟨vx_Zq.moved hvm h.1, vx_Zq.moved hvm h.2.1, va_Z.moved hvm h.2.2.1, va_T.moved hvm h.2.2.2.1, va_Z.moved hvm h.2.2.2.2.1, vk_S.moved hvm h.2.2.2.2.2⟩
theorem FZ.kept {G : Nat × Nat × Nat} {A : Nat → Prop} {U : State} {H H1 : Heap} (h : FZ G A U H) (hq : ∀ a : Nat, a < H.size → ¬ A a → H1[a]? = H[a]?) : FZ G A U H1 := ⟨vx_Zq.kept h.1 hq, vx_Zq.kept h.2.1 hq, va_Z.kept h.2.2.1 hq, va_T.kept h.2.2.2.1 hq, va_Z.kept h.2.2.2.2.1 hq, vk_S.kept h.2.2.2.2.2 hq⟩
theorem FZ.narrow {G : Nat × Nat × Nat} {A B : Nat → Prop} {U : State} {H : Heap} (h : FZ G A U H) (hAB : ∀ q, B q → A q) : FZ G B U H := ⟨vx_Zq.narrow h.1 hAB, vx_Zq.narrow h.2.1 hAB, va_Z.narrow h.2.2.1 hAB, va_T.narrow h.2.2.2.1 hAB, va_Z.narrow h.2.2.2.2.1 hAB, vk_S.narrow h.2.2.2.2.2 hAB⟩
/-! starts of contracts -/
def p_RO (D : va_G) (G : Nat × Nat × Nat) (tys : List (ClassId × FieldType)) (ws : va_W) (U : State) : Prop := va_P D vwCl ws U.heap ∧ va_K D vwCl tys U ∧ FT G U
theorem p_RO_blind {G : Nat × Nat × Nat} {D : va_G} {tys : List (ClassId × FieldType)} {ws : va_W} {av : List Value} : FrameBlind (va_Pc av (p_RO D G tys ws)) :=
  fun a U g mk q => ⟨q.1, q.2.1, va_K.moved (u := U) (U := U.calling g mk a) (Vm.Alike.refl U.vm) q.2.2.1, FT.same (u := U) rfl q.2.2.2⟩
theorem p_RO_at {G : Nat × Nat × Nat} {s : State} {H : Heap} {D : va_G} {tys tc : List (ClassId × FieldType)} {ws wc : va_W} (hP : va_P D vwCl ws H) (hK : va_K D vwCl tys s) (hT : FT G s) (isC isT : List Nat) (hC : isC.filterMap (fun i => ws[i]?) = wc) (hTy : isT.filterMap (fun i => tys[i]?) = tc) (av : List Value) :
    ∀ U : State, U.heap = H → s.WarmedH U.vm → va_Pc av (p_RO D G tc wc) av.toArray U :=
  fun U hU hW => ⟨rfl, by rw [hU]; exact hP.sub isC hC, va_K.moved hW.alike (hK.sub isT hTy), hT.warm hW⟩
def p_RW (D : va_G) (G : Nat × Nat × Nat) (tys : List (ClassId × FieldType)) (ws : va_W) (sz : Nat) (U : State) : Prop :=
  U.heap.size = sz ∧ va_P D vwCl ws U.heap ∧ va_K D vwCl tys U ∧ va_D (fun _ => True) ws ∧ FT G U ∧ FZ G (va_A ws sz) U U.heap
theorem p_RW_blind {G : Nat × Nat × Nat} {D : va_G} {tys : List (ClassId × FieldType)} {ws : va_W} {sz : Nat} {av : List Value} : FrameBlind (va_Pc av (p_RW D G tys ws sz)) :=
  fun a U g mk q => ⟨q.1, q.2.1, q.2.2.1, va_K.moved (u := U) (U := U.calling g mk a) (Vm.Alike.refl U.vm) q.2.2.2.1, q.2.2.2.2.1, FT.same (u := U) rfl q.2.2.2.2.2.1, FZ.moved (u := U) (U := U.calling g mk a) (Vm.Alike.refl U.vm) q.2.2.2.2.2.2⟩
theorem p_RW_at {G : Nat × Nat × Nat} {s : State} {H : Heap} {D : va_G} {tys tc : List (ClassId × FieldType)} {ws wc : va_W} {A0 : Nat → Prop} {locs : List Loc} (hP : va_P D vwCl ws H) (hK : va_K D vwCl tys s) (hD : va_D A0 ws) (hS : va_S A0 s.heap H locs) (hA : ∀ q, s.heap.size ≤ q → A0 q) (hT : FT G s) (hZ : FZ G A0 s s.heap)
    (isC isT : List Nat) (hC : isC.map (fun i => ws[i]?) = wc.map some) (hC2 : isC.filterMap (fun i => ws[i]?) = wc) (hn : va_nd isC = true) (hTy : isT.filterMap (fun i => tys[i]?) = tc) (av : List Value) :
    ∀ U : State, U.heap = H → s.WarmedH U.vm → va_Pc av (p_RW D G tc wc H.size) av.toArray U :=
  fun U hU hW => ⟨rfl, by rw [hU], by rw [hU]; exact hP.sub isC hC2, va_K.moved hW.alike (hK.sub isT hTy), (hD.sub isC hn hC).weaken (fun _ _ _ _ => trivial), hT.warm hW,
    by rw [hU]; exact FZ.moved hW.alike (FZ.narrow (FZ.kept hZ hS.2.1) (va_free hD hS hA isC hC))⟩
/-! ends of contracts -/
def q_RW (D : va_G) (tys : List (ClassId × FieldType)) (ws : va_W) (A : Nat → Prop) (t : State) : Prop := va_P D vwCl ws t.heap ∧ va_K D vwCl tys t ∧ va_D A ws
theorem q_RW_mk {s t : State} {H : Heap} {D : va_G} {tys tc : List (ClassId × FieldType)} {ws wc : va_W} {A : Nat → Prop} (hP : va_P D vwCl ws H) (hK : va_K D vwCl tys s) (hD : va_D A ws) (isC isT : List Nat) (hC : isC.map (fun i => ws[i]?) = wc.map some) (hC2 : isC.filterMap (fun i => ws[i]?) = wc) (hn : va_nd isC = true) (hTy : isT.filterMap (fun i => tys[i]?) = tc)
    (ht : t.heap = H) (hW : s.vm.Alike t.vm) : q_RW D tc wc A t := ⟨by rw [ht]; exact hP.sub isC hC2, va_K.moved hW (hK.sub isT hTy), hD.sub isC hn hC⟩
theorem q_join {s t : State} {H H1 : Heap} {D : va_G} {tys tyr ty1 : List (ClassId × FieldType)} {ws wc wr w1 : va_W} {A0 : Nat → Prop} (hP : va_P D vwCl ws H) (hD : va_D A0 ws) (hK : va_K D vwCl tys s) (isC isR isT : List Nat) (hC : isC.map (fun i => ws[i]?) = wc.map some) (hR : isR.map (fun i => ws[i]?) = wr.map some) (hn : va_nd isR = true) (hdis : ∀ i ∈ isR, i ∉ isC)
    (hTy : isT.filterMap (fun i => tys[i]?) = tyr) (hF : ∀ q, va_A wc H.size q → A0 q) (hk : ∀ q : Nat, q < H.size → ¬ va_A wc H.size q → H1[q]? = H[q]?) (ht : t.heap = H1) (hvm : s.vm.Alike t.vm) (hq : q_RW D ty1 w1 (va_A wc H.size) t) :
    va_P D vwCl (wr ++ w1) H1 ∧ va_D A0 (wr ++ w1) ∧ va_K D vwCl (tyr ++ ty1) s := by
  obtain ⟨hP1, hK1, hD1⟩ := hq
  rw [ht] at hP1
  obtain ⟨h1, h2⟩ := va_join hP hD isC isR hC hR hn hdis hk hF hP1 hD1
  exact ⟨h1, h2, (hK.sub isT hTy).app (va_K.moved hvm.symm hK1)⟩
/-- nothing is known of the callee's cells -/
theorem q_none {D : va_G} {A : Nat → Prop} {s t : State} {tys : List (ClassId × FieldType)} (hK : va_K D vwCl tys s) (hvm : s.vm.Alike t.vm) : q_RW D [] [] A t := ⟨fun _ _ h => by simp at h, va_K.moved hvm (hK.sub [] rfl), ⟨fun i j p q h => by simp at h, fun k q h => by simp at h⟩⟩
/-! throwing -/
theorem z_throw {args : Array Value} {s : State} {own cls : String} {ic : Nat} {names : List String} (hgw : ∀ w ∈ (vx_atS own ic cls names).filter goodWord, w.before args s = true) (hc : va_Nw (.castable cls cls) s) (hd : ∀ q ∈ FTD, va_Nw (.declares q) s) (h2 : ∀ w ∈ (vx_atS own ic cls names).filter (fun w => !goodWord w), w ∈ Cond.castable cls cls :: FTD.map Cond.declares) :
    ∀ w ∈ vx_atS own ic cls names, w.before args s = true := vx_hat hgw h2 (fun w h => by
  rcases List.mem_cons.mp h with rfl | h
  · exact va_Nw.use rfl hc
  · obtain ⟨q, hq, rfl⟩ := List.mem_map.mp h
    exact va_Nw.use rfl (hd q hq))
/-! numbers -/
def inR (v l h : Int32) : Prop := l ≤ v ∧ v ≤ h
theorem inR_none (v : Int32) : ¬ inR v 0 (-1) := fun h => by
  have h1 := Int32.le_iff_toInt_le.mp h.1
  have h2 := Int32.le_iff_toInt_le.mp h.2
  have e1 : (0 : Int32).toInt = 0 := by decide
  have e2 : (-1 : Int32).toInt = -1 := by decide
  omega
theorem inR_1 {v l h : Int32} (a : ¬ v < l) (b : v ≤ h) : inR v l h := ⟨Int32.not_lt.mp a, b⟩
theorem inR_2 {v l h : Int32} (a : ¬ v < l) (b : ¬ h < v) : inR v l h := ⟨Int32.not_lt.mp a, Int32.not_lt.mp b⟩
theorem inR_3 {v l h : Int32} (a : v < l) : ¬ inR v l h := fun q => absurd a (Int32.not_lt.mpr q.1)
theorem inR_4 {v l h : Int32} (b : ¬ v ≤ h) : ¬ inR v l h := fun q => b q.2
theorem inR_5 {v l h : Int32} (b : h < v) : ¬ inR v l h := fun q => absurd b (Int32.not_lt.mpr q.2)
theorem z_in {i : Int32} {n : Nat} (h0 : ¬ i < 0) (h1 : i < nI n) (hn : n < 2 ^ 31) : vp_in i n := by
  obtain ⟨j, hj, rfl⟩ := nI_of h0
  exact vp_in_nI ((nI_ltI hj hn).mp h1) hn
def gOK (lo hi xe co : Int32) : Prop := inR lo 600 1100 ∧ inR hi lo 1100 ∧ inR xe 50 150 ∧ inR co 0 9
def sOK (a b c : Int32) : Prop := inR a 2 6 ∧ inR b 1 8 ∧ inR c 0 99
def isRole (ch : Int32) : Prop := ch = 98 ∨ ch = 102 ∨ ch = 103 ∨ ch = 115
theorem isRole_no {ch : Int32} (a : ¬ ch = 98) (b : ¬ ch = 102) (c : ¬ ch = 103) (d : ¬ ch = 115) : ¬ isRole ch := fun q => by
  rcases q with q | q | q | q
  · exact a q
  · exact b q
  · exact c q
  · exact d q
theorem inR_pos {v h : Int32} (q : inR v 2 h) : ¬ v ≤ 0 := fun z => by
  have h1 := Int32.le_iff_toInt_le.mp q.1
  have h2 := Int32.le_iff_toInt_le.mp z
  have e1 : (0 : Int32).toInt = 0 := by decide
  have e2 : (2 : Int32).toInt = 2 := by decide
  omega
theorem z_upd (k : Nat) : upd (fun _ => (0 : Int32)) k 0 = fun _ => 0 := by
  funext j
  by_cases h : j = k
  · subst h; rw [pk_us]
  · rw [pk_un h]
def enc (ch k : Int32) : Prop := ¬ ch < 0 → ¬ 255 < ch → ch = k
theorem enc_use {ch k : Int32} (h : enc ch k) (a : ¬ ch < 0) (b : ¬ 255 < ch) : ch = k := h a b
theorem enc_nat {ch : Int32} (a : ¬ ch < 0) (b : ¬ 255 < ch) : ∃ j : Nat, j < 256 ∧ ch = nI j := by
  obtain ⟨j, hj, rfl⟩ := nI_of a
  refine ⟨j, ?_, rfl⟩
  rcases Nat.lt_or_ge j 256 with h | h
  · exact h
  · exact absurd ((nI_ltI (a := 255) (by omega) hj).mpr (by omega)) b
theorem enc_b103 : ∀ j, j < 256 → (nI j).toInt8.toInt32 = 103 → nI j = 103 := by decide +kernel
theorem enc_b115 : ∀ j, j < 256 → (nI j).toInt8.toInt32 = 115 → nI j = 115 := by decide +kernel
theorem enc_b102 : ∀ j, j < 256 → (nI j).toInt8.toInt32 = 102 → nI j = 102 := by decide +kernel
theorem enc_b98 : ∀ j, j < 256 → (nI j).toInt8.toInt32 = 98 → nI j = 98 := by decide +kernel
theorem enc_103 {ch : Int32} (h : ch.toInt8.toInt32 = 103) : enc ch 103 := fun a b => by obtain ⟨j, hj, rfl⟩ := enc_nat a b; exact enc_b103 j hj h
theorem enc_115 {ch : Int32} (h : ch.toInt8.toInt32 = 115) : enc ch 115 := fun a b => by obtain ⟨j, hj, rfl⟩ := enc_nat a b; exact enc_b115 j hj h
theorem enc_102 {ch : Int32} (h : ch.toInt8.toInt32 = 102) : enc ch 102 := fun a b => by obtain ⟨j, hj, rfl⟩ := enc_nat a b; exact enc_b102 j hj h
theorem enc_98 {ch : Int32} (h : ch.toInt8.toInt32 = 98) : enc ch 98 := fun a b => by obtain ⟨j, hj, rfl⟩ := enc_nat a b; exact enc_b98 j hj h
theorem isRole_nb {ch : Int32} (a : ¬ ch.toInt8.toInt32 = 98) (b : ¬ ch.toInt8.toInt32 = 102) (c : ¬ ch.toInt8.toInt32 = 103) (d : ¬ ch.toInt8.toInt32 = 115) : ¬ isRole ch := fun q => by
  rcases q with rfl | rfl | rfl | rfl
  · exact a (by decide +kernel)
  · exact b (by decide +kernel)
  · exact c (by decide +kernel)
  · exact d (by decide +kernel)
theorem isRole_out {ch : Int32} (h : ch < 0 ∨ 255 < ch) : ¬ isRole ch := fun q => by
  rcases q with rfl | rfl | rfl | rfl <;> revert h <;> decide +kernel
/-- a loop that counts to n; hv: what grows with it -/
theorem z_loop {α : Type} (P : Nat → α → Heap → List Loc → Array Slot → Prop) (Wp : Nat → Heap → List Loc → Array Slot → Prop) (n : Nat)
    (step : ∀ k, k < n → (∀ hv H locs ls, P (k + 1) hv H locs ls → Wp (k + 1) H locs ls) → ∀ hv H locs ls, P k hv H locs ls → Wp k H locs ls)
    (exit : ∀ hv H locs ls, P n hv H locs ls → Wp n H locs ls) : ∀ (j k : Nat), k + j = n → ∀ hv H locs ls, P k hv H locs ls → Wp k H locs ls
  | 0, k, h, hv, H, locs, ls, hp => by
    have e : k = n := by omega
    subst e
    exact exit hv H locs ls hp
  | j + 1, k, h, hv, H, locs, ls, hp => step k (by omega) (fun hv H locs ls hp => z_loop P Wp n step exit j (k + 1) (by omega) hv H locs ls hp) hv H locs ls hp
theorem inR_n {v : Int32} {h : Nat} (hh : h < 2 ^ 31) (q : inR v 1 (nI h)) : ∃ n : Nat, n ≤ h ∧ v = nI n := by
  have h0 : ¬ v < 0 := fun z => by
    have h1 := Int32.le_iff_toInt_le.mp q.1
    have h2 := Int32.lt_iff_toInt_lt.mp z
    have e1 : (0 : Int32).toInt = 0 := by decide
    have e2 : (1 : Int32).toInt = 1 := by decide
    omega
  obtain ⟨j, hj, rfl⟩ := nI_of h0
  exact ⟨j, (nI_leI hj hh).mp q.2, rfl⟩
theorem inR_26 {v : Int32} (q : inR v 2 6) : ∃ n : Nat, 2 ≤ n ∧ n ≤ 6 ∧ v = nI n := by
  have h0 : ¬ v < 0 := fun z => by
    have h1 := Int32.le_iff_toInt_le.mp q.1
    have h2 := Int32.lt_iff_toInt_lt.mp z
    have e1 : (0 : Int32).toInt = 0 := by decide
    have e2 : (2 : Int32).toInt = 2 := by decide
    omega
  obtain ⟨j, hj, rfl⟩ := nI_of h0
  exact ⟨j, (nI_leI (a := 2) (by decide) hj).mp q.1, (nI_leI (b := 6) hj (by decide)).mp q.2, rfl⟩
theorem isRole_nc {ch : Int32} (a : ¬ 98 = ch.toInt8.toInt32) (b : ¬ 102 = ch.toInt8.toInt32) (c : ¬ 103 = ch.toInt8.toInt32) (d : ¬ 115 = ch.toInt8.toInt32) : ¬ isRole ch := isRole_nb (fun e => a e.symm) (fun e => b e.symm) (fun e => c e.symm) (fun e => d e.symm)
theorem z_lift {E R ws : List Cond} (h : GoodIn E ws) : GoodIn (E ++ R) ws := fun w hw => ⟨List.mem_append_left _ (h w hw).1, (h w hw).2⟩
theorem z_gnil {big : List Cond} : GoodIn big [] := fun _ h => absurd h List.not_mem_nil

