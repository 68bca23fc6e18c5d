-- ===== PART A: goes FIRST, ahead of the names: the tables' words, and 'selects' of the private methods out of them =====
/-- a private method of a class that the tables say can be made, by its rows of tables_1 -/
def lw_okq (q : MethodName × Nat) : Prop := (q.1.cls ≠ "java/lang/invoke/MethodHandle" ∧ q.1.cls ≠ "java/lang/invoke/VarHandle") ∧ Cond.instantiable q.1.cls q.2 ∈ tables_1 ∧ Cond.privateMethod q.1 ∈ tables_1 ∧ Cond.instanceMethod q.1 ∈ tables_1
theorem lw_p0 : lw_okq (⟨"FaceMap$Sweep", "makeRows", "(I)V"⟩, 8) := ⟨⟨by decide +kernel, by decide +kernel⟩, List.mem_of_getElem? (i := 71) (by decide +kernel), List.mem_of_getElem? (i := 81) (by decide +kernel), List.mem_of_getElem? (i := 82) (by decide +kernel)⟩
theorem lw_p1 : lw_okq (⟨"FaceMap$Faces", "makeRows", "(I)V"⟩, 11) := ⟨⟨by decide +kernel, by decide +kernel⟩, List.mem_of_getElem? (i := 112) (by decide +kernel), List.mem_of_getElem? (i := 119) (by decide +kernel), List.mem_of_getElem? (i := 120) (by decide +kernel)⟩
theorem lw_p2 : lw_okq (⟨"FaceMap$Faces", "clear", "()V"⟩, 11) := ⟨⟨by decide +kernel, by decide +kernel⟩, List.mem_of_getElem? (i := 112) (by decide +kernel), List.mem_of_getElem? (i := 123) (by decide +kernel), List.mem_of_getElem? (i := 124) (by decide +kernel)⟩
theorem lw_p3 : lw_okq (⟨"FaceMap$Faces", "addFace", "(II)I"⟩, 11) := ⟨⟨by decide +kernel, by decide +kernel⟩, List.mem_of_getElem? (i := 112) (by decide +kernel), List.mem_of_getElem? (i := 130) (by decide +kernel), List.mem_of_getElem? (i := 131) (by decide +kernel)⟩
theorem lw_p4 : lw_okq (⟨"FaceMap", "numberOf", "(IIII)I"⟩, 5) := ⟨⟨by decide +kernel, by decide +kernel⟩, List.mem_of_getElem? (i := 15) (by decide +kernel), List.mem_of_getElem? (i := 286) (by decide +kernel), List.mem_of_getElem? (i := 287) (by decide +kernel)⟩
theorem lw_p5 : lw_okq (⟨"FaceMap", "freshFaces", "()LFaceMap$Faces;"⟩, 5) := ⟨⟨by decide +kernel, by decide +kernel⟩, List.mem_of_getElem? (i := 15) (by decide +kernel), List.mem_of_getElem? (i := 303) (by decide +kernel), List.mem_of_getElem? (i := 304) (by decide +kernel)⟩
theorem lw_p6 : lw_okq (⟨"FaceMap$Sweep", "passNode", "(I)V"⟩, 8) := ⟨⟨by decide +kernel, by decide +kernel⟩, List.mem_of_getElem? (i := 71) (by decide +kernel), List.mem_of_getElem? (i := 311) (by decide +kernel), List.mem_of_getElem? (i := 312) (by decide +kernel)⟩
theorem lw_p7 : lw_okq (⟨"FaceMap$Sweep", "countBelow", "(J)I"⟩, 8) := ⟨⟨by decide +kernel, by decide +kernel⟩, List.mem_of_getElem? (i := 71) (by decide +kernel), List.mem_of_getElem? (i := 315) (by decide +kernel), List.mem_of_getElem? (i := 316) (by decide +kernel)⟩
theorem lw_p8 : lw_okq (⟨"FaceMap$Sweep", "gatherUps", "(J)I"⟩, 8) := ⟨⟨by decide +kernel, by decide +kernel⟩, List.mem_of_getElem? (i := 71) (by decide +kernel), List.mem_of_getElem? (i := 320) (by decide +kernel), List.mem_of_getElem? (i := 321) (by decide +kernel)⟩
theorem lw_p9 : lw_okq (⟨"FaceMap$Sweep", "countUnder", "(II)I"⟩, 8) := ⟨⟨by decide +kernel, by decide +kernel⟩, List.mem_of_getElem? (i := 71) (by decide +kernel), List.mem_of_getElem? (i := 324) (by decide +kernel), List.mem_of_getElem? (i := 325) (by decide +kernel)⟩
theorem lw_p10 : lw_okq (⟨"FaceMap$Sweep", "countEnding", "(IJ)I"⟩, 8) := ⟨⟨by decide +kernel, by decide +kernel⟩, List.mem_of_getElem? (i := 71) (by decide +kernel), List.mem_of_getElem? (i := 335) (by decide +kernel), List.mem_of_getElem? (i := 336) (by decide +kernel)⟩
theorem lw_p11 : lw_okq (⟨"FaceMap$Sweep", "linkAround", "(I)V"⟩, 8) := ⟨⟨by decide +kernel, by decide +kernel⟩, List.mem_of_getElem? (i := 71) (by decide +kernel), List.mem_of_getElem? (i := 342) (by decide +kernel), List.mem_of_getElem? (i := 343) (by decide +kernel)⟩
theorem lw_p12 : lw_okq (⟨"FaceMap$Sweep", "exchange", "(III)V"⟩, 8) := ⟨⟨by decide +kernel, by decide +kernel⟩, List.mem_of_getElem? (i := 71) (by decide +kernel), List.mem_of_getElem? (i := 349) (by decide +kernel), List.mem_of_getElem? (i := 350) (by decide +kernel)⟩
theorem lw_p13 : lw_okq (⟨"FaceMap$Faces", "takeRing", "(I)V"⟩, 11) := ⟨⟨by decide +kernel, by decide +kernel⟩, List.mem_of_getElem? (i := 112) (by decide +kernel), List.mem_of_getElem? (i := 357) (by decide +kernel), List.mem_of_getElem? (i := 358) (by decide +kernel)⟩
theorem lw_p14 : lw_okq (⟨"FaceMap$Faces", "areaOfRing", "(I)J"⟩, 11) := ⟨⟨by decide +kernel, by decide +kernel⟩, List.mem_of_getElem? (i := 112) (by decide +kernel), List.mem_of_getElem? (i := 363) (by decide +kernel), List.mem_of_getElem? (i := 364) (by decide +kernel)⟩
theorem lw_p15 : lw_okq (⟨"FaceMap$Faces", "markRing", "(II)I"⟩, 11) := ⟨⟨by decide +kernel, by decide +kernel⟩, List.mem_of_getElem? (i := 112) (by decide +kernel), List.mem_of_getElem? (i := 384) (by decide +kernel), List.mem_of_getElem? (i := 385) (by decide +kernel)⟩
def lw_privs_1 : List (MethodName × Nat) := [(⟨"FaceMap$Sweep", "makeRows", "(I)V"⟩, 8), (⟨"FaceMap$Faces", "makeRows", "(I)V"⟩, 11), (⟨"FaceMap$Faces", "clear", "()V"⟩, 11), (⟨"FaceMap$Faces", "addFace", "(II)I"⟩, 11), (⟨"FaceMap", "numberOf", "(IIII)I"⟩, 5), (⟨"FaceMap", "freshFaces", "()LFaceMap$Faces;"⟩, 5), (⟨"FaceMap$Sweep", "passNode", "(I)V"⟩, 8), (⟨"FaceMap$Sweep", "countBelow", "(J)I"⟩, 8), (⟨"FaceMap$Sweep", "gatherUps", "(J)I"⟩, 8), (⟨"FaceMap$Sweep", "countUnder", "(II)I"⟩, 8), (⟨"FaceMap$Sweep", "countEnding", "(IJ)I"⟩, 8), (⟨"FaceMap$Sweep", "linkAround", "(I)V"⟩, 8), (⟨"FaceMap$Sweep", "exchange", "(III)V"⟩, 8), (⟨"FaceMap$Faces", "takeRing", "(I)V"⟩, 11), (⟨"FaceMap$Faces", "areaOfRing", "(I)J"⟩, 11), (⟨"FaceMap$Faces", "markRing", "(II)I"⟩, 11)]
theorem lw_r1 : ∀ q ∈ lw_privs_1, lw_okq q := List.forall_mem_cons.mpr ⟨lw_p0, List.forall_mem_cons.mpr ⟨lw_p1, List.forall_mem_cons.mpr ⟨lw_p2, List.forall_mem_cons.mpr ⟨lw_p3, List.forall_mem_cons.mpr ⟨lw_p4, List.forall_mem_cons.mpr ⟨lw_p5, List.forall_mem_cons.mpr ⟨lw_p6, List.forall_mem_cons.mpr ⟨lw_p7, List.forall_mem_cons.mpr ⟨lw_p8, List.forall_mem_cons.mpr ⟨lw_p9, List.forall_mem_cons.mpr ⟨lw_p10, List.forall_mem_cons.mpr ⟨lw_p11, List.forall_mem_cons.mpr ⟨lw_p12, List.forall_mem_cons.mpr ⟨lw_p13, List.forall_mem_cons.mpr ⟨lw_p14, List.forall_mem_cons.mpr ⟨lw_p15, fun _ h => absurd h List.not_mem_nil⟩⟩⟩⟩⟩⟩⟩⟩⟩⟩⟩⟩⟩⟩⟩⟩
theorem lw_p16 : lw_okq (⟨"FaceMapModel", "from", "(IIII)I"⟩, 5) := ⟨⟨by decide +kernel, by decide +kernel⟩, List.mem_of_getElem? (i := 445) (by decide +kernel), List.mem_of_getElem? (i := 560) (by decide +kernel), List.mem_of_getElem? (i := 561) (by decide +kernel)⟩
theorem lw_p17 : lw_okq (⟨"FaceMapModel", "isAt", "(IIIII)Z"⟩, 5) := ⟨⟨by decide +kernel, by decide +kernel⟩, List.mem_of_getElem? (i := 445) (by decide +kernel), List.mem_of_getElem? (i := 564) (by decide +kernel), List.mem_of_getElem? (i := 565) (by decide +kernel)⟩
theorem lw_p18 : lw_okq (⟨"FaceMapModel", "isStray", "(IIIII)Z"⟩, 5) := ⟨⟨by decide +kernel, by decide +kernel⟩, List.mem_of_getElem? (i := 445) (by decide +kernel), List.mem_of_getElem? (i := 568) (by decide +kernel), List.mem_of_getElem? (i := 569) (by decide +kernel)⟩
theorem lw_p19 : lw_okq (⟨"FaceMapModel", "build", "()V"⟩, 5) := ⟨⟨by decide +kernel, by decide +kernel⟩, List.mem_of_getElem? (i := 445) (by decide +kernel), List.mem_of_getElem? (i := 598) (by decide +kernel), List.mem_of_getElem? (i := 599) (by decide +kernel)⟩
theorem lw_p20 : lw_okq (⟨"FaceMapModel$Places", "sink", "(II)V"⟩, 2) := ⟨⟨by decide +kernel, by decide +kernel⟩, List.mem_of_getElem? (i := 517) (by decide +kernel), List.mem_of_getElem? (i := 618) (by decide +kernel), List.mem_of_getElem? (i := 619) (by decide +kernel)⟩
theorem lw_p21 : lw_okq (⟨"FaceMapModel$Net", "sortOut", "()V"⟩, 17) := ⟨⟨by decide +kernel, by decide +kernel⟩, List.mem_of_getElem? (i := 451) (by decide +kernel), List.mem_of_getElem? (i := 643) (by decide +kernel), List.mem_of_getElem? (i := 644) (by decide +kernel)⟩
theorem lw_p22 : lw_okq (⟨"FaceMapModel$Net", "isBefore", "(II)Z"⟩, 17) := ⟨⟨by decide +kernel, by decide +kernel⟩, List.mem_of_getElem? (i := 451) (by decide +kernel), List.mem_of_getElem? (i := 651) (by decide +kernel), List.mem_of_getElem? (i := 652) (by decide +kernel)⟩
theorem lw_p23 : lw_okq (⟨"FaceMapModel$Net", "half", "(I)I"⟩, 17) := ⟨⟨by decide +kernel, by decide +kernel⟩, List.mem_of_getElem? (i := 451) (by decide +kernel), List.mem_of_getElem? (i := 655) (by decide +kernel), List.mem_of_getElem? (i := 656) (by decide +kernel)⟩
theorem lw_p24 : lw_okq (⟨"FaceMapModel$Net", "root", "(I)I"⟩, 17) := ⟨⟨by decide +kernel, by decide +kernel⟩, List.mem_of_getElem? (i := 451) (by decide +kernel), List.mem_of_getElem? (i := 664) (by decide +kernel), List.mem_of_getElem? (i := 665) (by decide +kernel)⟩
theorem lw_p25 : lw_okq (⟨"FaceMapModel$Net", "walk", "(I)V"⟩, 17) := ⟨⟨by decide +kernel, by decide +kernel⟩, List.mem_of_getElem? (i := 451) (by decide +kernel), List.mem_of_getElem? (i := 668) (by decide +kernel), List.mem_of_getElem? (i := 669) (by decide +kernel)⟩
theorem lw_p26 : lw_okq (⟨"FaceMapModel$Net", "isLess", "(II)Z"⟩, 17) := ⟨⟨by decide +kernel, by decide +kernel⟩, List.mem_of_getElem? (i := 451) (by decide +kernel), List.mem_of_getElem? (i := 672) (by decide +kernel), List.mem_of_getElem? (i := 673) (by decide +kernel)⟩
theorem lw_p27 : lw_okq (⟨"FaceMapModel$Net", "number", "()V"⟩, 17) := ⟨⟨by decide +kernel, by decide +kernel⟩, List.mem_of_getElem? (i := 451) (by decide +kernel), List.mem_of_getElem? (i := 684) (by decide +kernel), List.mem_of_getElem? (i := 685) (by decide +kernel)⟩
theorem lw_p28 : lw_okq (⟨"FaceMapModel$Net", "around", "(II)I"⟩, 17) := ⟨⟨by decide +kernel, by decide +kernel⟩, List.mem_of_getElem? (i := 451) (by decide +kernel), List.mem_of_getElem? (i := 688) (by decide +kernel), List.mem_of_getElem? (i := 689) (by decide +kernel)⟩
theorem lw_p29 : lw_okq (⟨"FaceMapModel", "isFace", "(I)Z"⟩, 5) := ⟨⟨by decide +kernel, by decide +kernel⟩, List.mem_of_getElem? (i := 445) (by decide +kernel), List.mem_of_getElem? (i := 725) (by decide +kernel), List.mem_of_getElem? (i := 726) (by decide +kernel)⟩
def lw_privs_2 : List (MethodName × Nat) := [(⟨"FaceMapModel", "from", "(IIII)I"⟩, 5), (⟨"FaceMapModel", "isAt", "(IIIII)Z"⟩, 5), (⟨"FaceMapModel", "isStray", "(IIIII)Z"⟩, 5), (⟨"FaceMapModel", "build", "()V"⟩, 5), (⟨"FaceMapModel$Places", "sink", "(II)V"⟩, 2), (⟨"FaceMapModel$Net", "sortOut", "()V"⟩, 17), (⟨"FaceMapModel$Net", "isBefore", "(II)Z"⟩, 17), (⟨"FaceMapModel$Net", "half", "(I)I"⟩, 17), (⟨"FaceMapModel$Net", "root", "(I)I"⟩, 17), (⟨"FaceMapModel$Net", "walk", "(I)V"⟩, 17), (⟨"FaceMapModel$Net", "isLess", "(II)Z"⟩, 17), (⟨"FaceMapModel$Net", "number", "()V"⟩, 17), (⟨"FaceMapModel$Net", "around", "(II)I"⟩, 17), (⟨"FaceMapModel", "isFace", "(I)Z"⟩, 5)]
theorem lw_r2 : ∀ q ∈ lw_privs_2, lw_okq q := List.forall_mem_cons.mpr ⟨lw_p16, List.forall_mem_cons.mpr ⟨lw_p17, List.forall_mem_cons.mpr ⟨lw_p18, List.forall_mem_cons.mpr ⟨lw_p19, List.forall_mem_cons.mpr ⟨lw_p20, List.forall_mem_cons.mpr ⟨lw_p21, List.forall_mem_cons.mpr ⟨lw_p22, List.forall_mem_cons.mpr ⟨lw_p23, List.forall_mem_cons.mpr ⟨lw_p24, List.forall_mem_cons.mpr ⟨lw_p25, List.forall_mem_cons.mpr ⟨lw_p26, List.forall_mem_cons.mpr ⟨lw_p27, List.forall_mem_cons.mpr ⟨lw_p28, List.forall_mem_cons.mpr ⟨lw_p29, fun _ h => absurd h List.not_mem_nil⟩⟩⟩⟩⟩⟩⟩⟩⟩⟩⟩⟩⟩⟩
def lw_privs : List (MethodName × Nat) := lw_privs_1 ++ (lw_privs_2)
def lw_tbl : List Cond := k2_sels lw_privs ++ tables_1
theorem lw_privs_ok : ∀ q ∈ lw_privs, lw_okq q := by
  show ∀ q ∈ lw_privs_1 ++ (lw_privs_2), lw_okq q
  exact List.forall_mem_append.mpr ⟨lw_r1, lw_r2⟩

theorem goodIn_r {big : List Cond} (ws : List Cond) (ps : List Nat) (hp : ws = ps.filterMap (fun i => big[i]?)) (h : ws.all goodWord = true) : GoodIn big ws := by
  intro w hw
  have h1 := List.all_eq_true.mp h w hw
  rw [hp] at hw
  obtain ⟨i, -, hi⟩ := List.mem_filterMap.mp hw
  have hm : w ∈ big := by first | exact List.mem_of_getElem? hi | exact List.getElem?_mem hi
  exact ⟨hm, good_of_word h1⟩
theorem goodIn_app {big a b : List Cond} (ha : GoodIn big a) (hb : GoodIn big b) : GoodIn big (a ++ b) := fun w h => (List.mem_append.mp h).elim (ha w) (hb w)
theorem goodIn_ca {big a b : List Cond} {c : Cond} (ha : GoodIn big (c :: a)) (hb : GoodIn big b) : GoodIn big (c :: (a ++ b)) := fun w h => (List.mem_cons.mp h).elim (fun e => ha w (List.mem_cons.mpr (Or.inl e))) (fun h => (List.mem_append.mp h).elim (fun h => ha w (List.mem_cons.mpr (Or.inr h))) (hb w))
theorem goodIn_sub {big ws : List Cond} (hm : ∀ w ∈ ws, w ∈ big) (h : ws.all goodWord = true) : GoodIn big ws := fun w hw => ⟨hm w hw, good_of_word (List.all_eq_true.mp h w hw)⟩
def RX0 : String := "FaceMap$Faces"
def TX0 : u_T := fun k => match k with
  | 0 => ("FaceMap$Faces", "pieces", "LFaceMap$Pieces;", true)
  | 1 => ("FaceMap$Faces", "nodes", "LFaceMap$Nodes;", true)
  | 2 => ("FaceMap$Faces", "sweep", "LFaceMap$Sweep;", true)
  | 3 => ("FaceMap$Faces", "leftOf", "[I", false)
  | 4 => ("FaceMap$Faces", "rings", "[I", false)
  | 5 => ("FaceMap$Faces", "ways", "[I", false)
  | 6 => ("FaceMap$Faces", "keyFrom", "[I", false)
  | 7 => ("FaceMap$Faces", "keyTo", "[I", false)
  | 8 => ("FaceMap$Faces", "area", "[J", false)
  | 9 => ("FaceMap$Faces", "size", "I", false)
  | _ => ("FaceMap$Faces", "parts", "I", false)
def tyX0 : Nat → FieldType := fun k => match k with
  | 0 => .object "FaceMap$Pieces"
  | 1 => .object "FaceMap$Nodes"
  | 2 => .object "FaceMap$Sweep"
  | 3 => .array .int
  | 4 => .array .int
  | 5 => .array .int
  | 6 => .array .int
  | 7 => .array .int
  | 8 => .array .long
  | 9 => .int
  | _ => .int
abbrev wsX00 : List Cond := u_ws RX0 TX0 11
theorem nmX0 : ∀ a, a < 11 → ∀ b, b < 11 → a ≠ b → (TX0 a).2.1 ≠ (TX0 b).2.1 := by decide +kernel
theorem tyX0_ok : ∀ k, k < 11 → parseFieldDescriptor (TX0 k).2.2.1 = some (tyX0 k) := by decide +kernel
abbrev cX0_init : ByteArray := prog_2_method_1_code
def yX0_init : MethodName := ⟨RX0, "<init>", "(LFaceMap$Pieces;LFaceMap$Nodes;LFaceMap$Sweep;)V"⟩
abbrev cX0_makeRows : ByteArray := prog_2_method_2_code
def yX0_makeRows : MethodName := ⟨RX0, "makeRows", "(I)V"⟩
abbrev cX0_clear : ByteArray := prog_2_method_3_code
def yX0_clear : MethodName := ⟨RX0, "clear", "()V"⟩
abbrev cX0_addFace : ByteArray := prog_2_method_4_code
def yX0_addFace : MethodName := ⟨RX0, "addFace", "(II)I"⟩
abbrev cX0_build : ByteArray := prog_2_method_5_code
def yX0_build : MethodName := ⟨RX0, "build", "()V"⟩
abbrev cX0_takeRing : ByteArray := prog_2_method_6_code
def yX0_takeRing : MethodName := ⟨RX0, "takeRing", "(I)V"⟩
abbrev cX0_areaOfRing : ByteArray := prog_2_method_7_code
def yX0_areaOfRing : MethodName := ⟨RX0, "areaOfRing", "(I)J"⟩
abbrev cX0_markRing : ByteArray := prog_2_method_8_code
def yX0_markRing : MethodName := ⟨RX0, "markRing", "(II)I"⟩
abbrev cX0_has : ByteArray := prog_2_method_9_code
def yX0_has : MethodName := ⟨RX0, "has", "(I)Z"⟩
abbrev cX0_above : ByteArray := prog_2_method_10_code
def yX0_above : MethodName := ⟨RX0, "above", "(I)I"⟩
abbrev cX0_piecesBetween : ByteArray := prog_2_method_11_code
def yX0_piecesBetween : MethodName := ⟨RX0, "piecesBetween", "(II)I"⟩
def RX1 : String := "FaceMap$Nodes"
def TX1 : u_T := fun k => match k with
  | 0 => ("FaceMap$Nodes", "at", "[J", false)
  | 1 => ("FaceMap$Nodes", "degree", "[I", false)
  | _ => ("FaceMap$Nodes", "size", "I", false)
def tyX1 : Nat → FieldType := fun k => match k with
  | 0 => .array .long
  | 1 => .array .int
  | _ => .int
abbrev wsX10 : List Cond := u_ws RX1 TX1 3
theorem nmX1 : ∀ a, a < 3 → ∀ b, b < 3 → a ≠ b → (TX1 a).2.1 ≠ (TX1 b).2.1 := by decide +kernel
theorem tyX1_ok : ∀ k, k < 3 → parseFieldDescriptor (TX1 k).2.2.1 = some (tyX1 k) := by decide +kernel
abbrev cX1_init : ByteArray := prog_3_method_1_code
def yX1_init : MethodName := ⟨RX1, "<init>", "()V"⟩
abbrev cX1_rank : ByteArray := prog_3_method_2_code
def yX1_rank : MethodName := ⟨RX1, "rank", "(J)I"⟩
abbrev cX1_isAt : ByteArray := prog_3_method_3_code
def yX1_isAt : MethodName := ⟨RX1, "isAt", "(IJ)Z"⟩
abbrev cX1_addEnd : ByteArray := prog_3_method_4_code
def yX1_addEnd : MethodName := ⟨RX1, "addEnd", "(J)V"⟩
abbrev cX1_insert : ByteArray := prog_3_method_5_code
def yX1_insert : MethodName := ⟨RX1, "insert", "(IJ)V"⟩
abbrev cX1_dropEnd : ByteArray := prog_3_method_6_code
def yX1_dropEnd : MethodName := ⟨RX1, "dropEnd", "(J)V"⟩
def RX2 : String := "FaceMap$Pieces"
def TX2 : u_T := fun k => match k with
  | 0 => ("FaceMap$Pieces", "low", "[J", false)
  | 1 => ("FaceMap$Pieces", "high", "[J", false)
  | _ => ("FaceMap$Pieces", "size", "I", false)
def tyX2 : Nat → FieldType := fun k => match k with
  | 0 => .array .long
  | 1 => .array .long
  | _ => .int
abbrev wsX20 : List Cond := u_ws RX2 TX2 3
theorem nmX2 : ∀ a, a < 3 → ∀ b, b < 3 → a ≠ b → (TX2 a).2.1 ≠ (TX2 b).2.1 := by decide +kernel
theorem tyX2_ok : ∀ k, k < 3 → parseFieldDescriptor (TX2 k).2.2.1 = some (tyX2 k) := by decide +kernel
abbrev cX2_init : ByteArray := prog_4_method_1_code
def yX2_init : MethodName := ⟨RX2, "<init>", "()V"⟩
abbrev cX2_room : ByteArray := prog_4_method_2_code
def yX2_room : MethodName := ⟨RX2, "room", "()I"⟩
abbrev cX2_rank : ByteArray := prog_4_method_3_code
def yX2_rank : MethodName := ⟨RX2, "rank", "(JJ)I"⟩
abbrev cX2_has : ByteArray := prog_4_method_4_code
def yX2_has : MethodName := ⟨RX2, "has", "(JJ)Z"⟩
abbrev cX2_clashWith : ByteArray := prog_4_method_5_code
def yX2_clashWith : MethodName := ⟨RX2, "clashWith", "(JJ)Z"⟩
abbrev cX2_add : ByteArray := prog_4_method_6_code
def yX2_add : MethodName := ⟨RX2, "add", "(JJ)V"⟩
abbrev cX2_remove : ByteArray := prog_4_method_7_code
def yX2_remove : MethodName := ⟨RX2, "remove", "(I)V"⟩
abbrev cX2_firstOn : ByteArray := prog_4_method_8_code
def yX2_firstOn : MethodName := ⟨RX2, "firstOn", "(J)I"⟩
abbrev cX2_nextBelow : ByteArray := prog_4_method_9_code
def yX2_nextBelow : MethodName := ⟨RX2, "nextBelow", "(J)I"⟩
abbrev cX2_isOver : ByteArray := prog_4_method_10_code
def yX2_isOver : MethodName := ⟨RX2, "isOver", "(II)Z"⟩
def RX3 : String := "FaceMap$Place"
def TX3 : u_T := fun k => match k with
  | _ => ("", "", "", false)
def tyX3 : Nat → FieldType := fun k => match k with
  | _ => .int
abbrev wsX30 : List Cond := u_ws RX3 TX3 0
theorem nmX3 : ∀ a, a < 0 → ∀ b, b < 0 → a ≠ b → (TX3 a).2.1 ≠ (TX3 b).2.1 := by decide +kernel
theorem tyX3_ok : ∀ k, k < 0 → parseFieldDescriptor (TX3 k).2.2.1 = some (tyX3 k) := by decide +kernel
abbrev cX3_inBounds : ByteArray := prog_5_method_2_code
def yX3_inBounds : MethodName := ⟨RX3, "inBounds", "(II)Z"⟩
abbrev cX3_of : ByteArray := prog_5_method_3_code
def yX3_of : MethodName := ⟨RX3, "of", "(II)J"⟩
abbrev cX3_x : ByteArray := prog_5_method_4_code
def yX3_x : MethodName := ⟨RX3, "x", "(J)I"⟩
abbrev cX3_y : ByteArray := prog_5_method_5_code
def yX3_y : MethodName := ⟨RX3, "y", "(J)I"⟩
abbrev cX3_side : ByteArray := prog_5_method_6_code
def yX3_side : MethodName := ⟨RX3, "side", "(JJJ)J"⟩
abbrev cX3_divides : ByteArray := prog_5_method_7_code
def yX3_divides : MethodName := ⟨RX3, "divides", "(JJJJ)Z"⟩
abbrev cX3_isInside : ByteArray := prog_5_method_8_code
def yX3_isInside : MethodName := ⟨RX3, "isInside", "(JJJ)Z"⟩
abbrev cX3_clash : ByteArray := prog_5_method_9_code
def yX3_clash : MethodName := ⟨RX3, "clash", "(JJJJ)Z"⟩
abbrev cX3_area : ByteArray := prog_5_method_10_code
def yX3_area : MethodName := ⟨RX3, "area", "(JJ)J"⟩
def RX4 : String := "FaceMap$Sweep"
def TX4 : u_T := fun k => match k with
  | 0 => ("FaceMap$Sweep", "pieces", "LFaceMap$Pieces;", true)
  | 1 => ("FaceMap$Sweep", "nodes", "LFaceMap$Nodes;", true)
  | 2 => ("FaceMap$Sweep", "begun", "I", false)
  | 3 => ("FaceMap$Sweep", "crossed", "[I", false)
  | 4 => ("FaceMap$Sweep", "crossedSize", "I", false)
  | 5 => ("FaceMap$Sweep", "around", "[I", false)
  | 6 => ("FaceMap$Sweep", "next", "[I", false)
  | _ => ("FaceMap$Sweep", "below", "[I", false)
def tyX4 : Nat → FieldType := fun k => match k with
  | 0 => .object "FaceMap$Pieces"
  | 1 => .object "FaceMap$Nodes"
  | 2 => .int
  | 3 => .array .int
  | 4 => .int
  | 5 => .array .int
  | 6 => .array .int
  | _ => .array .int
abbrev wsX40 : List Cond := u_ws RX4 TX4 8
theorem nmX4 : ∀ a, a < 8 → ∀ b, b < 8 → a ≠ b → (TX4 a).2.1 ≠ (TX4 b).2.1 := by decide +kernel
theorem tyX4_ok : ∀ k, k < 8 → parseFieldDescriptor (TX4 k).2.2.1 = some (tyX4 k) := by decide +kernel
abbrev cX4_init : ByteArray := prog_6_method_1_code
def yX4_init : MethodName := ⟨RX4, "<init>", "(LFaceMap$Pieces;LFaceMap$Nodes;)V"⟩
abbrev cX4_makeRows : ByteArray := prog_6_method_2_code
def yX4_makeRows : MethodName := ⟨RX4, "makeRows", "(I)V"⟩
abbrev cX4_build : ByteArray := prog_6_method_3_code
def yX4_build : MethodName := ⟨RX4, "build", "()V"⟩
abbrev cX4_passNode : ByteArray := prog_6_method_4_code
def yX4_passNode : MethodName := ⟨RX4, "passNode", "(I)V"⟩
abbrev cX4_countBelow : ByteArray := prog_6_method_5_code
def yX4_countBelow : MethodName := ⟨RX4, "countBelow", "(J)I"⟩
abbrev cX4_countEnding : ByteArray := prog_6_method_6_code
def yX4_countEnding : MethodName := ⟨RX4, "countEnding", "(IJ)I"⟩
abbrev cX4_gatherUps : ByteArray := prog_6_method_7_code
def yX4_gatherUps : MethodName := ⟨RX4, "gatherUps", "(J)I"⟩
abbrev cX4_countUnder : ByteArray := prog_6_method_8_code
def yX4_countUnder : MethodName := ⟨RX4, "countUnder", "(II)I"⟩
abbrev cX4_linkAround : ByteArray := prog_6_method_9_code
def yX4_linkAround : MethodName := ⟨RX4, "linkAround", "(I)V"⟩
abbrev cX4_exchange : ByteArray := prog_6_method_10_code
def yX4_exchange : MethodName := ⟨RX4, "exchange", "(III)V"⟩
def RX5 : String := "FaceMap$Way"
def TX5 : u_T := fun k => match k with
  | _ => ("", "", "", false)
def tyX5 : Nat → FieldType := fun k => match k with
  | _ => .int
abbrev wsX50 : List Cond := u_ws RX5 TX5 0
theorem nmX5 : ∀ a, a < 0 → ∀ b, b < 0 → a ≠ b → (TX5 a).2.1 ≠ (TX5 b).2.1 := by decide +kernel
theorem tyX5_ok : ∀ k, k < 0 → parseFieldDescriptor (TX5 k).2.2.1 = some (tyX5 k) := by decide +kernel
abbrev cX5_up : ByteArray := prog_7_method_2_code
def yX5_up : MethodName := ⟨RX5, "up", "(I)I"⟩
abbrev cX5_down : ByteArray := prog_7_method_3_code
def yX5_down : MethodName := ⟨RX5, "down", "(I)I"⟩
abbrev cX5_back : ByteArray := prog_7_method_4_code
def yX5_back : MethodName := ⟨RX5, "back", "(I)I"⟩
abbrev cX5_pieceOf : ByteArray := prog_7_method_5_code
def yX5_pieceOf : MethodName := ⟨RX5, "pieceOf", "(I)I"⟩
abbrev cX5_isUp : ByteArray := prog_7_method_6_code
def yX5_isUp : MethodName := ⟨RX5, "isUp", "(I)Z"⟩
def RX6 : String := "FaceMap"
def TX6 : u_T := fun k => match k with
  | 0 => ("FaceMap", "pieces", "LFaceMap$Pieces;", true)
  | 1 => ("FaceMap", "nodes", "LFaceMap$Nodes;", true)
  | 2 => ("FaceMap", "sweep", "LFaceMap$Sweep;", true)
  | 3 => ("FaceMap", "faces", "LFaceMap$Faces;", true)
  | _ => ("FaceMap", "facesAreOld", "Z", false)
def tyX6 : Nat → FieldType := fun k => match k with
  | 0 => .object "FaceMap$Pieces"
  | 1 => .object "FaceMap$Nodes"
  | 2 => .object "FaceMap$Sweep"
  | 3 => .object "FaceMap$Faces"
  | _ => .boolean
abbrev wsX60 : List Cond := u_ws RX6 TX6 5
theorem nmX6 : ∀ a, a < 5 → ∀ b, b < 5 → a ≠ b → (TX6 a).2.1 ≠ (TX6 b).2.1 := by decide +kernel
theorem tyX6_ok : ∀ k, k < 5 → parseFieldDescriptor (TX6 k).2.2.1 = some (tyX6 k) := by decide +kernel
abbrev cX6_init : ByteArray := prog_1_method_1_code
def yX6_init : MethodName := ⟨RX6, "<init>", "()V"⟩
abbrev cX6_join : ByteArray := prog_1_method_2_code
def yX6_join : MethodName := ⟨RX6, "join", "(IIII)I"⟩
abbrev cX6_cut : ByteArray := prog_1_method_3_code
def yX6_cut : MethodName := ⟨RX6, "cut", "(IIII)Z"⟩
abbrev cX6_count : ByteArray := prog_1_method_4_code
def yX6_count : MethodName := ⟨RX6, "count", "(I)I"⟩
abbrev cX6_node : ByteArray := prog_1_method_5_code
def yX6_node : MethodName := ⟨RX6, "node", "(II)I"⟩
abbrev cX6_piece : ByteArray := prog_1_method_6_code
def yX6_piece : MethodName := ⟨RX6, "piece", "(II)I"⟩
abbrev cX6_left : ByteArray := prog_1_method_7_code
def yX6_left : MethodName := ⟨RX6, "left", "(IIII)I"⟩
abbrev cX6_face : ByteArray := prog_1_method_8_code
def yX6_face : MethodName := ⟨RX6, "face", "(II)I"⟩
abbrev cX6_area2 : ByteArray := prog_1_method_9_code
def yX6_area2 : MethodName := ⟨RX6, "area2", "(I)J"⟩
abbrev cX6_locate : ByteArray := prog_1_method_10_code
def yX6_locate : MethodName := ⟨RX6, "locate", "(II)I"⟩
abbrev cX6_between : ByteArray := prog_1_method_11_code
def yX6_between : MethodName := ⟨RX6, "between", "(II)I"⟩
abbrev cX6_numberOf : ByteArray := prog_1_method_12_code
def yX6_numberOf : MethodName := ⟨RX6, "numberOf", "(IIII)I"⟩
abbrev cX6_freshFaces : ByteArray := prog_1_method_13_code
def yX6_freshFaces : MethodName := ⟨RX6, "freshFaces", "()LFaceMap$Faces;"⟩
def RX7 : String := "FaceMapModel$Net"
def TX7 : u_T := fun k => match k with
  | 0 => ("FaceMapModel$Net", "x", "[I", false)
  | 1 => ("FaceMapModel$Net", "y", "[I", false)
  | 2 => ("FaceMapModel$Net", "nodes", "I", false)
  | 3 => ("FaceMapModel$Net", "low", "[I", false)
  | 4 => ("FaceMapModel$Net", "high", "[I", false)
  | 5 => ("FaceMapModel$Net", "pieces", "I", false)
  | 6 => ("FaceMapModel$Net", "begins", "[I", false)
  | 7 => ("FaceMapModel$Net", "out", "[I", false)
  | 8 => ("FaceMapModel$Net", "rank", "[I", false)
  | 9 => ("FaceMapModel$Net", "round", "[I", false)
  | 10 => ("FaceMapModel$Net", "area", "[J", false)
  | 11 => ("FaceMapModel$Net", "least", "[I", false)
  | 12 => ("FaceMapModel$Net", "faceOf", "[I", false)
  | 13 => ("FaceMapModel$Net", "rounds", "I", false)
  | 14 => ("FaceMapModel$Net", "part", "[I", false)
  | 15 => ("FaceMapModel$Net", "faces", "I", false)
  | _ => ("FaceMapModel$Net", "odd", "[Z", false)
def tyX7 : Nat → FieldType := fun k => match k with
  | 0 => .array .int
  | 1 => .array .int
  | 2 => .int
  | 3 => .array .int
  | 4 => .array .int
  | 5 => .int
  | 6 => .array .int
  | 7 => .array .int
  | 8 => .array .int
  | 9 => .array .int
  | 10 => .array .long
  | 11 => .array .int
  | 12 => .array .int
  | 13 => .int
  | 14 => .array .int
  | 15 => .int
  | _ => .array .boolean
abbrev wsX70 : List Cond := u_ws RX7 TX7 17
theorem nmX7 : ∀ a, a < 17 → ∀ b, b < 17 → a ≠ b → (TX7 a).2.1 ≠ (TX7 b).2.1 := by decide +kernel
theorem tyX7_ok : ∀ k, k < 17 → parseFieldDescriptor (TX7 k).2.2.1 = some (tyX7 k) := by decide +kernel
abbrev cX7_init : ByteArray := prog_10_method_1_code
def yX7_init : MethodName := ⟨RX7, "<init>", "()V"⟩
abbrev cX7_room : ByteArray := prog_10_method_2_code
def yX7_room : MethodName := ⟨RX7, "room", "(II)V"⟩
abbrev cX7_start : ByteArray := prog_10_method_3_code
def yX7_start : MethodName := ⟨RX7, "start", "(I)I"⟩
abbrev cX7_end : ByteArray := prog_10_method_4_code
def yX7_end : MethodName := ⟨RX7, "end", "(I)I"⟩
abbrev cX7_half : ByteArray := prog_10_method_5_code
def yX7_half : MethodName := ⟨RX7, "half", "(I)I"⟩
abbrev cX7_isBefore : ByteArray := prog_10_method_6_code
def yX7_isBefore : MethodName := ⟨RX7, "isBefore", "(II)Z"⟩
abbrev cX7_sortOut : ByteArray := prog_10_method_7_code
def yX7_sortOut : MethodName := ⟨RX7, "sortOut", "()V"⟩
abbrev cX7_degree : ByteArray := prog_10_method_8_code
def yX7_degree : MethodName := ⟨RX7, "degree", "(I)I"⟩
abbrev cX7_clockwise : ByteArray := prog_10_method_9_code
def yX7_clockwise : MethodName := ⟨RX7, "clockwise", "(I)I"⟩
abbrev cX7_next : ByteArray := prog_10_method_10_code
def yX7_next : MethodName := ⟨RX7, "next", "(I)I"⟩
abbrev cX7_root : ByteArray := prog_10_method_11_code
def yX7_root : MethodName := ⟨RX7, "root", "(I)I"⟩
abbrev cX7_build : ByteArray := prog_10_method_12_code
def yX7_build : MethodName := ⟨RX7, "build", "()V"⟩
abbrev cX7_isLess : ByteArray := prog_10_method_13_code
def yX7_isLess : MethodName := ⟨RX7, "isLess", "(II)Z"⟩
abbrev cX7_walk : ByteArray := prog_10_method_14_code
def yX7_walk : MethodName := ⟨RX7, "walk", "(I)V"⟩
abbrev cX7_number : ByteArray := prog_10_method_15_code
def yX7_number : MethodName := ⟨RX7, "number", "()V"⟩
abbrev cX7_around : ByteArray := prog_10_method_16_code
def yX7_around : MethodName := ⟨RX7, "around", "(II)I"⟩
abbrev cX7_inside : ByteArray := prog_10_method_17_code
def yX7_inside : MethodName := ⟨RX7, "inside", "(JJI)I"⟩
abbrev cX7_face : ByteArray := prog_10_method_18_code
def yX7_face : MethodName := ⟨RX7, "face", "(I)I"⟩
abbrev cX7_ringsOf : ByteArray := prog_10_method_19_code
def yX7_ringsOf : MethodName := ⟨RX7, "ringsOf", "(I)I"⟩
abbrev cX7_waysOf : ByteArray := prog_10_method_20_code
def yX7_waysOf : MethodName := ⟨RX7, "waysOf", "(I)I"⟩
abbrev cX7_keyOf : ByteArray := prog_10_method_21_code
def yX7_keyOf : MethodName := ⟨RX7, "keyOf", "(I)I"⟩
abbrev cX7_parts : ByteArray := prog_10_method_22_code
def yX7_parts : MethodName := ⟨RX7, "parts", "()I"⟩
abbrev cX7_areaOf : ByteArray := prog_10_method_23_code
def yX7_areaOf : MethodName := ⟨RX7, "areaOf", "(I)J"⟩
def RX8 : String := "FaceMapModel$Places"
def TX8 : u_T := fun k => match k with
  | 0 => ("FaceMapModel$Places", "row", "[J", false)
  | _ => ("FaceMapModel$Places", "size", "I", false)
def tyX8 : Nat → FieldType := fun k => match k with
  | 0 => .array .long
  | _ => .int
abbrev wsX80 : List Cond := u_ws RX8 TX8 2
theorem nmX8 : ∀ a, a < 2 → ∀ b, b < 2 → a ≠ b → (TX8 a).2.1 ≠ (TX8 b).2.1 := by decide +kernel
theorem tyX8_ok : ∀ k, k < 2 → parseFieldDescriptor (TX8 k).2.2.1 = some (tyX8 k) := by decide +kernel
abbrev cX8_init : ByteArray := prog_11_method_1_code
def yX8_init : MethodName := ⟨RX8, "<init>", "()V"⟩
abbrev cX8_clear : ByteArray := prog_11_method_2_code
def yX8_clear : MethodName := ⟨RX8, "clear", "()V"⟩
abbrev cX8_keyOf : ByteArray := prog_11_method_3_code
def yX8_keyOf : MethodName := ⟨RX8, "keyOf", "(II)J"⟩
abbrev cX8_add : ByteArray := prog_11_method_4_code
def yX8_add : MethodName := ⟨RX8, "add", "(II)V"⟩
abbrev cX8_x : ByteArray := prog_11_method_5_code
def yX8_x : MethodName := ⟨RX8, "x", "(I)I"⟩
abbrev cX8_y : ByteArray := prog_11_method_6_code
def yX8_y : MethodName := ⟨RX8, "y", "(I)I"⟩
abbrev cX8_sort : ByteArray := prog_11_method_7_code
def yX8_sort : MethodName := ⟨RX8, "sort", "()V"⟩
abbrev cX8_sink : ByteArray := prog_11_method_8_code
def yX8_sink : MethodName := ⟨RX8, "sink", "(II)V"⟩
abbrev cX8_find : ByteArray := prog_11_method_9_code
def yX8_find : MethodName := ⟨RX8, "find", "(II)I"⟩
def RX9 : String := "FaceMapModel"
def TX9 : u_T := fun k => match k with
  | 0 => ("FaceMapModel", "ends", "[I", true)
  | 1 => ("FaceMapModel", "count", "I", false)
  | 2 => ("FaceMapModel", "net", "LFaceMapModel$Net;", true)
  | 3 => ("FaceMapModel", "nodes", "LFaceMapModel$Places;", true)
  | _ => ("FaceMapModel", "isBuilt", "Z", false)
def tyX9 : Nat → FieldType := fun k => match k with
  | 0 => .array .int
  | 1 => .int
  | 2 => .object "FaceMapModel$Net"
  | 3 => .object "FaceMapModel$Places"
  | _ => .boolean
abbrev wsX90 : List Cond := u_ws RX9 TX9 5
theorem nmX9 : ∀ a, a < 5 → ∀ b, b < 5 → a ≠ b → (TX9 a).2.1 ≠ (TX9 b).2.1 := by decide +kernel
theorem tyX9_ok : ∀ k, k < 5 → parseFieldDescriptor (TX9 k).2.2.1 = some (tyX9 k) := by decide +kernel
abbrev cX9_side : ByteArray := prog_9_method_1_code
def yX9_side : MethodName := ⟨RX9, "side", "(JJJJJJ)J"⟩
abbrev cX9_sign : ByteArray := prog_9_method_2_code
def yX9_sign : MethodName := ⟨RX9, "sign", "(J)I"⟩
abbrev cX9_isBetween : ByteArray := prog_9_method_3_code
def yX9_isBetween : MethodName := ⟨RX9, "isBetween", "(JJJJJJ)Z"⟩
abbrev cX9_isOn : ByteArray := prog_9_method_4_code
def yX9_isOn : MethodName := ⟨RX9, "isOn", "(JJJJJJ)Z"⟩
abbrev cX9_meeting : ByteArray := prog_9_method_5_code
def yX9_meeting : MethodName := ⟨RX9, "meeting", "(JJJJJJJJ)I"⟩
abbrev cX9_straight : ByteArray := prog_9_method_6_code
def yX9_straight : MethodName := ⟨RX9, "straight", "(JJJJJJJJ)I"⟩
abbrev cX9_init : ByteArray := prog_9_method_7_code
def yX9_init : MethodName := ⟨RX9, "<init>", "()V"⟩
abbrev cX9_isIn : ByteArray := prog_9_method_9_code
def yX9_isIn : MethodName := ⟨RX9, "isIn", "(II)Z"⟩
abbrev cX9_compare : ByteArray := prog_9_method_10_code
def yX9_compare : MethodName := ⟨RX9, "compare", "(IIII)I"⟩
abbrev cX9_from : ByteArray := prog_9_method_11_code
def yX9_from : MethodName := ⟨RX9, "from", "(IIII)I"⟩
abbrev cX9_isAt : ByteArray := prog_9_method_12_code
def yX9_isAt : MethodName := ⟨RX9, "isAt", "(IIIII)Z"⟩
abbrev cX9_isStray : ByteArray := prog_9_method_13_code
def yX9_isStray : MethodName := ⟨RX9, "isStray", "(IIIII)Z"⟩
abbrev cX9_join : ByteArray := prog_9_method_14_code
def yX9_join : MethodName := ⟨RX9, "join", "(IIII)I"⟩
abbrev cX9_cut : ByteArray := prog_9_method_15_code
def yX9_cut : MethodName := ⟨RX9, "cut", "(IIII)Z"⟩
abbrev cX9_build : ByteArray := prog_9_method_16_code
def yX9_build : MethodName := ⟨RX9, "build", "()V"⟩
abbrev cX9_count : ByteArray := prog_9_method_17_code
def yX9_count : MethodName := ⟨RX9, "count", "(I)I"⟩
abbrev cX9_node : ByteArray := prog_9_method_18_code
def yX9_node : MethodName := ⟨RX9, "node", "(II)I"⟩
abbrev cX9_piece : ByteArray := prog_9_method_19_code
def yX9_piece : MethodName := ⟨RX9, "piece", "(II)I"⟩
abbrev cX9_left : ByteArray := prog_9_method_20_code
def yX9_left : MethodName := ⟨RX9, "left", "(IIII)I"⟩
abbrev cX9_isFace : ByteArray := prog_9_method_21_code
def yX9_isFace : MethodName := ⟨RX9, "isFace", "(I)Z"⟩
abbrev cX9_face : ByteArray := prog_9_method_22_code
def yX9_face : MethodName := ⟨RX9, "face", "(II)I"⟩
abbrev cX9_area2 : ByteArray := prog_9_method_23_code
def yX9_area2 : MethodName := ⟨RX9, "area2", "(I)J"⟩
abbrev cX9_locate : ByteArray := prog_9_method_24_code
def yX9_locate : MethodName := ⟨RX9, "locate", "(II)I"⟩
abbrev cX9_between : ByteArray := prog_9_method_25_code
def yX9_between : MethodName := ⟨RX9, "between", "(II)I"⟩
def RJx8e188 : String := "java/lang/Cloneable"
def TJx8e188 : u_T := fun k => match k with
  | _ => ("", "", "", false)
def tyJx8e188 : Nat → FieldType := fun k => match k with
  | _ => .int
abbrev wsJx8e1880 : List Cond := u_ws RJx8e188 TJx8e188 0
theorem nmJx8e188 : ∀ a, a < 0 → ∀ b, b < 0 → a ≠ b → (TJx8e188 a).2.1 ≠ (TJx8e188 b).2.1 := by decide +kernel
theorem tyJx8e188_ok : ∀ k, k < 0 → parseFieldDescriptor (TJx8e188 k).2.2.1 = some (tyJx8e188 k) := by decide +kernel
def RJ9 : String := "java/lang/Math"
def TJ9 : u_T := fun k => match k with
  | _ => ("", "", "", false)
def tyJ9 : Nat → FieldType := fun k => match k with
  | _ => .int
abbrev wsJ90 : List Cond := u_ws RJ9 TJ9 0
theorem nmJ9 : ∀ a, a < 0 → ∀ b, b < 0 → a ≠ b → (TJ9 a).2.1 ≠ (TJ9 b).2.1 := by decide +kernel
theorem tyJ9_ok : ∀ k, k < 0 → parseFieldDescriptor (TJ9 k).2.2.1 = some (tyJ9 k) := by decide +kernel
abbrev cJ9_max_f86c9 : ByteArray := prog_13_method_66_code
def yJ9_max_f86c9 : MethodName := ⟨RJ9, "max", "(JJ)J"⟩
abbrev cJ9_min_7cf53 : ByteArray := prog_13_method_69_code
def yJ9_min_7cf53 : MethodName := ⟨RJ9, "min", "(II)I"⟩
abbrev cJ9_min_f86c9 : ByteArray := prog_13_method_70_code
def yJ9_min_f86c9 : MethodName := ⟨RJ9, "min", "(JJ)J"⟩
def RJ10 : String := "java/lang/System"
def TJ10 : u_T := fun k => match k with
  | _ => ("", "", "", false)
def tyJ10 : Nat → FieldType := fun k => match k with
  | _ => .int
abbrev wsJ100 : List Cond := u_ws RJ10 TJ10 0
theorem nmJ10 : ∀ a, a < 0 → ∀ b, b < 0 → a ≠ b → (TJ10 a).2.1 ≠ (TJ10 b).2.1 := by decide +kernel
theorem tyJ10_ok : ∀ k, k < 0 → parseFieldDescriptor (TJ10 k).2.2.1 = some (tyJ10 k) := by decide +kernel
def RJ7 : String := "java/util/Arrays"
def TJ7 : u_T := fun k => match k with
  | _ => ("", "", "", false)
def tyJ7 : Nat → FieldType := fun k => match k with
  | _ => .int
abbrev wsJ70 : List Cond := u_ws RJ7 TJ7 0
theorem nmJ7 : ∀ a, a < 0 → ∀ b, b < 0 → a ≠ b → (TJ7 a).2.1 ≠ (TJ7 b).2.1 := by decide +kernel
theorem tyJ7_ok : ∀ k, k < 0 → parseFieldDescriptor (TJ7 k).2.2.1 = some (tyJ7 k) := by decide +kernel
abbrev cJ7_fill_53178 : ByteArray := prog_15_method_103_code
def yJ7_fill_53178 : MethodName := ⟨RJ7, "fill", "([II)V"⟩
abbrev cJ7_copyOf_59c91 : ByteArray := prog_15_method_123_code
def yJ7_copyOf_59c91 : MethodName := ⟨RJ7, "copyOf", "([II)[I"⟩
abbrev cJ7_copyOf_c38d5 : ByteArray := prog_15_method_124_code
def yJ7_copyOf_c38d5 : MethodName := ⟨RJ7, "copyOf", "([JI)[J"⟩
def RL : String := "FaceMapLaw"
abbrev cL_law : ByteArray := code
def yL_law : MethodName := ⟨RL, "law", "([I)Z"⟩
