section
-- ===== PART A: goes FIRST, ahead of the names: the tables' words, and 'selects' of the private methods out of them =====
/-- a private method of a class that the tables say can be made, by its rows of tables_1 -/
def lw_okq (q : MethodName × Nat) : Prop := (q.1.cls ≠ "java/lang/invoke/MethodHandle" ∧ q.1.cls ≠ "java/lang/invoke/VarHandle") ∧ Cond.instantiable q.1.cls q.2 ∈ tables_1 ∧ Cond.privateMethod q.1 ∈ tables_1 ∧ Cond.instanceMethod q.1 ∈ tables_1
theorem lw_p0 : lw_okq (⟨"FaceMap$Sweep", "makeRows", "(I)V"⟩, 8) := ⟨⟨by decide +kernel, by decide +kernel⟩, List.mem_of_getElem? (i := 71) (by decide +kernel), List.mem_of_getElem? (i := 81) (by decide +kernel), List.mem_of_getElem? (i := 82) (by decide +kernel)⟩
theorem lw_p1 : lw_okq (⟨"FaceMap$Faces", "makeRows", "(I)V"⟩, 11) := ⟨⟨by decide +kernel, by decide +kernel⟩, List.mem_of_getElem? (i := 112) (by decide +kernel), List.mem_of_getElem? (i := 119) (by decide +kernel), List.mem_of_getElem? (i := 120) (by decide +kernel)⟩
theorem lw_p2 : lw_okq (⟨"FaceMap$Faces", "clear", "()V"⟩, 11) := ⟨⟨by decide +kernel, by decide +kernel⟩, List.mem_of_getElem? (i := 112) (by decide +kernel), List.mem_of_getElem? (i := 123) (by decide +kernel), List.mem_of_getElem? (i := 124) (by decide +kernel)⟩
theorem lw_p3 : lw_okq (⟨"FaceMap$Faces", "addFace", "(II)I"⟩, 11) := ⟨⟨by decide +kernel, by decide +kernel⟩, List.mem_of_getElem? (i := 112) (by decide +kernel), List.mem_of_getElem? (i := 130) (by decide +kernel), List.mem_of_getElem? (i := 131) (by decide +kernel)⟩
theorem lw_p4 : lw_okq (⟨"FaceMap", "numberOf", "(IIII)I"⟩, 5) := ⟨⟨by decide +kernel, by decide +kernel⟩, List.mem_of_getElem? (i := 15) (by decide +kernel), List.mem_of_getElem? (i := 286) (by decide +kernel), List.mem_of_getElem? (i := 287) (by decide +kernel)⟩
theorem lw_p5 : lw_okq (⟨"FaceMap", "freshFaces", "()LFaceMap$Faces;"⟩, 5) := ⟨⟨by decide +kernel, by decide +kernel⟩, List.mem_of_getElem? (i := 15) (by decide +kernel), List.mem_of_getElem? (i := 303) (by decide +kernel), List.mem_of_getElem? (i := 304) (by decide +kernel)⟩
theorem lw_p6 : lw_okq (⟨"FaceMap$Sweep", "passNode", "(I)V"⟩, 8) := ⟨⟨by decide +kernel, by decide +kernel⟩, List.mem_of_getElem? (i := 71) (by decide +kernel), List.mem_of_getElem? (i := 311) (by decide +kernel), List.mem_of_getElem? (i := 312) (by decide +kernel)⟩
theorem lw_p7 : lw_okq (⟨"FaceMap$Sweep", "countBelow", "(J)I"⟩, 8) := ⟨⟨by decide +kernel, by decide +kernel⟩, List.mem_of_getElem? (i := 71) (by decide +kernel), List.mem_of_getElem? (i := 315) (by decide +kernel), List.mem_of_getElem? (i := 316) (by decide +kernel)⟩
theorem lw_p8 : lw_okq (⟨"FaceMap$Sweep", "gatherUps", "(J)I"⟩, 8) := ⟨⟨by decide +kernel, by decide +kernel⟩, List.mem_of_getElem? (i := 71) (by decide +kernel), List.mem_of_getElem? (i := 320) (by decide +kernel), List.mem_of_getElem? (i := 321) (by decide +kernel)⟩
theorem lw_p9 : lw_okq (⟨"FaceMap$Sweep", "countUnder", "(II)I"⟩, 8) := ⟨⟨by decide +kernel, by decide +kernel⟩, List.mem_of_getElem? (i := 71) (by decide +kernel), List.mem_of_getElem? (i := 324) (by decide +kernel), List.mem_of_getElem? (i := 325) (by decide +kernel)⟩
theorem lw_p10 : lw_okq (⟨"FaceMap$Sweep", "countEnding", "(IJ)I"⟩, 8) := ⟨⟨by decide +kernel, by decide +kernel⟩, List.mem_of_getElem? (i := 71) (by decide +kernel), List.mem_of_getElem? (i := 335) (by decide +kernel), List.mem_of_getElem? (i := 336) (by decide +kernel)⟩
theorem lw_p11 : lw_okq (⟨"FaceMap$Sweep", "linkAround", "(I)V"⟩, 8) := ⟨⟨by decide +kernel, by decide +kernel⟩, List.mem_of_getElem? (i := 71) (by decide +kernel), List.mem_of_getElem? (i := 342) (by decide +kernel), List.mem_of_getElem? (i := 343) (by decide +kernel)⟩
theorem lw_p12 : lw_okq (⟨"FaceMap$Sweep", "exchange", "(III)V"⟩, 8) := ⟨⟨by decide +kernel, by decide +kernel⟩, List.mem_of_getElem? (i := 71) (by decide +kernel), List.mem_of_getElem? (i := 349) (by decide +kernel), List.mem_of_getElem? (i := 350) (by decide +kernel)⟩
theorem lw_p13 : lw_okq (⟨"FaceMap$Faces", "takeRing", "(I)V"⟩, 11) := ⟨⟨by decide +kernel, by decide +kernel⟩, List.mem_of_getElem? (i := 112) (by decide +kernel), List.mem_of_getElem? (i := 357) (by decide +kernel), List.mem_of_getElem? (i := 358) (by decide +kernel)⟩
theorem lw_p14 : lw_okq (⟨"FaceMap$Faces", "areaOfRing", "(I)J"⟩, 11) := ⟨⟨by decide +kernel, by decide +kernel⟩, List.mem_of_getElem? (i := 112) (by decide +kernel), List.mem_of_getElem? (i := 363) (by decide +kernel), List.mem_of_getElem? (i := 364) (by decide +kernel)⟩
theorem lw_p15 : lw_okq (⟨"FaceMap$Faces", "markRing", "(II)I"⟩, 11) := ⟨⟨by decide +kernel, by decide +kernel⟩, List.mem_of_getElem? (i := 112) (by decide +kernel), List.mem_of_getElem? (i := 384) (by decide +kernel), List.mem_of_getElem? (i := 385) (by decide +kernel)⟩
def lw_privs_1 : List (MethodName × Nat) := [(⟨"FaceMap$Sweep", "makeRows", "(I)V"⟩, 8), (⟨"FaceMap$Faces", "makeRows", "(I)V"⟩, 11), (⟨"FaceMap$Faces", "clear", "()V"⟩, 11), (⟨"FaceMap$Faces", "addFace", "(II)I"⟩, 11), (⟨"FaceMap", "numberOf", "(IIII)I"⟩, 5), (⟨"FaceMap", "freshFaces", "()LFaceMap$Faces;"⟩, 5), (⟨"FaceMap$Sweep", "passNode", "(I)V"⟩, 8), (⟨"FaceMap$Sweep", "countBelow", "(J)I"⟩, 8), (⟨"FaceMap$Sweep", "gatherUps", "(J)I"⟩, 8), (⟨"FaceMap$Sweep", "countUnder", "(II)I"⟩, 8), (⟨"FaceMap$Sweep", "countEnding", "(IJ)I"⟩, 8), (⟨"FaceMap$Sweep", "linkAround", "(I)V"⟩, 8), (⟨"FaceMap$Sweep", "exchange", "(III)V"⟩, 8), (⟨"FaceMap$Faces", "takeRing", "(I)V"⟩, 11), (⟨"FaceMap$Faces", "areaOfRing", "(I)J"⟩, 11), (⟨"FaceMap$Faces", "markRing", "(II)I"⟩, 11)]
theorem lw_r1 : ∀ q ∈ lw_privs_1, lw_okq q := List.forall_mem_cons.mpr ⟨lw_p0, List.forall_mem_cons.mpr ⟨lw_p1, List.forall_mem_cons.mpr ⟨lw_p2, List.forall_mem_cons.mpr ⟨lw_p3, List.forall_mem_cons.mpr ⟨lw_p4, List.forall_mem_cons.mpr ⟨lw_p5, List.forall_mem_cons.mpr ⟨lw_p6, List.forall_mem_cons.mpr ⟨lw_p7, List.forall_mem_cons.mpr ⟨lw_p8, List.forall_mem_cons.mpr ⟨lw_p9, List.forall_mem_cons.mpr ⟨lw_p10, List.forall_mem_cons.mpr ⟨lw_p11, List.forall_mem_cons.mpr ⟨lw_p12, List.forall_mem_cons.mpr ⟨lw_p13, List.forall_mem_cons.mpr ⟨lw_p14, List.forall_mem_cons.mpr ⟨lw_p15, fun _ h => absurd h List.not_mem_nil⟩⟩⟩⟩⟩⟩⟩⟩⟩⟩⟩⟩⟩⟩⟩⟩
theorem lw_p16 : lw_okq (⟨"FaceMapModel", "from", "(IIII)I"⟩, 5) := ⟨⟨by decide +kernel, by decide +kernel⟩, List.mem_of_getElem? (i := 445) (by decide +kernel), List.mem_of_getElem? (i := 560) (by decide +kernel), List.mem_of_getElem? (i := 561) (by decide +kernel)⟩
theorem lw_p17 : lw_okq (⟨"FaceMapModel", "isAt", "(IIIII)Z"⟩, 5) := ⟨⟨by decide +kernel, by decide +kernel⟩, List.mem_of_getElem? (i := 445) (by decide +kernel), List.mem_of_getElem? (i := 564) (by decide +kernel), List.mem_of_getElem? (i := 565) (by decide +kernel)⟩
theorem lw_p18 : lw_okq (⟨"FaceMapModel", "isStray", "(IIIII)Z"⟩, 5) := ⟨⟨by decide +kernel, by decide +kernel⟩, List.mem_of_getElem? (i := 445) (by decide +kernel), List.mem_of_getElem? (i := 568) (by decide +kernel), List.mem_of_getElem? (i := 569) (by decide +kernel)⟩
theorem lw_p19 : lw_okq (⟨"FaceMapModel", "build", "()V"⟩, 5) := ⟨⟨by decide +kernel, by decide +kernel⟩, List.mem_of_getElem? (i := 445) (by decide +kernel), List.mem_of_getElem? (i := 598) (by decide +kernel), List.mem_of_getElem? (i := 599) (by decide +kernel)⟩
theorem lw_p20 : lw_okq (⟨"FaceMapModel$Places", "sink", "(II)V"⟩, 2) := ⟨⟨by decide +kernel, by decide +kernel⟩, List.mem_of_getElem? (i := 517) (by decide +kernel), List.mem_of_getElem? (i := 618) (by decide +kernel), List.mem_of_getElem? (i := 619) (by decide +kernel)⟩
theorem lw_p21 : lw_okq (⟨"FaceMapModel$Net", "sortOut", "()V"⟩, 17) := ⟨⟨by decide +kernel, by decide +kernel⟩, List.mem_of_getElem? (i := 451) (by decide +kernel), List.mem_of_getElem? (i := 643) (by decide +kernel), List.mem_of_getElem? (i := 644) (by decide +kernel)⟩
theorem lw_p22 : lw_okq (⟨"FaceMapModel$Net", "isBefore", "(II)Z"⟩, 17) := ⟨⟨by decide +kernel, by decide +kernel⟩, List.mem_of_getElem? (i := 451) (by decide +kernel), List.mem_of_getElem? (i := 651) (by decide +kernel), List.mem_of_getElem? (i := 652) (by decide +kernel)⟩
theorem lw_p23 : lw_okq (⟨"FaceMapModel$Net", "half", "(I)I"⟩, 17) := ⟨⟨by decide +kernel, by decide +kernel⟩, List.mem_of_getElem? (i := 451) (by decide +kernel), List.mem_of_getElem? (i := 655) (by decide +kernel), List.mem_of_getElem? (i := 656) (by decide +kernel)⟩
theorem lw_p24 : lw_okq (⟨"FaceMapModel$Net", "root", "(I)I"⟩, 17) := ⟨⟨by decide +kernel, by decide +kernel⟩, List.mem_of_getElem? (i := 451) (by decide +kernel), List.mem_of_getElem? (i := 664) (by decide +kernel), List.mem_of_getElem? (i := 665) (by decide +kernel)⟩
theorem lw_p25 : lw_okq (⟨"FaceMapModel$Net", "walk", "(I)V"⟩, 17) := ⟨⟨by decide +kernel, by decide +kernel⟩, List.mem_of_getElem? (i := 451) (by decide +kernel), List.mem_of_getElem? (i := 668) (by decide +kernel), List.mem_of_getElem? (i := 669) (by decide +kernel)⟩
theorem lw_p26 : lw_okq (⟨"FaceMapModel$Net", "isLess", "(II)Z"⟩, 17) := ⟨⟨by decide +kernel, by decide +kernel⟩, List.mem_of_getElem? (i := 451) (by decide +kernel), List.mem_of_getElem? (i := 672) (by decide +kernel), List.mem_of_getElem? (i := 673) (by decide +kernel)⟩
theorem lw_p27 : lw_okq (⟨"FaceMapModel$Net", "number", "()V"⟩, 17) := ⟨⟨by decide +kernel, by decide +kernel⟩, List.mem_of_getElem? (i := 451) (by decide +kernel), List.mem_of_getElem? (i := 684) (by decide +kernel), List.mem_of_getElem? (i := 685) (by decide +kernel)⟩
theorem lw_p28 : lw_okq (⟨"FaceMapModel$Net", "around", "(II)I"⟩, 17) := ⟨⟨by decide +kernel, by decide +kernel⟩, List.mem_of_getElem? (i := 451) (by decide +kernel), List.mem_of_getElem? (i := 688) (by decide +kernel), List.mem_of_getElem? (i := 689) (by decide +kernel)⟩
theorem lw_p29 : lw_okq (⟨"FaceMapModel", "isFace", "(I)Z"⟩, 5) := ⟨⟨by decide +kernel, by decide +kernel⟩, List.mem_of_getElem? (i := 445) (by decide +kernel), List.mem_of_getElem? (i := 725) (by decide +kernel), List.mem_of_getElem? (i := 726) (by decide +kernel)⟩
def lw_privs_2 : List (MethodName × Nat) := [(⟨"FaceMapModel", "from", "(IIII)I"⟩, 5), (⟨"FaceMapModel", "isAt", "(IIIII)Z"⟩, 5), (⟨"FaceMapModel", "isStray", "(IIIII)Z"⟩, 5), (⟨"FaceMapModel", "build", "()V"⟩, 5), (⟨"FaceMapModel$Places", "sink", "(II)V"⟩, 2), (⟨"FaceMapModel$Net", "sortOut", "()V"⟩, 17), (⟨"FaceMapModel$Net", "isBefore", "(II)Z"⟩, 17), (⟨"FaceMapModel$Net", "half", "(I)I"⟩, 17), (⟨"FaceMapModel$Net", "root", "(I)I"⟩, 17), (⟨"FaceMapModel$Net", "walk", "(I)V"⟩, 17), (⟨"FaceMapModel$Net", "isLess", "(II)Z"⟩, 17), (⟨"FaceMapModel$Net", "number", "()V"⟩, 17), (⟨"FaceMapModel$Net", "around", "(II)I"⟩, 17), (⟨"FaceMapModel", "isFace", "(I)Z"⟩, 5)]
theorem lw_r2 : ∀ q ∈ lw_privs_2, lw_okq q := List.forall_mem_cons.mpr ⟨lw_p16, List.forall_mem_cons.mpr ⟨lw_p17, List.forall_mem_cons.mpr ⟨lw_p18, List.forall_mem_cons.mpr ⟨lw_p19, List.forall_mem_cons.mpr ⟨lw_p20, List.forall_mem_cons.mpr ⟨lw_p21, List.forall_mem_cons.mpr ⟨lw_p22, List.forall_mem_cons.mpr ⟨lw_p23, List.forall_mem_cons.mpr ⟨lw_p24, List.forall_mem_cons.mpr ⟨lw_p25, List.forall_mem_cons.mpr ⟨lw_p26, List.forall_mem_cons.mpr ⟨lw_p27, List.forall_mem_cons.mpr ⟨lw_p28, List.forall_mem_cons.mpr ⟨lw_p29, fun _ h => absurd h List.not_mem_nil⟩⟩⟩⟩⟩⟩⟩⟩⟩⟩⟩⟩⟩⟩
def lw_privs : List (MethodName × Nat) := lw_privs_1 ++ (lw_privs_2)
def lw_tbl : List Cond := k2_sels lw_privs ++ tables_1
theorem lw_privs_ok : ∀ q ∈ lw_privs, lw_okq q := by
  show ∀ q ∈ lw_privs_1 ++ (lw_privs_2), lw_okq q
  exact List.forall_mem_append.mpr ⟨lw_r1, lw_r2⟩

theorem goodIn_r {big : List Cond} (ws : List Cond) (ps : List Nat) (hp : ws = ps.filterMap (fun i => big[i]?)) (h : ws.all goodWord = true) : GoodIn big ws := by
  intro w hw
  have h1 := List.all_eq_true.mp h w hw
  rw [hp] at hw
  obtain ⟨i, -, hi⟩ := List.mem_filterMap.mp hw
  have hm : w ∈ big := by first | exact List.mem_of_getElem? hi | exact List.getElem?_mem hi
  exact ⟨hm, good_of_word h1⟩
theorem goodIn_app {big a b : List Cond} (ha : GoodIn big a) (hb : GoodIn big b) : GoodIn big (a ++ b) := fun w h => (List.mem_append.mp h).elim (ha w) (hb w)
theorem goodIn_ca {big a b : List Cond} {c : Cond} (ha : GoodIn big (c :: a)) (hb : GoodIn big b) : GoodIn big (c :: (a ++ b)) := fun w h => (List.mem_cons.mp h).elim (fun e => ha w (List.mem_cons.mpr (Or.inl e))) (fun h => (List.mem_append.mp h).elim (fun h => ha w (List.mem_cons.mpr (Or.inr h))) (hb w))
theorem goodIn_sub {big ws : List Cond} (hm : ∀ w ∈ ws, w ∈ big) (h : ws.all goodWord = true) : GoodIn big ws := fun w hw => ⟨hm w hw, good_of_word (List.all_eq_true.mp h w hw)⟩
def RX0 : String := "FaceMap$Faces"
def TX0 : u_T := fun k => match k with
  | 0 => ("FaceMap$Faces", "pieces", "LFaceMap$Pieces;", true)
  | 1 => ("FaceMap$Faces", "nodes", "LFaceMap$Nodes;", true)
  | 2 => ("FaceMap$Faces", "sweep", "LFaceMap$Sweep;", true)
  | 3 => ("FaceMap$Faces", "leftOf", "[I", false)
  | 4 => ("FaceMap$Faces", "rings", "[I", false)
  | 5 => ("FaceMap$Faces", "ways", "[I", false)
  | 6 => ("FaceMap$Faces", "keyFrom", "[I", false)
  | 7 => ("FaceMap$Faces", "keyTo", "[I", false)
  | 8 => ("FaceMap$Faces", "area", "[J", false)
  | 9 => ("FaceMap$Faces", "size", "I", false)
  | _ => ("FaceMap$Faces", "parts", "I", false)
def tyX0 : Nat → FieldType := fun k => match k with
  | 0 => .object "FaceMap$Pieces"
  | 1 => .object "FaceMap$Nodes"
  | 2 => .object "FaceMap$Sweep"
  | 3 => .array .int
  | 4 => .array .int
  | 5 => .array .int
  | 6 => .array .int
  | 7 => .array .int
  | 8 => .array .long
  | 9 => .int
  | _ => .int
abbrev wsX00 : List Cond := u_ws RX0 TX0 11
theorem nmX0 : ∀ a, a < 11 → ∀ b, b < 11 → a ≠ b → (TX0 a).2.1 ≠ (TX0 b).2.1 := by decide +kernel
theorem tyX0_ok : ∀ k, k < 11 → parseFieldDescriptor (TX0 k).2.2.1 = some (tyX0 k) := by decide +kernel
abbrev cX0_init : ByteArray := prog_2_method_1_code
def yX0_init : MethodName := ⟨RX0, "<init>", "(LFaceMap$Pieces;LFaceMap$Nodes;LFaceMap$Sweep;)V"⟩
abbrev cX0_makeRows : ByteArray := prog_2_method_2_code
def yX0_makeRows : MethodName := ⟨RX0, "makeRows", "(I)V"⟩
abbrev cX0_clear : ByteArray := prog_2_method_3_code
def yX0_clear : MethodName := ⟨RX0, "clear", "()V"⟩
abbrev cX0_addFace : ByteArray := prog_2_method_4_code
def yX0_addFace : MethodName := ⟨RX0, "addFace", "(II)I"⟩
abbrev cX0_build : ByteArray := prog_2_method_5_code
def yX0_build : MethodName := ⟨RX0, "build", "()V"⟩
abbrev cX0_takeRing : ByteArray := prog_2_method_6_code
def yX0_takeRing : MethodName := ⟨RX0, "takeRing", "(I)V"⟩
abbrev cX0_areaOfRing : ByteArray := prog_2_method_7_code
def yX0_areaOfRing : MethodName := ⟨RX0, "areaOfRing", "(I)J"⟩
abbrev cX0_markRing : ByteArray := prog_2_method_8_code
def yX0_markRing : MethodName := ⟨RX0, "markRing", "(II)I"⟩
abbrev cX0_has : ByteArray := prog_2_method_9_code
def yX0_has : MethodName := ⟨RX0, "has", "(I)Z"⟩
abbrev cX0_above : ByteArray := prog_2_method_10_code
def yX0_above : MethodName := ⟨RX0, "above", "(I)I"⟩
abbrev cX0_piecesBetween : ByteArray := prog_2_method_11_code
def yX0_piecesBetween : MethodName := ⟨RX0, "piecesBetween", "(II)I"⟩
def RX1 : String := "FaceMap$Nodes"
def TX1 : u_T := fun k => match k with
  | 0 => ("FaceMap$Nodes", "at", "[J", false)
  | 1 => ("FaceMap$Nodes", "degree", "[I", false)
  | _ => ("FaceMap$Nodes", "size", "I", false)
def tyX1 : Nat → FieldType := fun k => match k with
  | 0 => .array .long
  | 1 => .array .int
  | _ => .int
abbrev wsX10 : List Cond := u_ws RX1 TX1 3
theorem nmX1 : ∀ a, a < 3 → ∀ b, b < 3 → a ≠ b → (TX1 a).2.1 ≠ (TX1 b).2.1 := by decide +kernel
theorem tyX1_ok : ∀ k, k < 3 → parseFieldDescriptor (TX1 k).2.2.1 = some (tyX1 k) := by decide +kernel
abbrev cX1_init : ByteArray := prog_3_method_1_code
def yX1_init : MethodName := ⟨RX1, "<init>", "()V"⟩
abbrev cX1_rank : ByteArray := prog_3_method_2_code
def yX1_rank : MethodName := ⟨RX1, "rank", "(J)I"⟩
abbrev cX1_isAt : ByteArray := prog_3_method_3_code
def yX1_isAt : MethodName := ⟨RX1, "isAt", "(IJ)Z"⟩
abbrev cX1_addEnd : ByteArray := prog_3_method_4_code
def yX1_addEnd : MethodName := ⟨RX1, "addEnd", "(J)V"⟩
abbrev cX1_insert : ByteArray := prog_3_method_5_code
def yX1_insert : MethodName := ⟨RX1, "insert", "(IJ)V"⟩
abbrev cX1_dropEnd : ByteArray := prog_3_method_6_code
def yX1_dropEnd : MethodName := ⟨RX1, "dropEnd", "(J)V"⟩
def RX2 : String := "FaceMap$Pieces"
def TX2 : u_T := fun k => match k with
  | 0 => ("FaceMap$Pieces", "low", "[J", false)
  | 1 => ("FaceMap$Pieces", "high", "[J", false)
  | _ => ("FaceMap$Pieces", "size", "I", false)
def tyX2 : Nat → FieldType := fun k => match k with
  | 0 => .array .long
  | 1 => .array .long
  | _ => .int
abbrev wsX20 : List Cond := u_ws RX2 TX2 3
theorem nmX2 : ∀ a, a < 3 → ∀ b, b < 3 → a ≠ b → (TX2 a).2.1 ≠ (TX2 b).2.1 := by decide +kernel
theorem tyX2_ok : ∀ k, k < 3 → parseFieldDescriptor (TX2 k).2.2.1 = some (tyX2 k) := by decide +kernel
abbrev cX2_init : ByteArray := prog_4_method_1_code
def yX2_init : MethodName := ⟨RX2, "<init>", "()V"⟩
abbrev cX2_room : ByteArray := prog_4_method_2_code
def yX2_room : MethodName := ⟨RX2, "room", "()I"⟩
abbrev cX2_rank : ByteArray := prog_4_method_3_code
def yX2_rank : MethodName := ⟨RX2, "rank", "(JJ)I"⟩
abbrev cX2_has : ByteArray := prog_4_method_4_code
def yX2_has : MethodName := ⟨RX2, "has", "(JJ)Z"⟩
abbrev cX2_clashWith : ByteArray := prog_4_method_5_code
def yX2_clashWith : MethodName := ⟨RX2, "clashWith", "(JJ)Z"⟩
abbrev cX2_add : ByteArray := prog_4_method_6_code
def yX2_add : MethodName := ⟨RX2, "add", "(JJ)V"⟩
abbrev cX2_remove : ByteArray := prog_4_method_7_code
def yX2_remove : MethodName := ⟨RX2, "remove", "(I)V"⟩
abbrev cX2_firstOn : ByteArray := prog_4_method_8_code
def yX2_firstOn : MethodName := ⟨RX2, "firstOn", "(J)I"⟩
abbrev cX2_nextBelow : ByteArray := prog_4_method_9_code
def yX2_nextBelow : MethodName := ⟨RX2, "nextBelow", "(J)I"⟩
abbrev cX2_isOver : ByteArray := prog_4_method_10_code
def yX2_isOver : MethodName := ⟨RX2, "isOver", "(II)Z"⟩
def RX3 : String := "FaceMap$Place"
def TX3 : u_T := fun k => match k with
  | _ => ("", "", "", false)
def tyX3 : Nat → FieldType := fun k => match k with
  | _ => .int
abbrev wsX30 : List Cond := u_ws RX3 TX3 0
theorem nmX3 : ∀ a, a < 0 → ∀ b, b < 0 → a ≠ b → (TX3 a).2.1 ≠ (TX3 b).2.1 := by decide +kernel
theorem tyX3_ok : ∀ k, k < 0 → parseFieldDescriptor (TX3 k).2.2.1 = some (tyX3 k) := by decide +kernel
abbrev cX3_inBounds : ByteArray := prog_5_method_2_code
def yX3_inBounds : MethodName := ⟨RX3, "inBounds", "(II)Z"⟩
abbrev cX3_of : ByteArray := prog_5_method_3_code
def yX3_of : MethodName := ⟨RX3, "of", "(II)J"⟩
abbrev cX3_x : ByteArray := prog_5_method_4_code
def yX3_x : MethodName := ⟨RX3, "x", "(J)I"⟩
abbrev cX3_y : ByteArray := prog_5_method_5_code
def yX3_y : MethodName := ⟨RX3, "y", "(J)I"⟩
abbrev cX3_side : ByteArray := prog_5_method_6_code
def yX3_side : MethodName := ⟨RX3, "side", "(JJJ)J"⟩
abbrev cX3_divides : ByteArray := prog_5_method_7_code
def yX3_divides : MethodName := ⟨RX3, "divides", "(JJJJ)Z"⟩
abbrev cX3_isInside : ByteArray := prog_5_method_8_code
def yX3_isInside : MethodName := ⟨RX3, "isInside", "(JJJ)Z"⟩
abbrev cX3_clash : ByteArray := prog_5_method_9_code
def yX3_clash : MethodName := ⟨RX3, "clash", "(JJJJ)Z"⟩
abbrev cX3_area : ByteArray := prog_5_method_10_code
def yX3_area : MethodName := ⟨RX3, "area", "(JJ)J"⟩
def RX4 : String := "FaceMap$Sweep"
def TX4 : u_T := fun k => match k with
  | 0 => ("FaceMap$Sweep", "pieces", "LFaceMap$Pieces;", true)
  | 1 => ("FaceMap$Sweep", "nodes", "LFaceMap$Nodes;", true)
  | 2 => ("FaceMap$Sweep", "begun", "I", false)
  | 3 => ("FaceMap$Sweep", "crossed", "[I", false)
  | 4 => ("FaceMap$Sweep", "crossedSize", "I", false)
  | 5 => ("FaceMap$Sweep", "around", "[I", false)
  | 6 => ("FaceMap$Sweep", "next", "[I", false)
  | _ => ("FaceMap$Sweep", "below", "[I", false)
def tyX4 : Nat → FieldType := fun k => match k with
  | 0 => .object "FaceMap$Pieces"
  | 1 => .object "FaceMap$Nodes"
  | 2 => .int
  | 3 => .array .int
  | 4 => .int
  | 5 => .array .int
  | 6 => .array .int
  | _ => .array .int
abbrev wsX40 : List Cond := u_ws RX4 TX4 8
theorem nmX4 : ∀ a, a < 8 → ∀ b, b < 8 → a ≠ b → (TX4 a).2.1 ≠ (TX4 b).2.1 := by decide +kernel
theorem tyX4_ok : ∀ k, k < 8 → parseFieldDescriptor (TX4 k).2.2.1 = some (tyX4 k) := by decide +kernel
abbrev cX4_init : ByteArray := prog_6_method_1_code
def yX4_init : MethodName := ⟨RX4, "<init>", "(LFaceMap$Pieces;LFaceMap$Nodes;)V"⟩
abbrev cX4_makeRows : ByteArray := prog_6_method_2_code
def yX4_makeRows : MethodName := ⟨RX4, "makeRows", "(I)V"⟩
abbrev cX4_build : ByteArray := prog_6_method_3_code
def yX4_build : MethodName := ⟨RX4, "build", "()V"⟩
abbrev cX4_passNode : ByteArray := prog_6_method_4_code
def yX4_passNode : MethodName := ⟨RX4, "passNode", "(I)V"⟩
abbrev cX4_countBelow : ByteArray := prog_6_method_5_code
def yX4_countBelow : MethodName := ⟨RX4, "countBelow", "(J)I"⟩
abbrev cX4_countEnding : ByteArray := prog_6_method_6_code
def yX4_countEnding : MethodName := ⟨RX4, "countEnding", "(IJ)I"⟩
abbrev cX4_gatherUps : ByteArray := prog_6_method_7_code
def yX4_gatherUps : MethodName := ⟨RX4, "gatherUps", "(J)I"⟩
abbrev cX4_countUnder : ByteArray := prog_6_method_8_code
def yX4_countUnder : MethodName := ⟨RX4, "countUnder", "(II)I"⟩
abbrev cX4_linkAround : ByteArray := prog_6_method_9_code
def yX4_linkAround : MethodName := ⟨RX4, "linkAround", "(I)V"⟩
abbrev cX4_exchange : ByteArray := prog_6_method_10_code
def yX4_exchange : MethodName := ⟨RX4, "exchange", "(III)V"⟩
def RX5 : String := "FaceMap$Way"
def TX5 : u_T := fun k => match k with
  | _ => ("", "", "", false)
def tyX5 : Nat → FieldType := fun k => match k with
  | _ => .int
abbrev wsX50 : List Cond := u_ws RX5 TX5 0
theorem nmX5 : ∀ a, a < 0 → ∀ b, b < 0 → a ≠ b → (TX5 a).2.1 ≠ (TX5 b).2.1 := by decide +kernel
theorem tyX5_ok : ∀ k, k < 0 → parseFieldDescriptor (TX5 k).2.2.1 = some (tyX5 k) := by decide +kernel
abbrev cX5_up : ByteArray := prog_7_method_2_code
def yX5_up : MethodName := ⟨RX5, "up", "(I)I"⟩
abbrev cX5_down : ByteArray := prog_7_method_3_code
def yX5_down : MethodName := ⟨RX5, "down", "(I)I"⟩
abbrev cX5_back : ByteArray := prog_7_method_4_code
def yX5_back : MethodName := ⟨RX5, "back", "(I)I"⟩
abbrev cX5_pieceOf : ByteArray := prog_7_method_5_code
def yX5_pieceOf : MethodName := ⟨RX5, "pieceOf", "(I)I"⟩
abbrev cX5_isUp : ByteArray := prog_7_method_6_code
def yX5_isUp : MethodName := ⟨RX5, "isUp", "(I)Z"⟩
def RX6 : String := "FaceMap"
def TX6 : u_T := fun k => match k with
  | 0 => ("FaceMap", "pieces", "LFaceMap$Pieces;", true)
  | 1 => ("FaceMap", "nodes", "LFaceMap$Nodes;", true)
  | 2 => ("FaceMap", "sweep", "LFaceMap$Sweep;", true)
  | 3 => ("FaceMap", "faces", "LFaceMap$Faces;", true)
  | _ => ("FaceMap", "facesAreOld", "Z", false)
def tyX6 : Nat → FieldType := fun k => match k with
  | 0 => .object "FaceMap$Pieces"
  | 1 => .object "FaceMap$Nodes"
  | 2 => .object "FaceMap$Sweep"
  | 3 => .object "FaceMap$Faces"
  | _ => .boolean
abbrev wsX60 : List Cond := u_ws RX6 TX6 5
theorem nmX6 : ∀ a, a < 5 → ∀ b, b < 5 → a ≠ b → (TX6 a).2.1 ≠ (TX6 b).2.1 := by decide +kernel
theorem tyX6_ok : ∀ k, k < 5 → parseFieldDescriptor (TX6 k).2.2.1 = some (tyX6 k) := by decide +kernel
abbrev cX6_init : ByteArray := prog_1_method_1_code
def yX6_init : MethodName := ⟨RX6, "<init>", "()V"⟩
abbrev cX6_join : ByteArray := prog_1_method_2_code
def yX6_join : MethodName := ⟨RX6, "join", "(IIII)I"⟩
abbrev cX6_cut : ByteArray := prog_1_method_3_code
def yX6_cut : MethodName := ⟨RX6, "cut", "(IIII)Z"⟩
abbrev cX6_count : ByteArray := prog_1_method_4_code
def yX6_count : MethodName := ⟨RX6, "count", "(I)I"⟩
abbrev cX6_node : ByteArray := prog_1_method_5_code
def yX6_node : MethodName := ⟨RX6, "node", "(II)I"⟩
abbrev cX6_piece : ByteArray := prog_1_method_6_code
def yX6_piece : MethodName := ⟨RX6, "piece", "(II)I"⟩
abbrev cX6_left : ByteArray := prog_1_method_7_code
def yX6_left : MethodName := ⟨RX6, "left", "(IIII)I"⟩
abbrev cX6_face : ByteArray := prog_1_method_8_code
def yX6_face : MethodName := ⟨RX6, "face", "(II)I"⟩
abbrev cX6_area2 : ByteArray := prog_1_method_9_code
def yX6_area2 : MethodName := ⟨RX6, "area2", "(I)J"⟩
abbrev cX6_locate : ByteArray := prog_1_method_10_code
def yX6_locate : MethodName := ⟨RX6, "locate", "(II)I"⟩
abbrev cX6_between : ByteArray := prog_1_method_11_code
def yX6_between : MethodName := ⟨RX6, "between", "(II)I"⟩
abbrev cX6_numberOf : ByteArray := prog_1_method_12_code
def yX6_numberOf : MethodName := ⟨RX6, "numberOf", "(IIII)I"⟩
abbrev cX6_freshFaces : ByteArray := prog_1_method_13_code
def yX6_freshFaces : MethodName := ⟨RX6, "freshFaces", "()LFaceMap$Faces;"⟩
def RX7 : String := "FaceMapModel$Net"
def TX7 : u_T := fun k => match k with
  | 0 => ("FaceMapModel$Net", "x", "[I", false)
  | 1 => ("FaceMapModel$Net", "y", "[I", false)
  | 2 => ("FaceMapModel$Net", "nodes", "I", false)
  | 3 => ("FaceMapModel$Net", "low", "[I", false)
  | 4 => ("FaceMapModel$Net", "high", "[I", false)
  | 5 => ("FaceMapModel$Net", "pieces", "I", false)
  | 6 => ("FaceMapModel$Net", "begins", "[I", false)
  | 7 => ("FaceMapModel$Net", "out", "[I", false)
  | 8 => ("FaceMapModel$Net", "rank", "[I", false)
  | 9 => ("FaceMapModel$Net", "round", "[I", false)
  | 10 => ("FaceMapModel$Net", "area", "[J", false)
  | 11 => ("FaceMapModel$Net", "least", "[I", false)
  | 12 => ("FaceMapModel$Net", "faceOf", "[I", false)
  | 13 => ("FaceMapModel$Net", "rounds", "I", false)
  | 14 => ("FaceMapModel$Net", "part", "[I", false)
  | 15 => ("FaceMapModel$Net", "faces", "I", false)
  | _ => ("FaceMapModel$Net", "odd", "[Z", false)
def tyX7 : Nat → FieldType := fun k => match k with
  | 0 => .array .int
  | 1 => .array .int
  | 2 => .int
  | 3 => .array .int
  | 4 => .array .int
  | 5 => .int
  | 6 => .array .int
  | 7 => .array .int
  | 8 => .array .int
  | 9 => .array .int
  | 10 => .array .long
  | 11 => .array .int
  | 12 => .array .int
  | 13 => .int
  | 14 => .array .int
  | 15 => .int
  | _ => .array .boolean
abbrev wsX70 : List Cond := u_ws RX7 TX7 17
theorem nmX7 : ∀ a, a < 17 → ∀ b, b < 17 → a ≠ b → (TX7 a).2.1 ≠ (TX7 b).2.1 := by decide +kernel
theorem tyX7_ok : ∀ k, k < 17 → parseFieldDescriptor (TX7 k).2.2.1 = some (tyX7 k) := by decide +kernel
abbrev cX7_init : ByteArray := prog_10_method_1_code
def yX7_init : MethodName := ⟨RX7, "<init>", "()V"⟩
abbrev cX7_room : ByteArray := prog_10_method_2_code
def yX7_room : MethodName := ⟨RX7, "room", "(II)V"⟩
abbrev cX7_start : ByteArray := prog_10_method_3_code
def yX7_start : MethodName := ⟨RX7, "start", "(I)I"⟩
abbrev cX7_end : ByteArray := prog_10_method_4_code
def yX7_end : MethodName := ⟨RX7, "end", "(I)I"⟩
abbrev cX7_half : ByteArray := prog_10_method_5_code
def yX7_half : MethodName := ⟨RX7, "half", "(I)I"⟩
abbrev cX7_isBefore : ByteArray := prog_10_method_6_code
def yX7_isBefore : MethodName := ⟨RX7, "isBefore", "(II)Z"⟩
abbrev cX7_sortOut : ByteArray := prog_10_method_7_code
def yX7_sortOut : MethodName := ⟨RX7, "sortOut", "()V"⟩
abbrev cX7_degree : ByteArray := prog_10_method_8_code
def yX7_degree : MethodName := ⟨RX7, "degree", "(I)I"⟩
abbrev cX7_clockwise : ByteArray := prog_10_method_9_code
def yX7_clockwise : MethodName := ⟨RX7, "clockwise", "(I)I"⟩
abbrev cX7_next : ByteArray := prog_10_method_10_code
def yX7_next : MethodName := ⟨RX7, "next", "(I)I"⟩
abbrev cX7_root : ByteArray := prog_10_method_11_code
def yX7_root : MethodName := ⟨RX7, "root", "(I)I"⟩
abbrev cX7_build : ByteArray := prog_10_method_12_code
def yX7_build : MethodName := ⟨RX7, "build", "()V"⟩
abbrev cX7_isLess : ByteArray := prog_10_method_13_code
def yX7_isLess : MethodName := ⟨RX7, "isLess", "(II)Z"⟩
abbrev cX7_walk : ByteArray := prog_10_method_14_code
def yX7_walk : MethodName := ⟨RX7, "walk", "(I)V"⟩
abbrev cX7_number : ByteArray := prog_10_method_15_code
def yX7_number : MethodName := ⟨RX7, "number", "()V"⟩
abbrev cX7_around : ByteArray := prog_10_method_16_code
def yX7_around : MethodName := ⟨RX7, "around", "(II)I"⟩
abbrev cX7_inside : ByteArray := prog_10_method_17_code
def yX7_inside : MethodName := ⟨RX7, "inside", "(JJI)I"⟩
abbrev cX7_face : ByteArray := prog_10_method_18_code
def yX7_face : MethodName := ⟨RX7, "face", "(I)I"⟩
abbrev cX7_ringsOf : ByteArray := prog_10_method_19_code
def yX7_ringsOf : MethodName := ⟨RX7, "ringsOf", "(I)I"⟩
abbrev cX7_waysOf : ByteArray := prog_10_method_20_code
def yX7_waysOf : MethodName := ⟨RX7, "waysOf", "(I)I"⟩
abbrev cX7_keyOf : ByteArray := prog_10_method_21_code
def yX7_keyOf : MethodName := ⟨RX7, "keyOf", "(I)I"⟩
abbrev cX7_parts : ByteArray := prog_10_method_22_code
def yX7_parts : MethodName := ⟨RX7, "parts", "()I"⟩
abbrev cX7_areaOf : ByteArray := prog_10_method_23_code
def yX7_areaOf : MethodName := ⟨RX7, "areaOf", "(I)J"⟩
def RX8 : String := "FaceMapModel$Places"
def TX8 : u_T := fun k => match k with
  | 0 => ("FaceMapModel$Places", "row", "[J", false)
  | _ => ("FaceMapModel$Places", "size", "I", false)
def tyX8 : Nat → FieldType := fun k => match k with
  | 0 => .array .long
  | _ => .int
abbrev wsX80 : List Cond := u_ws RX8 TX8 2
theorem nmX8 : ∀ a, a < 2 → ∀ b, b < 2 → a ≠ b → (TX8 a).2.1 ≠ (TX8 b).2.1 := by decide +kernel
theorem tyX8_ok : ∀ k, k < 2 → parseFieldDescriptor (TX8 k).2.2.1 = some (tyX8 k) := by decide +kernel
abbrev cX8_init : ByteArray := prog_11_method_1_code
def yX8_init : MethodName := ⟨RX8, "<init>", "()V"⟩
abbrev cX8_clear : ByteArray := prog_11_method_2_code
def yX8_clear : MethodName := ⟨RX8, "clear", "()V"⟩
abbrev cX8_keyOf : ByteArray := prog_11_method_3_code
def yX8_keyOf : MethodName := ⟨RX8, "keyOf", "(II)J"⟩
abbrev cX8_add : ByteArray := prog_11_method_4_code
def yX8_add : MethodName := ⟨RX8, "add", "(II)V"⟩
abbrev cX8_x : ByteArray := prog_11_method_5_code
def yX8_x : MethodName := ⟨RX8, "x", "(I)I"⟩
abbrev cX8_y : ByteArray := prog_11_method_6_code
def yX8_y : MethodName := ⟨RX8, "y", "(I)I"⟩
abbrev cX8_sort : ByteArray := prog_11_method_7_code
def yX8_sort : MethodName := ⟨RX8, "sort", "()V"⟩
abbrev cX8_sink : ByteArray := prog_11_method_8_code
def yX8_sink : MethodName := ⟨RX8, "sink", "(II)V"⟩
abbrev cX8_find : ByteArray := prog_11_method_9_code
def yX8_find : MethodName := ⟨RX8, "find", "(II)I"⟩
def RX9 : String := "FaceMapModel"
def TX9 : u_T := fun k => match k with
  | 0 => ("FaceMapModel", "ends", "[I", true)
  | 1 => ("FaceMapModel", "count", "I", false)
  | 2 => ("FaceMapModel", "net", "LFaceMapModel$Net;", true)
  | 3 => ("FaceMapModel", "nodes", "LFaceMapModel$Places;", true)
  | _ => ("FaceMapModel", "isBuilt", "Z", false)
def tyX9 : Nat → FieldType := fun k => match k with
  | 0 => .array .int
  | 1 => .int
  | 2 => .object "FaceMapModel$Net"
  | 3 => .object "FaceMapModel$Places"
  | _ => .boolean
abbrev wsX90 : List Cond := u_ws RX9 TX9 5
theorem nmX9 : ∀ a, a < 5 → ∀ b, b < 5 → a ≠ b → (TX9 a).2.1 ≠ (TX9 b).2.1 := by decide +kernel
theorem tyX9_ok : ∀ k, k < 5 → parseFieldDescriptor (TX9 k).2.2.1 = some (tyX9 k) := by decide +kernel
abbrev cX9_side : ByteArray := prog_9_method_1_code
def yX9_side : MethodName := ⟨RX9, "side", "(JJJJJJ)J"⟩
abbrev cX9_sign : ByteArray := prog_9_method_2_code
def yX9_sign : MethodName := ⟨RX9, "sign", "(J)I"⟩
abbrev cX9_isBetween : ByteArray := prog_9_method_3_code
def yX9_isBetween : MethodName := ⟨RX9, "isBetween", "(JJJJJJ)Z"⟩
abbrev cX9_isOn : ByteArray := prog_9_method_4_code
def yX9_isOn : MethodName := ⟨RX9, "isOn", "(JJJJJJ)Z"⟩
abbrev cX9_meeting : ByteArray := prog_9_method_5_code
def yX9_meeting : MethodName := ⟨RX9, "meeting", "(JJJJJJJJ)I"⟩
abbrev cX9_straight : ByteArray := prog_9_method_6_code
def yX9_straight : MethodName := ⟨RX9, "straight", "(JJJJJJJJ)I"⟩
abbrev cX9_init : ByteArray := prog_9_method_7_code
def yX9_init : MethodName := ⟨RX9, "<init>", "()V"⟩
abbrev cX9_isIn : ByteArray := prog_9_method_9_code
def yX9_isIn : MethodName := ⟨RX9, "isIn", "(II)Z"⟩
abbrev cX9_compare : ByteArray := prog_9_method_10_code
def yX9_compare : MethodName := ⟨RX9, "compare", "(IIII)I"⟩
abbrev cX9_from : ByteArray := prog_9_method_11_code
def yX9_from : MethodName := ⟨RX9, "from", "(IIII)I"⟩
abbrev cX9_isAt : ByteArray := prog_9_method_12_code
def yX9_isAt : MethodName := ⟨RX9, "isAt", "(IIIII)Z"⟩
abbrev cX9_isStray : ByteArray := prog_9_method_13_code
def yX9_isStray : MethodName := ⟨RX9, "isStray", "(IIIII)Z"⟩
abbrev cX9_join : ByteArray := prog_9_method_14_code
def yX9_join : MethodName := ⟨RX9, "join", "(IIII)I"⟩
abbrev cX9_cut : ByteArray := prog_9_method_15_code
def yX9_cut : MethodName := ⟨RX9, "cut", "(IIII)Z"⟩
abbrev cX9_build : ByteArray := prog_9_method_16_code
def yX9_build : MethodName := ⟨RX9, "build", "()V"⟩
abbrev cX9_count : ByteArray := prog_9_method_17_code
def yX9_count : MethodName := ⟨RX9, "count", "(I)I"⟩
abbrev cX9_node : ByteArray := prog_9_method_18_code
def yX9_node : MethodName := ⟨RX9, "node", "(II)I"⟩
abbrev cX9_piece : ByteArray := prog_9_method_19_code
def yX9_piece : MethodName := ⟨RX9, "piece", "(II)I"⟩
abbrev cX9_left : ByteArray := prog_9_method_20_code
def yX9_left : MethodName := ⟨RX9, "left", "(IIII)I"⟩
abbrev cX9_isFace : ByteArray := prog_9_method_21_code
def yX9_isFace : MethodName := ⟨RX9, "isFace", "(I)Z"⟩
abbrev cX9_face : ByteArray := prog_9_method_22_code
def yX9_face : MethodName := ⟨RX9, "face", "(II)I"⟩
abbrev cX9_area2 : ByteArray := prog_9_method_23_code
def yX9_area2 : MethodName := ⟨RX9, "area2", "(I)J"⟩
abbrev cX9_locate : ByteArray := prog_9_method_24_code
def yX9_locate : MethodName := ⟨RX9, "locate", "(II)I"⟩
abbrev cX9_between : ByteArray := prog_9_method_25_code
def yX9_between : MethodName := ⟨RX9, "between", "(II)I"⟩
def RJx8e188 : String := "java/lang/Cloneable"
def TJx8e188 : u_T := fun k => match k with
  | _ => ("", "", "", false)
def tyJx8e188 : Nat → FieldType := fun k => match k with
  | _ => .int
abbrev wsJx8e1880 : List Cond := u_ws RJx8e188 TJx8e188 0
theorem nmJx8e188 : ∀ a, a < 0 → ∀ b, b < 0 → a ≠ b → (TJx8e188 a).2.1 ≠ (TJx8e188 b).2.1 := by decide +kernel
theorem tyJx8e188_ok : ∀ k, k < 0 → parseFieldDescriptor (TJx8e188 k).2.2.1 = some (tyJx8e188 k) := by decide +kernel
def RJ9 : String := "java/lang/Math"
def TJ9 : u_T := fun k => match k with
  | _ => ("", "", "", false)
def tyJ9 : Nat → FieldType := fun k => match k with
  | _ => .int
abbrev wsJ90 : List Cond := u_ws RJ9 TJ9 0
theorem nmJ9 : ∀ a, a < 0 → ∀ b, b < 0 → a ≠ b → (TJ9 a).2.1 ≠ (TJ9 b).2.1 := by decide +kernel
theorem tyJ9_ok : ∀ k, k < 0 → parseFieldDescriptor (TJ9 k).2.2.1 = some (tyJ9 k) := by decide +kernel
abbrev cJ9_max_f86c9 : ByteArray := prog_13_method_66_code
def yJ9_max_f86c9 : MethodName := ⟨RJ9, "max", "(JJ)J"⟩
abbrev cJ9_min_7cf53 : ByteArray := prog_13_method_69_code
def yJ9_min_7cf53 : MethodName := ⟨RJ9, "min", "(II)I"⟩
abbrev cJ9_min_f86c9 : ByteArray := prog_13_method_70_code
def yJ9_min_f86c9 : MethodName := ⟨RJ9, "min", "(JJ)J"⟩
def RJ10 : String := "java/lang/System"
def TJ10 : u_T := fun k => match k with
  | _ => ("", "", "", false)
def tyJ10 : Nat → FieldType := fun k => match k with
  | _ => .int
abbrev wsJ100 : List Cond := u_ws RJ10 TJ10 0
theorem nmJ10 : ∀ a, a < 0 → ∀ b, b < 0 → a ≠ b → (TJ10 a).2.1 ≠ (TJ10 b).2.1 := by decide +kernel
theorem tyJ10_ok : ∀ k, k < 0 → parseFieldDescriptor (TJ10 k).2.2.1 = some (tyJ10 k) := by decide +kernel
def RJ7 : String := "java/util/Arrays"
def TJ7 : u_T := fun k => match k with
  | _ => ("", "", "", false)
def tyJ7 : Nat → FieldType := fun k => match k with
  | _ => .int
abbrev wsJ70 : List Cond := u_ws RJ7 TJ7 0
theorem nmJ7 : ∀ a, a < 0 → ∀ b, b < 0 → a ≠ b → (TJ7 a).2.1 ≠ (TJ7 b).2.1 := by decide +kernel
theorem tyJ7_ok : ∀ k, k < 0 → parseFieldDescriptor (TJ7 k).2.2.1 = some (tyJ7 k) := by decide +kernel
abbrev cJ7_fill_53178 : ByteArray := prog_15_method_103_code
def yJ7_fill_53178 : MethodName := ⟨RJ7, "fill", "([II)V"⟩
abbrev cJ7_copyOf_59c91 : ByteArray := prog_15_method_123_code
def yJ7_copyOf_59c91 : MethodName := ⟨RJ7, "copyOf", "([II)[I"⟩
abbrev cJ7_copyOf_c38d5 : ByteArray := prog_15_method_124_code
def yJ7_copyOf_c38d5 : MethodName := ⟨RJ7, "copyOf", "([JI)[J"⟩
def RL : String := "FaceMapLaw"
abbrev cL_law : ByteArray := code
def yL_law : MethodName := ⟨RL, "law", "([I)Z"⟩
end
section
theorem dX0_init_0 : decode cX0_init 0 = .ok (.aload_n 0, 1) := by decide +kernel
theorem dX0_init_1 : decode cX0_init 1 = .ok (.invokespecial 1, 3) := by decide +kernel
theorem dX0_init_4 : decode cX0_init 4 = .ok (.aload_n 0, 1) := by decide +kernel
theorem dX0_init_5 : decode cX0_init 5 = .ok (.aload_n 1, 1) := by decide +kernel
theorem dX0_init_6 : decode cX0_init 6 = .ok (.putfield 7, 3) := by decide +kernel
theorem dX0_init_9 : decode cX0_init 9 = .ok (.aload_n 0, 1) := by decide +kernel
theorem dX0_init_10 : decode cX0_init 10 = .ok (.aload_n 2, 1) := by decide +kernel
theorem dX0_init_11 : decode cX0_init 11 = .ok (.putfield 13, 3) := by decide +kernel
theorem dX0_init_14 : decode cX0_init 14 = .ok (.aload_n 0, 1) := by decide +kernel
theorem dX0_init_15 : decode cX0_init 15 = .ok (.aload_n 3, 1) := by decide +kernel
theorem dX0_init_16 : decode cX0_init 16 = .ok (.putfield 17, 3) := by decide +kernel
theorem dX0_init_19 : decode cX0_init 19 = .ok (.aload_n 0, 1) := by decide +kernel
theorem dX0_init_20 : decode cX0_init 20 = .ok (.aload_n 1, 1) := by decide +kernel
theorem dX0_init_21 : decode cX0_init 21 = .ok (.invokevirtual 21, 3) := by decide +kernel
theorem dX0_init_24 : decode cX0_init 24 = .ok (.invokevirtual 27, 3) := by decide +kernel
theorem dX0_init_27 : decode cX0_init 27 = .ok (.aload_n 0, 1) := by decide +kernel
theorem dX0_init_28 : decode cX0_init 28 = .ok (.invokevirtual 31, 3) := by decide +kernel
theorem dX0_init_31 : decode cX0_init 31 = .ok (.return_, 1) := by decide +kernel
theorem dX0_makeRows_0 : decode cX0_makeRows 0 = .ok (.aload_n 0, 1) := by decide +kernel
theorem dX0_makeRows_1 : decode cX0_makeRows 1 = .ok (.iconst 2, 1) := by decide +kernel
theorem dX0_makeRows_2 : decode cX0_makeRows 2 = .ok (.iload_n 1, 1) := by decide +kernel
theorem dX0_makeRows_3 : decode cX0_makeRows 3 = .ok (.imul, 1) := by decide +kernel
theorem dX0_makeRows_4 : decode cX0_makeRows 4 = .ok (.newarray .int, 2) := by decide +kernel
theorem dX0_makeRows_6 : decode cX0_makeRows 6 = .ok (.putfield 34, 3) := by decide +kernel
theorem dX0_makeRows_9 : decode cX0_makeRows 9 = .ok (.aload_n 0, 1) := by decide +kernel
theorem dX0_makeRows_10 : decode cX0_makeRows 10 = .ok (.iload_n 1, 1) := by decide +kernel
theorem dX0_makeRows_11 : decode cX0_makeRows 11 = .ok (.iconst 1, 1) := by decide +kernel
theorem dX0_makeRows_12 : decode cX0_makeRows 12 = .ok (.iadd, 1) := by decide +kernel
theorem dX0_makeRows_13 : decode cX0_makeRows 13 = .ok (.newarray .int, 2) := by decide +kernel
theorem dX0_makeRows_15 : decode cX0_makeRows 15 = .ok (.putfield 38, 3) := by decide +kernel
theorem dX0_makeRows_18 : decode cX0_makeRows 18 = .ok (.aload_n 0, 1) := by decide +kernel
theorem dX0_makeRows_19 : decode cX0_makeRows 19 = .ok (.iload_n 1, 1) := by decide +kernel
theorem dX0_makeRows_20 : decode cX0_makeRows 20 = .ok (.iconst 1, 1) := by decide +kernel
theorem dX0_makeRows_21 : decode cX0_makeRows 21 = .ok (.iadd, 1) := by decide +kernel
theorem dX0_makeRows_22 : decode cX0_makeRows 22 = .ok (.newarray .int, 2) := by decide +kernel
theorem dX0_makeRows_24 : decode cX0_makeRows 24 = .ok (.putfield 41, 3) := by decide +kernel
theorem dX0_makeRows_27 : decode cX0_makeRows 27 = .ok (.aload_n 0, 1) := by decide +kernel
theorem dX0_makeRows_28 : decode cX0_makeRows 28 = .ok (.iload_n 1, 1) := by decide +kernel
theorem dX0_makeRows_29 : decode cX0_makeRows 29 = .ok (.iconst 1, 1) := by decide +kernel
theorem dX0_makeRows_30 : decode cX0_makeRows 30 = .ok (.iadd, 1) := by decide +kernel
theorem dX0_makeRows_31 : decode cX0_makeRows 31 = .ok (.newarray .int, 2) := by decide +kernel
theorem dX0_makeRows_33 : decode cX0_makeRows 33 = .ok (.putfield 44, 3) := by decide +kernel
theorem dX0_makeRows_36 : decode cX0_makeRows 36 = .ok (.aload_n 0, 1) := by decide +kernel
theorem dX0_makeRows_37 : decode cX0_makeRows 37 = .ok (.iload_n 1, 1) := by decide +kernel
theorem dX0_makeRows_38 : decode cX0_makeRows 38 = .ok (.iconst 1, 1) := by decide +kernel
theorem dX0_makeRows_39 : decode cX0_makeRows 39 = .ok (.iadd, 1) := by decide +kernel
theorem dX0_makeRows_40 : decode cX0_makeRows 40 = .ok (.newarray .int, 2) := by decide +kernel
theorem dX0_makeRows_42 : decode cX0_makeRows 42 = .ok (.putfield 47, 3) := by decide +kernel
theorem dX0_makeRows_45 : decode cX0_makeRows 45 = .ok (.aload_n 0, 1) := by decide +kernel
theorem dX0_makeRows_46 : decode cX0_makeRows 46 = .ok (.iload_n 1, 1) := by decide +kernel
theorem dX0_makeRows_47 : decode cX0_makeRows 47 = .ok (.iconst 1, 1) := by decide +kernel
theorem dX0_makeRows_48 : decode cX0_makeRows 48 = .ok (.iadd, 1) := by decide +kernel
theorem dX0_makeRows_49 : decode cX0_makeRows 49 = .ok (.newarray .long, 2) := by decide +kernel
theorem dX0_makeRows_51 : decode cX0_makeRows 51 = .ok (.putfield 50, 3) := by decide +kernel
theorem dX0_makeRows_54 : decode cX0_makeRows 54 = .ok (.return_, 1) := by decide +kernel
theorem dX0_clear_0 : decode cX0_clear 0 = .ok (.aload_n 0, 1) := by decide +kernel
theorem dX0_clear_1 : decode cX0_clear 1 = .ok (.getfield 34, 3) := by decide +kernel
theorem dX0_clear_4 : decode cX0_clear 4 = .ok (.iconst (-1), 1) := by decide +kernel
theorem dX0_clear_5 : decode cX0_clear 5 = .ok (.invokestatic 54, 3) := by decide +kernel
theorem dX0_clear_8 : decode cX0_clear 8 = .ok (.aload_n 0, 1) := by decide +kernel
theorem dX0_clear_9 : decode cX0_clear 9 = .ok (.iconst 0, 1) := by decide +kernel
theorem dX0_clear_10 : decode cX0_clear 10 = .ok (.putfield 60, 3) := by decide +kernel
theorem dX0_clear_13 : decode cX0_clear 13 = .ok (.aload_n 0, 1) := by decide +kernel
theorem dX0_clear_14 : decode cX0_clear 14 = .ok (.iconst 0, 1) := by decide +kernel
theorem dX0_clear_15 : decode cX0_clear 15 = .ok (.putfield 64, 3) := by decide +kernel
theorem dX0_clear_18 : decode cX0_clear 18 = .ok (.aload_n 0, 1) := by decide +kernel
theorem dX0_clear_19 : decode cX0_clear 19 = .ok (.iconst (-1), 1) := by decide +kernel
theorem dX0_clear_20 : decode cX0_clear 20 = .ok (.iconst (-1), 1) := by decide +kernel
theorem dX0_clear_21 : decode cX0_clear 21 = .ok (.invokevirtual 67, 3) := by decide +kernel
theorem dX0_clear_24 : decode cX0_clear 24 = .ok (.pop, 1) := by decide +kernel
theorem dX0_clear_25 : decode cX0_clear 25 = .ok (.return_, 1) := by decide +kernel
theorem dX0_addFace_0 : decode cX0_addFace 0 = .ok (.aload_n 0, 1) := by decide +kernel
theorem dX0_addFace_1 : decode cX0_addFace 1 = .ok (.getfield 60, 3) := by decide +kernel
theorem dX0_addFace_4 : decode cX0_addFace 4 = .ok (.istore_n 3, 1) := by decide +kernel
theorem dX0_addFace_5 : decode cX0_addFace 5 = .ok (.aload_n 0, 1) := by decide +kernel
theorem dX0_addFace_6 : decode cX0_addFace 6 = .ok (.getfield 38, 3) := by decide +kernel
theorem dX0_addFace_9 : decode cX0_addFace 9 = .ok (.iload_n 3, 1) := by decide +kernel
theorem dX0_addFace_10 : decode cX0_addFace 10 = .ok (.iconst 0, 1) := by decide +kernel
theorem dX0_addFace_11 : decode cX0_addFace 11 = .ok (.iastore, 1) := by decide +kernel
theorem dX0_addFace_12 : decode cX0_addFace 12 = .ok (.aload_n 0, 1) := by decide +kernel
theorem dX0_addFace_13 : decode cX0_addFace 13 = .ok (.getfield 41, 3) := by decide +kernel
theorem dX0_addFace_16 : decode cX0_addFace 16 = .ok (.iload_n 3, 1) := by decide +kernel
theorem dX0_addFace_17 : decode cX0_addFace 17 = .ok (.iconst 0, 1) := by decide +kernel
theorem dX0_addFace_18 : decode cX0_addFace 18 = .ok (.iastore, 1) := by decide +kernel
theorem dX0_addFace_19 : decode cX0_addFace 19 = .ok (.aload_n 0, 1) := by decide +kernel
theorem dX0_addFace_20 : decode cX0_addFace 20 = .ok (.getfield 50, 3) := by decide +kernel
theorem dX0_addFace_23 : decode cX0_addFace 23 = .ok (.iload_n 3, 1) := by decide +kernel
theorem dX0_addFace_24 : decode cX0_addFace 24 = .ok (.lconst 0, 1) := by decide +kernel
theorem dX0_addFace_25 : decode cX0_addFace 25 = .ok (.lastore, 1) := by decide +kernel
theorem dX0_addFace_26 : decode cX0_addFace 26 = .ok (.aload_n 0, 1) := by decide +kernel
theorem dX0_addFace_27 : decode cX0_addFace 27 = .ok (.getfield 44, 3) := by decide +kernel
theorem dX0_addFace_30 : decode cX0_addFace 30 = .ok (.iload_n 3, 1) := by decide +kernel
theorem dX0_addFace_31 : decode cX0_addFace 31 = .ok (.iload_n 1, 1) := by decide +kernel
theorem dX0_addFace_32 : decode cX0_addFace 32 = .ok (.iastore, 1) := by decide +kernel
theorem dX0_addFace_33 : decode cX0_addFace 33 = .ok (.aload_n 0, 1) := by decide +kernel
theorem dX0_addFace_34 : decode cX0_addFace 34 = .ok (.getfield 47, 3) := by decide +kernel
theorem dX0_addFace_37 : decode cX0_addFace 37 = .ok (.iload_n 3, 1) := by decide +kernel
theorem dX0_addFace_38 : decode cX0_addFace 38 = .ok (.iload_n 2, 1) := by decide +kernel
theorem dX0_addFace_39 : decode cX0_addFace 39 = .ok (.iastore, 1) := by decide +kernel
theorem dX0_addFace_40 : decode cX0_addFace 40 = .ok (.aload_n 0, 1) := by decide +kernel
theorem dX0_addFace_41 : decode cX0_addFace 41 = .ok (.dup, 1) := by decide +kernel
theorem dX0_addFace_42 : decode cX0_addFace 42 = .ok (.getfield 60, 3) := by decide +kernel
theorem dX0_addFace_45 : decode cX0_addFace 45 = .ok (.iconst 1, 1) := by decide +kernel
theorem dX0_addFace_46 : decode cX0_addFace 46 = .ok (.iadd, 1) := by decide +kernel
theorem dX0_addFace_47 : decode cX0_addFace 47 = .ok (.putfield 60, 3) := by decide +kernel
theorem dX0_addFace_50 : decode cX0_addFace 50 = .ok (.iload_n 3, 1) := by decide +kernel
theorem dX0_addFace_51 : decode cX0_addFace 51 = .ok (.ireturn, 1) := by decide +kernel
theorem dX0_has_0 : decode cX0_has 0 = .ok (.iload_n 1, 1) := by decide +kernel
theorem dX0_has_1 : decode cX0_has 1 = .ok (.ifCond .lt 15, 3) := by decide +kernel
theorem dX0_has_4 : decode cX0_has 4 = .ok (.iload_n 1, 1) := by decide +kernel
theorem dX0_has_5 : decode cX0_has 5 = .ok (.aload_n 0, 1) := by decide +kernel
theorem dX0_has_6 : decode cX0_has 6 = .ok (.getfield 60, 3) := by decide +kernel
theorem dX0_has_9 : decode cX0_has 9 = .ok (.if_icmp .ge 7, 3) := by decide +kernel
theorem dX0_has_12 : decode cX0_has 12 = .ok (.iconst 1, 1) := by decide +kernel
theorem dX0_has_13 : decode cX0_has 13 = .ok (.goto 4, 3) := by decide +kernel
theorem dX0_has_16 : decode cX0_has 16 = .ok (.iconst 0, 1) := by decide +kernel
theorem dX0_has_17 : decode cX0_has 17 = .ok (.ireturn, 1) := by decide +kernel
theorem dX0_above_0 : decode cX0_above 0 = .ok (.iload_n 1, 1) := by decide +kernel
theorem dX0_above_1 : decode cX0_above 1 = .ok (.ifCond .ge 7, 3) := by decide +kernel
theorem dX0_above_4 : decode cX0_above 4 = .ok (.iconst 0, 1) := by decide +kernel
theorem dX0_above_5 : decode cX0_above 5 = .ok (.goto 12, 3) := by decide +kernel
theorem dX0_above_17 : decode cX0_above 17 = .ok (.ireturn, 1) := by decide +kernel
theorem dX0_piecesBetween_0 : decode cX0_piecesBetween 0 = .ok (.iconst 0, 1) := by decide +kernel
theorem dX0_piecesBetween_1 : decode cX0_piecesBetween 1 = .ok (.istore_n 3, 1) := by decide +kernel
theorem dX0_piecesBetween_2 : decode cX0_piecesBetween 2 = .ok (.iconst 0, 1) := by decide +kernel
theorem dX0_piecesBetween_3 : decode cX0_piecesBetween 3 = .ok (.istore 4, 2) := by decide +kernel
theorem dX0_piecesBetween_5 : decode cX0_piecesBetween 5 = .ok (.iload 4, 2) := by decide +kernel
theorem dX0_piecesBetween_7 : decode cX0_piecesBetween 7 = .ok (.aload_n 0, 1) := by decide +kernel
theorem dX0_piecesBetween_8 : decode cX0_piecesBetween 8 = .ok (.getfield 7, 3) := by decide +kernel
theorem dX0_piecesBetween_11 : decode cX0_piecesBetween 11 = .ok (.getfield 71, 3) := by decide +kernel
theorem dX0_piecesBetween_14 : decode cX0_piecesBetween 14 = .ok (.if_icmp .ge 60, 3) := by decide +kernel
theorem dX0_piecesBetween_74 : decode cX0_piecesBetween 74 = .ok (.iload_n 3, 1) := by decide +kernel
theorem dX0_piecesBetween_75 : decode cX0_piecesBetween 75 = .ok (.ireturn, 1) := by decide +kernel
theorem dX1_init_0 : decode cX1_init 0 = .ok (.aload_n 0, 1) := by decide +kernel
theorem dX1_init_1 : decode cX1_init 1 = .ok (.invokespecial 1, 3) := by decide +kernel
theorem dX1_init_4 : decode cX1_init 4 = .ok (.aload_n 0, 1) := by decide +kernel
theorem dX1_init_5 : decode cX1_init 5 = .ok (.bipush 16, 2) := by decide +kernel
theorem dX1_init_7 : decode cX1_init 7 = .ok (.newarray .long, 2) := by decide +kernel
theorem dX1_init_9 : decode cX1_init 9 = .ok (.putfield 9, 3) := by decide +kernel
theorem dX1_init_12 : decode cX1_init 12 = .ok (.aload_n 0, 1) := by decide +kernel
theorem dX1_init_13 : decode cX1_init 13 = .ok (.bipush 16, 2) := by decide +kernel
theorem dX1_init_15 : decode cX1_init 15 = .ok (.newarray .int, 2) := by decide +kernel
theorem dX1_init_17 : decode cX1_init 17 = .ok (.putfield 13, 3) := by decide +kernel
theorem dX1_init_20 : decode cX1_init 20 = .ok (.aload_n 0, 1) := by decide +kernel
theorem dX1_init_21 : decode cX1_init 21 = .ok (.iconst 0, 1) := by decide +kernel
theorem dX1_init_22 : decode cX1_init 22 = .ok (.putfield 17, 3) := by decide +kernel
theorem dX1_init_25 : decode cX1_init 25 = .ok (.return_, 1) := by decide +kernel
theorem dX1_rank_0 : decode cX1_rank 0 = .ok (.iconst 0, 1) := by decide +kernel
theorem dX1_rank_1 : decode cX1_rank 1 = .ok (.istore_n 3, 1) := by decide +kernel
theorem dX1_rank_2 : decode cX1_rank 2 = .ok (.aload_n 0, 1) := by decide +kernel
theorem dX1_rank_3 : decode cX1_rank 3 = .ok (.getfield 17, 3) := by decide +kernel
theorem dX1_rank_6 : decode cX1_rank 6 = .ok (.istore 4, 2) := by decide +kernel
theorem dX1_rank_8 : decode cX1_rank 8 = .ok (.iload_n 3, 1) := by decide +kernel
theorem dX1_rank_9 : decode cX1_rank 9 = .ok (.iload 4, 2) := by decide +kernel
theorem dX1_rank_11 : decode cX1_rank 11 = .ok (.if_icmp .ge 38, 3) := by decide +kernel
theorem dX1_rank_14 : decode cX1_rank 14 = .ok (.iload_n 3, 1) := by decide +kernel
theorem dX1_rank_15 : decode cX1_rank 15 = .ok (.iload 4, 2) := by decide +kernel
theorem dX1_rank_17 : decode cX1_rank 17 = .ok (.iadd, 1) := by decide +kernel
theorem dX1_rank_18 : decode cX1_rank 18 = .ok (.iconst 1, 1) := by decide +kernel
theorem dX1_rank_19 : decode cX1_rank 19 = .ok (.iushr, 1) := by decide +kernel
theorem dX1_rank_20 : decode cX1_rank 20 = .ok (.istore 5, 2) := by decide +kernel
theorem dX1_rank_22 : decode cX1_rank 22 = .ok (.aload_n 0, 1) := by decide +kernel
theorem dX1_rank_23 : decode cX1_rank 23 = .ok (.getfield 9, 3) := by decide +kernel
theorem dX1_rank_26 : decode cX1_rank 26 = .ok (.iload 5, 2) := by decide +kernel
theorem dX1_rank_28 : decode cX1_rank 28 = .ok (.laload, 1) := by decide +kernel
theorem dX1_rank_29 : decode cX1_rank 29 = .ok (.lload_n 1, 1) := by decide +kernel
theorem dX1_rank_30 : decode cX1_rank 30 = .ok (.lcmp, 1) := by decide +kernel
theorem dX1_rank_31 : decode cX1_rank 31 = .ok (.ifCond .ge 11, 3) := by decide +kernel
theorem dX1_rank_34 : decode cX1_rank 34 = .ok (.iload 5, 2) := by decide +kernel
theorem dX1_rank_36 : decode cX1_rank 36 = .ok (.iconst 1, 1) := by decide +kernel
theorem dX1_rank_37 : decode cX1_rank 37 = .ok (.iadd, 1) := by decide +kernel
theorem dX1_rank_38 : decode cX1_rank 38 = .ok (.istore_n 3, 1) := by decide +kernel
theorem dX1_rank_39 : decode cX1_rank 39 = .ok (.goto 7, 3) := by decide +kernel
theorem dX1_rank_46 : decode cX1_rank 46 = .ok (.goto (-38), 3) := by decide +kernel
theorem dX1_rank_49 : decode cX1_rank 49 = .ok (.iload_n 3, 1) := by decide +kernel
theorem dX1_rank_50 : decode cX1_rank 50 = .ok (.ireturn, 1) := by decide +kernel
theorem dX1_isAt_0 : decode cX1_isAt 0 = .ok (.iload_n 1, 1) := by decide +kernel
theorem dX1_isAt_1 : decode cX1_isAt 1 = .ok (.aload_n 0, 1) := by decide +kernel
theorem dX1_isAt_2 : decode cX1_isAt 2 = .ok (.getfield 17, 3) := by decide +kernel
theorem dX1_isAt_5 : decode cX1_isAt 5 = .ok (.if_icmp .ge 18, 3) := by decide +kernel
theorem dX1_isAt_23 : decode cX1_isAt 23 = .ok (.iconst 0, 1) := by decide +kernel
theorem dX1_isAt_24 : decode cX1_isAt 24 = .ok (.ireturn, 1) := by decide +kernel
theorem dX1_addEnd_0 : decode cX1_addEnd 0 = .ok (.aload_n 0, 1) := by decide +kernel
theorem dX1_addEnd_1 : decode cX1_addEnd 1 = .ok (.lload_n 1, 1) := by decide +kernel
theorem dX1_addEnd_2 : decode cX1_addEnd 2 = .ok (.invokevirtual 21, 3) := by decide +kernel
theorem dX1_addEnd_5 : decode cX1_addEnd 5 = .ok (.istore_n 3, 1) := by decide +kernel
theorem dX1_addEnd_6 : decode cX1_addEnd 6 = .ok (.aload_n 0, 1) := by decide +kernel
theorem dX1_addEnd_7 : decode cX1_addEnd 7 = .ok (.iload_n 3, 1) := by decide +kernel
theorem dX1_addEnd_8 : decode cX1_addEnd 8 = .ok (.lload_n 1, 1) := by decide +kernel
theorem dX1_addEnd_9 : decode cX1_addEnd 9 = .ok (.invokevirtual 25, 3) := by decide +kernel
theorem dX1_addEnd_12 : decode cX1_addEnd 12 = .ok (.ifCond .ne 9, 3) := by decide +kernel
theorem dX1_addEnd_15 : decode cX1_addEnd 15 = .ok (.aload_n 0, 1) := by decide +kernel
theorem dX1_addEnd_16 : decode cX1_addEnd 16 = .ok (.iload_n 3, 1) := by decide +kernel
theorem dX1_addEnd_17 : decode cX1_addEnd 17 = .ok (.lload_n 1, 1) := by decide +kernel
theorem dX1_addEnd_18 : decode cX1_addEnd 18 = .ok (.invokevirtual 29, 3) := by decide +kernel
theorem dX1_addEnd_21 : decode cX1_addEnd 21 = .ok (.aload_n 0, 1) := by decide +kernel
theorem dX1_addEnd_22 : decode cX1_addEnd 22 = .ok (.getfield 13, 3) := by decide +kernel
theorem dX1_addEnd_25 : decode cX1_addEnd 25 = .ok (.iload_n 3, 1) := by decide +kernel
theorem dX1_addEnd_26 : decode cX1_addEnd 26 = .ok (.dup2, 1) := by decide +kernel
theorem dX1_addEnd_27 : decode cX1_addEnd 27 = .ok (.iaload, 1) := by decide +kernel
theorem dX1_addEnd_28 : decode cX1_addEnd 28 = .ok (.iconst 1, 1) := by decide +kernel
theorem dX1_addEnd_29 : decode cX1_addEnd 29 = .ok (.iadd, 1) := by decide +kernel
theorem dX1_addEnd_30 : decode cX1_addEnd 30 = .ok (.iastore, 1) := by decide +kernel
theorem dX1_addEnd_31 : decode cX1_addEnd 31 = .ok (.return_, 1) := by decide +kernel
theorem dX1_insert_0 : decode cX1_insert 0 = .ok (.aload_n 0, 1) := by decide +kernel
theorem dX1_insert_1 : decode cX1_insert 1 = .ok (.getfield 17, 3) := by decide +kernel
theorem dX1_insert_4 : decode cX1_insert 4 = .ok (.aload_n 0, 1) := by decide +kernel
theorem dX1_insert_5 : decode cX1_insert 5 = .ok (.getfield 9, 3) := by decide +kernel
theorem dX1_insert_8 : decode cX1_insert 8 = .ok (.arraylength, 1) := by decide +kernel
theorem dX1_insert_9 : decode cX1_insert 9 = .ok (.if_icmp .ne 37, 3) := by decide +kernel
theorem dX1_insert_46 : decode cX1_insert 46 = .ok (.aload_n 0, 1) := by decide +kernel
theorem dX1_insert_47 : decode cX1_insert 47 = .ok (.getfield 9, 3) := by decide +kernel
theorem dX1_insert_50 : decode cX1_insert 50 = .ok (.iload_n 1, 1) := by decide +kernel
theorem dX1_insert_51 : decode cX1_insert 51 = .ok (.aload_n 0, 1) := by decide +kernel
theorem dX1_insert_52 : decode cX1_insert 52 = .ok (.getfield 9, 3) := by decide +kernel
theorem dX1_insert_55 : decode cX1_insert 55 = .ok (.iload_n 1, 1) := by decide +kernel
theorem dX1_insert_56 : decode cX1_insert 56 = .ok (.iconst 1, 1) := by decide +kernel
theorem dX1_insert_57 : decode cX1_insert 57 = .ok (.iadd, 1) := by decide +kernel
theorem dX1_insert_58 : decode cX1_insert 58 = .ok (.aload_n 0, 1) := by decide +kernel
theorem dX1_insert_59 : decode cX1_insert 59 = .ok (.getfield 17, 3) := by decide +kernel
theorem dX1_insert_62 : decode cX1_insert 62 = .ok (.iload_n 1, 1) := by decide +kernel
theorem dX1_insert_63 : decode cX1_insert 63 = .ok (.isub, 1) := by decide +kernel
theorem dX1_insert_64 : decode cX1_insert 64 = .ok (.invokestatic 42, 3) := by decide +kernel
theorem dX1_insert_67 : decode cX1_insert 67 = .ok (.aload_n 0, 1) := by decide +kernel
theorem dX1_insert_68 : decode cX1_insert 68 = .ok (.getfield 13, 3) := by decide +kernel
theorem dX1_insert_71 : decode cX1_insert 71 = .ok (.iload_n 1, 1) := by decide +kernel
theorem dX1_insert_72 : decode cX1_insert 72 = .ok (.aload_n 0, 1) := by decide +kernel
theorem dX1_insert_73 : decode cX1_insert 73 = .ok (.getfield 13, 3) := by decide +kernel
theorem dX1_insert_76 : decode cX1_insert 76 = .ok (.iload_n 1, 1) := by decide +kernel
theorem dX1_insert_77 : decode cX1_insert 77 = .ok (.iconst 1, 1) := by decide +kernel
theorem dX1_insert_78 : decode cX1_insert 78 = .ok (.iadd, 1) := by decide +kernel
theorem dX1_insert_79 : decode cX1_insert 79 = .ok (.aload_n 0, 1) := by decide +kernel
theorem dX1_insert_80 : decode cX1_insert 80 = .ok (.getfield 17, 3) := by decide +kernel
theorem dX1_insert_83 : decode cX1_insert 83 = .ok (.iload_n 1, 1) := by decide +kernel
theorem dX1_insert_84 : decode cX1_insert 84 = .ok (.isub, 1) := by decide +kernel
theorem dX1_insert_85 : decode cX1_insert 85 = .ok (.invokestatic 42, 3) := by decide +kernel
theorem dX1_insert_88 : decode cX1_insert 88 = .ok (.aload_n 0, 1) := by decide +kernel
theorem dX1_insert_89 : decode cX1_insert 89 = .ok (.getfield 9, 3) := by decide +kernel
theorem dX1_insert_92 : decode cX1_insert 92 = .ok (.iload_n 1, 1) := by decide +kernel
theorem dX1_insert_93 : decode cX1_insert 93 = .ok (.lload_n 2, 1) := by decide +kernel
theorem dX1_insert_94 : decode cX1_insert 94 = .ok (.lastore, 1) := by decide +kernel
theorem dX1_insert_95 : decode cX1_insert 95 = .ok (.aload_n 0, 1) := by decide +kernel
theorem dX1_insert_96 : decode cX1_insert 96 = .ok (.getfield 13, 3) := by decide +kernel
theorem dX1_insert_99 : decode cX1_insert 99 = .ok (.iload_n 1, 1) := by decide +kernel
theorem dX1_insert_100 : decode cX1_insert 100 = .ok (.iconst 0, 1) := by decide +kernel
theorem dX1_insert_101 : decode cX1_insert 101 = .ok (.iastore, 1) := by decide +kernel
theorem dX1_insert_102 : decode cX1_insert 102 = .ok (.aload_n 0, 1) := by decide +kernel
theorem dX1_insert_103 : decode cX1_insert 103 = .ok (.dup, 1) := by decide +kernel
theorem dX1_insert_104 : decode cX1_insert 104 = .ok (.getfield 17, 3) := by decide +kernel
theorem dX1_insert_107 : decode cX1_insert 107 = .ok (.iconst 1, 1) := by decide +kernel
theorem dX1_insert_108 : decode cX1_insert 108 = .ok (.iadd, 1) := by decide +kernel
theorem dX1_insert_109 : decode cX1_insert 109 = .ok (.putfield 17, 3) := by decide +kernel
theorem dX1_insert_112 : decode cX1_insert 112 = .ok (.return_, 1) := by decide +kernel
theorem dX2_init_0 : decode cX2_init 0 = .ok (.aload_n 0, 1) := by decide +kernel
theorem dX2_init_1 : decode cX2_init 1 = .ok (.invokespecial 1, 3) := by decide +kernel
theorem dX2_init_4 : decode cX2_init 4 = .ok (.aload_n 0, 1) := by decide +kernel
theorem dX2_init_5 : decode cX2_init 5 = .ok (.bipush 8, 2) := by decide +kernel
theorem dX2_init_7 : decode cX2_init 7 = .ok (.newarray .long, 2) := by decide +kernel
theorem dX2_init_9 : decode cX2_init 9 = .ok (.putfield 9, 3) := by decide +kernel
theorem dX2_init_12 : decode cX2_init 12 = .ok (.aload_n 0, 1) := by decide +kernel
end
section
theorem dX2_init_13 : decode cX2_init 13 = .ok (.bipush 8, 2) := by decide +kernel
theorem dX2_init_15 : decode cX2_init 15 = .ok (.newarray .long, 2) := by decide +kernel
theorem dX2_init_17 : decode cX2_init 17 = .ok (.putfield 13, 3) := by decide +kernel
theorem dX2_init_20 : decode cX2_init 20 = .ok (.aload_n 0, 1) := by decide +kernel
theorem dX2_init_21 : decode cX2_init 21 = .ok (.iconst 0, 1) := by decide +kernel
theorem dX2_init_22 : decode cX2_init 22 = .ok (.putfield 16, 3) := by decide +kernel
theorem dX2_init_25 : decode cX2_init 25 = .ok (.return_, 1) := by decide +kernel
theorem dX2_room_0 : decode cX2_room 0 = .ok (.aload_n 0, 1) := by decide +kernel
theorem dX2_room_1 : decode cX2_room 1 = .ok (.getfield 9, 3) := by decide +kernel
theorem dX2_room_4 : decode cX2_room 4 = .ok (.arraylength, 1) := by decide +kernel
theorem dX2_room_5 : decode cX2_room 5 = .ok (.ireturn, 1) := by decide +kernel
theorem dX2_rank_0 : decode cX2_rank 0 = .ok (.iconst 0, 1) := by decide +kernel
theorem dX2_rank_1 : decode cX2_rank 1 = .ok (.istore 5, 2) := by decide +kernel
theorem dX2_rank_3 : decode cX2_rank 3 = .ok (.aload_n 0, 1) := by decide +kernel
theorem dX2_rank_4 : decode cX2_rank 4 = .ok (.getfield 16, 3) := by decide +kernel
theorem dX2_rank_7 : decode cX2_rank 7 = .ok (.istore 6, 2) := by decide +kernel
theorem dX2_rank_9 : decode cX2_rank 9 = .ok (.iload 5, 2) := by decide +kernel
theorem dX2_rank_11 : decode cX2_rank 11 = .ok (.iload 6, 2) := by decide +kernel
theorem dX2_rank_13 : decode cX2_rank 13 = .ok (.if_icmp .ge 64, 3) := by decide +kernel
theorem dX2_rank_77 : decode cX2_rank 77 = .ok (.iload 5, 2) := by decide +kernel
theorem dX2_rank_79 : decode cX2_rank 79 = .ok (.ireturn, 1) := by decide +kernel
theorem dX2_has_0 : decode cX2_has 0 = .ok (.aload_n 0, 1) := by decide +kernel
theorem dX2_has_1 : decode cX2_has 1 = .ok (.lload_n 1, 1) := by decide +kernel
theorem dX2_has_2 : decode cX2_has 2 = .ok (.lload_n 3, 1) := by decide +kernel
theorem dX2_has_3 : decode cX2_has 3 = .ok (.invokevirtual 20, 3) := by decide +kernel
theorem dX2_has_6 : decode cX2_has 6 = .ok (.istore 5, 2) := by decide +kernel
theorem dX2_has_8 : decode cX2_has 8 = .ok (.iload 5, 2) := by decide +kernel
theorem dX2_has_10 : decode cX2_has 10 = .ok (.aload_n 0, 1) := by decide +kernel
theorem dX2_has_11 : decode cX2_has 11 = .ok (.getfield 16, 3) := by decide +kernel
theorem dX2_has_14 : decode cX2_has 14 = .ok (.if_icmp .ge 31, 3) := by decide +kernel
theorem dX2_has_45 : decode cX2_has 45 = .ok (.iconst 0, 1) := by decide +kernel
theorem dX2_has_46 : decode cX2_has 46 = .ok (.ireturn, 1) := by decide +kernel
theorem dX2_clashWith_0 : decode cX2_clashWith 0 = .ok (.iconst 0, 1) := by decide +kernel
theorem dX2_clashWith_1 : decode cX2_clashWith 1 = .ok (.istore 5, 2) := by decide +kernel
theorem dX2_clashWith_3 : decode cX2_clashWith 3 = .ok (.iload 5, 2) := by decide +kernel
theorem dX2_clashWith_5 : decode cX2_clashWith 5 = .ok (.aload_n 0, 1) := by decide +kernel
theorem dX2_clashWith_6 : decode cX2_clashWith 6 = .ok (.getfield 16, 3) := by decide +kernel
theorem dX2_clashWith_9 : decode cX2_clashWith 9 = .ok (.if_icmp .ge 57, 3) := by decide +kernel
theorem dX2_clashWith_66 : decode cX2_clashWith 66 = .ok (.iconst 0, 1) := by decide +kernel
theorem dX2_clashWith_67 : decode cX2_clashWith 67 = .ok (.ireturn, 1) := by decide +kernel
theorem dX2_add_0 : decode cX2_add 0 = .ok (.aload_n 0, 1) := by decide +kernel
theorem dX2_add_1 : decode cX2_add 1 = .ok (.getfield 16, 3) := by decide +kernel
theorem dX2_add_4 : decode cX2_add 4 = .ok (.aload_n 0, 1) := by decide +kernel
theorem dX2_add_5 : decode cX2_add 5 = .ok (.getfield 9, 3) := by decide +kernel
theorem dX2_add_8 : decode cX2_add 8 = .ok (.arraylength, 1) := by decide +kernel
theorem dX2_add_9 : decode cX2_add 9 = .ok (.if_icmp .ne 37, 3) := by decide +kernel
theorem dX2_add_46 : decode cX2_add 46 = .ok (.aload_n 0, 1) := by decide +kernel
theorem dX2_add_47 : decode cX2_add 47 = .ok (.lload_n 1, 1) := by decide +kernel
theorem dX2_add_48 : decode cX2_add 48 = .ok (.lload_n 3, 1) := by decide +kernel
theorem dX2_add_49 : decode cX2_add 49 = .ok (.invokevirtual 20, 3) := by decide +kernel
theorem dX2_add_52 : decode cX2_add 52 = .ok (.istore 5, 2) := by decide +kernel
theorem dX2_add_54 : decode cX2_add 54 = .ok (.aload_n 0, 1) := by decide +kernel
theorem dX2_add_55 : decode cX2_add 55 = .ok (.getfield 9, 3) := by decide +kernel
theorem dX2_add_58 : decode cX2_add 58 = .ok (.iload 5, 2) := by decide +kernel
theorem dX2_add_60 : decode cX2_add 60 = .ok (.aload_n 0, 1) := by decide +kernel
theorem dX2_add_61 : decode cX2_add 61 = .ok (.getfield 9, 3) := by decide +kernel
theorem dX2_add_64 : decode cX2_add 64 = .ok (.iload 5, 2) := by decide +kernel
theorem dX2_add_66 : decode cX2_add 66 = .ok (.iconst 1, 1) := by decide +kernel
theorem dX2_add_67 : decode cX2_add 67 = .ok (.iadd, 1) := by decide +kernel
theorem dX2_add_68 : decode cX2_add 68 = .ok (.aload_n 0, 1) := by decide +kernel
theorem dX2_add_69 : decode cX2_add 69 = .ok (.getfield 16, 3) := by decide +kernel
theorem dX2_add_72 : decode cX2_add 72 = .ok (.iload 5, 2) := by decide +kernel
theorem dX2_add_74 : decode cX2_add 74 = .ok (.isub, 1) := by decide +kernel
theorem dX2_add_75 : decode cX2_add 75 = .ok (.invokestatic 36, 3) := by decide +kernel
theorem dX2_add_78 : decode cX2_add 78 = .ok (.aload_n 0, 1) := by decide +kernel
theorem dX2_add_79 : decode cX2_add 79 = .ok (.getfield 13, 3) := by decide +kernel
theorem dX2_add_82 : decode cX2_add 82 = .ok (.iload 5, 2) := by decide +kernel
theorem dX2_add_84 : decode cX2_add 84 = .ok (.aload_n 0, 1) := by decide +kernel
theorem dX2_add_85 : decode cX2_add 85 = .ok (.getfield 13, 3) := by decide +kernel
theorem dX2_add_88 : decode cX2_add 88 = .ok (.iload 5, 2) := by decide +kernel
theorem dX2_add_90 : decode cX2_add 90 = .ok (.iconst 1, 1) := by decide +kernel
theorem dX2_add_91 : decode cX2_add 91 = .ok (.iadd, 1) := by decide +kernel
theorem dX2_add_92 : decode cX2_add 92 = .ok (.aload_n 0, 1) := by decide +kernel
theorem dX2_add_93 : decode cX2_add 93 = .ok (.getfield 16, 3) := by decide +kernel
theorem dX2_add_96 : decode cX2_add 96 = .ok (.iload 5, 2) := by decide +kernel
theorem dX2_add_98 : decode cX2_add 98 = .ok (.isub, 1) := by decide +kernel
theorem dX2_add_99 : decode cX2_add 99 = .ok (.invokestatic 36, 3) := by decide +kernel
theorem dX2_add_102 : decode cX2_add 102 = .ok (.aload_n 0, 1) := by decide +kernel
theorem dX2_add_103 : decode cX2_add 103 = .ok (.getfield 9, 3) := by decide +kernel
theorem dX2_add_106 : decode cX2_add 106 = .ok (.iload 5, 2) := by decide +kernel
theorem dX2_add_108 : decode cX2_add 108 = .ok (.lload_n 1, 1) := by decide +kernel
theorem dX2_add_109 : decode cX2_add 109 = .ok (.lastore, 1) := by decide +kernel
theorem dX2_add_110 : decode cX2_add 110 = .ok (.aload_n 0, 1) := by decide +kernel
theorem dX2_add_111 : decode cX2_add 111 = .ok (.getfield 13, 3) := by decide +kernel
theorem dX2_add_114 : decode cX2_add 114 = .ok (.iload 5, 2) := by decide +kernel
theorem dX2_add_116 : decode cX2_add 116 = .ok (.lload_n 3, 1) := by decide +kernel
theorem dX2_add_117 : decode cX2_add 117 = .ok (.lastore, 1) := by decide +kernel
theorem dX2_add_118 : decode cX2_add 118 = .ok (.aload_n 0, 1) := by decide +kernel
theorem dX2_add_119 : decode cX2_add 119 = .ok (.dup, 1) := by decide +kernel
theorem dX2_add_120 : decode cX2_add 120 = .ok (.getfield 16, 3) := by decide +kernel
theorem dX2_add_123 : decode cX2_add 123 = .ok (.iconst 1, 1) := by decide +kernel
theorem dX2_add_124 : decode cX2_add 124 = .ok (.iadd, 1) := by decide +kernel
theorem dX2_add_125 : decode cX2_add 125 = .ok (.putfield 16, 3) := by decide +kernel
theorem dX2_add_128 : decode cX2_add 128 = .ok (.return_, 1) := by decide +kernel
theorem dX2_firstOn_0 : decode cX2_firstOn 0 = .ok (.iconst 0, 1) := by decide +kernel
theorem dX2_firstOn_1 : decode cX2_firstOn 1 = .ok (.istore_n 3, 1) := by decide +kernel
theorem dX2_firstOn_2 : decode cX2_firstOn 2 = .ok (.iload_n 3, 1) := by decide +kernel
theorem dX2_firstOn_3 : decode cX2_firstOn 3 = .ok (.aload_n 0, 1) := by decide +kernel
theorem dX2_firstOn_4 : decode cX2_firstOn 4 = .ok (.getfield 16, 3) := by decide +kernel
theorem dX2_firstOn_7 : decode cX2_firstOn 7 = .ok (.if_icmp .ge 54, 3) := by decide +kernel
theorem dX2_firstOn_61 : decode cX2_firstOn 61 = .ok (.iconst (-1), 1) := by decide +kernel
theorem dX2_firstOn_62 : decode cX2_firstOn 62 = .ok (.ireturn, 1) := by decide +kernel
theorem dX2_nextBelow_0 : decode cX2_nextBelow 0 = .ok (.iconst (-1), 1) := by decide +kernel
theorem dX2_nextBelow_1 : decode cX2_nextBelow 1 = .ok (.istore_n 3, 1) := by decide +kernel
theorem dX2_nextBelow_2 : decode cX2_nextBelow 2 = .ok (.iconst 0, 1) := by decide +kernel
theorem dX2_nextBelow_3 : decode cX2_nextBelow 3 = .ok (.istore 4, 2) := by decide +kernel
theorem dX2_nextBelow_5 : decode cX2_nextBelow 5 = .ok (.iload 4, 2) := by decide +kernel
theorem dX2_nextBelow_7 : decode cX2_nextBelow 7 = .ok (.aload_n 0, 1) := by decide +kernel
theorem dX2_nextBelow_8 : decode cX2_nextBelow 8 = .ok (.getfield 16, 3) := by decide +kernel
theorem dX2_nextBelow_11 : decode cX2_nextBelow 11 = .ok (.if_icmp .ge 85, 3) := by decide +kernel
theorem dX2_nextBelow_96 : decode cX2_nextBelow 96 = .ok (.iload_n 3, 1) := by decide +kernel
theorem dX2_nextBelow_97 : decode cX2_nextBelow 97 = .ok (.ireturn, 1) := by decide +kernel
theorem dX3_inBounds_0 : decode cX3_inBounds 0 = .ok (.iload_n 0, 1) := by decide +kernel
theorem dX3_inBounds_1 : decode cX3_inBounds 1 = .ok (.ldc 9, 2) := by decide +kernel
theorem dX3_inBounds_3 : decode cX3_inBounds 3 = .ok (.if_icmp .lt 25, 3) := by decide +kernel
theorem dX3_inBounds_6 : decode cX3_inBounds 6 = .ok (.iload_n 0, 1) := by decide +kernel
theorem dX3_inBounds_7 : decode cX3_inBounds 7 = .ok (.ldc 10, 2) := by decide +kernel
theorem dX3_inBounds_9 : decode cX3_inBounds 9 = .ok (.if_icmp .gt 19, 3) := by decide +kernel
theorem dX3_inBounds_12 : decode cX3_inBounds 12 = .ok (.iload_n 1, 1) := by decide +kernel
theorem dX3_inBounds_13 : decode cX3_inBounds 13 = .ok (.ldc 9, 2) := by decide +kernel
theorem dX3_inBounds_15 : decode cX3_inBounds 15 = .ok (.if_icmp .lt 13, 3) := by decide +kernel
theorem dX3_inBounds_18 : decode cX3_inBounds 18 = .ok (.iload_n 1, 1) := by decide +kernel
theorem dX3_inBounds_19 : decode cX3_inBounds 19 = .ok (.ldc 10, 2) := by decide +kernel
theorem dX3_inBounds_21 : decode cX3_inBounds 21 = .ok (.if_icmp .gt 7, 3) := by decide +kernel
theorem dX3_inBounds_24 : decode cX3_inBounds 24 = .ok (.iconst 1, 1) := by decide +kernel
theorem dX3_inBounds_25 : decode cX3_inBounds 25 = .ok (.goto 4, 3) := by decide +kernel
theorem dX3_inBounds_28 : decode cX3_inBounds 28 = .ok (.iconst 0, 1) := by decide +kernel
theorem dX3_inBounds_29 : decode cX3_inBounds 29 = .ok (.ireturn, 1) := by decide +kernel
theorem dX3_of_0 : decode cX3_of 0 = .ok (.iload_n 0, 1) := by decide +kernel
theorem dX3_of_1 : decode cX3_of 1 = .ok (.ldc 10, 2) := by decide +kernel
theorem dX3_of_3 : decode cX3_of 3 = .ok (.iadd, 1) := by decide +kernel
theorem dX3_of_4 : decode cX3_of 4 = .ok (.i2l, 1) := by decide +kernel
theorem dX3_of_5 : decode cX3_of 5 = .ok (.bipush 20, 2) := by decide +kernel
theorem dX3_of_7 : decode cX3_of 7 = .ok (.lshl, 1) := by decide +kernel
theorem dX3_of_8 : decode cX3_of 8 = .ok (.iload_n 1, 1) := by decide +kernel
theorem dX3_of_9 : decode cX3_of 9 = .ok (.ldc 10, 2) := by decide +kernel
theorem dX3_of_11 : decode cX3_of 11 = .ok (.iadd, 1) := by decide +kernel
theorem dX3_of_12 : decode cX3_of 12 = .ok (.i2l, 1) := by decide +kernel
theorem dX3_of_13 : decode cX3_of 13 = .ok (.lor, 1) := by decide +kernel
theorem dX3_of_14 : decode cX3_of 14 = .ok (.lreturn, 1) := by decide +kernel
theorem dX4_init_0 : decode cX4_init 0 = .ok (.aload_n 0, 1) := by decide +kernel
theorem dX4_init_1 : decode cX4_init 1 = .ok (.invokespecial 1, 3) := by decide +kernel
theorem dX4_init_4 : decode cX4_init 4 = .ok (.aload_n 0, 1) := by decide +kernel
theorem dX4_init_5 : decode cX4_init 5 = .ok (.aload_n 1, 1) := by decide +kernel
theorem dX4_init_6 : decode cX4_init 6 = .ok (.putfield 7, 3) := by decide +kernel
theorem dX4_init_9 : decode cX4_init 9 = .ok (.aload_n 0, 1) := by decide +kernel
theorem dX4_init_10 : decode cX4_init 10 = .ok (.aload_n 2, 1) := by decide +kernel
theorem dX4_init_11 : decode cX4_init 11 = .ok (.putfield 13, 3) := by decide +kernel
theorem dX4_init_14 : decode cX4_init 14 = .ok (.aload_n 0, 1) := by decide +kernel
theorem dX4_init_15 : decode cX4_init 15 = .ok (.aload_n 1, 1) := by decide +kernel
theorem dX4_init_16 : decode cX4_init 16 = .ok (.invokevirtual 17, 3) := by decide +kernel
theorem dX4_init_19 : decode cX4_init 19 = .ok (.invokevirtual 23, 3) := by decide +kernel
theorem dX4_init_22 : decode cX4_init 22 = .ok (.return_, 1) := by decide +kernel
theorem dX4_makeRows_0 : decode cX4_makeRows 0 = .ok (.aload_n 0, 1) := by decide +kernel
theorem dX4_makeRows_1 : decode cX4_makeRows 1 = .ok (.iload_n 1, 1) := by decide +kernel
theorem dX4_makeRows_2 : decode cX4_makeRows 2 = .ok (.newarray .int, 2) := by decide +kernel
theorem dX4_makeRows_4 : decode cX4_makeRows 4 = .ok (.putfield 27, 3) := by decide +kernel
theorem dX4_makeRows_7 : decode cX4_makeRows 7 = .ok (.aload_n 0, 1) := by decide +kernel
theorem dX4_makeRows_8 : decode cX4_makeRows 8 = .ok (.iload_n 1, 1) := by decide +kernel
theorem dX4_makeRows_9 : decode cX4_makeRows 9 = .ok (.newarray .int, 2) := by decide +kernel
theorem dX4_makeRows_11 : decode cX4_makeRows 11 = .ok (.putfield 31, 3) := by decide +kernel
theorem dX4_makeRows_14 : decode cX4_makeRows 14 = .ok (.aload_n 0, 1) := by decide +kernel
theorem dX4_makeRows_15 : decode cX4_makeRows 15 = .ok (.iconst 2, 1) := by decide +kernel
theorem dX4_makeRows_16 : decode cX4_makeRows 16 = .ok (.iload_n 1, 1) := by decide +kernel
theorem dX4_makeRows_17 : decode cX4_makeRows 17 = .ok (.imul, 1) := by decide +kernel
theorem dX4_makeRows_18 : decode cX4_makeRows 18 = .ok (.newarray .int, 2) := by decide +kernel
theorem dX4_makeRows_20 : decode cX4_makeRows 20 = .ok (.putfield 34, 3) := by decide +kernel
theorem dX4_makeRows_23 : decode cX4_makeRows 23 = .ok (.aload_n 0, 1) := by decide +kernel
theorem dX4_makeRows_24 : decode cX4_makeRows 24 = .ok (.iconst 2, 1) := by decide +kernel
theorem dX4_makeRows_25 : decode cX4_makeRows 25 = .ok (.iload_n 1, 1) := by decide +kernel
theorem dX4_makeRows_26 : decode cX4_makeRows 26 = .ok (.imul, 1) := by decide +kernel
theorem dX4_makeRows_27 : decode cX4_makeRows 27 = .ok (.newarray .int, 2) := by decide +kernel
theorem dX4_makeRows_29 : decode cX4_makeRows 29 = .ok (.putfield 37, 3) := by decide +kernel
theorem dX4_makeRows_32 : decode cX4_makeRows 32 = .ok (.return_, 1) := by decide +kernel
theorem dX6_init_0 : decode cX6_init 0 = .ok (.aload_n 0, 1) := by decide +kernel
theorem dX6_init_1 : decode cX6_init 1 = .ok (.invokespecial 1, 3) := by decide +kernel
theorem dX6_init_4 : decode cX6_init 4 = .ok (.aload_n 0, 1) := by decide +kernel
theorem dX6_init_5 : decode cX6_init 5 = .ok (.new 7, 3) := by decide +kernel
theorem dX6_init_8 : decode cX6_init 8 = .ok (.dup, 1) := by decide +kernel
theorem dX6_init_9 : decode cX6_init 9 = .ok (.invokespecial 9, 3) := by decide +kernel
theorem dX6_init_12 : decode cX6_init 12 = .ok (.putfield 10, 3) := by decide +kernel
theorem dX6_init_15 : decode cX6_init 15 = .ok (.aload_n 0, 1) := by decide +kernel
theorem dX6_init_16 : decode cX6_init 16 = .ok (.new 16, 3) := by decide +kernel
theorem dX6_init_19 : decode cX6_init 19 = .ok (.dup, 1) := by decide +kernel
theorem dX6_init_20 : decode cX6_init 20 = .ok (.invokespecial 18, 3) := by decide +kernel
theorem dX6_init_23 : decode cX6_init 23 = .ok (.putfield 19, 3) := by decide +kernel
theorem dX6_init_26 : decode cX6_init 26 = .ok (.aload_n 0, 1) := by decide +kernel
theorem dX6_init_27 : decode cX6_init 27 = .ok (.new 23, 3) := by decide +kernel
theorem dX6_init_30 : decode cX6_init 30 = .ok (.dup, 1) := by decide +kernel
theorem dX6_init_31 : decode cX6_init 31 = .ok (.aload_n 0, 1) := by decide +kernel
theorem dX6_init_32 : decode cX6_init 32 = .ok (.getfield 10, 3) := by decide +kernel
theorem dX6_init_35 : decode cX6_init 35 = .ok (.aload_n 0, 1) := by decide +kernel
theorem dX6_init_36 : decode cX6_init 36 = .ok (.getfield 19, 3) := by decide +kernel
theorem dX6_init_39 : decode cX6_init 39 = .ok (.invokespecial 25, 3) := by decide +kernel
theorem dX6_init_42 : decode cX6_init 42 = .ok (.putfield 28, 3) := by decide +kernel
theorem dX6_init_45 : decode cX6_init 45 = .ok (.aload_n 0, 1) := by decide +kernel
theorem dX6_init_46 : decode cX6_init 46 = .ok (.new 32, 3) := by decide +kernel
theorem dX6_init_49 : decode cX6_init 49 = .ok (.dup, 1) := by decide +kernel
theorem dX6_init_50 : decode cX6_init 50 = .ok (.aload_n 0, 1) := by decide +kernel
theorem dX6_init_51 : decode cX6_init 51 = .ok (.getfield 10, 3) := by decide +kernel
theorem dX6_init_54 : decode cX6_init 54 = .ok (.aload_n 0, 1) := by decide +kernel
theorem dX6_init_55 : decode cX6_init 55 = .ok (.getfield 19, 3) := by decide +kernel
theorem dX6_init_58 : decode cX6_init 58 = .ok (.aload_n 0, 1) := by decide +kernel
theorem dX6_init_59 : decode cX6_init 59 = .ok (.getfield 28, 3) := by decide +kernel
theorem dX6_init_62 : decode cX6_init 62 = .ok (.invokespecial 34, 3) := by decide +kernel
theorem dX6_init_65 : decode cX6_init 65 = .ok (.putfield 37, 3) := by decide +kernel
theorem dX6_init_68 : decode cX6_init 68 = .ok (.aload_n 0, 1) := by decide +kernel
theorem dX6_init_69 : decode cX6_init 69 = .ok (.iconst 0, 1) := by decide +kernel
theorem dX6_init_70 : decode cX6_init 70 = .ok (.putfield 41, 3) := by decide +kernel
theorem dX6_init_73 : decode cX6_init 73 = .ok (.return_, 1) := by decide +kernel
theorem dX6_join_0 : decode cX6_join 0 = .ok (.iload_n 1, 1) := by decide +kernel
theorem dX6_join_1 : decode cX6_join 1 = .ok (.iload_n 2, 1) := by decide +kernel
theorem dX6_join_2 : decode cX6_join 2 = .ok (.invokestatic 45, 3) := by decide +kernel
theorem dX6_join_5 : decode cX6_join 5 = .ok (.ifCond .eq 12, 3) := by decide +kernel
theorem dX6_join_8 : decode cX6_join 8 = .ok (.iload_n 3, 1) := by decide +kernel
theorem dX6_join_9 : decode cX6_join 9 = .ok (.iload 4, 2) := by decide +kernel
theorem dX6_join_11 : decode cX6_join 11 = .ok (.invokestatic 45, 3) := by decide +kernel
theorem dX6_join_14 : decode cX6_join 14 = .ok (.ifCond .ne 5, 3) := by decide +kernel
theorem dX6_join_17 : decode cX6_join 17 = .ok (.iconst (-1), 1) := by decide +kernel
theorem dX6_join_18 : decode cX6_join 18 = .ok (.ireturn, 1) := by decide +kernel
theorem dX6_join_19 : decode cX6_join 19 = .ok (.iload_n 1, 1) := by decide +kernel
theorem dX6_join_20 : decode cX6_join 20 = .ok (.iload_n 2, 1) := by decide +kernel
theorem dX6_join_21 : decode cX6_join 21 = .ok (.invokestatic 51, 3) := by decide +kernel
theorem dX6_join_24 : decode cX6_join 24 = .ok (.lstore 5, 2) := by decide +kernel
theorem dX6_join_26 : decode cX6_join 26 = .ok (.iload_n 3, 1) := by decide +kernel
theorem dX6_join_27 : decode cX6_join 27 = .ok (.iload 4, 2) := by decide +kernel
theorem dX6_join_29 : decode cX6_join 29 = .ok (.invokestatic 51, 3) := by decide +kernel
theorem dX6_join_32 : decode cX6_join 32 = .ok (.lstore 7, 2) := by decide +kernel
theorem dX6_join_34 : decode cX6_join 34 = .ok (.lload 5, 2) := by decide +kernel
theorem dX6_join_36 : decode cX6_join 36 = .ok (.lload 7, 2) := by decide +kernel
theorem dX6_join_38 : decode cX6_join 38 = .ok (.lcmp, 1) := by decide +kernel
theorem dX6_join_39 : decode cX6_join 39 = .ok (.ifCond .ne 5, 3) := by decide +kernel
theorem dX6_join_42 : decode cX6_join 42 = .ok (.iconst (-1), 1) := by decide +kernel
theorem dX6_join_43 : decode cX6_join 43 = .ok (.ireturn, 1) := by decide +kernel
theorem dX6_join_44 : decode cX6_join 44 = .ok (.lload 5, 2) := by decide +kernel
theorem dX6_join_46 : decode cX6_join 46 = .ok (.lload 7, 2) := by decide +kernel
theorem dX6_join_48 : decode cX6_join 48 = .ok (.invokestatic 55, 3) := by decide +kernel
theorem dX6_join_51 : decode cX6_join 51 = .ok (.lstore 9, 2) := by decide +kernel
theorem dX6_join_53 : decode cX6_join 53 = .ok (.lload 5, 2) := by decide +kernel
theorem dX6_join_55 : decode cX6_join 55 = .ok (.lload 7, 2) := by decide +kernel
theorem dX6_join_57 : decode cX6_join 57 = .ok (.invokestatic 61, 3) := by decide +kernel
theorem dX6_join_60 : decode cX6_join 60 = .ok (.lstore 11, 2) := by decide +kernel
theorem dX6_join_62 : decode cX6_join 62 = .ok (.aload_n 0, 1) := by decide +kernel
theorem dX6_join_63 : decode cX6_join 63 = .ok (.getfield 10, 3) := by decide +kernel
theorem dX6_join_66 : decode cX6_join 66 = .ok (.lload 9, 2) := by decide +kernel
theorem dX6_join_68 : decode cX6_join 68 = .ok (.lload 11, 2) := by decide +kernel
theorem dX6_join_70 : decode cX6_join 70 = .ok (.invokevirtual 64, 3) := by decide +kernel
theorem dX6_join_73 : decode cX6_join 73 = .ok (.ifCond .eq 6, 3) := by decide +kernel
theorem dX6_join_79 : decode cX6_join 79 = .ok (.aload_n 0, 1) := by decide +kernel
theorem dX6_join_80 : decode cX6_join 80 = .ok (.getfield 10, 3) := by decide +kernel
theorem dX6_join_83 : decode cX6_join 83 = .ok (.lload 9, 2) := by decide +kernel
theorem dX6_join_85 : decode cX6_join 85 = .ok (.lload 11, 2) := by decide +kernel
theorem dX6_join_87 : decode cX6_join 87 = .ok (.invokevirtual 68, 3) := by decide +kernel
theorem dX6_join_90 : decode cX6_join 90 = .ok (.ifCond .eq 6, 3) := by decide +kernel
theorem dX6_join_96 : decode cX6_join 96 = .ok (.aload_n 0, 1) := by decide +kernel
theorem dX6_join_97 : decode cX6_join 97 = .ok (.getfield 10, 3) := by decide +kernel
theorem dX6_join_100 : decode cX6_join 100 = .ok (.getfield 71, 3) := by decide +kernel
theorem dX6_join_103 : decode cX6_join 103 = .ok (.sipush 1500, 3) := by decide +kernel
theorem dX6_join_106 : decode cX6_join 106 = .ok (.if_icmp .lt 6, 3) := by decide +kernel
theorem dX6_join_112 : decode cX6_join 112 = .ok (.aload_n 0, 1) := by decide +kernel
end
section
theorem dX6_join_113 : decode cX6_join 113 = .ok (.getfield 10, 3) := by decide +kernel
theorem dX6_join_116 : decode cX6_join 116 = .ok (.lload 9, 2) := by decide +kernel
theorem dX6_join_118 : decode cX6_join 118 = .ok (.lload 11, 2) := by decide +kernel
theorem dX6_join_120 : decode cX6_join 120 = .ok (.invokevirtual 75, 3) := by decide +kernel
theorem dX6_join_123 : decode cX6_join 123 = .ok (.aload_n 0, 1) := by decide +kernel
theorem dX6_join_124 : decode cX6_join 124 = .ok (.getfield 19, 3) := by decide +kernel
theorem dX6_join_127 : decode cX6_join 127 = .ok (.lload 9, 2) := by decide +kernel
theorem dX6_join_129 : decode cX6_join 129 = .ok (.invokevirtual 79, 3) := by decide +kernel
theorem dX6_join_132 : decode cX6_join 132 = .ok (.aload_n 0, 1) := by decide +kernel
theorem dX6_join_133 : decode cX6_join 133 = .ok (.getfield 19, 3) := by decide +kernel
theorem dX6_join_136 : decode cX6_join 136 = .ok (.lload 11, 2) := by decide +kernel
theorem dX6_join_138 : decode cX6_join 138 = .ok (.invokevirtual 79, 3) := by decide +kernel
theorem dX6_join_141 : decode cX6_join 141 = .ok (.aload_n 0, 1) := by decide +kernel
theorem dX6_join_142 : decode cX6_join 142 = .ok (.iconst 1, 1) := by decide +kernel
theorem dX6_join_143 : decode cX6_join 143 = .ok (.putfield 41, 3) := by decide +kernel
theorem dX6_join_146 : decode cX6_join 146 = .ok (.aload_n 0, 1) := by decide +kernel
theorem dX6_join_147 : decode cX6_join 147 = .ok (.getfield 10, 3) := by decide +kernel
theorem dX6_join_150 : decode cX6_join 150 = .ok (.getfield 71, 3) := by decide +kernel
theorem dX6_join_153 : decode cX6_join 153 = .ok (.ireturn, 1) := by decide +kernel
theorem dX6_cut_0 : decode cX6_cut 0 = .ok (.aload_n 0, 1) := by decide +kernel
theorem dX6_cut_1 : decode cX6_cut 1 = .ok (.iload_n 1, 1) := by decide +kernel
theorem dX6_cut_2 : decode cX6_cut 2 = .ok (.iload_n 2, 1) := by decide +kernel
theorem dX6_cut_3 : decode cX6_cut 3 = .ok (.iload_n 3, 1) := by decide +kernel
theorem dX6_cut_4 : decode cX6_cut 4 = .ok (.iload 4, 2) := by decide +kernel
theorem dX6_cut_6 : decode cX6_cut 6 = .ok (.invokevirtual 83, 3) := by decide +kernel
theorem dX6_cut_9 : decode cX6_cut 9 = .ok (.istore 5, 2) := by decide +kernel
theorem dX6_cut_11 : decode cX6_cut 11 = .ok (.iload 5, 2) := by decide +kernel
theorem dX6_cut_13 : decode cX6_cut 13 = .ok (.ifCond .ge 5, 3) := by decide +kernel
theorem dX6_cut_16 : decode cX6_cut 16 = .ok (.iconst 0, 1) := by decide +kernel
theorem dX6_cut_17 : decode cX6_cut 17 = .ok (.ireturn, 1) := by decide +kernel
theorem dX6_count_0 : decode cX6_count 0 = .ok (.iload_n 1, 1) := by decide +kernel
theorem dX6_count_1 : decode cX6_count 1 = .ok (.tableswitch 63 0 3 #[31, 39, 47, 55], 31) := by decide +kernel
theorem dX6_count_32 : decode cX6_count 32 = .ok (.aload_n 0, 1) := by decide +kernel
theorem dX6_count_33 : decode cX6_count 33 = .ok (.getfield 19, 3) := by decide +kernel
theorem dX6_count_36 : decode cX6_count 36 = .ok (.getfield 101, 3) := by decide +kernel
theorem dX6_count_39 : decode cX6_count 39 = .ok (.ireturn, 1) := by decide +kernel
theorem dX6_count_40 : decode cX6_count 40 = .ok (.aload_n 0, 1) := by decide +kernel
theorem dX6_count_41 : decode cX6_count 41 = .ok (.getfield 10, 3) := by decide +kernel
theorem dX6_count_44 : decode cX6_count 44 = .ok (.getfield 71, 3) := by decide +kernel
theorem dX6_count_47 : decode cX6_count 47 = .ok (.ireturn, 1) := by decide +kernel
theorem dX6_count_48 : decode cX6_count 48 = .ok (.aload_n 0, 1) := by decide +kernel
theorem dX6_count_49 : decode cX6_count 49 = .ok (.invokevirtual 102, 3) := by decide +kernel
theorem dX6_count_52 : decode cX6_count 52 = .ok (.getfield 106, 3) := by decide +kernel
theorem dX6_count_55 : decode cX6_count 55 = .ok (.ireturn, 1) := by decide +kernel
theorem dX6_count_56 : decode cX6_count 56 = .ok (.aload_n 0, 1) := by decide +kernel
theorem dX6_count_57 : decode cX6_count 57 = .ok (.invokevirtual 102, 3) := by decide +kernel
theorem dX6_count_60 : decode cX6_count 60 = .ok (.getfield 107, 3) := by decide +kernel
theorem dX6_count_63 : decode cX6_count 63 = .ok (.ireturn, 1) := by decide +kernel
theorem dX6_count_64 : decode cX6_count 64 = .ok (.iconst (-1), 1) := by decide +kernel
theorem dX6_count_65 : decode cX6_count 65 = .ok (.ireturn, 1) := by decide +kernel
theorem dX6_node_0 : decode cX6_node 0 = .ok (.iload_n 1, 1) := by decide +kernel
theorem dX6_node_1 : decode cX6_node 1 = .ok (.ifCond .lt 14, 3) := by decide +kernel
theorem dX6_node_4 : decode cX6_node 4 = .ok (.iload_n 1, 1) := by decide +kernel
theorem dX6_node_5 : decode cX6_node 5 = .ok (.aload_n 0, 1) := by decide +kernel
theorem dX6_node_6 : decode cX6_node 6 = .ok (.getfield 19, 3) := by decide +kernel
theorem dX6_node_9 : decode cX6_node 9 = .ok (.getfield 101, 3) := by decide +kernel
theorem dX6_node_12 : decode cX6_node 12 = .ok (.if_icmp .lt 6, 3) := by decide +kernel
theorem dX6_node_15 : decode cX6_node 15 = .ok (.ldc 110, 2) := by decide +kernel
theorem dX6_node_17 : decode cX6_node 17 = .ok (.ireturn, 1) := by decide +kernel
theorem dX6_piece_0 : decode cX6_piece 0 = .ok (.iload_n 1, 1) := by decide +kernel
theorem dX6_piece_1 : decode cX6_piece 1 = .ok (.ifCond .lt 14, 3) := by decide +kernel
theorem dX6_piece_4 : decode cX6_piece 4 = .ok (.iload_n 1, 1) := by decide +kernel
theorem dX6_piece_5 : decode cX6_piece 5 = .ok (.aload_n 0, 1) := by decide +kernel
theorem dX6_piece_6 : decode cX6_piece 6 = .ok (.getfield 10, 3) := by decide +kernel
theorem dX6_piece_9 : decode cX6_piece 9 = .ok (.getfield 71, 3) := by decide +kernel
theorem dX6_piece_12 : decode cX6_piece 12 = .ok (.if_icmp .lt 5, 3) := by decide +kernel
theorem dX6_piece_15 : decode cX6_piece 15 = .ok (.iconst (-1), 1) := by decide +kernel
theorem dX6_piece_16 : decode cX6_piece 16 = .ok (.ireturn, 1) := by decide +kernel
theorem dX6_left_0 : decode cX6_left 0 = .ok (.aload_n 0, 1) := by decide +kernel
theorem dX6_left_1 : decode cX6_left 1 = .ok (.iload_n 1, 1) := by decide +kernel
theorem dX6_left_2 : decode cX6_left 2 = .ok (.iload_n 2, 1) := by decide +kernel
theorem dX6_left_3 : decode cX6_left 3 = .ok (.iload_n 3, 1) := by decide +kernel
theorem dX6_left_4 : decode cX6_left 4 = .ok (.iload 4, 2) := by decide +kernel
theorem dX6_left_6 : decode cX6_left 6 = .ok (.invokevirtual 83, 3) := by decide +kernel
theorem dX6_left_9 : decode cX6_left 9 = .ok (.istore 5, 2) := by decide +kernel
theorem dX6_left_11 : decode cX6_left 11 = .ok (.iload 5, 2) := by decide +kernel
theorem dX6_left_13 : decode cX6_left 13 = .ok (.ifCond .ge 5, 3) := by decide +kernel
theorem dX6_left_16 : decode cX6_left 16 = .ok (.iconst (-1), 1) := by decide +kernel
theorem dX6_left_17 : decode cX6_left 17 = .ok (.ireturn, 1) := by decide +kernel
theorem dX6_face_0 : decode cX6_face 0 = .ok (.aload_n 0, 1) := by decide +kernel
theorem dX6_face_1 : decode cX6_face 1 = .ok (.invokevirtual 102, 3) := by decide +kernel
theorem dX6_face_4 : decode cX6_face 4 = .ok (.astore_n 3, 1) := by decide +kernel
theorem dX6_face_5 : decode cX6_face 5 = .ok (.aload_n 3, 1) := by decide +kernel
theorem dX6_face_6 : decode cX6_face 6 = .ok (.iload_n 1, 1) := by decide +kernel
theorem dX6_face_7 : decode cX6_face 7 = .ok (.invokevirtual 140, 3) := by decide +kernel
theorem dX6_face_10 : decode cX6_face 10 = .ok (.ifCond .ne 5, 3) := by decide +kernel
theorem dX6_face_13 : decode cX6_face 13 = .ok (.iconst (-1), 1) := by decide +kernel
theorem dX6_face_14 : decode cX6_face 14 = .ok (.ireturn, 1) := by decide +kernel
theorem dX6_face_15 : decode cX6_face 15 = .ok (.iload_n 2, 1) := by decide +kernel
theorem dX6_face_16 : decode cX6_face 16 = .ok (.tableswitch 60 0 3 #[32, 39, 46, 53], 32) := by decide +kernel
theorem dX6_face_48 : decode cX6_face 48 = .ok (.aload_n 3, 1) := by decide +kernel
theorem dX6_face_49 : decode cX6_face 49 = .ok (.getfield 143, 3) := by decide +kernel
theorem dX6_face_52 : decode cX6_face 52 = .ok (.iload_n 1, 1) := by decide +kernel
theorem dX6_face_53 : decode cX6_face 53 = .ok (.iaload, 1) := by decide +kernel
theorem dX6_face_54 : decode cX6_face 54 = .ok (.ireturn, 1) := by decide +kernel
theorem dX6_face_55 : decode cX6_face 55 = .ok (.aload_n 3, 1) := by decide +kernel
theorem dX6_face_56 : decode cX6_face 56 = .ok (.getfield 146, 3) := by decide +kernel
theorem dX6_face_59 : decode cX6_face 59 = .ok (.iload_n 1, 1) := by decide +kernel
theorem dX6_face_60 : decode cX6_face 60 = .ok (.iaload, 1) := by decide +kernel
theorem dX6_face_61 : decode cX6_face 61 = .ok (.ireturn, 1) := by decide +kernel
theorem dX6_face_62 : decode cX6_face 62 = .ok (.aload_n 3, 1) := by decide +kernel
theorem dX6_face_63 : decode cX6_face 63 = .ok (.getfield 149, 3) := by decide +kernel
theorem dX6_face_66 : decode cX6_face 66 = .ok (.iload_n 1, 1) := by decide +kernel
theorem dX6_face_67 : decode cX6_face 67 = .ok (.iaload, 1) := by decide +kernel
theorem dX6_face_68 : decode cX6_face 68 = .ok (.ireturn, 1) := by decide +kernel
theorem dX6_face_69 : decode cX6_face 69 = .ok (.aload_n 3, 1) := by decide +kernel
theorem dX6_face_70 : decode cX6_face 70 = .ok (.getfield 152, 3) := by decide +kernel
theorem dX6_face_73 : decode cX6_face 73 = .ok (.iload_n 1, 1) := by decide +kernel
theorem dX6_face_74 : decode cX6_face 74 = .ok (.iaload, 1) := by decide +kernel
theorem dX6_face_75 : decode cX6_face 75 = .ok (.ireturn, 1) := by decide +kernel
theorem dX6_face_76 : decode cX6_face 76 = .ok (.iconst (-1), 1) := by decide +kernel
theorem dX6_face_77 : decode cX6_face 77 = .ok (.ireturn, 1) := by decide +kernel
theorem dX6_area2_0 : decode cX6_area2 0 = .ok (.aload_n 0, 1) := by decide +kernel
theorem dX6_area2_1 : decode cX6_area2 1 = .ok (.invokevirtual 102, 3) := by decide +kernel
theorem dX6_area2_4 : decode cX6_area2 4 = .ok (.astore_n 2, 1) := by decide +kernel
theorem dX6_area2_5 : decode cX6_area2 5 = .ok (.iload_n 1, 1) := by decide +kernel
theorem dX6_area2_6 : decode cX6_area2 6 = .ok (.ifCond .eq 20, 3) := by decide +kernel
theorem dX6_area2_9 : decode cX6_area2 9 = .ok (.aload_n 2, 1) := by decide +kernel
theorem dX6_area2_10 : decode cX6_area2 10 = .ok (.iload_n 1, 1) := by decide +kernel
theorem dX6_area2_11 : decode cX6_area2 11 = .ok (.invokevirtual 140, 3) := by decide +kernel
theorem dX6_area2_14 : decode cX6_area2 14 = .ok (.ifCond .eq 12, 3) := by decide +kernel
theorem dX6_area2_26 : decode cX6_area2 26 = .ok (.lconst 0, 1) := by decide +kernel
theorem dX6_area2_27 : decode cX6_area2 27 = .ok (.lreturn, 1) := by decide +kernel
theorem dX6_locate_0 : decode cX6_locate 0 = .ok (.iload_n 1, 1) := by decide +kernel
theorem dX6_locate_1 : decode cX6_locate 1 = .ok (.iload_n 2, 1) := by decide +kernel
theorem dX6_locate_2 : decode cX6_locate 2 = .ok (.invokestatic 45, 3) := by decide +kernel
theorem dX6_locate_5 : decode cX6_locate 5 = .ok (.ifCond .ne 5, 3) := by decide +kernel
theorem dX6_locate_8 : decode cX6_locate 8 = .ok (.iconst 0, 1) := by decide +kernel
theorem dX6_locate_9 : decode cX6_locate 9 = .ok (.ireturn, 1) := by decide +kernel
theorem dX6_locate_10 : decode cX6_locate 10 = .ok (.iload_n 1, 1) := by decide +kernel
theorem dX6_locate_11 : decode cX6_locate 11 = .ok (.iload_n 2, 1) := by decide +kernel
theorem dX6_locate_12 : decode cX6_locate 12 = .ok (.invokestatic 51, 3) := by decide +kernel
theorem dX6_locate_15 : decode cX6_locate 15 = .ok (.lstore_n 3, 1) := by decide +kernel
theorem dX6_locate_16 : decode cX6_locate 16 = .ok (.aload_n 0, 1) := by decide +kernel
theorem dX6_locate_17 : decode cX6_locate 17 = .ok (.getfield 10, 3) := by decide +kernel
theorem dX6_locate_20 : decode cX6_locate 20 = .ok (.lload_n 3, 1) := by decide +kernel
theorem dX6_locate_21 : decode cX6_locate 21 = .ok (.invokevirtual 158, 3) := by decide +kernel
theorem dX6_locate_24 : decode cX6_locate 24 = .ok (.istore 5, 2) := by decide +kernel
theorem dX6_locate_26 : decode cX6_locate 26 = .ok (.iload 5, 2) := by decide +kernel
theorem dX6_locate_28 : decode cX6_locate 28 = .ok (.ifCond .lt 8, 3) := by decide +kernel
theorem dX6_locate_36 : decode cX6_locate 36 = .ok (.aload_n 0, 1) := by decide +kernel
theorem dX6_locate_37 : decode cX6_locate 37 = .ok (.invokevirtual 102, 3) := by decide +kernel
theorem dX6_locate_40 : decode cX6_locate 40 = .ok (.aload_n 0, 1) := by decide +kernel
theorem dX6_locate_41 : decode cX6_locate 41 = .ok (.getfield 10, 3) := by decide +kernel
theorem dX6_locate_44 : decode cX6_locate 44 = .ok (.lload_n 3, 1) := by decide +kernel
theorem dX6_locate_45 : decode cX6_locate 45 = .ok (.invokevirtual 161, 3) := by decide +kernel
theorem dX6_locate_48 : decode cX6_locate 48 = .ok (.invokevirtual 164, 3) := by decide +kernel
theorem dX6_locate_51 : decode cX6_locate 51 = .ok (.ireturn, 1) := by decide +kernel
theorem dX6_between_0 : decode cX6_between 0 = .ok (.aload_n 0, 1) := by decide +kernel
theorem dX6_between_1 : decode cX6_between 1 = .ok (.invokevirtual 102, 3) := by decide +kernel
theorem dX6_between_4 : decode cX6_between 4 = .ok (.astore_n 3, 1) := by decide +kernel
theorem dX6_between_5 : decode cX6_between 5 = .ok (.aload_n 3, 1) := by decide +kernel
theorem dX6_between_6 : decode cX6_between 6 = .ok (.iload_n 1, 1) := by decide +kernel
theorem dX6_between_7 : decode cX6_between 7 = .ok (.invokevirtual 140, 3) := by decide +kernel
theorem dX6_between_10 : decode cX6_between 10 = .ok (.ifCond .eq 20, 3) := by decide +kernel
theorem dX6_between_13 : decode cX6_between 13 = .ok (.aload_n 3, 1) := by decide +kernel
theorem dX6_between_14 : decode cX6_between 14 = .ok (.iload_n 2, 1) := by decide +kernel
theorem dX6_between_15 : decode cX6_between 15 = .ok (.invokevirtual 140, 3) := by decide +kernel
theorem dX6_between_18 : decode cX6_between 18 = .ok (.ifCond .eq 12, 3) := by decide +kernel
theorem dX6_between_21 : decode cX6_between 21 = .ok (.aload_n 3, 1) := by decide +kernel
theorem dX6_between_22 : decode cX6_between 22 = .ok (.iload_n 1, 1) := by decide +kernel
theorem dX6_between_23 : decode cX6_between 23 = .ok (.iload_n 2, 1) := by decide +kernel
theorem dX6_between_24 : decode cX6_between 24 = .ok (.invokevirtual 167, 3) := by decide +kernel
theorem dX6_between_27 : decode cX6_between 27 = .ok (.goto 4, 3) := by decide +kernel
theorem dX6_between_30 : decode cX6_between 30 = .ok (.iconst (-1), 1) := by decide +kernel
theorem dX6_between_31 : decode cX6_between 31 = .ok (.ireturn, 1) := by decide +kernel
theorem dX6_numberOf_0 : decode cX6_numberOf 0 = .ok (.iload_n 1, 1) := by decide +kernel
theorem dX6_numberOf_1 : decode cX6_numberOf 1 = .ok (.iload_n 2, 1) := by decide +kernel
theorem dX6_numberOf_2 : decode cX6_numberOf 2 = .ok (.invokestatic 45, 3) := by decide +kernel
theorem dX6_numberOf_5 : decode cX6_numberOf 5 = .ok (.ifCond .eq 12, 3) := by decide +kernel
theorem dX6_numberOf_8 : decode cX6_numberOf 8 = .ok (.iload_n 3, 1) := by decide +kernel
theorem dX6_numberOf_9 : decode cX6_numberOf 9 = .ok (.iload 4, 2) := by decide +kernel
theorem dX6_numberOf_11 : decode cX6_numberOf 11 = .ok (.invokestatic 45, 3) := by decide +kernel
theorem dX6_numberOf_14 : decode cX6_numberOf 14 = .ok (.ifCond .ne 5, 3) := by decide +kernel
theorem dX6_numberOf_17 : decode cX6_numberOf 17 = .ok (.iconst (-1), 1) := by decide +kernel
theorem dX6_numberOf_18 : decode cX6_numberOf 18 = .ok (.ireturn, 1) := by decide +kernel
theorem dX6_numberOf_19 : decode cX6_numberOf 19 = .ok (.iload_n 1, 1) := by decide +kernel
theorem dX6_numberOf_20 : decode cX6_numberOf 20 = .ok (.iload_n 2, 1) := by decide +kernel
theorem dX6_numberOf_21 : decode cX6_numberOf 21 = .ok (.invokestatic 51, 3) := by decide +kernel
theorem dX6_numberOf_24 : decode cX6_numberOf 24 = .ok (.lstore 5, 2) := by decide +kernel
theorem dX6_numberOf_26 : decode cX6_numberOf 26 = .ok (.iload_n 3, 1) := by decide +kernel
theorem dX6_numberOf_27 : decode cX6_numberOf 27 = .ok (.iload 4, 2) := by decide +kernel
theorem dX6_numberOf_29 : decode cX6_numberOf 29 = .ok (.invokestatic 51, 3) := by decide +kernel
theorem dX6_numberOf_32 : decode cX6_numberOf 32 = .ok (.lstore 7, 2) := by decide +kernel
theorem dX6_numberOf_34 : decode cX6_numberOf 34 = .ok (.lload 5, 2) := by decide +kernel
theorem dX6_numberOf_36 : decode cX6_numberOf 36 = .ok (.lload 7, 2) := by decide +kernel
theorem dX6_numberOf_38 : decode cX6_numberOf 38 = .ok (.invokestatic 55, 3) := by decide +kernel
theorem dX6_numberOf_41 : decode cX6_numberOf 41 = .ok (.lstore 9, 2) := by decide +kernel
theorem dX6_numberOf_43 : decode cX6_numberOf 43 = .ok (.lload 5, 2) := by decide +kernel
theorem dX6_numberOf_45 : decode cX6_numberOf 45 = .ok (.lload 7, 2) := by decide +kernel
theorem dX6_numberOf_47 : decode cX6_numberOf 47 = .ok (.invokestatic 61, 3) := by decide +kernel
theorem dX6_numberOf_50 : decode cX6_numberOf 50 = .ok (.lstore 11, 2) := by decide +kernel
theorem dX6_numberOf_52 : decode cX6_numberOf 52 = .ok (.aload_n 0, 1) := by decide +kernel
theorem dX6_numberOf_53 : decode cX6_numberOf 53 = .ok (.getfield 10, 3) := by decide +kernel
theorem dX6_numberOf_56 : decode cX6_numberOf 56 = .ok (.lload 9, 2) := by decide +kernel
theorem dX6_numberOf_58 : decode cX6_numberOf 58 = .ok (.lload 11, 2) := by decide +kernel
theorem dX6_numberOf_60 : decode cX6_numberOf 60 = .ok (.invokevirtual 64, 3) := by decide +kernel
theorem dX6_numberOf_63 : decode cX6_numberOf 63 = .ok (.ifCond .eq 17, 3) := by decide +kernel
theorem dX6_numberOf_80 : decode cX6_numberOf 80 = .ok (.iconst (-1), 1) := by decide +kernel
theorem dX6_numberOf_81 : decode cX6_numberOf 81 = .ok (.ireturn, 1) := by decide +kernel
theorem dX6_freshFaces_0 : decode cX6_freshFaces 0 = .ok (.aload_n 0, 1) := by decide +kernel
theorem dX6_freshFaces_1 : decode cX6_freshFaces 1 = .ok (.getfield 41, 3) := by decide +kernel
theorem dX6_freshFaces_4 : decode cX6_freshFaces 4 = .ok (.ifCond .eq 22, 3) := by decide +kernel
theorem dX6_freshFaces_26 : decode cX6_freshFaces 26 = .ok (.aload_n 0, 1) := by decide +kernel
theorem dX6_freshFaces_27 : decode cX6_freshFaces 27 = .ok (.getfield 37, 3) := by decide +kernel
theorem dX6_freshFaces_30 : decode cX6_freshFaces 30 = .ok (.areturn, 1) := by decide +kernel
theorem dX7_init_0 : decode cX7_init 0 = .ok (.aload_n 0, 1) := by decide +kernel
theorem dX7_init_1 : decode cX7_init 1 = .ok (.invokespecial 1, 3) := by decide +kernel
theorem dX7_init_4 : decode cX7_init 4 = .ok (.aload_n 0, 1) := by decide +kernel
theorem dX7_init_5 : decode cX7_init 5 = .ok (.iconst 0, 1) := by decide +kernel
theorem dX7_init_6 : decode cX7_init 6 = .ok (.newarray .int, 2) := by decide +kernel
theorem dX7_init_8 : decode cX7_init 8 = .ok (.putfield 7, 3) := by decide +kernel
theorem dX7_init_11 : decode cX7_init 11 = .ok (.aload_n 0, 1) := by decide +kernel
theorem dX7_init_12 : decode cX7_init 12 = .ok (.iconst 0, 1) := by decide +kernel
theorem dX7_init_13 : decode cX7_init 13 = .ok (.newarray .int, 2) := by decide +kernel
theorem dX7_init_15 : decode cX7_init 15 = .ok (.putfield 13, 3) := by decide +kernel
theorem dX7_init_18 : decode cX7_init 18 = .ok (.aload_n 0, 1) := by decide +kernel
theorem dX7_init_19 : decode cX7_init 19 = .ok (.iconst 0, 1) := by decide +kernel
theorem dX7_init_20 : decode cX7_init 20 = .ok (.newarray .int, 2) := by decide +kernel
theorem dX7_init_22 : decode cX7_init 22 = .ok (.putfield 16, 3) := by decide +kernel
theorem dX7_init_25 : decode cX7_init 25 = .ok (.aload_n 0, 1) := by decide +kernel
theorem dX7_init_26 : decode cX7_init 26 = .ok (.iconst 0, 1) := by decide +kernel
theorem dX7_init_27 : decode cX7_init 27 = .ok (.newarray .int, 2) := by decide +kernel
theorem dX7_init_29 : decode cX7_init 29 = .ok (.putfield 19, 3) := by decide +kernel
theorem dX7_init_32 : decode cX7_init 32 = .ok (.aload_n 0, 1) := by decide +kernel
theorem dX7_init_33 : decode cX7_init 33 = .ok (.iconst 0, 1) := by decide +kernel
theorem dX7_init_34 : decode cX7_init 34 = .ok (.newarray .int, 2) := by decide +kernel
theorem dX7_init_36 : decode cX7_init 36 = .ok (.putfield 22, 3) := by decide +kernel
theorem dX7_init_39 : decode cX7_init 39 = .ok (.aload_n 0, 1) := by decide +kernel
theorem dX7_init_40 : decode cX7_init 40 = .ok (.iconst 0, 1) := by decide +kernel
theorem dX7_init_41 : decode cX7_init 41 = .ok (.newarray .int, 2) := by decide +kernel
theorem dX7_init_43 : decode cX7_init 43 = .ok (.putfield 25, 3) := by decide +kernel
theorem dX7_init_46 : decode cX7_init 46 = .ok (.aload_n 0, 1) := by decide +kernel
theorem dX7_init_47 : decode cX7_init 47 = .ok (.iconst 0, 1) := by decide +kernel
theorem dX7_init_48 : decode cX7_init 48 = .ok (.newarray .int, 2) := by decide +kernel
theorem dX7_init_50 : decode cX7_init 50 = .ok (.putfield 28, 3) := by decide +kernel
theorem dX7_init_53 : decode cX7_init 53 = .ok (.aload_n 0, 1) := by decide +kernel
theorem dX7_init_54 : decode cX7_init 54 = .ok (.iconst 0, 1) := by decide +kernel
theorem dX7_init_55 : decode cX7_init 55 = .ok (.newarray .int, 2) := by decide +kernel
theorem dX7_init_57 : decode cX7_init 57 = .ok (.putfield 31, 3) := by decide +kernel
theorem dX7_init_60 : decode cX7_init 60 = .ok (.aload_n 0, 1) := by decide +kernel
theorem dX7_init_61 : decode cX7_init 61 = .ok (.iconst 0, 1) := by decide +kernel
theorem dX7_init_62 : decode cX7_init 62 = .ok (.newarray .long, 2) := by decide +kernel
theorem dX7_init_64 : decode cX7_init 64 = .ok (.putfield 34, 3) := by decide +kernel
theorem dX7_init_67 : decode cX7_init 67 = .ok (.aload_n 0, 1) := by decide +kernel
theorem dX7_init_68 : decode cX7_init 68 = .ok (.iconst 0, 1) := by decide +kernel
theorem dX7_init_69 : decode cX7_init 69 = .ok (.newarray .int, 2) := by decide +kernel
theorem dX7_init_71 : decode cX7_init 71 = .ok (.putfield 38, 3) := by decide +kernel
theorem dX7_init_74 : decode cX7_init 74 = .ok (.aload_n 0, 1) := by decide +kernel
theorem dX7_init_75 : decode cX7_init 75 = .ok (.iconst 0, 1) := by decide +kernel
theorem dX7_init_76 : decode cX7_init 76 = .ok (.newarray .int, 2) := by decide +kernel
theorem dX7_init_78 : decode cX7_init 78 = .ok (.putfield 41, 3) := by decide +kernel
theorem dX7_init_81 : decode cX7_init 81 = .ok (.aload_n 0, 1) := by decide +kernel
theorem dX7_init_82 : decode cX7_init 82 = .ok (.iconst 0, 1) := by decide +kernel
theorem dX7_init_83 : decode cX7_init 83 = .ok (.newarray .int, 2) := by decide +kernel
theorem dX7_init_85 : decode cX7_init 85 = .ok (.putfield 44, 3) := by decide +kernel
theorem dX7_init_88 : decode cX7_init 88 = .ok (.aload_n 0, 1) := by decide +kernel
theorem dX7_init_89 : decode cX7_init 89 = .ok (.iconst 0, 1) := by decide +kernel
theorem dX7_init_90 : decode cX7_init 90 = .ok (.newarray .boolean, 2) := by decide +kernel
theorem dX7_init_92 : decode cX7_init 92 = .ok (.putfield 47, 3) := by decide +kernel
end
section
theorem dX7_init_95 : decode cX7_init 95 = .ok (.return_, 1) := by decide +kernel
theorem dX7_room_0 : decode cX7_room 0 = .ok (.aload_n 0, 1) := by decide +kernel
theorem dX7_room_1 : decode cX7_room 1 = .ok (.getfield 7, 3) := by decide +kernel
theorem dX7_room_4 : decode cX7_room 4 = .ok (.arraylength, 1) := by decide +kernel
theorem dX7_room_5 : decode cX7_room 5 = .ok (.iload_n 1, 1) := by decide +kernel
theorem dX7_room_6 : decode cX7_room 6 = .ok (.if_icmp .ge 33, 3) := by decide +kernel
theorem dX7_room_9 : decode cX7_room 9 = .ok (.aload_n 0, 1) := by decide +kernel
theorem dX7_room_10 : decode cX7_room 10 = .ok (.iload_n 1, 1) := by decide +kernel
theorem dX7_room_11 : decode cX7_room 11 = .ok (.newarray .int, 2) := by decide +kernel
theorem dX7_room_13 : decode cX7_room 13 = .ok (.putfield 7, 3) := by decide +kernel
theorem dX7_room_16 : decode cX7_room 16 = .ok (.aload_n 0, 1) := by decide +kernel
theorem dX7_room_17 : decode cX7_room 17 = .ok (.iload_n 1, 1) := by decide +kernel
theorem dX7_room_18 : decode cX7_room 18 = .ok (.newarray .int, 2) := by decide +kernel
theorem dX7_room_20 : decode cX7_room 20 = .ok (.putfield 13, 3) := by decide +kernel
theorem dX7_room_23 : decode cX7_room 23 = .ok (.aload_n 0, 1) := by decide +kernel
theorem dX7_room_24 : decode cX7_room 24 = .ok (.iload_n 1, 1) := by decide +kernel
theorem dX7_room_25 : decode cX7_room 25 = .ok (.iconst 1, 1) := by decide +kernel
theorem dX7_room_26 : decode cX7_room 26 = .ok (.iadd, 1) := by decide +kernel
theorem dX7_room_27 : decode cX7_room 27 = .ok (.newarray .int, 2) := by decide +kernel
theorem dX7_room_29 : decode cX7_room 29 = .ok (.putfield 22, 3) := by decide +kernel
theorem dX7_room_32 : decode cX7_room 32 = .ok (.aload_n 0, 1) := by decide +kernel
theorem dX7_room_33 : decode cX7_room 33 = .ok (.iload_n 1, 1) := by decide +kernel
theorem dX7_room_34 : decode cX7_room 34 = .ok (.newarray .int, 2) := by decide +kernel
theorem dX7_room_36 : decode cX7_room 36 = .ok (.putfield 44, 3) := by decide +kernel
theorem dX7_room_39 : decode cX7_room 39 = .ok (.aload_n 0, 1) := by decide +kernel
theorem dX7_room_40 : decode cX7_room 40 = .ok (.getfield 16, 3) := by decide +kernel
theorem dX7_room_43 : decode cX7_room 43 = .ok (.arraylength, 1) := by decide +kernel
theorem dX7_room_44 : decode cX7_room 44 = .ok (.iload_n 2, 1) := by decide +kernel
theorem dX7_room_45 : decode cX7_room 45 = .ok (.if_icmp .ge 88, 3) := by decide +kernel
theorem dX7_room_48 : decode cX7_room 48 = .ok (.aload_n 0, 1) := by decide +kernel
theorem dX7_room_49 : decode cX7_room 49 = .ok (.iload_n 2, 1) := by decide +kernel
theorem dX7_room_50 : decode cX7_room 50 = .ok (.newarray .int, 2) := by decide +kernel
theorem dX7_room_52 : decode cX7_room 52 = .ok (.putfield 16, 3) := by decide +kernel
theorem dX7_room_55 : decode cX7_room 55 = .ok (.aload_n 0, 1) := by decide +kernel
theorem dX7_room_56 : decode cX7_room 56 = .ok (.iload_n 2, 1) := by decide +kernel
theorem dX7_room_57 : decode cX7_room 57 = .ok (.newarray .int, 2) := by decide +kernel
theorem dX7_room_59 : decode cX7_room 59 = .ok (.putfield 19, 3) := by decide +kernel
theorem dX7_room_62 : decode cX7_room 62 = .ok (.aload_n 0, 1) := by decide +kernel
theorem dX7_room_63 : decode cX7_room 63 = .ok (.iconst 2, 1) := by decide +kernel
theorem dX7_room_64 : decode cX7_room 64 = .ok (.iload_n 2, 1) := by decide +kernel
theorem dX7_room_65 : decode cX7_room 65 = .ok (.imul, 1) := by decide +kernel
theorem dX7_room_66 : decode cX7_room 66 = .ok (.newarray .int, 2) := by decide +kernel
theorem dX7_room_68 : decode cX7_room 68 = .ok (.putfield 25, 3) := by decide +kernel
theorem dX7_room_71 : decode cX7_room 71 = .ok (.aload_n 0, 1) := by decide +kernel
theorem dX7_room_72 : decode cX7_room 72 = .ok (.iconst 2, 1) := by decide +kernel
theorem dX7_room_73 : decode cX7_room 73 = .ok (.iload_n 2, 1) := by decide +kernel
theorem dX7_room_74 : decode cX7_room 74 = .ok (.imul, 1) := by decide +kernel
theorem dX7_room_75 : decode cX7_room 75 = .ok (.newarray .int, 2) := by decide +kernel
theorem dX7_room_77 : decode cX7_room 77 = .ok (.putfield 28, 3) := by decide +kernel
theorem dX7_room_80 : decode cX7_room 80 = .ok (.aload_n 0, 1) := by decide +kernel
theorem dX7_room_81 : decode cX7_room 81 = .ok (.iconst 2, 1) := by decide +kernel
theorem dX7_room_82 : decode cX7_room 82 = .ok (.iload_n 2, 1) := by decide +kernel
theorem dX7_room_83 : decode cX7_room 83 = .ok (.imul, 1) := by decide +kernel
theorem dX7_room_84 : decode cX7_room 84 = .ok (.newarray .int, 2) := by decide +kernel
theorem dX7_room_86 : decode cX7_room 86 = .ok (.putfield 31, 3) := by decide +kernel
theorem dX7_room_89 : decode cX7_room 89 = .ok (.aload_n 0, 1) := by decide +kernel
theorem dX7_room_90 : decode cX7_room 90 = .ok (.iconst 2, 1) := by decide +kernel
theorem dX7_room_91 : decode cX7_room 91 = .ok (.iload_n 2, 1) := by decide +kernel
theorem dX7_room_92 : decode cX7_room 92 = .ok (.imul, 1) := by decide +kernel
theorem dX7_room_93 : decode cX7_room 93 = .ok (.iconst 1, 1) := by decide +kernel
theorem dX7_room_94 : decode cX7_room 94 = .ok (.iadd, 1) := by decide +kernel
theorem dX7_room_95 : decode cX7_room 95 = .ok (.newarray .long, 2) := by decide +kernel
theorem dX7_room_97 : decode cX7_room 97 = .ok (.putfield 34, 3) := by decide +kernel
theorem dX7_room_100 : decode cX7_room 100 = .ok (.aload_n 0, 1) := by decide +kernel
theorem dX7_room_101 : decode cX7_room 101 = .ok (.iconst 2, 1) := by decide +kernel
theorem dX7_room_102 : decode cX7_room 102 = .ok (.iload_n 2, 1) := by decide +kernel
theorem dX7_room_103 : decode cX7_room 103 = .ok (.imul, 1) := by decide +kernel
theorem dX7_room_104 : decode cX7_room 104 = .ok (.iconst 1, 1) := by decide +kernel
theorem dX7_room_105 : decode cX7_room 105 = .ok (.iadd, 1) := by decide +kernel
theorem dX7_room_106 : decode cX7_room 106 = .ok (.newarray .int, 2) := by decide +kernel
theorem dX7_room_108 : decode cX7_room 108 = .ok (.putfield 38, 3) := by decide +kernel
theorem dX7_room_111 : decode cX7_room 111 = .ok (.aload_n 0, 1) := by decide +kernel
theorem dX7_room_112 : decode cX7_room 112 = .ok (.iconst 2, 1) := by decide +kernel
theorem dX7_room_113 : decode cX7_room 113 = .ok (.iload_n 2, 1) := by decide +kernel
theorem dX7_room_114 : decode cX7_room 114 = .ok (.imul, 1) := by decide +kernel
theorem dX7_room_115 : decode cX7_room 115 = .ok (.iconst 1, 1) := by decide +kernel
theorem dX7_room_116 : decode cX7_room 116 = .ok (.iadd, 1) := by decide +kernel
theorem dX7_room_117 : decode cX7_room 117 = .ok (.newarray .int, 2) := by decide +kernel
theorem dX7_room_119 : decode cX7_room 119 = .ok (.putfield 41, 3) := by decide +kernel
theorem dX7_room_122 : decode cX7_room 122 = .ok (.aload_n 0, 1) := by decide +kernel
theorem dX7_room_123 : decode cX7_room 123 = .ok (.iconst 2, 1) := by decide +kernel
theorem dX7_room_124 : decode cX7_room 124 = .ok (.iload_n 2, 1) := by decide +kernel
theorem dX7_room_125 : decode cX7_room 125 = .ok (.imul, 1) := by decide +kernel
theorem dX7_room_126 : decode cX7_room 126 = .ok (.iconst 1, 1) := by decide +kernel
theorem dX7_room_127 : decode cX7_room 127 = .ok (.iadd, 1) := by decide +kernel
theorem dX7_room_128 : decode cX7_room 128 = .ok (.newarray .boolean, 2) := by decide +kernel
theorem dX7_room_130 : decode cX7_room 130 = .ok (.putfield 47, 3) := by decide +kernel
theorem dX7_room_133 : decode cX7_room 133 = .ok (.return_, 1) := by decide +kernel
theorem dX7_sortOut_0 : decode cX7_sortOut 0 = .ok (.iconst 0, 1) := by decide +kernel
theorem dX7_sortOut_1 : decode cX7_sortOut 1 = .ok (.istore_n 1, 1) := by decide +kernel
theorem dX7_sortOut_2 : decode cX7_sortOut 2 = .ok (.iload_n 1, 1) := by decide +kernel
theorem dX7_sortOut_3 : decode cX7_sortOut 3 = .ok (.aload_n 0, 1) := by decide +kernel
theorem dX7_sortOut_4 : decode cX7_sortOut 4 = .ok (.getfield 67, 3) := by decide +kernel
theorem dX7_sortOut_7 : decode cX7_sortOut 7 = .ok (.if_icmp .gt 16, 3) := by decide +kernel
theorem dX7_sortOut_10 : decode cX7_sortOut 10 = .ok (.aload_n 0, 1) := by decide +kernel
theorem dX7_sortOut_11 : decode cX7_sortOut 11 = .ok (.getfield 22, 3) := by decide +kernel
theorem dX7_sortOut_14 : decode cX7_sortOut 14 = .ok (.iload_n 1, 1) := by decide +kernel
theorem dX7_sortOut_15 : decode cX7_sortOut 15 = .ok (.iconst 0, 1) := by decide +kernel
theorem dX7_sortOut_16 : decode cX7_sortOut 16 = .ok (.iastore, 1) := by decide +kernel
theorem dX7_sortOut_17 : decode cX7_sortOut 17 = .ok (.iinc 1 1, 3) := by decide +kernel
theorem dX7_sortOut_20 : decode cX7_sortOut 20 = .ok (.goto (-18), 3) := by decide +kernel
theorem dX7_sortOut_23 : decode cX7_sortOut 23 = .ok (.iconst 0, 1) := by decide +kernel
theorem dX7_sortOut_24 : decode cX7_sortOut 24 = .ok (.istore_n 1, 1) := by decide +kernel
theorem dX7_sortOut_25 : decode cX7_sortOut 25 = .ok (.iload_n 1, 1) := by decide +kernel
theorem dX7_sortOut_26 : decode cX7_sortOut 26 = .ok (.iconst 2, 1) := by decide +kernel
theorem dX7_sortOut_27 : decode cX7_sortOut 27 = .ok (.aload_n 0, 1) := by decide +kernel
theorem dX7_sortOut_28 : decode cX7_sortOut 28 = .ok (.getfield 71, 3) := by decide +kernel
theorem dX7_sortOut_31 : decode cX7_sortOut 31 = .ok (.imul, 1) := by decide +kernel
theorem dX7_sortOut_32 : decode cX7_sortOut 32 = .ok (.if_icmp .ge 23, 3) := by decide +kernel
theorem dX7_sortOut_55 : decode cX7_sortOut 55 = .ok (.iconst 0, 1) := by decide +kernel
theorem dX7_sortOut_56 : decode cX7_sortOut 56 = .ok (.istore_n 1, 1) := by decide +kernel
theorem dX7_sortOut_57 : decode cX7_sortOut 57 = .ok (.iconst 0, 1) := by decide +kernel
theorem dX7_sortOut_58 : decode cX7_sortOut 58 = .ok (.istore_n 2, 1) := by decide +kernel
theorem dX7_sortOut_59 : decode cX7_sortOut 59 = .ok (.iload_n 2, 1) := by decide +kernel
theorem dX7_sortOut_60 : decode cX7_sortOut 60 = .ok (.aload_n 0, 1) := by decide +kernel
theorem dX7_sortOut_61 : decode cX7_sortOut 61 = .ok (.getfield 67, 3) := by decide +kernel
theorem dX7_sortOut_64 : decode cX7_sortOut 64 = .ok (.if_icmp .gt 39, 3) := by decide +kernel
theorem dX7_sortOut_67 : decode cX7_sortOut 67 = .ok (.iload_n 2, 1) := by decide +kernel
theorem dX7_sortOut_68 : decode cX7_sortOut 68 = .ok (.aload_n 0, 1) := by decide +kernel
theorem dX7_sortOut_69 : decode cX7_sortOut 69 = .ok (.getfield 67, 3) := by decide +kernel
theorem dX7_sortOut_72 : decode cX7_sortOut 72 = .ok (.if_icmp .ge 12, 3) := by decide +kernel
theorem dX7_sortOut_84 : decode cX7_sortOut 84 = .ok (.iconst 0, 1) := by decide +kernel
theorem dX7_sortOut_85 : decode cX7_sortOut 85 = .ok (.istore_n 3, 1) := by decide +kernel
theorem dX7_sortOut_86 : decode cX7_sortOut 86 = .ok (.aload_n 0, 1) := by decide +kernel
theorem dX7_sortOut_87 : decode cX7_sortOut 87 = .ok (.getfield 22, 3) := by decide +kernel
theorem dX7_sortOut_90 : decode cX7_sortOut 90 = .ok (.iload_n 2, 1) := by decide +kernel
theorem dX7_sortOut_91 : decode cX7_sortOut 91 = .ok (.iload_n 1, 1) := by decide +kernel
theorem dX7_sortOut_92 : decode cX7_sortOut 92 = .ok (.iastore, 1) := by decide +kernel
theorem dX7_sortOut_93 : decode cX7_sortOut 93 = .ok (.iload_n 1, 1) := by decide +kernel
theorem dX7_sortOut_94 : decode cX7_sortOut 94 = .ok (.iload_n 3, 1) := by decide +kernel
theorem dX7_sortOut_95 : decode cX7_sortOut 95 = .ok (.iadd, 1) := by decide +kernel
theorem dX7_sortOut_96 : decode cX7_sortOut 96 = .ok (.istore_n 1, 1) := by decide +kernel
theorem dX7_sortOut_97 : decode cX7_sortOut 97 = .ok (.iinc 2 1, 3) := by decide +kernel
theorem dX7_sortOut_100 : decode cX7_sortOut 100 = .ok (.goto (-41), 3) := by decide +kernel
theorem dX7_sortOut_103 : decode cX7_sortOut 103 = .ok (.iconst 0, 1) := by decide +kernel
theorem dX7_sortOut_104 : decode cX7_sortOut 104 = .ok (.istore_n 2, 1) := by decide +kernel
theorem dX7_sortOut_105 : decode cX7_sortOut 105 = .ok (.iload_n 2, 1) := by decide +kernel
theorem dX7_sortOut_106 : decode cX7_sortOut 106 = .ok (.iconst 2, 1) := by decide +kernel
theorem dX7_sortOut_107 : decode cX7_sortOut 107 = .ok (.aload_n 0, 1) := by decide +kernel
theorem dX7_sortOut_108 : decode cX7_sortOut 108 = .ok (.getfield 71, 3) := by decide +kernel
theorem dX7_sortOut_111 : decode cX7_sortOut 111 = .ok (.imul, 1) := by decide +kernel
theorem dX7_sortOut_112 : decode cX7_sortOut 112 = .ok (.if_icmp .ge 16, 3) := by decide +kernel
theorem dX7_sortOut_128 : decode cX7_sortOut 128 = .ok (.iconst 0, 1) := by decide +kernel
theorem dX7_sortOut_129 : decode cX7_sortOut 129 = .ok (.istore_n 2, 1) := by decide +kernel
theorem dX7_sortOut_130 : decode cX7_sortOut 130 = .ok (.iload_n 2, 1) := by decide +kernel
theorem dX7_sortOut_131 : decode cX7_sortOut 131 = .ok (.iconst 2, 1) := by decide +kernel
theorem dX7_sortOut_132 : decode cX7_sortOut 132 = .ok (.aload_n 0, 1) := by decide +kernel
theorem dX7_sortOut_133 : decode cX7_sortOut 133 = .ok (.getfield 71, 3) := by decide +kernel
theorem dX7_sortOut_136 : decode cX7_sortOut 136 = .ok (.imul, 1) := by decide +kernel
theorem dX7_sortOut_137 : decode cX7_sortOut 137 = .ok (.if_icmp .ge 83, 3) := by decide +kernel
theorem dX7_sortOut_220 : decode cX7_sortOut 220 = .ok (.iconst 0, 1) := by decide +kernel
theorem dX7_sortOut_221 : decode cX7_sortOut 221 = .ok (.istore_n 2, 1) := by decide +kernel
theorem dX7_sortOut_222 : decode cX7_sortOut 222 = .ok (.iload_n 2, 1) := by decide +kernel
theorem dX7_sortOut_223 : decode cX7_sortOut 223 = .ok (.iconst 2, 1) := by decide +kernel
theorem dX7_sortOut_224 : decode cX7_sortOut 224 = .ok (.aload_n 0, 1) := by decide +kernel
theorem dX7_sortOut_225 : decode cX7_sortOut 225 = .ok (.getfield 71, 3) := by decide +kernel
theorem dX7_sortOut_228 : decode cX7_sortOut 228 = .ok (.imul, 1) := by decide +kernel
theorem dX7_sortOut_229 : decode cX7_sortOut 229 = .ok (.if_icmp .ge 21, 3) := by decide +kernel
theorem dX7_sortOut_250 : decode cX7_sortOut 250 = .ok (.return_, 1) := by decide +kernel
theorem dX7_build_0 : decode cX7_build 0 = .ok (.aload_n 0, 1) := by decide +kernel
theorem dX7_build_1 : decode cX7_build 1 = .ok (.invokevirtual 81, 3) := by decide +kernel
theorem dX7_build_4 : decode cX7_build 4 = .ok (.iconst 0, 1) := by decide +kernel
theorem dX7_build_5 : decode cX7_build 5 = .ok (.istore_n 1, 1) := by decide +kernel
theorem dX7_build_6 : decode cX7_build 6 = .ok (.iload_n 1, 1) := by decide +kernel
theorem dX7_build_7 : decode cX7_build 7 = .ok (.aload_n 0, 1) := by decide +kernel
theorem dX7_build_8 : decode cX7_build 8 = .ok (.getfield 67, 3) := by decide +kernel
theorem dX7_build_11 : decode cX7_build 11 = .ok (.if_icmp .ge 16, 3) := by decide +kernel
theorem dX7_build_27 : decode cX7_build 27 = .ok (.iconst 0, 1) := by decide +kernel
theorem dX7_build_28 : decode cX7_build 28 = .ok (.istore_n 1, 1) := by decide +kernel
theorem dX7_build_29 : decode cX7_build 29 = .ok (.iload_n 1, 1) := by decide +kernel
theorem dX7_build_30 : decode cX7_build 30 = .ok (.aload_n 0, 1) := by decide +kernel
theorem dX7_build_31 : decode cX7_build 31 = .ok (.getfield 71, 3) := by decide +kernel
theorem dX7_build_34 : decode cX7_build 34 = .ok (.if_icmp .ge 34, 3) := by decide +kernel
theorem dX7_build_68 : decode cX7_build 68 = .ok (.iconst 0, 1) := by decide +kernel
theorem dX7_build_69 : decode cX7_build 69 = .ok (.istore_n 1, 1) := by decide +kernel
theorem dX7_build_70 : decode cX7_build 70 = .ok (.iload_n 1, 1) := by decide +kernel
theorem dX7_build_71 : decode cX7_build 71 = .ok (.aload_n 0, 1) := by decide +kernel
theorem dX7_build_72 : decode cX7_build 72 = .ok (.getfield 67, 3) := by decide +kernel
theorem dX7_build_75 : decode cX7_build 75 = .ok (.if_icmp .ge 20, 3) := by decide +kernel
theorem dX7_build_95 : decode cX7_build 95 = .ok (.aload_n 0, 1) := by decide +kernel
theorem dX7_build_96 : decode cX7_build 96 = .ok (.iconst 0, 1) := by decide +kernel
theorem dX7_build_97 : decode cX7_build 97 = .ok (.putfield 87, 3) := by decide +kernel
theorem dX7_build_100 : decode cX7_build 100 = .ok (.iconst 0, 1) := by decide +kernel
theorem dX7_build_101 : decode cX7_build 101 = .ok (.istore_n 1, 1) := by decide +kernel
theorem dX7_build_102 : decode cX7_build 102 = .ok (.iload_n 1, 1) := by decide +kernel
theorem dX7_build_103 : decode cX7_build 103 = .ok (.iconst 2, 1) := by decide +kernel
theorem dX7_build_104 : decode cX7_build 104 = .ok (.aload_n 0, 1) := by decide +kernel
theorem dX7_build_105 : decode cX7_build 105 = .ok (.getfield 71, 3) := by decide +kernel
theorem dX7_build_108 : decode cX7_build 108 = .ok (.imul, 1) := by decide +kernel
theorem dX7_build_109 : decode cX7_build 109 = .ok (.if_icmp .ge 16, 3) := by decide +kernel
theorem dX7_build_125 : decode cX7_build 125 = .ok (.iconst 0, 1) := by decide +kernel
theorem dX7_build_126 : decode cX7_build 126 = .ok (.istore_n 1, 1) := by decide +kernel
theorem dX7_build_127 : decode cX7_build 127 = .ok (.iload_n 1, 1) := by decide +kernel
theorem dX7_build_128 : decode cX7_build 128 = .ok (.iconst 2, 1) := by decide +kernel
theorem dX7_build_129 : decode cX7_build 129 = .ok (.aload_n 0, 1) := by decide +kernel
theorem dX7_build_130 : decode cX7_build 130 = .ok (.getfield 71, 3) := by decide +kernel
theorem dX7_build_133 : decode cX7_build 133 = .ok (.imul, 1) := by decide +kernel
theorem dX7_build_134 : decode cX7_build 134 = .ok (.if_icmp .ge 23, 3) := by decide +kernel
theorem dX7_build_157 : decode cX7_build 157 = .ok (.aload_n 0, 1) := by decide +kernel
theorem dX7_build_158 : decode cX7_build 158 = .ok (.invokevirtual 94, 3) := by decide +kernel
theorem dX7_build_161 : decode cX7_build 161 = .ok (.iconst 0, 1) := by decide +kernel
theorem dX7_build_162 : decode cX7_build 162 = .ok (.istore_n 1, 1) := by decide +kernel
theorem dX7_build_163 : decode cX7_build 163 = .ok (.iload_n 1, 1) := by decide +kernel
theorem dX7_build_164 : decode cX7_build 164 = .ok (.aload_n 0, 1) := by decide +kernel
theorem dX7_build_165 : decode cX7_build 165 = .ok (.getfield 87, 3) := by decide +kernel
theorem dX7_build_168 : decode cX7_build 168 = .ok (.if_icmp .ge 55, 3) := by decide +kernel
theorem dX7_build_223 : decode cX7_build 223 = .ok (.return_, 1) := by decide +kernel
theorem dX7_number_0 : decode cX7_number 0 = .ok (.aload_n 0, 1) := by decide +kernel
theorem dX7_number_1 : decode cX7_number 1 = .ok (.iconst 1, 1) := by decide +kernel
theorem dX7_number_2 : decode cX7_number 2 = .ok (.putfield 107, 3) := by decide +kernel
theorem dX7_number_5 : decode cX7_number 5 = .ok (.iconst (-1), 1) := by decide +kernel
theorem dX7_number_6 : decode cX7_number 6 = .ok (.istore_n 1, 1) := by decide +kernel
theorem dX7_number_7 : decode cX7_number 7 = .ok (.iconst 1, 1) := by decide +kernel
theorem dX7_number_8 : decode cX7_number 8 = .ok (.istore_n 2, 1) := by decide +kernel
theorem dX7_number_9 : decode cX7_number 9 = .ok (.iload_n 2, 1) := by decide +kernel
theorem dX7_number_10 : decode cX7_number 10 = .ok (.ifCond .eq 131, 3) := by decide +kernel
theorem dX7_number_13 : decode cX7_number 13 = .ok (.iconst (-1), 1) := by decide +kernel
theorem dX7_number_14 : decode cX7_number 14 = .ok (.istore_n 3, 1) := by decide +kernel
theorem dX7_number_15 : decode cX7_number 15 = .ok (.iconst 0, 1) := by decide +kernel
theorem dX7_number_16 : decode cX7_number 16 = .ok (.istore 4, 2) := by decide +kernel
theorem dX7_number_18 : decode cX7_number 18 = .ok (.iload 4, 2) := by decide +kernel
theorem dX7_number_20 : decode cX7_number 20 = .ok (.aload_n 0, 1) := by decide +kernel
theorem dX7_number_21 : decode cX7_number 21 = .ok (.getfield 87, 3) := by decide +kernel
theorem dX7_number_24 : decode cX7_number 24 = .ok (.if_icmp .ge 75, 3) := by decide +kernel
theorem dX7_number_99 : decode cX7_number 99 = .ok (.iload_n 3, 1) := by decide +kernel
theorem dX7_number_100 : decode cX7_number 100 = .ok (.ifCond .lt 7, 3) := by decide +kernel
theorem dX7_number_107 : decode cX7_number 107 = .ok (.iconst 0, 1) := by decide +kernel
theorem dX7_number_108 : decode cX7_number 108 = .ok (.istore_n 2, 1) := by decide +kernel
theorem dX7_number_109 : decode cX7_number 109 = .ok (.iload_n 2, 1) := by decide +kernel
theorem dX7_number_110 : decode cX7_number 110 = .ok (.ifCond .ne 6, 3) := by decide +kernel
theorem dX7_number_113 : decode cX7_number 113 = .ok (.goto (-104), 3) := by decide +kernel
theorem dX7_number_141 : decode cX7_number 141 = .ok (.return_, 1) := by decide +kernel
theorem dX7_inside_0 : decode cX7_inside 0 = .ok (.iconst 0, 1) := by decide +kernel
theorem dX7_inside_1 : decode cX7_inside 1 = .ok (.istore 6, 2) := by decide +kernel
theorem dX7_inside_3 : decode cX7_inside 3 = .ok (.iload 6, 2) := by decide +kernel
theorem dX7_inside_5 : decode cX7_inside 5 = .ok (.aload_n 0, 1) := by decide +kernel
theorem dX7_inside_6 : decode cX7_inside 6 = .ok (.getfield 87, 3) := by decide +kernel
theorem dX7_inside_9 : decode cX7_inside 9 = .ok (.if_icmp .ge 17, 3) := by decide +kernel
theorem dX7_inside_26 : decode cX7_inside 26 = .ok (.iconst 0, 1) := by decide +kernel
theorem dX7_inside_27 : decode cX7_inside 27 = .ok (.istore 6, 2) := by decide +kernel
theorem dX7_inside_29 : decode cX7_inside 29 = .ok (.iload 6, 2) := by decide +kernel
theorem dX7_inside_31 : decode cX7_inside 31 = .ok (.iconst 2, 1) := by decide +kernel
theorem dX7_inside_32 : decode cX7_inside 32 = .ok (.aload_n 0, 1) := by decide +kernel
theorem dX7_inside_33 : decode cX7_inside 33 = .ok (.getfield 71, 3) := by decide +kernel
theorem dX7_inside_36 : decode cX7_inside 36 = .ok (.imul, 1) := by decide +kernel
theorem dX7_inside_37 : decode cX7_inside 37 = .ok (.if_icmp .ge 215, 3) := by decide +kernel
theorem dX7_inside_252 : decode cX7_inside 252 = .ok (.iconst (-1), 1) := by decide +kernel
theorem dX7_inside_253 : decode cX7_inside 253 = .ok (.istore 6, 2) := by decide +kernel
theorem dX7_inside_255 : decode cX7_inside 255 = .ok (.iconst 0, 1) := by decide +kernel
theorem dX7_inside_256 : decode cX7_inside 256 = .ok (.istore 7, 2) := by decide +kernel
theorem dX7_inside_258 : decode cX7_inside 258 = .ok (.iload 7, 2) := by decide +kernel
theorem dX7_inside_260 : decode cX7_inside 260 = .ok (.aload_n 0, 1) := by decide +kernel
theorem dX7_inside_261 : decode cX7_inside 261 = .ok (.getfield 87, 3) := by decide +kernel
theorem dX7_inside_264 : decode cX7_inside 264 = .ok (.if_icmp .ge 46, 3) := by decide +kernel
theorem dX7_inside_310 : decode cX7_inside 310 = .ok (.iload 6, 2) := by decide +kernel
theorem dX7_inside_312 : decode cX7_inside 312 = .ok (.ifCond .ge 7, 3) := by decide +kernel
theorem dX7_inside_315 : decode cX7_inside 315 = .ok (.iconst 0, 1) := by decide +kernel
theorem dX7_inside_316 : decode cX7_inside 316 = .ok (.goto 10, 3) := by decide +kernel
theorem dX7_inside_326 : decode cX7_inside 326 = .ok (.ireturn, 1) := by decide +kernel
theorem dX7_ringsOf_0 : decode cX7_ringsOf 0 = .ok (.iconst 0, 1) := by decide +kernel
end
section
theorem dX7_ringsOf_1 : decode cX7_ringsOf 1 = .ok (.istore_n 2, 1) := by decide +kernel
theorem dX7_ringsOf_2 : decode cX7_ringsOf 2 = .ok (.iconst 0, 1) := by decide +kernel
theorem dX7_ringsOf_3 : decode cX7_ringsOf 3 = .ok (.istore_n 3, 1) := by decide +kernel
theorem dX7_ringsOf_4 : decode cX7_ringsOf 4 = .ok (.iload_n 3, 1) := by decide +kernel
theorem dX7_ringsOf_5 : decode cX7_ringsOf 5 = .ok (.aload_n 0, 1) := by decide +kernel
theorem dX7_ringsOf_6 : decode cX7_ringsOf 6 = .ok (.getfield 87, 3) := by decide +kernel
theorem dX7_ringsOf_9 : decode cX7_ringsOf 9 = .ok (.if_icmp .ge 22, 3) := by decide +kernel
theorem dX7_ringsOf_31 : decode cX7_ringsOf 31 = .ok (.iload_n 2, 1) := by decide +kernel
theorem dX7_ringsOf_32 : decode cX7_ringsOf 32 = .ok (.ireturn, 1) := by decide +kernel
theorem dX7_waysOf_0 : decode cX7_waysOf 0 = .ok (.iconst 0, 1) := by decide +kernel
theorem dX7_waysOf_1 : decode cX7_waysOf 1 = .ok (.istore_n 2, 1) := by decide +kernel
theorem dX7_waysOf_2 : decode cX7_waysOf 2 = .ok (.iconst 0, 1) := by decide +kernel
theorem dX7_waysOf_3 : decode cX7_waysOf 3 = .ok (.istore_n 3, 1) := by decide +kernel
theorem dX7_waysOf_4 : decode cX7_waysOf 4 = .ok (.iload_n 3, 1) := by decide +kernel
theorem dX7_waysOf_5 : decode cX7_waysOf 5 = .ok (.iconst 2, 1) := by decide +kernel
theorem dX7_waysOf_6 : decode cX7_waysOf 6 = .ok (.aload_n 0, 1) := by decide +kernel
theorem dX7_waysOf_7 : decode cX7_waysOf 7 = .ok (.getfield 71, 3) := by decide +kernel
theorem dX7_waysOf_10 : decode cX7_waysOf 10 = .ok (.imul, 1) := by decide +kernel
theorem dX7_waysOf_11 : decode cX7_waysOf 11 = .ok (.if_icmp .ge 21, 3) := by decide +kernel
theorem dX7_waysOf_32 : decode cX7_waysOf 32 = .ok (.iload_n 2, 1) := by decide +kernel
theorem dX7_waysOf_33 : decode cX7_waysOf 33 = .ok (.ireturn, 1) := by decide +kernel
theorem dX7_keyOf_0 : decode cX7_keyOf 0 = .ok (.iconst 0, 1) := by decide +kernel
theorem dX7_keyOf_1 : decode cX7_keyOf 1 = .ok (.istore_n 2, 1) := by decide +kernel
theorem dX7_keyOf_2 : decode cX7_keyOf 2 = .ok (.iload_n 2, 1) := by decide +kernel
theorem dX7_keyOf_3 : decode cX7_keyOf 3 = .ok (.aload_n 0, 1) := by decide +kernel
theorem dX7_keyOf_4 : decode cX7_keyOf 4 = .ok (.getfield 87, 3) := by decide +kernel
theorem dX7_keyOf_7 : decode cX7_keyOf 7 = .ok (.if_icmp .ge 37, 3) := by decide +kernel
theorem dX7_keyOf_44 : decode cX7_keyOf 44 = .ok (.iconst (-1), 1) := by decide +kernel
theorem dX7_keyOf_45 : decode cX7_keyOf 45 = .ok (.ireturn, 1) := by decide +kernel
theorem dX7_parts_0 : decode cX7_parts 0 = .ok (.iconst 0, 1) := by decide +kernel
theorem dX7_parts_1 : decode cX7_parts 1 = .ok (.istore_n 1, 1) := by decide +kernel
theorem dX7_parts_2 : decode cX7_parts 2 = .ok (.iconst 0, 1) := by decide +kernel
theorem dX7_parts_3 : decode cX7_parts 3 = .ok (.istore_n 2, 1) := by decide +kernel
theorem dX7_parts_4 : decode cX7_parts 4 = .ok (.iload_n 2, 1) := by decide +kernel
theorem dX7_parts_5 : decode cX7_parts 5 = .ok (.aload_n 0, 1) := by decide +kernel
theorem dX7_parts_6 : decode cX7_parts 6 = .ok (.getfield 67, 3) := by decide +kernel
theorem dX7_parts_9 : decode cX7_parts 9 = .ok (.if_icmp .ge 22, 3) := by decide +kernel
theorem dX7_parts_31 : decode cX7_parts 31 = .ok (.iload_n 1, 1) := by decide +kernel
theorem dX7_parts_32 : decode cX7_parts 32 = .ok (.ireturn, 1) := by decide +kernel
theorem dX8_init_0 : decode cX8_init 0 = .ok (.aload_n 0, 1) := by decide +kernel
theorem dX8_init_1 : decode cX8_init 1 = .ok (.invokespecial 1, 3) := by decide +kernel
theorem dX8_init_4 : decode cX8_init 4 = .ok (.aload_n 0, 1) := by decide +kernel
theorem dX8_init_5 : decode cX8_init 5 = .ok (.bipush 64, 2) := by decide +kernel
theorem dX8_init_7 : decode cX8_init 7 = .ok (.newarray .long, 2) := by decide +kernel
theorem dX8_init_9 : decode cX8_init 9 = .ok (.putfield 7, 3) := by decide +kernel
theorem dX8_init_12 : decode cX8_init 12 = .ok (.return_, 1) := by decide +kernel
theorem dX8_clear_0 : decode cX8_clear 0 = .ok (.aload_n 0, 1) := by decide +kernel
theorem dX8_clear_1 : decode cX8_clear 1 = .ok (.iconst 0, 1) := by decide +kernel
theorem dX8_clear_2 : decode cX8_clear 2 = .ok (.putfield 13, 3) := by decide +kernel
theorem dX8_clear_5 : decode cX8_clear 5 = .ok (.return_, 1) := by decide +kernel
theorem dX8_sort_0 : decode cX8_sort 0 = .ok (.aload_n 0, 1) := by decide +kernel
theorem dX8_sort_1 : decode cX8_sort 1 = .ok (.getfield 13, 3) := by decide +kernel
theorem dX8_sort_4 : decode cX8_sort 4 = .ok (.iconst 2, 1) := by decide +kernel
theorem dX8_sort_5 : decode cX8_sort 5 = .ok (.idiv, 1) := by decide +kernel
theorem dX8_sort_6 : decode cX8_sort 6 = .ok (.iconst 1, 1) := by decide +kernel
theorem dX8_sort_7 : decode cX8_sort 7 = .ok (.isub, 1) := by decide +kernel
theorem dX8_sort_8 : decode cX8_sort 8 = .ok (.istore_n 1, 1) := by decide +kernel
theorem dX8_sort_9 : decode cX8_sort 9 = .ok (.iload_n 1, 1) := by decide +kernel
theorem dX8_sort_10 : decode cX8_sort 10 = .ok (.ifCond .lt 18, 3) := by decide +kernel
theorem dX8_sort_28 : decode cX8_sort 28 = .ok (.aload_n 0, 1) := by decide +kernel
theorem dX8_sort_29 : decode cX8_sort 29 = .ok (.getfield 13, 3) := by decide +kernel
theorem dX8_sort_32 : decode cX8_sort 32 = .ok (.iconst 1, 1) := by decide +kernel
theorem dX8_sort_33 : decode cX8_sort 33 = .ok (.isub, 1) := by decide +kernel
theorem dX8_sort_34 : decode cX8_sort 34 = .ok (.istore_n 1, 1) := by decide +kernel
theorem dX8_sort_35 : decode cX8_sort 35 = .ok (.iload_n 1, 1) := by decide +kernel
theorem dX8_sort_36 : decode cX8_sort 36 = .ok (.ifCond .le 41, 3) := by decide +kernel
theorem dX8_sort_77 : decode cX8_sort 77 = .ok (.iconst 0, 1) := by decide +kernel
theorem dX8_sort_78 : decode cX8_sort 78 = .ok (.istore_n 1, 1) := by decide +kernel
theorem dX8_sort_79 : decode cX8_sort 79 = .ok (.iconst 0, 1) := by decide +kernel
theorem dX8_sort_80 : decode cX8_sort 80 = .ok (.istore_n 2, 1) := by decide +kernel
theorem dX8_sort_81 : decode cX8_sort 81 = .ok (.iload_n 2, 1) := by decide +kernel
theorem dX8_sort_82 : decode cX8_sort 82 = .ok (.aload_n 0, 1) := by decide +kernel
theorem dX8_sort_83 : decode cX8_sort 83 = .ok (.getfield 13, 3) := by decide +kernel
theorem dX8_sort_86 : decode cX8_sort 86 = .ok (.if_icmp .ge 49, 3) := by decide +kernel
theorem dX8_sort_135 : decode cX8_sort 135 = .ok (.aload_n 0, 1) := by decide +kernel
theorem dX8_sort_136 : decode cX8_sort 136 = .ok (.iload_n 1, 1) := by decide +kernel
theorem dX8_sort_137 : decode cX8_sort 137 = .ok (.putfield 13, 3) := by decide +kernel
theorem dX8_sort_140 : decode cX8_sort 140 = .ok (.return_, 1) := by decide +kernel
theorem dX9_init_0 : decode cX9_init 0 = .ok (.aload_n 0, 1) := by decide +kernel
theorem dX9_init_1 : decode cX9_init 1 = .ok (.invokespecial 28, 3) := by decide +kernel
theorem dX9_init_4 : decode cX9_init 4 = .ok (.aload_n 0, 1) := by decide +kernel
theorem dX9_init_5 : decode cX9_init 5 = .ok (.sipush 6000, 3) := by decide +kernel
theorem dX9_init_8 : decode cX9_init 8 = .ok (.newarray .int, 2) := by decide +kernel
theorem dX9_init_10 : decode cX9_init 10 = .ok (.putfield 34, 3) := by decide +kernel
theorem dX9_init_13 : decode cX9_init 13 = .ok (.aload_n 0, 1) := by decide +kernel
theorem dX9_init_14 : decode cX9_init 14 = .ok (.new 38, 3) := by decide +kernel
theorem dX9_init_17 : decode cX9_init 17 = .ok (.dup, 1) := by decide +kernel
theorem dX9_init_18 : decode cX9_init 18 = .ok (.invokespecial 40, 3) := by decide +kernel
theorem dX9_init_21 : decode cX9_init 21 = .ok (.putfield 41, 3) := by decide +kernel
theorem dX9_init_24 : decode cX9_init 24 = .ok (.aload_n 0, 1) := by decide +kernel
theorem dX9_init_25 : decode cX9_init 25 = .ok (.new 45, 3) := by decide +kernel
theorem dX9_init_28 : decode cX9_init 28 = .ok (.dup, 1) := by decide +kernel
theorem dX9_init_29 : decode cX9_init 29 = .ok (.invokespecial 47, 3) := by decide +kernel
theorem dX9_init_32 : decode cX9_init 32 = .ok (.putfield 48, 3) := by decide +kernel
theorem dX9_init_35 : decode cX9_init 35 = .ok (.return_, 1) := by decide +kernel
theorem dX9_isIn_0 : decode cX9_isIn 0 = .ok (.iload_n 0, 1) := by decide +kernel
theorem dX9_isIn_1 : decode cX9_isIn 1 = .ok (.ldc 52, 2) := by decide +kernel
theorem dX9_isIn_3 : decode cX9_isIn 3 = .ok (.if_icmp .lt 25, 3) := by decide +kernel
theorem dX9_isIn_6 : decode cX9_isIn 6 = .ok (.iload_n 0, 1) := by decide +kernel
theorem dX9_isIn_7 : decode cX9_isIn 7 = .ok (.ldc 53, 2) := by decide +kernel
theorem dX9_isIn_9 : decode cX9_isIn 9 = .ok (.if_icmp .gt 19, 3) := by decide +kernel
theorem dX9_isIn_12 : decode cX9_isIn 12 = .ok (.iload_n 1, 1) := by decide +kernel
theorem dX9_isIn_13 : decode cX9_isIn 13 = .ok (.ldc 52, 2) := by decide +kernel
theorem dX9_isIn_15 : decode cX9_isIn 15 = .ok (.if_icmp .lt 13, 3) := by decide +kernel
theorem dX9_isIn_18 : decode cX9_isIn 18 = .ok (.iload_n 1, 1) := by decide +kernel
theorem dX9_isIn_19 : decode cX9_isIn 19 = .ok (.ldc 53, 2) := by decide +kernel
theorem dX9_isIn_21 : decode cX9_isIn 21 = .ok (.if_icmp .gt 7, 3) := by decide +kernel
theorem dX9_isIn_24 : decode cX9_isIn 24 = .ok (.iconst 1, 1) := by decide +kernel
theorem dX9_isIn_25 : decode cX9_isIn 25 = .ok (.goto 4, 3) := by decide +kernel
theorem dX9_isIn_28 : decode cX9_isIn 28 = .ok (.iconst 0, 1) := by decide +kernel
theorem dX9_isIn_29 : decode cX9_isIn 29 = .ok (.ireturn, 1) := by decide +kernel
theorem dX9_compare_0 : decode cX9_compare 0 = .ok (.iload_n 0, 1) := by decide +kernel
theorem dX9_compare_1 : decode cX9_compare 1 = .ok (.iload_n 2, 1) := by decide +kernel
theorem dX9_compare_2 : decode cX9_compare 2 = .ok (.if_icmp .eq 16, 3) := by decide +kernel
theorem dX9_compare_5 : decode cX9_compare 5 = .ok (.iload_n 0, 1) := by decide +kernel
theorem dX9_compare_6 : decode cX9_compare 6 = .ok (.iload_n 2, 1) := by decide +kernel
theorem dX9_compare_7 : decode cX9_compare 7 = .ok (.if_icmp .ge 7, 3) := by decide +kernel
theorem dX9_compare_10 : decode cX9_compare 10 = .ok (.iconst (-1), 1) := by decide +kernel
theorem dX9_compare_11 : decode cX9_compare 11 = .ok (.goto 26, 3) := by decide +kernel
theorem dX9_compare_14 : decode cX9_compare 14 = .ok (.iconst 1, 1) := by decide +kernel
theorem dX9_compare_15 : decode cX9_compare 15 = .ok (.goto 22, 3) := by decide +kernel
theorem dX9_compare_18 : decode cX9_compare 18 = .ok (.iload_n 1, 1) := by decide +kernel
theorem dX9_compare_19 : decode cX9_compare 19 = .ok (.iload_n 3, 1) := by decide +kernel
theorem dX9_compare_20 : decode cX9_compare 20 = .ok (.if_icmp .eq 16, 3) := by decide +kernel
theorem dX9_compare_23 : decode cX9_compare 23 = .ok (.iload_n 1, 1) := by decide +kernel
theorem dX9_compare_24 : decode cX9_compare 24 = .ok (.iload_n 3, 1) := by decide +kernel
theorem dX9_compare_25 : decode cX9_compare 25 = .ok (.if_icmp .ge 7, 3) := by decide +kernel
theorem dX9_compare_28 : decode cX9_compare 28 = .ok (.iconst (-1), 1) := by decide +kernel
theorem dX9_compare_29 : decode cX9_compare 29 = .ok (.goto 8, 3) := by decide +kernel
theorem dX9_compare_32 : decode cX9_compare 32 = .ok (.iconst 1, 1) := by decide +kernel
theorem dX9_compare_33 : decode cX9_compare 33 = .ok (.goto 4, 3) := by decide +kernel
theorem dX9_compare_36 : decode cX9_compare 36 = .ok (.iconst 0, 1) := by decide +kernel
theorem dX9_compare_37 : decode cX9_compare 37 = .ok (.ireturn, 1) := by decide +kernel
theorem dX9_from_0 : decode cX9_from 0 = .ok (.iconst 0, 1) := by decide +kernel
theorem dX9_from_1 : decode cX9_from 1 = .ok (.istore 5, 2) := by decide +kernel
theorem dX9_from_3 : decode cX9_from 3 = .ok (.iload 5, 2) := by decide +kernel
theorem dX9_from_5 : decode cX9_from 5 = .ok (.aload_n 0, 1) := by decide +kernel
theorem dX9_from_6 : decode cX9_from 6 = .ok (.getfield 54, 3) := by decide +kernel
theorem dX9_from_9 : decode cX9_from 9 = .ok (.if_icmp .ge 79, 3) := by decide +kernel
theorem dX9_from_88 : decode cX9_from 88 = .ok (.iload 5, 2) := by decide +kernel
theorem dX9_from_90 : decode cX9_from 90 = .ok (.ireturn, 1) := by decide +kernel
theorem dX9_isAt_0 : decode cX9_isAt 0 = .ok (.iload_n 1, 1) := by decide +kernel
theorem dX9_isAt_1 : decode cX9_isAt 1 = .ok (.aload_n 0, 1) := by decide +kernel
theorem dX9_isAt_2 : decode cX9_isAt 2 = .ok (.getfield 54, 3) := by decide +kernel
theorem dX9_isAt_5 : decode cX9_isAt 5 = .ok (.if_icmp .ge 63, 3) := by decide +kernel
theorem dX9_isAt_68 : decode cX9_isAt 68 = .ok (.iconst 0, 1) := by decide +kernel
theorem dX9_isAt_69 : decode cX9_isAt 69 = .ok (.ireturn, 1) := by decide +kernel
theorem dX9_join_0 : decode cX9_join 0 = .ok (.iload_n 1, 1) := by decide +kernel
theorem dX9_join_1 : decode cX9_join 1 = .ok (.iload_n 2, 1) := by decide +kernel
theorem dX9_join_2 : decode cX9_join 2 = .ok (.invokestatic 65, 3) := by decide +kernel
theorem dX9_join_5 : decode cX9_join 5 = .ok (.ifCond .eq 23, 3) := by decide +kernel
theorem dX9_join_8 : decode cX9_join 8 = .ok (.iload_n 3, 1) := by decide +kernel
theorem dX9_join_9 : decode cX9_join 9 = .ok (.iload 4, 2) := by decide +kernel
theorem dX9_join_11 : decode cX9_join 11 = .ok (.invokestatic 65, 3) := by decide +kernel
theorem dX9_join_14 : decode cX9_join 14 = .ok (.ifCond .eq 14, 3) := by decide +kernel
theorem dX9_join_17 : decode cX9_join 17 = .ok (.iload_n 1, 1) := by decide +kernel
theorem dX9_join_18 : decode cX9_join 18 = .ok (.iload_n 3, 1) := by decide +kernel
theorem dX9_join_19 : decode cX9_join 19 = .ok (.if_icmp .ne 11, 3) := by decide +kernel
theorem dX9_join_22 : decode cX9_join 22 = .ok (.iload_n 2, 1) := by decide +kernel
theorem dX9_join_23 : decode cX9_join 23 = .ok (.iload 4, 2) := by decide +kernel
theorem dX9_join_25 : decode cX9_join 25 = .ok (.if_icmp .ne 5, 3) := by decide +kernel
theorem dX9_join_28 : decode cX9_join 28 = .ok (.iconst (-1), 1) := by decide +kernel
theorem dX9_join_29 : decode cX9_join 29 = .ok (.ireturn, 1) := by decide +kernel
theorem dX9_join_30 : decode cX9_join 30 = .ok (.iload_n 1, 1) := by decide +kernel
theorem dX9_join_31 : decode cX9_join 31 = .ok (.iload_n 2, 1) := by decide +kernel
theorem dX9_join_32 : decode cX9_join 32 = .ok (.iload_n 3, 1) := by decide +kernel
theorem dX9_join_33 : decode cX9_join 33 = .ok (.iload 4, 2) := by decide +kernel
theorem dX9_join_35 : decode cX9_join 35 = .ok (.invokestatic 58, 3) := by decide +kernel
theorem dX9_join_38 : decode cX9_join 38 = .ok (.ifCond .le 13, 3) := by decide +kernel
theorem dX9_join_41 : decode cX9_join 41 = .ok (.aload_n 0, 1) := by decide +kernel
theorem dX9_join_42 : decode cX9_join 42 = .ok (.iload_n 3, 1) := by decide +kernel
theorem dX9_join_43 : decode cX9_join 43 = .ok (.iload 4, 2) := by decide +kernel
theorem dX9_join_45 : decode cX9_join 45 = .ok (.iload_n 1, 1) := by decide +kernel
theorem dX9_join_46 : decode cX9_join 46 = .ok (.iload_n 2, 1) := by decide +kernel
theorem dX9_join_47 : decode cX9_join 47 = .ok (.invokevirtual 69, 3) := by decide +kernel
theorem dX9_join_50 : decode cX9_join 50 = .ok (.ireturn, 1) := by decide +kernel
theorem dX9_join_51 : decode cX9_join 51 = .ok (.aload_n 0, 1) := by decide +kernel
theorem dX9_join_52 : decode cX9_join 52 = .ok (.iload_n 1, 1) := by decide +kernel
theorem dX9_join_53 : decode cX9_join 53 = .ok (.iload_n 2, 1) := by decide +kernel
theorem dX9_join_54 : decode cX9_join 54 = .ok (.iload_n 3, 1) := by decide +kernel
theorem dX9_join_55 : decode cX9_join 55 = .ok (.iload 4, 2) := by decide +kernel
theorem dX9_join_57 : decode cX9_join 57 = .ok (.invokevirtual 72, 3) := by decide +kernel
theorem dX9_join_60 : decode cX9_join 60 = .ok (.istore 5, 2) := by decide +kernel
theorem dX9_join_62 : decode cX9_join 62 = .ok (.aload_n 0, 1) := by decide +kernel
theorem dX9_join_63 : decode cX9_join 63 = .ok (.iload 5, 2) := by decide +kernel
theorem dX9_join_65 : decode cX9_join 65 = .ok (.iload_n 1, 1) := by decide +kernel
theorem dX9_join_66 : decode cX9_join 66 = .ok (.iload_n 2, 1) := by decide +kernel
theorem dX9_join_67 : decode cX9_join 67 = .ok (.iload_n 3, 1) := by decide +kernel
theorem dX9_join_68 : decode cX9_join 68 = .ok (.iload 4, 2) := by decide +kernel
theorem dX9_join_70 : decode cX9_join 70 = .ok (.invokevirtual 75, 3) := by decide +kernel
theorem dX9_join_73 : decode cX9_join 73 = .ok (.ifCond .eq 6, 3) := by decide +kernel
theorem dX9_join_79 : decode cX9_join 79 = .ok (.iconst 0, 1) := by decide +kernel
theorem dX9_join_80 : decode cX9_join 80 = .ok (.istore 6, 2) := by decide +kernel
theorem dX9_join_82 : decode cX9_join 82 = .ok (.iload 6, 2) := by decide +kernel
theorem dX9_join_84 : decode cX9_join 84 = .ok (.aload_n 0, 1) := by decide +kernel
theorem dX9_join_85 : decode cX9_join 85 = .ok (.getfield 54, 3) := by decide +kernel
theorem dX9_join_88 : decode cX9_join 88 = .ok (.if_icmp .ge 26, 3) := by decide +kernel
theorem dX9_join_114 : decode cX9_join 114 = .ok (.aload_n 0, 1) := by decide +kernel
theorem dX9_join_115 : decode cX9_join 115 = .ok (.getfield 54, 3) := by decide +kernel
theorem dX9_join_118 : decode cX9_join 118 = .ok (.sipush 1500, 3) := by decide +kernel
theorem dX9_join_121 : decode cX9_join 121 = .ok (.if_icmp .ne 6, 3) := by decide +kernel
theorem dX9_join_127 : decode cX9_join 127 = .ok (.iconst 4, 1) := by decide +kernel
theorem dX9_join_128 : decode cX9_join 128 = .ok (.aload_n 0, 1) := by decide +kernel
theorem dX9_join_129 : decode cX9_join 129 = .ok (.getfield 54, 3) := by decide +kernel
theorem dX9_join_132 : decode cX9_join 132 = .ok (.imul, 1) := by decide +kernel
theorem dX9_join_133 : decode cX9_join 133 = .ok (.iconst 1, 1) := by decide +kernel
theorem dX9_join_134 : decode cX9_join 134 = .ok (.isub, 1) := by decide +kernel
theorem dX9_join_135 : decode cX9_join 135 = .ok (.istore 6, 2) := by decide +kernel
theorem dX9_join_137 : decode cX9_join 137 = .ok (.iload 6, 2) := by decide +kernel
theorem dX9_join_139 : decode cX9_join 139 = .ok (.iconst 4, 1) := by decide +kernel
theorem dX9_join_140 : decode cX9_join 140 = .ok (.iload 5, 2) := by decide +kernel
theorem dX9_join_142 : decode cX9_join 142 = .ok (.imul, 1) := by decide +kernel
theorem dX9_join_143 : decode cX9_join 143 = .ok (.if_icmp .lt 25, 3) := by decide +kernel
theorem dX9_join_168 : decode cX9_join 168 = .ok (.aload_n 0, 1) := by decide +kernel
theorem dX9_join_169 : decode cX9_join 169 = .ok (.getfield 34, 3) := by decide +kernel
theorem dX9_join_172 : decode cX9_join 172 = .ok (.iconst 4, 1) := by decide +kernel
theorem dX9_join_173 : decode cX9_join 173 = .ok (.iload 5, 2) := by decide +kernel
theorem dX9_join_175 : decode cX9_join 175 = .ok (.imul, 1) := by decide +kernel
theorem dX9_join_176 : decode cX9_join 176 = .ok (.iload_n 1, 1) := by decide +kernel
theorem dX9_join_177 : decode cX9_join 177 = .ok (.iastore, 1) := by decide +kernel
theorem dX9_join_178 : decode cX9_join 178 = .ok (.aload_n 0, 1) := by decide +kernel
theorem dX9_join_179 : decode cX9_join 179 = .ok (.getfield 34, 3) := by decide +kernel
theorem dX9_join_182 : decode cX9_join 182 = .ok (.iconst 4, 1) := by decide +kernel
theorem dX9_join_183 : decode cX9_join 183 = .ok (.iload 5, 2) := by decide +kernel
theorem dX9_join_185 : decode cX9_join 185 = .ok (.imul, 1) := by decide +kernel
theorem dX9_join_186 : decode cX9_join 186 = .ok (.iconst 1, 1) := by decide +kernel
theorem dX9_join_187 : decode cX9_join 187 = .ok (.iadd, 1) := by decide +kernel
theorem dX9_join_188 : decode cX9_join 188 = .ok (.iload_n 2, 1) := by decide +kernel
theorem dX9_join_189 : decode cX9_join 189 = .ok (.iastore, 1) := by decide +kernel
theorem dX9_join_190 : decode cX9_join 190 = .ok (.aload_n 0, 1) := by decide +kernel
theorem dX9_join_191 : decode cX9_join 191 = .ok (.getfield 34, 3) := by decide +kernel
theorem dX9_join_194 : decode cX9_join 194 = .ok (.iconst 4, 1) := by decide +kernel
theorem dX9_join_195 : decode cX9_join 195 = .ok (.iload 5, 2) := by decide +kernel
theorem dX9_join_197 : decode cX9_join 197 = .ok (.imul, 1) := by decide +kernel
theorem dX9_join_198 : decode cX9_join 198 = .ok (.iconst 2, 1) := by decide +kernel
theorem dX9_join_199 : decode cX9_join 199 = .ok (.iadd, 1) := by decide +kernel
theorem dX9_join_200 : decode cX9_join 200 = .ok (.iload_n 3, 1) := by decide +kernel
theorem dX9_join_201 : decode cX9_join 201 = .ok (.iastore, 1) := by decide +kernel
theorem dX9_join_202 : decode cX9_join 202 = .ok (.aload_n 0, 1) := by decide +kernel
theorem dX9_join_203 : decode cX9_join 203 = .ok (.getfield 34, 3) := by decide +kernel
theorem dX9_join_206 : decode cX9_join 206 = .ok (.iconst 4, 1) := by decide +kernel
theorem dX9_join_207 : decode cX9_join 207 = .ok (.iload 5, 2) := by decide +kernel
theorem dX9_join_209 : decode cX9_join 209 = .ok (.imul, 1) := by decide +kernel
theorem dX9_join_210 : decode cX9_join 210 = .ok (.iconst 3, 1) := by decide +kernel
theorem dX9_join_211 : decode cX9_join 211 = .ok (.iadd, 1) := by decide +kernel
theorem dX9_join_212 : decode cX9_join 212 = .ok (.iload 4, 2) := by decide +kernel
theorem dX9_join_214 : decode cX9_join 214 = .ok (.iastore, 1) := by decide +kernel
theorem dX9_join_215 : decode cX9_join 215 = .ok (.aload_n 0, 1) := by decide +kernel
theorem dX9_join_216 : decode cX9_join 216 = .ok (.dup, 1) := by decide +kernel
theorem dX9_join_217 : decode cX9_join 217 = .ok (.getfield 54, 3) := by decide +kernel
theorem dX9_join_220 : decode cX9_join 220 = .ok (.iconst 1, 1) := by decide +kernel
theorem dX9_join_221 : decode cX9_join 221 = .ok (.iadd, 1) := by decide +kernel
theorem dX9_join_222 : decode cX9_join 222 = .ok (.putfield 54, 3) := by decide +kernel
theorem dX9_join_225 : decode cX9_join 225 = .ok (.aload_n 0, 1) := by decide +kernel
theorem dX9_join_226 : decode cX9_join 226 = .ok (.iconst 0, 1) := by decide +kernel
theorem dX9_join_227 : decode cX9_join 227 = .ok (.putfield 82, 3) := by decide +kernel
theorem dX9_join_230 : decode cX9_join 230 = .ok (.aload_n 0, 1) := by decide +kernel
theorem dX9_join_231 : decode cX9_join 231 = .ok (.getfield 54, 3) := by decide +kernel
theorem dX9_join_234 : decode cX9_join 234 = .ok (.ireturn, 1) := by decide +kernel
theorem dX9_cut_0 : decode cX9_cut 0 = .ok (.iload_n 1, 1) := by decide +kernel
end
section
theorem dX9_cut_1 : decode cX9_cut 1 = .ok (.iload_n 2, 1) := by decide +kernel
theorem dX9_cut_2 : decode cX9_cut 2 = .ok (.iload_n 3, 1) := by decide +kernel
theorem dX9_cut_3 : decode cX9_cut 3 = .ok (.iload 4, 2) := by decide +kernel
theorem dX9_cut_5 : decode cX9_cut 5 = .ok (.invokestatic 58, 3) := by decide +kernel
theorem dX9_cut_8 : decode cX9_cut 8 = .ok (.ifCond .le 13, 3) := by decide +kernel
theorem dX9_cut_11 : decode cX9_cut 11 = .ok (.aload_n 0, 1) := by decide +kernel
theorem dX9_cut_12 : decode cX9_cut 12 = .ok (.iload_n 3, 1) := by decide +kernel
theorem dX9_cut_13 : decode cX9_cut 13 = .ok (.iload 4, 2) := by decide +kernel
theorem dX9_cut_15 : decode cX9_cut 15 = .ok (.iload_n 1, 1) := by decide +kernel
theorem dX9_cut_16 : decode cX9_cut 16 = .ok (.iload_n 2, 1) := by decide +kernel
theorem dX9_cut_17 : decode cX9_cut 17 = .ok (.invokevirtual 86, 3) := by decide +kernel
theorem dX9_cut_20 : decode cX9_cut 20 = .ok (.ireturn, 1) := by decide +kernel
theorem dX9_cut_21 : decode cX9_cut 21 = .ok (.aload_n 0, 1) := by decide +kernel
theorem dX9_cut_22 : decode cX9_cut 22 = .ok (.iload_n 1, 1) := by decide +kernel
theorem dX9_cut_23 : decode cX9_cut 23 = .ok (.iload_n 2, 1) := by decide +kernel
theorem dX9_cut_24 : decode cX9_cut 24 = .ok (.iload_n 3, 1) := by decide +kernel
theorem dX9_cut_25 : decode cX9_cut 25 = .ok (.iload 4, 2) := by decide +kernel
theorem dX9_cut_27 : decode cX9_cut 27 = .ok (.invokevirtual 72, 3) := by decide +kernel
theorem dX9_cut_30 : decode cX9_cut 30 = .ok (.istore 5, 2) := by decide +kernel
theorem dX9_cut_32 : decode cX9_cut 32 = .ok (.aload_n 0, 1) := by decide +kernel
theorem dX9_cut_33 : decode cX9_cut 33 = .ok (.iload 5, 2) := by decide +kernel
theorem dX9_cut_35 : decode cX9_cut 35 = .ok (.iload_n 1, 1) := by decide +kernel
theorem dX9_cut_36 : decode cX9_cut 36 = .ok (.iload_n 2, 1) := by decide +kernel
theorem dX9_cut_37 : decode cX9_cut 37 = .ok (.iload_n 3, 1) := by decide +kernel
theorem dX9_cut_38 : decode cX9_cut 38 = .ok (.iload 4, 2) := by decide +kernel
theorem dX9_cut_40 : decode cX9_cut 40 = .ok (.invokevirtual 75, 3) := by decide +kernel
theorem dX9_cut_43 : decode cX9_cut 43 = .ok (.ifCond .ne 5, 3) := by decide +kernel
theorem dX9_cut_46 : decode cX9_cut 46 = .ok (.iconst 0, 1) := by decide +kernel
theorem dX9_cut_47 : decode cX9_cut 47 = .ok (.ireturn, 1) := by decide +kernel
theorem dX9_build_0 : decode cX9_build 0 = .ok (.aload_n 0, 1) := by decide +kernel
theorem dX9_build_1 : decode cX9_build 1 = .ok (.getfield 82, 3) := by decide +kernel
theorem dX9_build_4 : decode cX9_build 4 = .ok (.ifCond .eq 4, 3) := by decide +kernel
theorem dX9_build_8 : decode cX9_build 8 = .ok (.aload_n 0, 1) := by decide +kernel
theorem dX9_build_9 : decode cX9_build 9 = .ok (.iconst 1, 1) := by decide +kernel
theorem dX9_build_10 : decode cX9_build 10 = .ok (.putfield 82, 3) := by decide +kernel
theorem dX9_build_13 : decode cX9_build 13 = .ok (.aload_n 0, 1) := by decide +kernel
theorem dX9_build_14 : decode cX9_build 14 = .ok (.getfield 48, 3) := by decide +kernel
theorem dX9_build_17 : decode cX9_build 17 = .ok (.invokevirtual 90, 3) := by decide +kernel
theorem dX9_build_20 : decode cX9_build 20 = .ok (.iconst 0, 1) := by decide +kernel
theorem dX9_build_21 : decode cX9_build 21 = .ok (.istore_n 1, 1) := by decide +kernel
theorem dX9_build_22 : decode cX9_build 22 = .ok (.iload_n 1, 1) := by decide +kernel
theorem dX9_build_23 : decode cX9_build 23 = .ok (.iconst 2, 1) := by decide +kernel
theorem dX9_build_24 : decode cX9_build 24 = .ok (.aload_n 0, 1) := by decide +kernel
theorem dX9_build_25 : decode cX9_build 25 = .ok (.getfield 54, 3) := by decide +kernel
theorem dX9_build_28 : decode cX9_build 28 = .ok (.imul, 1) := by decide +kernel
theorem dX9_build_29 : decode cX9_build 29 = .ok (.if_icmp .ge 34, 3) := by decide +kernel
theorem dX9_build_63 : decode cX9_build 63 = .ok (.aload_n 0, 1) := by decide +kernel
theorem dX9_build_64 : decode cX9_build 64 = .ok (.getfield 48, 3) := by decide +kernel
theorem dX9_build_67 : decode cX9_build 67 = .ok (.invokevirtual 97, 3) := by decide +kernel
theorem dX9_build_70 : decode cX9_build 70 = .ok (.aload_n 0, 1) := by decide +kernel
theorem dX9_build_71 : decode cX9_build 71 = .ok (.getfield 41, 3) := by decide +kernel
theorem dX9_build_74 : decode cX9_build 74 = .ok (.sipush 3000, 3) := by decide +kernel
theorem dX9_build_77 : decode cX9_build 77 = .ok (.sipush 1500, 3) := by decide +kernel
theorem dX9_build_80 : decode cX9_build 80 = .ok (.invokevirtual 100, 3) := by decide +kernel
theorem dX9_build_83 : decode cX9_build 83 = .ok (.aload_n 0, 1) := by decide +kernel
theorem dX9_build_84 : decode cX9_build 84 = .ok (.getfield 41, 3) := by decide +kernel
theorem dX9_build_87 : decode cX9_build 87 = .ok (.aload_n 0, 1) := by decide +kernel
theorem dX9_build_88 : decode cX9_build 88 = .ok (.getfield 48, 3) := by decide +kernel
theorem dX9_build_91 : decode cX9_build 91 = .ok (.getfield 103, 3) := by decide +kernel
theorem dX9_build_94 : decode cX9_build 94 = .ok (.putfield 106, 3) := by decide +kernel
theorem dX9_build_97 : decode cX9_build 97 = .ok (.aload_n 0, 1) := by decide +kernel
theorem dX9_build_98 : decode cX9_build 98 = .ok (.getfield 41, 3) := by decide +kernel
theorem dX9_build_101 : decode cX9_build 101 = .ok (.aload_n 0, 1) := by decide +kernel
theorem dX9_build_102 : decode cX9_build 102 = .ok (.getfield 54, 3) := by decide +kernel
theorem dX9_build_105 : decode cX9_build 105 = .ok (.putfield 108, 3) := by decide +kernel
theorem dX9_build_108 : decode cX9_build 108 = .ok (.iconst 0, 1) := by decide +kernel
theorem dX9_build_109 : decode cX9_build 109 = .ok (.istore_n 1, 1) := by decide +kernel
theorem dX9_build_110 : decode cX9_build 110 = .ok (.iload_n 1, 1) := by decide +kernel
theorem dX9_build_111 : decode cX9_build 111 = .ok (.aload_n 0, 1) := by decide +kernel
theorem dX9_build_112 : decode cX9_build 112 = .ok (.getfield 48, 3) := by decide +kernel
theorem dX9_build_115 : decode cX9_build 115 = .ok (.getfield 103, 3) := by decide +kernel
theorem dX9_build_118 : decode cX9_build 118 = .ok (.if_icmp .ge 43, 3) := by decide +kernel
theorem dX9_build_161 : decode cX9_build 161 = .ok (.iconst 0, 1) := by decide +kernel
theorem dX9_build_162 : decode cX9_build 162 = .ok (.istore_n 1, 1) := by decide +kernel
theorem dX9_build_163 : decode cX9_build 163 = .ok (.iload_n 1, 1) := by decide +kernel
theorem dX9_build_164 : decode cX9_build 164 = .ok (.aload_n 0, 1) := by decide +kernel
theorem dX9_build_165 : decode cX9_build 165 = .ok (.getfield 54, 3) := by decide +kernel
theorem dX9_build_168 : decode cX9_build 168 = .ok (.if_icmp .ge 79, 3) := by decide +kernel
theorem dX9_build_247 : decode cX9_build 247 = .ok (.aload_n 0, 1) := by decide +kernel
theorem dX9_build_248 : decode cX9_build 248 = .ok (.getfield 41, 3) := by decide +kernel
theorem dX9_build_251 : decode cX9_build 251 = .ok (.invokevirtual 132, 3) := by decide +kernel
theorem dX9_build_254 : decode cX9_build 254 = .ok (.return_, 1) := by decide +kernel
theorem dX9_count_0 : decode cX9_count 0 = .ok (.aload_n 0, 1) := by decide +kernel
theorem dX9_count_1 : decode cX9_count 1 = .ok (.invokevirtual 135, 3) := by decide +kernel
theorem dX9_count_4 : decode cX9_count 4 = .ok (.iload_n 1, 1) := by decide +kernel
theorem dX9_count_5 : decode cX9_count 5 = .ok (.ifCond .lt 8, 3) := by decide +kernel
theorem dX9_count_8 : decode cX9_count 8 = .ok (.iload_n 1, 1) := by decide +kernel
theorem dX9_count_9 : decode cX9_count 9 = .ok (.iconst 3, 1) := by decide +kernel
theorem dX9_count_10 : decode cX9_count 10 = .ok (.if_icmp .le 5, 3) := by decide +kernel
theorem dX9_count_13 : decode cX9_count 13 = .ok (.iconst (-1), 1) := by decide +kernel
theorem dX9_count_14 : decode cX9_count 14 = .ok (.ireturn, 1) := by decide +kernel
theorem dX9_count_15 : decode cX9_count 15 = .ok (.iload_n 1, 1) := by decide +kernel
theorem dX9_count_16 : decode cX9_count 16 = .ok (.ifCond .ne 11, 3) := by decide +kernel
theorem dX9_count_19 : decode cX9_count 19 = .ok (.aload_n 0, 1) := by decide +kernel
theorem dX9_count_20 : decode cX9_count 20 = .ok (.getfield 41, 3) := by decide +kernel
theorem dX9_count_23 : decode cX9_count 23 = .ok (.getfield 106, 3) := by decide +kernel
theorem dX9_count_26 : decode cX9_count 26 = .ok (.ireturn, 1) := by decide +kernel
theorem dX9_count_27 : decode cX9_count 27 = .ok (.iload_n 1, 1) := by decide +kernel
theorem dX9_count_28 : decode cX9_count 28 = .ok (.iconst 1, 1) := by decide +kernel
theorem dX9_count_29 : decode cX9_count 29 = .ok (.if_icmp .ne 10, 3) := by decide +kernel
theorem dX9_count_32 : decode cX9_count 32 = .ok (.aload_n 0, 1) := by decide +kernel
theorem dX9_count_33 : decode cX9_count 33 = .ok (.getfield 54, 3) := by decide +kernel
theorem dX9_count_36 : decode cX9_count 36 = .ok (.goto 25, 3) := by decide +kernel
theorem dX9_count_39 : decode cX9_count 39 = .ok (.iload_n 1, 1) := by decide +kernel
theorem dX9_count_40 : decode cX9_count 40 = .ok (.iconst 2, 1) := by decide +kernel
theorem dX9_count_41 : decode cX9_count 41 = .ok (.if_icmp .ne 13, 3) := by decide +kernel
theorem dX9_count_44 : decode cX9_count 44 = .ok (.aload_n 0, 1) := by decide +kernel
theorem dX9_count_45 : decode cX9_count 45 = .ok (.getfield 41, 3) := by decide +kernel
theorem dX9_count_48 : decode cX9_count 48 = .ok (.getfield 136, 3) := by decide +kernel
theorem dX9_count_51 : decode cX9_count 51 = .ok (.goto 10, 3) := by decide +kernel
theorem dX9_count_54 : decode cX9_count 54 = .ok (.aload_n 0, 1) := by decide +kernel
theorem dX9_count_55 : decode cX9_count 55 = .ok (.getfield 41, 3) := by decide +kernel
theorem dX9_count_58 : decode cX9_count 58 = .ok (.invokevirtual 139, 3) := by decide +kernel
theorem dX9_count_61 : decode cX9_count 61 = .ok (.ireturn, 1) := by decide +kernel
theorem dX9_node_0 : decode cX9_node 0 = .ok (.aload_n 0, 1) := by decide +kernel
theorem dX9_node_1 : decode cX9_node 1 = .ok (.invokevirtual 135, 3) := by decide +kernel
theorem dX9_node_4 : decode cX9_node 4 = .ok (.iload_n 1, 1) := by decide +kernel
theorem dX9_node_5 : decode cX9_node 5 = .ok (.ifCond .lt 23, 3) := by decide +kernel
theorem dX9_node_8 : decode cX9_node 8 = .ok (.iload_n 1, 1) := by decide +kernel
theorem dX9_node_9 : decode cX9_node 9 = .ok (.aload_n 0, 1) := by decide +kernel
theorem dX9_node_10 : decode cX9_node 10 = .ok (.getfield 41, 3) := by decide +kernel
theorem dX9_node_13 : decode cX9_node 13 = .ok (.getfield 106, 3) := by decide +kernel
theorem dX9_node_16 : decode cX9_node 16 = .ok (.if_icmp .ge 12, 3) := by decide +kernel
theorem dX9_node_28 : decode cX9_node 28 = .ok (.ldc 143, 2) := by decide +kernel
theorem dX9_node_30 : decode cX9_node 30 = .ok (.ireturn, 1) := by decide +kernel
theorem dX9_piece_0 : decode cX9_piece 0 = .ok (.aload_n 0, 1) := by decide +kernel
theorem dX9_piece_1 : decode cX9_piece 1 = .ok (.invokevirtual 135, 3) := by decide +kernel
theorem dX9_piece_4 : decode cX9_piece 4 = .ok (.iload_n 1, 1) := by decide +kernel
theorem dX9_piece_5 : decode cX9_piece 5 = .ok (.ifCond .lt 20, 3) := by decide +kernel
theorem dX9_piece_8 : decode cX9_piece 8 = .ok (.iload_n 1, 1) := by decide +kernel
theorem dX9_piece_9 : decode cX9_piece 9 = .ok (.aload_n 0, 1) := by decide +kernel
theorem dX9_piece_10 : decode cX9_piece 10 = .ok (.getfield 54, 3) := by decide +kernel
theorem dX9_piece_13 : decode cX9_piece 13 = .ok (.if_icmp .ge 12, 3) := by decide +kernel
theorem dX9_piece_25 : decode cX9_piece 25 = .ok (.iconst (-1), 1) := by decide +kernel
theorem dX9_piece_26 : decode cX9_piece 26 = .ok (.ireturn, 1) := by decide +kernel
theorem dX9_left_0 : decode cX9_left 0 = .ok (.aload_n 0, 1) := by decide +kernel
theorem dX9_left_1 : decode cX9_left 1 = .ok (.invokevirtual 135, 3) := by decide +kernel
theorem dX9_left_4 : decode cX9_left 4 = .ok (.iload_n 1, 1) := by decide +kernel
theorem dX9_left_5 : decode cX9_left 5 = .ok (.iload_n 2, 1) := by decide +kernel
theorem dX9_left_6 : decode cX9_left 6 = .ok (.iload_n 3, 1) := by decide +kernel
theorem dX9_left_7 : decode cX9_left 7 = .ok (.iload 4, 2) := by decide +kernel
theorem dX9_left_9 : decode cX9_left 9 = .ok (.invokestatic 58, 3) := by decide +kernel
theorem dX9_left_12 : decode cX9_left 12 = .ok (.ifCond .le 7, 3) := by decide +kernel
theorem dX9_left_15 : decode cX9_left 15 = .ok (.iconst 1, 1) := by decide +kernel
theorem dX9_left_16 : decode cX9_left 16 = .ok (.goto 4, 3) := by decide +kernel
theorem dX9_left_19 : decode cX9_left 19 = .ok (.iconst 0, 1) := by decide +kernel
theorem dX9_left_20 : decode cX9_left 20 = .ok (.istore 5, 2) := by decide +kernel
theorem dX9_left_22 : decode cX9_left 22 = .ok (.iload 5, 2) := by decide +kernel
theorem dX9_left_24 : decode cX9_left 24 = .ok (.ifCond .eq 15, 3) := by decide +kernel
theorem dX9_left_27 : decode cX9_left 27 = .ok (.aload_n 0, 1) := by decide +kernel
theorem dX9_left_28 : decode cX9_left 28 = .ok (.iload_n 3, 1) := by decide +kernel
theorem dX9_left_29 : decode cX9_left 29 = .ok (.iload 4, 2) := by decide +kernel
theorem dX9_left_31 : decode cX9_left 31 = .ok (.iload_n 1, 1) := by decide +kernel
theorem dX9_left_32 : decode cX9_left 32 = .ok (.iload_n 2, 1) := by decide +kernel
theorem dX9_left_33 : decode cX9_left 33 = .ok (.invokevirtual 72, 3) := by decide +kernel
theorem dX9_left_36 : decode cX9_left 36 = .ok (.goto 12, 3) := by decide +kernel
theorem dX9_left_39 : decode cX9_left 39 = .ok (.aload_n 0, 1) := by decide +kernel
theorem dX9_left_40 : decode cX9_left 40 = .ok (.iload_n 1, 1) := by decide +kernel
theorem dX9_left_41 : decode cX9_left 41 = .ok (.iload_n 2, 1) := by decide +kernel
theorem dX9_left_42 : decode cX9_left 42 = .ok (.iload_n 3, 1) := by decide +kernel
theorem dX9_left_43 : decode cX9_left 43 = .ok (.iload 4, 2) := by decide +kernel
theorem dX9_left_45 : decode cX9_left 45 = .ok (.invokevirtual 72, 3) := by decide +kernel
theorem dX9_left_48 : decode cX9_left 48 = .ok (.istore 6, 2) := by decide +kernel
theorem dX9_left_50 : decode cX9_left 50 = .ok (.iload 5, 2) := by decide +kernel
theorem dX9_left_52 : decode cX9_left 52 = .ok (.ifCond .eq 17, 3) := by decide +kernel
theorem dX9_left_55 : decode cX9_left 55 = .ok (.aload_n 0, 1) := by decide +kernel
theorem dX9_left_56 : decode cX9_left 56 = .ok (.iload 6, 2) := by decide +kernel
theorem dX9_left_58 : decode cX9_left 58 = .ok (.iload_n 3, 1) := by decide +kernel
theorem dX9_left_59 : decode cX9_left 59 = .ok (.iload 4, 2) := by decide +kernel
theorem dX9_left_61 : decode cX9_left 61 = .ok (.iload_n 1, 1) := by decide +kernel
theorem dX9_left_62 : decode cX9_left 62 = .ok (.iload_n 2, 1) := by decide +kernel
theorem dX9_left_63 : decode cX9_left 63 = .ok (.invokevirtual 75, 3) := by decide +kernel
theorem dX9_left_66 : decode cX9_left 66 = .ok (.goto 14, 3) := by decide +kernel
theorem dX9_left_69 : decode cX9_left 69 = .ok (.aload_n 0, 1) := by decide +kernel
theorem dX9_left_70 : decode cX9_left 70 = .ok (.iload 6, 2) := by decide +kernel
theorem dX9_left_72 : decode cX9_left 72 = .ok (.iload_n 1, 1) := by decide +kernel
theorem dX9_left_73 : decode cX9_left 73 = .ok (.iload_n 2, 1) := by decide +kernel
theorem dX9_left_74 : decode cX9_left 74 = .ok (.iload_n 3, 1) := by decide +kernel
theorem dX9_left_75 : decode cX9_left 75 = .ok (.iload 4, 2) := by decide +kernel
theorem dX9_left_77 : decode cX9_left 77 = .ok (.invokevirtual 75, 3) := by decide +kernel
theorem dX9_left_80 : decode cX9_left 80 = .ok (.istore 7, 2) := by decide +kernel
theorem dX9_left_82 : decode cX9_left 82 = .ok (.iload 7, 2) := by decide +kernel
theorem dX9_left_84 : decode cX9_left 84 = .ok (.ifCond .eq 28, 3) := by decide +kernel
theorem dX9_left_112 : decode cX9_left 112 = .ok (.iconst (-1), 1) := by decide +kernel
theorem dX9_left_113 : decode cX9_left 113 = .ok (.ireturn, 1) := by decide +kernel
theorem dX9_isFace_0 : decode cX9_isFace 0 = .ok (.iload_n 1, 1) := by decide +kernel
theorem dX9_isFace_1 : decode cX9_isFace 1 = .ok (.ifCond .lt 18, 3) := by decide +kernel
theorem dX9_isFace_4 : decode cX9_isFace 4 = .ok (.iload_n 1, 1) := by decide +kernel
theorem dX9_isFace_5 : decode cX9_isFace 5 = .ok (.aload_n 0, 1) := by decide +kernel
theorem dX9_isFace_6 : decode cX9_isFace 6 = .ok (.getfield 41, 3) := by decide +kernel
theorem dX9_isFace_9 : decode cX9_isFace 9 = .ok (.getfield 136, 3) := by decide +kernel
theorem dX9_isFace_12 : decode cX9_isFace 12 = .ok (.if_icmp .ge 7, 3) := by decide +kernel
theorem dX9_isFace_15 : decode cX9_isFace 15 = .ok (.iconst 1, 1) := by decide +kernel
theorem dX9_isFace_16 : decode cX9_isFace 16 = .ok (.goto 4, 3) := by decide +kernel
theorem dX9_isFace_19 : decode cX9_isFace 19 = .ok (.iconst 0, 1) := by decide +kernel
theorem dX9_isFace_20 : decode cX9_isFace 20 = .ok (.ireturn, 1) := by decide +kernel
theorem dX9_face_0 : decode cX9_face 0 = .ok (.aload_n 0, 1) := by decide +kernel
theorem dX9_face_1 : decode cX9_face 1 = .ok (.invokevirtual 135, 3) := by decide +kernel
theorem dX9_face_4 : decode cX9_face 4 = .ok (.aload_n 0, 1) := by decide +kernel
theorem dX9_face_5 : decode cX9_face 5 = .ok (.iload_n 1, 1) := by decide +kernel
theorem dX9_face_6 : decode cX9_face 6 = .ok (.invokevirtual 150, 3) := by decide +kernel
theorem dX9_face_9 : decode cX9_face 9 = .ok (.ifCond .eq 12, 3) := by decide +kernel
theorem dX9_face_12 : decode cX9_face 12 = .ok (.iload_n 2, 1) := by decide +kernel
theorem dX9_face_13 : decode cX9_face 13 = .ok (.ifCond .lt 8, 3) := by decide +kernel
theorem dX9_face_16 : decode cX9_face 16 = .ok (.iload_n 2, 1) := by decide +kernel
theorem dX9_face_17 : decode cX9_face 17 = .ok (.iconst 3, 1) := by decide +kernel
theorem dX9_face_18 : decode cX9_face 18 = .ok (.if_icmp .le 5, 3) := by decide +kernel
theorem dX9_face_21 : decode cX9_face 21 = .ok (.iconst (-1), 1) := by decide +kernel
theorem dX9_face_22 : decode cX9_face 22 = .ok (.ireturn, 1) := by decide +kernel
theorem dX9_face_23 : decode cX9_face 23 = .ok (.iload_n 2, 1) := by decide +kernel
theorem dX9_face_24 : decode cX9_face 24 = .ok (.ifCond .ne 12, 3) := by decide +kernel
theorem dX9_face_27 : decode cX9_face 27 = .ok (.aload_n 0, 1) := by decide +kernel
theorem dX9_face_28 : decode cX9_face 28 = .ok (.getfield 41, 3) := by decide +kernel
theorem dX9_face_31 : decode cX9_face 31 = .ok (.iload_n 1, 1) := by decide +kernel
theorem dX9_face_32 : decode cX9_face 32 = .ok (.invokevirtual 154, 3) := by decide +kernel
theorem dX9_face_35 : decode cX9_face 35 = .ok (.ireturn, 1) := by decide +kernel
theorem dX9_face_36 : decode cX9_face 36 = .ok (.iload_n 2, 1) := by decide +kernel
theorem dX9_face_37 : decode cX9_face 37 = .ok (.iconst 1, 1) := by decide +kernel
theorem dX9_face_38 : decode cX9_face 38 = .ok (.if_icmp .ne 12, 3) := by decide +kernel
theorem dX9_face_41 : decode cX9_face 41 = .ok (.aload_n 0, 1) := by decide +kernel
theorem dX9_face_42 : decode cX9_face 42 = .ok (.getfield 41, 3) := by decide +kernel
theorem dX9_face_45 : decode cX9_face 45 = .ok (.iload_n 1, 1) := by decide +kernel
theorem dX9_face_46 : decode cX9_face 46 = .ok (.invokevirtual 157, 3) := by decide +kernel
theorem dX9_face_49 : decode cX9_face 49 = .ok (.ireturn, 1) := by decide +kernel
theorem dX9_face_50 : decode cX9_face 50 = .ok (.aload_n 0, 1) := by decide +kernel
theorem dX9_face_51 : decode cX9_face 51 = .ok (.getfield 41, 3) := by decide +kernel
theorem dX9_face_54 : decode cX9_face 54 = .ok (.iload_n 1, 1) := by decide +kernel
theorem dX9_face_55 : decode cX9_face 55 = .ok (.invokevirtual 160, 3) := by decide +kernel
theorem dX9_face_58 : decode cX9_face 58 = .ok (.istore_n 3, 1) := by decide +kernel
theorem dX9_face_59 : decode cX9_face 59 = .ok (.iload_n 3, 1) := by decide +kernel
theorem dX9_face_60 : decode cX9_face 60 = .ok (.ifCond .ge 7, 3) := by decide +kernel
theorem dX9_face_63 : decode cX9_face 63 = .ok (.iconst (-1), 1) := by decide +kernel
theorem dX9_face_64 : decode cX9_face 64 = .ok (.goto 27, 3) := by decide +kernel
theorem dX9_face_91 : decode cX9_face 91 = .ok (.ireturn, 1) := by decide +kernel
theorem dX9_area2_0 : decode cX9_area2 0 = .ok (.aload_n 0, 1) := by decide +kernel
theorem dX9_area2_1 : decode cX9_area2 1 = .ok (.invokevirtual 135, 3) := by decide +kernel
theorem dX9_area2_4 : decode cX9_area2 4 = .ok (.iload_n 1, 1) := by decide +kernel
theorem dX9_area2_5 : decode cX9_area2 5 = .ok (.ifCond .le 22, 3) := by decide +kernel
theorem dX9_area2_8 : decode cX9_area2 8 = .ok (.aload_n 0, 1) := by decide +kernel
theorem dX9_area2_9 : decode cX9_area2 9 = .ok (.iload_n 1, 1) := by decide +kernel
theorem dX9_area2_10 : decode cX9_area2 10 = .ok (.invokevirtual 150, 3) := by decide +kernel
theorem dX9_area2_13 : decode cX9_area2 13 = .ok (.ifCond .eq 14, 3) := by decide +kernel
theorem dX9_area2_27 : decode cX9_area2 27 = .ok (.lconst 0, 1) := by decide +kernel
theorem dX9_area2_28 : decode cX9_area2 28 = .ok (.lreturn, 1) := by decide +kernel
theorem dX9_locate_0 : decode cX9_locate 0 = .ok (.aload_n 0, 1) := by decide +kernel
theorem dX9_locate_1 : decode cX9_locate 1 = .ok (.invokevirtual 135, 3) := by decide +kernel
theorem dX9_locate_4 : decode cX9_locate 4 = .ok (.iconst 0, 1) := by decide +kernel
theorem dX9_locate_5 : decode cX9_locate 5 = .ok (.istore_n 3, 1) := by decide +kernel
theorem dX9_locate_6 : decode cX9_locate 6 = .ok (.iload_n 3, 1) := by decide +kernel
theorem dX9_locate_7 : decode cX9_locate 7 = .ok (.aload_n 0, 1) := by decide +kernel
theorem dX9_locate_8 : decode cX9_locate 8 = .ok (.getfield 54, 3) := by decide +kernel
theorem dX9_locate_11 : decode cX9_locate 11 = .ok (.if_icmp .ge 65, 3) := by decide +kernel
theorem dX9_locate_76 : decode cX9_locate 76 = .ok (.aload_n 0, 1) := by decide +kernel
theorem dX9_locate_77 : decode cX9_locate 77 = .ok (.getfield 41, 3) := by decide +kernel
theorem dX9_locate_80 : decode cX9_locate 80 = .ok (.iload_n 1, 1) := by decide +kernel
theorem dX9_locate_81 : decode cX9_locate 81 = .ok (.i2l, 1) := by decide +kernel
theorem dX9_locate_82 : decode cX9_locate 82 = .ok (.iload_n 2, 1) := by decide +kernel
theorem dX9_locate_83 : decode cX9_locate 83 = .ok (.i2l, 1) := by decide +kernel
theorem dX9_locate_84 : decode cX9_locate 84 = .ok (.iconst (-1), 1) := by decide +kernel
theorem dX9_locate_85 : decode cX9_locate 85 = .ok (.invokevirtual 176, 3) := by decide +kernel
end
section
theorem dX9_locate_88 : decode cX9_locate 88 = .ok (.ireturn, 1) := by decide +kernel
theorem dX9_between_0 : decode cX9_between 0 = .ok (.aload_n 0, 1) := by decide +kernel
theorem dX9_between_1 : decode cX9_between 1 = .ok (.invokevirtual 135, 3) := by decide +kernel
theorem dX9_between_4 : decode cX9_between 4 = .ok (.aload_n 0, 1) := by decide +kernel
theorem dX9_between_5 : decode cX9_between 5 = .ok (.iload_n 1, 1) := by decide +kernel
theorem dX9_between_6 : decode cX9_between 6 = .ok (.invokevirtual 150, 3) := by decide +kernel
theorem dX9_between_9 : decode cX9_between 9 = .ok (.ifCond .eq 11, 3) := by decide +kernel
theorem dX9_between_12 : decode cX9_between 12 = .ok (.aload_n 0, 1) := by decide +kernel
theorem dX9_between_13 : decode cX9_between 13 = .ok (.iload_n 2, 1) := by decide +kernel
theorem dX9_between_14 : decode cX9_between 14 = .ok (.invokevirtual 150, 3) := by decide +kernel
theorem dX9_between_17 : decode cX9_between 17 = .ok (.ifCond .ne 5, 3) := by decide +kernel
theorem dX9_between_20 : decode cX9_between 20 = .ok (.iconst (-1), 1) := by decide +kernel
theorem dX9_between_21 : decode cX9_between 21 = .ok (.ireturn, 1) := by decide +kernel
theorem dX9_between_22 : decode cX9_between 22 = .ok (.iconst 0, 1) := by decide +kernel
theorem dX9_between_23 : decode cX9_between 23 = .ok (.istore_n 3, 1) := by decide +kernel
theorem dX9_between_24 : decode cX9_between 24 = .ok (.iconst 0, 1) := by decide +kernel
theorem dX9_between_25 : decode cX9_between 25 = .ok (.istore 4, 2) := by decide +kernel
theorem dX9_between_27 : decode cX9_between 27 = .ok (.iload 4, 2) := by decide +kernel
theorem dX9_between_29 : decode cX9_between 29 = .ok (.aload_n 0, 1) := by decide +kernel
theorem dX9_between_30 : decode cX9_between 30 = .ok (.getfield 54, 3) := by decide +kernel
theorem dX9_between_33 : decode cX9_between 33 = .ok (.if_icmp .ge 64, 3) := by decide +kernel
theorem dX9_between_97 : decode cX9_between 97 = .ok (.iload_n 3, 1) := by decide +kernel
theorem dX9_between_98 : decode cX9_between 98 = .ok (.ireturn, 1) := by decide +kernel
theorem dJ7_fill_53178_0 : decode cJ7_fill_53178 0 = .ok (.iconst 0, 1) := by decide +kernel
theorem dJ7_fill_53178_1 : decode cJ7_fill_53178 1 = .ok (.istore_n 2, 1) := by decide +kernel
theorem dJ7_fill_53178_2 : decode cJ7_fill_53178 2 = .ok (.aload_n 0, 1) := by decide +kernel
theorem dJ7_fill_53178_3 : decode cJ7_fill_53178 3 = .ok (.arraylength, 1) := by decide +kernel
theorem dJ7_fill_53178_4 : decode cJ7_fill_53178 4 = .ok (.istore_n 3, 1) := by decide +kernel
theorem dJ7_fill_53178_5 : decode cJ7_fill_53178 5 = .ok (.iload_n 2, 1) := by decide +kernel
theorem dJ7_fill_53178_6 : decode cJ7_fill_53178 6 = .ok (.iload_n 3, 1) := by decide +kernel
theorem dJ7_fill_53178_7 : decode cJ7_fill_53178 7 = .ok (.if_icmp .ge 13, 3) := by decide +kernel
theorem dJ7_fill_53178_10 : decode cJ7_fill_53178 10 = .ok (.aload_n 0, 1) := by decide +kernel
theorem dJ7_fill_53178_11 : decode cJ7_fill_53178 11 = .ok (.iload_n 2, 1) := by decide +kernel
theorem dJ7_fill_53178_12 : decode cJ7_fill_53178 12 = .ok (.iload_n 1, 1) := by decide +kernel
theorem dJ7_fill_53178_13 : decode cJ7_fill_53178 13 = .ok (.iastore, 1) := by decide +kernel
theorem dJ7_fill_53178_14 : decode cJ7_fill_53178 14 = .ok (.iinc 2 1, 3) := by decide +kernel
theorem dJ7_fill_53178_17 : decode cJ7_fill_53178 17 = .ok (.goto (-12), 3) := by decide +kernel
theorem dJ7_fill_53178_20 : decode cJ7_fill_53178 20 = .ok (.return_, 1) := by decide +kernel
theorem dL_law_0 : decode cL_law 0 = .ok (.new 7, 3) := by decide +kernel
theorem dL_law_3 : decode cL_law 3 = .ok (.dup, 1) := by decide +kernel
theorem dL_law_4 : decode cL_law 4 = .ok (.invokespecial 9, 3) := by decide +kernel
theorem dL_law_7 : decode cL_law 7 = .ok (.astore_n 1, 1) := by decide +kernel
theorem dL_law_8 : decode cL_law 8 = .ok (.new 10, 3) := by decide +kernel
theorem dL_law_11 : decode cL_law 11 = .ok (.dup, 1) := by decide +kernel
theorem dL_law_12 : decode cL_law 12 = .ok (.invokespecial 12, 3) := by decide +kernel
theorem dL_law_15 : decode cL_law 15 = .ok (.astore_n 2, 1) := by decide +kernel
theorem dL_law_16 : decode cL_law 16 = .ok (.iconst 0, 1) := by decide +kernel
theorem dL_law_17 : decode cL_law 17 = .ok (.istore_n 3, 1) := by decide +kernel
theorem dL_law_18 : decode cL_law 18 = .ok (.iload_n 3, 1) := by decide +kernel
theorem dL_law_19 : decode cL_law 19 = .ok (.aload_n 0, 1) := by decide +kernel
theorem dL_law_20 : decode cL_law 20 = .ok (.arraylength, 1) := by decide +kernel
theorem dL_law_21 : decode cL_law 21 = .ok (.iconst 5, 1) := by decide +kernel
theorem dL_law_22 : decode cL_law 22 = .ok (.isub, 1) := by decide +kernel
theorem dL_law_23 : decode cL_law 23 = .ok (.if_icmp .gt 442, 3) := by decide +kernel
theorem dL_law_26 : decode cL_law 26 = .ok (.aload_n 0, 1) := by decide +kernel
theorem dL_law_27 : decode cL_law 27 = .ok (.iload_n 3, 1) := by decide +kernel
theorem dL_law_28 : decode cL_law 28 = .ok (.iaload, 1) := by decide +kernel
theorem dL_law_29 : decode cL_law 29 = .ok (.bipush 15, 2) := by decide +kernel
theorem dL_law_31 : decode cL_law 31 = .ok (.iand, 1) := by decide +kernel
theorem dL_law_32 : decode cL_law 32 = .ok (.tableswitch 427 0 9 #[56, 109, 162, 185, 218, 251, 304, 337, 361, 394], 56) := by decide +kernel
theorem dL_law_88 : decode cL_law 88 = .ok (.aload_n 1, 1) := by decide +kernel
theorem dL_law_89 : decode cL_law 89 = .ok (.aload_n 0, 1) := by decide +kernel
theorem dL_law_90 : decode cL_law 90 = .ok (.iload_n 3, 1) := by decide +kernel
theorem dL_law_91 : decode cL_law 91 = .ok (.iconst 1, 1) := by decide +kernel
theorem dL_law_92 : decode cL_law 92 = .ok (.iadd, 1) := by decide +kernel
theorem dL_law_93 : decode cL_law 93 = .ok (.iaload, 1) := by decide +kernel
theorem dL_law_94 : decode cL_law 94 = .ok (.aload_n 0, 1) := by decide +kernel
theorem dL_law_95 : decode cL_law 95 = .ok (.iload_n 3, 1) := by decide +kernel
theorem dL_law_96 : decode cL_law 96 = .ok (.iconst 2, 1) := by decide +kernel
theorem dL_law_97 : decode cL_law 97 = .ok (.iadd, 1) := by decide +kernel
theorem dL_law_98 : decode cL_law 98 = .ok (.iaload, 1) := by decide +kernel
theorem dL_law_99 : decode cL_law 99 = .ok (.aload_n 0, 1) := by decide +kernel
theorem dL_law_100 : decode cL_law 100 = .ok (.iload_n 3, 1) := by decide +kernel
theorem dL_law_101 : decode cL_law 101 = .ok (.iconst 3, 1) := by decide +kernel
theorem dL_law_102 : decode cL_law 102 = .ok (.iadd, 1) := by decide +kernel
theorem dL_law_103 : decode cL_law 103 = .ok (.iaload, 1) := by decide +kernel
theorem dL_law_104 : decode cL_law 104 = .ok (.aload_n 0, 1) := by decide +kernel
theorem dL_law_105 : decode cL_law 105 = .ok (.iload_n 3, 1) := by decide +kernel
theorem dL_law_106 : decode cL_law 106 = .ok (.iconst 4, 1) := by decide +kernel
theorem dL_law_107 : decode cL_law 107 = .ok (.iadd, 1) := by decide +kernel
theorem dL_law_108 : decode cL_law 108 = .ok (.iaload, 1) := by decide +kernel
theorem dL_law_109 : decode cL_law 109 = .ok (.invokevirtual 13, 3) := by decide +kernel
theorem dL_law_112 : decode cL_law 112 = .ok (.aload_n 2, 1) := by decide +kernel
theorem dL_law_113 : decode cL_law 113 = .ok (.aload_n 0, 1) := by decide +kernel
theorem dL_law_114 : decode cL_law 114 = .ok (.iload_n 3, 1) := by decide +kernel
theorem dL_law_115 : decode cL_law 115 = .ok (.iconst 1, 1) := by decide +kernel
theorem dL_law_116 : decode cL_law 116 = .ok (.iadd, 1) := by decide +kernel
theorem dL_law_117 : decode cL_law 117 = .ok (.iaload, 1) := by decide +kernel
theorem dL_law_118 : decode cL_law 118 = .ok (.aload_n 0, 1) := by decide +kernel
theorem dL_law_119 : decode cL_law 119 = .ok (.iload_n 3, 1) := by decide +kernel
theorem dL_law_120 : decode cL_law 120 = .ok (.iconst 2, 1) := by decide +kernel
theorem dL_law_121 : decode cL_law 121 = .ok (.iadd, 1) := by decide +kernel
theorem dL_law_122 : decode cL_law 122 = .ok (.iaload, 1) := by decide +kernel
theorem dL_law_123 : decode cL_law 123 = .ok (.aload_n 0, 1) := by decide +kernel
theorem dL_law_124 : decode cL_law 124 = .ok (.iload_n 3, 1) := by decide +kernel
theorem dL_law_125 : decode cL_law 125 = .ok (.iconst 3, 1) := by decide +kernel
theorem dL_law_126 : decode cL_law 126 = .ok (.iadd, 1) := by decide +kernel
theorem dL_law_127 : decode cL_law 127 = .ok (.iaload, 1) := by decide +kernel
theorem dL_law_128 : decode cL_law 128 = .ok (.aload_n 0, 1) := by decide +kernel
theorem dL_law_129 : decode cL_law 129 = .ok (.iload_n 3, 1) := by decide +kernel
theorem dL_law_130 : decode cL_law 130 = .ok (.iconst 4, 1) := by decide +kernel
theorem dL_law_131 : decode cL_law 131 = .ok (.iadd, 1) := by decide +kernel
theorem dL_law_132 : decode cL_law 132 = .ok (.iaload, 1) := by decide +kernel
theorem dL_law_133 : decode cL_law 133 = .ok (.invokevirtual 17, 3) := by decide +kernel
theorem dL_law_136 : decode cL_law 136 = .ok (.if_icmp .eq 323, 3) := by decide +kernel
theorem dL_law_141 : decode cL_law 141 = .ok (.aload_n 1, 1) := by decide +kernel
theorem dL_law_142 : decode cL_law 142 = .ok (.aload_n 0, 1) := by decide +kernel
theorem dL_law_143 : decode cL_law 143 = .ok (.iload_n 3, 1) := by decide +kernel
theorem dL_law_144 : decode cL_law 144 = .ok (.iconst 1, 1) := by decide +kernel
theorem dL_law_145 : decode cL_law 145 = .ok (.iadd, 1) := by decide +kernel
theorem dL_law_146 : decode cL_law 146 = .ok (.iaload, 1) := by decide +kernel
theorem dL_law_147 : decode cL_law 147 = .ok (.aload_n 0, 1) := by decide +kernel
theorem dL_law_148 : decode cL_law 148 = .ok (.iload_n 3, 1) := by decide +kernel
theorem dL_law_149 : decode cL_law 149 = .ok (.iconst 2, 1) := by decide +kernel
theorem dL_law_150 : decode cL_law 150 = .ok (.iadd, 1) := by decide +kernel
theorem dL_law_151 : decode cL_law 151 = .ok (.iaload, 1) := by decide +kernel
theorem dL_law_152 : decode cL_law 152 = .ok (.aload_n 0, 1) := by decide +kernel
theorem dL_law_153 : decode cL_law 153 = .ok (.iload_n 3, 1) := by decide +kernel
theorem dL_law_154 : decode cL_law 154 = .ok (.iconst 3, 1) := by decide +kernel
theorem dL_law_155 : decode cL_law 155 = .ok (.iadd, 1) := by decide +kernel
theorem dL_law_156 : decode cL_law 156 = .ok (.iaload, 1) := by decide +kernel
theorem dL_law_157 : decode cL_law 157 = .ok (.aload_n 0, 1) := by decide +kernel
theorem dL_law_158 : decode cL_law 158 = .ok (.iload_n 3, 1) := by decide +kernel
theorem dL_law_159 : decode cL_law 159 = .ok (.iconst 4, 1) := by decide +kernel
theorem dL_law_160 : decode cL_law 160 = .ok (.iadd, 1) := by decide +kernel
theorem dL_law_161 : decode cL_law 161 = .ok (.iaload, 1) := by decide +kernel
theorem dL_law_162 : decode cL_law 162 = .ok (.invokevirtual 18, 3) := by decide +kernel
theorem dL_law_165 : decode cL_law 165 = .ok (.aload_n 2, 1) := by decide +kernel
theorem dL_law_166 : decode cL_law 166 = .ok (.aload_n 0, 1) := by decide +kernel
theorem dL_law_167 : decode cL_law 167 = .ok (.iload_n 3, 1) := by decide +kernel
theorem dL_law_168 : decode cL_law 168 = .ok (.iconst 1, 1) := by decide +kernel
theorem dL_law_169 : decode cL_law 169 = .ok (.iadd, 1) := by decide +kernel
theorem dL_law_170 : decode cL_law 170 = .ok (.iaload, 1) := by decide +kernel
theorem dL_law_171 : decode cL_law 171 = .ok (.aload_n 0, 1) := by decide +kernel
theorem dL_law_172 : decode cL_law 172 = .ok (.iload_n 3, 1) := by decide +kernel
theorem dL_law_173 : decode cL_law 173 = .ok (.iconst 2, 1) := by decide +kernel
theorem dL_law_174 : decode cL_law 174 = .ok (.iadd, 1) := by decide +kernel
theorem dL_law_175 : decode cL_law 175 = .ok (.iaload, 1) := by decide +kernel
theorem dL_law_176 : decode cL_law 176 = .ok (.aload_n 0, 1) := by decide +kernel
theorem dL_law_177 : decode cL_law 177 = .ok (.iload_n 3, 1) := by decide +kernel
theorem dL_law_178 : decode cL_law 178 = .ok (.iconst 3, 1) := by decide +kernel
theorem dL_law_179 : decode cL_law 179 = .ok (.iadd, 1) := by decide +kernel
theorem dL_law_180 : decode cL_law 180 = .ok (.iaload, 1) := by decide +kernel
theorem dL_law_181 : decode cL_law 181 = .ok (.aload_n 0, 1) := by decide +kernel
theorem dL_law_182 : decode cL_law 182 = .ok (.iload_n 3, 1) := by decide +kernel
theorem dL_law_183 : decode cL_law 183 = .ok (.iconst 4, 1) := by decide +kernel
theorem dL_law_184 : decode cL_law 184 = .ok (.iadd, 1) := by decide +kernel
theorem dL_law_185 : decode cL_law 185 = .ok (.iaload, 1) := by decide +kernel
theorem dL_law_186 : decode cL_law 186 = .ok (.invokevirtual 22, 3) := by decide +kernel
theorem dL_law_189 : decode cL_law 189 = .ok (.if_icmp .eq 270, 3) := by decide +kernel
theorem dL_law_194 : decode cL_law 194 = .ok (.aload_n 1, 1) := by decide +kernel
theorem dL_law_195 : decode cL_law 195 = .ok (.aload_n 0, 1) := by decide +kernel
theorem dL_law_196 : decode cL_law 196 = .ok (.iload_n 3, 1) := by decide +kernel
theorem dL_law_197 : decode cL_law 197 = .ok (.iconst 1, 1) := by decide +kernel
theorem dL_law_198 : decode cL_law 198 = .ok (.iadd, 1) := by decide +kernel
theorem dL_law_199 : decode cL_law 199 = .ok (.iaload, 1) := by decide +kernel
theorem dL_law_200 : decode cL_law 200 = .ok (.invokevirtual 23, 3) := by decide +kernel
theorem dL_law_203 : decode cL_law 203 = .ok (.aload_n 2, 1) := by decide +kernel
theorem dL_law_204 : decode cL_law 204 = .ok (.aload_n 0, 1) := by decide +kernel
theorem dL_law_205 : decode cL_law 205 = .ok (.iload_n 3, 1) := by decide +kernel
theorem dL_law_206 : decode cL_law 206 = .ok (.iconst 1, 1) := by decide +kernel
theorem dL_law_207 : decode cL_law 207 = .ok (.iadd, 1) := by decide +kernel
theorem dL_law_208 : decode cL_law 208 = .ok (.iaload, 1) := by decide +kernel
theorem dL_law_209 : decode cL_law 209 = .ok (.invokevirtual 27, 3) := by decide +kernel
theorem dL_law_212 : decode cL_law 212 = .ok (.if_icmp .eq 247, 3) := by decide +kernel
theorem dL_law_217 : decode cL_law 217 = .ok (.aload_n 1, 1) := by decide +kernel
theorem dL_law_218 : decode cL_law 218 = .ok (.aload_n 0, 1) := by decide +kernel
theorem dL_law_219 : decode cL_law 219 = .ok (.iload_n 3, 1) := by decide +kernel
theorem dL_law_220 : decode cL_law 220 = .ok (.iconst 1, 1) := by decide +kernel
theorem dL_law_221 : decode cL_law 221 = .ok (.iadd, 1) := by decide +kernel
theorem dL_law_222 : decode cL_law 222 = .ok (.iaload, 1) := by decide +kernel
theorem dL_law_223 : decode cL_law 223 = .ok (.aload_n 0, 1) := by decide +kernel
theorem dL_law_224 : decode cL_law 224 = .ok (.iload_n 3, 1) := by decide +kernel
theorem dL_law_225 : decode cL_law 225 = .ok (.iconst 2, 1) := by decide +kernel
theorem dL_law_226 : decode cL_law 226 = .ok (.iadd, 1) := by decide +kernel
theorem dL_law_227 : decode cL_law 227 = .ok (.iaload, 1) := by decide +kernel
theorem dL_law_228 : decode cL_law 228 = .ok (.invokevirtual 28, 3) := by decide +kernel
theorem dL_law_231 : decode cL_law 231 = .ok (.aload_n 2, 1) := by decide +kernel
theorem dL_law_232 : decode cL_law 232 = .ok (.aload_n 0, 1) := by decide +kernel
theorem dL_law_233 : decode cL_law 233 = .ok (.iload_n 3, 1) := by decide +kernel
theorem dL_law_234 : decode cL_law 234 = .ok (.iconst 1, 1) := by decide +kernel
theorem dL_law_235 : decode cL_law 235 = .ok (.iadd, 1) := by decide +kernel
theorem dL_law_236 : decode cL_law 236 = .ok (.iaload, 1) := by decide +kernel
theorem dL_law_237 : decode cL_law 237 = .ok (.aload_n 0, 1) := by decide +kernel
theorem dL_law_238 : decode cL_law 238 = .ok (.iload_n 3, 1) := by decide +kernel
theorem dL_law_239 : decode cL_law 239 = .ok (.iconst 2, 1) := by decide +kernel
theorem dL_law_240 : decode cL_law 240 = .ok (.iadd, 1) := by decide +kernel
theorem dL_law_241 : decode cL_law 241 = .ok (.iaload, 1) := by decide +kernel
theorem dL_law_242 : decode cL_law 242 = .ok (.invokevirtual 32, 3) := by decide +kernel
theorem dL_law_245 : decode cL_law 245 = .ok (.if_icmp .eq 214, 3) := by decide +kernel
theorem dL_law_250 : decode cL_law 250 = .ok (.aload_n 1, 1) := by decide +kernel
theorem dL_law_251 : decode cL_law 251 = .ok (.aload_n 0, 1) := by decide +kernel
theorem dL_law_252 : decode cL_law 252 = .ok (.iload_n 3, 1) := by decide +kernel
theorem dL_law_253 : decode cL_law 253 = .ok (.iconst 1, 1) := by decide +kernel
theorem dL_law_254 : decode cL_law 254 = .ok (.iadd, 1) := by decide +kernel
theorem dL_law_255 : decode cL_law 255 = .ok (.iaload, 1) := by decide +kernel
theorem dL_law_256 : decode cL_law 256 = .ok (.aload_n 0, 1) := by decide +kernel
theorem dL_law_257 : decode cL_law 257 = .ok (.iload_n 3, 1) := by decide +kernel
theorem dL_law_258 : decode cL_law 258 = .ok (.iconst 2, 1) := by decide +kernel
theorem dL_law_259 : decode cL_law 259 = .ok (.iadd, 1) := by decide +kernel
theorem dL_law_260 : decode cL_law 260 = .ok (.iaload, 1) := by decide +kernel
theorem dL_law_261 : decode cL_law 261 = .ok (.invokevirtual 33, 3) := by decide +kernel
theorem dL_law_264 : decode cL_law 264 = .ok (.aload_n 2, 1) := by decide +kernel
theorem dL_law_265 : decode cL_law 265 = .ok (.aload_n 0, 1) := by decide +kernel
theorem dL_law_266 : decode cL_law 266 = .ok (.iload_n 3, 1) := by decide +kernel
theorem dL_law_267 : decode cL_law 267 = .ok (.iconst 1, 1) := by decide +kernel
theorem dL_law_268 : decode cL_law 268 = .ok (.iadd, 1) := by decide +kernel
theorem dL_law_269 : decode cL_law 269 = .ok (.iaload, 1) := by decide +kernel
theorem dL_law_270 : decode cL_law 270 = .ok (.aload_n 0, 1) := by decide +kernel
theorem dL_law_271 : decode cL_law 271 = .ok (.iload_n 3, 1) := by decide +kernel
theorem dL_law_272 : decode cL_law 272 = .ok (.iconst 2, 1) := by decide +kernel
theorem dL_law_273 : decode cL_law 273 = .ok (.iadd, 1) := by decide +kernel
theorem dL_law_274 : decode cL_law 274 = .ok (.iaload, 1) := by decide +kernel
theorem dL_law_275 : decode cL_law 275 = .ok (.invokevirtual 36, 3) := by decide +kernel
theorem dL_law_278 : decode cL_law 278 = .ok (.if_icmp .eq 181, 3) := by decide +kernel
theorem dL_law_283 : decode cL_law 283 = .ok (.aload_n 1, 1) := by decide +kernel
theorem dL_law_284 : decode cL_law 284 = .ok (.aload_n 0, 1) := by decide +kernel
theorem dL_law_285 : decode cL_law 285 = .ok (.iload_n 3, 1) := by decide +kernel
theorem dL_law_286 : decode cL_law 286 = .ok (.iconst 1, 1) := by decide +kernel
theorem dL_law_287 : decode cL_law 287 = .ok (.iadd, 1) := by decide +kernel
theorem dL_law_288 : decode cL_law 288 = .ok (.iaload, 1) := by decide +kernel
theorem dL_law_289 : decode cL_law 289 = .ok (.aload_n 0, 1) := by decide +kernel
theorem dL_law_290 : decode cL_law 290 = .ok (.iload_n 3, 1) := by decide +kernel
theorem dL_law_291 : decode cL_law 291 = .ok (.iconst 2, 1) := by decide +kernel
theorem dL_law_292 : decode cL_law 292 = .ok (.iadd, 1) := by decide +kernel
theorem dL_law_293 : decode cL_law 293 = .ok (.iaload, 1) := by decide +kernel
theorem dL_law_294 : decode cL_law 294 = .ok (.aload_n 0, 1) := by decide +kernel
theorem dL_law_295 : decode cL_law 295 = .ok (.iload_n 3, 1) := by decide +kernel
theorem dL_law_296 : decode cL_law 296 = .ok (.iconst 3, 1) := by decide +kernel
theorem dL_law_297 : decode cL_law 297 = .ok (.iadd, 1) := by decide +kernel
theorem dL_law_298 : decode cL_law 298 = .ok (.iaload, 1) := by decide +kernel
theorem dL_law_299 : decode cL_law 299 = .ok (.aload_n 0, 1) := by decide +kernel
theorem dL_law_300 : decode cL_law 300 = .ok (.iload_n 3, 1) := by decide +kernel
theorem dL_law_301 : decode cL_law 301 = .ok (.iconst 4, 1) := by decide +kernel
theorem dL_law_302 : decode cL_law 302 = .ok (.iadd, 1) := by decide +kernel
theorem dL_law_303 : decode cL_law 303 = .ok (.iaload, 1) := by decide +kernel
theorem dL_law_304 : decode cL_law 304 = .ok (.invokevirtual 37, 3) := by decide +kernel
theorem dL_law_307 : decode cL_law 307 = .ok (.aload_n 2, 1) := by decide +kernel
theorem dL_law_308 : decode cL_law 308 = .ok (.aload_n 0, 1) := by decide +kernel
theorem dL_law_309 : decode cL_law 309 = .ok (.iload_n 3, 1) := by decide +kernel
theorem dL_law_310 : decode cL_law 310 = .ok (.iconst 1, 1) := by decide +kernel
theorem dL_law_311 : decode cL_law 311 = .ok (.iadd, 1) := by decide +kernel
theorem dL_law_312 : decode cL_law 312 = .ok (.iaload, 1) := by decide +kernel
theorem dL_law_313 : decode cL_law 313 = .ok (.aload_n 0, 1) := by decide +kernel
theorem dL_law_314 : decode cL_law 314 = .ok (.iload_n 3, 1) := by decide +kernel
theorem dL_law_315 : decode cL_law 315 = .ok (.iconst 2, 1) := by decide +kernel
theorem dL_law_316 : decode cL_law 316 = .ok (.iadd, 1) := by decide +kernel
theorem dL_law_317 : decode cL_law 317 = .ok (.iaload, 1) := by decide +kernel
theorem dL_law_318 : decode cL_law 318 = .ok (.aload_n 0, 1) := by decide +kernel
theorem dL_law_319 : decode cL_law 319 = .ok (.iload_n 3, 1) := by decide +kernel
theorem dL_law_320 : decode cL_law 320 = .ok (.iconst 3, 1) := by decide +kernel
theorem dL_law_321 : decode cL_law 321 = .ok (.iadd, 1) := by decide +kernel
theorem dL_law_322 : decode cL_law 322 = .ok (.iaload, 1) := by decide +kernel
theorem dL_law_323 : decode cL_law 323 = .ok (.aload_n 0, 1) := by decide +kernel
theorem dL_law_324 : decode cL_law 324 = .ok (.iload_n 3, 1) := by decide +kernel
theorem dL_law_325 : decode cL_law 325 = .ok (.iconst 4, 1) := by decide +kernel
theorem dL_law_326 : decode cL_law 326 = .ok (.iadd, 1) := by decide +kernel
theorem dL_law_327 : decode cL_law 327 = .ok (.iaload, 1) := by decide +kernel
theorem dL_law_328 : decode cL_law 328 = .ok (.invokevirtual 40, 3) := by decide +kernel
theorem dL_law_331 : decode cL_law 331 = .ok (.if_icmp .eq 128, 3) := by decide +kernel
end
section
theorem dL_law_336 : decode cL_law 336 = .ok (.aload_n 1, 1) := by decide +kernel
theorem dL_law_337 : decode cL_law 337 = .ok (.aload_n 0, 1) := by decide +kernel
theorem dL_law_338 : decode cL_law 338 = .ok (.iload_n 3, 1) := by decide +kernel
theorem dL_law_339 : decode cL_law 339 = .ok (.iconst 1, 1) := by decide +kernel
theorem dL_law_340 : decode cL_law 340 = .ok (.iadd, 1) := by decide +kernel
theorem dL_law_341 : decode cL_law 341 = .ok (.iaload, 1) := by decide +kernel
theorem dL_law_342 : decode cL_law 342 = .ok (.aload_n 0, 1) := by decide +kernel
theorem dL_law_343 : decode cL_law 343 = .ok (.iload_n 3, 1) := by decide +kernel
theorem dL_law_344 : decode cL_law 344 = .ok (.iconst 2, 1) := by decide +kernel
theorem dL_law_345 : decode cL_law 345 = .ok (.iadd, 1) := by decide +kernel
theorem dL_law_346 : decode cL_law 346 = .ok (.iaload, 1) := by decide +kernel
theorem dL_law_347 : decode cL_law 347 = .ok (.invokevirtual 41, 3) := by decide +kernel
theorem dL_law_350 : decode cL_law 350 = .ok (.aload_n 2, 1) := by decide +kernel
theorem dL_law_351 : decode cL_law 351 = .ok (.aload_n 0, 1) := by decide +kernel
theorem dL_law_352 : decode cL_law 352 = .ok (.iload_n 3, 1) := by decide +kernel
theorem dL_law_353 : decode cL_law 353 = .ok (.iconst 1, 1) := by decide +kernel
theorem dL_law_354 : decode cL_law 354 = .ok (.iadd, 1) := by decide +kernel
theorem dL_law_355 : decode cL_law 355 = .ok (.iaload, 1) := by decide +kernel
theorem dL_law_356 : decode cL_law 356 = .ok (.aload_n 0, 1) := by decide +kernel
theorem dL_law_357 : decode cL_law 357 = .ok (.iload_n 3, 1) := by decide +kernel
theorem dL_law_358 : decode cL_law 358 = .ok (.iconst 2, 1) := by decide +kernel
theorem dL_law_359 : decode cL_law 359 = .ok (.iadd, 1) := by decide +kernel
theorem dL_law_360 : decode cL_law 360 = .ok (.iaload, 1) := by decide +kernel
theorem dL_law_361 : decode cL_law 361 = .ok (.invokevirtual 44, 3) := by decide +kernel
theorem dL_law_364 : decode cL_law 364 = .ok (.if_icmp .eq 95, 3) := by decide +kernel
theorem dL_law_369 : decode cL_law 369 = .ok (.aload_n 1, 1) := by decide +kernel
theorem dL_law_370 : decode cL_law 370 = .ok (.aload_n 0, 1) := by decide +kernel
theorem dL_law_371 : decode cL_law 371 = .ok (.iload_n 3, 1) := by decide +kernel
theorem dL_law_372 : decode cL_law 372 = .ok (.iconst 1, 1) := by decide +kernel
theorem dL_law_373 : decode cL_law 373 = .ok (.iadd, 1) := by decide +kernel
theorem dL_law_374 : decode cL_law 374 = .ok (.iaload, 1) := by decide +kernel
theorem dL_law_375 : decode cL_law 375 = .ok (.invokevirtual 45, 3) := by decide +kernel
theorem dL_law_378 : decode cL_law 378 = .ok (.aload_n 2, 1) := by decide +kernel
theorem dL_law_379 : decode cL_law 379 = .ok (.aload_n 0, 1) := by decide +kernel
theorem dL_law_380 : decode cL_law 380 = .ok (.iload_n 3, 1) := by decide +kernel
theorem dL_law_381 : decode cL_law 381 = .ok (.iconst 1, 1) := by decide +kernel
theorem dL_law_382 : decode cL_law 382 = .ok (.iadd, 1) := by decide +kernel
theorem dL_law_383 : decode cL_law 383 = .ok (.iaload, 1) := by decide +kernel
theorem dL_law_384 : decode cL_law 384 = .ok (.invokevirtual 49, 3) := by decide +kernel
theorem dL_law_387 : decode cL_law 387 = .ok (.lcmp, 1) := by decide +kernel
theorem dL_law_388 : decode cL_law 388 = .ok (.ifCond .eq 71, 3) := by decide +kernel
theorem dL_law_393 : decode cL_law 393 = .ok (.aload_n 1, 1) := by decide +kernel
theorem dL_law_394 : decode cL_law 394 = .ok (.aload_n 0, 1) := by decide +kernel
theorem dL_law_395 : decode cL_law 395 = .ok (.iload_n 3, 1) := by decide +kernel
theorem dL_law_396 : decode cL_law 396 = .ok (.iconst 1, 1) := by decide +kernel
theorem dL_law_397 : decode cL_law 397 = .ok (.iadd, 1) := by decide +kernel
theorem dL_law_398 : decode cL_law 398 = .ok (.iaload, 1) := by decide +kernel
theorem dL_law_399 : decode cL_law 399 = .ok (.aload_n 0, 1) := by decide +kernel
theorem dL_law_400 : decode cL_law 400 = .ok (.iload_n 3, 1) := by decide +kernel
theorem dL_law_401 : decode cL_law 401 = .ok (.iconst 2, 1) := by decide +kernel
theorem dL_law_402 : decode cL_law 402 = .ok (.iadd, 1) := by decide +kernel
theorem dL_law_403 : decode cL_law 403 = .ok (.iaload, 1) := by decide +kernel
theorem dL_law_404 : decode cL_law 404 = .ok (.invokevirtual 50, 3) := by decide +kernel
theorem dL_law_407 : decode cL_law 407 = .ok (.aload_n 2, 1) := by decide +kernel
theorem dL_law_408 : decode cL_law 408 = .ok (.aload_n 0, 1) := by decide +kernel
theorem dL_law_409 : decode cL_law 409 = .ok (.iload_n 3, 1) := by decide +kernel
theorem dL_law_410 : decode cL_law 410 = .ok (.iconst 1, 1) := by decide +kernel
theorem dL_law_411 : decode cL_law 411 = .ok (.iadd, 1) := by decide +kernel
theorem dL_law_412 : decode cL_law 412 = .ok (.iaload, 1) := by decide +kernel
theorem dL_law_413 : decode cL_law 413 = .ok (.aload_n 0, 1) := by decide +kernel
theorem dL_law_414 : decode cL_law 414 = .ok (.iload_n 3, 1) := by decide +kernel
theorem dL_law_415 : decode cL_law 415 = .ok (.iconst 2, 1) := by decide +kernel
theorem dL_law_416 : decode cL_law 416 = .ok (.iadd, 1) := by decide +kernel
theorem dL_law_417 : decode cL_law 417 = .ok (.iaload, 1) := by decide +kernel
theorem dL_law_418 : decode cL_law 418 = .ok (.invokevirtual 53, 3) := by decide +kernel
theorem dL_law_421 : decode cL_law 421 = .ok (.if_icmp .eq 38, 3) := by decide +kernel
theorem dL_law_426 : decode cL_law 426 = .ok (.aload_n 1, 1) := by decide +kernel
theorem dL_law_427 : decode cL_law 427 = .ok (.aload_n 0, 1) := by decide +kernel
theorem dL_law_428 : decode cL_law 428 = .ok (.iload_n 3, 1) := by decide +kernel
theorem dL_law_429 : decode cL_law 429 = .ok (.iconst 1, 1) := by decide +kernel
theorem dL_law_430 : decode cL_law 430 = .ok (.iadd, 1) := by decide +kernel
theorem dL_law_431 : decode cL_law 431 = .ok (.iaload, 1) := by decide +kernel
theorem dL_law_432 : decode cL_law 432 = .ok (.aload_n 0, 1) := by decide +kernel
theorem dL_law_433 : decode cL_law 433 = .ok (.iload_n 3, 1) := by decide +kernel
theorem dL_law_434 : decode cL_law 434 = .ok (.iconst 2, 1) := by decide +kernel
theorem dL_law_435 : decode cL_law 435 = .ok (.iadd, 1) := by decide +kernel
theorem dL_law_436 : decode cL_law 436 = .ok (.iaload, 1) := by decide +kernel
theorem dL_law_437 : decode cL_law 437 = .ok (.invokevirtual 54, 3) := by decide +kernel
theorem dL_law_440 : decode cL_law 440 = .ok (.aload_n 2, 1) := by decide +kernel
theorem dL_law_441 : decode cL_law 441 = .ok (.aload_n 0, 1) := by decide +kernel
theorem dL_law_442 : decode cL_law 442 = .ok (.iload_n 3, 1) := by decide +kernel
theorem dL_law_443 : decode cL_law 443 = .ok (.iconst 1, 1) := by decide +kernel
theorem dL_law_444 : decode cL_law 444 = .ok (.iadd, 1) := by decide +kernel
theorem dL_law_445 : decode cL_law 445 = .ok (.iaload, 1) := by decide +kernel
theorem dL_law_446 : decode cL_law 446 = .ok (.aload_n 0, 1) := by decide +kernel
theorem dL_law_447 : decode cL_law 447 = .ok (.iload_n 3, 1) := by decide +kernel
theorem dL_law_448 : decode cL_law 448 = .ok (.iconst 2, 1) := by decide +kernel
theorem dL_law_449 : decode cL_law 449 = .ok (.iadd, 1) := by decide +kernel
theorem dL_law_450 : decode cL_law 450 = .ok (.iaload, 1) := by decide +kernel
theorem dL_law_451 : decode cL_law 451 = .ok (.invokevirtual 57, 3) := by decide +kernel
theorem dL_law_454 : decode cL_law 454 = .ok (.if_icmp .eq 5, 3) := by decide +kernel
theorem dL_law_459 : decode cL_law 459 = .ok (.iinc 3 5, 3) := by decide +kernel
theorem dL_law_462 : decode cL_law 462 = .ok (.goto (-444), 3) := by decide +kernel
theorem dL_law_465 : decode cL_law 465 = .ok (.iconst 1, 1) := by decide +kernel
theorem dL_law_466 : decode cL_law 466 = .ok (.ireturn, 1) := by decide +kernel
end
section
abbrev q_cl : List vw_C := [(RX0, TX0, 11), (RX1, TX1, 3), (RX2, TX2, 3), (RX4, TX4, 8), (RX6, TX6, 5), (RX7, TX7, 17), (RX8, TX8, 2), (RX9, TX9, 5)]
abbrev q_ty (aI aL aZ : ClassId) : List (ClassId × FieldType) := [(aI, .int), (aL, .long), (aZ, .boolean)]
/-! MY OWN SMALL KIT: one form of contract (a world in, a world out, one list of array classes throughout), its entry, its ends, its calls -/
/-- the two links of the reference to its nest mates' private constructors -/
def qN (U : State) : Prop := va_Nw (.methodLinkNest RX9 40 yX7_init RX9) U ∧ va_Nw (.methodLinkNest RX9 47 yX8_init RX9) U
theorem qN_same {u U : State} (h : u.vm = U.vm) (hN : qN u) : qN U := ⟨va_Nw.same rfl h hN.1, va_Nw.same rfl h hN.2⟩
theorem qN_warm {s U : State} (hW : s.WarmedH U.vm) (hN : qN s) : qN U := ⟨va_Nw.warmM hW hN.1, va_Nw.warmM hW hN.2⟩
abbrev qR (d mc ms : Nat) : Room := { frames := d, cells := mc, slots := ms, locals := 40 * d }
def qPre (D : va_G) (cl : List vw_C) (tys : List (ClassId × FieldType)) (av : List Value) (ws : va_W) (sz : Nat) : Array Value → State → Prop := va_Pc av (fun U => U.heap.size = sz ∧ va_P D cl ws U.heap ∧ (va_K D cl tys U ∧ qN U) ∧ va_D (fun _ => True) ws)
theorem qPre_blind {D : va_G} {cl : List vw_C} {tys : List (ClassId × FieldType)} {av : List Value} {ws : va_W} {sz : Nat} : FrameBlind (qPre D cl tys av ws sz) := fun a U g mk q => by
  obtain ⟨q0, q1, qP, ⟨qK, qW⟩, qD⟩ := q
  exact ⟨q0, q1, qP, ⟨va_K.moved (u := U) (U := U.calling g mk a) (Vm.Alike.refl U.vm) qK, qN_same (u := U) (U := U.calling g mk a) rfl qW⟩, qD⟩
def qQi {S : Type} (D : va_G) (cl : List vw_C) (tys : List (ClassId × FieldType)) (post : Int32 → S → Prop) (w : S → va_W) (A : Nat → Prop) : Array Value → State → Outcome → State → Prop := va_Qi post (fun (u : S) (t : State) => va_P D cl (w u) t.heap ∧ va_K D cl tys t ∧ va_D A (w u)) A
def qQl {S : Type} (D : va_G) (cl : List vw_C) (tys : List (ClassId × FieldType)) (post : Int64 → S → Prop) (w : S → va_W) (A : Nat → Prop) : Array Value → State → Outcome → State → Prop := va_Ql post (fun (u : S) (t : State) => va_P D cl (w u) t.heap ∧ va_K D cl tys t ∧ va_D A (w u)) A
def qQv {S : Type} (D : va_G) (cl : List vw_C) (tys : List (ClassId × FieldType)) (post : S → Prop) (w : S → va_W) (A : Nat → Prop) : Array Value → State → Outcome → State → Prop := va_Qv post (fun (u : S) (t : State) => va_P D cl (w u) t.heap ∧ va_K D cl tys t ∧ va_D A (w u)) A
def qQr {S : Type} (D : va_G) (cl : List vw_C) (tys : List (ClassId × FieldType)) (post : S → Prop) (w : S → va_W) (ad : S → Nat) (A : Nat → Prop) : Array Value → State → Outcome → State → Prop := va_Qr post (fun (u : S) (a : Nat) (t : State) => a = ad u ∧ va_P D cl (w u) t.heap ∧ va_K D cl tys t ∧ va_D A (w u)) A
abbrev MI {S : Type} (l : Launch) (D : va_G) (cl : List vw_C) (tys : List (ClassId × FieldType)) (y : MethodName) (wsY : List Cond) (d mc ms : Nat) (av : List Value) (ws : va_W) (sz : Nat) (post : Int32 → S → Prop) (w : S → va_W) : Prop := Met l y wsY (qR d mc ms) (qPre D cl tys av ws sz) (qQi D cl tys post w (va_A ws sz)) mc ms (va_A ws sz)
abbrev ML {S : Type} (l : Launch) (D : va_G) (cl : List vw_C) (tys : List (ClassId × FieldType)) (y : MethodName) (wsY : List Cond) (d mc ms : Nat) (av : List Value) (ws : va_W) (sz : Nat) (post : Int64 → S → Prop) (w : S → va_W) : Prop := Met l y wsY (qR d mc ms) (qPre D cl tys av ws sz) (qQl D cl tys post w (va_A ws sz)) mc ms (va_A ws sz)
abbrev MV {S : Type} (l : Launch) (D : va_G) (cl : List vw_C) (tys : List (ClassId × FieldType)) (y : MethodName) (wsY : List Cond) (d mc ms : Nat) (av : List Value) (ws : va_W) (sz : Nat) (post : S → Prop) (w : S → va_W) : Prop := Met l y wsY (qR d mc ms) (qPre D cl tys av ws sz) (qQv D cl tys post w (va_A ws sz)) mc ms (va_A ws sz)
abbrev MR {S : Type} (l : Launch) (D : va_G) (cl : List vw_C) (tys : List (ClassId × FieldType)) (y : MethodName) (wsY : List Cond) (d mc ms : Nat) (av : List Value) (ws : va_W) (sz : Nat) (post : S → Prop) (w : S → va_W) (ad : S → Nat) : Prop := Met l y wsY (qR d mc ms) (qPre D cl tys av ws sz) (qQr D cl tys post w ad (va_A ws sz)) mc ms (va_A ws sz)
/-- what a method's body stands on -/
def qAt (p : Program) (s : State) (m : MethodId) (args : Array Value) (meth : Method) (c : Code) (cc : ByteArray) (wsY : List Cond) (y : MethodName) (ret : Option FieldType) (maxL : Nat) (D : va_G) (cl : List vw_C) (tys : List (ClassId × FieldType)) (A : Nat → Prop) : Prop :=
  p.tables.exec = Jvm.exec ∧ c.code = cc ∧ meth.sig.returnType = ret ∧ (∀ w ∈ wsY, w.before args s = true) ∧ s.vm.findClass y.cls = some m.cls ∧ meth.locks = false ∧ c.maxLocals = maxL ∧ meth.name = y.name ∧ va_K D cl tys s ∧ qN s ∧ ∀ q, s.heap.size ≤ q → A q
theorem q_in {l : Launch} {D : va_G} {cl : List vw_C} {tys : List (ClassId × FieldType)} {y : MethodName} {wsY ws' : List Cond} {d mc ms : Nat} {av : List Value} {ws : va_W} {sz : Nat} (cc : ByteArray) (maxL : Nat) (ret : Option FieldType) (G : (Nat → Prop) → Array Value → State → Outcome → State → Prop)
    (hy : plainName y.cls = true) (hw : wsY = Cond.code y cc maxL ret :: ws') (hlen : (lg_sl av).length ≤ maxL)
    (body : ∀ (p : Program) (e : Env) (s : State) (m : MethodId) (args : Array Value) (below : List Frame) (meth : Method) (c : Code) (A : Nat → Prop) (ls : Array Slot), qAt p s m args meth c cc wsY y ret maxL D cl tys A → va_P D cl ws s.heap → va_D A ws → va_S A s.heap s.heap [] → lv_has ls maxL (lv_args 0 av) → W p l e (qR d mc ms) s m args below meth c s.heap [] 0 0 (MQ below (G A) args s mc ms A) (F0 m 0 ls [])) :
    Met l y wsY (qR d mc ms) (qPre D cl tys av ws sz) (G (va_A ws sz)) mc ms (va_A ws sz) := by
  refine Met.ofW (cc := cc) (maxL := maxL) (ret := ret) hy hw ?_
  intro p e s m args below meth c s₁ B hml hv
  obtain ⟨hav, hsz, hP, ⟨hK, hN⟩, hD0⟩ := hv
  have hl := lv_entry av (n := maxL) hlen
  have hat : qAt p s m args meth c cc wsY y ret maxL D cl tys (va_A ws s.heap.size) := ⟨B.exec, B.bytes, B.returns, atoms_spec (ws := wsY) B.pre, findClass_of_methodNamed B.named, B.notSynchronized, hml, (name_of_methodNamed B.named B.method).1, hK, hN, fun q h => Or.inr h⟩
  have K := body p e s m args below meth c (va_A ws s.heap.size) _ hat hP (hD0.self) va_S.rf hl
  subst hsz
  subst hav
  rw [lg_entry_eq]
  exact K
section QK
variable {p : Program} {l : Launch} {e : Env} {R : Room} {s : State} {m : MethodId} {args : Array Value} {below : List Frame} {meth : Method} {c : Code} {H : Heap} {locs : List Loc} {cells slots : Nat} {Q : State → Prop}
variable {cc : ByteArray} {pc : Nat} {ls : Array Slot} {rest st0 : List Value} {D : va_G} {cl : List vw_C} {A : Nat → Prop} {tys : List (ClassId × FieldType)} {ws wc wr : va_W} {mc ms : Nat}
theorem q_vi {x v : Int32} (h : x = v) (k : W p l e R s m args below meth c H locs cells slots Q (F0 m pc ls (.int v :: rest))) : W p l e R s m args below meth c H locs cells slots Q (F0 m pc ls (.int x :: rest)) := h ▸ k
theorem q_vl {x v : Int64} (h : x = v) (k : W p l e R s m args below meth c H locs cells slots Q (F0 m pc ls (.long v :: rest))) : W p l e R s m args below meth c H locs cells slots Q (F0 m pc ls (.long x :: rest)) := h ▸ k
theorem q_reti {S : Type} {post : Int32 → S → Prop} {w : S → va_W} {v : Int32} (u : S) (hx : p.tables.exec = Jvm.exec) (hb : c.code = cc) (hr : meth.sig.returnType = some .int) (hlocks : meth.locks = false) (hK : va_K D cl tys s) (hP : va_P D cl (w u) H) (hD : va_D A (w u)) (hS : va_S A s.heap H locs) (hc : cells ≤ mc) (hs : slots ≤ ms) (hp : post v u) (hdg : decode cc pc = .ok (.ireturn, 1)) :
    W p l e R s m args below meth c H locs cells slots (MQ below (qQi D cl tys post w A) args s mc ms A) (F0 m pc ls [.int v]) := by
  refine W.widen (k := mc) (n := ms) hc hs ?_
  exact W.iret hx hb hr (fun t ht hW => ⟨⟨v, u, rfl, hp, by rw [ht]; exact hP, va_K.moved hW.alike hK, hD⟩, hS.F ht⟩) hS.2.2 hdg hlocks
theorem q_retz {S : Type} {post : Int32 → S → Prop} {w : S → va_W} {v : Int32} (u : S) (hx : p.tables.exec = Jvm.exec) (hb : c.code = cc) (hr : meth.sig.returnType = some .boolean) (hn : narrow .boolean (.int v) = .int v) (hlocks : meth.locks = false) (hK : va_K D cl tys s) (hP : va_P D cl (w u) H) (hD : va_D A (w u)) (hS : va_S A s.heap H locs) (hc : cells ≤ mc) (hs : slots ≤ ms) (hp : post v u) (hdg : decode cc pc = .ok (.ireturn, 1)) :
    W p l e R s m args below meth c H locs cells slots (MQ below (qQi D cl tys post w A) args s mc ms A) (F0 m pc ls [.int v]) := by
  refine W.widen (k := mc) (n := ms) hc hs ?_
  exact W.zret hx hb hr hn (fun t ht hW => ⟨⟨v, u, rfl, hp, by rw [ht]; exact hP, va_K.moved hW.alike hK, hD⟩, hS.F ht⟩) hS.2.2 hdg hlocks
theorem q_retl {S : Type} {post : Int64 → S → Prop} {w : S → va_W} {v : Int64} (u : S) (hx : p.tables.exec = Jvm.exec) (hb : c.code = cc) (hr : meth.sig.returnType = some .long) (hlocks : meth.locks = false) (hK : va_K D cl tys s) (hP : va_P D cl (w u) H) (hD : va_D A (w u)) (hS : va_S A s.heap H locs) (hc : cells ≤ mc) (hs : slots ≤ ms) (hp : post v u) (hdg : decode cc pc = .ok (.lreturn, 1)) :
    W p l e R s m args below meth c H locs cells slots (MQ below (qQl D cl tys post w A) args s mc ms A) (F0 m pc ls [.long v]) := by
  refine W.widen (k := mc) (n := ms) hc hs ?_
  exact W.lret hx hb hr (fun t ht hW => ⟨⟨v, u, rfl, hp, by rw [ht]; exact hP, va_K.moved hW.alike hK, hD⟩, hS.F ht⟩) hS.2.2 hdg hlocks
theorem q_retv {S : Type} {post : S → Prop} {w : S → va_W} (u : S) (hx : p.tables.exec = Jvm.exec) (hb : c.code = cc) (hr : meth.sig.returnType = none) (hlocks : meth.locks = false) (hK : va_K D cl tys s) (hP : va_P D cl (w u) H) (hD : va_D A (w u)) (hS : va_S A s.heap H locs) (hc : cells ≤ mc) (hs : slots ≤ ms) (hp : post u) (hdg : decode cc pc = .ok (.return_, 1)) :
    W p l e R s m args below meth c H locs cells slots (MQ below (qQv D cl tys post w A) args s mc ms A) (F0 m pc ls []) := by
  refine W.widen (k := mc) (n := ms) hc hs ?_
  exact W.vret hx hb hr (fun t ht hW => ⟨⟨u, rfl, hp, by rw [ht]; exact hP, va_K.moved hW.alike hK, hD⟩, hS.F ht⟩) hS.2.2 hdg hlocks
theorem q_reta {S : Type} {post : S → Prop} {w : S → va_W} {ad : S → Nat} {v : Nat} {cn : String} (u : S) (hx : p.tables.exec = Jvm.exec) (hb : c.code = cc) (hr : meth.sig.returnType = some (.object cn)) (hlocks : meth.locks = false) (hK : va_K D cl tys s) (hP : va_P D cl (w u) H) (hD : va_D A (w u)) (hS : va_S A s.heap H locs) (hc : cells ≤ mc) (hs : slots ≤ ms) (hp : post u) (ha : v = ad u) (hdg : decode cc pc = .ok (.areturn, 1)) :
    W p l e R s m args below meth c H locs cells slots (MQ below (qQr D cl tys post w ad A) args s mc ms A) (F0 m pc ls [.ref v]) := by
  refine W.widen (k := mc) (n := ms) hc hs ?_
  exact W.aret hx hb hr (Or.inl ⟨cn, rfl⟩) (Or.inr ⟨v, rfl⟩) (fun t ht hW => ⟨⟨u, v, rfl, hp, ha, by rw [ht]; exact hP, va_K.moved hW.alike hK, hD⟩, hS.F ht⟩) hS.2.2 hdg hlocks
/-- the callee's start, out of the caller's world -/
theorem q_pre {av : List Value} {U : State} (hK : va_K D cl tys s) (hN : qN s) (hP : va_P D cl ws H) (hD : va_D A ws) (isC : List Nat) (hC : isC.map (fun i => ws[i]?) = wc.map some) (hnd : va_nd isC = true) (hU : U.heap = H) (hW : s.WarmedH U.vm) : qPre D cl tys av wc H.size av.toArray U := by
  have hPc : va_P D cl wc H := by
    intro k q hk
    have h1 : (isC.map (fun i => ws[i]?))[k]? = some (some q) := by rw [hC, List.getElem?_map, hk]; rfl
    rw [List.getElem?_map] at h1
    cases hi : isC[k]? with
    | none => rw [hi] at h1; cases h1
    | some i => rw [hi] at h1; exact hP i q (Option.some.inj h1)
  exact ⟨rfl, by rw [hU], by rw [hU]; exact hPc, ⟨va_K.moved hW.alike hK, qN_warm hW hN⟩, (hD.sub isC hnd hC).weaken (fun _ _ _ _ => trivial)⟩
theorem q_wc (hP : va_P D cl ws H) (isC : List Nat) (hC : isC.map (fun i => ws[i]?) = wc.map some) : va_P D cl wc H := by
  intro k q hk
  have h1 : (isC.map (fun i => ws[i]?))[k]? = some (some q) := by rw [hC, List.getElem?_map, hk]; rfl
  rw [List.getElem?_map] at h1
  cases hi : isC[k]? with
  | none => rw [hi] at h1; cases h1
  | some i => rw [hi] at h1; exact hP i q (Option.some.inj h1)
theorem q_runV {y : MethodName} {wsY : List Cond} {d n nL index maxL : Nat} {bytes : ByteArray} {ret : Option FieldType} {Ts : List Cond} {own C : String} {b : Addr} {As : List Value} {Qc : Array Value → State → Outcome → State → Prop} {free : Addr → Prop} (S : CallFix p m c cc nL s args Ts own) (hM : Met l y wsY (qR d mc ms) (qPre D cl tys (.ref b :: As) wc H.size) Qc mc ms free) (cw : CallW R s args own C index y bytes maxL ret wsY (qR d mc ms) mc ms n) (hK : va_K D cl tys s) (hN : qN s) (hP : va_P D cl ws H) (hD : va_D A ws) (isC : List Nat) (hC : isC.map (fun i => ws[i]?) = wc.map some) (hnd : va_nd isC = true) {ci N : Nat} {T : u_T} {fs : List Value} (hc : cl[ci]? = some (C, T, N)) (he : wc[0]? = some (b, .inr (ci, fs)))
    (hn : As.length = n) (hsize : ls.size = nL) (hst : st0 = As.reverse ++ .ref b :: rest) (hrm : (rest.map fun v => v.category).sum ≤ 8) (hdg : decode cc pc = .ok (.invokevirtual index, 3)) (hf : cells + mc ≤ R.cells ∧ slots + ms ≤ R.slots) :
    va_Run p l e R s m args below meth c H locs cells slots mc ms (F0 m pc ls st0) rest (Qc (Value.ref b :: As).toArray) free :=
  va_runV S hM cw ⟨qPre_blind, va_recv hK (q_wc hP isC hC) hc he, fun U hU hW => q_pre hK hN hP hD isC hC hnd hU hW⟩ rfl hn hsize hst (lv_room hrm) hdg hf
theorem q_runS {y : MethodName} {wsY : List Cond} {d n nL index maxL : Nat} {bytes : ByteArray} {ret : Option FieldType} {Ts : List Cond} {own : String} {As : List Value} {Qc : Array Value → State → Outcome → State → Prop} {free : Addr → Prop} (S : CallFix p m c cc nL s args Ts own) (hM : Met l y wsY (qR d mc ms) (qPre D cl tys As wc H.size) Qc mc ms free) (cw : CallB R s args own index y bytes maxL ret wsY (qR d mc ms) mc ms n ∧ (Cond.static y).before args s = true) (hK : va_K D cl tys s) (hN : qN s) (hP : va_P D cl ws H) (hD : va_D A ws) (isC : List Nat) (hC : isC.map (fun i => ws[i]?) = wc.map some) (hnd : va_nd isC = true)
    (hn : As.length = n) (hsize : ls.size = nL) (hst : st0 = As.reverse ++ rest) (hrm : (rest.map fun v => v.category).sum ≤ 8) (hdg : decode cc pc = .ok (.invokestatic index, 3)) (hf : cells + mc ≤ R.cells ∧ slots + ms ≤ R.slots) :
    va_Run p l e R s m args below meth c H locs cells slots mc ms (F0 m pc ls st0) rest (Qc As.toArray) free :=
  va_runS S hM cw ⟨qPre_blind, fun U hU hW => q_pre hK hN hP hD isC hC hnd hU hW⟩ rfl hn hsize hst (lv_room hrm) hdg hf
theorem q_runI {y : MethodName} {wsY : List Cond} {d n nL index maxL : Nat} {bytes : ByteArray} {Ts : List Cond} {own : String} {b : Addr} {As : List Value} {Qc : Array Value → State → Outcome → State → Prop} {free : Addr → Prop} (S : CallFix p m c cc nL s args Ts own) (hM : Met l y wsY (qR d mc ms) (qPre D cl tys (.ref b :: As) wc H.size) Qc mc ms free) (cw : CallB R s args own index y bytes maxL none wsY (qR d mc ms) mc ms n ∧ y.name = "<init>" ∧ (Cond.instanceMethod y).before args s = true) (hK : va_K D cl tys s) (hN : qN s) (hP : va_P D cl ws H) (hD : va_D A ws) (isC : List Nat) (hC : isC.map (fun i => ws[i]?) = wc.map some) (hnd : va_nd isC = true)
    (hn : As.length = n) (hsize : ls.size = nL) (hst : st0 = As.reverse ++ .ref b :: rest) (hrm : (rest.map fun v => v.category).sum ≤ 8) (hdg : decode cc pc = .ok (.invokespecial index, 3)) (hf : cells + mc ≤ R.cells ∧ slots + ms ≤ R.slots) :
    va_Run p l e R s m args below meth c H locs cells slots mc ms (F0 m pc ls st0) rest (Qc (Value.ref b :: As).toArray) free :=
  va_runI S hM cw ⟨qPre_blind, fun U hU hW => q_pre hK hN hP hD isC hC hnd hU hW⟩ rfl hn hsize hst (lv_room hrm) hdg hf
theorem q_runIN {y : MethodName} {wsY : List Cond} {d n nL index maxL : Nat} {bytes : ByteArray} {Ts : List Cond} {own host : String} {b : Addr} {As : List Value} {Qc : Array Value → State → Outcome → State → Prop} {free : Addr → Prop} (S : CallFix p m c cc nL s args Ts own) (hM : Met l y wsY (qR d mc ms) (qPre D cl tys (.ref b :: As) wc H.size) Qc mc ms free) (cw : va_CN R s args own index y host bytes maxL none wsY (qR d mc ms) mc ms n ∧ y.name = "<init>" ∧ (Cond.instanceMethod y).before args s = true) (hK : va_K D cl tys s) (hN : qN s) (hP : va_P D cl ws H) (hD : va_D A ws) (isC : List Nat) (hC : isC.map (fun i => ws[i]?) = wc.map some) (hnd : va_nd isC = true)
    (hn : As.length = n) (hsize : ls.size = nL) (hst : st0 = As.reverse ++ .ref b :: rest) (hrm : (rest.map fun v => v.category).sum ≤ 8) (hdg : decode cc pc = .ok (.invokespecial index, 3)) (hf : cells + mc ≤ R.cells ∧ slots + ms ≤ R.slots) :
    va_Run p l e R s m args below meth c H locs cells slots mc ms (F0 m pc ls st0) rest (Qc (Value.ref b :: As).toArray) free :=
  va_runIN S hM cw ⟨qPre_blind, fun U hU hW => q_pre hK hN hP hD isC hC hnd hU hW⟩ rfl hn hsize hst (lv_room hrm) hdg hf
theorem q_i {S : Type} {post : Int32 → S → Prop} {w : S → va_W} {a : Array Value} (hr : va_Run p l e R s m args below meth c H locs cells slots mc ms (F0 m pc ls st0) rest (qQi D cl tys post w (va_A wc H.size) a) (va_A wc H.size)) (hP : va_P D cl ws H) (hD : va_D A ws) (hS : va_S A s.heap H locs) (hA : ∀ q, s.heap.size ≤ q → A q) (isC isR : List Nat) (hC : isC.map (fun i => ws[i]?) = wc.map some) (hR : isR.map (fun i => ws[i]?) = wr.map some) (hn : va_nd isR = true) (hdis : ∀ i ∈ isR, i ∉ isC)
    (kk : ∀ (r : Int32) (u : S) (H1 : Heap) (locs1 : List Loc), post r u → va_P D cl (wr ++ w u) H1 → va_D A (wr ++ w u) → va_S A s.heap H1 locs1 → W p l e R s m args below meth c H1 locs1 (cells + mc) (slots + ms) Q (F0 m (pc + 3) ls (.int r :: rest))) : W p l e R s m args below meth c H locs cells slots Q (F0 m pc ls st0) := by
  have hF := va_free (wc := wc) hD hS hA isC hC
  refine va_calli hr hS (fun q _ h => hF q h) hF (fun r u t H1 locs1 ht hvm hw hB hz1 hk1 hS1 => ?_)
  obtain ⟨hP1, hK1, hD1⟩ := hB
  rw [ht] at hP1
  obtain ⟨hP2, hD2⟩ := va_join (wr := wr) (w1 := w u) hP hD isC isR hC hR hn hdis hk1 hF hP1 hD1
  exact kk r u H1 locs1 hw hP2 hD2 hS1
theorem q_l {S : Type} {post : Int64 → S → Prop} {w : S → va_W} {a : Array Value} (hr : va_Run p l e R s m args below meth c H locs cells slots mc ms (F0 m pc ls st0) rest (qQl D cl tys post w (va_A wc H.size) a) (va_A wc H.size)) (hP : va_P D cl ws H) (hD : va_D A ws) (hS : va_S A s.heap H locs) (hA : ∀ q, s.heap.size ≤ q → A q) (isC isR : List Nat) (hC : isC.map (fun i => ws[i]?) = wc.map some) (hR : isR.map (fun i => ws[i]?) = wr.map some) (hn : va_nd isR = true) (hdis : ∀ i ∈ isR, i ∉ isC)
    (kk : ∀ (r : Int64) (u : S) (H1 : Heap) (locs1 : List Loc), post r u → va_P D cl (wr ++ w u) H1 → va_D A (wr ++ w u) → va_S A s.heap H1 locs1 → W p l e R s m args below meth c H1 locs1 (cells + mc) (slots + ms) Q (F0 m (pc + 3) ls (.long r :: rest))) : W p l e R s m args below meth c H locs cells slots Q (F0 m pc ls st0) := by
  have hF := va_free (wc := wc) hD hS hA isC hC
  refine va_calll hr hS (fun q _ h => hF q h) hF (fun r u t H1 locs1 ht hvm hw hB hz1 hk1 hS1 => ?_)
  obtain ⟨hP1, hK1, hD1⟩ := hB
  rw [ht] at hP1
  obtain ⟨hP2, hD2⟩ := va_join (wr := wr) (w1 := w u) hP hD isC isR hC hR hn hdis hk1 hF hP1 hD1
  exact kk r u H1 locs1 hw hP2 hD2 hS1
theorem q_v {S : Type} {post : S → Prop} {w : S → va_W} {a : Array Value} (hr : va_Run p l e R s m args below meth c H locs cells slots mc ms (F0 m pc ls st0) rest (qQv D cl tys post w (va_A wc H.size) a) (va_A wc H.size)) (hP : va_P D cl ws H) (hD : va_D A ws) (hS : va_S A s.heap H locs) (hA : ∀ q, s.heap.size ≤ q → A q) (isC isR : List Nat) (hC : isC.map (fun i => ws[i]?) = wc.map some) (hR : isR.map (fun i => ws[i]?) = wr.map some) (hn : va_nd isR = true) (hdis : ∀ i ∈ isR, i ∉ isC)
    (kk : ∀ (u : S) (H1 : Heap) (locs1 : List Loc), post u → va_P D cl (wr ++ w u) H1 → va_D A (wr ++ w u) → va_S A s.heap H1 locs1 → W p l e R s m args below meth c H1 locs1 (cells + mc) (slots + ms) Q (F0 m (pc + 3) ls rest)) : W p l e R s m args below meth c H locs cells slots Q (F0 m pc ls st0) := by
  have hF := va_free (wc := wc) hD hS hA isC hC
  refine va_callv hr hS (fun q _ h => hF q h) hF (fun u t H1 locs1 ht hvm hw hB hz1 hk1 hS1 => ?_)
  obtain ⟨hP1, hK1, hD1⟩ := hB
  rw [ht] at hP1
  obtain ⟨hP2, hD2⟩ := va_join (wr := wr) (w1 := w u) hP hD isC isR hC hR hn hdis hk1 hF hP1 hD1
  exact kk u H1 locs1 hw hP2 hD2 hS1
theorem q_r {S : Type} {post : S → Prop} {w : S → va_W} {ad : S → Nat} {a : Array Value} (hr : va_Run p l e R s m args below meth c H locs cells slots mc ms (F0 m pc ls st0) rest (qQr D cl tys post w ad (va_A wc H.size) a) (va_A wc H.size)) (hP : va_P D cl ws H) (hD : va_D A ws) (hS : va_S A s.heap H locs) (hA : ∀ q, s.heap.size ≤ q → A q) (isC isR : List Nat) (hC : isC.map (fun i => ws[i]?) = wc.map some) (hR : isR.map (fun i => ws[i]?) = wr.map some) (hn : va_nd isR = true) (hdis : ∀ i ∈ isR, i ∉ isC)
    (kk : ∀ (u : S) (H1 : Heap) (locs1 : List Loc), post u → va_P D cl (wr ++ w u) H1 → va_D A (wr ++ w u) → va_S A s.heap H1 locs1 → W p l e R s m args below meth c H1 locs1 (cells + mc) (slots + ms) Q (F0 m (pc + 3) ls (.ref (ad u) :: rest))) : W p l e R s m args below meth c H locs cells slots Q (F0 m pc ls st0) := by
  have hF := va_free (wc := wc) hD hS hA isC hC
  refine va_callr hr hS (fun q _ h => hF q h) hF (fun u ra t H1 locs1 ht hvm hw hB hz1 hk1 hS1 => ?_)
  obtain ⟨hra, hP1, hK1, hD1⟩ := hB
  rw [ht] at hP1
  subst hra
  obtain ⟨hP2, hD2⟩ := va_join (wr := wr) (w1 := w u) hP hD isC isR hC hR hn hdis hk1 hF hP1 hD1
  exact kk u H1 locs1 hw hP2 hD2 hS1
/-- a new array, of a class that is known already -/
theorem q_newa (hexec : p.tables.exec = Jvm.exec) (hb : c.code = cc) {atype : ArrayType} (harr : (Cond.arrayClass (newarray.typeOf atype)).before args s = true) {ty : FieldType} (hty : newarray.typeOf atype = ty) (hra : ∀ cA, va_RA s cA ty → s.vm.findClass ("[" ++ ty.toString) = some cA) (hK : va_K D cl tys s) (hP : va_P D cl ws H) (hD : va_D A ws) (hS : va_S A s.heap H locs) (hA : ∀ q, s.heap.size ≤ q → A q) (t0 : Nat) {cT : ClassId} (ht : tys[t0]? = some (cT, ty))
    {n : Int32} {N' : Nat} {a0 : vp_A} (ha : ∀ cA : ClassId, vp_cell cA a0 = arrV cA N' (fun _ => defaultValue ty)) (hn : ¬ n < 0) (hN : n.toNatClampNeg = N') (hbytes : N' * componentBytes ty ≤ 536870912) (hcells : cells + 1 ≤ R.cells) (hslots : slots + N' ≤ R.slots) (hdg : decode cc pc = .ok (.newarray atype, 2))
    (kk : ∀ (q : Nat) (H1 : Heap), va_P D cl (ws ++ [(q, .inl (cT, a0))]) H1 → va_D A (ws ++ [(q, .inl (cT, a0))]) → va_S A s.heap H1 locs →
      W p l e R s m args below meth c H1 locs (cells + 1) (slots + N') Q (F0 m (pc + 2) ls (.ref q :: rest))) : W p l e R s m args below meth c H locs cells slots Q (F0 m pc ls (.int n :: rest)) := by
  refine va_newa hexec hb harr hty hK hP hD hS hA ha hn hN hbytes hcells hslots hdg (fun q cA H1 hK1 hP1 hD1 hS1 => ?_)
  have e1 : s.vm.findClass ("[" ++ ty.toString) = some cA := hra cA (hK1.2 tys.length (cA, ty) (by simp)).2
  have e2 : s.vm.findClass ("[" ++ ty.toString) = some cT := hra cT (hK.2 t0 (cT, ty) ht).2
  have e3 : cA = cT := Option.some.inj (e1.symm.trans e2)
  subst e3
  exact kk q H1 hP1 hD1 hS1
theorem q_newI (N' : Nat) (hexec : p.tables.exec = Jvm.exec) (hb : c.code = cc) (harr : (Cond.arrayClass .int).before args s = true) (hK : va_K D cl tys s) (hP : va_P D cl ws H) (hD : va_D A ws) (hS : va_S A s.heap H locs) (hA : ∀ q, s.heap.size ≤ q → A q) (t0 : Nat) {cT : ClassId} (ht : tys[t0]? = some (cT, .int)) {n : Int32} (hn : ¬ n < 0) (hN : n.toNatClampNeg = N') (hbytes : N' * componentBytes .int ≤ 536870912) (hcells : cells + 1 ≤ R.cells) (hslots : slots + N' ≤ R.slots) (hdg : decode cc pc = .ok (.newarray .int, 2))
    (kk : ∀ (q : Nat) (H1 : Heap), va_P D cl (ws ++ [(q, .inl (cT, N', .inl (fun _ => 0)))]) H1 → va_D A (ws ++ [(q, .inl (cT, N', .inl (fun _ => 0)))]) → va_S A s.heap H1 locs →
      W p l e R s m args below meth c H1 locs (cells + 1) (slots + N') Q (F0 m (pc + 2) ls (.ref q :: rest))) : W p l e R s m args below meth c H locs cells slots Q (F0 m pc ls (.int n :: rest)) :=
  q_newa (atype := .int) (ty := .int) (a0 := (N', .inl (fun _ => 0))) hexec hb harr rfl (fun _ h => h) hK hP hD hS hA t0 ht (fun _ => rfl) hn hN hbytes hcells hslots hdg kk
theorem q_newL (N' : Nat) (hexec : p.tables.exec = Jvm.exec) (hb : c.code = cc) (harr : (Cond.arrayClass .long).before args s = true) (hK : va_K D cl tys s) (hP : va_P D cl ws H) (hD : va_D A ws) (hS : va_S A s.heap H locs) (hA : ∀ q, s.heap.size ≤ q → A q) (t0 : Nat) {cT : ClassId} (ht : tys[t0]? = some (cT, .long)) {n : Int32} (hn : ¬ n < 0) (hN : n.toNatClampNeg = N') (hbytes : N' * componentBytes .long ≤ 536870912) (hcells : cells + 1 ≤ R.cells) (hslots : slots + N' ≤ R.slots) (hdg : decode cc pc = .ok (.newarray .long, 2))
    (kk : ∀ (q : Nat) (H1 : Heap), va_P D cl (ws ++ [(q, .inl (cT, N', .inr (.inl (fun _ => 0))))]) H1 → va_D A (ws ++ [(q, .inl (cT, N', .inr (.inl (fun _ => 0))))]) → va_S A s.heap H1 locs →
      W p l e R s m args below meth c H1 locs (cells + 1) (slots + N') Q (F0 m (pc + 2) ls (.ref q :: rest))) : W p l e R s m args below meth c H locs cells slots Q (F0 m pc ls (.int n :: rest)) :=
  q_newa (atype := .long) (ty := .long) (a0 := (N', .inr (.inl (fun _ => 0)))) hexec hb harr rfl (fun _ h => h) hK hP hD hS hA t0 ht (fun _ => rfl) hn hN hbytes hcells hslots hdg kk
theorem q_newZ (N' : Nat) (hexec : p.tables.exec = Jvm.exec) (hb : c.code = cc) (harr : (Cond.arrayClass .boolean).before args s = true) (hK : va_K D cl tys s) (hP : va_P D cl ws H) (hD : va_D A ws) (hS : va_S A s.heap H locs) (hA : ∀ q, s.heap.size ≤ q → A q) (t0 : Nat) {cT : ClassId} (ht : tys[t0]? = some (cT, .boolean)) {n : Int32} (hn : ¬ n < 0) (hN : n.toNatClampNeg = N') (hbytes : N' * componentBytes .boolean ≤ 536870912) (hcells : cells + 1 ≤ R.cells) (hslots : slots + N' ≤ R.slots) (hdg : decode cc pc = .ok (.newarray .boolean, 2))
    (kk : ∀ (q : Nat) (H1 : Heap), va_P D cl (ws ++ [(q, .inl (cT, N', .inl (fun _ => 0)))]) H1 → va_D A (ws ++ [(q, .inl (cT, N', .inl (fun _ => 0)))]) → va_S A s.heap H1 locs →
      W p l e R s m args below meth c H1 locs (cells + 1) (slots + N') Q (F0 m (pc + 2) ls (.ref q :: rest))) : W p l e R s m args below meth c H locs cells slots Q (F0 m pc ls (.int n :: rest)) :=
  q_newa (atype := .boolean) (ty := .boolean) (a0 := (N', .inl (fun _ => 0))) hexec hb harr rfl (fun _ h => h) hK hP hD hS hA t0 ht (fun _ => rfl) hn hN hbytes hcells hslots hdg kk
end QK
theorem q_ix {i : Int32} {n : Nat} (k : Nat) (h1 : ¬ i < 0) (h2 : i.toNatClampNeg = k) (h3 : k < n) : vp_in i n := by
  rintro (h | h)
  · exact h1 h
  · omega
end
section
/-! MY OWN: what the calls answer on a fresh object, as plain functions; a place in one long -/
abbrev inB (x y : Int32) : Prop := ¬ x < (-500000) ∧ ¬ 500000 < x ∧ ¬ y < (-500000) ∧ ¬ 500000 < y
def plc (x y : Int32) : Int64 := ((x + 500000).toInt64 <<< ((20 : Int32).toInt64 &&& 63)) ||| (y + 500000).toInt64
def joi (x1 y1 x2 y2 : Int32) : Int32 := if inB x1 y1 ∧ inB x2 y2 ∧ ¬ (x1 = x2 ∧ y1 = y2) then 1 else -1
def cnt (x : Int32) : Int32 := if x = 2 then 1 else if x = 0 ∨ x = 1 ∨ x = 3 then 0 else -1
def fac (x y : Int32) : Int32 := if x = 0 ∧ (y = 0 ∨ y = 1) then 0 else -1
def btw (x y : Int32) : Int32 := if x = 0 ∧ y = 0 then 0 else -1
def cmp4 (x1 y1 x2 y2 : Int32) : Int32 := if x1 = x2 then (if y1 = y2 then 0 else if y1 < y2 then -1 else 1) else if x1 < x2 then -1 else 1
theorem wb_tb (n : Nat) : (lN n).toBitVec = BitVec.ofNat 64 n := rfl
theorem wb_inj {a b : Int64} (h : a.toBitVec = b.toBitVec) : a = b := Int64.toBitVec_inj.mp h
theorem wb_c : ∀ k, k < 64 → ((nI k).toInt64 &&& 63) = lN k := by decide +kernel
theorem wb_sm : ∀ k, k < 64 → (BitVec.ofNat 64 k).smod 64 = BitVec.ofNat 64 k := by decide +kernel
theorem wb_shl (n : Nat) {k : Nat} (hk : k < 64) : lN n <<< ((nI k).toInt64 &&& 63) = lN (n * 2 ^ k) := by
  rw [wb_c k hk]
  apply wb_inj
  rw [Int64.toBitVec_shiftLeft, wb_tb, wb_tb, wb_tb, wb_sm k hk]
  apply BitVec.eq_of_toNat_eq
  rw [BitVec.shiftLeft_eq', BitVec.toNat_shiftLeft, BitVec.toNat_ofNat, BitVec.toNat_ofNat, BitVec.toNat_ofNat, Nat.mod_eq_of_lt (show k < 2 ^ 64 by omega), Nat.shiftLeft_eq, Nat.mul_mod, Nat.mod_mod, ← Nat.mul_mod]
theorem wb_or {a b : Nat} (ha : a < 2 ^ 64) (hb : b < 2 ^ 64) : lN a ||| lN b = lN (a ||| b) := by
  apply wb_inj
  rw [Int64.toBitVec_or, wb_tb, wb_tb, wb_tb]
  apply BitVec.eq_of_toNat_eq
  rw [BitVec.toNat_or, BitVec.toNat_ofNat, BitVec.toNat_ofNat, BitVec.toNat_ofNat, Nat.mod_eq_of_lt ha, Nat.mod_eq_of_lt hb, Nat.mod_eq_of_lt (Nat.or_lt_two_pow ha hb)]
theorem ii_lt {x y : Int32} : x < y ↔ x.toInt < y.toInt := Int32.lt_iff_toInt_lt
theorem pl_of {x : Int32} (h1 : ¬ x < (-500000)) (h2 : ¬ 500000 < x) : ∃ a : Nat, a ≤ 1000000 ∧ x + 500000 = nI a ∧ x.toInt = (a : Int) - 500000 := by
  rw [ii_lt] at h1 h2
  have e1 : ((-500000 : Int32)).toInt = -500000 := by decide
  have e2 : ((500000 : Int32)).toInt = 500000 := by decide
  rw [e1] at h1
  rw [e2] at h2
  refine ⟨(x.toInt + 500000).toNat, by omega, ?_, by omega⟩
  apply Int32.toInt_inj.mp
  rw [nI_toInt (by omega), Int32.toInt_add, e2, Int.bmod_def]
  split <;> omega
theorem plc_eq {x y : Int32} (h : inB x y) : ∃ a b : Nat, a ≤ 1000000 ∧ b ≤ 1000000 ∧ plc x y = lN (a * 2 ^ 20 + b) ∧ x.toInt = (a : Int) - 500000 ∧ y.toInt = (b : Int) - 500000 := by
  obtain ⟨h1, h2, h3, h4⟩ := h
  obtain ⟨a, ha, ea, ia⟩ := pl_of h1 h2
  obtain ⟨b, hb, eb, ib⟩ := pl_of h3 h4
  refine ⟨a, b, ha, hb, ?_, ia, ib⟩
  unfold plc
  rw [ea, eb, nI_l (by omega), nI_l (by omega)]
  have e := wb_shl a (k := 20) (by decide)
  have e0 : (nI 20).toInt64 = (20 : Int32).toInt64 := rfl
  rw [e0] at e
  rw [e, wb_or (by omega) (by omega)]
  congr 1
  rw [← Nat.shiftLeft_eq, ← Nat.shiftLeft_add_eq_or_of_lt (by omega)]
theorem plc_inj {x1 y1 x2 y2 : Int32} (h1 : inB x1 y1) (h2 : inB x2 y2) (h : plc x1 y1 = plc x2 y2) : x1 = x2 ∧ y1 = y2 := by
  obtain ⟨a, b, ha, hb, e1, i1, j1⟩ := plc_eq h1
  obtain ⟨a', b', ha', hb', e2, i2, j2⟩ := plc_eq h2
  rw [e1, e2, pk_lEQ (by omega) (by omega)] at h
  exact ⟨Int32.toInt_inj.mp (by omega), Int32.toInt_inj.mp (by omega)⟩
theorem joi_n1 {x1 y1 x2 y2 : Int32} (h : ¬ inB x1 y1) : -1 = joi x1 y1 x2 y2 := by
  unfold joi; rw [if_neg (fun q => h q.1)]
theorem joi_n2 {x1 y1 x2 y2 : Int32} (h : ¬ inB x2 y2) : -1 = joi x1 y1 x2 y2 := by
  unfold joi; rw [if_neg (fun q => h q.2.1)]
theorem joi_e {x1 y1 x2 y2 : Int32} (h : x1 = x2) (k : y1 = y2) : -1 = joi x1 y1 x2 y2 := by
  unfold joi; rw [if_neg (fun q => q.2.2 ⟨h, k⟩)]
theorem joi_x {x1 y1 x2 y2 : Int32} (h1 : inB x1 y1) (h2 : inB x2 y2) (h : ¬ x1 = x2) : 1 = joi x1 y1 x2 y2 := by
  unfold joi; rw [if_pos ⟨h1, h2, fun q => h q.1⟩]
theorem joi_y {x1 y1 x2 y2 : Int32} (h1 : inB x1 y1) (h2 : inB x2 y2) (h : ¬ y1 = y2) : 1 = joi x1 y1 x2 y2 := by
  unfold joi; rw [if_pos ⟨h1, h2, fun q => h q.2⟩]
theorem joi_eq {x1 y1 x2 y2 : Int32} (h1 : inB x1 y1) (h2 : inB x2 y2) (h : lg_cmp (plc x1 y1) (plc x2 y2) = 0) : -1 = joi x1 y1 x2 y2 := by
  obtain ⟨e1, e2⟩ := plc_inj h1 h2 ((lg_cmp_eq _ _).mp h)
  exact joi_e e1 e2
theorem joi_ne {x1 y1 x2 y2 : Int32} (h1 : inB x1 y1) (h2 : inB x2 y2) (h : ¬ lg_cmp (plc x1 y1) (plc x2 y2) = 0) : 1 = joi x1 y1 x2 y2 := by
  unfold joi
  rw [if_pos ⟨h1, h2, fun q => h ((lg_cmp_eq _ _).mpr (by rw [q.1, q.2]))⟩]
theorem joi_c (x1 y1 x2 y2 : Int32) : joi x2 y2 x1 y1 = joi x1 y1 x2 y2 := by
  unfold joi
  by_cases h : inB x1 y1 ∧ inB x2 y2 ∧ ¬ (x1 = x2 ∧ y1 = y2)
  · rw [if_pos h, if_pos ⟨h.2.1, h.1, fun q => h.2.2 ⟨q.1.symm, q.2.symm⟩⟩]
  · rw [if_neg h, if_neg (fun q => h ⟨q.2.1, q.1, fun z => q.2.2 ⟨z.1.symm, z.2.symm⟩⟩)]
theorem q_lohi {a b lo hi : Int64} (e1 : lo = if b < a then b else a) (e2 : hi = if b < a then a else b) (h : ¬ lg_cmp a b = 0) : lo < hi := by
  have h1 : ¬ a = b := fun q => h ((lg_cmp_eq _ _).mpr q)
  rw [e1, e2]
  by_cases q : b < a
  · rw [if_pos q, if_pos q]; exact q
  · rw [if_neg q, if_neg q]
    rw [Int64.lt_iff_toInt_lt] at q ⊢
    have : a.toInt ≠ b.toInt := fun z => h1 (Int64.toInt_inj.mp z)
    omega
theorem q_nle {a b : Int64} (h : a < b) : ¬ b ≤ a := by
  rw [Int64.lt_iff_toInt_lt] at h
  rw [Int64.le_iff_toInt_le]
  omega
theorem cmp_xl {x1 y1 x2 y2 : Int32} (h : ¬ x1 = x2) (k : ¬ x2 ≤ x1) : -1 = cmp4 x1 y1 x2 y2 := by
  unfold cmp4; rw [if_neg h, if_pos (Int32.not_le.mp k)]
theorem cmp_xg {x1 y1 x2 y2 : Int32} (h : ¬ x1 = x2) (k : x2 ≤ x1) : 1 = cmp4 x1 y1 x2 y2 := by
  unfold cmp4; rw [if_neg h, if_neg (Int32.not_lt.mpr k)]
theorem cmp_yl {x1 y1 x2 y2 : Int32} (h : x1 = x2) (g : ¬ y1 = y2) (k : ¬ y2 ≤ y1) : -1 = cmp4 x1 y1 x2 y2 := by
  unfold cmp4; rw [if_pos h, if_neg g, if_pos (Int32.not_le.mp k)]
theorem cmp_yg {x1 y1 x2 y2 : Int32} (h : x1 = x2) (g : ¬ y1 = y2) (k : y2 ≤ y1) : 1 = cmp4 x1 y1 x2 y2 := by
  unfold cmp4; rw [if_pos h, if_neg g, if_neg (Int32.not_lt.mpr k)]
theorem cmp_e {x1 y1 x2 y2 : Int32} (h : x1 = x2) (g : y1 = y2) : 0 = cmp4 x1 y1 x2 y2 := by
  unfold cmp4; rw [if_pos h, if_pos g]
theorem ii_nl {x y : Int32} (h : x < y) : ¬ y < x := by
  rw [ii_lt] at h ⊢; omega
theorem cmp_swap {x1 y1 x2 y2 : Int32} (h : ¬ cmp4 x1 y1 x2 y2 ≤ 0) : cmp4 x2 y2 x1 y1 ≤ 0 := by
  unfold cmp4 at h ⊢
  by_cases a : x1 = x2
  · rw [if_pos a] at h
    rw [if_pos a.symm]
    by_cases b : y1 = y2
    · rw [if_pos b.symm]; decide
    · rw [if_neg b] at h
      rw [if_neg (fun q => b q.symm)]
      by_cases d : y1 < y2
      · rw [if_pos d] at h; exact absurd (by decide) h
      · have d2 : y2 < y1 := by
          rw [ii_lt] at d ⊢
          have : y1.toInt ≠ y2.toInt := fun z => b (Int32.toInt_inj.mp z)
          omega
        rw [if_pos d2]; decide
  · rw [if_neg a] at h
    rw [if_neg (fun q => a q.symm)]
    by_cases d : x1 < x2
    · rw [if_pos d] at h; exact absurd (by decide) h
    · have d2 : x2 < x1 := by
        rw [ii_lt] at d ⊢
        have : x1.toInt ≠ x2.toInt := fun z => a (Int32.toInt_inj.mp z)
        omega
      rw [if_pos d2]; decide
theorem ii_ne {x : Int32} {k : Int32} {n : Int} (hk : k.toInt = n) (h : ¬ x = k) : x.toInt ≠ n := fun q => h (Int32.toInt_inj.mp (by rw [hk]; exact q))
theorem q_sw3 {x : Int32} (h0 : ¬ x = 0) (h1 : ¬ x = 1) (h2 : ¬ x = 2) (h3 : ¬ x = 3) : x.toInt < 0 ∨ 3 < x.toInt := by
  have a0 := ii_ne (n := 0) (by decide) h0
  have a1 := ii_ne (n := 1) (by decide) h1
  have a2 := ii_ne (n := 2) (by decide) h2
  have a3 := ii_ne (n := 3) (by decide) h3
  omega
theorem q_sw9 {x : Int32} (h0 : ¬ x = 0) (h1 : ¬ x = 1) (h2 : ¬ x = 2) (h3 : ¬ x = 3) (h4 : ¬ x = 4) (h5 : ¬ x = 5) (h6 : ¬ x = 6) (h7 : ¬ x = 7) (h8 : ¬ x = 8) (h9 : ¬ x = 9) : x.toInt < 0 ∨ 9 < x.toInt := by
  have a0 := ii_ne (n := 0) (by decide) h0
  have a1 := ii_ne (n := 1) (by decide) h1
  have a2 := ii_ne (n := 2) (by decide) h2
  have a3 := ii_ne (n := 3) (by decide) h3
  have a4 := ii_ne (n := 4) (by decide) h4
  have a5 := ii_ne (n := 5) (by decide) h5
  have a6 := ii_ne (n := 6) (by decide) h6
  have a7 := ii_ne (n := 7) (by decide) h7
  have a8 := ii_ne (n := 8) (by decide) h8
  have a9 := ii_ne (n := 9) (by decide) h9
  omega
theorem ii_0 : (0 : Int32).toInt = 0 := by decide
theorem ii_1 : (1 : Int32).toInt = 1 := by decide
theorem ii_3 : (3 : Int32).toInt = 3 := by decide
theorem q_has {x : Int32} (h : ¬ x < 0) (k : ¬ 1 ≤ x) : x = 0 := by
  rw [ii_lt, ii_0] at h
  rw [Int32.le_iff_toInt_le, ii_1] at k
  exact Int32.toInt_inj.mp (by rw [ii_0]; omega)
theorem q_hasn {x : Int32} (h : x < 0 ∨ 1 ≤ x) : ¬ x = 0 := by
  intro q
  subst q
  exact absurd h (by decide)
theorem q_npos {x : Int32} (h : ¬ x ≤ 0) : ¬ x = 0 := by
  intro q
  subst q
  exact h (by decide)
theorem cnt_o {x : Int32} (h0 : ¬ x = 0) (h1 : ¬ x = 1) (h2 : ¬ x = 2) (h3 : ¬ x = 3) : -1 = cnt x := by
  unfold cnt; rw [if_neg h2, if_neg (by rintro (q | q | q) <;> contradiction)]
theorem cnt_lt {x : Int32} (h : x < 0) : -1 = cnt x := by
  refine cnt_o ?_ ?_ ?_ ?_ <;> (intro q; subst q; exact absurd h (by decide))
theorem cnt_gt {x : Int32} (h : ¬ x ≤ 3) : -1 = cnt x := by
  refine cnt_o ?_ ?_ ?_ ?_ <;> (intro q; subst q; exact h (by decide))
theorem cnt_0 {x : Int32} (h : x = 0) : 0 = cnt x := by subst h; decide
theorem cnt_1 {x : Int32} (h : x = 1) : 0 = cnt x := by subst h; decide
theorem cnt_2 {x : Int32} (h : x = 2) : 1 = cnt x := by subst h; decide
theorem cnt_3 {x : Int32} (h : ¬ x < 0) (k : x ≤ 3) (h0 : ¬ x = 0) (h1 : ¬ x = 1) (h2 : ¬ x = 2) : 0 = cnt x := by
  have a0 := ii_ne (n := 0) (by decide) h0
  have a1 := ii_ne (n := 1) (by decide) h1
  have a2 := ii_ne (n := 2) (by decide) h2
  rw [ii_lt, ii_0] at h
  rw [Int32.le_iff_toInt_le, ii_3] at k
  have e : x = 3 := Int32.toInt_inj.mp (by rw [ii_3]; omega)
  subst e; decide
theorem fac_n {x y : Int32} (h : ¬ x = 0) : -1 = fac x y := by
  unfold fac; rw [if_neg (fun q => h q.1)]
theorem fac_o {x y : Int32} (h : ¬ y = 0) (k : ¬ y = 1) : -1 = fac x y := by
  unfold fac; rw [if_neg (fun q => q.2.elim h k)]
theorem fac_lt {x y : Int32} (h : y < 0) : -1 = fac x y := by
  refine fac_o ?_ ?_ <;> (intro q; subst q; exact absurd h (by decide))
theorem fac_gt {x y : Int32} (h : ¬ y ≤ 3) : -1 = fac x y := by
  refine fac_o ?_ ?_ <;> (intro q; subst q; exact h (by decide))
theorem fac_0 {y : Int32} (h : y = 0) : 0 = fac 0 y := by subst h; decide
theorem fac_1 {y : Int32} (h : y = 1) : 0 = fac 0 y := by subst h; decide
theorem btw_n1 {x y : Int32} (h : ¬ x = 0) : -1 = btw x y := by
  unfold btw; rw [if_neg (fun q => h q.1)]
theorem btw_n2 {x y : Int32} (h : ¬ y = 0) : -1 = btw x y := by
  unfold btw; rw [if_neg (fun q => h q.2)]
end
section
def vsX3_inBounds : List Cond := .code yX3_inBounds cX3_inBounds 2 (some .boolean) :: ([.constant RX3 9 (-500000), .constant RX3 10 (500000)])
set_option maxHeartbeats 4000000 in
set_option maxRecDepth 100000 in
/-- Place.inBounds -/
theorem c_X3_inBounds (l : Launch) (D : va_G) (aI aL aZ : ClassId) (x : Int32) (y : Int32) (sz : Nat) : MI l D q_cl (q_ty aI aL aZ) yX3_inBounds vsX3_inBounds 0 0 0 [.int x, .int y] ([] : va_W) sz (fun (r : Int32) (u : Unit) => (r = 1 ∧ inB x y) ∨ (r = 0 ∧ ¬ inB x y)) (fun (u : Unit) => ([] : va_W)) := by
  refine q_in cX3_inBounds 2 (some .boolean) (qQi D q_cl (q_ty aI aL aZ) _ _) (by decide) rfl (Nat.le_of_ble_eq_true rfl) ?_
  intro p e s m args below meth c A ls hat hP hD hS hl
  obtain ⟨hx, hb, hr, hts, hown, hlocks, hml, hin, hK, hN, hA⟩ := hat
  have hown : s.vm.findClass RX3 = some m.cls := hown
  have hl : lv_has ls 2 [(0, .int x), (1, .int y)] := hl
  refine lv_iload_n hx hb dX3_inBounds_0 rfl (lv_at hl 0 rfl) ?_
  refine lv_ldc (v := (-500000)) hx hb hown (hts (.constant RX3 9 (-500000)) (List.mem_of_getElem? (i := 1) rfl)) dX3_inBounds_1 ?_
  refine lv_icmp_lt (tgt := 28) hx hb dX3_inBounds_3 (by decide) (fun c_1 => ?_) (fun c_1 => ?_)
  · refine lv_iconst (v := 0) hx hb dX3_inBounds_28 (by decide) ?_
    have hP9 := hP.sub (ws' := []) [] rfl
    have hD9 := hD.sub (ws' := []) [] (by decide) rfl
    exact q_retz () hx hb hr (by decide) hlocks hK hP9 hD9 hS (Nat.le_of_ble_eq_true rfl) (Nat.le_of_ble_eq_true rfl) (Or.inr (⟨rfl, (by unfold inB; simp_all)⟩)) dX3_inBounds_29
  · refine lv_iload_n hx hb dX3_inBounds_6 rfl (lv_at hl 0 rfl) ?_
    refine lv_ldc (v := 500000) hx hb hown (hts (.constant RX3 10 (500000)) (List.mem_of_getElem? (i := 2) rfl)) dX3_inBounds_7 ?_
    refine lv_icmp_gt (tgt := 28) hx hb dX3_inBounds_9 (by decide) (fun c_2 => ?_) (fun c_2 => ?_)
    · refine lv_iconst (v := 0) hx hb dX3_inBounds_28 (by decide) ?_
      have hP9 := hP.sub (ws' := []) [] rfl
      have hD9 := hD.sub (ws' := []) [] (by decide) rfl
      exact q_retz () hx hb hr (by decide) hlocks hK hP9 hD9 hS (Nat.le_of_ble_eq_true rfl) (Nat.le_of_ble_eq_true rfl) (Or.inr (⟨rfl, (by unfold inB; simp_all)⟩)) dX3_inBounds_29
    · refine lv_iload_n hx hb dX3_inBounds_12 rfl (lv_at hl 1 rfl) ?_
      refine lv_ldc (v := (-500000)) hx hb hown (hts (.constant RX3 9 (-500000)) (List.mem_of_getElem? (i := 1) rfl)) dX3_inBounds_13 ?_
      refine lv_icmp_lt (tgt := 28) hx hb dX3_inBounds_15 (by decide) (fun c_3 => ?_) (fun c_3 => ?_)
      · refine lv_iconst (v := 0) hx hb dX3_inBounds_28 (by decide) ?_
        have hP9 := hP.sub (ws' := []) [] rfl
        have hD9 := hD.sub (ws' := []) [] (by decide) rfl
        exact q_retz () hx hb hr (by decide) hlocks hK hP9 hD9 hS (Nat.le_of_ble_eq_true rfl) (Nat.le_of_ble_eq_true rfl) (Or.inr (⟨rfl, (by unfold inB; simp_all)⟩)) dX3_inBounds_29
      · refine lv_iload_n hx hb dX3_inBounds_18 rfl (lv_at hl 1 rfl) ?_
        refine lv_ldc (v := 500000) hx hb hown (hts (.constant RX3 10 (500000)) (List.mem_of_getElem? (i := 2) rfl)) dX3_inBounds_19 ?_
        refine lv_icmp_gt (tgt := 28) hx hb dX3_inBounds_21 (by decide) (fun c_4 => ?_) (fun c_4 => ?_)
        · refine lv_iconst (v := 0) hx hb dX3_inBounds_28 (by decide) ?_
          have hP9 := hP.sub (ws' := []) [] rfl
          have hD9 := hD.sub (ws' := []) [] (by decide) rfl
          exact q_retz () hx hb hr (by decide) hlocks hK hP9 hD9 hS (Nat.le_of_ble_eq_true rfl) (Nat.le_of_ble_eq_true rfl) (Or.inr (⟨rfl, (by unfold inB; simp_all)⟩)) dX3_inBounds_29
        · refine lv_iconst (v := 1) hx hb dX3_inBounds_24 (by decide) ?_
          refine lv_goto (tgt := 29) hx hb dX3_inBounds_25 (by decide) ?_
          have hP9 := hP.sub (ws' := []) [] rfl
          have hD9 := hD.sub (ws' := []) [] (by decide) rfl
          exact q_retz () hx hb hr (by decide) hlocks hK hP9 hD9 hS (Nat.le_of_ble_eq_true rfl) (Nat.le_of_ble_eq_true rfl) (Or.inl (⟨rfl, (by unfold inB; exact ⟨by assumption, by assumption, by assumption, by assumption⟩)⟩)) dX3_inBounds_29
def vsX3_of : List Cond := .code yX3_of cX3_of 2 (some .long) :: ([.constant RX3 10 (500000)])
set_option maxHeartbeats 4000000 in
set_option maxRecDepth 100000 in
/-- Place.of -/
theorem c_X3_of (l : Launch) (D : va_G) (aI aL aZ : ClassId) (x : Int32) (y : Int32) (sz : Nat) : ML l D q_cl (q_ty aI aL aZ) yX3_of vsX3_of 0 0 0 [.int x, .int y] ([] : va_W) sz (fun (r : Int64) (u : Unit) => r = (plc x y)) (fun (u : Unit) => ([] : va_W)) := by
  refine q_in cX3_of 2 (some .long) (qQl D q_cl (q_ty aI aL aZ) _ _) (by decide) rfl (Nat.le_of_ble_eq_true rfl) ?_
  intro p e s m args below meth c A ls hat hP hD hS hl
  obtain ⟨hx, hb, hr, hts, hown, hlocks, hml, hin, hK, hN, hA⟩ := hat
  have hown : s.vm.findClass RX3 = some m.cls := hown
  have hl : lv_has ls 2 [(0, .int x), (1, .int y)] := hl
  refine lv_iload_n hx hb dX3_of_0 rfl (lv_at hl 0 rfl) ?_
  refine lv_ldc (v := 500000) hx hb hown (hts (.constant RX3 10 (500000)) (List.mem_of_getElem? (i := 1) rfl)) dX3_of_1 ?_
  refine lv_iadd hx hb dX3_of_3 ?_
  refine lv_i2l (v := (x + 500000).toInt64) hx hb dX3_of_4 rfl ?_
  refine lv_bipush (v := 20) hx hb dX3_of_5 (by decide) ?_
  refine lv_lshl (v := ((x + 500000).toInt64 <<< ((20 : Int32).toInt64 &&& 63))) hx hb dX3_of_7 rfl ?_
  refine lv_iload_n hx hb dX3_of_8 rfl (lv_at hl 1 rfl) ?_
  refine lv_ldc (v := 500000) hx hb hown (hts (.constant RX3 10 (500000)) (List.mem_of_getElem? (i := 1) rfl)) dX3_of_9 ?_
  refine lv_iadd hx hb dX3_of_11 ?_
  refine lv_i2l (v := (y + 500000).toInt64) hx hb dX3_of_12 rfl ?_
  refine lv_lor hx hb dX3_of_13 ?_
  have hP9 := hP.sub (ws' := []) [] rfl
  have hD9 := hD.sub (ws' := []) [] (by decide) rfl
  exact q_retl () hx hb hr hlocks hK hP9 hD9 hS (Nat.le_of_ble_eq_true rfl) (Nat.le_of_ble_eq_true rfl) (rfl) dX3_of_14
end
section
def vsX2_init : List Cond := .code yX2_init cX2_init 1 none :: ([.methodLink RX2 1 objectInit, .instanceMethod objectInit, .code objectInit ⟨#[0xb1]⟩ 1 none, .arrayClass .long, .fieldLink RX2 9 "FaceMap$Pieces" "low" "[J", .fieldLink RX2 13 "FaceMap$Pieces" "high" "[J", .fieldLink RX2 16 "FaceMap$Pieces" "size" "I"] ++ wsX20)
set_option maxRecDepth 20000 in
theorem n_X2_init_X2 : ∀ w ∈ wsX20, w ∈ vsX2_init := fun _ h => List.mem_cons_of_mem _ (List.mem_append_right _ h)
set_option maxHeartbeats 4000000 in
set_option maxRecDepth 100000 in
/-- Pieces() -/
theorem c_X2_init (l : Launch) (D : va_G) (aI aL aZ : ClassId) (h0 : Nat) (sz : Nat) : MV l D q_cl (q_ty aI aL aZ) yX2_init vsX2_init 1 2 16 [.ref h0] [(h0, .inr (2, [.null, .null, .int 0]))] sz (fun (u : Nat × Nat) => True) (fun (u : Nat × Nat) => [(h0, .inr (2, [.ref u.1, .ref u.2, .int 0])), (u.1, .inl (aL, 8, .inr (.inl (fun _ => 0)))), (u.2, .inl (aL, 8, .inr (.inl (fun _ => 0))))]) := by
  refine q_in cX2_init 1 none (qQv D q_cl (q_ty aI aL aZ) _ _) (by decide) rfl (Nat.le_of_ble_eq_true rfl) ?_
  intro p e s m args below meth c A ls hat hP hD hS hl
  obtain ⟨hx, hb, hr, hts, hown, hlocks, hml, hin, hK, hN, hA⟩ := hat
  have hown : s.vm.findClass RX2 = some m.cls := hown
  have hl : lv_has ls 1 [(0, .ref h0)] := hl
  refine lv_aload_n hx hb dX2_init_0 rfl (lv_at hl 0 rfl) ?_
  refine W.objInit hx hb hown (hts (.methodLink RX2 1 objectInit) (List.mem_of_getElem? (i := 1) rfl)) (hts (.instanceMethod objectInit) (List.mem_of_getElem? (i := 2) rfl)) (hts (.code objectInit ⟨#[0xb1]⟩ 1 none) (List.mem_of_getElem? (i := 3) rfl)) rfl (by rw [hml]; exact hl.1) rfl dX2_init_1 (Nat.le_of_ble_eq_true rfl) (Nat.le_of_ble_eq_true rfl) ?_
  refine W.eq (g2 := F0 m 4 ls []) rfl ?_
  refine lv_aload_n hx hb dX2_init_4 rfl (lv_at hl 0 rfl) ?_
  refine lv_bipush (v := 8) hx hb dX2_init_5 (by decide) ?_
  refine q_newL 8 hx hb (hts (.arrayClass .long) (List.mem_of_getElem? (i := 4) rfl)) hK hP hD hS hA 1 rfl (by decide) (by decide) (by decide) (Nat.le_of_ble_eq_true rfl) (Nat.le_of_ble_eq_true rfl) dX2_init_7 (fun q1 H hP hD hS => ?_)
  have hP : va_P D q_cl [(h0, .inr (2, [.null, .null, .int 0])), (q1, .inl (aL, 8, .inr (.inl (fun _ => 0))))] H := hP
  have hD : va_D A [(h0, .inr (2, [.null, .null, .int 0])), (q1, .inl (aL, 8, .inr (.inl (fun _ => 0))))] := hD
  refine va_put (D := D) (ci := 2) (v := .ref q1) (ty := (.array .long)) (C := RX2) (T := TX2) (N := 3) hx hb hts n_X2_init_X2 tyX2 tyX2_ok nmX2 hown hK hP hD hS 0 rfl rfl 0 (by decide) (hts (.fieldLink RX2 9 "FaceMap$Pieces" "low" "[J") (List.mem_of_getElem? (i := 5) rfl)) (fun _ h9 => h9) rfl (by decide +kernel) rfl rfl (Nat.le_of_ble_eq_true rfl) dX2_init_9 (fun H locs hP hD hS => ?_)
  have hP : va_P D q_cl [(h0, .inr (2, [.ref q1, .null, .int 0])), (q1, .inl (aL, 8, .inr (.inl (fun _ => 0))))] H := hP
  have hD : va_D A [(h0, .inr (2, [.ref q1, .null, .int 0])), (q1, .inl (aL, 8, .inr (.inl (fun _ => 0))))] := hD
  refine lv_aload_n hx hb dX2_init_12 rfl (lv_at hl 0 rfl) ?_
  refine lv_bipush (v := 8) hx hb dX2_init_13 (by decide) ?_
  refine q_newL 8 hx hb (hts (.arrayClass .long) (List.mem_of_getElem? (i := 4) rfl)) hK hP hD hS hA 1 rfl (by decide) (by decide) (by decide) (Nat.le_of_ble_eq_true rfl) (Nat.le_of_ble_eq_true rfl) dX2_init_15 (fun q2 H hP hD hS => ?_)
  have hP : va_P D q_cl [(h0, .inr (2, [.ref q1, .null, .int 0])), (q1, .inl (aL, 8, .inr (.inl (fun _ => 0)))), (q2, .inl (aL, 8, .inr (.inl (fun _ => 0))))] H := hP
  have hD : va_D A [(h0, .inr (2, [.ref q1, .null, .int 0])), (q1, .inl (aL, 8, .inr (.inl (fun _ => 0)))), (q2, .inl (aL, 8, .inr (.inl (fun _ => 0))))] := hD
  refine va_put (D := D) (ci := 2) (v := .ref q2) (ty := (.array .long)) (C := RX2) (T := TX2) (N := 3) hx hb hts n_X2_init_X2 tyX2 tyX2_ok nmX2 hown hK hP hD hS 0 rfl rfl 1 (by decide) (hts (.fieldLink RX2 13 "FaceMap$Pieces" "high" "[J") (List.mem_of_getElem? (i := 6) rfl)) (fun _ h9 => h9) rfl (by decide +kernel) rfl rfl (Nat.le_of_ble_eq_true rfl) dX2_init_17 (fun H locs hP hD hS => ?_)
  have hP : va_P D q_cl [(h0, .inr (2, [.ref q1, .ref q2, .int 0])), (q1, .inl (aL, 8, .inr (.inl (fun _ => 0)))), (q2, .inl (aL, 8, .inr (.inl (fun _ => 0))))] H := hP
  have hD : va_D A [(h0, .inr (2, [.ref q1, .ref q2, .int 0])), (q1, .inl (aL, 8, .inr (.inl (fun _ => 0)))), (q2, .inl (aL, 8, .inr (.inl (fun _ => 0))))] := hD
  refine lv_aload_n hx hb dX2_init_20 rfl (lv_at hl 0 rfl) ?_
  refine lv_iconst (v := 0) hx hb dX2_init_21 (by decide) ?_
  refine va_put (D := D) (ci := 2) (v := .int 0) (ty := .int) (C := RX2) (T := TX2) (N := 3) hx hb hts n_X2_init_X2 tyX2 tyX2_ok nmX2 hown hK hP hD hS 0 rfl rfl 2 (by decide) (hts (.fieldLink RX2 16 "FaceMap$Pieces" "size" "I") (List.mem_of_getElem? (i := 7) rfl)) (fun _ h9 => h9) rfl (by decide +kernel) rfl rfl (Nat.le_of_ble_eq_true rfl) dX2_init_22 (fun H locs hP hD hS => ?_)
  have hP : va_P D q_cl [(h0, .inr (2, [.ref q1, .ref q2, .int 0])), (q1, .inl (aL, 8, .inr (.inl (fun _ => 0)))), (q2, .inl (aL, 8, .inr (.inl (fun _ => 0))))] H := hP
  have hD : va_D A [(h0, .inr (2, [.ref q1, .ref q2, .int 0])), (q1, .inl (aL, 8, .inr (.inl (fun _ => 0)))), (q2, .inl (aL, 8, .inr (.inl (fun _ => 0))))] := hD
  have hP9 := hP.sub (ws' := [(h0, .inr (2, [.ref q1, .ref q2, .int 0])), (q1, .inl (aL, 8, .inr (.inl (fun _ => 0)))), (q2, .inl (aL, 8, .inr (.inl (fun _ => 0))))]) [0, 1, 2] rfl
  have hD9 := hD.sub (ws' := [(h0, .inr (2, [.ref q1, .ref q2, .int 0])), (q1, .inl (aL, 8, .inr (.inl (fun _ => 0)))), (q2, .inl (aL, 8, .inr (.inl (fun _ => 0))))]) [0, 1, 2] (by decide) rfl
  exact q_retv (q1, q2) hx hb hr hlocks hK hP9 hD9 hS (Nat.le_of_ble_eq_true rfl) (Nat.le_of_ble_eq_true rfl) (trivial) dX2_init_25
def vsX2_room : List Cond := .code yX2_room cX2_room 1 (some .int) :: ([.fieldLink RX2 9 "FaceMap$Pieces" "low" "[J"] ++ wsX20)
set_option maxRecDepth 20000 in
theorem n_X2_room_X2 : ∀ w ∈ wsX20, w ∈ vsX2_room := fun _ h => List.mem_cons_of_mem _ (List.mem_append_right _ h)
set_option maxHeartbeats 4000000 in
set_option maxRecDepth 100000 in
/-- Pieces.room, at 8 -/
theorem c_X2_room (l : Launch) (D : va_G) (aI aL aZ : ClassId) (h0 : Nat) (lo : Nat) (hi : Nat) (f : Nat → Int64) (sz : Nat) : MI l D q_cl (q_ty aI aL aZ) yX2_room vsX2_room 0 0 0 [.ref h0] [(h0, .inr (2, [.ref lo, .ref hi, .int 0])), (lo, .inl (aL, 8, .inr (.inl f)))] sz (fun (r : Int32) (u : Unit) => r = 8) (fun (u : Unit) => [(h0, .inr (2, [.ref lo, .ref hi, .int 0])), (lo, .inl (aL, 8, .inr (.inl f)))]) := by
  refine q_in cX2_room 1 (some .int) (qQi D q_cl (q_ty aI aL aZ) _ _) (by decide) rfl (Nat.le_of_ble_eq_true rfl) ?_
  intro p e s m args below meth c A ls hat hP hD hS hl
  obtain ⟨hx, hb, hr, hts, hown, hlocks, hml, hin, hK, hN, hA⟩ := hat
  have hown : s.vm.findClass RX2 = some m.cls := hown
  have hl : lv_has ls 1 [(0, .ref h0)] := hl
  refine lv_aload_n hx hb dX2_room_0 rfl (lv_at hl 0 rfl) ?_
  refine va_get (D := D) (ci := 2) (v := .ref lo) (C := RX2) (T := TX2) (N := 3) hx hb hts n_X2_room_X2 hown hK hP 0 rfl rfl 0 (by decide) (hts (.fieldLink RX2 9 "FaceMap$Pieces" "low" "[J") (List.mem_of_getElem? (i := 1) rfl)) (fun _ h9 => h9) rfl dX2_room_1 ?_
  refine va_alen (v := 8) hx hb hK hP 1 1 rfl rfl rfl dX2_room_4 ?_
  have hP9 := hP.sub (ws' := [(h0, .inr (2, [.ref lo, .ref hi, .int 0])), (lo, .inl (aL, 8, .inr (.inl f)))]) [0, 1] rfl
  have hD9 := hD.sub (ws' := [(h0, .inr (2, [.ref lo, .ref hi, .int 0])), (lo, .inl (aL, 8, .inr (.inl f)))]) [0, 1] (by decide) rfl
  exact q_reti () hx hb hr hlocks hK hP9 hD9 hS (Nat.le_of_ble_eq_true rfl) (Nat.le_of_ble_eq_true rfl) (rfl) dX2_room_5
def vsX2_rank : List Cond := .code yX2_rank cX2_rank 8 (some .int) :: ([.fieldLink RX2 16 "FaceMap$Pieces" "size" "I"] ++ wsX20)
set_option maxRecDepth 20000 in
theorem n_X2_rank_X2 : ∀ w ∈ wsX20, w ∈ vsX2_rank := fun _ h => List.mem_cons_of_mem _ (List.mem_append_right _ h)
set_option maxHeartbeats 4000000 in
set_option maxRecDepth 100000 in
/-- Pieces.rank, with no piece -/
theorem c_X2_rank_0 (l : Launch) (D : va_G) (aI aL aZ : ClassId) (h0 : Nat) (lo : Nat) (hi : Nat) (a : Int64) (b : Int64) (sz : Nat) : MI l D q_cl (q_ty aI aL aZ) yX2_rank vsX2_rank 0 0 0 [.ref h0, .long a, .long b] [(h0, .inr (2, [.ref lo, .ref hi, .int 0]))] sz (fun (r : Int32) (u : Unit) => r = 0) (fun (u : Unit) => [(h0, .inr (2, [.ref lo, .ref hi, .int 0]))]) := by
  refine q_in cX2_rank 8 (some .int) (qQi D q_cl (q_ty aI aL aZ) _ _) (by decide) rfl (Nat.le_of_ble_eq_true rfl) ?_
  intro p e s m args below meth c A ls hat hP hD hS hl
  obtain ⟨hx, hb, hr, hts, hown, hlocks, hml, hin, hK, hN, hA⟩ := hat
  have hown : s.vm.findClass RX2 = some m.cls := hown
  have hl : lv_has ls 8 [(0, .ref h0), (1, .long a), (3, .long b)] := hl
  refine lv_iconst (v := 0) hx hb dX2_rank_0 (by decide) ?_
  refine lv_istore (lv' := [(5, .int 0), (0, .ref h0), (1, .long a), (3, .long b)]) hx hb dX2_rank_1 hl (by decide) rfl (fun ls hl => ?_)
  refine lv_aload_n hx hb dX2_rank_3 rfl (lv_at hl 1 rfl) ?_
  refine va_get (D := D) (ci := 2) (v := .int 0) (C := RX2) (T := TX2) (N := 3) hx hb hts n_X2_rank_X2 hown hK hP 0 rfl rfl 2 (by decide) (hts (.fieldLink RX2 16 "FaceMap$Pieces" "size" "I") (List.mem_of_getElem? (i := 1) rfl)) (fun _ h9 => h9) rfl dX2_rank_4 ?_
  refine lv_istore (lv' := [(6, .int 0), (5, .int 0), (0, .ref h0), (1, .long a), (3, .long b)]) hx hb dX2_rank_7 hl (by decide) rfl (fun ls hl => ?_)
  refine lv_iload hx hb dX2_rank_9 (lv_at hl 1 rfl) ?_
  refine lv_iload hx hb dX2_rank_11 (lv_at hl 0 rfl) ?_
  refine lv_icmp_ge (tgt := 77) hx hb dX2_rank_13 (by decide) (fun c_1 => ?_) (fun c_1 => ?_)
  · refine lv_iload hx hb dX2_rank_77 (lv_at hl 1 rfl) ?_
    have hP9 := hP.sub (ws' := [(h0, .inr (2, [.ref lo, .ref hi, .int 0]))]) [0] rfl
    have hD9 := hD.sub (ws' := [(h0, .inr (2, [.ref lo, .ref hi, .int 0]))]) [0] (by decide) rfl
    exact q_reti () hx hb hr hlocks hK hP9 hD9 hS (Nat.le_of_ble_eq_true rfl) (Nat.le_of_ble_eq_true rfl) (rfl) dX2_rank_79
  · exact absurd c_1 (by decide)
def vsX2_has : List Cond := .code yX2_has cX2_has 6 (some .boolean) :: ([.fieldLink RX2 16 "FaceMap$Pieces" "size" "I", .methodLink RX2 20 yX2_rank, .instanceMethod yX2_rank, .selects RX2 yX2_rank yX2_rank, .initialized RX2, .code yX2_rank cX2_rank 8 (some .int)] ++ wsX20)
set_option maxRecDepth 20000 in
theorem g_X2_has_X2_rank_20 : GoodIn vsX2_has (wsV RX2 20 RX2 yX2_rank vsX2_rank) := goodIn_r _ [2, 3, 4, 5, 6, 1, 7, 8, 9] rfl (by decide +kernel)
set_option maxRecDepth 20000 in
theorem n_X2_has_X2 : ∀ w ∈ wsX20, w ∈ vsX2_has := fun _ h => List.mem_cons_of_mem _ (List.mem_append_right _ h)
set_option maxHeartbeats 4000000 in
set_option maxRecDepth 100000 in
/-- Pieces.has, with no piece -/
theorem c_X2_has_0 (l : Launch) (D : va_G) (aI aL aZ : ClassId) (h0 : Nat) (lo : Nat) (hi : Nat) (a : Int64) (b : Int64) (sz : Nat) : MI l D q_cl (q_ty aI aL aZ) yX2_has vsX2_has 1 0 0 [.ref h0, .long a, .long b] [(h0, .inr (2, [.ref lo, .ref hi, .int 0]))] sz (fun (r : Int32) (u : Unit) => r = 0) (fun (u : Unit) => [(h0, .inr (2, [.ref lo, .ref hi, .int 0]))]) := by
  refine q_in cX2_has 6 (some .boolean) (qQi D q_cl (q_ty aI aL aZ) _ _) (by decide) rfl (Nat.le_of_ble_eq_true rfl) ?_
  intro p e s m args below meth c A ls hat hP hD hS hl
  obtain ⟨hx, hb, hr, hts, hown, hlocks, hml, hin, hK, hN, hA⟩ := hat
  have hown : s.vm.findClass RX2 = some m.cls := hown
  have hl : lv_has ls 6 [(0, .ref h0), (1, .long a), (3, .long b)] := hl
  refine lv_aload_n hx hb dX2_has_0 rfl (lv_at hl 0 rfl) ?_
  refine lv_lload_n hx hb dX2_has_1 rfl (lv_at hl 1 rfl) ?_
  refine lv_lload_n hx hb dX2_has_2 rfl (lv_at hl 2 rfl) ?_
  refine q_i (wr := []) (q_runV (As := [.long a, .long b]) (rest := []) ⟨hx, hb, hml, hown, hts⟩ (c_X2_rank_0 l D aI aL aZ h0 lo hi a b _) (cwV 2 hts g_X2_has_X2_rank_20 rfl rfl rfl (by decide +kernel) ⟨Nat.le_of_ble_eq_true rfl, Nat.le_of_ble_eq_true rfl⟩) hK hN hP hD [0] rfl (by decide) rfl rfl rfl hl.1 rfl (Nat.le_of_ble_eq_true rfl) dX2_has_3 ⟨Nat.le_of_ble_eq_true rfl, Nat.le_of_ble_eq_true rfl⟩) hP hD hS hA [0] [] rfl rfl (by decide) (by decide) (fun r_1 u_1 H locs hw hP hD hS => ?_)
  subst hw
  have hP : va_P D q_cl [(h0, .inr (2, [.ref lo, .ref hi, .int 0]))] H := hP
  have hD : va_D A [(h0, .inr (2, [.ref lo, .ref hi, .int 0]))] := hD
  refine lv_istore (lv' := [(5, .int 0), (0, .ref h0), (1, .long a), (3, .long b)]) hx hb dX2_has_6 hl (by decide) rfl (fun ls hl => ?_)
  refine lv_iload hx hb dX2_has_8 (lv_at hl 0 rfl) ?_
  refine lv_aload_n hx hb dX2_has_10 rfl (lv_at hl 1 rfl) ?_
  refine va_get (D := D) (ci := 2) (v := .int 0) (C := RX2) (T := TX2) (N := 3) hx hb hts n_X2_has_X2 hown hK hP 0 rfl rfl 2 (by decide) (hts (.fieldLink RX2 16 "FaceMap$Pieces" "size" "I") (List.mem_of_getElem? (i := 1) rfl)) (fun _ h9 => h9) rfl dX2_has_11 ?_
  refine lv_icmp_ge (tgt := 45) hx hb dX2_has_14 (by decide) (fun c_2 => ?_) (fun c_2 => ?_)
  · refine lv_iconst (v := 0) hx hb dX2_has_45 (by decide) ?_
    have hP9 := hP.sub (ws' := [(h0, .inr (2, [.ref lo, .ref hi, .int 0]))]) [0] rfl
    have hD9 := hD.sub (ws' := [(h0, .inr (2, [.ref lo, .ref hi, .int 0]))]) [0] (by decide) rfl
    exact q_retz () hx hb hr (by decide) hlocks hK hP9 hD9 hS (Nat.le_of_ble_eq_true rfl) (Nat.le_of_ble_eq_true rfl) (rfl) dX2_has_46
  · exact absurd c_2 (by decide)
def vsX2_clashWith : List Cond := .code yX2_clashWith cX2_clashWith 6 (some .boolean) :: ([.fieldLink RX2 16 "FaceMap$Pieces" "size" "I"] ++ wsX20)
set_option maxRecDepth 20000 in
theorem n_X2_clashWith_X2 : ∀ w ∈ wsX20, w ∈ vsX2_clashWith := fun _ h => List.mem_cons_of_mem _ (List.mem_append_right _ h)
set_option maxHeartbeats 4000000 in
set_option maxRecDepth 100000 in
/-- Pieces.clashWith, with no piece -/
theorem c_X2_clashWith_0 (l : Launch) (D : va_G) (aI aL aZ : ClassId) (h0 : Nat) (lo : Nat) (hi : Nat) (a : Int64) (b : Int64) (sz : Nat) : MI l D q_cl (q_ty aI aL aZ) yX2_clashWith vsX2_clashWith 0 0 0 [.ref h0, .long a, .long b] [(h0, .inr (2, [.ref lo, .ref hi, .int 0]))] sz (fun (r : Int32) (u : Unit) => r = 0) (fun (u : Unit) => [(h0, .inr (2, [.ref lo, .ref hi, .int 0]))]) := by
  refine q_in cX2_clashWith 6 (some .boolean) (qQi D q_cl (q_ty aI aL aZ) _ _) (by decide) rfl (Nat.le_of_ble_eq_true rfl) ?_
  intro p e s m args below meth c A ls hat hP hD hS hl
  obtain ⟨hx, hb, hr, hts, hown, hlocks, hml, hin, hK, hN, hA⟩ := hat
  have hown : s.vm.findClass RX2 = some m.cls := hown
  have hl : lv_has ls 6 [(0, .ref h0), (1, .long a), (3, .long b)] := hl
  refine lv_iconst (v := 0) hx hb dX2_clashWith_0 (by decide) ?_
  refine lv_istore (lv' := [(5, .int 0), (0, .ref h0), (1, .long a), (3, .long b)]) hx hb dX2_clashWith_1 hl (by decide) rfl (fun ls hl => ?_)
  refine lv_iload hx hb dX2_clashWith_3 (lv_at hl 0 rfl) ?_
  refine lv_aload_n hx hb dX2_clashWith_5 rfl (lv_at hl 1 rfl) ?_
  refine va_get (D := D) (ci := 2) (v := .int 0) (C := RX2) (T := TX2) (N := 3) hx hb hts n_X2_clashWith_X2 hown hK hP 0 rfl rfl 2 (by decide) (hts (.fieldLink RX2 16 "FaceMap$Pieces" "size" "I") (List.mem_of_getElem? (i := 1) rfl)) (fun _ h9 => h9) rfl dX2_clashWith_6 ?_
  refine lv_icmp_ge (tgt := 66) hx hb dX2_clashWith_9 (by decide) (fun c_1 => ?_) (fun c_1 => ?_)
  · refine lv_iconst (v := 0) hx hb dX2_clashWith_66 (by decide) ?_
    have hP9 := hP.sub (ws' := [(h0, .inr (2, [.ref lo, .ref hi, .int 0]))]) [0] rfl
    have hD9 := hD.sub (ws' := [(h0, .inr (2, [.ref lo, .ref hi, .int 0]))]) [0] (by decide) rfl
    exact q_retz () hx hb hr (by decide) hlocks hK hP9 hD9 hS (Nat.le_of_ble_eq_true rfl) (Nat.le_of_ble_eq_true rfl) (rfl) dX2_clashWith_67
  · exact absurd c_1 (by decide)
def vsX2_add : List Cond := .code yX2_add cX2_add 6 none :: ([.fieldLink RX2 16 "FaceMap$Pieces" "size" "I", .fieldLink RX2 9 "FaceMap$Pieces" "low" "[J", .methodLink RX2 36 arraycopyName, .native arraycopyName, .static arraycopyName, .initialized "java/lang/System", .fieldLink RX2 13 "FaceMap$Pieces" "high" "[J", .methodLink RX2 20 yX2_rank, .instanceMethod yX2_rank, .selects RX2 yX2_rank yX2_rank, .initialized RX2, .code yX2_rank cX2_rank 8 (some .int)] ++ wsX20)
set_option maxRecDepth 20000 in
theorem n_X2_add_X2 : ∀ w ∈ wsX20, w ∈ vsX2_add := fun _ h => List.mem_cons_of_mem _ (List.mem_append_right _ h)
set_option maxRecDepth 20000 in
theorem g_X2_add_X2_rank_20 : GoodIn vsX2_add (wsV RX2 20 RX2 yX2_rank vsX2_rank) := goodIn_r _ [8, 9, 10, 11, 12, 1, 13, 14, 15] rfl (by decide +kernel)
set_option maxHeartbeats 4000000 in
set_option maxRecDepth 100000 in
/-- Pieces.add, the first -/
theorem c_X2_add_0 (l : Launch) (D : va_G) (aI aL aZ : ClassId) (h0 : Nat) (lo : Nat) (hi : Nat) (f : Nat → Int64) (g : Nat → Int64) (a : Int64) (b : Int64) (sz : Nat) : MV l D q_cl (q_ty aI aL aZ) yX2_add vsX2_add 2 0 0 [.ref h0, .long a, .long b] [(h0, .inr (2, [.ref lo, .ref hi, .int 0])), (lo, .inl (aL, 8, .inr (.inl f))), (hi, .inl (aL, 8, .inr (.inl g)))] sz (fun (u : Unit) => True) (fun (u : Unit) => [(h0, .inr (2, [.ref lo, .ref hi, .int 1]))]) := by
  refine q_in cX2_add 6 none (qQv D q_cl (q_ty aI aL aZ) _ _) (by decide) rfl (Nat.le_of_ble_eq_true rfl) ?_
  intro p e s m args below meth c A ls hat hP hD hS hl
  obtain ⟨hx, hb, hr, hts, hown, hlocks, hml, hin, hK, hN, hA⟩ := hat
  have hown : s.vm.findClass RX2 = some m.cls := hown
  have hl : lv_has ls 6 [(0, .ref h0), (1, .long a), (3, .long b)] := hl
  refine lv_aload_n hx hb dX2_add_0 rfl (lv_at hl 0 rfl) ?_
  refine va_get (D := D) (ci := 2) (v := .int 0) (C := RX2) (T := TX2) (N := 3) hx hb hts n_X2_add_X2 hown hK hP 0 rfl rfl 2 (by decide) (hts (.fieldLink RX2 16 "FaceMap$Pieces" "size" "I") (List.mem_of_getElem? (i := 1) rfl)) (fun _ h9 => h9) rfl dX2_add_1 ?_
  refine lv_aload_n hx hb dX2_add_4 rfl (lv_at hl 0 rfl) ?_
  refine va_get (D := D) (ci := 2) (v := .ref lo) (C := RX2) (T := TX2) (N := 3) hx hb hts n_X2_add_X2 hown hK hP 0 rfl rfl 0 (by decide) (hts (.fieldLink RX2 9 "FaceMap$Pieces" "low" "[J") (List.mem_of_getElem? (i := 2) rfl)) (fun _ h9 => h9) rfl dX2_add_5 ?_
  refine va_alen (v := 8) hx hb hK hP 1 1 rfl rfl rfl dX2_add_8 ?_
  refine lv_icmp_ne (tgt := 46) hx hb dX2_add_9 (by decide) (fun c_1 => ?_) (fun c_1 => ?_)
  · refine lv_aload_n hx hb dX2_add_46 rfl (lv_at hl 0 rfl) ?_
    refine lv_lload_n hx hb dX2_add_47 rfl (lv_at hl 1 rfl) ?_
    refine lv_lload_n hx hb dX2_add_48 rfl (lv_at hl 2 rfl) ?_
    refine q_i (wr := [(lo, .inl (aL, 8, .inr (.inl f))), (hi, .inl (aL, 8, .inr (.inl g)))]) (q_runV (As := [.long a, .long b]) (rest := []) ⟨hx, hb, hml, hown, hts⟩ (c_X2_rank_0 l D aI aL aZ h0 lo hi a b _) (cwV 2 hts g_X2_add_X2_rank_20 rfl rfl rfl (by decide +kernel) ⟨Nat.le_of_ble_eq_true rfl, Nat.le_of_ble_eq_true rfl⟩) hK hN hP hD [0] rfl (by decide) rfl rfl rfl hl.1 rfl (Nat.le_of_ble_eq_true rfl) dX2_add_49 ⟨Nat.le_of_ble_eq_true rfl, Nat.le_of_ble_eq_true rfl⟩) hP hD hS hA [0] [1, 2] rfl rfl (by decide) (by decide) (fun r_2 u_2 H locs hw hP hD hS => ?_)
    subst hw
    have hP : va_P D q_cl [(lo, .inl (aL, 8, .inr (.inl f))), (hi, .inl (aL, 8, .inr (.inl g))), (h0, .inr (2, [.ref lo, .ref hi, .int 0]))] H := hP
    have hD : va_D A [(lo, .inl (aL, 8, .inr (.inl f))), (hi, .inl (aL, 8, .inr (.inl g))), (h0, .inr (2, [.ref lo, .ref hi, .int 0]))] := hD
    refine lv_istore (lv' := [(5, .int 0), (0, .ref h0), (1, .long a), (3, .long b)]) hx hb dX2_add_52 hl (by decide) rfl (fun ls hl => ?_)
    refine lv_aload_n hx hb dX2_add_54 rfl (lv_at hl 1 rfl) ?_
    refine va_get (D := D) (ci := 2) (v := .ref lo) (C := RX2) (T := TX2) (N := 3) hx hb hts n_X2_add_X2 hown hK hP 2 rfl rfl 0 (by decide) (hts (.fieldLink RX2 9 "FaceMap$Pieces" "low" "[J") (List.mem_of_getElem? (i := 2) rfl)) (fun _ h9 => h9) rfl dX2_add_55 ?_
    refine lv_iload hx hb dX2_add_58 (lv_at hl 0 rfl) ?_
    refine lv_aload_n hx hb dX2_add_60 rfl (lv_at hl 1 rfl) ?_
    refine va_get (D := D) (ci := 2) (v := .ref lo) (C := RX2) (T := TX2) (N := 3) hx hb hts n_X2_add_X2 hown hK hP 2 rfl rfl 0 (by decide) (hts (.fieldLink RX2 9 "FaceMap$Pieces" "low" "[J") (List.mem_of_getElem? (i := 2) rfl)) (fun _ h9 => h9) rfl dX2_add_61 ?_
    refine lv_iload hx hb dX2_add_64 (lv_at hl 0 rfl) ?_
    refine lv_iconst (v := 1) hx hb dX2_add_66 (by decide) ?_
    refine lv_iadd hx hb dX2_add_67 ?_
    refine q_vi (v := 1) (by decide) ?_
    refine lv_aload_n hx hb dX2_add_68 rfl (lv_at hl 1 rfl) ?_
    refine va_get (D := D) (ci := 2) (v := .int 0) (C := RX2) (T := TX2) (N := 3) hx hb hts n_X2_add_X2 hown hK hP 2 rfl rfl 2 (by decide) (hts (.fieldLink RX2 16 "FaceMap$Pieces" "size" "I") (List.mem_of_getElem? (i := 1) rfl)) (fun _ h9 => h9) rfl dX2_add_69 ?_
    refine lv_iload hx hb dX2_add_72 (lv_at hl 0 rfl) ?_
    refine lv_isub hx hb dX2_add_74 ?_
    refine q_vi (v := 0) (by decide) ?_
    refine va_copyl hx hb (by rw [hml]; exact hl.1.symm) hown (hts (.methodLink RX2 36 arraycopyName) (List.mem_of_getElem? (i := 3) rfl)) (hts (.native arraycopyName) (List.mem_of_getElem? (i := 4) rfl)) (hts (.static arraycopyName) (List.mem_of_getElem? (i := 5) rfl)) (hts (.initialized "java/lang/System") (List.mem_of_getElem? (i := 6) rfl)) hK hP hD hS 0 0 1 1 rfl rfl rfl rfl rfl (by decide) (by decide) (by decide) (by decide) (by decide) (fun i hi => absurd (sb_cl0 ▸ hi) (Nat.not_lt_zero i)) (Nat.le_of_ble_eq_true rfl) (Nat.le_of_ble_eq_true rfl) dX2_add_75 (fun H locs hP hD hS => ?_)
    have hP : va_P D q_cl [(lo, .inl (aL, 8, .inr (.inl (va_cpy f f 0 1 0)))), (hi, .inl (aL, 8, .inr (.inl g))), (h0, .inr (2, [.ref lo, .ref hi, .int 0]))] H := hP
    have hD : va_D A [(lo, .inl (aL, 8, .inr (.inl (va_cpy f f 0 1 0)))), (hi, .inl (aL, 8, .inr (.inl g))), (h0, .inr (2, [.ref lo, .ref hi, .int 0]))] := hD
    refine lv_aload_n hx hb dX2_add_78 rfl (lv_at hl 1 rfl) ?_
    refine va_get (D := D) (ci := 2) (v := .ref hi) (C := RX2) (T := TX2) (N := 3) hx hb hts n_X2_add_X2 hown hK hP 2 rfl rfl 1 (by decide) (hts (.fieldLink RX2 13 "FaceMap$Pieces" "high" "[J") (List.mem_of_getElem? (i := 7) rfl)) (fun _ h9 => h9) rfl dX2_add_79 ?_
    refine lv_iload hx hb dX2_add_82 (lv_at hl 0 rfl) ?_
    refine lv_aload_n hx hb dX2_add_84 rfl (lv_at hl 1 rfl) ?_
    refine va_get (D := D) (ci := 2) (v := .ref hi) (C := RX2) (T := TX2) (N := 3) hx hb hts n_X2_add_X2 hown hK hP 2 rfl rfl 1 (by decide) (hts (.fieldLink RX2 13 "FaceMap$Pieces" "high" "[J") (List.mem_of_getElem? (i := 7) rfl)) (fun _ h9 => h9) rfl dX2_add_85 ?_
    refine lv_iload hx hb dX2_add_88 (lv_at hl 0 rfl) ?_
    refine lv_iconst (v := 1) hx hb dX2_add_90 (by decide) ?_
    refine lv_iadd hx hb dX2_add_91 ?_
    refine q_vi (v := 1) (by decide) ?_
    refine lv_aload_n hx hb dX2_add_92 rfl (lv_at hl 1 rfl) ?_
    refine va_get (D := D) (ci := 2) (v := .int 0) (C := RX2) (T := TX2) (N := 3) hx hb hts n_X2_add_X2 hown hK hP 2 rfl rfl 2 (by decide) (hts (.fieldLink RX2 16 "FaceMap$Pieces" "size" "I") (List.mem_of_getElem? (i := 1) rfl)) (fun _ h9 => h9) rfl dX2_add_93 ?_
    refine lv_iload hx hb dX2_add_96 (lv_at hl 0 rfl) ?_
    refine lv_isub hx hb dX2_add_98 ?_
    refine q_vi (v := 0) (by decide) ?_
    refine va_copyl hx hb (by rw [hml]; exact hl.1.symm) hown (hts (.methodLink RX2 36 arraycopyName) (List.mem_of_getElem? (i := 3) rfl)) (hts (.native arraycopyName) (List.mem_of_getElem? (i := 4) rfl)) (hts (.static arraycopyName) (List.mem_of_getElem? (i := 5) rfl)) (hts (.initialized "java/lang/System") (List.mem_of_getElem? (i := 6) rfl)) hK hP hD hS 1 1 1 1 rfl rfl rfl rfl rfl (by decide) (by decide) (by decide) (by decide) (by decide) (fun i hi => absurd (sb_cl0 ▸ hi) (Nat.not_lt_zero i)) (Nat.le_of_ble_eq_true rfl) (Nat.le_of_ble_eq_true rfl) dX2_add_99 (fun H locs hP hD hS => ?_)
    have hP : va_P D q_cl [(lo, .inl (aL, 8, .inr (.inl (va_cpy f f 0 1 0)))), (hi, .inl (aL, 8, .inr (.inl (va_cpy g g 0 1 0)))), (h0, .inr (2, [.ref lo, .ref hi, .int 0]))] H := hP
    have hD : va_D A [(lo, .inl (aL, 8, .inr (.inl (va_cpy f f 0 1 0)))), (hi, .inl (aL, 8, .inr (.inl (va_cpy g g 0 1 0)))), (h0, .inr (2, [.ref lo, .ref hi, .int 0]))] := hD
    refine lv_aload_n hx hb dX2_add_102 rfl (lv_at hl 1 rfl) ?_
    refine va_get (D := D) (ci := 2) (v := .ref lo) (C := RX2) (T := TX2) (N := 3) hx hb hts n_X2_add_X2 hown hK hP 2 rfl rfl 0 (by decide) (hts (.fieldLink RX2 9 "FaceMap$Pieces" "low" "[J") (List.mem_of_getElem? (i := 2) rfl)) (fun _ h9 => h9) rfl dX2_add_103 ?_
    refine lv_iload hx hb dX2_add_106 (lv_at hl 0 rfl) ?_
    refine lv_lload_n hx hb dX2_add_108 rfl (lv_at hl 2 rfl) ?_
    refine va_last hx hb hK hP hD hS 0 1 rfl rfl (q_ix 0 (by decide) (by decide) (by decide)) dX2_add_109 (fun H locs hP hD hS => ?_)
    have hP : va_P D q_cl [(lo, .inl (aL, 8, .inr (.inl (vp_updL (va_cpy f f 0 1 0) 0 a)))), (hi, .inl (aL, 8, .inr (.inl (va_cpy g g 0 1 0)))), (h0, .inr (2, [.ref lo, .ref hi, .int 0]))] H := hP
    have hD : va_D A [(lo, .inl (aL, 8, .inr (.inl (vp_updL (va_cpy f f 0 1 0) 0 a)))), (hi, .inl (aL, 8, .inr (.inl (va_cpy g g 0 1 0)))), (h0, .inr (2, [.ref lo, .ref hi, .int 0]))] := hD
    refine lv_aload_n hx hb dX2_add_110 rfl (lv_at hl 1 rfl) ?_
    refine va_get (D := D) (ci := 2) (v := .ref hi) (C := RX2) (T := TX2) (N := 3) hx hb hts n_X2_add_X2 hown hK hP 2 rfl rfl 1 (by decide) (hts (.fieldLink RX2 13 "FaceMap$Pieces" "high" "[J") (List.mem_of_getElem? (i := 7) rfl)) (fun _ h9 => h9) rfl dX2_add_111 ?_
    refine lv_iload hx hb dX2_add_114 (lv_at hl 0 rfl) ?_
    refine lv_lload_n hx hb dX2_add_116 rfl (lv_at hl 3 rfl) ?_
    refine va_last hx hb hK hP hD hS 1 1 rfl rfl (q_ix 0 (by decide) (by decide) (by decide)) dX2_add_117 (fun H locs hP hD hS => ?_)
    have hP : va_P D q_cl [(lo, .inl (aL, 8, .inr (.inl (vp_updL (va_cpy f f 0 1 0) 0 a)))), (hi, .inl (aL, 8, .inr (.inl (vp_updL (va_cpy g g 0 1 0) 0 b)))), (h0, .inr (2, [.ref lo, .ref hi, .int 0]))] H := hP
    have hD : va_D A [(lo, .inl (aL, 8, .inr (.inl (vp_updL (va_cpy f f 0 1 0) 0 a)))), (hi, .inl (aL, 8, .inr (.inl (vp_updL (va_cpy g g 0 1 0) 0 b)))), (h0, .inr (2, [.ref lo, .ref hi, .int 0]))] := hD
    refine lv_aload_n hx hb dX2_add_118 rfl (lv_at hl 1 rfl) ?_
    refine lv_dup hx hb dX2_add_119 rfl ?_
    refine va_get (D := D) (ci := 2) (v := .int 0) (C := RX2) (T := TX2) (N := 3) hx hb hts n_X2_add_X2 hown hK hP 2 rfl rfl 2 (by decide) (hts (.fieldLink RX2 16 "FaceMap$Pieces" "size" "I") (List.mem_of_getElem? (i := 1) rfl)) (fun _ h9 => h9) rfl dX2_add_120 ?_
    refine lv_iconst (v := 1) hx hb dX2_add_123 (by decide) ?_
    refine lv_iadd hx hb dX2_add_124 ?_
    refine q_vi (v := 1) (by decide) ?_
    refine va_put (D := D) (ci := 2) (v := .int 1) (ty := .int) (C := RX2) (T := TX2) (N := 3) hx hb hts n_X2_add_X2 tyX2 tyX2_ok nmX2 hown hK hP hD hS 2 rfl rfl 2 (by decide) (hts (.fieldLink RX2 16 "FaceMap$Pieces" "size" "I") (List.mem_of_getElem? (i := 1) rfl)) (fun _ h9 => h9) rfl (by decide +kernel) rfl rfl (Nat.le_of_ble_eq_true rfl) dX2_add_125 (fun H locs hP hD hS => ?_)
    have hP : va_P D q_cl [(lo, .inl (aL, 8, .inr (.inl (vp_updL (va_cpy f f 0 1 0) 0 a)))), (hi, .inl (aL, 8, .inr (.inl (vp_updL (va_cpy g g 0 1 0) 0 b)))), (h0, .inr (2, [.ref lo, .ref hi, .int 1]))] H := hP
    have hD : va_D A [(lo, .inl (aL, 8, .inr (.inl (vp_updL (va_cpy f f 0 1 0) 0 a)))), (hi, .inl (aL, 8, .inr (.inl (vp_updL (va_cpy g g 0 1 0) 0 b)))), (h0, .inr (2, [.ref lo, .ref hi, .int 1]))] := hD
    have hP9 := hP.sub (ws' := [(h0, .inr (2, [.ref lo, .ref hi, .int 1]))]) [2] rfl
    have hD9 := hD.sub (ws' := [(h0, .inr (2, [.ref lo, .ref hi, .int 1]))]) [2] (by decide) rfl
    exact q_retv () hx hb hr hlocks hK hP9 hD9 hS (Nat.le_of_ble_eq_true rfl) (Nat.le_of_ble_eq_true rfl) (trivial) dX2_add_128
  · exact absurd c_1 (by decide)
def vsX2_firstOn : List Cond := .code yX2_firstOn cX2_firstOn 4 (some .int) :: ([.fieldLink RX2 16 "FaceMap$Pieces" "size" "I"] ++ wsX20)
set_option maxRecDepth 20000 in
theorem n_X2_firstOn_X2 : ∀ w ∈ wsX20, w ∈ vsX2_firstOn := fun _ h => List.mem_cons_of_mem _ (List.mem_append_right _ h)
set_option maxHeartbeats 4000000 in
set_option maxRecDepth 100000 in
/-- Pieces.firstOn, with no piece -/
theorem c_X2_firstOn_0 (l : Launch) (D : va_G) (aI aL aZ : ClassId) (h0 : Nat) (lo : Nat) (hi : Nat) (a : Int64) (sz : Nat) : MI l D q_cl (q_ty aI aL aZ) yX2_firstOn vsX2_firstOn 0 0 0 [.ref h0, .long a] [(h0, .inr (2, [.ref lo, .ref hi, .int 0]))] sz (fun (r : Int32) (u : Unit) => r = (-1)) (fun (u : Unit) => [(h0, .inr (2, [.ref lo, .ref hi, .int 0]))]) := by
  refine q_in cX2_firstOn 4 (some .int) (qQi D q_cl (q_ty aI aL aZ) _ _) (by decide) rfl (Nat.le_of_ble_eq_true rfl) ?_
  intro p e s m args below meth c A ls hat hP hD hS hl
  obtain ⟨hx, hb, hr, hts, hown, hlocks, hml, hin, hK, hN, hA⟩ := hat
  have hown : s.vm.findClass RX2 = some m.cls := hown
  have hl : lv_has ls 4 [(0, .ref h0), (1, .long a)] := hl
  refine lv_iconst (v := 0) hx hb dX2_firstOn_0 (by decide) ?_
  refine lv_istore_n (lv' := [(3, .int 0), (0, .ref h0), (1, .long a)]) hx hb dX2_firstOn_1 rfl hl (by decide) rfl (fun ls hl => ?_)
  refine lv_iload_n hx hb dX2_firstOn_2 rfl (lv_at hl 0 rfl) ?_
  refine lv_aload_n hx hb dX2_firstOn_3 rfl (lv_at hl 1 rfl) ?_
  refine va_get (D := D) (ci := 2) (v := .int 0) (C := RX2) (T := TX2) (N := 3) hx hb hts n_X2_firstOn_X2 hown hK hP 0 rfl rfl 2 (by decide) (hts (.fieldLink RX2 16 "FaceMap$Pieces" "size" "I") (List.mem_of_getElem? (i := 1) rfl)) (fun _ h9 => h9) rfl dX2_firstOn_4 ?_
  refine lv_icmp_ge (tgt := 61) hx hb dX2_firstOn_7 (by decide) (fun c_1 => ?_) (fun c_1 => ?_)
  · refine lv_iconst (v := (-1)) hx hb dX2_firstOn_61 (by decide) ?_
    have hP9 := hP.sub (ws' := [(h0, .inr (2, [.ref lo, .ref hi, .int 0]))]) [0] rfl
    have hD9 := hD.sub (ws' := [(h0, .inr (2, [.ref lo, .ref hi, .int 0]))]) [0] (by decide) rfl
    exact q_reti () hx hb hr hlocks hK hP9 hD9 hS (Nat.le_of_ble_eq_true rfl) (Nat.le_of_ble_eq_true rfl) (rfl) dX2_firstOn_62
  · exact absurd c_1 (by decide)
def vsX2_nextBelow : List Cond := .code yX2_nextBelow cX2_nextBelow 6 (some .int) :: ([.fieldLink RX2 16 "FaceMap$Pieces" "size" "I"] ++ wsX20)
set_option maxRecDepth 20000 in
theorem n_X2_nextBelow_X2 : ∀ w ∈ wsX20, w ∈ vsX2_nextBelow := fun _ h => List.mem_cons_of_mem _ (List.mem_append_right _ h)
set_option maxHeartbeats 4000000 in
set_option maxRecDepth 100000 in
/-- Pieces.nextBelow, with no piece -/
theorem c_X2_nextBelow_0 (l : Launch) (D : va_G) (aI aL aZ : ClassId) (h0 : Nat) (lo : Nat) (hi : Nat) (a : Int64) (sz : Nat) : MI l D q_cl (q_ty aI aL aZ) yX2_nextBelow vsX2_nextBelow 0 0 0 [.ref h0, .long a] [(h0, .inr (2, [.ref lo, .ref hi, .int 0]))] sz (fun (r : Int32) (u : Unit) => r = (-1)) (fun (u : Unit) => [(h0, .inr (2, [.ref lo, .ref hi, .int 0]))]) := by
  refine q_in cX2_nextBelow 6 (some .int) (qQi D q_cl (q_ty aI aL aZ) _ _) (by decide) rfl (Nat.le_of_ble_eq_true rfl) ?_
  intro p e s m args below meth c A ls hat hP hD hS hl
  obtain ⟨hx, hb, hr, hts, hown, hlocks, hml, hin, hK, hN, hA⟩ := hat
  have hown : s.vm.findClass RX2 = some m.cls := hown
  have hl : lv_has ls 6 [(0, .ref h0), (1, .long a)] := hl
  refine lv_iconst (v := (-1)) hx hb dX2_nextBelow_0 (by decide) ?_
  refine lv_istore_n (lv' := [(3, .int (-1)), (0, .ref h0), (1, .long a)]) hx hb dX2_nextBelow_1 rfl hl (by decide) rfl (fun ls hl => ?_)
  refine lv_iconst (v := 0) hx hb dX2_nextBelow_2 (by decide) ?_
  refine lv_istore (lv' := [(4, .int 0), (3, .int (-1)), (0, .ref h0), (1, .long a)]) hx hb dX2_nextBelow_3 hl (by decide) rfl (fun ls hl => ?_)
  refine lv_iload hx hb dX2_nextBelow_5 (lv_at hl 0 rfl) ?_
  refine lv_aload_n hx hb dX2_nextBelow_7 rfl (lv_at hl 2 rfl) ?_
  refine va_get (D := D) (ci := 2) (v := .int 0) (C := RX2) (T := TX2) (N := 3) hx hb hts n_X2_nextBelow_X2 hown hK hP 0 rfl rfl 2 (by decide) (hts (.fieldLink RX2 16 "FaceMap$Pieces" "size" "I") (List.mem_of_getElem? (i := 1) rfl)) (fun _ h9 => h9) rfl dX2_nextBelow_8 ?_
  refine lv_icmp_ge (tgt := 96) hx hb dX2_nextBelow_11 (by decide) (fun c_1 => ?_) (fun c_1 => ?_)
  · refine lv_iload_n hx hb dX2_nextBelow_96 rfl (lv_at hl 1 rfl) ?_
    have hP9 := hP.sub (ws' := [(h0, .inr (2, [.ref lo, .ref hi, .int 0]))]) [0] rfl
    have hD9 := hD.sub (ws' := [(h0, .inr (2, [.ref lo, .ref hi, .int 0]))]) [0] (by decide) rfl
    exact q_reti () hx hb hr hlocks hK hP9 hD9 hS (Nat.le_of_ble_eq_true rfl) (Nat.le_of_ble_eq_true rfl) (rfl) dX2_nextBelow_97
  · exact absurd c_1 (by decide)
end
section
def vsX1_init : List Cond := .code yX1_init cX1_init 1 none :: ([.methodLink RX1 1 objectInit, .instanceMethod objectInit, .code objectInit ⟨#[0xb1]⟩ 1 none, .arrayClass .long, .fieldLink RX1 9 "FaceMap$Nodes" "at" "[J", .arrayClass .int, .fieldLink RX1 13 "FaceMap$Nodes" "degree" "[I", .fieldLink RX1 17 "FaceMap$Nodes" "size" "I"] ++ wsX10)
set_option maxRecDepth 20000 in
theorem n_X1_init_X1 : ∀ w ∈ wsX10, w ∈ vsX1_init := fun _ h => List.mem_cons_of_mem _ (List.mem_append_right _ h)
set_option maxHeartbeats 4000000 in
set_option maxRecDepth 100000 in
/-- Nodes() -/
theorem c_X1_init (l : Launch) (D : va_G) (aI aL aZ : ClassId) (h0 : Nat) (sz : Nat) : MV l D q_cl (q_ty aI aL aZ) yX1_init vsX1_init 1 2 32 [.ref h0] [(h0, .inr (1, [.null, .null, .int 0]))] sz (fun (u : Nat × Nat) => True) (fun (u : Nat × Nat) => [(h0, .inr (1, [.ref u.1, .ref u.2, .int 0])), (u.1, .inl (aL, 16, .inr (.inl (fun _ => 0)))), (u.2, .inl (aI, 16, .inl (fun _ => 0)))]) := by
  refine q_in cX1_init 1 none (qQv D q_cl (q_ty aI aL aZ) _ _) (by decide) rfl (Nat.le_of_ble_eq_true rfl) ?_
  intro p e s m args below meth c A ls hat hP hD hS hl
  obtain ⟨hx, hb, hr, hts, hown, hlocks, hml, hin, hK, hN, hA⟩ := hat
  have hown : s.vm.findClass RX1 = some m.cls := hown
  have hl : lv_has ls 1 [(0, .ref h0)] := hl
  refine lv_aload_n hx hb dX1_init_0 rfl (lv_at hl 0 rfl) ?_
  refine W.objInit hx hb hown (hts (.methodLink RX1 1 objectInit) (List.mem_of_getElem? (i := 1) rfl)) (hts (.instanceMethod objectInit) (List.mem_of_getElem? (i := 2) rfl)) (hts (.code objectInit ⟨#[0xb1]⟩ 1 none) (List.mem_of_getElem? (i := 3) rfl)) rfl (by rw [hml]; exact hl.1) rfl dX1_init_1 (Nat.le_of_ble_eq_true rfl) (Nat.le_of_ble_eq_true rfl) ?_
  refine W.eq (g2 := F0 m 4 ls []) rfl ?_
  refine lv_aload_n hx hb dX1_init_4 rfl (lv_at hl 0 rfl) ?_
  refine lv_bipush (v := 16) hx hb dX1_init_5 (by decide) ?_
  refine q_newL 16 hx hb (hts (.arrayClass .long) (List.mem_of_getElem? (i := 4) rfl)) hK hP hD hS hA 1 rfl (by decide) (by decide) (by decide) (Nat.le_of_ble_eq_true rfl) (Nat.le_of_ble_eq_true rfl) dX1_init_7 (fun q1 H hP hD hS => ?_)
  have hP : va_P D q_cl [(h0, .inr (1, [.null, .null, .int 0])), (q1, .inl (aL, 16, .inr (.inl (fun _ => 0))))] H := hP
  have hD : va_D A [(h0, .inr (1, [.null, .null, .int 0])), (q1, .inl (aL, 16, .inr (.inl (fun _ => 0))))] := hD
  refine va_put (D := D) (ci := 1) (v := .ref q1) (ty := (.array .long)) (C := RX1) (T := TX1) (N := 3) hx hb hts n_X1_init_X1 tyX1 tyX1_ok nmX1 hown hK hP hD hS 0 rfl rfl 0 (by decide) (hts (.fieldLink RX1 9 "FaceMap$Nodes" "at" "[J") (List.mem_of_getElem? (i := 5) rfl)) (fun _ h9 => h9) rfl (by decide +kernel) rfl rfl (Nat.le_of_ble_eq_true rfl) dX1_init_9 (fun H locs hP hD hS => ?_)
  have hP : va_P D q_cl [(h0, .inr (1, [.ref q1, .null, .int 0])), (q1, .inl (aL, 16, .inr (.inl (fun _ => 0))))] H := hP
  have hD : va_D A [(h0, .inr (1, [.ref q1, .null, .int 0])), (q1, .inl (aL, 16, .inr (.inl (fun _ => 0))))] := hD
  refine lv_aload_n hx hb dX1_init_12 rfl (lv_at hl 0 rfl) ?_
  refine lv_bipush (v := 16) hx hb dX1_init_13 (by decide) ?_
  refine q_newI 16 hx hb (hts (.arrayClass .int) (List.mem_of_getElem? (i := 6) rfl)) hK hP hD hS hA 0 rfl (by decide) (by decide) (by decide) (Nat.le_of_ble_eq_true rfl) (Nat.le_of_ble_eq_true rfl) dX1_init_15 (fun q2 H hP hD hS => ?_)
  have hP : va_P D q_cl [(h0, .inr (1, [.ref q1, .null, .int 0])), (q1, .inl (aL, 16, .inr (.inl (fun _ => 0)))), (q2, .inl (aI, 16, .inl (fun _ => 0)))] H := hP
  have hD : va_D A [(h0, .inr (1, [.ref q1, .null, .int 0])), (q1, .inl (aL, 16, .inr (.inl (fun _ => 0)))), (q2, .inl (aI, 16, .inl (fun _ => 0)))] := hD
  refine va_put (D := D) (ci := 1) (v := .ref q2) (ty := (.array .int)) (C := RX1) (T := TX1) (N := 3) hx hb hts n_X1_init_X1 tyX1 tyX1_ok nmX1 hown hK hP hD hS 0 rfl rfl 1 (by decide) (hts (.fieldLink RX1 13 "FaceMap$Nodes" "degree" "[I") (List.mem_of_getElem? (i := 7) rfl)) (fun _ h9 => h9) rfl (by decide +kernel) rfl rfl (Nat.le_of_ble_eq_true rfl) dX1_init_17 (fun H locs hP hD hS => ?_)
  have hP : va_P D q_cl [(h0, .inr (1, [.ref q1, .ref q2, .int 0])), (q1, .inl (aL, 16, .inr (.inl (fun _ => 0)))), (q2, .inl (aI, 16, .inl (fun _ => 0)))] H := hP
  have hD : va_D A [(h0, .inr (1, [.ref q1, .ref q2, .int 0])), (q1, .inl (aL, 16, .inr (.inl (fun _ => 0)))), (q2, .inl (aI, 16, .inl (fun _ => 0)))] := hD
  refine lv_aload_n hx hb dX1_init_20 rfl (lv_at hl 0 rfl) ?_
  refine lv_iconst (v := 0) hx hb dX1_init_21 (by decide) ?_
  refine va_put (D := D) (ci := 1) (v := .int 0) (ty := .int) (C := RX1) (T := TX1) (N := 3) hx hb hts n_X1_init_X1 tyX1 tyX1_ok nmX1 hown hK hP hD hS 0 rfl rfl 2 (by decide) (hts (.fieldLink RX1 17 "FaceMap$Nodes" "size" "I") (List.mem_of_getElem? (i := 8) rfl)) (fun _ h9 => h9) rfl (by decide +kernel) rfl rfl (Nat.le_of_ble_eq_true rfl) dX1_init_22 (fun H locs hP hD hS => ?_)
  have hP : va_P D q_cl [(h0, .inr (1, [.ref q1, .ref q2, .int 0])), (q1, .inl (aL, 16, .inr (.inl (fun _ => 0)))), (q2, .inl (aI, 16, .inl (fun _ => 0)))] H := hP
  have hD : va_D A [(h0, .inr (1, [.ref q1, .ref q2, .int 0])), (q1, .inl (aL, 16, .inr (.inl (fun _ => 0)))), (q2, .inl (aI, 16, .inl (fun _ => 0)))] := hD
  have hP9 := hP.sub (ws' := [(h0, .inr (1, [.ref q1, .ref q2, .int 0])), (q1, .inl (aL, 16, .inr (.inl (fun _ => 0)))), (q2, .inl (aI, 16, .inl (fun _ => 0)))]) [0, 1, 2] rfl
  have hD9 := hD.sub (ws' := [(h0, .inr (1, [.ref q1, .ref q2, .int 0])), (q1, .inl (aL, 16, .inr (.inl (fun _ => 0)))), (q2, .inl (aI, 16, .inl (fun _ => 0)))]) [0, 1, 2] (by decide) rfl
  exact q_retv (q1, q2) hx hb hr hlocks hK hP9 hD9 hS (Nat.le_of_ble_eq_true rfl) (Nat.le_of_ble_eq_true rfl) (trivial) dX1_init_25
def vsX1_rank : List Cond := .code yX1_rank cX1_rank 6 (some .int) :: ([.fieldLink RX1 17 "FaceMap$Nodes" "size" "I", .fieldLink RX1 9 "FaceMap$Nodes" "at" "[J"] ++ wsX10)
set_option maxRecDepth 20000 in
theorem n_X1_rank_X1 : ∀ w ∈ wsX10, w ∈ vsX1_rank := fun _ h => List.mem_cons_of_mem _ (List.mem_append_right _ h)
set_option maxHeartbeats 4000000 in
set_option maxRecDepth 100000 in
/-- Nodes.rank, with no node -/
theorem c_X1_rank_0 (l : Launch) (D : va_G) (aI aL aZ : ClassId) (h0 : Nat) (at_ : Nat) (dg : Nat) (a : Int64) (sz : Nat) : MI l D q_cl (q_ty aI aL aZ) yX1_rank vsX1_rank 0 0 0 [.ref h0, .long a] [(h0, .inr (1, [.ref at_, .ref dg, .int 0]))] sz (fun (r : Int32) (u : Unit) => r = 0) (fun (u : Unit) => [(h0, .inr (1, [.ref at_, .ref dg, .int 0]))]) := by
  refine q_in cX1_rank 6 (some .int) (qQi D q_cl (q_ty aI aL aZ) _ _) (by decide) rfl (Nat.le_of_ble_eq_true rfl) ?_
  intro p e s m args below meth c A ls hat hP hD hS hl
  obtain ⟨hx, hb, hr, hts, hown, hlocks, hml, hin, hK, hN, hA⟩ := hat
  have hown : s.vm.findClass RX1 = some m.cls := hown
  have hl : lv_has ls 6 [(0, .ref h0), (1, .long a)] := hl
  refine lv_iconst (v := 0) hx hb dX1_rank_0 (by decide) ?_
  refine lv_istore_n (lv' := [(3, .int 0), (0, .ref h0), (1, .long a)]) hx hb dX1_rank_1 rfl hl (by decide) rfl (fun ls hl => ?_)
  refine lv_aload_n hx hb dX1_rank_2 rfl (lv_at hl 1 rfl) ?_
  refine va_get (D := D) (ci := 1) (v := .int 0) (C := RX1) (T := TX1) (N := 3) hx hb hts n_X1_rank_X1 hown hK hP 0 rfl rfl 2 (by decide) (hts (.fieldLink RX1 17 "FaceMap$Nodes" "size" "I") (List.mem_of_getElem? (i := 1) rfl)) (fun _ h9 => h9) rfl dX1_rank_3 ?_
  refine lv_istore (lv' := [(4, .int 0), (3, .int 0), (0, .ref h0), (1, .long a)]) hx hb dX1_rank_6 hl (by decide) rfl (fun ls hl => ?_)
  refine lv_iload_n hx hb dX1_rank_8 rfl (lv_at hl 1 rfl) ?_
  refine lv_iload hx hb dX1_rank_9 (lv_at hl 0 rfl) ?_
  refine lv_icmp_ge (tgt := 49) hx hb dX1_rank_11 (by decide) (fun c_1 => ?_) (fun c_1 => ?_)
  · refine lv_iload_n hx hb dX1_rank_49 rfl (lv_at hl 1 rfl) ?_
    have hP9 := hP.sub (ws' := [(h0, .inr (1, [.ref at_, .ref dg, .int 0]))]) [0] rfl
    have hD9 := hD.sub (ws' := [(h0, .inr (1, [.ref at_, .ref dg, .int 0]))]) [0] (by decide) rfl
    exact q_reti () hx hb hr hlocks hK hP9 hD9 hS (Nat.le_of_ble_eq_true rfl) (Nat.le_of_ble_eq_true rfl) (rfl) dX1_rank_50
  · exact absurd c_1 (by decide)
set_option maxHeartbeats 4000000 in
set_option maxRecDepth 100000 in
/-- Nodes.rank of a place beyond the one node -/
theorem c_X1_rank_1 (l : Launch) (D : va_G) (aI aL aZ : ClassId) (h0 : Nat) (at_ : Nat) (dg : Nat) (f : Nat → Int64) (b : Int64) (a : Int64) (hf : f 0 = b) (hba : b < a) (sz : Nat) : MI l D q_cl (q_ty aI aL aZ) yX1_rank vsX1_rank 0 0 0 [.ref h0, .long a] [(h0, .inr (1, [.ref at_, .ref dg, .int 1])), (at_, .inl (aL, 16, .inr (.inl f)))] sz (fun (r : Int32) (u : Unit) => r = 1) (fun (u : Unit) => [(h0, .inr (1, [.ref at_, .ref dg, .int 1])), (at_, .inl (aL, 16, .inr (.inl f)))]) := by
  refine q_in cX1_rank 6 (some .int) (qQi D q_cl (q_ty aI aL aZ) _ _) (by decide) rfl (Nat.le_of_ble_eq_true rfl) ?_
  intro p e s m args below meth c A ls hat hP hD hS hl
  obtain ⟨hx, hb, hr, hts, hown, hlocks, hml, hin, hK, hN, hA⟩ := hat
  have hown : s.vm.findClass RX1 = some m.cls := hown
  have hl : lv_has ls 6 [(0, .ref h0), (1, .long a)] := hl
  refine lv_iconst (v := 0) hx hb dX1_rank_0 (by decide) ?_
  refine lv_istore_n (lv' := [(3, .int 0), (0, .ref h0), (1, .long a)]) hx hb dX1_rank_1 rfl hl (by decide) rfl (fun ls hl => ?_)
  refine lv_aload_n hx hb dX1_rank_2 rfl (lv_at hl 1 rfl) ?_
  refine va_get (D := D) (ci := 1) (v := .int 1) (C := RX1) (T := TX1) (N := 3) hx hb hts n_X1_rank_X1 hown hK hP 0 rfl rfl 2 (by decide) (hts (.fieldLink RX1 17 "FaceMap$Nodes" "size" "I") (List.mem_of_getElem? (i := 1) rfl)) (fun _ h9 => h9) rfl dX1_rank_3 ?_
  refine lv_istore (lv' := [(4, .int 1), (3, .int 0), (0, .ref h0), (1, .long a)]) hx hb dX1_rank_6 hl (by decide) rfl (fun ls hl => ?_)
  refine lv_iload_n hx hb dX1_rank_8 rfl (lv_at hl 1 rfl) ?_
  refine lv_iload hx hb dX1_rank_9 (lv_at hl 0 rfl) ?_
  refine lv_icmp_ge (tgt := 49) hx hb dX1_rank_11 (by decide) (fun c_1 => ?_) (fun c_1 => ?_)
  · exact absurd c_1 (by decide)
  · refine lv_iload_n hx hb dX1_rank_14 rfl (lv_at hl 1 rfl) ?_
    refine lv_iload hx hb dX1_rank_15 (lv_at hl 0 rfl) ?_
    refine lv_iadd hx hb dX1_rank_17 ?_
    refine q_vi (v := 1) (by decide) ?_
    refine lv_iconst (v := 1) hx hb dX1_rank_18 (by decide) ?_
    refine lv_iushr (v := 0) hx hb dX1_rank_19 (by decide) ?_
    refine lv_istore (lv' := [(5, .int 0), (4, .int 1), (3, .int 0), (0, .ref h0), (1, .long a)]) hx hb dX1_rank_20 hl (by decide) rfl (fun ls hl => ?_)
    refine lv_aload_n hx hb dX1_rank_22 rfl (lv_at hl 3 rfl) ?_
    refine va_get (D := D) (ci := 1) (v := .ref at_) (C := RX1) (T := TX1) (N := 3) hx hb hts n_X1_rank_X1 hown hK hP 0 rfl rfl 0 (by decide) (hts (.fieldLink RX1 9 "FaceMap$Nodes" "at" "[J") (List.mem_of_getElem? (i := 2) rfl)) (fun _ h9 => h9) rfl dX1_rank_23 ?_
    refine lv_iload hx hb dX1_rank_26 (lv_at hl 0 rfl) ?_
    refine va_lald hx hb hK hP 1 1 rfl rfl (q_ix 0 (by decide) (by decide) (by decide)) dX1_rank_28 ?_
    refine q_vl (v := b) hf ?_
    refine lv_lload_n hx hb dX1_rank_29 rfl (lv_at hl 4 rfl) ?_
    refine W.lcmp hx hb dX1_rank_30 ?_
    refine lv_if_ge (tgt := 42) hx hb dX1_rank_31 (by decide) (fun c_2 => ?_) (fun c_2 => ?_)
    · exact absurd ((lg_cmp_ge _ _).mp c_2) (q_nle hba)
    · refine lv_iload hx hb dX1_rank_34 (lv_at hl 0 rfl) ?_
      refine lv_iconst (v := 1) hx hb dX1_rank_36 (by decide) ?_
      refine lv_iadd hx hb dX1_rank_37 ?_
      refine q_vi (v := 1) (by decide) ?_
      refine lv_istore_n (lv' := [(3, .int 1), (5, .int 0), (4, .int 1), (0, .ref h0), (1, .long a)]) hx hb dX1_rank_38 rfl hl (by decide) rfl (fun ls hl => ?_)
      refine lv_goto (tgt := 46) hx hb dX1_rank_39 (by decide) ?_
      refine lv_goto (tgt := 8) hx hb dX1_rank_46 (by decide) ?_
      refine lv_iload_n hx hb dX1_rank_8 rfl (lv_at hl 0 rfl) ?_
      refine lv_iload hx hb dX1_rank_9 (lv_at hl 2 rfl) ?_
      refine lv_icmp_ge (tgt := 49) hx hb dX1_rank_11 (by decide) (fun c_3 => ?_) (fun c_3 => ?_)
      · refine lv_iload_n hx hb dX1_rank_49 rfl (lv_at hl 0 rfl) ?_
        have hP9 := hP.sub (ws' := [(h0, .inr (1, [.ref at_, .ref dg, .int 1])), (at_, .inl (aL, 16, .inr (.inl f)))]) [0, 1] rfl
        have hD9 := hD.sub (ws' := [(h0, .inr (1, [.ref at_, .ref dg, .int 1])), (at_, .inl (aL, 16, .inr (.inl f)))]) [0, 1] (by decide) rfl
        exact q_reti () hx hb hr hlocks hK hP9 hD9 hS (Nat.le_of_ble_eq_true rfl) (Nat.le_of_ble_eq_true rfl) (rfl) dX1_rank_50
      · exact absurd c_3 (by decide)
def vsX1_isAt : List Cond := .code yX1_isAt cX1_isAt 4 (some .boolean) :: ([.fieldLink RX1 17 "FaceMap$Nodes" "size" "I"] ++ wsX10)
set_option maxRecDepth 20000 in
theorem n_X1_isAt_X1 : ∀ w ∈ wsX10, w ∈ vsX1_isAt := fun _ h => List.mem_cons_of_mem _ (List.mem_append_right _ h)
set_option maxHeartbeats 4000000 in
set_option maxRecDepth 100000 in
/-- Nodes.isAt behind the last, none -/
theorem c_X1_isAt_0 (l : Launch) (D : va_G) (aI aL aZ : ClassId) (h0 : Nat) (at_ : Nat) (dg : Nat) (a : Int64) (sz : Nat) : MI l D q_cl (q_ty aI aL aZ) yX1_isAt vsX1_isAt 0 0 0 [.ref h0, .int 0, .long a] [(h0, .inr (1, [.ref at_, .ref dg, .int 0]))] sz (fun (r : Int32) (u : Unit) => r = 0) (fun (u : Unit) => [(h0, .inr (1, [.ref at_, .ref dg, .int 0]))]) := by
  refine q_in cX1_isAt 4 (some .boolean) (qQi D q_cl (q_ty aI aL aZ) _ _) (by decide) rfl (Nat.le_of_ble_eq_true rfl) ?_
  intro p e s m args below meth c A ls hat hP hD hS hl
  obtain ⟨hx, hb, hr, hts, hown, hlocks, hml, hin, hK, hN, hA⟩ := hat
  have hown : s.vm.findClass RX1 = some m.cls := hown
  have hl : lv_has ls 4 [(0, .ref h0), (1, .int 0), (2, .long a)] := hl
  refine lv_iload_n hx hb dX1_isAt_0 rfl (lv_at hl 1 rfl) ?_
  refine lv_aload_n hx hb dX1_isAt_1 rfl (lv_at hl 0 rfl) ?_
  refine va_get (D := D) (ci := 1) (v := .int 0) (C := RX1) (T := TX1) (N := 3) hx hb hts n_X1_isAt_X1 hown hK hP 0 rfl rfl 2 (by decide) (hts (.fieldLink RX1 17 "FaceMap$Nodes" "size" "I") (List.mem_of_getElem? (i := 1) rfl)) (fun _ h9 => h9) rfl dX1_isAt_2 ?_
  refine lv_icmp_ge (tgt := 23) hx hb dX1_isAt_5 (by decide) (fun c_1 => ?_) (fun c_1 => ?_)
  · refine lv_iconst (v := 0) hx hb dX1_isAt_23 (by decide) ?_
    have hP9 := hP.sub (ws' := [(h0, .inr (1, [.ref at_, .ref dg, .int 0]))]) [0] rfl
    have hD9 := hD.sub (ws' := [(h0, .inr (1, [.ref at_, .ref dg, .int 0]))]) [0] (by decide) rfl
    exact q_retz () hx hb hr (by decide) hlocks hK hP9 hD9 hS (Nat.le_of_ble_eq_true rfl) (Nat.le_of_ble_eq_true rfl) (rfl) dX1_isAt_24
  · exact absurd c_1 (by decide)
set_option maxHeartbeats 4000000 in
set_option maxRecDepth 100000 in
/-- Nodes.isAt behind the last, one -/
theorem c_X1_isAt_1 (l : Launch) (D : va_G) (aI aL aZ : ClassId) (h0 : Nat) (at_ : Nat) (dg : Nat) (a : Int64) (sz : Nat) : MI l D q_cl (q_ty aI aL aZ) yX1_isAt vsX1_isAt 0 0 0 [.ref h0, .int 1, .long a] [(h0, .inr (1, [.ref at_, .ref dg, .int 1]))] sz (fun (r : Int32) (u : Unit) => r = 0) (fun (u : Unit) => [(h0, .inr (1, [.ref at_, .ref dg, .int 1]))]) := by
  refine q_in cX1_isAt 4 (some .boolean) (qQi D q_cl (q_ty aI aL aZ) _ _) (by decide) rfl (Nat.le_of_ble_eq_true rfl) ?_
  intro p e s m args below meth c A ls hat hP hD hS hl
  obtain ⟨hx, hb, hr, hts, hown, hlocks, hml, hin, hK, hN, hA⟩ := hat
  have hown : s.vm.findClass RX1 = some m.cls := hown
  have hl : lv_has ls 4 [(0, .ref h0), (1, .int 1), (2, .long a)] := hl
  refine lv_iload_n hx hb dX1_isAt_0 rfl (lv_at hl 1 rfl) ?_
  refine lv_aload_n hx hb dX1_isAt_1 rfl (lv_at hl 0 rfl) ?_
  refine va_get (D := D) (ci := 1) (v := .int 1) (C := RX1) (T := TX1) (N := 3) hx hb hts n_X1_isAt_X1 hown hK hP 0 rfl rfl 2 (by decide) (hts (.fieldLink RX1 17 "FaceMap$Nodes" "size" "I") (List.mem_of_getElem? (i := 1) rfl)) (fun _ h9 => h9) rfl dX1_isAt_2 ?_
  refine lv_icmp_ge (tgt := 23) hx hb dX1_isAt_5 (by decide) (fun c_1 => ?_) (fun c_1 => ?_)
  · refine lv_iconst (v := 0) hx hb dX1_isAt_23 (by decide) ?_
    have hP9 := hP.sub (ws' := [(h0, .inr (1, [.ref at_, .ref dg, .int 1]))]) [0] rfl
    have hD9 := hD.sub (ws' := [(h0, .inr (1, [.ref at_, .ref dg, .int 1]))]) [0] (by decide) rfl
    exact q_retz () hx hb hr (by decide) hlocks hK hP9 hD9 hS (Nat.le_of_ble_eq_true rfl) (Nat.le_of_ble_eq_true rfl) (rfl) dX1_isAt_24
  · exact absurd c_1 (by decide)
def vsX1_insert : List Cond := .code yX1_insert cX1_insert 4 none :: ([.fieldLink RX1 17 "FaceMap$Nodes" "size" "I", .fieldLink RX1 9 "FaceMap$Nodes" "at" "[J", .methodLink RX1 42 arraycopyName, .native arraycopyName, .static arraycopyName, .initialized "java/lang/System", .fieldLink RX1 13 "FaceMap$Nodes" "degree" "[I"] ++ wsX10)
set_option maxRecDepth 20000 in
theorem n_X1_insert_X1 : ∀ w ∈ wsX10, w ∈ vsX1_insert := fun _ h => List.mem_cons_of_mem _ (List.mem_append_right _ h)
set_option maxHeartbeats 4000000 in
set_option maxRecDepth 100000 in
/-- Nodes.insert, the first -/
theorem c_X1_insert_0 (l : Launch) (D : va_G) (aI aL aZ : ClassId) (h0 : Nat) (at_ : Nat) (dg : Nat) (f : Nat → Int64) (g : Nat → Int32) (a : Int64) (sz : Nat) : MV l D q_cl (q_ty aI aL aZ) yX1_insert vsX1_insert 2 0 0 [.ref h0, .int 0, .long a] [(h0, .inr (1, [.ref at_, .ref dg, .int 0])), (at_, .inl (aL, 16, .inr (.inl f))), (dg, .inl (aI, 16, .inl g))] sz (fun (u : (Nat → Int64) × (Nat → Int32)) => u.1 0 = a) (fun (u : (Nat → Int64) × (Nat → Int32)) => [(h0, .inr (1, [.ref at_, .ref dg, .int 1])), (at_, .inl (aL, 16, .inr (.inl u.1))), (dg, .inl (aI, 16, .inl u.2))]) := by
  refine q_in cX1_insert 4 none (qQv D q_cl (q_ty aI aL aZ) _ _) (by decide) rfl (Nat.le_of_ble_eq_true rfl) ?_
  intro p e s m args below meth c A ls hat hP hD hS hl
  obtain ⟨hx, hb, hr, hts, hown, hlocks, hml, hin, hK, hN, hA⟩ := hat
  have hown : s.vm.findClass RX1 = some m.cls := hown
  have hl : lv_has ls 4 [(0, .ref h0), (1, .int 0), (2, .long a)] := hl
  refine lv_aload_n hx hb dX1_insert_0 rfl (lv_at hl 0 rfl) ?_
  refine va_get (D := D) (ci := 1) (v := .int 0) (C := RX1) (T := TX1) (N := 3) hx hb hts n_X1_insert_X1 hown hK hP 0 rfl rfl 2 (by decide) (hts (.fieldLink RX1 17 "FaceMap$Nodes" "size" "I") (List.mem_of_getElem? (i := 1) rfl)) (fun _ h9 => h9) rfl dX1_insert_1 ?_
  refine lv_aload_n hx hb dX1_insert_4 rfl (lv_at hl 0 rfl) ?_
  refine va_get (D := D) (ci := 1) (v := .ref at_) (C := RX1) (T := TX1) (N := 3) hx hb hts n_X1_insert_X1 hown hK hP 0 rfl rfl 0 (by decide) (hts (.fieldLink RX1 9 "FaceMap$Nodes" "at" "[J") (List.mem_of_getElem? (i := 2) rfl)) (fun _ h9 => h9) rfl dX1_insert_5 ?_
  refine va_alen (v := 16) hx hb hK hP 1 1 rfl rfl rfl dX1_insert_8 ?_
  refine lv_icmp_ne (tgt := 46) hx hb dX1_insert_9 (by decide) (fun c_1 => ?_) (fun c_1 => ?_)
  · refine lv_aload_n hx hb dX1_insert_46 rfl (lv_at hl 0 rfl) ?_
    refine va_get (D := D) (ci := 1) (v := .ref at_) (C := RX1) (T := TX1) (N := 3) hx hb hts n_X1_insert_X1 hown hK hP 0 rfl rfl 0 (by decide) (hts (.fieldLink RX1 9 "FaceMap$Nodes" "at" "[J") (List.mem_of_getElem? (i := 2) rfl)) (fun _ h9 => h9) rfl dX1_insert_47 ?_
    refine lv_iload_n hx hb dX1_insert_50 rfl (lv_at hl 1 rfl) ?_
    refine lv_aload_n hx hb dX1_insert_51 rfl (lv_at hl 0 rfl) ?_
    refine va_get (D := D) (ci := 1) (v := .ref at_) (C := RX1) (T := TX1) (N := 3) hx hb hts n_X1_insert_X1 hown hK hP 0 rfl rfl 0 (by decide) (hts (.fieldLink RX1 9 "FaceMap$Nodes" "at" "[J") (List.mem_of_getElem? (i := 2) rfl)) (fun _ h9 => h9) rfl dX1_insert_52 ?_
    refine lv_iload_n hx hb dX1_insert_55 rfl (lv_at hl 1 rfl) ?_
    refine lv_iconst (v := 1) hx hb dX1_insert_56 (by decide) ?_
    refine lv_iadd hx hb dX1_insert_57 ?_
    refine q_vi (v := 1) (by decide) ?_
    refine lv_aload_n hx hb dX1_insert_58 rfl (lv_at hl 0 rfl) ?_
    refine va_get (D := D) (ci := 1) (v := .int 0) (C := RX1) (T := TX1) (N := 3) hx hb hts n_X1_insert_X1 hown hK hP 0 rfl rfl 2 (by decide) (hts (.fieldLink RX1 17 "FaceMap$Nodes" "size" "I") (List.mem_of_getElem? (i := 1) rfl)) (fun _ h9 => h9) rfl dX1_insert_59 ?_
    refine lv_iload_n hx hb dX1_insert_62 rfl (lv_at hl 1 rfl) ?_
    refine lv_isub hx hb dX1_insert_63 ?_
    refine q_vi (v := 0) (by decide) ?_
    refine va_copyl hx hb (by rw [hml]; exact hl.1.symm) hown (hts (.methodLink RX1 42 arraycopyName) (List.mem_of_getElem? (i := 3) rfl)) (hts (.native arraycopyName) (List.mem_of_getElem? (i := 4) rfl)) (hts (.static arraycopyName) (List.mem_of_getElem? (i := 5) rfl)) (hts (.initialized "java/lang/System") (List.mem_of_getElem? (i := 6) rfl)) hK hP hD hS 1 1 1 1 rfl rfl rfl rfl rfl (by decide) (by decide) (by decide) (by decide) (by decide) (fun i hi => absurd (sb_cl0 ▸ hi) (Nat.not_lt_zero i)) (Nat.le_of_ble_eq_true rfl) (Nat.le_of_ble_eq_true rfl) dX1_insert_64 (fun H locs hP hD hS => ?_)
    have hP : va_P D q_cl [(h0, .inr (1, [.ref at_, .ref dg, .int 0])), (at_, .inl (aL, 16, .inr (.inl (va_cpy f f 0 1 0)))), (dg, .inl (aI, 16, .inl g))] H := hP
    have hD : va_D A [(h0, .inr (1, [.ref at_, .ref dg, .int 0])), (at_, .inl (aL, 16, .inr (.inl (va_cpy f f 0 1 0)))), (dg, .inl (aI, 16, .inl g))] := hD
    refine lv_aload_n hx hb dX1_insert_67 rfl (lv_at hl 0 rfl) ?_
    refine va_get (D := D) (ci := 1) (v := .ref dg) (C := RX1) (T := TX1) (N := 3) hx hb hts n_X1_insert_X1 hown hK hP 0 rfl rfl 1 (by decide) (hts (.fieldLink RX1 13 "FaceMap$Nodes" "degree" "[I") (List.mem_of_getElem? (i := 7) rfl)) (fun _ h9 => h9) rfl dX1_insert_68 ?_
    refine lv_iload_n hx hb dX1_insert_71 rfl (lv_at hl 1 rfl) ?_
    refine lv_aload_n hx hb dX1_insert_72 rfl (lv_at hl 0 rfl) ?_
    refine va_get (D := D) (ci := 1) (v := .ref dg) (C := RX1) (T := TX1) (N := 3) hx hb hts n_X1_insert_X1 hown hK hP 0 rfl rfl 1 (by decide) (hts (.fieldLink RX1 13 "FaceMap$Nodes" "degree" "[I") (List.mem_of_getElem? (i := 7) rfl)) (fun _ h9 => h9) rfl dX1_insert_73 ?_
    refine lv_iload_n hx hb dX1_insert_76 rfl (lv_at hl 1 rfl) ?_
    refine lv_iconst (v := 1) hx hb dX1_insert_77 (by decide) ?_
    refine lv_iadd hx hb dX1_insert_78 ?_
    refine q_vi (v := 1) (by decide) ?_
    refine lv_aload_n hx hb dX1_insert_79 rfl (lv_at hl 0 rfl) ?_
    refine va_get (D := D) (ci := 1) (v := .int 0) (C := RX1) (T := TX1) (N := 3) hx hb hts n_X1_insert_X1 hown hK hP 0 rfl rfl 2 (by decide) (hts (.fieldLink RX1 17 "FaceMap$Nodes" "size" "I") (List.mem_of_getElem? (i := 1) rfl)) (fun _ h9 => h9) rfl dX1_insert_80 ?_
    refine lv_iload_n hx hb dX1_insert_83 rfl (lv_at hl 1 rfl) ?_
    refine lv_isub hx hb dX1_insert_84 ?_
    refine q_vi (v := 0) (by decide) ?_
    refine va_copyi hx hb (by rw [hml]; exact hl.1.symm) hown (hts (.methodLink RX1 42 arraycopyName) (List.mem_of_getElem? (i := 3) rfl)) (hts (.native arraycopyName) (List.mem_of_getElem? (i := 4) rfl)) (hts (.static arraycopyName) (List.mem_of_getElem? (i := 5) rfl)) (hts (.initialized "java/lang/System") (List.mem_of_getElem? (i := 6) rfl)) hK hP hD hS 2 2 0 0 rfl rfl rfl rfl rfl (by decide) (by decide) (by decide) (by decide) (by decide) (fun i hi => absurd (sb_cl0 ▸ hi) (Nat.not_lt_zero i)) (Nat.le_of_ble_eq_true rfl) (Nat.le_of_ble_eq_true rfl) dX1_insert_85 (fun H locs hP hD hS => ?_)
    have hP : va_P D q_cl [(h0, .inr (1, [.ref at_, .ref dg, .int 0])), (at_, .inl (aL, 16, .inr (.inl (va_cpy f f 0 1 0)))), (dg, .inl (aI, 16, .inl (va_cpy g g 0 1 0)))] H := hP
    have hD : va_D A [(h0, .inr (1, [.ref at_, .ref dg, .int 0])), (at_, .inl (aL, 16, .inr (.inl (va_cpy f f 0 1 0)))), (dg, .inl (aI, 16, .inl (va_cpy g g 0 1 0)))] := hD
    refine lv_aload_n hx hb dX1_insert_88 rfl (lv_at hl 0 rfl) ?_
    refine va_get (D := D) (ci := 1) (v := .ref at_) (C := RX1) (T := TX1) (N := 3) hx hb hts n_X1_insert_X1 hown hK hP 0 rfl rfl 0 (by decide) (hts (.fieldLink RX1 9 "FaceMap$Nodes" "at" "[J") (List.mem_of_getElem? (i := 2) rfl)) (fun _ h9 => h9) rfl dX1_insert_89 ?_
    refine lv_iload_n hx hb dX1_insert_92 rfl (lv_at hl 1 rfl) ?_
    refine lv_lload_n hx hb dX1_insert_93 rfl (lv_at hl 2 rfl) ?_
    refine va_last hx hb hK hP hD hS 1 1 rfl rfl (q_ix 0 (by decide) (by decide) (by decide)) dX1_insert_94 (fun H locs hP hD hS => ?_)
    have hP : va_P D q_cl [(h0, .inr (1, [.ref at_, .ref dg, .int 0])), (at_, .inl (aL, 16, .inr (.inl (vp_updL (va_cpy f f 0 1 0) 0 a)))), (dg, .inl (aI, 16, .inl (va_cpy g g 0 1 0)))] H := hP
    have hD : va_D A [(h0, .inr (1, [.ref at_, .ref dg, .int 0])), (at_, .inl (aL, 16, .inr (.inl (vp_updL (va_cpy f f 0 1 0) 0 a)))), (dg, .inl (aI, 16, .inl (va_cpy g g 0 1 0)))] := hD
    refine lv_aload_n hx hb dX1_insert_95 rfl (lv_at hl 0 rfl) ?_
    refine va_get (D := D) (ci := 1) (v := .ref dg) (C := RX1) (T := TX1) (N := 3) hx hb hts n_X1_insert_X1 hown hK hP 0 rfl rfl 1 (by decide) (hts (.fieldLink RX1 13 "FaceMap$Nodes" "degree" "[I") (List.mem_of_getElem? (i := 7) rfl)) (fun _ h9 => h9) rfl dX1_insert_96 ?_
    refine lv_iload_n hx hb dX1_insert_99 rfl (lv_at hl 1 rfl) ?_
    refine lv_iconst (v := 0) hx hb dX1_insert_100 (by decide) ?_
    refine va_iast hx hb hK hP hD hS 2 0 rfl rfl (q_ix 0 (by decide) (by decide) (by decide)) dX1_insert_101 (fun H locs hP hD hS => ?_)
    have hP : va_P D q_cl [(h0, .inr (1, [.ref at_, .ref dg, .int 0])), (at_, .inl (aL, 16, .inr (.inl (vp_updL (va_cpy f f 0 1 0) 0 a)))), (dg, .inl (aI, 16, .inl (upd (va_cpy g g 0 1 0) 0 0)))] H := hP
    have hD : va_D A [(h0, .inr (1, [.ref at_, .ref dg, .int 0])), (at_, .inl (aL, 16, .inr (.inl (vp_updL (va_cpy f f 0 1 0) 0 a)))), (dg, .inl (aI, 16, .inl (upd (va_cpy g g 0 1 0) 0 0)))] := hD
    refine lv_aload_n hx hb dX1_insert_102 rfl (lv_at hl 0 rfl) ?_
    refine lv_dup hx hb dX1_insert_103 rfl ?_
    refine va_get (D := D) (ci := 1) (v := .int 0) (C := RX1) (T := TX1) (N := 3) hx hb hts n_X1_insert_X1 hown hK hP 0 rfl rfl 2 (by decide) (hts (.fieldLink RX1 17 "FaceMap$Nodes" "size" "I") (List.mem_of_getElem? (i := 1) rfl)) (fun _ h9 => h9) rfl dX1_insert_104 ?_
    refine lv_iconst (v := 1) hx hb dX1_insert_107 (by decide) ?_
    refine lv_iadd hx hb dX1_insert_108 ?_
    refine q_vi (v := 1) (by decide) ?_
    refine va_put (D := D) (ci := 1) (v := .int 1) (ty := .int) (C := RX1) (T := TX1) (N := 3) hx hb hts n_X1_insert_X1 tyX1 tyX1_ok nmX1 hown hK hP hD hS 0 rfl rfl 2 (by decide) (hts (.fieldLink RX1 17 "FaceMap$Nodes" "size" "I") (List.mem_of_getElem? (i := 1) rfl)) (fun _ h9 => h9) rfl (by decide +kernel) rfl rfl (Nat.le_of_ble_eq_true rfl) dX1_insert_109 (fun H locs hP hD hS => ?_)
    have hP : va_P D q_cl [(h0, .inr (1, [.ref at_, .ref dg, .int 1])), (at_, .inl (aL, 16, .inr (.inl (vp_updL (va_cpy f f 0 1 0) 0 a)))), (dg, .inl (aI, 16, .inl (upd (va_cpy g g 0 1 0) 0 0)))] H := hP
    have hD : va_D A [(h0, .inr (1, [.ref at_, .ref dg, .int 1])), (at_, .inl (aL, 16, .inr (.inl (vp_updL (va_cpy f f 0 1 0) 0 a)))), (dg, .inl (aI, 16, .inl (upd (va_cpy g g 0 1 0) 0 0)))] := hD
    have hP9 := hP.sub (ws' := [(h0, .inr (1, [.ref at_, .ref dg, .int 1])), (at_, .inl (aL, 16, .inr (.inl (vp_updL (va_cpy f f 0 1 0) 0 a)))), (dg, .inl (aI, 16, .inl (upd (va_cpy g g 0 1 0) 0 0)))]) [0, 1, 2] rfl
    have hD9 := hD.sub (ws' := [(h0, .inr (1, [.ref at_, .ref dg, .int 1])), (at_, .inl (aL, 16, .inr (.inl (vp_updL (va_cpy f f 0 1 0) 0 a)))), (dg, .inl (aI, 16, .inl (upd (va_cpy g g 0 1 0) 0 0)))]) [0, 1, 2] (by decide) rfl
    exact q_retv ((vp_updL (va_cpy f f 0 1 0) 0 a), (upd (va_cpy g g 0 1 0) 0 0)) hx hb hr hlocks hK hP9 hD9 hS (Nat.le_of_ble_eq_true rfl) (Nat.le_of_ble_eq_true rfl) ((by dsimp only; exact pk_uLs)) dX1_insert_112
  · exact absurd c_1 (by decide)
set_option maxHeartbeats 4000000 in
set_option maxRecDepth 100000 in
/-- Nodes.insert, the second, behind the first -/
theorem c_X1_insert_1 (l : Launch) (D : va_G) (aI aL aZ : ClassId) (h0 : Nat) (at_ : Nat) (dg : Nat) (f : Nat → Int64) (g : Nat → Int32) (a : Int64) (sz : Nat) : MV l D q_cl (q_ty aI aL aZ) yX1_insert vsX1_insert 2 0 0 [.ref h0, .int 1, .long a] [(h0, .inr (1, [.ref at_, .ref dg, .int 1])), (at_, .inl (aL, 16, .inr (.inl f))), (dg, .inl (aI, 16, .inl g))] sz (fun (u : (Nat → Int64) × (Nat → Int32)) => True) (fun (u : (Nat → Int64) × (Nat → Int32)) => [(h0, .inr (1, [.ref at_, .ref dg, .int 2])), (at_, .inl (aL, 16, .inr (.inl u.1))), (dg, .inl (aI, 16, .inl u.2))]) := by
  refine q_in cX1_insert 4 none (qQv D q_cl (q_ty aI aL aZ) _ _) (by decide) rfl (Nat.le_of_ble_eq_true rfl) ?_
  intro p e s m args below meth c A ls hat hP hD hS hl
  obtain ⟨hx, hb, hr, hts, hown, hlocks, hml, hin, hK, hN, hA⟩ := hat
  have hown : s.vm.findClass RX1 = some m.cls := hown
  have hl : lv_has ls 4 [(0, .ref h0), (1, .int 1), (2, .long a)] := hl
  refine lv_aload_n hx hb dX1_insert_0 rfl (lv_at hl 0 rfl) ?_
  refine va_get (D := D) (ci := 1) (v := .int 1) (C := RX1) (T := TX1) (N := 3) hx hb hts n_X1_insert_X1 hown hK hP 0 rfl rfl 2 (by decide) (hts (.fieldLink RX1 17 "FaceMap$Nodes" "size" "I") (List.mem_of_getElem? (i := 1) rfl)) (fun _ h9 => h9) rfl dX1_insert_1 ?_
  refine lv_aload_n hx hb dX1_insert_4 rfl (lv_at hl 0 rfl) ?_
  refine va_get (D := D) (ci := 1) (v := .ref at_) (C := RX1) (T := TX1) (N := 3) hx hb hts n_X1_insert_X1 hown hK hP 0 rfl rfl 0 (by decide) (hts (.fieldLink RX1 9 "FaceMap$Nodes" "at" "[J") (List.mem_of_getElem? (i := 2) rfl)) (fun _ h9 => h9) rfl dX1_insert_5 ?_
  refine va_alen (v := 16) hx hb hK hP 1 1 rfl rfl rfl dX1_insert_8 ?_
  refine lv_icmp_ne (tgt := 46) hx hb dX1_insert_9 (by decide) (fun c_1 => ?_) (fun c_1 => ?_)
  · refine lv_aload_n hx hb dX1_insert_46 rfl (lv_at hl 0 rfl) ?_
    refine va_get (D := D) (ci := 1) (v := .ref at_) (C := RX1) (T := TX1) (N := 3) hx hb hts n_X1_insert_X1 hown hK hP 0 rfl rfl 0 (by decide) (hts (.fieldLink RX1 9 "FaceMap$Nodes" "at" "[J") (List.mem_of_getElem? (i := 2) rfl)) (fun _ h9 => h9) rfl dX1_insert_47 ?_
    refine lv_iload_n hx hb dX1_insert_50 rfl (lv_at hl 1 rfl) ?_
    refine lv_aload_n hx hb dX1_insert_51 rfl (lv_at hl 0 rfl) ?_
    refine va_get (D := D) (ci := 1) (v := .ref at_) (C := RX1) (T := TX1) (N := 3) hx hb hts n_X1_insert_X1 hown hK hP 0 rfl rfl 0 (by decide) (hts (.fieldLink RX1 9 "FaceMap$Nodes" "at" "[J") (List.mem_of_getElem? (i := 2) rfl)) (fun _ h9 => h9) rfl dX1_insert_52 ?_
    refine lv_iload_n hx hb dX1_insert_55 rfl (lv_at hl 1 rfl) ?_
    refine lv_iconst (v := 1) hx hb dX1_insert_56 (by decide) ?_
    refine lv_iadd hx hb dX1_insert_57 ?_
    refine q_vi (v := 2) (by decide) ?_
    refine lv_aload_n hx hb dX1_insert_58 rfl (lv_at hl 0 rfl) ?_
    refine va_get (D := D) (ci := 1) (v := .int 1) (C := RX1) (T := TX1) (N := 3) hx hb hts n_X1_insert_X1 hown hK hP 0 rfl rfl 2 (by decide) (hts (.fieldLink RX1 17 "FaceMap$Nodes" "size" "I") (List.mem_of_getElem? (i := 1) rfl)) (fun _ h9 => h9) rfl dX1_insert_59 ?_
    refine lv_iload_n hx hb dX1_insert_62 rfl (lv_at hl 1 rfl) ?_
    refine lv_isub hx hb dX1_insert_63 ?_
    refine q_vi (v := 0) (by decide) ?_
    refine va_copyl hx hb (by rw [hml]; exact hl.1.symm) hown (hts (.methodLink RX1 42 arraycopyName) (List.mem_of_getElem? (i := 3) rfl)) (hts (.native arraycopyName) (List.mem_of_getElem? (i := 4) rfl)) (hts (.static arraycopyName) (List.mem_of_getElem? (i := 5) rfl)) (hts (.initialized "java/lang/System") (List.mem_of_getElem? (i := 6) rfl)) hK hP hD hS 1 1 1 1 rfl rfl rfl rfl rfl (by decide) (by decide) (by decide) (by decide) (by decide) (fun i hi => absurd (sb_cl0 ▸ hi) (Nat.not_lt_zero i)) (Nat.le_of_ble_eq_true rfl) (Nat.le_of_ble_eq_true rfl) dX1_insert_64 (fun H locs hP hD hS => ?_)
    have hP : va_P D q_cl [(h0, .inr (1, [.ref at_, .ref dg, .int 1])), (at_, .inl (aL, 16, .inr (.inl (va_cpy f f 1 2 0)))), (dg, .inl (aI, 16, .inl g))] H := hP
    have hD : va_D A [(h0, .inr (1, [.ref at_, .ref dg, .int 1])), (at_, .inl (aL, 16, .inr (.inl (va_cpy f f 1 2 0)))), (dg, .inl (aI, 16, .inl g))] := hD
    refine lv_aload_n hx hb dX1_insert_67 rfl (lv_at hl 0 rfl) ?_
    refine va_get (D := D) (ci := 1) (v := .ref dg) (C := RX1) (T := TX1) (N := 3) hx hb hts n_X1_insert_X1 hown hK hP 0 rfl rfl 1 (by decide) (hts (.fieldLink RX1 13 "FaceMap$Nodes" "degree" "[I") (List.mem_of_getElem? (i := 7) rfl)) (fun _ h9 => h9) rfl dX1_insert_68 ?_
    refine lv_iload_n hx hb dX1_insert_71 rfl (lv_at hl 1 rfl) ?_
    refine lv_aload_n hx hb dX1_insert_72 rfl (lv_at hl 0 rfl) ?_
    refine va_get (D := D) (ci := 1) (v := .ref dg) (C := RX1) (T := TX1) (N := 3) hx hb hts n_X1_insert_X1 hown hK hP 0 rfl rfl 1 (by decide) (hts (.fieldLink RX1 13 "FaceMap$Nodes" "degree" "[I") (List.mem_of_getElem? (i := 7) rfl)) (fun _ h9 => h9) rfl dX1_insert_73 ?_
    refine lv_iload_n hx hb dX1_insert_76 rfl (lv_at hl 1 rfl) ?_
    refine lv_iconst (v := 1) hx hb dX1_insert_77 (by decide) ?_
    refine lv_iadd hx hb dX1_insert_78 ?_
    refine q_vi (v := 2) (by decide) ?_
    refine lv_aload_n hx hb dX1_insert_79 rfl (lv_at hl 0 rfl) ?_
    refine va_get (D := D) (ci := 1) (v := .int 1) (C := RX1) (T := TX1) (N := 3) hx hb hts n_X1_insert_X1 hown hK hP 0 rfl rfl 2 (by decide) (hts (.fieldLink RX1 17 "FaceMap$Nodes" "size" "I") (List.mem_of_getElem? (i := 1) rfl)) (fun _ h9 => h9) rfl dX1_insert_80 ?_
    refine lv_iload_n hx hb dX1_insert_83 rfl (lv_at hl 1 rfl) ?_
    refine lv_isub hx hb dX1_insert_84 ?_
    refine q_vi (v := 0) (by decide) ?_
    refine va_copyi hx hb (by rw [hml]; exact hl.1.symm) hown (hts (.methodLink RX1 42 arraycopyName) (List.mem_of_getElem? (i := 3) rfl)) (hts (.native arraycopyName) (List.mem_of_getElem? (i := 4) rfl)) (hts (.static arraycopyName) (List.mem_of_getElem? (i := 5) rfl)) (hts (.initialized "java/lang/System") (List.mem_of_getElem? (i := 6) rfl)) hK hP hD hS 2 2 0 0 rfl rfl rfl rfl rfl (by decide) (by decide) (by decide) (by decide) (by decide) (fun i hi => absurd (sb_cl0 ▸ hi) (Nat.not_lt_zero i)) (Nat.le_of_ble_eq_true rfl) (Nat.le_of_ble_eq_true rfl) dX1_insert_85 (fun H locs hP hD hS => ?_)
    have hP : va_P D q_cl [(h0, .inr (1, [.ref at_, .ref dg, .int 1])), (at_, .inl (aL, 16, .inr (.inl (va_cpy f f 1 2 0)))), (dg, .inl (aI, 16, .inl (va_cpy g g 1 2 0)))] H := hP
    have hD : va_D A [(h0, .inr (1, [.ref at_, .ref dg, .int 1])), (at_, .inl (aL, 16, .inr (.inl (va_cpy f f 1 2 0)))), (dg, .inl (aI, 16, .inl (va_cpy g g 1 2 0)))] := hD
    refine lv_aload_n hx hb dX1_insert_88 rfl (lv_at hl 0 rfl) ?_
    refine va_get (D := D) (ci := 1) (v := .ref at_) (C := RX1) (T := TX1) (N := 3) hx hb hts n_X1_insert_X1 hown hK hP 0 rfl rfl 0 (by decide) (hts (.fieldLink RX1 9 "FaceMap$Nodes" "at" "[J") (List.mem_of_getElem? (i := 2) rfl)) (fun _ h9 => h9) rfl dX1_insert_89 ?_
    refine lv_iload_n hx hb dX1_insert_92 rfl (lv_at hl 1 rfl) ?_
    refine lv_lload_n hx hb dX1_insert_93 rfl (lv_at hl 2 rfl) ?_
    refine va_last hx hb hK hP hD hS 1 1 rfl rfl (q_ix 1 (by decide) (by decide) (by decide)) dX1_insert_94 (fun H locs hP hD hS => ?_)
    have hP : va_P D q_cl [(h0, .inr (1, [.ref at_, .ref dg, .int 1])), (at_, .inl (aL, 16, .inr (.inl (vp_updL (va_cpy f f 1 2 0) 1 a)))), (dg, .inl (aI, 16, .inl (va_cpy g g 1 2 0)))] H := hP
    have hD : va_D A [(h0, .inr (1, [.ref at_, .ref dg, .int 1])), (at_, .inl (aL, 16, .inr (.inl (vp_updL (va_cpy f f 1 2 0) 1 a)))), (dg, .inl (aI, 16, .inl (va_cpy g g 1 2 0)))] := hD
    refine lv_aload_n hx hb dX1_insert_95 rfl (lv_at hl 0 rfl) ?_
    refine va_get (D := D) (ci := 1) (v := .ref dg) (C := RX1) (T := TX1) (N := 3) hx hb hts n_X1_insert_X1 hown hK hP 0 rfl rfl 1 (by decide) (hts (.fieldLink RX1 13 "FaceMap$Nodes" "degree" "[I") (List.mem_of_getElem? (i := 7) rfl)) (fun _ h9 => h9) rfl dX1_insert_96 ?_
    refine lv_iload_n hx hb dX1_insert_99 rfl (lv_at hl 1 rfl) ?_
    refine lv_iconst (v := 0) hx hb dX1_insert_100 (by decide) ?_
    refine va_iast hx hb hK hP hD hS 2 0 rfl rfl (q_ix 1 (by decide) (by decide) (by decide)) dX1_insert_101 (fun H locs hP hD hS => ?_)
    have hP : va_P D q_cl [(h0, .inr (1, [.ref at_, .ref dg, .int 1])), (at_, .inl (aL, 16, .inr (.inl (vp_updL (va_cpy f f 1 2 0) 1 a)))), (dg, .inl (aI, 16, .inl (upd (va_cpy g g 1 2 0) 1 0)))] H := hP
    have hD : va_D A [(h0, .inr (1, [.ref at_, .ref dg, .int 1])), (at_, .inl (aL, 16, .inr (.inl (vp_updL (va_cpy f f 1 2 0) 1 a)))), (dg, .inl (aI, 16, .inl (upd (va_cpy g g 1 2 0) 1 0)))] := hD
    refine lv_aload_n hx hb dX1_insert_102 rfl (lv_at hl 0 rfl) ?_
    refine lv_dup hx hb dX1_insert_103 rfl ?_
    refine va_get (D := D) (ci := 1) (v := .int 1) (C := RX1) (T := TX1) (N := 3) hx hb hts n_X1_insert_X1 hown hK hP 0 rfl rfl 2 (by decide) (hts (.fieldLink RX1 17 "FaceMap$Nodes" "size" "I") (List.mem_of_getElem? (i := 1) rfl)) (fun _ h9 => h9) rfl dX1_insert_104 ?_
    refine lv_iconst (v := 1) hx hb dX1_insert_107 (by decide) ?_
    refine lv_iadd hx hb dX1_insert_108 ?_
    refine q_vi (v := 2) (by decide) ?_
    refine va_put (D := D) (ci := 1) (v := .int 2) (ty := .int) (C := RX1) (T := TX1) (N := 3) hx hb hts n_X1_insert_X1 tyX1 tyX1_ok nmX1 hown hK hP hD hS 0 rfl rfl 2 (by decide) (hts (.fieldLink RX1 17 "FaceMap$Nodes" "size" "I") (List.mem_of_getElem? (i := 1) rfl)) (fun _ h9 => h9) rfl (by decide +kernel) rfl rfl (Nat.le_of_ble_eq_true rfl) dX1_insert_109 (fun H locs hP hD hS => ?_)
    have hP : va_P D q_cl [(h0, .inr (1, [.ref at_, .ref dg, .int 2])), (at_, .inl (aL, 16, .inr (.inl (vp_updL (va_cpy f f 1 2 0) 1 a)))), (dg, .inl (aI, 16, .inl (upd (va_cpy g g 1 2 0) 1 0)))] H := hP
    have hD : va_D A [(h0, .inr (1, [.ref at_, .ref dg, .int 2])), (at_, .inl (aL, 16, .inr (.inl (vp_updL (va_cpy f f 1 2 0) 1 a)))), (dg, .inl (aI, 16, .inl (upd (va_cpy g g 1 2 0) 1 0)))] := hD
    have hP9 := hP.sub (ws' := [(h0, .inr (1, [.ref at_, .ref dg, .int 2])), (at_, .inl (aL, 16, .inr (.inl (vp_updL (va_cpy f f 1 2 0) 1 a)))), (dg, .inl (aI, 16, .inl (upd (va_cpy g g 1 2 0) 1 0)))]) [0, 1, 2] rfl
    have hD9 := hD.sub (ws' := [(h0, .inr (1, [.ref at_, .ref dg, .int 2])), (at_, .inl (aL, 16, .inr (.inl (vp_updL (va_cpy f f 1 2 0) 1 a)))), (dg, .inl (aI, 16, .inl (upd (va_cpy g g 1 2 0) 1 0)))]) [0, 1, 2] (by decide) rfl
    exact q_retv ((vp_updL (va_cpy f f 1 2 0) 1 a), (upd (va_cpy g g 1 2 0) 1 0)) hx hb hr hlocks hK hP9 hD9 hS (Nat.le_of_ble_eq_true rfl) (Nat.le_of_ble_eq_true rfl) (trivial) dX1_insert_112
  · exact absurd c_1 (by decide)
def vsX1_addEnd : List Cond := .code yX1_addEnd cX1_addEnd 4 none :: ([.fieldLink RX1 13 "FaceMap$Nodes" "degree" "[I", .methodLink RX1 21 yX1_rank, .instanceMethod yX1_rank, .selects RX1 yX1_rank yX1_rank, .initialized RX1, .code yX1_rank cX1_rank 6 (some .int), .fieldLink RX1 17 "FaceMap$Nodes" "size" "I", .fieldLink RX1 9 "FaceMap$Nodes" "at" "[J", .methodLink RX1 25 yX1_isAt, .instanceMethod yX1_isAt, .selects RX1 yX1_isAt yX1_isAt, .code yX1_isAt cX1_isAt 4 (some .boolean), .methodLink RX1 29 yX1_insert, .instanceMethod yX1_insert, .selects RX1 yX1_insert yX1_insert, .code yX1_insert cX1_insert 4 none, .methodLink RX1 42 arraycopyName, .native arraycopyName, .static arraycopyName, .initialized "java/lang/System"] ++ wsX10)
set_option maxRecDepth 20000 in
theorem g_X1_addEnd_X1_rank_21 : GoodIn vsX1_addEnd (wsV RX1 21 RX1 yX1_rank vsX1_rank) := goodIn_r _ [2, 3, 4, 5, 6, 7, 8, 21, 22, 23] rfl (by decide +kernel)
set_option maxRecDepth 20000 in
theorem g_X1_addEnd_X1_isAt_25 : GoodIn vsX1_addEnd (wsV RX1 25 RX1 yX1_isAt vsX1_isAt) := goodIn_r _ [9, 10, 11, 5, 12, 7, 21, 22, 23] rfl (by decide +kernel)
set_option maxRecDepth 20000 in
theorem g_X1_addEnd_X1_insert_29 : GoodIn vsX1_addEnd (wsV RX1 29 RX1 yX1_insert vsX1_insert) := goodIn_r _ [13, 14, 15, 5, 16, 7, 8, 17, 18, 19, 20, 1, 21, 22, 23] rfl (by decide +kernel)
set_option maxRecDepth 20000 in
theorem n_X1_addEnd_X1 : ∀ w ∈ wsX10, w ∈ vsX1_addEnd := fun _ h => List.mem_cons_of_mem _ (List.mem_append_right _ h)
set_option maxHeartbeats 4000000 in
set_option maxRecDepth 100000 in
/-- Nodes.addEnd, the first -/
theorem c_X1_addEnd_0 (l : Launch) (D : va_G) (aI aL aZ : ClassId) (h0 : Nat) (at_ : Nat) (dg : Nat) (f : Nat → Int64) (g : Nat → Int32) (a : Int64) (sz : Nat) : MV l D q_cl (q_ty aI aL aZ) yX1_addEnd vsX1_addEnd 3 0 0 [.ref h0, .long a] [(h0, .inr (1, [.ref at_, .ref dg, .int 0])), (at_, .inl (aL, 16, .inr (.inl f))), (dg, .inl (aI, 16, .inl g))] sz (fun (u : (Nat → Int64) × (Nat → Int32)) => u.1 0 = a) (fun (u : (Nat → Int64) × (Nat → Int32)) => [(h0, .inr (1, [.ref at_, .ref dg, .int 1])), (at_, .inl (aL, 16, .inr (.inl u.1))), (dg, .inl (aI, 16, .inl u.2))]) := by
  refine q_in cX1_addEnd 4 none (qQv D q_cl (q_ty aI aL aZ) _ _) (by decide) rfl (Nat.le_of_ble_eq_true rfl) ?_
  intro p e s m args below meth c A ls hat hP hD hS hl
  obtain ⟨hx, hb, hr, hts, hown, hlocks, hml, hin, hK, hN, hA⟩ := hat
  have hown : s.vm.findClass RX1 = some m.cls := hown
  have hl : lv_has ls 4 [(0, .ref h0), (1, .long a)] := hl
  refine lv_aload_n hx hb dX1_addEnd_0 rfl (lv_at hl 0 rfl) ?_
  refine lv_lload_n hx hb dX1_addEnd_1 rfl (lv_at hl 1 rfl) ?_
  refine q_i (wr := [(at_, .inl (aL, 16, .inr (.inl f))), (dg, .inl (aI, 16, .inl g))]) (q_runV (As := [.long a]) (rest := []) ⟨hx, hb, hml, hown, hts⟩ (c_X1_rank_0 l D aI aL aZ h0 at_ dg a _) (cwV 1 hts g_X1_addEnd_X1_rank_21 rfl rfl rfl (by decide +kernel) ⟨Nat.le_of_ble_eq_true rfl, Nat.le_of_ble_eq_true rfl⟩) hK hN hP hD [0] rfl (by decide) rfl rfl rfl hl.1 rfl (Nat.le_of_ble_eq_true rfl) dX1_addEnd_2 ⟨Nat.le_of_ble_eq_true rfl, Nat.le_of_ble_eq_true rfl⟩) hP hD hS hA [0] [1, 2] rfl rfl (by decide) (by decide) (fun r_1 u_1 H locs hw hP hD hS => ?_)
  subst hw
  have hP : va_P D q_cl [(at_, .inl (aL, 16, .inr (.inl f))), (dg, .inl (aI, 16, .inl g)), (h0, .inr (1, [.ref at_, .ref dg, .int 0]))] H := hP
  have hD : va_D A [(at_, .inl (aL, 16, .inr (.inl f))), (dg, .inl (aI, 16, .inl g)), (h0, .inr (1, [.ref at_, .ref dg, .int 0]))] := hD
  refine lv_istore_n (lv' := [(3, .int 0), (0, .ref h0), (1, .long a)]) hx hb dX1_addEnd_5 rfl hl (by decide) rfl (fun ls hl => ?_)
  refine lv_aload_n hx hb dX1_addEnd_6 rfl (lv_at hl 1 rfl) ?_
  refine lv_iload_n hx hb dX1_addEnd_7 rfl (lv_at hl 0 rfl) ?_
  refine lv_lload_n hx hb dX1_addEnd_8 rfl (lv_at hl 2 rfl) ?_
  refine q_i (wr := [(at_, .inl (aL, 16, .inr (.inl f))), (dg, .inl (aI, 16, .inl g))]) (q_runV (As := [.int 0, .long a]) (rest := []) ⟨hx, hb, hml, hown, hts⟩ (c_X1_isAt_0 l D aI aL aZ h0 at_ dg a _) (cwV 2 hts g_X1_addEnd_X1_isAt_25 rfl rfl rfl (by decide +kernel) ⟨Nat.le_of_ble_eq_true rfl, Nat.le_of_ble_eq_true rfl⟩) hK hN hP hD [2] rfl (by decide) rfl rfl rfl hl.1 rfl (Nat.le_of_ble_eq_true rfl) dX1_addEnd_9 ⟨Nat.le_of_ble_eq_true rfl, Nat.le_of_ble_eq_true rfl⟩) hP hD hS hA [2] [0, 1] rfl rfl (by decide) (by decide) (fun r_2 u_2 H locs hw hP hD hS => ?_)
  subst hw
  have hP : va_P D q_cl [(at_, .inl (aL, 16, .inr (.inl f))), (dg, .inl (aI, 16, .inl g)), (h0, .inr (1, [.ref at_, .ref dg, .int 0]))] H := hP
  have hD : va_D A [(at_, .inl (aL, 16, .inr (.inl f))), (dg, .inl (aI, 16, .inl g)), (h0, .inr (1, [.ref at_, .ref dg, .int 0]))] := hD
  refine lv_if_ne (tgt := 21) hx hb dX1_addEnd_12 (by decide) (fun c_3 => ?_) (fun c_3 => ?_)
  · exact absurd c_3 (by decide)
  · refine lv_aload_n hx hb dX1_addEnd_15 rfl (lv_at hl 1 rfl) ?_
    refine lv_iload_n hx hb dX1_addEnd_16 rfl (lv_at hl 0 rfl) ?_
    refine lv_lload_n hx hb dX1_addEnd_17 rfl (lv_at hl 2 rfl) ?_
    refine q_v (wr := []) (q_runV (As := [.int 0, .long a]) (rest := []) ⟨hx, hb, hml, hown, hts⟩ (c_X1_insert_0 l D aI aL aZ h0 at_ dg f g a _) (cwV 2 hts g_X1_addEnd_X1_insert_29 rfl rfl rfl (by decide +kernel) ⟨Nat.le_of_ble_eq_true rfl, Nat.le_of_ble_eq_true rfl⟩) hK hN hP hD [2, 0, 1] rfl (by decide) rfl rfl rfl hl.1 rfl (Nat.le_of_ble_eq_true rfl) dX1_addEnd_18 ⟨Nat.le_of_ble_eq_true rfl, Nat.le_of_ble_eq_true rfl⟩) hP hD hS hA [2, 0, 1] [] rfl rfl (by decide) (by decide) (fun u_4 H locs hw hP hD hS => ?_)
    obtain ⟨f2_4, g2_4⟩ := u_4
    have f4_0 := hw
    have hP : va_P D q_cl [(h0, .inr (1, [.ref at_, .ref dg, .int 1])), (at_, .inl (aL, 16, .inr (.inl f2_4))), (dg, .inl (aI, 16, .inl g2_4))] H := hP
    have hD : va_D A [(h0, .inr (1, [.ref at_, .ref dg, .int 1])), (at_, .inl (aL, 16, .inr (.inl f2_4))), (dg, .inl (aI, 16, .inl g2_4))] := hD
    refine lv_aload_n hx hb dX1_addEnd_21 rfl (lv_at hl 1 rfl) ?_
    refine va_get (D := D) (ci := 1) (v := .ref dg) (C := RX1) (T := TX1) (N := 3) hx hb hts n_X1_addEnd_X1 hown hK hP 0 rfl rfl 1 (by decide) (hts (.fieldLink RX1 13 "FaceMap$Nodes" "degree" "[I") (List.mem_of_getElem? (i := 1) rfl)) (fun _ h9 => h9) rfl dX1_addEnd_22 ?_
    refine lv_iload_n hx hb dX1_addEnd_25 rfl (lv_at hl 0 rfl) ?_
    refine lv_dup2_11 hx hb dX1_addEnd_26 rfl rfl ?_
    refine va_iald hx hb hK hP 2 0 rfl rfl (q_ix 0 (by decide) (by decide) (by decide)) dX1_addEnd_27 ?_
    refine q_vi (v := (g2_4 0)) rfl ?_
    refine lv_iconst (v := 1) hx hb dX1_addEnd_28 (by decide) ?_
    refine lv_iadd hx hb dX1_addEnd_29 ?_
    refine va_iast hx hb hK hP hD hS 2 0 rfl rfl (q_ix 0 (by decide) (by decide) (by decide)) dX1_addEnd_30 (fun H locs hP hD hS => ?_)
    have hP : va_P D q_cl [(h0, .inr (1, [.ref at_, .ref dg, .int 1])), (at_, .inl (aL, 16, .inr (.inl f2_4))), (dg, .inl (aI, 16, .inl (upd g2_4 0 ((g2_4 0) + 1))))] H := hP
    have hD : va_D A [(h0, .inr (1, [.ref at_, .ref dg, .int 1])), (at_, .inl (aL, 16, .inr (.inl f2_4))), (dg, .inl (aI, 16, .inl (upd g2_4 0 ((g2_4 0) + 1))))] := hD
    have hP9 := hP.sub (ws' := [(h0, .inr (1, [.ref at_, .ref dg, .int 1])), (at_, .inl (aL, 16, .inr (.inl f2_4))), (dg, .inl (aI, 16, .inl (upd g2_4 0 ((g2_4 0) + 1))))]) [0, 1, 2] rfl
    have hD9 := hD.sub (ws' := [(h0, .inr (1, [.ref at_, .ref dg, .int 1])), (at_, .inl (aL, 16, .inr (.inl f2_4))), (dg, .inl (aI, 16, .inl (upd g2_4 0 ((g2_4 0) + 1))))]) [0, 1, 2] (by decide) rfl
    exact q_retv (f2_4, (upd g2_4 0 ((g2_4 0) + 1))) hx hb hr hlocks hK hP9 hD9 hS (Nat.le_of_ble_eq_true rfl) (Nat.le_of_ble_eq_true rfl) ((by first | assumption | decide | omega | simp_all)) dX1_addEnd_31
set_option maxHeartbeats 4000000 in
set_option maxRecDepth 100000 in
/-- Nodes.addEnd, the second, beyond the first -/
theorem c_X1_addEnd_1 (l : Launch) (D : va_G) (aI aL aZ : ClassId) (h0 : Nat) (at_ : Nat) (dg : Nat) (f : Nat → Int64) (g : Nat → Int32) (b : Int64) (a : Int64) (hf : f 0 = b) (hba : b < a) (sz : Nat) : MV l D q_cl (q_ty aI aL aZ) yX1_addEnd vsX1_addEnd 3 0 0 [.ref h0, .long a] [(h0, .inr (1, [.ref at_, .ref dg, .int 1])), (at_, .inl (aL, 16, .inr (.inl f))), (dg, .inl (aI, 16, .inl g))] sz (fun (u : Unit) => True) (fun (u : Unit) => [(h0, .inr (1, [.ref at_, .ref dg, .int 2]))]) := by
  refine q_in cX1_addEnd 4 none (qQv D q_cl (q_ty aI aL aZ) _ _) (by decide) rfl (Nat.le_of_ble_eq_true rfl) ?_
  intro p e s m args below meth c A ls hat hP hD hS hl
  obtain ⟨hx, hb, hr, hts, hown, hlocks, hml, hin, hK, hN, hA⟩ := hat
  have hown : s.vm.findClass RX1 = some m.cls := hown
  have hl : lv_has ls 4 [(0, .ref h0), (1, .long a)] := hl
  refine lv_aload_n hx hb dX1_addEnd_0 rfl (lv_at hl 0 rfl) ?_
  refine lv_lload_n hx hb dX1_addEnd_1 rfl (lv_at hl 1 rfl) ?_
  refine q_i (wr := [(dg, .inl (aI, 16, .inl g))]) (q_runV (As := [.long a]) (rest := []) ⟨hx, hb, hml, hown, hts⟩ (c_X1_rank_1 l D aI aL aZ h0 at_ dg f b a hf hba _) (cwV 1 hts g_X1_addEnd_X1_rank_21 rfl rfl rfl (by decide +kernel) ⟨Nat.le_of_ble_eq_true rfl, Nat.le_of_ble_eq_true rfl⟩) hK hN hP hD [0, 1] rfl (by decide) rfl rfl rfl hl.1 rfl (Nat.le_of_ble_eq_true rfl) dX1_addEnd_2 ⟨Nat.le_of_ble_eq_true rfl, Nat.le_of_ble_eq_true rfl⟩) hP hD hS hA [0, 1] [2] rfl rfl (by decide) (by decide) (fun r_1 u_1 H locs hw hP hD hS => ?_)
  subst hw
  have hP : va_P D q_cl [(dg, .inl (aI, 16, .inl g)), (h0, .inr (1, [.ref at_, .ref dg, .int 1])), (at_, .inl (aL, 16, .inr (.inl f)))] H := hP
  have hD : va_D A [(dg, .inl (aI, 16, .inl g)), (h0, .inr (1, [.ref at_, .ref dg, .int 1])), (at_, .inl (aL, 16, .inr (.inl f)))] := hD
  refine lv_istore_n (lv' := [(3, .int 1), (0, .ref h0), (1, .long a)]) hx hb dX1_addEnd_5 rfl hl (by decide) rfl (fun ls hl => ?_)
  refine lv_aload_n hx hb dX1_addEnd_6 rfl (lv_at hl 1 rfl) ?_
  refine lv_iload_n hx hb dX1_addEnd_7 rfl (lv_at hl 0 rfl) ?_
  refine lv_lload_n hx hb dX1_addEnd_8 rfl (lv_at hl 2 rfl) ?_
  refine q_i (wr := [(dg, .inl (aI, 16, .inl g)), (at_, .inl (aL, 16, .inr (.inl f)))]) (q_runV (As := [.int 1, .long a]) (rest := []) ⟨hx, hb, hml, hown, hts⟩ (c_X1_isAt_1 l D aI aL aZ h0 at_ dg a _) (cwV 2 hts g_X1_addEnd_X1_isAt_25 rfl rfl rfl (by decide +kernel) ⟨Nat.le_of_ble_eq_true rfl, Nat.le_of_ble_eq_true rfl⟩) hK hN hP hD [1] rfl (by decide) rfl rfl rfl hl.1 rfl (Nat.le_of_ble_eq_true rfl) dX1_addEnd_9 ⟨Nat.le_of_ble_eq_true rfl, Nat.le_of_ble_eq_true rfl⟩) hP hD hS hA [1] [0, 2] rfl rfl (by decide) (by decide) (fun r_2 u_2 H locs hw hP hD hS => ?_)
  subst hw
  have hP : va_P D q_cl [(dg, .inl (aI, 16, .inl g)), (at_, .inl (aL, 16, .inr (.inl f))), (h0, .inr (1, [.ref at_, .ref dg, .int 1]))] H := hP
  have hD : va_D A [(dg, .inl (aI, 16, .inl g)), (at_, .inl (aL, 16, .inr (.inl f))), (h0, .inr (1, [.ref at_, .ref dg, .int 1]))] := hD
  refine lv_if_ne (tgt := 21) hx hb dX1_addEnd_12 (by decide) (fun c_3 => ?_) (fun c_3 => ?_)
  · exact absurd c_3 (by decide)
  · refine lv_aload_n hx hb dX1_addEnd_15 rfl (lv_at hl 1 rfl) ?_
    refine lv_iload_n hx hb dX1_addEnd_16 rfl (lv_at hl 0 rfl) ?_
    refine lv_lload_n hx hb dX1_addEnd_17 rfl (lv_at hl 2 rfl) ?_
    refine q_v (wr := []) (q_runV (As := [.int 1, .long a]) (rest := []) ⟨hx, hb, hml, hown, hts⟩ (c_X1_insert_1 l D aI aL aZ h0 at_ dg f g a _) (cwV 2 hts g_X1_addEnd_X1_insert_29 rfl rfl rfl (by decide +kernel) ⟨Nat.le_of_ble_eq_true rfl, Nat.le_of_ble_eq_true rfl⟩) hK hN hP hD [2, 1, 0] rfl (by decide) rfl rfl rfl hl.1 rfl (Nat.le_of_ble_eq_true rfl) dX1_addEnd_18 ⟨Nat.le_of_ble_eq_true rfl, Nat.le_of_ble_eq_true rfl⟩) hP hD hS hA [2, 1, 0] [] rfl rfl (by decide) (by decide) (fun u_4 H locs hw hP hD hS => ?_)
    obtain ⟨f2_4, g2_4⟩ := u_4
    have hP : va_P D q_cl [(h0, .inr (1, [.ref at_, .ref dg, .int 2])), (at_, .inl (aL, 16, .inr (.inl f2_4))), (dg, .inl (aI, 16, .inl g2_4))] H := hP
    have hD : va_D A [(h0, .inr (1, [.ref at_, .ref dg, .int 2])), (at_, .inl (aL, 16, .inr (.inl f2_4))), (dg, .inl (aI, 16, .inl g2_4))] := hD
    refine lv_aload_n hx hb dX1_addEnd_21 rfl (lv_at hl 1 rfl) ?_
    refine va_get (D := D) (ci := 1) (v := .ref dg) (C := RX1) (T := TX1) (N := 3) hx hb hts n_X1_addEnd_X1 hown hK hP 0 rfl rfl 1 (by decide) (hts (.fieldLink RX1 13 "FaceMap$Nodes" "degree" "[I") (List.mem_of_getElem? (i := 1) rfl)) (fun _ h9 => h9) rfl dX1_addEnd_22 ?_
    refine lv_iload_n hx hb dX1_addEnd_25 rfl (lv_at hl 0 rfl) ?_
    refine lv_dup2_11 hx hb dX1_addEnd_26 rfl rfl ?_
    refine va_iald hx hb hK hP 2 0 rfl rfl (q_ix 1 (by decide) (by decide) (by decide)) dX1_addEnd_27 ?_
    refine q_vi (v := (g2_4 1)) rfl ?_
    refine lv_iconst (v := 1) hx hb dX1_addEnd_28 (by decide) ?_
    refine lv_iadd hx hb dX1_addEnd_29 ?_
    refine va_iast hx hb hK hP hD hS 2 0 rfl rfl (q_ix 1 (by decide) (by decide) (by decide)) dX1_addEnd_30 (fun H locs hP hD hS => ?_)
    have hP : va_P D q_cl [(h0, .inr (1, [.ref at_, .ref dg, .int 2])), (at_, .inl (aL, 16, .inr (.inl f2_4))), (dg, .inl (aI, 16, .inl (upd g2_4 1 ((g2_4 1) + 1))))] H := hP
    have hD : va_D A [(h0, .inr (1, [.ref at_, .ref dg, .int 2])), (at_, .inl (aL, 16, .inr (.inl f2_4))), (dg, .inl (aI, 16, .inl (upd g2_4 1 ((g2_4 1) + 1))))] := hD
    have hP9 := hP.sub (ws' := [(h0, .inr (1, [.ref at_, .ref dg, .int 2]))]) [0] rfl
    have hD9 := hD.sub (ws' := [(h0, .inr (1, [.ref at_, .ref dg, .int 2]))]) [0] (by decide) rfl
    exact q_retv () hx hb hr hlocks hK hP9 hD9 hS (Nat.le_of_ble_eq_true rfl) (Nat.le_of_ble_eq_true rfl) (trivial) dX1_addEnd_31
end
section
def vsX4_makeRows : List Cond := .code yX4_makeRows cX4_makeRows 2 none :: ([.arrayClass .int, .fieldLink RX4 27 "FaceMap$Sweep" "crossed" "[I", .fieldLink RX4 31 "FaceMap$Sweep" "around" "[I", .fieldLink RX4 34 "FaceMap$Sweep" "next" "[I", .fieldLink RX4 37 "FaceMap$Sweep" "below" "[I"] ++ wsX40)
set_option maxRecDepth 20000 in
theorem n_X4_makeRows_X4 : ∀ w ∈ wsX40, w ∈ vsX4_makeRows := fun _ h => List.mem_cons_of_mem _ (List.mem_append_right _ h)
set_option maxHeartbeats 4000000 in
set_option maxRecDepth 100000 in
/-- Sweep.makeRows -/
theorem c_X4_makeRows (l : Launch) (D : va_G) (aI aL aZ : ClassId) (h0 : Nat) (p1 : Nat) (p2 : Nat) (sz : Nat) : MV l D q_cl (q_ty aI aL aZ) yX4_makeRows vsX4_makeRows 0 4 48 [.ref h0, .int 8] [(h0, .inr (3, [.ref p1, .ref p2, .int 0, .null, .int 0, .null, .null, .null]))] sz (fun (u : Unit) => True) (fun (u : Unit) => ([] : va_W)) := by
  refine q_in cX4_makeRows 2 none (qQv D q_cl (q_ty aI aL aZ) _ _) (by decide) rfl (Nat.le_of_ble_eq_true rfl) ?_
  intro p e s m args below meth c A ls hat hP hD hS hl
  obtain ⟨hx, hb, hr, hts, hown, hlocks, hml, hin, hK, hN, hA⟩ := hat
  have hown : s.vm.findClass RX4 = some m.cls := hown
  have hl : lv_has ls 2 [(0, .ref h0), (1, .int 8)] := hl
  refine lv_aload_n hx hb dX4_makeRows_0 rfl (lv_at hl 0 rfl) ?_
  refine lv_iload_n hx hb dX4_makeRows_1 rfl (lv_at hl 1 rfl) ?_
  refine q_newI 8 hx hb (hts (.arrayClass .int) (List.mem_of_getElem? (i := 1) rfl)) hK hP hD hS hA 0 rfl (by decide) (by decide) (by decide) (Nat.le_of_ble_eq_true rfl) (Nat.le_of_ble_eq_true rfl) dX4_makeRows_2 (fun q1 H hP hD hS => ?_)
  have hP : va_P D q_cl [(h0, .inr (3, [.ref p1, .ref p2, .int 0, .null, .int 0, .null, .null, .null])), (q1, .inl (aI, 8, .inl (fun _ => 0)))] H := hP
  have hD : va_D A [(h0, .inr (3, [.ref p1, .ref p2, .int 0, .null, .int 0, .null, .null, .null])), (q1, .inl (aI, 8, .inl (fun _ => 0)))] := hD
  refine va_put (D := D) (ci := 3) (v := .ref q1) (ty := (.array .int)) (C := RX4) (T := TX4) (N := 8) hx hb hts n_X4_makeRows_X4 tyX4 tyX4_ok nmX4 hown hK hP hD hS 0 rfl rfl 3 (by decide) (hts (.fieldLink RX4 27 "FaceMap$Sweep" "crossed" "[I") (List.mem_of_getElem? (i := 2) rfl)) (fun _ h9 => h9) rfl (by decide +kernel) rfl rfl (Nat.le_of_ble_eq_true rfl) dX4_makeRows_4 (fun H locs hP hD hS => ?_)
  have hP : va_P D q_cl [(h0, .inr (3, [.ref p1, .ref p2, .int 0, .ref q1, .int 0, .null, .null, .null])), (q1, .inl (aI, 8, .inl (fun _ => 0)))] H := hP
  have hD : va_D A [(h0, .inr (3, [.ref p1, .ref p2, .int 0, .ref q1, .int 0, .null, .null, .null])), (q1, .inl (aI, 8, .inl (fun _ => 0)))] := hD
  refine lv_aload_n hx hb dX4_makeRows_7 rfl (lv_at hl 0 rfl) ?_
  refine lv_iload_n hx hb dX4_makeRows_8 rfl (lv_at hl 1 rfl) ?_
  refine q_newI 8 hx hb (hts (.arrayClass .int) (List.mem_of_getElem? (i := 1) rfl)) hK hP hD hS hA 0 rfl (by decide) (by decide) (by decide) (Nat.le_of_ble_eq_true rfl) (Nat.le_of_ble_eq_true rfl) dX4_makeRows_9 (fun q2 H hP hD hS => ?_)
  have hP : va_P D q_cl [(h0, .inr (3, [.ref p1, .ref p2, .int 0, .ref q1, .int 0, .null, .null, .null])), (q1, .inl (aI, 8, .inl (fun _ => 0))), (q2, .inl (aI, 8, .inl (fun _ => 0)))] H := hP
  have hD : va_D A [(h0, .inr (3, [.ref p1, .ref p2, .int 0, .ref q1, .int 0, .null, .null, .null])), (q1, .inl (aI, 8, .inl (fun _ => 0))), (q2, .inl (aI, 8, .inl (fun _ => 0)))] := hD
  refine va_put (D := D) (ci := 3) (v := .ref q2) (ty := (.array .int)) (C := RX4) (T := TX4) (N := 8) hx hb hts n_X4_makeRows_X4 tyX4 tyX4_ok nmX4 hown hK hP hD hS 0 rfl rfl 5 (by decide) (hts (.fieldLink RX4 31 "FaceMap$Sweep" "around" "[I") (List.mem_of_getElem? (i := 3) rfl)) (fun _ h9 => h9) rfl (by decide +kernel) rfl rfl (Nat.le_of_ble_eq_true rfl) dX4_makeRows_11 (fun H locs hP hD hS => ?_)
  have hP : va_P D q_cl [(h0, .inr (3, [.ref p1, .ref p2, .int 0, .ref q1, .int 0, .ref q2, .null, .null])), (q1, .inl (aI, 8, .inl (fun _ => 0))), (q2, .inl (aI, 8, .inl (fun _ => 0)))] H := hP
  have hD : va_D A [(h0, .inr (3, [.ref p1, .ref p2, .int 0, .ref q1, .int 0, .ref q2, .null, .null])), (q1, .inl (aI, 8, .inl (fun _ => 0))), (q2, .inl (aI, 8, .inl (fun _ => 0)))] := hD
  refine lv_aload_n hx hb dX4_makeRows_14 rfl (lv_at hl 0 rfl) ?_
  refine lv_iconst (v := 2) hx hb dX4_makeRows_15 (by decide) ?_
  refine lv_iload_n hx hb dX4_makeRows_16 rfl (lv_at hl 1 rfl) ?_
  refine lv_imul hx hb dX4_makeRows_17 ?_
  refine q_vi (v := 16) (by decide) ?_
  refine q_newI 16 hx hb (hts (.arrayClass .int) (List.mem_of_getElem? (i := 1) rfl)) hK hP hD hS hA 0 rfl (by decide) (by decide) (by decide) (Nat.le_of_ble_eq_true rfl) (Nat.le_of_ble_eq_true rfl) dX4_makeRows_18 (fun q3 H hP hD hS => ?_)
  have hP : va_P D q_cl [(h0, .inr (3, [.ref p1, .ref p2, .int 0, .ref q1, .int 0, .ref q2, .null, .null])), (q1, .inl (aI, 8, .inl (fun _ => 0))), (q2, .inl (aI, 8, .inl (fun _ => 0))), (q3, .inl (aI, 16, .inl (fun _ => 0)))] H := hP
  have hD : va_D A [(h0, .inr (3, [.ref p1, .ref p2, .int 0, .ref q1, .int 0, .ref q2, .null, .null])), (q1, .inl (aI, 8, .inl (fun _ => 0))), (q2, .inl (aI, 8, .inl (fun _ => 0))), (q3, .inl (aI, 16, .inl (fun _ => 0)))] := hD
  refine va_put (D := D) (ci := 3) (v := .ref q3) (ty := (.array .int)) (C := RX4) (T := TX4) (N := 8) hx hb hts n_X4_makeRows_X4 tyX4 tyX4_ok nmX4 hown hK hP hD hS 0 rfl rfl 6 (by decide) (hts (.fieldLink RX4 34 "FaceMap$Sweep" "next" "[I") (List.mem_of_getElem? (i := 4) rfl)) (fun _ h9 => h9) rfl (by decide +kernel) rfl rfl (Nat.le_of_ble_eq_true rfl) dX4_makeRows_20 (fun H locs hP hD hS => ?_)
  have hP : va_P D q_cl [(h0, .inr (3, [.ref p1, .ref p2, .int 0, .ref q1, .int 0, .ref q2, .ref q3, .null])), (q1, .inl (aI, 8, .inl (fun _ => 0))), (q2, .inl (aI, 8, .inl (fun _ => 0))), (q3, .inl (aI, 16, .inl (fun _ => 0)))] H := hP
  have hD : va_D A [(h0, .inr (3, [.ref p1, .ref p2, .int 0, .ref q1, .int 0, .ref q2, .ref q3, .null])), (q1, .inl (aI, 8, .inl (fun _ => 0))), (q2, .inl (aI, 8, .inl (fun _ => 0))), (q3, .inl (aI, 16, .inl (fun _ => 0)))] := hD
  refine lv_aload_n hx hb dX4_makeRows_23 rfl (lv_at hl 0 rfl) ?_
  refine lv_iconst (v := 2) hx hb dX4_makeRows_24 (by decide) ?_
  refine lv_iload_n hx hb dX4_makeRows_25 rfl (lv_at hl 1 rfl) ?_
  refine lv_imul hx hb dX4_makeRows_26 ?_
  refine q_vi (v := 16) (by decide) ?_
  refine q_newI 16 hx hb (hts (.arrayClass .int) (List.mem_of_getElem? (i := 1) rfl)) hK hP hD hS hA 0 rfl (by decide) (by decide) (by decide) (Nat.le_of_ble_eq_true rfl) (Nat.le_of_ble_eq_true rfl) dX4_makeRows_27 (fun q4 H hP hD hS => ?_)
  have hP : va_P D q_cl [(h0, .inr (3, [.ref p1, .ref p2, .int 0, .ref q1, .int 0, .ref q2, .ref q3, .null])), (q1, .inl (aI, 8, .inl (fun _ => 0))), (q2, .inl (aI, 8, .inl (fun _ => 0))), (q3, .inl (aI, 16, .inl (fun _ => 0))), (q4, .inl (aI, 16, .inl (fun _ => 0)))] H := hP
  have hD : va_D A [(h0, .inr (3, [.ref p1, .ref p2, .int 0, .ref q1, .int 0, .ref q2, .ref q3, .null])), (q1, .inl (aI, 8, .inl (fun _ => 0))), (q2, .inl (aI, 8, .inl (fun _ => 0))), (q3, .inl (aI, 16, .inl (fun _ => 0))), (q4, .inl (aI, 16, .inl (fun _ => 0)))] := hD
  refine va_put (D := D) (ci := 3) (v := .ref q4) (ty := (.array .int)) (C := RX4) (T := TX4) (N := 8) hx hb hts n_X4_makeRows_X4 tyX4 tyX4_ok nmX4 hown hK hP hD hS 0 rfl rfl 7 (by decide) (hts (.fieldLink RX4 37 "FaceMap$Sweep" "below" "[I") (List.mem_of_getElem? (i := 5) rfl)) (fun _ h9 => h9) rfl (by decide +kernel) rfl rfl (Nat.le_of_ble_eq_true rfl) dX4_makeRows_29 (fun H locs hP hD hS => ?_)
  have hP : va_P D q_cl [(h0, .inr (3, [.ref p1, .ref p2, .int 0, .ref q1, .int 0, .ref q2, .ref q3, .ref q4])), (q1, .inl (aI, 8, .inl (fun _ => 0))), (q2, .inl (aI, 8, .inl (fun _ => 0))), (q3, .inl (aI, 16, .inl (fun _ => 0))), (q4, .inl (aI, 16, .inl (fun _ => 0)))] H := hP
  have hD : va_D A [(h0, .inr (3, [.ref p1, .ref p2, .int 0, .ref q1, .int 0, .ref q2, .ref q3, .ref q4])), (q1, .inl (aI, 8, .inl (fun _ => 0))), (q2, .inl (aI, 8, .inl (fun _ => 0))), (q3, .inl (aI, 16, .inl (fun _ => 0))), (q4, .inl (aI, 16, .inl (fun _ => 0)))] := hD
  have hP9 := hP.sub (ws' := []) [] rfl
  have hD9 := hD.sub (ws' := []) [] (by decide) rfl
  exact q_retv () hx hb hr hlocks hK hP9 hD9 hS (Nat.le_of_ble_eq_true rfl) (Nat.le_of_ble_eq_true rfl) (trivial) dX4_makeRows_32
def vsX4_init : List Cond := .code yX4_init cX4_init 3 none :: ([.methodLink RX4 1 objectInit, .instanceMethod objectInit, .code objectInit ⟨#[0xb1]⟩ 1 none, .fieldLink RX4 7 "FaceMap$Sweep" "pieces" "LFaceMap$Pieces;", .fieldLink RX4 13 "FaceMap$Sweep" "nodes" "LFaceMap$Nodes;", .methodLink RX4 17 yX2_room, .instanceMethod yX2_room, .selects RX2 yX2_room yX2_room, .initialized RX2, .code yX2_room cX2_room 1 (some .int), .fieldLink RX2 9 "FaceMap$Pieces" "low" "[J", .methodLink RX4 23 yX4_makeRows, .instanceMethod yX4_makeRows, .selects RX4 yX4_makeRows yX4_makeRows, .initialized RX4, .code yX4_makeRows cX4_makeRows 2 none, .arrayClass .int, .fieldLink RX4 27 "FaceMap$Sweep" "crossed" "[I", .fieldLink RX4 31 "FaceMap$Sweep" "around" "[I", .fieldLink RX4 34 "FaceMap$Sweep" "next" "[I", .fieldLink RX4 37 "FaceMap$Sweep" "below" "[I"] ++ wsX40 ++ wsX20)
set_option maxRecDepth 20000 in
theorem n_X4_init_X4 : ∀ w ∈ wsX40, w ∈ vsX4_init := fun _ h => List.mem_cons_of_mem _ (List.mem_append_left _ (List.mem_append_right _ h))
set_option maxRecDepth 20000 in
theorem g_X4_init_X2_room_17 : GoodIn vsX4_init (wsV RX4 17 RX2 yX2_room vsX2_room) := goodIn_r _ [6, 7, 8, 9, 10, 11, 30, 31, 32] rfl (by decide +kernel)
set_option maxRecDepth 20000 in
theorem g_X4_init_X4_makeRows_23 : GoodIn vsX4_init (wsV RX4 23 RX4 yX4_makeRows vsX4_makeRows) := goodIn_r _ [12, 13, 14, 15, 16, 17, 18, 19, 20, 21, 22, 23, 24, 25, 26, 27, 28, 29] rfl (by decide +kernel)
set_option maxHeartbeats 4000000 in
set_option maxRecDepth 100000 in
/-- Sweep() -/
theorem c_X4_init (l : Launch) (D : va_G) (aI aL aZ : ClassId) (h0 : Nat) (p1 : Nat) (p2 : Nat) (lo : Nat) (hi : Nat) (f : Nat → Int64) (sz : Nat) : MV l D q_cl (q_ty aI aL aZ) yX4_init vsX4_init 1 4 48 [.ref h0, .ref p1, .ref p2] [(h0, .inr (3, [.null, .null, .int 0, .null, .int 0, .null, .null, .null])), (p1, .inr (2, [.ref lo, .ref hi, .int 0])), (lo, .inl (aL, 8, .inr (.inl f)))] sz (fun (u : Unit) => True) (fun (u : Unit) => [(p1, .inr (2, [.ref lo, .ref hi, .int 0])), (lo, .inl (aL, 8, .inr (.inl f)))]) := by
  refine q_in cX4_init 3 none (qQv D q_cl (q_ty aI aL aZ) _ _) (by decide) rfl (Nat.le_of_ble_eq_true rfl) ?_
  intro p e s m args below meth c A ls hat hP hD hS hl
  obtain ⟨hx, hb, hr, hts, hown, hlocks, hml, hin, hK, hN, hA⟩ := hat
  have hown : s.vm.findClass RX4 = some m.cls := hown
  have hl : lv_has ls 3 [(0, .ref h0), (1, .ref p1), (2, .ref p2)] := hl
  refine lv_aload_n hx hb dX4_init_0 rfl (lv_at hl 0 rfl) ?_
  refine W.objInit hx hb hown (hts (.methodLink RX4 1 objectInit) (List.mem_of_getElem? (i := 1) rfl)) (hts (.instanceMethod objectInit) (List.mem_of_getElem? (i := 2) rfl)) (hts (.code objectInit ⟨#[0xb1]⟩ 1 none) (List.mem_of_getElem? (i := 3) rfl)) rfl (by rw [hml]; exact hl.1) rfl dX4_init_1 (Nat.le_of_ble_eq_true rfl) (Nat.le_of_ble_eq_true rfl) ?_
  refine W.eq (g2 := F0 m 4 ls []) rfl ?_
  refine lv_aload_n hx hb dX4_init_4 rfl (lv_at hl 0 rfl) ?_
  refine lv_aload_n hx hb dX4_init_5 rfl (lv_at hl 1 rfl) ?_
  refine va_putF (D := D) (ci := 3) (v := .ref p1) (ty := (.object "FaceMap$Pieces")) (C := RX4) (T := TX4) (N := 8) hx hb hts n_X4_init_X4 tyX4 tyX4_ok nmX4 hown hK hP hD hS 0 rfl rfl 0 (by decide) (hts (.fieldLink RX4 7 "FaceMap$Sweep" "pieces" "LFaceMap$Pieces;") (List.mem_of_getElem? (i := 4) rfl)) (fun _ h9 => h9) rfl hin rfl (by decide +kernel) rfl rfl (Nat.le_of_ble_eq_true rfl) dX4_init_6 (fun H locs hP hD hS => ?_)
  have hP : va_P D q_cl [(h0, .inr (3, [.ref p1, .null, .int 0, .null, .int 0, .null, .null, .null])), (p1, .inr (2, [.ref lo, .ref hi, .int 0])), (lo, .inl (aL, 8, .inr (.inl f)))] H := hP
  have hD : va_D A [(h0, .inr (3, [.ref p1, .null, .int 0, .null, .int 0, .null, .null, .null])), (p1, .inr (2, [.ref lo, .ref hi, .int 0])), (lo, .inl (aL, 8, .inr (.inl f)))] := hD
  refine lv_aload_n hx hb dX4_init_9 rfl (lv_at hl 0 rfl) ?_
  refine lv_aload_n hx hb dX4_init_10 rfl (lv_at hl 2 rfl) ?_
  refine va_putF (D := D) (ci := 3) (v := .ref p2) (ty := (.object "FaceMap$Nodes")) (C := RX4) (T := TX4) (N := 8) hx hb hts n_X4_init_X4 tyX4 tyX4_ok nmX4 hown hK hP hD hS 0 rfl rfl 1 (by decide) (hts (.fieldLink RX4 13 "FaceMap$Sweep" "nodes" "LFaceMap$Nodes;") (List.mem_of_getElem? (i := 5) rfl)) (fun _ h9 => h9) rfl hin rfl (by decide +kernel) rfl rfl (Nat.le_of_ble_eq_true rfl) dX4_init_11 (fun H locs hP hD hS => ?_)
  have hP : va_P D q_cl [(h0, .inr (3, [.ref p1, .ref p2, .int 0, .null, .int 0, .null, .null, .null])), (p1, .inr (2, [.ref lo, .ref hi, .int 0])), (lo, .inl (aL, 8, .inr (.inl f)))] H := hP
  have hD : va_D A [(h0, .inr (3, [.ref p1, .ref p2, .int 0, .null, .int 0, .null, .null, .null])), (p1, .inr (2, [.ref lo, .ref hi, .int 0])), (lo, .inl (aL, 8, .inr (.inl f)))] := hD
  refine lv_aload_n hx hb dX4_init_14 rfl (lv_at hl 0 rfl) ?_
  refine lv_aload_n hx hb dX4_init_15 rfl (lv_at hl 1 rfl) ?_
  refine q_i (wr := [(h0, .inr (3, [.ref p1, .ref p2, .int 0, .null, .int 0, .null, .null, .null]))]) (q_runV (As := []) (rest := [.ref h0]) ⟨hx, hb, hml, hown, hts⟩ (c_X2_room l D aI aL aZ p1 lo hi f _) (cwV 0 hts g_X4_init_X2_room_17 rfl rfl rfl (by decide +kernel) ⟨Nat.le_of_ble_eq_true rfl, Nat.le_of_ble_eq_true rfl⟩) hK hN hP hD [1, 2] rfl (by decide) rfl rfl rfl hl.1 rfl (Nat.le_of_ble_eq_true rfl) dX4_init_16 ⟨Nat.le_of_ble_eq_true rfl, Nat.le_of_ble_eq_true rfl⟩) hP hD hS hA [1, 2] [0] rfl rfl (by decide) (by decide) (fun r_1 u_1 H locs hw hP hD hS => ?_)
  subst hw
  have hP : va_P D q_cl [(h0, .inr (3, [.ref p1, .ref p2, .int 0, .null, .int 0, .null, .null, .null])), (p1, .inr (2, [.ref lo, .ref hi, .int 0])), (lo, .inl (aL, 8, .inr (.inl f)))] H := hP
  have hD : va_D A [(h0, .inr (3, [.ref p1, .ref p2, .int 0, .null, .int 0, .null, .null, .null])), (p1, .inr (2, [.ref lo, .ref hi, .int 0])), (lo, .inl (aL, 8, .inr (.inl f)))] := hD
  refine q_v (wr := [(p1, .inr (2, [.ref lo, .ref hi, .int 0])), (lo, .inl (aL, 8, .inr (.inl f)))]) (q_runV (As := [.int 8]) (rest := []) ⟨hx, hb, hml, hown, hts⟩ (c_X4_makeRows l D aI aL aZ h0 p1 p2 _) (cwV 1 hts g_X4_init_X4_makeRows_23 rfl rfl rfl (by decide +kernel) ⟨Nat.le_of_ble_eq_true rfl, Nat.le_of_ble_eq_true rfl⟩) hK hN hP hD [0] rfl (by decide) rfl rfl rfl hl.1 rfl (Nat.le_of_ble_eq_true rfl) dX4_init_19 ⟨Nat.le_of_ble_eq_true rfl, Nat.le_of_ble_eq_true rfl⟩) hP hD hS hA [0] [1, 2] rfl rfl (by decide) (by decide) (fun u_2 H locs hw hP hD hS => ?_)
  have hP : va_P D q_cl [(p1, .inr (2, [.ref lo, .ref hi, .int 0])), (lo, .inl (aL, 8, .inr (.inl f)))] H := hP
  have hD : va_D A [(p1, .inr (2, [.ref lo, .ref hi, .int 0])), (lo, .inl (aL, 8, .inr (.inl f)))] := hD
  have hP9 := hP.sub (ws' := [(p1, .inr (2, [.ref lo, .ref hi, .int 0])), (lo, .inl (aL, 8, .inr (.inl f)))]) [0, 1] rfl
  have hD9 := hD.sub (ws' := [(p1, .inr (2, [.ref lo, .ref hi, .int 0])), (lo, .inl (aL, 8, .inr (.inl f)))]) [0, 1] (by decide) rfl
  exact q_retv () hx hb hr hlocks hK hP9 hD9 hS (Nat.le_of_ble_eq_true rfl) (Nat.le_of_ble_eq_true rfl) (trivial) dX4_init_22
end
section
def vsX0_makeRows : List Cond := .code yX0_makeRows cX0_makeRows 2 none :: ([.arrayClass .int, .fieldLink RX0 34 "FaceMap$Faces" "leftOf" "[I", .fieldLink RX0 38 "FaceMap$Faces" "rings" "[I", .fieldLink RX0 41 "FaceMap$Faces" "ways" "[I", .fieldLink RX0 44 "FaceMap$Faces" "keyFrom" "[I", .fieldLink RX0 47 "FaceMap$Faces" "keyTo" "[I", .arrayClass .long, .fieldLink RX0 50 "FaceMap$Faces" "area" "[J"] ++ wsX00)
set_option maxRecDepth 20000 in
theorem n_X0_makeRows_X0 : ∀ w ∈ wsX00, w ∈ vsX0_makeRows := fun _ h => List.mem_cons_of_mem _ (List.mem_append_right _ h)
set_option maxHeartbeats 4000000 in
set_option maxRecDepth 100000 in
/-- Faces.makeRows -/
theorem c_X0_makeRows (l : Launch) (D : va_G) (aI aL aZ : ClassId) (h0 : Nat) (p1 : Nat) (p2 : Nat) (p3 : Nat) (sz : Nat) : MV l D q_cl (q_ty aI aL aZ) yX0_makeRows vsX0_makeRows 0 6 61 [.ref h0, .int 8] [(h0, .inr (0, [.ref p1, .ref p2, .ref p3, .null, .null, .null, .null, .null, .null, .int 0, .int 0]))] sz (fun (u : Nat × Nat × Nat × Nat × Nat × Nat) => True) (fun (u : Nat × Nat × Nat × Nat × Nat × Nat) => [(h0, .inr (0, [.ref p1, .ref p2, .ref p3, .ref u.1, .ref u.2.1, .ref u.2.2.1, .ref u.2.2.2.1, .ref u.2.2.2.2.1, .ref u.2.2.2.2.2, .int 0, .int 0])), (u.1, .inl (aI, 16, .inl (fun _ => 0))), (u.2.1, .inl (aI, 9, .inl (fun _ => 0))), (u.2.2.1, .inl (aI, 9, .inl (fun _ => 0))), (u.2.2.2.1, .inl (aI, 9, .inl (fun _ => 0))), (u.2.2.2.2.1, .inl (aI, 9, .inl (fun _ => 0))), (u.2.2.2.2.2, .inl (aL, 9, .inr (.inl (fun _ => 0))))]) := by
  refine q_in cX0_makeRows 2 none (qQv D q_cl (q_ty aI aL aZ) _ _) (by decide) rfl (Nat.le_of_ble_eq_true rfl) ?_
  intro p e s m args below meth c A ls hat hP hD hS hl
  obtain ⟨hx, hb, hr, hts, hown, hlocks, hml, hin, hK, hN, hA⟩ := hat
  have hown : s.vm.findClass RX0 = some m.cls := hown
  have hl : lv_has ls 2 [(0, .ref h0), (1, .int 8)] := hl
  refine lv_aload_n hx hb dX0_makeRows_0 rfl (lv_at hl 0 rfl) ?_
  refine lv_iconst (v := 2) hx hb dX0_makeRows_1 (by decide) ?_
  refine lv_iload_n hx hb dX0_makeRows_2 rfl (lv_at hl 1 rfl) ?_
  refine lv_imul hx hb dX0_makeRows_3 ?_
  refine q_vi (v := 16) (by decide) ?_
  refine q_newI 16 hx hb (hts (.arrayClass .int) (List.mem_of_getElem? (i := 1) rfl)) hK hP hD hS hA 0 rfl (by decide) (by decide) (by decide) (Nat.le_of_ble_eq_true rfl) (Nat.le_of_ble_eq_true rfl) dX0_makeRows_4 (fun q1 H hP hD hS => ?_)
  have hP : va_P D q_cl [(h0, .inr (0, [.ref p1, .ref p2, .ref p3, .null, .null, .null, .null, .null, .null, .int 0, .int 0])), (q1, .inl (aI, 16, .inl (fun _ => 0)))] H := hP
  have hD : va_D A [(h0, .inr (0, [.ref p1, .ref p2, .ref p3, .null, .null, .null, .null, .null, .null, .int 0, .int 0])), (q1, .inl (aI, 16, .inl (fun _ => 0)))] := hD
  refine va_put (D := D) (ci := 0) (v := .ref q1) (ty := (.array .int)) (C := RX0) (T := TX0) (N := 11) hx hb hts n_X0_makeRows_X0 tyX0 tyX0_ok nmX0 hown hK hP hD hS 0 rfl rfl 3 (by decide) (hts (.fieldLink RX0 34 "FaceMap$Faces" "leftOf" "[I") (List.mem_of_getElem? (i := 2) rfl)) (fun _ h9 => h9) rfl (by decide +kernel) rfl rfl (Nat.le_of_ble_eq_true rfl) dX0_makeRows_6 (fun H locs hP hD hS => ?_)
  have hP : va_P D q_cl [(h0, .inr (0, [.ref p1, .ref p2, .ref p3, .ref q1, .null, .null, .null, .null, .null, .int 0, .int 0])), (q1, .inl (aI, 16, .inl (fun _ => 0)))] H := hP
  have hD : va_D A [(h0, .inr (0, [.ref p1, .ref p2, .ref p3, .ref q1, .null, .null, .null, .null, .null, .int 0, .int 0])), (q1, .inl (aI, 16, .inl (fun _ => 0)))] := hD
  refine lv_aload_n hx hb dX0_makeRows_9 rfl (lv_at hl 0 rfl) ?_
  refine lv_iload_n hx hb dX0_makeRows_10 rfl (lv_at hl 1 rfl) ?_
  refine lv_iconst (v := 1) hx hb dX0_makeRows_11 (by decide) ?_
  refine lv_iadd hx hb dX0_makeRows_12 ?_
  refine q_vi (v := 9) (by decide) ?_
  refine q_newI 9 hx hb (hts (.arrayClass .int) (List.mem_of_getElem? (i := 1) rfl)) hK hP hD hS hA 0 rfl (by decide) (by decide) (by decide) (Nat.le_of_ble_eq_true rfl) (Nat.le_of_ble_eq_true rfl) dX0_makeRows_13 (fun q2 H hP hD hS => ?_)
  have hP : va_P D q_cl [(h0, .inr (0, [.ref p1, .ref p2, .ref p3, .ref q1, .null, .null, .null, .null, .null, .int 0, .int 0])), (q1, .inl (aI, 16, .inl (fun _ => 0))), (q2, .inl (aI, 9, .inl (fun _ => 0)))] H := hP
  have hD : va_D A [(h0, .inr (0, [.ref p1, .ref p2, .ref p3, .ref q1, .null, .null, .null, .null, .null, .int 0, .int 0])), (q1, .inl (aI, 16, .inl (fun _ => 0))), (q2, .inl (aI, 9, .inl (fun _ => 0)))] := hD
  refine va_put (D := D) (ci := 0) (v := .ref q2) (ty := (.array .int)) (C := RX0) (T := TX0) (N := 11) hx hb hts n_X0_makeRows_X0 tyX0 tyX0_ok nmX0 hown hK hP hD hS 0 rfl rfl 4 (by decide) (hts (.fieldLink RX0 38 "FaceMap$Faces" "rings" "[I") (List.mem_of_getElem? (i := 3) rfl)) (fun _ h9 => h9) rfl (by decide +kernel) rfl rfl (Nat.le_of_ble_eq_true rfl) dX0_makeRows_15 (fun H locs hP hD hS => ?_)
  have hP : va_P D q_cl [(h0, .inr (0, [.ref p1, .ref p2, .ref p3, .ref q1, .ref q2, .null, .null, .null, .null, .int 0, .int 0])), (q1, .inl (aI, 16, .inl (fun _ => 0))), (q2, .inl (aI, 9, .inl (fun _ => 0)))] H := hP
  have hD : va_D A [(h0, .inr (0, [.ref p1, .ref p2, .ref p3, .ref q1, .ref q2, .null, .null, .null, .null, .int 0, .int 0])), (q1, .inl (aI, 16, .inl (fun _ => 0))), (q2, .inl (aI, 9, .inl (fun _ => 0)))] := hD
  refine lv_aload_n hx hb dX0_makeRows_18 rfl (lv_at hl 0 rfl) ?_
  refine lv_iload_n hx hb dX0_makeRows_19 rfl (lv_at hl 1 rfl) ?_
  refine lv_iconst (v := 1) hx hb dX0_makeRows_20 (by decide) ?_
  refine lv_iadd hx hb dX0_makeRows_21 ?_
  refine q_vi (v := 9) (by decide) ?_
  refine q_newI 9 hx hb (hts (.arrayClass .int) (List.mem_of_getElem? (i := 1) rfl)) hK hP hD hS hA 0 rfl (by decide) (by decide) (by decide) (Nat.le_of_ble_eq_true rfl) (Nat.le_of_ble_eq_true rfl) dX0_makeRows_22 (fun q3 H hP hD hS => ?_)
  have hP : va_P D q_cl [(h0, .inr (0, [.ref p1, .ref p2, .ref p3, .ref q1, .ref q2, .null, .null, .null, .null, .int 0, .int 0])), (q1, .inl (aI, 16, .inl (fun _ => 0))), (q2, .inl (aI, 9, .inl (fun _ => 0))), (q3, .inl (aI, 9, .inl (fun _ => 0)))] H := hP
  have hD : va_D A [(h0, .inr (0, [.ref p1, .ref p2, .ref p3, .ref q1, .ref q2, .null, .null, .null, .null, .int 0, .int 0])), (q1, .inl (aI, 16, .inl (fun _ => 0))), (q2, .inl (aI, 9, .inl (fun _ => 0))), (q3, .inl (aI, 9, .inl (fun _ => 0)))] := hD
  refine va_put (D := D) (ci := 0) (v := .ref q3) (ty := (.array .int)) (C := RX0) (T := TX0) (N := 11) hx hb hts n_X0_makeRows_X0 tyX0 tyX0_ok nmX0 hown hK hP hD hS 0 rfl rfl 5 (by decide) (hts (.fieldLink RX0 41 "FaceMap$Faces" "ways" "[I") (List.mem_of_getElem? (i := 4) rfl)) (fun _ h9 => h9) rfl (by decide +kernel) rfl rfl (Nat.le_of_ble_eq_true rfl) dX0_makeRows_24 (fun H locs hP hD hS => ?_)
  have hP : va_P D q_cl [(h0, .inr (0, [.ref p1, .ref p2, .ref p3, .ref q1, .ref q2, .ref q3, .null, .null, .null, .int 0, .int 0])), (q1, .inl (aI, 16, .inl (fun _ => 0))), (q2, .inl (aI, 9, .inl (fun _ => 0))), (q3, .inl (aI, 9, .inl (fun _ => 0)))] H := hP
  have hD : va_D A [(h0, .inr (0, [.ref p1, .ref p2, .ref p3, .ref q1, .ref q2, .ref q3, .null, .null, .null, .int 0, .int 0])), (q1, .inl (aI, 16, .inl (fun _ => 0))), (q2, .inl (aI, 9, .inl (fun _ => 0))), (q3, .inl (aI, 9, .inl (fun _ => 0)))] := hD
  refine lv_aload_n hx hb dX0_makeRows_27 rfl (lv_at hl 0 rfl) ?_
  refine lv_iload_n hx hb dX0_makeRows_28 rfl (lv_at hl 1 rfl) ?_
  refine lv_iconst (v := 1) hx hb dX0_makeRows_29 (by decide) ?_
  refine lv_iadd hx hb dX0_makeRows_30 ?_
  refine q_vi (v := 9) (by decide) ?_
  refine q_newI 9 hx hb (hts (.arrayClass .int) (List.mem_of_getElem? (i := 1) rfl)) hK hP hD hS hA 0 rfl (by decide) (by decide) (by decide) (Nat.le_of_ble_eq_true rfl) (Nat.le_of_ble_eq_true rfl) dX0_makeRows_31 (fun q4 H hP hD hS => ?_)
  have hP : va_P D q_cl [(h0, .inr (0, [.ref p1, .ref p2, .ref p3, .ref q1, .ref q2, .ref q3, .null, .null, .null, .int 0, .int 0])), (q1, .inl (aI, 16, .inl (fun _ => 0))), (q2, .inl (aI, 9, .inl (fun _ => 0))), (q3, .inl (aI, 9, .inl (fun _ => 0))), (q4, .inl (aI, 9, .inl (fun _ => 0)))] H := hP
  have hD : va_D A [(h0, .inr (0, [.ref p1, .ref p2, .ref p3, .ref q1, .ref q2, .ref q3, .null, .null, .null, .int 0, .int 0])), (q1, .inl (aI, 16, .inl (fun _ => 0))), (q2, .inl (aI, 9, .inl (fun _ => 0))), (q3, .inl (aI, 9, .inl (fun _ => 0))), (q4, .inl (aI, 9, .inl (fun _ => 0)))] := hD
  refine va_put (D := D) (ci := 0) (v := .ref q4) (ty := (.array .int)) (C := RX0) (T := TX0) (N := 11) hx hb hts n_X0_makeRows_X0 tyX0 tyX0_ok nmX0 hown hK hP hD hS 0 rfl rfl 6 (by decide) (hts (.fieldLink RX0 44 "FaceMap$Faces" "keyFrom" "[I") (List.mem_of_getElem? (i := 5) rfl)) (fun _ h9 => h9) rfl (by decide +kernel) rfl rfl (Nat.le_of_ble_eq_true rfl) dX0_makeRows_33 (fun H locs hP hD hS => ?_)
  have hP : va_P D q_cl [(h0, .inr (0, [.ref p1, .ref p2, .ref p3, .ref q1, .ref q2, .ref q3, .ref q4, .null, .null, .int 0, .int 0])), (q1, .inl (aI, 16, .inl (fun _ => 0))), (q2, .inl (aI, 9, .inl (fun _ => 0))), (q3, .inl (aI, 9, .inl (fun _ => 0))), (q4, .inl (aI, 9, .inl (fun _ => 0)))] H := hP
  have hD : va_D A [(h0, .inr (0, [.ref p1, .ref p2, .ref p3, .ref q1, .ref q2, .ref q3, .ref q4, .null, .null, .int 0, .int 0])), (q1, .inl (aI, 16, .inl (fun _ => 0))), (q2, .inl (aI, 9, .inl (fun _ => 0))), (q3, .inl (aI, 9, .inl (fun _ => 0))), (q4, .inl (aI, 9, .inl (fun _ => 0)))] := hD
  refine lv_aload_n hx hb dX0_makeRows_36 rfl (lv_at hl 0 rfl) ?_
  refine lv_iload_n hx hb dX0_makeRows_37 rfl (lv_at hl 1 rfl) ?_
  refine lv_iconst (v := 1) hx hb dX0_makeRows_38 (by decide) ?_
  refine lv_iadd hx hb dX0_makeRows_39 ?_
  refine q_vi (v := 9) (by decide) ?_
  refine q_newI 9 hx hb (hts (.arrayClass .int) (List.mem_of_getElem? (i := 1) rfl)) hK hP hD hS hA 0 rfl (by decide) (by decide) (by decide) (Nat.le_of_ble_eq_true rfl) (Nat.le_of_ble_eq_true rfl) dX0_makeRows_40 (fun q5 H hP hD hS => ?_)
  have hP : va_P D q_cl [(h0, .inr (0, [.ref p1, .ref p2, .ref p3, .ref q1, .ref q2, .ref q3, .ref q4, .null, .null, .int 0, .int 0])), (q1, .inl (aI, 16, .inl (fun _ => 0))), (q2, .inl (aI, 9, .inl (fun _ => 0))), (q3, .inl (aI, 9, .inl (fun _ => 0))), (q4, .inl (aI, 9, .inl (fun _ => 0))), (q5, .inl (aI, 9, .inl (fun _ => 0)))] H := hP
  have hD : va_D A [(h0, .inr (0, [.ref p1, .ref p2, .ref p3, .ref q1, .ref q2, .ref q3, .ref q4, .null, .null, .int 0, .int 0])), (q1, .inl (aI, 16, .inl (fun _ => 0))), (q2, .inl (aI, 9, .inl (fun _ => 0))), (q3, .inl (aI, 9, .inl (fun _ => 0))), (q4, .inl (aI, 9, .inl (fun _ => 0))), (q5, .inl (aI, 9, .inl (fun _ => 0)))] := hD
  refine va_put (D := D) (ci := 0) (v := .ref q5) (ty := (.array .int)) (C := RX0) (T := TX0) (N := 11) hx hb hts n_X0_makeRows_X0 tyX0 tyX0_ok nmX0 hown hK hP hD hS 0 rfl rfl 7 (by decide) (hts (.fieldLink RX0 47 "FaceMap$Faces" "keyTo" "[I") (List.mem_of_getElem? (i := 6) rfl)) (fun _ h9 => h9) rfl (by decide +kernel) rfl rfl (Nat.le_of_ble_eq_true rfl) dX0_makeRows_42 (fun H locs hP hD hS => ?_)
  have hP : va_P D q_cl [(h0, .inr (0, [.ref p1, .ref p2, .ref p3, .ref q1, .ref q2, .ref q3, .ref q4, .ref q5, .null, .int 0, .int 0])), (q1, .inl (aI, 16, .inl (fun _ => 0))), (q2, .inl (aI, 9, .inl (fun _ => 0))), (q3, .inl (aI, 9, .inl (fun _ => 0))), (q4, .inl (aI, 9, .inl (fun _ => 0))), (q5, .inl (aI, 9, .inl (fun _ => 0)))] H := hP
  have hD : va_D A [(h0, .inr (0, [.ref p1, .ref p2, .ref p3, .ref q1, .ref q2, .ref q3, .ref q4, .ref q5, .null, .int 0, .int 0])), (q1, .inl (aI, 16, .inl (fun _ => 0))), (q2, .inl (aI, 9, .inl (fun _ => 0))), (q3, .inl (aI, 9, .inl (fun _ => 0))), (q4, .inl (aI, 9, .inl (fun _ => 0))), (q5, .inl (aI, 9, .inl (fun _ => 0)))] := hD
  refine lv_aload_n hx hb dX0_makeRows_45 rfl (lv_at hl 0 rfl) ?_
  refine lv_iload_n hx hb dX0_makeRows_46 rfl (lv_at hl 1 rfl) ?_
  refine lv_iconst (v := 1) hx hb dX0_makeRows_47 (by decide) ?_
  refine lv_iadd hx hb dX0_makeRows_48 ?_
  refine q_vi (v := 9) (by decide) ?_
  refine q_newL 9 hx hb (hts (.arrayClass .long) (List.mem_of_getElem? (i := 7) rfl)) hK hP hD hS hA 1 rfl (by decide) (by decide) (by decide) (Nat.le_of_ble_eq_true rfl) (Nat.le_of_ble_eq_true rfl) dX0_makeRows_49 (fun q6 H hP hD hS => ?_)
  have hP : va_P D q_cl [(h0, .inr (0, [.ref p1, .ref p2, .ref p3, .ref q1, .ref q2, .ref q3, .ref q4, .ref q5, .null, .int 0, .int 0])), (q1, .inl (aI, 16, .inl (fun _ => 0))), (q2, .inl (aI, 9, .inl (fun _ => 0))), (q3, .inl (aI, 9, .inl (fun _ => 0))), (q4, .inl (aI, 9, .inl (fun _ => 0))), (q5, .inl (aI, 9, .inl (fun _ => 0))), (q6, .inl (aL, 9, .inr (.inl (fun _ => 0))))] H := hP
  have hD : va_D A [(h0, .inr (0, [.ref p1, .ref p2, .ref p3, .ref q1, .ref q2, .ref q3, .ref q4, .ref q5, .null, .int 0, .int 0])), (q1, .inl (aI, 16, .inl (fun _ => 0))), (q2, .inl (aI, 9, .inl (fun _ => 0))), (q3, .inl (aI, 9, .inl (fun _ => 0))), (q4, .inl (aI, 9, .inl (fun _ => 0))), (q5, .inl (aI, 9, .inl (fun _ => 0))), (q6, .inl (aL, 9, .inr (.inl (fun _ => 0))))] := hD
  refine va_put (D := D) (ci := 0) (v := .ref q6) (ty := (.array .long)) (C := RX0) (T := TX0) (N := 11) hx hb hts n_X0_makeRows_X0 tyX0 tyX0_ok nmX0 hown hK hP hD hS 0 rfl rfl 8 (by decide) (hts (.fieldLink RX0 50 "FaceMap$Faces" "area" "[J") (List.mem_of_getElem? (i := 8) rfl)) (fun _ h9 => h9) rfl (by decide +kernel) rfl rfl (Nat.le_of_ble_eq_true rfl) dX0_makeRows_51 (fun H locs hP hD hS => ?_)
  have hP : va_P D q_cl [(h0, .inr (0, [.ref p1, .ref p2, .ref p3, .ref q1, .ref q2, .ref q3, .ref q4, .ref q5, .ref q6, .int 0, .int 0])), (q1, .inl (aI, 16, .inl (fun _ => 0))), (q2, .inl (aI, 9, .inl (fun _ => 0))), (q3, .inl (aI, 9, .inl (fun _ => 0))), (q4, .inl (aI, 9, .inl (fun _ => 0))), (q5, .inl (aI, 9, .inl (fun _ => 0))), (q6, .inl (aL, 9, .inr (.inl (fun _ => 0))))] H := hP
  have hD : va_D A [(h0, .inr (0, [.ref p1, .ref p2, .ref p3, .ref q1, .ref q2, .ref q3, .ref q4, .ref q5, .ref q6, .int 0, .int 0])), (q1, .inl (aI, 16, .inl (fun _ => 0))), (q2, .inl (aI, 9, .inl (fun _ => 0))), (q3, .inl (aI, 9, .inl (fun _ => 0))), (q4, .inl (aI, 9, .inl (fun _ => 0))), (q5, .inl (aI, 9, .inl (fun _ => 0))), (q6, .inl (aL, 9, .inr (.inl (fun _ => 0))))] := hD
  have hP9 := hP.sub (ws' := [(h0, .inr (0, [.ref p1, .ref p2, .ref p3, .ref q1, .ref q2, .ref q3, .ref q4, .ref q5, .ref q6, .int 0, .int 0])), (q1, .inl (aI, 16, .inl (fun _ => 0))), (q2, .inl (aI, 9, .inl (fun _ => 0))), (q3, .inl (aI, 9, .inl (fun _ => 0))), (q4, .inl (aI, 9, .inl (fun _ => 0))), (q5, .inl (aI, 9, .inl (fun _ => 0))), (q6, .inl (aL, 9, .inr (.inl (fun _ => 0))))]) [0, 1, 2, 3, 4, 5, 6] rfl
  have hD9 := hD.sub (ws' := [(h0, .inr (0, [.ref p1, .ref p2, .ref p3, .ref q1, .ref q2, .ref q3, .ref q4, .ref q5, .ref q6, .int 0, .int 0])), (q1, .inl (aI, 16, .inl (fun _ => 0))), (q2, .inl (aI, 9, .inl (fun _ => 0))), (q3, .inl (aI, 9, .inl (fun _ => 0))), (q4, .inl (aI, 9, .inl (fun _ => 0))), (q5, .inl (aI, 9, .inl (fun _ => 0))), (q6, .inl (aL, 9, .inr (.inl (fun _ => 0))))]) [0, 1, 2, 3, 4, 5, 6] (by decide) rfl
  exact q_retv (q1, q2, q3, q4, q5, q6) hx hb hr hlocks hK hP9 hD9 hS (Nat.le_of_ble_eq_true rfl) (Nat.le_of_ble_eq_true rfl) (trivial) dX0_makeRows_54
def vsX0_addFace : List Cond := .code yX0_addFace cX0_addFace 4 (some .int) :: ([.fieldLink RX0 60 "FaceMap$Faces" "size" "I", .fieldLink RX0 38 "FaceMap$Faces" "rings" "[I", .fieldLink RX0 41 "FaceMap$Faces" "ways" "[I", .fieldLink RX0 50 "FaceMap$Faces" "area" "[J", .fieldLink RX0 44 "FaceMap$Faces" "keyFrom" "[I", .fieldLink RX0 47 "FaceMap$Faces" "keyTo" "[I"] ++ wsX00)
set_option maxRecDepth 20000 in
theorem n_X0_addFace_X0 : ∀ w ∈ wsX00, w ∈ vsX0_addFace := fun _ h => List.mem_cons_of_mem _ (List.mem_append_right _ h)
set_option maxHeartbeats 4000000 in
set_option maxRecDepth 100000 in
/-- Faces.addFace, the first -/
theorem c_X0_addFace (l : Launch) (D : va_G) (aI aL aZ : ClassId) (h0 : Nat) (p1 : Nat) (p2 : Nat) (p3 : Nat) (le : Nat) (ri : Nat) (wa : Nat) (kf : Nat) (kt : Nat) (ar : Nat) (fr : Nat → Int32) (fw : Nat → Int32) (fk : Nat → Int32) (ft : Nat → Int32) (fa : Nat → Int64) (x : Int32) (y : Int32) (sz : Nat) : MI l D q_cl (q_ty aI aL aZ) yX0_addFace vsX0_addFace 0 0 0 [.ref h0, .int x, .int y] [(h0, .inr (0, [.ref p1, .ref p2, .ref p3, .ref le, .ref ri, .ref wa, .ref kf, .ref kt, .ref ar, .int 0, .int 0])), (ri, .inl (aI, 9, .inl fr)), (wa, .inl (aI, 9, .inl fw)), (kf, .inl (aI, 9, .inl fk)), (kt, .inl (aI, 9, .inl ft)), (ar, .inl (aL, 9, .inr (.inl fa)))] sz (fun (r : Int32) (u : (Nat → Int32) × (Nat → Int32) × (Nat → Int32) × (Nat → Int32)) => r = 0 ∧ u.1 0 = 0 ∧ u.2.1 0 = 0 ∧ u.2.2.1 0 = x ∧ u.2.2.2 0 = y) (fun (u : (Nat → Int32) × (Nat → Int32) × (Nat → Int32) × (Nat → Int32)) => [(h0, .inr (0, [.ref p1, .ref p2, .ref p3, .ref le, .ref ri, .ref wa, .ref kf, .ref kt, .ref ar, .int 1, .int 0])), (ri, .inl (aI, 9, .inl u.1)), (wa, .inl (aI, 9, .inl u.2.1)), (kf, .inl (aI, 9, .inl u.2.2.1)), (kt, .inl (aI, 9, .inl u.2.2.2))]) := by
  refine q_in cX0_addFace 4 (some .int) (qQi D q_cl (q_ty aI aL aZ) _ _) (by decide) rfl (Nat.le_of_ble_eq_true rfl) ?_
  intro p e s m args below meth c A ls hat hP hD hS hl
  obtain ⟨hx, hb, hr, hts, hown, hlocks, hml, hin, hK, hN, hA⟩ := hat
  have hown : s.vm.findClass RX0 = some m.cls := hown
  have hl : lv_has ls 4 [(0, .ref h0), (1, .int x), (2, .int y)] := hl
  refine lv_aload_n hx hb dX0_addFace_0 rfl (lv_at hl 0 rfl) ?_
  refine va_get (D := D) (ci := 0) (v := .int 0) (C := RX0) (T := TX0) (N := 11) hx hb hts n_X0_addFace_X0 hown hK hP 0 rfl rfl 9 (by decide) (hts (.fieldLink RX0 60 "FaceMap$Faces" "size" "I") (List.mem_of_getElem? (i := 1) rfl)) (fun _ h9 => h9) rfl dX0_addFace_1 ?_
  refine lv_istore_n (lv' := [(3, .int 0), (0, .ref h0), (1, .int x), (2, .int y)]) hx hb dX0_addFace_4 rfl hl (by decide) rfl (fun ls hl => ?_)
  refine lv_aload_n hx hb dX0_addFace_5 rfl (lv_at hl 1 rfl) ?_
  refine va_get (D := D) (ci := 0) (v := .ref ri) (C := RX0) (T := TX0) (N := 11) hx hb hts n_X0_addFace_X0 hown hK hP 0 rfl rfl 4 (by decide) (hts (.fieldLink RX0 38 "FaceMap$Faces" "rings" "[I") (List.mem_of_getElem? (i := 2) rfl)) (fun _ h9 => h9) rfl dX0_addFace_6 ?_
  refine lv_iload_n hx hb dX0_addFace_9 rfl (lv_at hl 0 rfl) ?_
  refine lv_iconst (v := 0) hx hb dX0_addFace_10 (by decide) ?_
  refine va_iast hx hb hK hP hD hS 1 0 rfl rfl (q_ix 0 (by decide) (by decide) (by decide)) dX0_addFace_11 (fun H locs hP hD hS => ?_)
  have hP : va_P D q_cl [(h0, .inr (0, [.ref p1, .ref p2, .ref p3, .ref le, .ref ri, .ref wa, .ref kf, .ref kt, .ref ar, .int 0, .int 0])), (ri, .inl (aI, 9, .inl (upd fr 0 0))), (wa, .inl (aI, 9, .inl fw)), (kf, .inl (aI, 9, .inl fk)), (kt, .inl (aI, 9, .inl ft)), (ar, .inl (aL, 9, .inr (.inl fa)))] H := hP
  have hD : va_D A [(h0, .inr (0, [.ref p1, .ref p2, .ref p3, .ref le, .ref ri, .ref wa, .ref kf, .ref kt, .ref ar, .int 0, .int 0])), (ri, .inl (aI, 9, .inl (upd fr 0 0))), (wa, .inl (aI, 9, .inl fw)), (kf, .inl (aI, 9, .inl fk)), (kt, .inl (aI, 9, .inl ft)), (ar, .inl (aL, 9, .inr (.inl fa)))] := hD
  refine lv_aload_n hx hb dX0_addFace_12 rfl (lv_at hl 1 rfl) ?_
  refine va_get (D := D) (ci := 0) (v := .ref wa) (C := RX0) (T := TX0) (N := 11) hx hb hts n_X0_addFace_X0 hown hK hP 0 rfl rfl 5 (by decide) (hts (.fieldLink RX0 41 "FaceMap$Faces" "ways" "[I") (List.mem_of_getElem? (i := 3) rfl)) (fun _ h9 => h9) rfl dX0_addFace_13 ?_
  refine lv_iload_n hx hb dX0_addFace_16 rfl (lv_at hl 0 rfl) ?_
  refine lv_iconst (v := 0) hx hb dX0_addFace_17 (by decide) ?_
  refine va_iast hx hb hK hP hD hS 2 0 rfl rfl (q_ix 0 (by decide) (by decide) (by decide)) dX0_addFace_18 (fun H locs hP hD hS => ?_)
  have hP : va_P D q_cl [(h0, .inr (0, [.ref p1, .ref p2, .ref p3, .ref le, .ref ri, .ref wa, .ref kf, .ref kt, .ref ar, .int 0, .int 0])), (ri, .inl (aI, 9, .inl (upd fr 0 0))), (wa, .inl (aI, 9, .inl (upd fw 0 0))), (kf, .inl (aI, 9, .inl fk)), (kt, .inl (aI, 9, .inl ft)), (ar, .inl (aL, 9, .inr (.inl fa)))] H := hP
  have hD : va_D A [(h0, .inr (0, [.ref p1, .ref p2, .ref p3, .ref le, .ref ri, .ref wa, .ref kf, .ref kt, .ref ar, .int 0, .int 0])), (ri, .inl (aI, 9, .inl (upd fr 0 0))), (wa, .inl (aI, 9, .inl (upd fw 0 0))), (kf, .inl (aI, 9, .inl fk)), (kt, .inl (aI, 9, .inl ft)), (ar, .inl (aL, 9, .inr (.inl fa)))] := hD
  refine lv_aload_n hx hb dX0_addFace_19 rfl (lv_at hl 1 rfl) ?_
  refine va_get (D := D) (ci := 0) (v := .ref ar) (C := RX0) (T := TX0) (N := 11) hx hb hts n_X0_addFace_X0 hown hK hP 0 rfl rfl 8 (by decide) (hts (.fieldLink RX0 50 "FaceMap$Faces" "area" "[J") (List.mem_of_getElem? (i := 4) rfl)) (fun _ h9 => h9) rfl dX0_addFace_20 ?_
  refine lv_iload_n hx hb dX0_addFace_23 rfl (lv_at hl 0 rfl) ?_
  refine lv_lconst (v := 0) hx hb dX0_addFace_24 (by decide) ?_
  refine va_last hx hb hK hP hD hS 5 1 rfl rfl (q_ix 0 (by decide) (by decide) (by decide)) dX0_addFace_25 (fun H locs hP hD hS => ?_)
  have hP : va_P D q_cl [(h0, .inr (0, [.ref p1, .ref p2, .ref p3, .ref le, .ref ri, .ref wa, .ref kf, .ref kt, .ref ar, .int 0, .int 0])), (ri, .inl (aI, 9, .inl (upd fr 0 0))), (wa, .inl (aI, 9, .inl (upd fw 0 0))), (kf, .inl (aI, 9, .inl fk)), (kt, .inl (aI, 9, .inl ft)), (ar, .inl (aL, 9, .inr (.inl (vp_updL fa 0 0))))] H := hP
  have hD : va_D A [(h0, .inr (0, [.ref p1, .ref p2, .ref p3, .ref le, .ref ri, .ref wa, .ref kf, .ref kt, .ref ar, .int 0, .int 0])), (ri, .inl (aI, 9, .inl (upd fr 0 0))), (wa, .inl (aI, 9, .inl (upd fw 0 0))), (kf, .inl (aI, 9, .inl fk)), (kt, .inl (aI, 9, .inl ft)), (ar, .inl (aL, 9, .inr (.inl (vp_updL fa 0 0))))] := hD
  refine lv_aload_n hx hb dX0_addFace_26 rfl (lv_at hl 1 rfl) ?_
  refine va_get (D := D) (ci := 0) (v := .ref kf) (C := RX0) (T := TX0) (N := 11) hx hb hts n_X0_addFace_X0 hown hK hP 0 rfl rfl 6 (by decide) (hts (.fieldLink RX0 44 "FaceMap$Faces" "keyFrom" "[I") (List.mem_of_getElem? (i := 5) rfl)) (fun _ h9 => h9) rfl dX0_addFace_27 ?_
  refine lv_iload_n hx hb dX0_addFace_30 rfl (lv_at hl 0 rfl) ?_
  refine lv_iload_n hx hb dX0_addFace_31 rfl (lv_at hl 2 rfl) ?_
  refine va_iast hx hb hK hP hD hS 3 0 rfl rfl (q_ix 0 (by decide) (by decide) (by decide)) dX0_addFace_32 (fun H locs hP hD hS => ?_)
  have hP : va_P D q_cl [(h0, .inr (0, [.ref p1, .ref p2, .ref p3, .ref le, .ref ri, .ref wa, .ref kf, .ref kt, .ref ar, .int 0, .int 0])), (ri, .inl (aI, 9, .inl (upd fr 0 0))), (wa, .inl (aI, 9, .inl (upd fw 0 0))), (kf, .inl (aI, 9, .inl (upd fk 0 x))), (kt, .inl (aI, 9, .inl ft)), (ar, .inl (aL, 9, .inr (.inl (vp_updL fa 0 0))))] H := hP
  have hD : va_D A [(h0, .inr (0, [.ref p1, .ref p2, .ref p3, .ref le, .ref ri, .ref wa, .ref kf, .ref kt, .ref ar, .int 0, .int 0])), (ri, .inl (aI, 9, .inl (upd fr 0 0))), (wa, .inl (aI, 9, .inl (upd fw 0 0))), (kf, .inl (aI, 9, .inl (upd fk 0 x))), (kt, .inl (aI, 9, .inl ft)), (ar, .inl (aL, 9, .inr (.inl (vp_updL fa 0 0))))] := hD
  refine lv_aload_n hx hb dX0_addFace_33 rfl (lv_at hl 1 rfl) ?_
  refine va_get (D := D) (ci := 0) (v := .ref kt) (C := RX0) (T := TX0) (N := 11) hx hb hts n_X0_addFace_X0 hown hK hP 0 rfl rfl 7 (by decide) (hts (.fieldLink RX0 47 "FaceMap$Faces" "keyTo" "[I") (List.mem_of_getElem? (i := 6) rfl)) (fun _ h9 => h9) rfl dX0_addFace_34 ?_
  refine lv_iload_n hx hb dX0_addFace_37 rfl (lv_at hl 0 rfl) ?_
  refine lv_iload_n hx hb dX0_addFace_38 rfl (lv_at hl 3 rfl) ?_
  refine va_iast hx hb hK hP hD hS 4 0 rfl rfl (q_ix 0 (by decide) (by decide) (by decide)) dX0_addFace_39 (fun H locs hP hD hS => ?_)
  have hP : va_P D q_cl [(h0, .inr (0, [.ref p1, .ref p2, .ref p3, .ref le, .ref ri, .ref wa, .ref kf, .ref kt, .ref ar, .int 0, .int 0])), (ri, .inl (aI, 9, .inl (upd fr 0 0))), (wa, .inl (aI, 9, .inl (upd fw 0 0))), (kf, .inl (aI, 9, .inl (upd fk 0 x))), (kt, .inl (aI, 9, .inl (upd ft 0 y))), (ar, .inl (aL, 9, .inr (.inl (vp_updL fa 0 0))))] H := hP
  have hD : va_D A [(h0, .inr (0, [.ref p1, .ref p2, .ref p3, .ref le, .ref ri, .ref wa, .ref kf, .ref kt, .ref ar, .int 0, .int 0])), (ri, .inl (aI, 9, .inl (upd fr 0 0))), (wa, .inl (aI, 9, .inl (upd fw 0 0))), (kf, .inl (aI, 9, .inl (upd fk 0 x))), (kt, .inl (aI, 9, .inl (upd ft 0 y))), (ar, .inl (aL, 9, .inr (.inl (vp_updL fa 0 0))))] := hD
  refine lv_aload_n hx hb dX0_addFace_40 rfl (lv_at hl 1 rfl) ?_
  refine lv_dup hx hb dX0_addFace_41 rfl ?_
  refine va_get (D := D) (ci := 0) (v := .int 0) (C := RX0) (T := TX0) (N := 11) hx hb hts n_X0_addFace_X0 hown hK hP 0 rfl rfl 9 (by decide) (hts (.fieldLink RX0 60 "FaceMap$Faces" "size" "I") (List.mem_of_getElem? (i := 1) rfl)) (fun _ h9 => h9) rfl dX0_addFace_42 ?_
  refine lv_iconst (v := 1) hx hb dX0_addFace_45 (by decide) ?_
  refine lv_iadd hx hb dX0_addFace_46 ?_
  refine q_vi (v := 1) (by decide) ?_
  refine va_put (D := D) (ci := 0) (v := .int 1) (ty := .int) (C := RX0) (T := TX0) (N := 11) hx hb hts n_X0_addFace_X0 tyX0 tyX0_ok nmX0 hown hK hP hD hS 0 rfl rfl 9 (by decide) (hts (.fieldLink RX0 60 "FaceMap$Faces" "size" "I") (List.mem_of_getElem? (i := 1) rfl)) (fun _ h9 => h9) rfl (by decide +kernel) rfl rfl (Nat.le_of_ble_eq_true rfl) dX0_addFace_47 (fun H locs hP hD hS => ?_)
  have hP : va_P D q_cl [(h0, .inr (0, [.ref p1, .ref p2, .ref p3, .ref le, .ref ri, .ref wa, .ref kf, .ref kt, .ref ar, .int 1, .int 0])), (ri, .inl (aI, 9, .inl (upd fr 0 0))), (wa, .inl (aI, 9, .inl (upd fw 0 0))), (kf, .inl (aI, 9, .inl (upd fk 0 x))), (kt, .inl (aI, 9, .inl (upd ft 0 y))), (ar, .inl (aL, 9, .inr (.inl (vp_updL fa 0 0))))] H := hP
  have hD : va_D A [(h0, .inr (0, [.ref p1, .ref p2, .ref p3, .ref le, .ref ri, .ref wa, .ref kf, .ref kt, .ref ar, .int 1, .int 0])), (ri, .inl (aI, 9, .inl (upd fr 0 0))), (wa, .inl (aI, 9, .inl (upd fw 0 0))), (kf, .inl (aI, 9, .inl (upd fk 0 x))), (kt, .inl (aI, 9, .inl (upd ft 0 y))), (ar, .inl (aL, 9, .inr (.inl (vp_updL fa 0 0))))] := hD
  refine lv_iload_n hx hb dX0_addFace_50 rfl (lv_at hl 0 rfl) ?_
  have hP9 := hP.sub (ws' := [(h0, .inr (0, [.ref p1, .ref p2, .ref p3, .ref le, .ref ri, .ref wa, .ref kf, .ref kt, .ref ar, .int 1, .int 0])), (ri, .inl (aI, 9, .inl (upd fr 0 0))), (wa, .inl (aI, 9, .inl (upd fw 0 0))), (kf, .inl (aI, 9, .inl (upd fk 0 x))), (kt, .inl (aI, 9, .inl (upd ft 0 y)))]) [0, 1, 2, 3, 4] rfl
  have hD9 := hD.sub (ws' := [(h0, .inr (0, [.ref p1, .ref p2, .ref p3, .ref le, .ref ri, .ref wa, .ref kf, .ref kt, .ref ar, .int 1, .int 0])), (ri, .inl (aI, 9, .inl (upd fr 0 0))), (wa, .inl (aI, 9, .inl (upd fw 0 0))), (kf, .inl (aI, 9, .inl (upd fk 0 x))), (kt, .inl (aI, 9, .inl (upd ft 0 y)))]) [0, 1, 2, 3, 4] (by decide) rfl
  exact q_reti ((upd fr 0 0), (upd fw 0 0), (upd fk 0 x), (upd ft 0 y)) hx hb hr hlocks hK hP9 hD9 hS (Nat.le_of_ble_eq_true rfl) (Nat.le_of_ble_eq_true rfl) (⟨rfl, (by dsimp only; exact pk_us), (by dsimp only; exact pk_us), (by dsimp only; exact pk_us), (by dsimp only; exact pk_us)⟩) dX0_addFace_51
end
section
def vsJ7_fill_53178 : List Cond := .code yJ7_fill_53178 cJ7_fill_53178 4 none :: ([])
set_option maxHeartbeats 4000000 in
set_option maxRecDepth 100000 in
/-- Arrays.fill's loop, with i places written -/
theorem q_fill {p : Program} {l : Launch} {e : Env} {R : Room} {s : State} {m : MethodId} {args : Array Value} {below : List Frame} {meth : Method} {c : Code} {D : va_G} {aI aL aZ : ClassId} {A : Nat → Prop} {Q : State → Prop} {a : Nat} {v : Int32} (hx : p.tables.exec = Jvm.exec) (hb : c.code = cJ7_fill_53178) (hK : va_K D q_cl (q_ty aI aL aZ) s)
    (kk : ∀ (H : Heap) (locs : List Loc) (ls : Array Slot), va_S A s.heap H locs → W p l e R s m args below meth c H locs 0 0 Q (F0 m 20 ls [])) :
    ∀ (n i : Nat) (x : Int32) (f : Nat → Int32) (H : Heap) (locs : List Loc) (ls : Array Slot), i ≤ 16 → 16 < i + n → x = nI i → va_P D q_cl [(a, .inl (aI, 16, .inl f))] H → va_D A [(a, .inl (aI, 16, .inl f))] → va_S A s.heap H locs → lv_has ls 4 [(2, .int x), (3, .int 16), (0, .ref a), (1, .int v)] → W p l e R s m args below meth c H locs 0 0 Q (F0 m 5 ls []) := by
  intro n
  induction n with
  | zero => intro i x f H locs ls h1 h2; exact absurd h2 (by omega)
  | succ n ih =>
    intro i x f H locs ls h1 h2 ex hP hD hS hl
    refine lv_iload_n hx hb dJ7_fill_53178_5 rfl (lv_at hl 0 rfl) ?_
    refine lv_iload_n hx hb dJ7_fill_53178_6 rfl (lv_at hl 1 rfl) ?_
    refine lv_icmp_ge (tgt := 20) hx hb dJ7_fill_53178_7 (by decide) (fun c_1 => ?_) (fun c_1 => ?_)
    · exact kk H locs ls hS
    · have hlt : i < 16 := by
        rcases Nat.lt_or_ge i 16 with q | q
        · exact q
        · exact absurd (by rw [ex]; exact nI_le (a := 16) q (by omega)) c_1
      refine lv_aload_n hx hb dJ7_fill_53178_10 rfl (lv_at hl 2 rfl) ?_
      refine lv_iload_n hx hb dJ7_fill_53178_11 rfl (lv_at hl 0 rfl) ?_
      refine lv_iload_n hx hb dJ7_fill_53178_12 rfl (lv_at hl 3 rfl) ?_
      refine va_iast hx hb hK hP hD hS 0 0 rfl rfl (by rw [ex]; exact vp_in_nI hlt (by omega)) dJ7_fill_53178_13 (fun H locs hP hD hS => ?_)
      obtain ⟨x2, ex2⟩ : ∃ y : Int32, y = x + 1 := ⟨_, rfl⟩
      refine lv_iinc (v := x2) (lv' := [(2, .int x2), (3, .int 16), (0, .ref a), (1, .int v)]) hx hb dJ7_fill_53178_14 hl (k := 0) rfl (by rw [ex2]; rfl) (by decide) rfl (fun ls hl => ?_)
      refine lv_goto (tgt := 5) hx hb dJ7_fill_53178_17 (by decide) ?_
      exact ih (i + 1) x2 _ H locs ls hlt (by omega) (by rw [ex2, ex]; exact nI_1 i) hP hD hS hl
set_option maxHeartbeats 4000000 in
set_option maxRecDepth 100000 in
/-- Arrays.fill of a row of sixteen ints -/
theorem c_J7_fill_53178 (l : Launch) (D : va_G) (aI aL aZ : ClassId) (a : Nat) (f : Nat → Int32) (v : Int32) (sz : Nat) : MV l D q_cl (q_ty aI aL aZ) yJ7_fill_53178 vsJ7_fill_53178 0 0 0 [.ref a, .int v] [(a, .inl (aI, 16, .inl f))] sz (fun (u : Unit) => True) (fun (u : Unit) => ([] : va_W)) := by
  refine q_in cJ7_fill_53178 4 none (qQv D q_cl (q_ty aI aL aZ) _ _) (by decide) rfl (Nat.le_of_ble_eq_true rfl) ?_
  intro p e s m args below meth c A ls hat hP hD hS hl
  obtain ⟨hx, hb, hr, hts, hown, hlocks, hml, hin, hK, hN, hA⟩ := hat
  have hl : lv_has ls 4 [(0, .ref a), (1, .int v)] := hl
  refine lv_iconst (v := 0) hx hb dJ7_fill_53178_0 (by decide) ?_
  refine lv_istore_n (lv' := [(2, .int 0), (0, .ref a), (1, .int v)]) hx hb dJ7_fill_53178_1 rfl hl (by decide) rfl (fun ls hl => ?_)
  refine lv_aload_n hx hb dJ7_fill_53178_2 rfl (lv_at hl 1 rfl) ?_
  refine va_alen (v := 16) hx hb hK hP 0 0 rfl rfl rfl dJ7_fill_53178_3 ?_
  refine lv_istore_n (lv' := [(3, .int 16), (2, .int 0), (0, .ref a), (1, .int v)]) hx hb dJ7_fill_53178_4 rfl hl (by decide) rfl (fun ls hl => ?_)
  refine q_fill (aL := aL) (aZ := aZ) hx hb hK (fun H locs ls hS => ?_) 17 0 0 f _ _ ls (by decide) (by decide) nI_0.symm hP hD hS (lv_sub hl [1, 0, 2, 3] rfl)
  exact q_retv () hx hb hr hlocks hK (w := fun (u : Unit) => ([] : va_W)) (fun k q h => by simp at h) ⟨fun i j p q h => by simp at h, fun k q h => by simp at h⟩ hS (Nat.le_refl 0) (Nat.le_refl 0) trivial dJ7_fill_53178_20
def vsX0_clear : List Cond := .code yX0_clear cX0_clear 1 none :: ([.fieldLink RX0 34 "FaceMap$Faces" "leftOf" "[I", .fieldLink RX0 60 "FaceMap$Faces" "size" "I", .fieldLink RX0 64 "FaceMap$Faces" "parts" "I", .methodLink RX0 54 yJ7_fill_53178, .static yJ7_fill_53178, .initialized RJ7, .code yJ7_fill_53178 cJ7_fill_53178 4 none, .methodLink RX0 67 yX0_addFace, .instanceMethod yX0_addFace, .selects RX0 yX0_addFace yX0_addFace, .initialized RX0, .code yX0_addFace cX0_addFace 4 (some .int), .fieldLink RX0 38 "FaceMap$Faces" "rings" "[I", .fieldLink RX0 41 "FaceMap$Faces" "ways" "[I", .fieldLink RX0 50 "FaceMap$Faces" "area" "[J", .fieldLink RX0 44 "FaceMap$Faces" "keyFrom" "[I", .fieldLink RX0 47 "FaceMap$Faces" "keyTo" "[I"] ++ wsX00)
set_option maxRecDepth 20000 in
theorem n_X0_clear_X0 : ∀ w ∈ wsX00, w ∈ vsX0_clear := fun _ h => List.mem_cons_of_mem _ (List.mem_append_right _ h)
set_option maxRecDepth 20000 in
theorem g_X0_clear_J7_fill_53178_54 : GoodIn vsX0_clear (va_wsS RX0 54 yJ7_fill_53178 vsJ7_fill_53178) := goodIn_r _ [4, 5, 6, 7] rfl (by decide +kernel)
set_option maxRecDepth 20000 in
theorem g_X0_clear_X0_addFace_67 : GoodIn vsX0_clear (wsV RX0 67 RX0 yX0_addFace vsX0_addFace) := goodIn_r _ [8, 9, 10, 11, 12, 2, 13, 14, 15, 16, 17, 18, 19, 20, 21, 22, 23, 24, 25, 26, 27, 28] rfl (by decide +kernel)
set_option maxHeartbeats 4000000 in
set_option maxRecDepth 100000 in
/-- Faces.clear -/
theorem c_X0_clear (l : Launch) (D : va_G) (aI aL aZ : ClassId) (h0 : Nat) (p1 : Nat) (p2 : Nat) (p3 : Nat) (le : Nat) (ri : Nat) (wa : Nat) (kf : Nat) (kt : Nat) (ar : Nat) (fl : Nat → Int32) (fr : Nat → Int32) (fw : Nat → Int32) (fk : Nat → Int32) (ft : Nat → Int32) (fa : Nat → Int64) (sz : Nat) : MV l D q_cl (q_ty aI aL aZ) yX0_clear vsX0_clear 1 0 0 [.ref h0] [(h0, .inr (0, [.ref p1, .ref p2, .ref p3, .ref le, .ref ri, .ref wa, .ref kf, .ref kt, .ref ar, .int 0, .int 0])), (le, .inl (aI, 16, .inl fl)), (ri, .inl (aI, 9, .inl fr)), (wa, .inl (aI, 9, .inl fw)), (kf, .inl (aI, 9, .inl fk)), (kt, .inl (aI, 9, .inl ft)), (ar, .inl (aL, 9, .inr (.inl fa)))] sz (fun (u : (Nat → Int32) × (Nat → Int32) × (Nat → Int32) × (Nat → Int32)) => u.1 0 = 0 ∧ u.2.1 0 = 0 ∧ u.2.2.1 0 = (-1) ∧ u.2.2.2 0 = (-1)) (fun (u : (Nat → Int32) × (Nat → Int32) × (Nat → Int32) × (Nat → Int32)) => [(h0, .inr (0, [.ref p1, .ref p2, .ref p3, .ref le, .ref ri, .ref wa, .ref kf, .ref kt, .ref ar, .int 1, .int 0])), (ri, .inl (aI, 9, .inl u.1)), (wa, .inl (aI, 9, .inl u.2.1)), (kf, .inl (aI, 9, .inl u.2.2.1)), (kt, .inl (aI, 9, .inl u.2.2.2))]) := by
  refine q_in cX0_clear 1 none (qQv D q_cl (q_ty aI aL aZ) _ _) (by decide) rfl (Nat.le_of_ble_eq_true rfl) ?_
  intro p e s m args below meth c A ls hat hP hD hS hl
  obtain ⟨hx, hb, hr, hts, hown, hlocks, hml, hin, hK, hN, hA⟩ := hat
  have hown : s.vm.findClass RX0 = some m.cls := hown
  have hl : lv_has ls 1 [(0, .ref h0)] := hl
  refine lv_aload_n hx hb dX0_clear_0 rfl (lv_at hl 0 rfl) ?_
  refine va_get (D := D) (ci := 0) (v := .ref le) (C := RX0) (T := TX0) (N := 11) hx hb hts n_X0_clear_X0 hown hK hP 0 rfl rfl 3 (by decide) (hts (.fieldLink RX0 34 "FaceMap$Faces" "leftOf" "[I") (List.mem_of_getElem? (i := 1) rfl)) (fun _ h9 => h9) rfl dX0_clear_1 ?_
  refine lv_iconst (v := (-1)) hx hb dX0_clear_4 (by decide) ?_
  refine q_v (wr := [(h0, .inr (0, [.ref p1, .ref p2, .ref p3, .ref le, .ref ri, .ref wa, .ref kf, .ref kt, .ref ar, .int 0, .int 0])), (ri, .inl (aI, 9, .inl fr)), (wa, .inl (aI, 9, .inl fw)), (kf, .inl (aI, 9, .inl fk)), (kt, .inl (aI, 9, .inl ft)), (ar, .inl (aL, 9, .inr (.inl fa)))]) (q_runS (As := [.ref le, .int (-1)]) (rest := []) ⟨hx, hb, hml, hown, hts⟩ (c_J7_fill_53178 l D aI aL aZ le fl (-1) _) (va_cwS 2 hts g_X0_clear_J7_fill_53178_54 rfl rfl rfl (by decide +kernel) ⟨Nat.le_of_ble_eq_true rfl, Nat.le_of_ble_eq_true rfl⟩) hK hN hP hD [1] rfl (by decide) rfl hl.1 rfl (Nat.le_of_ble_eq_true rfl) dX0_clear_5 ⟨Nat.le_of_ble_eq_true rfl, Nat.le_of_ble_eq_true rfl⟩) hP hD hS hA [1] [0, 2, 3, 4, 5, 6] rfl rfl (by decide) (by decide) (fun u_1 H locs hw hP hD hS => ?_)
  have hP : va_P D q_cl [(h0, .inr (0, [.ref p1, .ref p2, .ref p3, .ref le, .ref ri, .ref wa, .ref kf, .ref kt, .ref ar, .int 0, .int 0])), (ri, .inl (aI, 9, .inl fr)), (wa, .inl (aI, 9, .inl fw)), (kf, .inl (aI, 9, .inl fk)), (kt, .inl (aI, 9, .inl ft)), (ar, .inl (aL, 9, .inr (.inl fa)))] H := hP
  have hD : va_D A [(h0, .inr (0, [.ref p1, .ref p2, .ref p3, .ref le, .ref ri, .ref wa, .ref kf, .ref kt, .ref ar, .int 0, .int 0])), (ri, .inl (aI, 9, .inl fr)), (wa, .inl (aI, 9, .inl fw)), (kf, .inl (aI, 9, .inl fk)), (kt, .inl (aI, 9, .inl ft)), (ar, .inl (aL, 9, .inr (.inl fa)))] := hD
  refine lv_aload_n hx hb dX0_clear_8 rfl (lv_at hl 0 rfl) ?_
  refine lv_iconst (v := 0) hx hb dX0_clear_9 (by decide) ?_
  refine va_put (D := D) (ci := 0) (v := .int 0) (ty := .int) (C := RX0) (T := TX0) (N := 11) hx hb hts n_X0_clear_X0 tyX0 tyX0_ok nmX0 hown hK hP hD hS 0 rfl rfl 9 (by decide) (hts (.fieldLink RX0 60 "FaceMap$Faces" "size" "I") (List.mem_of_getElem? (i := 2) rfl)) (fun _ h9 => h9) rfl (by decide +kernel) rfl rfl (Nat.le_of_ble_eq_true rfl) dX0_clear_10 (fun H locs hP hD hS => ?_)
  have hP : va_P D q_cl [(h0, .inr (0, [.ref p1, .ref p2, .ref p3, .ref le, .ref ri, .ref wa, .ref kf, .ref kt, .ref ar, .int 0, .int 0])), (ri, .inl (aI, 9, .inl fr)), (wa, .inl (aI, 9, .inl fw)), (kf, .inl (aI, 9, .inl fk)), (kt, .inl (aI, 9, .inl ft)), (ar, .inl (aL, 9, .inr (.inl fa)))] H := hP
  have hD : va_D A [(h0, .inr (0, [.ref p1, .ref p2, .ref p3, .ref le, .ref ri, .ref wa, .ref kf, .ref kt, .ref ar, .int 0, .int 0])), (ri, .inl (aI, 9, .inl fr)), (wa, .inl (aI, 9, .inl fw)), (kf, .inl (aI, 9, .inl fk)), (kt, .inl (aI, 9, .inl ft)), (ar, .inl (aL, 9, .inr (.inl fa)))] := hD
  refine lv_aload_n hx hb dX0_clear_13 rfl (lv_at hl 0 rfl) ?_
  refine lv_iconst (v := 0) hx hb dX0_clear_14 (by decide) ?_
  refine va_put (D := D) (ci := 0) (v := .int 0) (ty := .int) (C := RX0) (T := TX0) (N := 11) hx hb hts n_X0_clear_X0 tyX0 tyX0_ok nmX0 hown hK hP hD hS 0 rfl rfl 10 (by decide) (hts (.fieldLink RX0 64 "FaceMap$Faces" "parts" "I") (List.mem_of_getElem? (i := 3) rfl)) (fun _ h9 => h9) rfl (by decide +kernel) rfl rfl (Nat.le_of_ble_eq_true rfl) dX0_clear_15 (fun H locs hP hD hS => ?_)
  have hP : va_P D q_cl [(h0, .inr (0, [.ref p1, .ref p2, .ref p3, .ref le, .ref ri, .ref wa, .ref kf, .ref kt, .ref ar, .int 0, .int 0])), (ri, .inl (aI, 9, .inl fr)), (wa, .inl (aI, 9, .inl fw)), (kf, .inl (aI, 9, .inl fk)), (kt, .inl (aI, 9, .inl ft)), (ar, .inl (aL, 9, .inr (.inl fa)))] H := hP
  have hD : va_D A [(h0, .inr (0, [.ref p1, .ref p2, .ref p3, .ref le, .ref ri, .ref wa, .ref kf, .ref kt, .ref ar, .int 0, .int 0])), (ri, .inl (aI, 9, .inl fr)), (wa, .inl (aI, 9, .inl fw)), (kf, .inl (aI, 9, .inl fk)), (kt, .inl (aI, 9, .inl ft)), (ar, .inl (aL, 9, .inr (.inl fa)))] := hD
  refine lv_aload_n hx hb dX0_clear_18 rfl (lv_at hl 0 rfl) ?_
  refine lv_iconst (v := (-1)) hx hb dX0_clear_19 (by decide) ?_
  refine lv_iconst (v := (-1)) hx hb dX0_clear_20 (by decide) ?_
  refine q_i (wr := []) (q_runV (As := [.int (-1), .int (-1)]) (rest := []) ⟨hx, hb, hml, hown, hts⟩ (c_X0_addFace l D aI aL aZ h0 p1 p2 p3 le ri wa kf kt ar fr fw fk ft fa (-1) (-1) _) (cwV 2 hts g_X0_clear_X0_addFace_67 rfl rfl rfl (by decide +kernel) ⟨Nat.le_of_ble_eq_true rfl, Nat.le_of_ble_eq_true rfl⟩) hK hN hP hD [0, 1, 2, 3, 4, 5] rfl (by decide) rfl rfl rfl hl.1 rfl (Nat.le_of_ble_eq_true rfl) dX0_clear_21 ⟨Nat.le_of_ble_eq_true rfl, Nat.le_of_ble_eq_true rfl⟩) hP hD hS hA [0, 1, 2, 3, 4, 5] [] rfl rfl (by decide) (by decide) (fun r_2 u_2 H locs hw hP hD hS => ?_)
  obtain ⟨gr_2, gw_2, gk_2, gt_2⟩ := u_2
  obtain ⟨rfl, f2_0, f2_1, f2_2, f2_3⟩ := hw
  have hP : va_P D q_cl [(h0, .inr (0, [.ref p1, .ref p2, .ref p3, .ref le, .ref ri, .ref wa, .ref kf, .ref kt, .ref ar, .int 1, .int 0])), (ri, .inl (aI, 9, .inl gr_2)), (wa, .inl (aI, 9, .inl gw_2)), (kf, .inl (aI, 9, .inl gk_2)), (kt, .inl (aI, 9, .inl gt_2))] H := hP
  have hD : va_D A [(h0, .inr (0, [.ref p1, .ref p2, .ref p3, .ref le, .ref ri, .ref wa, .ref kf, .ref kt, .ref ar, .int 1, .int 0])), (ri, .inl (aI, 9, .inl gr_2)), (wa, .inl (aI, 9, .inl gw_2)), (kf, .inl (aI, 9, .inl gk_2)), (kt, .inl (aI, 9, .inl gt_2))] := hD
  refine lv_pop hx hb dX0_clear_24 rfl ?_
  have hP9 := hP.sub (ws' := [(h0, .inr (0, [.ref p1, .ref p2, .ref p3, .ref le, .ref ri, .ref wa, .ref kf, .ref kt, .ref ar, .int 1, .int 0])), (ri, .inl (aI, 9, .inl gr_2)), (wa, .inl (aI, 9, .inl gw_2)), (kf, .inl (aI, 9, .inl gk_2)), (kt, .inl (aI, 9, .inl gt_2))]) [0, 1, 2, 3, 4] rfl
  have hD9 := hD.sub (ws' := [(h0, .inr (0, [.ref p1, .ref p2, .ref p3, .ref le, .ref ri, .ref wa, .ref kf, .ref kt, .ref ar, .int 1, .int 0])), (ri, .inl (aI, 9, .inl gr_2)), (wa, .inl (aI, 9, .inl gw_2)), (kf, .inl (aI, 9, .inl gk_2)), (kt, .inl (aI, 9, .inl gt_2))]) [0, 1, 2, 3, 4] (by decide) rfl
  exact q_retv (gr_2, gw_2, gk_2, gt_2) hx hb hr hlocks hK hP9 hD9 hS (Nat.le_of_ble_eq_true rfl) (Nat.le_of_ble_eq_true rfl) (⟨(by first | assumption | decide | omega | simp_all), (by first | assumption | decide | omega | simp_all), (by first | assumption | decide | omega | simp_all), (by first | assumption | decide | omega | simp_all)⟩) dX0_clear_25
def vsX0_init : List Cond := .code yX0_init cX0_init 4 none :: ([.methodLink RX0 1 objectInit, .instanceMethod objectInit, .code objectInit ⟨#[0xb1]⟩ 1 none, .fieldLink RX0 7 "FaceMap$Faces" "pieces" "LFaceMap$Pieces;", .fieldLink RX0 13 "FaceMap$Faces" "nodes" "LFaceMap$Nodes;", .fieldLink RX0 17 "FaceMap$Faces" "sweep" "LFaceMap$Sweep;", .methodLink RX0 21 yX2_room, .instanceMethod yX2_room, .selects RX2 yX2_room yX2_room, .initialized RX2, .code yX2_room cX2_room 1 (some .int), .fieldLink RX2 9 "FaceMap$Pieces" "low" "[J", .methodLink RX0 27 yX0_makeRows, .instanceMethod yX0_makeRows, .selects RX0 yX0_makeRows yX0_makeRows, .initialized RX0, .code yX0_makeRows cX0_makeRows 2 none, .arrayClass .int, .fieldLink RX0 34 "FaceMap$Faces" "leftOf" "[I", .fieldLink RX0 38 "FaceMap$Faces" "rings" "[I", .fieldLink RX0 41 "FaceMap$Faces" "ways" "[I", .fieldLink RX0 44 "FaceMap$Faces" "keyFrom" "[I", .fieldLink RX0 47 "FaceMap$Faces" "keyTo" "[I", .arrayClass .long, .fieldLink RX0 50 "FaceMap$Faces" "area" "[J", .methodLink RX0 31 yX0_clear, .instanceMethod yX0_clear, .selects RX0 yX0_clear yX0_clear, .code yX0_clear cX0_clear 1 none, .fieldLink RX0 60 "FaceMap$Faces" "size" "I", .fieldLink RX0 64 "FaceMap$Faces" "parts" "I", .methodLink RX0 54 yJ7_fill_53178, .static yJ7_fill_53178, .initialized RJ7, .code yJ7_fill_53178 cJ7_fill_53178 4 none, .methodLink RX0 67 yX0_addFace, .instanceMethod yX0_addFace, .selects RX0 yX0_addFace yX0_addFace, .code yX0_addFace cX0_addFace 4 (some .int)] ++ wsX00 ++ wsX20)
set_option maxRecDepth 20000 in
theorem n_X0_init_X0 : ∀ w ∈ wsX00, w ∈ vsX0_init := fun _ h => List.mem_cons_of_mem _ (List.mem_append_left _ (List.mem_append_right _ h))
set_option maxRecDepth 20000 in
theorem g_X0_init_X2_room_21 : GoodIn vsX0_init (wsV RX0 21 RX2 yX2_room vsX2_room) := goodIn_r _ [7, 8, 9, 10, 11, 12, 51, 52, 53] rfl (by decide +kernel)
set_option maxRecDepth 20000 in
theorem g_X0_init_X0_makeRows_27 : GoodIn vsX0_init (wsV RX0 27 RX0 yX0_makeRows vsX0_makeRows) := goodIn_r _ [13, 14, 15, 16, 17, 18, 19, 20, 21, 22, 23, 24, 25, 40, 41, 42, 43, 44, 45, 46, 47, 48, 49, 50] rfl (by decide +kernel)
set_option maxRecDepth 20000 in
theorem g_X0_init_X0_clear_31 : GoodIn vsX0_init (wsV RX0 31 RX0 yX0_clear vsX0_clear) := goodIn_r _ [26, 27, 28, 16, 29, 19, 30, 31, 32, 33, 34, 35, 36, 37, 38, 16, 39, 20, 21, 25, 22, 23, 40, 41, 42, 43, 44, 45, 46, 47, 48, 49, 50] rfl (by decide +kernel)
set_option maxHeartbeats 4000000 in
set_option maxRecDepth 100000 in
/-- Faces() -/
theorem c_X0_init (l : Launch) (D : va_G) (aI aL aZ : ClassId) (h0 : Nat) (p1 : Nat) (p2 : Nat) (p3 : Nat) (lo : Nat) (hi : Nat) (f : Nat → Int64) (sz : Nat) : MV l D q_cl (q_ty aI aL aZ) yX0_init vsX0_init 2 6 61 [.ref h0, .ref p1, .ref p2, .ref p3] [(h0, .inr (0, [.null, .null, .null, .null, .null, .null, .null, .null, .null, .int 0, .int 0])), (p1, .inr (2, [.ref lo, .ref hi, .int 0])), (lo, .inl (aL, 8, .inr (.inl f)))] sz (fun (u : Nat × Nat × Nat × Nat × Nat × Nat × (Nat → Int32) × (Nat → Int32) × (Nat → Int32) × (Nat → Int32)) => u.2.2.2.2.2.2.1 0 = 0 ∧ u.2.2.2.2.2.2.2.1 0 = 0 ∧ u.2.2.2.2.2.2.2.2.1 0 = (-1) ∧ u.2.2.2.2.2.2.2.2.2 0 = (-1)) (fun (u : Nat × Nat × Nat × Nat × Nat × Nat × (Nat → Int32) × (Nat → Int32) × (Nat → Int32) × (Nat → Int32)) => [(h0, .inr (0, [.ref p1, .ref p2, .ref p3, .ref u.1, .ref u.2.1, .ref u.2.2.1, .ref u.2.2.2.1, .ref u.2.2.2.2.1, .ref u.2.2.2.2.2.1, .int 1, .int 0])), (u.2.1, .inl (aI, 9, .inl u.2.2.2.2.2.2.1)), (u.2.2.1, .inl (aI, 9, .inl u.2.2.2.2.2.2.2.1)), (u.2.2.2.1, .inl (aI, 9, .inl u.2.2.2.2.2.2.2.2.1)), (u.2.2.2.2.1, .inl (aI, 9, .inl u.2.2.2.2.2.2.2.2.2)), (p1, .inr (2, [.ref lo, .ref hi, .int 0])), (lo, .inl (aL, 8, .inr (.inl f)))]) := by
  refine q_in cX0_init 4 none (qQv D q_cl (q_ty aI aL aZ) _ _) (by decide) rfl (Nat.le_of_ble_eq_true rfl) ?_
  intro p e s m args below meth c A ls hat hP hD hS hl
  obtain ⟨hx, hb, hr, hts, hown, hlocks, hml, hin, hK, hN, hA⟩ := hat
  have hown : s.vm.findClass RX0 = some m.cls := hown
  have hl : lv_has ls 4 [(0, .ref h0), (1, .ref p1), (2, .ref p2), (3, .ref p3)] := hl
  refine lv_aload_n hx hb dX0_init_0 rfl (lv_at hl 0 rfl) ?_
  refine W.objInit hx hb hown (hts (.methodLink RX0 1 objectInit) (List.mem_of_getElem? (i := 1) rfl)) (hts (.instanceMethod objectInit) (List.mem_of_getElem? (i := 2) rfl)) (hts (.code objectInit ⟨#[0xb1]⟩ 1 none) (List.mem_of_getElem? (i := 3) rfl)) rfl (by rw [hml]; exact hl.1) rfl dX0_init_1 (Nat.le_of_ble_eq_true rfl) (Nat.le_of_ble_eq_true rfl) ?_
  refine W.eq (g2 := F0 m 4 ls []) rfl ?_
  refine lv_aload_n hx hb dX0_init_4 rfl (lv_at hl 0 rfl) ?_
  refine lv_aload_n hx hb dX0_init_5 rfl (lv_at hl 1 rfl) ?_
  refine va_putF (D := D) (ci := 0) (v := .ref p1) (ty := (.object "FaceMap$Pieces")) (C := RX0) (T := TX0) (N := 11) hx hb hts n_X0_init_X0 tyX0 tyX0_ok nmX0 hown hK hP hD hS 0 rfl rfl 0 (by decide) (hts (.fieldLink RX0 7 "FaceMap$Faces" "pieces" "LFaceMap$Pieces;") (List.mem_of_getElem? (i := 4) rfl)) (fun _ h9 => h9) rfl hin rfl (by decide +kernel) rfl rfl (Nat.le_of_ble_eq_true rfl) dX0_init_6 (fun H locs hP hD hS => ?_)
  have hP : va_P D q_cl [(h0, .inr (0, [.ref p1, .null, .null, .null, .null, .null, .null, .null, .null, .int 0, .int 0])), (p1, .inr (2, [.ref lo, .ref hi, .int 0])), (lo, .inl (aL, 8, .inr (.inl f)))] H := hP
  have hD : va_D A [(h0, .inr (0, [.ref p1, .null, .null, .null, .null, .null, .null, .null, .null, .int 0, .int 0])), (p1, .inr (2, [.ref lo, .ref hi, .int 0])), (lo, .inl (aL, 8, .inr (.inl f)))] := hD
  refine lv_aload_n hx hb dX0_init_9 rfl (lv_at hl 0 rfl) ?_
  refine lv_aload_n hx hb dX0_init_10 rfl (lv_at hl 2 rfl) ?_
  refine va_putF (D := D) (ci := 0) (v := .ref p2) (ty := (.object "FaceMap$Nodes")) (C := RX0) (T := TX0) (N := 11) hx hb hts n_X0_init_X0 tyX0 tyX0_ok nmX0 hown hK hP hD hS 0 rfl rfl 1 (by decide) (hts (.fieldLink RX0 13 "FaceMap$Faces" "nodes" "LFaceMap$Nodes;") (List.mem_of_getElem? (i := 5) rfl)) (fun _ h9 => h9) rfl hin rfl (by decide +kernel) rfl rfl (Nat.le_of_ble_eq_true rfl) dX0_init_11 (fun H locs hP hD hS => ?_)
  have hP : va_P D q_cl [(h0, .inr (0, [.ref p1, .ref p2, .null, .null, .null, .null, .null, .null, .null, .int 0, .int 0])), (p1, .inr (2, [.ref lo, .ref hi, .int 0])), (lo, .inl (aL, 8, .inr (.inl f)))] H := hP
  have hD : va_D A [(h0, .inr (0, [.ref p1, .ref p2, .null, .null, .null, .null, .null, .null, .null, .int 0, .int 0])), (p1, .inr (2, [.ref lo, .ref hi, .int 0])), (lo, .inl (aL, 8, .inr (.inl f)))] := hD
  refine lv_aload_n hx hb dX0_init_14 rfl (lv_at hl 0 rfl) ?_
  refine lv_aload_n hx hb dX0_init_15 rfl (lv_at hl 3 rfl) ?_
  refine va_putF (D := D) (ci := 0) (v := .ref p3) (ty := (.object "FaceMap$Sweep")) (C := RX0) (T := TX0) (N := 11) hx hb hts n_X0_init_X0 tyX0 tyX0_ok nmX0 hown hK hP hD hS 0 rfl rfl 2 (by decide) (hts (.fieldLink RX0 17 "FaceMap$Faces" "sweep" "LFaceMap$Sweep;") (List.mem_of_getElem? (i := 6) rfl)) (fun _ h9 => h9) rfl hin rfl (by decide +kernel) rfl rfl (Nat.le_of_ble_eq_true rfl) dX0_init_16 (fun H locs hP hD hS => ?_)
  have hP : va_P D q_cl [(h0, .inr (0, [.ref p1, .ref p2, .ref p3, .null, .null, .null, .null, .null, .null, .int 0, .int 0])), (p1, .inr (2, [.ref lo, .ref hi, .int 0])), (lo, .inl (aL, 8, .inr (.inl f)))] H := hP
  have hD : va_D A [(h0, .inr (0, [.ref p1, .ref p2, .ref p3, .null, .null, .null, .null, .null, .null, .int 0, .int 0])), (p1, .inr (2, [.ref lo, .ref hi, .int 0])), (lo, .inl (aL, 8, .inr (.inl f)))] := hD
  refine lv_aload_n hx hb dX0_init_19 rfl (lv_at hl 0 rfl) ?_
  refine lv_aload_n hx hb dX0_init_20 rfl (lv_at hl 1 rfl) ?_
  refine q_i (wr := [(h0, .inr (0, [.ref p1, .ref p2, .ref p3, .null, .null, .null, .null, .null, .null, .int 0, .int 0]))]) (q_runV (As := []) (rest := [.ref h0]) ⟨hx, hb, hml, hown, hts⟩ (c_X2_room l D aI aL aZ p1 lo hi f _) (cwV 0 hts g_X0_init_X2_room_21 rfl rfl rfl (by decide +kernel) ⟨Nat.le_of_ble_eq_true rfl, Nat.le_of_ble_eq_true rfl⟩) hK hN hP hD [1, 2] rfl (by decide) rfl rfl rfl hl.1 rfl (Nat.le_of_ble_eq_true rfl) dX0_init_21 ⟨Nat.le_of_ble_eq_true rfl, Nat.le_of_ble_eq_true rfl⟩) hP hD hS hA [1, 2] [0] rfl rfl (by decide) (by decide) (fun r_1 u_1 H locs hw hP hD hS => ?_)
  subst hw
  have hP : va_P D q_cl [(h0, .inr (0, [.ref p1, .ref p2, .ref p3, .null, .null, .null, .null, .null, .null, .int 0, .int 0])), (p1, .inr (2, [.ref lo, .ref hi, .int 0])), (lo, .inl (aL, 8, .inr (.inl f)))] H := hP
  have hD : va_D A [(h0, .inr (0, [.ref p1, .ref p2, .ref p3, .null, .null, .null, .null, .null, .null, .int 0, .int 0])), (p1, .inr (2, [.ref lo, .ref hi, .int 0])), (lo, .inl (aL, 8, .inr (.inl f)))] := hD
  refine q_v (wr := [(p1, .inr (2, [.ref lo, .ref hi, .int 0])), (lo, .inl (aL, 8, .inr (.inl f)))]) (q_runV (As := [.int 8]) (rest := []) ⟨hx, hb, hml, hown, hts⟩ (c_X0_makeRows l D aI aL aZ h0 p1 p2 p3 _) (cwV 1 hts g_X0_init_X0_makeRows_27 rfl rfl rfl (by decide +kernel) ⟨Nat.le_of_ble_eq_true rfl, Nat.le_of_ble_eq_true rfl⟩) hK hN hP hD [0] rfl (by decide) rfl rfl rfl hl.1 rfl (Nat.le_of_ble_eq_true rfl) dX0_init_24 ⟨Nat.le_of_ble_eq_true rfl, Nat.le_of_ble_eq_true rfl⟩) hP hD hS hA [0] [1, 2] rfl rfl (by decide) (by decide) (fun u_2 H locs hw hP hD hS => ?_)
  obtain ⟨le_2, ri_2, wa_2, kf_2, kt_2, ar_2⟩ := u_2
  have hP : va_P D q_cl [(p1, .inr (2, [.ref lo, .ref hi, .int 0])), (lo, .inl (aL, 8, .inr (.inl f))), (h0, .inr (0, [.ref p1, .ref p2, .ref p3, .ref le_2, .ref ri_2, .ref wa_2, .ref kf_2, .ref kt_2, .ref ar_2, .int 0, .int 0])), (le_2, .inl (aI, 16, .inl (fun _ => 0))), (ri_2, .inl (aI, 9, .inl (fun _ => 0))), (wa_2, .inl (aI, 9, .inl (fun _ => 0))), (kf_2, .inl (aI, 9, .inl (fun _ => 0))), (kt_2, .inl (aI, 9, .inl (fun _ => 0))), (ar_2, .inl (aL, 9, .inr (.inl (fun _ => 0))))] H := hP
  have hD : va_D A [(p1, .inr (2, [.ref lo, .ref hi, .int 0])), (lo, .inl (aL, 8, .inr (.inl f))), (h0, .inr (0, [.ref p1, .ref p2, .ref p3, .ref le_2, .ref ri_2, .ref wa_2, .ref kf_2, .ref kt_2, .ref ar_2, .int 0, .int 0])), (le_2, .inl (aI, 16, .inl (fun _ => 0))), (ri_2, .inl (aI, 9, .inl (fun _ => 0))), (wa_2, .inl (aI, 9, .inl (fun _ => 0))), (kf_2, .inl (aI, 9, .inl (fun _ => 0))), (kt_2, .inl (aI, 9, .inl (fun _ => 0))), (ar_2, .inl (aL, 9, .inr (.inl (fun _ => 0))))] := hD
  refine lv_aload_n hx hb dX0_init_27 rfl (lv_at hl 0 rfl) ?_
  refine q_v (wr := [(p1, .inr (2, [.ref lo, .ref hi, .int 0])), (lo, .inl (aL, 8, .inr (.inl f)))]) (q_runV (As := []) (rest := []) ⟨hx, hb, hml, hown, hts⟩ (c_X0_clear l D aI aL aZ h0 p1 p2 p3 le_2 ri_2 wa_2 kf_2 kt_2 ar_2 (fun _ => 0) (fun _ => 0) (fun _ => 0) (fun _ => 0) (fun _ => 0) (fun _ => 0) _) (cwV 0 hts g_X0_init_X0_clear_31 rfl rfl rfl (by decide +kernel) ⟨Nat.le_of_ble_eq_true rfl, Nat.le_of_ble_eq_true rfl⟩) hK hN hP hD [2, 3, 4, 5, 6, 7, 8] rfl (by decide) rfl rfl rfl hl.1 rfl (Nat.le_of_ble_eq_true rfl) dX0_init_28 ⟨Nat.le_of_ble_eq_true rfl, Nat.le_of_ble_eq_true rfl⟩) hP hD hS hA [2, 3, 4, 5, 6, 7, 8] [0, 1] rfl rfl (by decide) (by decide) (fun u_3 H locs hw hP hD hS => ?_)
  obtain ⟨gr_3, gw_3, gk_3, gt_3⟩ := u_3
  obtain ⟨f3_0, f3_1, f3_2, f3_3⟩ := hw
  have hP : va_P D q_cl [(p1, .inr (2, [.ref lo, .ref hi, .int 0])), (lo, .inl (aL, 8, .inr (.inl f))), (h0, .inr (0, [.ref p1, .ref p2, .ref p3, .ref le_2, .ref ri_2, .ref wa_2, .ref kf_2, .ref kt_2, .ref ar_2, .int 1, .int 0])), (ri_2, .inl (aI, 9, .inl gr_3)), (wa_2, .inl (aI, 9, .inl gw_3)), (kf_2, .inl (aI, 9, .inl gk_3)), (kt_2, .inl (aI, 9, .inl gt_3))] H := hP
  have hD : va_D A [(p1, .inr (2, [.ref lo, .ref hi, .int 0])), (lo, .inl (aL, 8, .inr (.inl f))), (h0, .inr (0, [.ref p1, .ref p2, .ref p3, .ref le_2, .ref ri_2, .ref wa_2, .ref kf_2, .ref kt_2, .ref ar_2, .int 1, .int 0])), (ri_2, .inl (aI, 9, .inl gr_3)), (wa_2, .inl (aI, 9, .inl gw_3)), (kf_2, .inl (aI, 9, .inl gk_3)), (kt_2, .inl (aI, 9, .inl gt_3))] := hD
  have hP9 := hP.sub (ws' := [(h0, .inr (0, [.ref p1, .ref p2, .ref p3, .ref le_2, .ref ri_2, .ref wa_2, .ref kf_2, .ref kt_2, .ref ar_2, .int 1, .int 0])), (ri_2, .inl (aI, 9, .inl gr_3)), (wa_2, .inl (aI, 9, .inl gw_3)), (kf_2, .inl (aI, 9, .inl gk_3)), (kt_2, .inl (aI, 9, .inl gt_3)), (p1, .inr (2, [.ref lo, .ref hi, .int 0])), (lo, .inl (aL, 8, .inr (.inl f)))]) [2, 3, 4, 5, 6, 0, 1] rfl
  have hD9 := hD.sub (ws' := [(h0, .inr (0, [.ref p1, .ref p2, .ref p3, .ref le_2, .ref ri_2, .ref wa_2, .ref kf_2, .ref kt_2, .ref ar_2, .int 1, .int 0])), (ri_2, .inl (aI, 9, .inl gr_3)), (wa_2, .inl (aI, 9, .inl gw_3)), (kf_2, .inl (aI, 9, .inl gk_3)), (kt_2, .inl (aI, 9, .inl gt_3)), (p1, .inr (2, [.ref lo, .ref hi, .int 0])), (lo, .inl (aL, 8, .inr (.inl f)))]) [2, 3, 4, 5, 6, 0, 1] (by decide) rfl
  exact q_retv (le_2, ri_2, wa_2, kf_2, kt_2, ar_2, gr_3, gw_3, gk_3, gt_3) hx hb hr hlocks hK hP9 hD9 hS (Nat.le_of_ble_eq_true rfl) (Nat.le_of_ble_eq_true rfl) (⟨(by first | assumption | decide | omega | simp_all), (by first | assumption | decide | omega | simp_all), (by first | assumption | decide | omega | simp_all), (by first | assumption | decide | omega | simp_all)⟩) dX0_init_31
def vsX0_has : List Cond := .code yX0_has cX0_has 2 (some .boolean) :: ([.fieldLink RX0 60 "FaceMap$Faces" "size" "I"] ++ wsX00)
set_option maxRecDepth 20000 in
theorem n_X0_has_X0 : ∀ w ∈ wsX00, w ∈ vsX0_has := fun _ h => List.mem_cons_of_mem _ (List.mem_append_right _ h)
set_option maxHeartbeats 4000000 in
set_option maxRecDepth 100000 in
/-- Faces.has, with the outside alone -/
theorem c_X0_has (l : Launch) (D : va_G) (aI aL aZ : ClassId) (h0 : Nat) (p1 : Nat) (p2 : Nat) (p3 : Nat) (le : Nat) (ri : Nat) (wa : Nat) (kf : Nat) (kt : Nat) (ar : Nat) (x : Int32) (sz : Nat) : MI l D q_cl (q_ty aI aL aZ) yX0_has vsX0_has 0 0 0 [.ref h0, .int x] [(h0, .inr (0, [.ref p1, .ref p2, .ref p3, .ref le, .ref ri, .ref wa, .ref kf, .ref kt, .ref ar, .int 1, .int 0]))] sz (fun (r : Int32) (u : Unit) => (r = 1 ∧ x = 0) ∨ (r = 0 ∧ ¬ x = 0)) (fun (u : Unit) => [(h0, .inr (0, [.ref p1, .ref p2, .ref p3, .ref le, .ref ri, .ref wa, .ref kf, .ref kt, .ref ar, .int 1, .int 0]))]) := by
  refine q_in cX0_has 2 (some .boolean) (qQi D q_cl (q_ty aI aL aZ) _ _) (by decide) rfl (Nat.le_of_ble_eq_true rfl) ?_
  intro p e s m args below meth c A ls hat hP hD hS hl
  obtain ⟨hx, hb, hr, hts, hown, hlocks, hml, hin, hK, hN, hA⟩ := hat
  have hown : s.vm.findClass RX0 = some m.cls := hown
  have hl : lv_has ls 2 [(0, .ref h0), (1, .int x)] := hl
  refine lv_iload_n hx hb dX0_has_0 rfl (lv_at hl 1 rfl) ?_
  refine lv_if_lt (tgt := 16) hx hb dX0_has_1 (by decide) (fun c_1 => ?_) (fun c_1 => ?_)
  · refine lv_iconst (v := 0) hx hb dX0_has_16 (by decide) ?_
    have hP9 := hP.sub (ws' := [(h0, .inr (0, [.ref p1, .ref p2, .ref p3, .ref le, .ref ri, .ref wa, .ref kf, .ref kt, .ref ar, .int 1, .int 0]))]) [0] rfl
    have hD9 := hD.sub (ws' := [(h0, .inr (0, [.ref p1, .ref p2, .ref p3, .ref le, .ref ri, .ref wa, .ref kf, .ref kt, .ref ar, .int 1, .int 0]))]) [0] (by decide) rfl
    exact q_retz () hx hb hr (by decide) hlocks hK hP9 hD9 hS (Nat.le_of_ble_eq_true rfl) (Nat.le_of_ble_eq_true rfl) (Or.inr (⟨rfl, (q_hasn (by first | exact Or.inl (by assumption) | exact Or.inr (by assumption)))⟩)) dX0_has_17
  · refine lv_iload_n hx hb dX0_has_4 rfl (lv_at hl 1 rfl) ?_
    refine lv_aload_n hx hb dX0_has_5 rfl (lv_at hl 0 rfl) ?_
    refine va_get (D := D) (ci := 0) (v := .int 1) (C := RX0) (T := TX0) (N := 11) hx hb hts n_X0_has_X0 hown hK hP 0 rfl rfl 9 (by decide) (hts (.fieldLink RX0 60 "FaceMap$Faces" "size" "I") (List.mem_of_getElem? (i := 1) rfl)) (fun _ h9 => h9) rfl dX0_has_6 ?_
    refine lv_icmp_ge (tgt := 16) hx hb dX0_has_9 (by decide) (fun c_2 => ?_) (fun c_2 => ?_)
    · refine lv_iconst (v := 0) hx hb dX0_has_16 (by decide) ?_
      have hP9 := hP.sub (ws' := [(h0, .inr (0, [.ref p1, .ref p2, .ref p3, .ref le, .ref ri, .ref wa, .ref kf, .ref kt, .ref ar, .int 1, .int 0]))]) [0] rfl
      have hD9 := hD.sub (ws' := [(h0, .inr (0, [.ref p1, .ref p2, .ref p3, .ref le, .ref ri, .ref wa, .ref kf, .ref kt, .ref ar, .int 1, .int 0]))]) [0] (by decide) rfl
      exact q_retz () hx hb hr (by decide) hlocks hK hP9 hD9 hS (Nat.le_of_ble_eq_true rfl) (Nat.le_of_ble_eq_true rfl) (Or.inr (⟨rfl, (q_hasn (by first | exact Or.inl (by assumption) | exact Or.inr (by assumption)))⟩)) dX0_has_17
    · refine lv_iconst (v := 1) hx hb dX0_has_12 (by decide) ?_
      refine lv_goto (tgt := 17) hx hb dX0_has_13 (by decide) ?_
      have hP9 := hP.sub (ws' := [(h0, .inr (0, [.ref p1, .ref p2, .ref p3, .ref le, .ref ri, .ref wa, .ref kf, .ref kt, .ref ar, .int 1, .int 0]))]) [0] rfl
      have hD9 := hD.sub (ws' := [(h0, .inr (0, [.ref p1, .ref p2, .ref p3, .ref le, .ref ri, .ref wa, .ref kf, .ref kt, .ref ar, .int 1, .int 0]))]) [0] (by decide) rfl
      exact q_retz () hx hb hr (by decide) hlocks hK hP9 hD9 hS (Nat.le_of_ble_eq_true rfl) (Nat.le_of_ble_eq_true rfl) (Or.inl (⟨rfl, (q_has (by assumption) (by assumption))⟩)) dX0_has_17
def vsX0_above : List Cond := .code yX0_above cX0_above 2 (some .int) :: ([])
set_option maxHeartbeats 4000000 in
set_option maxRecDepth 100000 in
/-- Faces.above none -/
theorem c_X0_above (l : Launch) (D : va_G) (aI aL aZ : ClassId) (h0 : Nat) (p1 : Nat) (p2 : Nat) (p3 : Nat) (le : Nat) (ri : Nat) (wa : Nat) (kf : Nat) (kt : Nat) (ar : Nat) (sz : Nat) : MI l D q_cl (q_ty aI aL aZ) yX0_above vsX0_above 0 0 0 [.ref h0, .int (-1)] [(h0, .inr (0, [.ref p1, .ref p2, .ref p3, .ref le, .ref ri, .ref wa, .ref kf, .ref kt, .ref ar, .int 1, .int 0]))] sz (fun (r : Int32) (u : Unit) => r = 0) (fun (u : Unit) => [(h0, .inr (0, [.ref p1, .ref p2, .ref p3, .ref le, .ref ri, .ref wa, .ref kf, .ref kt, .ref ar, .int 1, .int 0]))]) := by
  refine q_in cX0_above 2 (some .int) (qQi D q_cl (q_ty aI aL aZ) _ _) (by decide) rfl (Nat.le_of_ble_eq_true rfl) ?_
  intro p e s m args below meth c A ls hat hP hD hS hl
  obtain ⟨hx, hb, hr, hts, hown, hlocks, hml, hin, hK, hN, hA⟩ := hat
  have hown : s.vm.findClass RX0 = some m.cls := hown
  have hl : lv_has ls 2 [(0, .ref h0), (1, .int (-1))] := hl
  refine lv_iload_n hx hb dX0_above_0 rfl (lv_at hl 1 rfl) ?_
  refine lv_if_ge (tgt := 8) hx hb dX0_above_1 (by decide) (fun c_1 => ?_) (fun c_1 => ?_)
  · exact absurd c_1 (by decide)
  · refine lv_iconst (v := 0) hx hb dX0_above_4 (by decide) ?_
    refine lv_goto (tgt := 17) hx hb dX0_above_5 (by decide) ?_
    have hP9 := hP.sub (ws' := [(h0, .inr (0, [.ref p1, .ref p2, .ref p3, .ref le, .ref ri, .ref wa, .ref kf, .ref kt, .ref ar, .int 1, .int 0]))]) [0] rfl
    have hD9 := hD.sub (ws' := [(h0, .inr (0, [.ref p1, .ref p2, .ref p3, .ref le, .ref ri, .ref wa, .ref kf, .ref kt, .ref ar, .int 1, .int 0]))]) [0] (by decide) rfl
    exact q_reti () hx hb hr hlocks hK hP9 hD9 hS (Nat.le_of_ble_eq_true rfl) (Nat.le_of_ble_eq_true rfl) (rfl) dX0_above_17
def vsX0_piecesBetween : List Cond := .code yX0_piecesBetween cX0_piecesBetween 7 (some .int) :: ([.fieldLink RX0 7 "FaceMap$Faces" "pieces" "LFaceMap$Pieces;", .fieldLink RX0 71 "FaceMap$Pieces" "size" "I"] ++ wsX00 ++ wsX20)
set_option maxRecDepth 20000 in
theorem n_X0_piecesBetween_X0 : ∀ w ∈ wsX00, w ∈ vsX0_piecesBetween := fun _ h => List.mem_cons_of_mem _ (List.mem_append_left _ (List.mem_append_right _ h))
set_option maxRecDepth 20000 in
theorem n_X0_piecesBetween_X2 : ∀ w ∈ wsX20, w ∈ vsX0_piecesBetween := fun _ h => List.mem_cons_of_mem _ (List.mem_append_right _ h)
set_option maxHeartbeats 4000000 in
set_option maxRecDepth 100000 in
/-- Faces.piecesBetween, with no piece -/
theorem c_X0_piecesBetween (l : Launch) (D : va_G) (aI aL aZ : ClassId) (h0 : Nat) (p1 : Nat) (p2 : Nat) (p3 : Nat) (le : Nat) (ri : Nat) (wa : Nat) (kf : Nat) (kt : Nat) (ar : Nat) (lo : Nat) (hi : Nat) (x : Int32) (y : Int32) (sz : Nat) : MI l D q_cl (q_ty aI aL aZ) yX0_piecesBetween vsX0_piecesBetween 0 0 0 [.ref h0, .int x, .int y] [(h0, .inr (0, [.ref p1, .ref p2, .ref p3, .ref le, .ref ri, .ref wa, .ref kf, .ref kt, .ref ar, .int 1, .int 0])), (p1, .inr (2, [.ref lo, .ref hi, .int 0]))] sz (fun (r : Int32) (u : Unit) => r = 0) (fun (u : Unit) => ([] : va_W)) := by
  refine q_in cX0_piecesBetween 7 (some .int) (qQi D q_cl (q_ty aI aL aZ) _ _) (by decide) rfl (Nat.le_of_ble_eq_true rfl) ?_
  intro p e s m args below meth c A ls hat hP hD hS hl
  obtain ⟨hx, hb, hr, hts, hown, hlocks, hml, hin, hK, hN, hA⟩ := hat
  have hown : s.vm.findClass RX0 = some m.cls := hown
  have hl : lv_has ls 7 [(0, .ref h0), (1, .int x), (2, .int y)] := hl
  refine lv_iconst (v := 0) hx hb dX0_piecesBetween_0 (by decide) ?_
  refine lv_istore_n (lv' := [(3, .int 0), (0, .ref h0), (1, .int x), (2, .int y)]) hx hb dX0_piecesBetween_1 rfl hl (by decide) rfl (fun ls hl => ?_)
  refine lv_iconst (v := 0) hx hb dX0_piecesBetween_2 (by decide) ?_
  refine lv_istore (lv' := [(4, .int 0), (3, .int 0), (0, .ref h0), (1, .int x), (2, .int y)]) hx hb dX0_piecesBetween_3 hl (by decide) rfl (fun ls hl => ?_)
  refine lv_iload hx hb dX0_piecesBetween_5 (lv_at hl 0 rfl) ?_
  refine lv_aload_n hx hb dX0_piecesBetween_7 rfl (lv_at hl 2 rfl) ?_
  refine va_get (D := D) (ci := 0) (v := .ref p1) (C := RX0) (T := TX0) (N := 11) hx hb hts n_X0_piecesBetween_X0 hown hK hP 0 rfl rfl 0 (by decide) (hts (.fieldLink RX0 7 "FaceMap$Faces" "pieces" "LFaceMap$Pieces;") (List.mem_of_getElem? (i := 1) rfl)) (fun _ h9 => h9) rfl dX0_piecesBetween_8 ?_
  refine va_get (D := D) (ci := 2) (v := .int 0) (C := RX2) (T := TX2) (N := 3) hx hb hts n_X0_piecesBetween_X2 hown hK hP 1 rfl rfl 2 (by decide) (hts (.fieldLink RX0 71 "FaceMap$Pieces" "size" "I") (List.mem_of_getElem? (i := 2) rfl)) (fun _ h9 => h9) rfl dX0_piecesBetween_11 ?_
  refine lv_icmp_ge (tgt := 74) hx hb dX0_piecesBetween_14 (by decide) (fun c_1 => ?_) (fun c_1 => ?_)
  · refine lv_iload_n hx hb dX0_piecesBetween_74 rfl (lv_at hl 1 rfl) ?_
    have hP9 := hP.sub (ws' := []) [] rfl
    have hD9 := hD.sub (ws' := []) [] (by decide) rfl
    exact q_reti () hx hb hr hlocks hK hP9 hD9 hS (Nat.le_of_ble_eq_true rfl) (Nat.le_of_ble_eq_true rfl) (rfl) dX0_piecesBetween_75
  · exact absurd c_1 (by decide)
end
section
def vsX6_init : List Cond := .code yX6_init cX6_init 1 none :: ([.methodLink RX6 1 objectInit, .instanceMethod objectInit, .code objectInit ⟨#[0xb1]⟩ 1 none, .classLink RX6 7 RX2, .instantiable RX2 3, .initialized RX2, .methodLink RX6 9 yX2_init, .instanceMethod yX2_init, .fieldLink RX6 10 "FaceMap" "pieces" "LFaceMap$Pieces;", .classLink RX6 16 RX1, .instantiable RX1 3, .initialized RX1, .methodLink RX6 18 yX1_init, .instanceMethod yX1_init, .fieldLink RX6 19 "FaceMap" "nodes" "LFaceMap$Nodes;", .classLink RX6 23 RX4, .instantiable RX4 8, .initialized RX4, .methodLink RX6 25 yX4_init, .instanceMethod yX4_init, .fieldLink RX6 28 "FaceMap" "sweep" "LFaceMap$Sweep;", .classLink RX6 32 RX0, .instantiable RX0 11, .initialized RX0, .methodLink RX6 34 yX0_init, .instanceMethod yX0_init, .fieldLink RX6 37 "FaceMap" "faces" "LFaceMap$Faces;", .fieldLink RX6 41 "FaceMap" "facesAreOld" "Z", .code yX2_init cX2_init 1 none, .methodLink RX2 1 objectInit, .arrayClass .long, .fieldLink RX2 9 "FaceMap$Pieces" "low" "[J", .fieldLink RX2 13 "FaceMap$Pieces" "high" "[J", .fieldLink RX2 16 "FaceMap$Pieces" "size" "I", .code yX1_init cX1_init 1 none, .methodLink RX1 1 objectInit, .fieldLink RX1 9 "FaceMap$Nodes" "at" "[J", .arrayClass .int, .fieldLink RX1 13 "FaceMap$Nodes" "degree" "[I", .fieldLink RX1 17 "FaceMap$Nodes" "size" "I", .code yX4_init cX4_init 3 none, .methodLink RX4 1 objectInit, .fieldLink RX4 7 "FaceMap$Sweep" "pieces" "LFaceMap$Pieces;", .fieldLink RX4 13 "FaceMap$Sweep" "nodes" "LFaceMap$Nodes;", .methodLink RX4 17 yX2_room, .instanceMethod yX2_room, .selects RX2 yX2_room yX2_room, .code yX2_room cX2_room 1 (some .int), .methodLink RX4 23 yX4_makeRows, .instanceMethod yX4_makeRows, .selects RX4 yX4_makeRows yX4_makeRows, .code yX4_makeRows cX4_makeRows 2 none, .fieldLink RX4 27 "FaceMap$Sweep" "crossed" "[I", .fieldLink RX4 31 "FaceMap$Sweep" "around" "[I", .fieldLink RX4 34 "FaceMap$Sweep" "next" "[I", .fieldLink RX4 37 "FaceMap$Sweep" "below" "[I", .code yX0_init cX0_init 4 none, .methodLink RX0 1 objectInit, .fieldLink RX0 7 "FaceMap$Faces" "pieces" "LFaceMap$Pieces;", .fieldLink RX0 13 "FaceMap$Faces" "nodes" "LFaceMap$Nodes;", .fieldLink RX0 17 "FaceMap$Faces" "sweep" "LFaceMap$Sweep;", .methodLink RX0 21 yX2_room, .methodLink RX0 27 yX0_makeRows, .instanceMethod yX0_makeRows, .selects RX0 yX0_makeRows yX0_makeRows, .code yX0_makeRows cX0_makeRows 2 none, .fieldLink RX0 34 "FaceMap$Faces" "leftOf" "[I", .fieldLink RX0 38 "FaceMap$Faces" "rings" "[I", .fieldLink RX0 41 "FaceMap$Faces" "ways" "[I", .fieldLink RX0 44 "FaceMap$Faces" "keyFrom" "[I", .fieldLink RX0 47 "FaceMap$Faces" "keyTo" "[I", .fieldLink RX0 50 "FaceMap$Faces" "area" "[J", .methodLink RX0 31 yX0_clear, .instanceMethod yX0_clear, .selects RX0 yX0_clear yX0_clear, .code yX0_clear cX0_clear 1 none, .fieldLink RX0 60 "FaceMap$Faces" "size" "I", .fieldLink RX0 64 "FaceMap$Faces" "parts" "I", .methodLink RX0 54 yJ7_fill_53178, .static yJ7_fill_53178, .initialized RJ7, .code yJ7_fill_53178 cJ7_fill_53178 4 none, .methodLink RX0 67 yX0_addFace, .instanceMethod yX0_addFace, .selects RX0 yX0_addFace yX0_addFace, .code yX0_addFace cX0_addFace 4 (some .int)] ++ wsX20 ++ wsX60 ++ wsX10 ++ wsX40 ++ wsX00)
set_option maxRecDepth 20000 in
theorem n_X6_init_X2 : ∀ w ∈ wsX20, w ∈ vsX6_init := fun _ h => List.mem_cons_of_mem _ (List.mem_append_left _ (List.mem_append_left _ (List.mem_append_left _ (List.mem_append_left _ (List.mem_append_right _ h)))))
set_option maxRecDepth 20000 in
theorem g_X6_init_X2_init_9 : GoodIn vsX6_init vsX2_init := goodIn_r _ [29, 30, 2, 3, 31, 32, 33, 34, 87, 88, 89] rfl (by decide +kernel)
set_option maxRecDepth 20000 in
theorem n_X6_init_X6 : ∀ w ∈ wsX60, w ∈ vsX6_init := fun _ h => List.mem_cons_of_mem _ (List.mem_append_left _ (List.mem_append_left _ (List.mem_append_left _ (List.mem_append_right _ h))))
set_option maxRecDepth 20000 in
theorem n_X6_init_X1 : ∀ w ∈ wsX10, w ∈ vsX6_init := fun _ h => List.mem_cons_of_mem _ (List.mem_append_left _ (List.mem_append_left _ (List.mem_append_right _ h)))
set_option maxRecDepth 20000 in
theorem g_X6_init_X1_init_18 : GoodIn vsX6_init vsX1_init := goodIn_r _ [35, 36, 2, 3, 31, 37, 38, 39, 40, 95, 96, 97] rfl (by decide +kernel)
set_option maxRecDepth 20000 in
theorem n_X6_init_X4 : ∀ w ∈ wsX40, w ∈ vsX6_init := fun _ h => List.mem_cons_of_mem _ (List.mem_append_left _ (List.mem_append_right _ h))
set_option maxRecDepth 20000 in
theorem g_X6_init_X4_init_25 : GoodIn vsX6_init vsX4_init := goodIn_r _ [41, 42, 2, 3, 43, 44, 45, 46, 47, 6, 48, 32, 49, 50, 51, 18, 52, 38, 53, 54, 55, 56, 98, 99, 100, 101, 102, 103, 104, 105, 87, 88, 89] rfl (by decide +kernel)
set_option maxRecDepth 20000 in
theorem n_X6_init_X0 : ∀ w ∈ wsX00, w ∈ vsX6_init := fun _ h => List.mem_cons_of_mem _ (List.mem_append_right _ h)
set_option maxRecDepth 20000 in
theorem g_X6_init_X0_init_34 : GoodIn vsX6_init vsX0_init := goodIn_r _ [57, 58, 2, 3, 59, 60, 61, 62, 46, 47, 6, 48, 32, 63, 64, 65, 24, 66, 38, 67, 68, 69, 70, 71, 31, 72, 73, 74, 75, 76, 77, 78, 79, 80, 81, 82, 83, 84, 85, 86, 106, 107, 108, 109, 110, 111, 112, 113, 114, 115, 116, 87, 88, 89] rfl (by decide +kernel)
set_option maxHeartbeats 4000000 in
set_option maxRecDepth 100000 in
/-- FaceMap() -/
theorem c_X6_init (l : Launch) (D : va_G) (aI aL aZ : ClassId) (h0 : Nat) (sz : Nat) : MV l D q_cl (q_ty aI aL aZ) yX6_init vsX6_init 3 18 182 [.ref h0] [(h0, .inr (4, [.null, .null, .null, .null, .int 0]))] sz (fun (u : Nat × Nat × Nat × Nat × Nat × Nat × Nat × Nat × Nat × Nat × Nat × Nat × Nat × Nat × (Nat → Int32) × (Nat → Int32) × (Nat → Int32) × (Nat → Int32)) => u.2.2.2.2.2.2.2.2.2.2.2.2.2.2.1 0 = 0 ∧ u.2.2.2.2.2.2.2.2.2.2.2.2.2.2.2.1 0 = 0 ∧ u.2.2.2.2.2.2.2.2.2.2.2.2.2.2.2.2.1 0 = (-1) ∧ u.2.2.2.2.2.2.2.2.2.2.2.2.2.2.2.2.2 0 = (-1)) (fun (u : Nat × Nat × Nat × Nat × Nat × Nat × Nat × Nat × Nat × Nat × Nat × Nat × Nat × Nat × (Nat → Int32) × (Nat → Int32) × (Nat → Int32) × (Nat → Int32)) => [(h0, .inr (4, [.ref u.1, .ref u.2.1, .ref u.2.2.1, .ref u.2.2.2.1, .int 0])), (u.1, .inr (2, [.ref u.2.2.2.2.1, .ref u.2.2.2.2.2.1, .int 0])), (u.2.2.2.2.1, .inl (aL, 8, .inr (.inl (fun _ => 0)))), (u.2.2.2.2.2.1, .inl (aL, 8, .inr (.inl (fun _ => 0)))), (u.2.1, .inr (1, [.ref u.2.2.2.2.2.2.1, .ref u.2.2.2.2.2.2.2.1, .int 0])), (u.2.2.2.2.2.2.1, .inl (aL, 16, .inr (.inl (fun _ => 0)))), (u.2.2.2.2.2.2.2.1, .inl (aI, 16, .inl (fun _ => 0))), (u.2.2.2.1, .inr (0, [.ref u.1, .ref u.2.1, .ref u.2.2.1, .ref u.2.2.2.2.2.2.2.2.1, .ref u.2.2.2.2.2.2.2.2.2.1, .ref u.2.2.2.2.2.2.2.2.2.2.1, .ref u.2.2.2.2.2.2.2.2.2.2.2.1, .ref u.2.2.2.2.2.2.2.2.2.2.2.2.1, .ref u.2.2.2.2.2.2.2.2.2.2.2.2.2.1, .int 1, .int 0])), (u.2.2.2.2.2.2.2.2.2.1, .inl (aI, 9, .inl u.2.2.2.2.2.2.2.2.2.2.2.2.2.2.1)), (u.2.2.2.2.2.2.2.2.2.2.1, .inl (aI, 9, .inl u.2.2.2.2.2.2.2.2.2.2.2.2.2.2.2.1)), (u.2.2.2.2.2.2.2.2.2.2.2.1, .inl (aI, 9, .inl u.2.2.2.2.2.2.2.2.2.2.2.2.2.2.2.2.1)), (u.2.2.2.2.2.2.2.2.2.2.2.2.1, .inl (aI, 9, .inl u.2.2.2.2.2.2.2.2.2.2.2.2.2.2.2.2.2))]) := by
  refine q_in cX6_init 1 none (qQv D q_cl (q_ty aI aL aZ) _ _) (by decide) rfl (Nat.le_of_ble_eq_true rfl) ?_
  intro p e s m args below meth c A ls hat hP hD hS hl
  obtain ⟨hx, hb, hr, hts, hown, hlocks, hml, hin, hK, hN, hA⟩ := hat
  have hown : s.vm.findClass RX6 = some m.cls := hown
  have hl : lv_has ls 1 [(0, .ref h0)] := hl
  refine lv_aload_n hx hb dX6_init_0 rfl (lv_at hl 0 rfl) ?_
  refine W.objInit hx hb hown (hts (.methodLink RX6 1 objectInit) (List.mem_of_getElem? (i := 1) rfl)) (hts (.instanceMethod objectInit) (List.mem_of_getElem? (i := 2) rfl)) (hts (.code objectInit ⟨#[0xb1]⟩ 1 none) (List.mem_of_getElem? (i := 3) rfl)) rfl (by rw [hml]; exact hl.1) rfl dX6_init_1 (Nat.le_of_ble_eq_true rfl) (Nat.le_of_ble_eq_true rfl) ?_
  refine W.eq (g2 := F0 m 4 ls []) rfl ?_
  refine lv_aload_n hx hb dX6_init_4 rfl (lv_at hl 0 rfl) ?_
  refine va_new (ci := 2) (fs := [.null, .null, .int 0]) (C := RX2) (T := TX2) (N := 3) hx hb hts n_X6_init_X2 tyX2 tyX2_ok hown (hts (.classLink RX6 7 RX2) (List.mem_of_getElem? (i := 4) rfl)) (hts (.instantiable RX2 3) (List.mem_of_getElem? (i := 5) rfl)) (hts (.initialized RX2) (List.mem_of_getElem? (i := 6) rfl)) hK hP hD hS hA rfl (by decide +kernel) (Nat.le_of_ble_eq_true rfl) (Nat.le_of_ble_eq_true rfl) dX6_init_5 (fun q1 H hP hD hS => ?_)
  have hP : va_P D q_cl [(h0, .inr (4, [.null, .null, .null, .null, .int 0])), (q1, .inr (2, [.null, .null, .int 0]))] H := hP
  have hD : va_D A [(h0, .inr (4, [.null, .null, .null, .null, .int 0])), (q1, .inr (2, [.null, .null, .int 0]))] := hD
  refine lv_dup hx hb dX6_init_8 rfl ?_
  refine q_v (wr := [(h0, .inr (4, [.null, .null, .null, .null, .int 0]))]) (q_runI (As := []) (rest := [.ref q1, .ref h0]) ⟨hx, hb, hml, hown, hts⟩ (c_X2_init l D aI aL aZ q1 _) (cwI 0 hts g_X6_init_X2_init_9 rfl rfl rfl (hts (.initialized RX2) (List.mem_of_getElem? (i := 6) rfl)) (hts (.methodLink RX6 9 yX2_init) (List.mem_of_getElem? (i := 7) rfl)) (hts (.instanceMethod yX2_init) (List.mem_of_getElem? (i := 8) rfl)) rfl (by decide +kernel) ⟨Nat.le_of_ble_eq_true rfl, Nat.le_of_ble_eq_true rfl⟩) hK hN hP hD [1] rfl (by decide) rfl hl.1 rfl (Nat.le_of_ble_eq_true rfl) dX6_init_9 ⟨Nat.le_of_ble_eq_true rfl, Nat.le_of_ble_eq_true rfl⟩) hP hD hS hA [1] [0] rfl rfl (by decide) (by decide) (fun u_2 H locs hw hP hD hS => ?_)
  obtain ⟨lo_2, hi_2⟩ := u_2
  have hP : va_P D q_cl [(h0, .inr (4, [.null, .null, .null, .null, .int 0])), (q1, .inr (2, [.ref lo_2, .ref hi_2, .int 0])), (lo_2, .inl (aL, 8, .inr (.inl (fun _ => 0)))), (hi_2, .inl (aL, 8, .inr (.inl (fun _ => 0))))] H := hP
  have hD : va_D A [(h0, .inr (4, [.null, .null, .null, .null, .int 0])), (q1, .inr (2, [.ref lo_2, .ref hi_2, .int 0])), (lo_2, .inl (aL, 8, .inr (.inl (fun _ => 0)))), (hi_2, .inl (aL, 8, .inr (.inl (fun _ => 0))))] := hD
  refine va_putF (D := D) (ci := 4) (v := .ref q1) (ty := (.object "FaceMap$Pieces")) (C := RX6) (T := TX6) (N := 5) hx hb hts n_X6_init_X6 tyX6 tyX6_ok nmX6 hown hK hP hD hS 0 rfl rfl 0 (by decide) (hts (.fieldLink RX6 10 "FaceMap" "pieces" "LFaceMap$Pieces;") (List.mem_of_getElem? (i := 9) rfl)) (fun _ h9 => h9) rfl hin rfl (by decide +kernel) rfl rfl (Nat.le_of_ble_eq_true rfl) dX6_init_12 (fun H locs hP hD hS => ?_)
  have hP : va_P D q_cl [(h0, .inr (4, [.ref q1, .null, .null, .null, .int 0])), (q1, .inr (2, [.ref lo_2, .ref hi_2, .int 0])), (lo_2, .inl (aL, 8, .inr (.inl (fun _ => 0)))), (hi_2, .inl (aL, 8, .inr (.inl (fun _ => 0))))] H := hP
  have hD : va_D A [(h0, .inr (4, [.ref q1, .null, .null, .null, .int 0])), (q1, .inr (2, [.ref lo_2, .ref hi_2, .int 0])), (lo_2, .inl (aL, 8, .inr (.inl (fun _ => 0)))), (hi_2, .inl (aL, 8, .inr (.inl (fun _ => 0))))] := hD
  refine lv_aload_n hx hb dX6_init_15 rfl (lv_at hl 0 rfl) ?_
  refine va_new (ci := 1) (fs := [.null, .null, .int 0]) (C := RX1) (T := TX1) (N := 3) hx hb hts n_X6_init_X1 tyX1 tyX1_ok hown (hts (.classLink RX6 16 RX1) (List.mem_of_getElem? (i := 10) rfl)) (hts (.instantiable RX1 3) (List.mem_of_getElem? (i := 11) rfl)) (hts (.initialized RX1) (List.mem_of_getElem? (i := 12) rfl)) hK hP hD hS hA rfl (by decide +kernel) (Nat.le_of_ble_eq_true rfl) (Nat.le_of_ble_eq_true rfl) dX6_init_16 (fun q3 H hP hD hS => ?_)
  have hP : va_P D q_cl [(h0, .inr (4, [.ref q1, .null, .null, .null, .int 0])), (q1, .inr (2, [.ref lo_2, .ref hi_2, .int 0])), (lo_2, .inl (aL, 8, .inr (.inl (fun _ => 0)))), (hi_2, .inl (aL, 8, .inr (.inl (fun _ => 0)))), (q3, .inr (1, [.null, .null, .int 0]))] H := hP
  have hD : va_D A [(h0, .inr (4, [.ref q1, .null, .null, .null, .int 0])), (q1, .inr (2, [.ref lo_2, .ref hi_2, .int 0])), (lo_2, .inl (aL, 8, .inr (.inl (fun _ => 0)))), (hi_2, .inl (aL, 8, .inr (.inl (fun _ => 0)))), (q3, .inr (1, [.null, .null, .int 0]))] := hD
  refine lv_dup hx hb dX6_init_19 rfl ?_
  refine q_v (wr := [(h0, .inr (4, [.ref q1, .null, .null, .null, .int 0])), (q1, .inr (2, [.ref lo_2, .ref hi_2, .int 0])), (lo_2, .inl (aL, 8, .inr (.inl (fun _ => 0)))), (hi_2, .inl (aL, 8, .inr (.inl (fun _ => 0))))]) (q_runI (As := []) (rest := [.ref q3, .ref h0]) ⟨hx, hb, hml, hown, hts⟩ (c_X1_init l D aI aL aZ q3 _) (cwI 0 hts g_X6_init_X1_init_18 rfl rfl rfl (hts (.initialized RX1) (List.mem_of_getElem? (i := 12) rfl)) (hts (.methodLink RX6 18 yX1_init) (List.mem_of_getElem? (i := 13) rfl)) (hts (.instanceMethod yX1_init) (List.mem_of_getElem? (i := 14) rfl)) rfl (by decide +kernel) ⟨Nat.le_of_ble_eq_true rfl, Nat.le_of_ble_eq_true rfl⟩) hK hN hP hD [4] rfl (by decide) rfl hl.1 rfl (Nat.le_of_ble_eq_true rfl) dX6_init_20 ⟨Nat.le_of_ble_eq_true rfl, Nat.le_of_ble_eq_true rfl⟩) hP hD hS hA [4] [0, 1, 2, 3] rfl rfl (by decide) (by decide) (fun u_4 H locs hw hP hD hS => ?_)
  obtain ⟨at__4, dg_4⟩ := u_4
  have hP : va_P D q_cl [(h0, .inr (4, [.ref q1, .null, .null, .null, .int 0])), (q1, .inr (2, [.ref lo_2, .ref hi_2, .int 0])), (lo_2, .inl (aL, 8, .inr (.inl (fun _ => 0)))), (hi_2, .inl (aL, 8, .inr (.inl (fun _ => 0)))), (q3, .inr (1, [.ref at__4, .ref dg_4, .int 0])), (at__4, .inl (aL, 16, .inr (.inl (fun _ => 0)))), (dg_4, .inl (aI, 16, .inl (fun _ => 0)))] H := hP
  have hD : va_D A [(h0, .inr (4, [.ref q1, .null, .null, .null, .int 0])), (q1, .inr (2, [.ref lo_2, .ref hi_2, .int 0])), (lo_2, .inl (aL, 8, .inr (.inl (fun _ => 0)))), (hi_2, .inl (aL, 8, .inr (.inl (fun _ => 0)))), (q3, .inr (1, [.ref at__4, .ref dg_4, .int 0])), (at__4, .inl (aL, 16, .inr (.inl (fun _ => 0)))), (dg_4, .inl (aI, 16, .inl (fun _ => 0)))] := hD
  refine va_putF (D := D) (ci := 4) (v := .ref q3) (ty := (.object "FaceMap$Nodes")) (C := RX6) (T := TX6) (N := 5) hx hb hts n_X6_init_X6 tyX6 tyX6_ok nmX6 hown hK hP hD hS 0 rfl rfl 1 (by decide) (hts (.fieldLink RX6 19 "FaceMap" "nodes" "LFaceMap$Nodes;") (List.mem_of_getElem? (i := 15) rfl)) (fun _ h9 => h9) rfl hin rfl (by decide +kernel) rfl rfl (Nat.le_of_ble_eq_true rfl) dX6_init_23 (fun H locs hP hD hS => ?_)
  have hP : va_P D q_cl [(h0, .inr (4, [.ref q1, .ref q3, .null, .null, .int 0])), (q1, .inr (2, [.ref lo_2, .ref hi_2, .int 0])), (lo_2, .inl (aL, 8, .inr (.inl (fun _ => 0)))), (hi_2, .inl (aL, 8, .inr (.inl (fun _ => 0)))), (q3, .inr (1, [.ref at__4, .ref dg_4, .int 0])), (at__4, .inl (aL, 16, .inr (.inl (fun _ => 0)))), (dg_4, .inl (aI, 16, .inl (fun _ => 0)))] H := hP
  have hD : va_D A [(h0, .inr (4, [.ref q1, .ref q3, .null, .null, .int 0])), (q1, .inr (2, [.ref lo_2, .ref hi_2, .int 0])), (lo_2, .inl (aL, 8, .inr (.inl (fun _ => 0)))), (hi_2, .inl (aL, 8, .inr (.inl (fun _ => 0)))), (q3, .inr (1, [.ref at__4, .ref dg_4, .int 0])), (at__4, .inl (aL, 16, .inr (.inl (fun _ => 0)))), (dg_4, .inl (aI, 16, .inl (fun _ => 0)))] := hD
  refine lv_aload_n hx hb dX6_init_26 rfl (lv_at hl 0 rfl) ?_
  refine va_new (ci := 3) (fs := [.null, .null, .int 0, .null, .int 0, .null, .null, .null]) (C := RX4) (T := TX4) (N := 8) hx hb hts n_X6_init_X4 tyX4 tyX4_ok hown (hts (.classLink RX6 23 RX4) (List.mem_of_getElem? (i := 16) rfl)) (hts (.instantiable RX4 8) (List.mem_of_getElem? (i := 17) rfl)) (hts (.initialized RX4) (List.mem_of_getElem? (i := 18) rfl)) hK hP hD hS hA rfl (by decide +kernel) (Nat.le_of_ble_eq_true rfl) (Nat.le_of_ble_eq_true rfl) dX6_init_27 (fun q5 H hP hD hS => ?_)
  have hP : va_P D q_cl [(h0, .inr (4, [.ref q1, .ref q3, .null, .null, .int 0])), (q1, .inr (2, [.ref lo_2, .ref hi_2, .int 0])), (lo_2, .inl (aL, 8, .inr (.inl (fun _ => 0)))), (hi_2, .inl (aL, 8, .inr (.inl (fun _ => 0)))), (q3, .inr (1, [.ref at__4, .ref dg_4, .int 0])), (at__4, .inl (aL, 16, .inr (.inl (fun _ => 0)))), (dg_4, .inl (aI, 16, .inl (fun _ => 0))), (q5, .inr (3, [.null, .null, .int 0, .null, .int 0, .null, .null, .null]))] H := hP
  have hD : va_D A [(h0, .inr (4, [.ref q1, .ref q3, .null, .null, .int 0])), (q1, .inr (2, [.ref lo_2, .ref hi_2, .int 0])), (lo_2, .inl (aL, 8, .inr (.inl (fun _ => 0)))), (hi_2, .inl (aL, 8, .inr (.inl (fun _ => 0)))), (q3, .inr (1, [.ref at__4, .ref dg_4, .int 0])), (at__4, .inl (aL, 16, .inr (.inl (fun _ => 0)))), (dg_4, .inl (aI, 16, .inl (fun _ => 0))), (q5, .inr (3, [.null, .null, .int 0, .null, .int 0, .null, .null, .null]))] := hD
  refine lv_dup hx hb dX6_init_30 rfl ?_
  refine lv_aload_n hx hb dX6_init_31 rfl (lv_at hl 0 rfl) ?_
  refine va_get (D := D) (ci := 4) (v := .ref q1) (C := RX6) (T := TX6) (N := 5) hx hb hts n_X6_init_X6 hown hK hP 0 rfl rfl 0 (by decide) (hts (.fieldLink RX6 10 "FaceMap" "pieces" "LFaceMap$Pieces;") (List.mem_of_getElem? (i := 9) rfl)) (fun _ h9 => h9) rfl dX6_init_32 ?_
  refine lv_aload_n hx hb dX6_init_35 rfl (lv_at hl 0 rfl) ?_
  refine va_get (D := D) (ci := 4) (v := .ref q3) (C := RX6) (T := TX6) (N := 5) hx hb hts n_X6_init_X6 hown hK hP 0 rfl rfl 1 (by decide) (hts (.fieldLink RX6 19 "FaceMap" "nodes" "LFaceMap$Nodes;") (List.mem_of_getElem? (i := 15) rfl)) (fun _ h9 => h9) rfl dX6_init_36 ?_
  refine q_v (wr := [(h0, .inr (4, [.ref q1, .ref q3, .null, .null, .int 0])), (hi_2, .inl (aL, 8, .inr (.inl (fun _ => 0)))), (q3, .inr (1, [.ref at__4, .ref dg_4, .int 0])), (at__4, .inl (aL, 16, .inr (.inl (fun _ => 0)))), (dg_4, .inl (aI, 16, .inl (fun _ => 0)))]) (q_runI (As := [.ref q1, .ref q3]) (rest := [.ref q5, .ref h0]) ⟨hx, hb, hml, hown, hts⟩ (c_X4_init l D aI aL aZ q5 q1 q3 lo_2 hi_2 (fun _ => 0) _) (cwI 2 hts g_X6_init_X4_init_25 rfl rfl rfl (hts (.initialized RX4) (List.mem_of_getElem? (i := 18) rfl)) (hts (.methodLink RX6 25 yX4_init) (List.mem_of_getElem? (i := 19) rfl)) (hts (.instanceMethod yX4_init) (List.mem_of_getElem? (i := 20) rfl)) rfl (by decide +kernel) ⟨Nat.le_of_ble_eq_true rfl, Nat.le_of_ble_eq_true rfl⟩) hK hN hP hD [7, 1, 2] rfl (by decide) rfl hl.1 rfl (Nat.le_of_ble_eq_true rfl) dX6_init_39 ⟨Nat.le_of_ble_eq_true rfl, Nat.le_of_ble_eq_true rfl⟩) hP hD hS hA [7, 1, 2] [0, 3, 4, 5, 6] rfl rfl (by decide) (by decide) (fun u_6 H locs hw hP hD hS => ?_)
  have hP : va_P D q_cl [(h0, .inr (4, [.ref q1, .ref q3, .null, .null, .int 0])), (hi_2, .inl (aL, 8, .inr (.inl (fun _ => 0)))), (q3, .inr (1, [.ref at__4, .ref dg_4, .int 0])), (at__4, .inl (aL, 16, .inr (.inl (fun _ => 0)))), (dg_4, .inl (aI, 16, .inl (fun _ => 0))), (q1, .inr (2, [.ref lo_2, .ref hi_2, .int 0])), (lo_2, .inl (aL, 8, .inr (.inl (fun _ => 0))))] H := hP
  have hD : va_D A [(h0, .inr (4, [.ref q1, .ref q3, .null, .null, .int 0])), (hi_2, .inl (aL, 8, .inr (.inl (fun _ => 0)))), (q3, .inr (1, [.ref at__4, .ref dg_4, .int 0])), (at__4, .inl (aL, 16, .inr (.inl (fun _ => 0)))), (dg_4, .inl (aI, 16, .inl (fun _ => 0))), (q1, .inr (2, [.ref lo_2, .ref hi_2, .int 0])), (lo_2, .inl (aL, 8, .inr (.inl (fun _ => 0))))] := hD
  refine va_putF (D := D) (ci := 4) (v := .ref q5) (ty := (.object "FaceMap$Sweep")) (C := RX6) (T := TX6) (N := 5) hx hb hts n_X6_init_X6 tyX6 tyX6_ok nmX6 hown hK hP hD hS 0 rfl rfl 2 (by decide) (hts (.fieldLink RX6 28 "FaceMap" "sweep" "LFaceMap$Sweep;") (List.mem_of_getElem? (i := 21) rfl)) (fun _ h9 => h9) rfl hin rfl (by decide +kernel) rfl rfl (Nat.le_of_ble_eq_true rfl) dX6_init_42 (fun H locs hP hD hS => ?_)
  have hP : va_P D q_cl [(h0, .inr (4, [.ref q1, .ref q3, .ref q5, .null, .int 0])), (hi_2, .inl (aL, 8, .inr (.inl (fun _ => 0)))), (q3, .inr (1, [.ref at__4, .ref dg_4, .int 0])), (at__4, .inl (aL, 16, .inr (.inl (fun _ => 0)))), (dg_4, .inl (aI, 16, .inl (fun _ => 0))), (q1, .inr (2, [.ref lo_2, .ref hi_2, .int 0])), (lo_2, .inl (aL, 8, .inr (.inl (fun _ => 0))))] H := hP
  have hD : va_D A [(h0, .inr (4, [.ref q1, .ref q3, .ref q5, .null, .int 0])), (hi_2, .inl (aL, 8, .inr (.inl (fun _ => 0)))), (q3, .inr (1, [.ref at__4, .ref dg_4, .int 0])), (at__4, .inl (aL, 16, .inr (.inl (fun _ => 0)))), (dg_4, .inl (aI, 16, .inl (fun _ => 0))), (q1, .inr (2, [.ref lo_2, .ref hi_2, .int 0])), (lo_2, .inl (aL, 8, .inr (.inl (fun _ => 0))))] := hD
  refine lv_aload_n hx hb dX6_init_45 rfl (lv_at hl 0 rfl) ?_
  refine va_new (ci := 0) (fs := [.null, .null, .null, .null, .null, .null, .null, .null, .null, .int 0, .int 0]) (C := RX0) (T := TX0) (N := 11) hx hb hts n_X6_init_X0 tyX0 tyX0_ok hown (hts (.classLink RX6 32 RX0) (List.mem_of_getElem? (i := 22) rfl)) (hts (.instantiable RX0 11) (List.mem_of_getElem? (i := 23) rfl)) (hts (.initialized RX0) (List.mem_of_getElem? (i := 24) rfl)) hK hP hD hS hA rfl (by decide +kernel) (Nat.le_of_ble_eq_true rfl) (Nat.le_of_ble_eq_true rfl) dX6_init_46 (fun q7 H hP hD hS => ?_)
  have hP : va_P D q_cl [(h0, .inr (4, [.ref q1, .ref q3, .ref q5, .null, .int 0])), (hi_2, .inl (aL, 8, .inr (.inl (fun _ => 0)))), (q3, .inr (1, [.ref at__4, .ref dg_4, .int 0])), (at__4, .inl (aL, 16, .inr (.inl (fun _ => 0)))), (dg_4, .inl (aI, 16, .inl (fun _ => 0))), (q1, .inr (2, [.ref lo_2, .ref hi_2, .int 0])), (lo_2, .inl (aL, 8, .inr (.inl (fun _ => 0)))), (q7, .inr (0, [.null, .null, .null, .null, .null, .null, .null, .null, .null, .int 0, .int 0]))] H := hP
  have hD : va_D A [(h0, .inr (4, [.ref q1, .ref q3, .ref q5, .null, .int 0])), (hi_2, .inl (aL, 8, .inr (.inl (fun _ => 0)))), (q3, .inr (1, [.ref at__4, .ref dg_4, .int 0])), (at__4, .inl (aL, 16, .inr (.inl (fun _ => 0)))), (dg_4, .inl (aI, 16, .inl (fun _ => 0))), (q1, .inr (2, [.ref lo_2, .ref hi_2, .int 0])), (lo_2, .inl (aL, 8, .inr (.inl (fun _ => 0)))), (q7, .inr (0, [.null, .null, .null, .null, .null, .null, .null, .null, .null, .int 0, .int 0]))] := hD
  refine lv_dup hx hb dX6_init_49 rfl ?_
  refine lv_aload_n hx hb dX6_init_50 rfl (lv_at hl 0 rfl) ?_
  refine va_get (D := D) (ci := 4) (v := .ref q1) (C := RX6) (T := TX6) (N := 5) hx hb hts n_X6_init_X6 hown hK hP 0 rfl rfl 0 (by decide) (hts (.fieldLink RX6 10 "FaceMap" "pieces" "LFaceMap$Pieces;") (List.mem_of_getElem? (i := 9) rfl)) (fun _ h9 => h9) rfl dX6_init_51 ?_
  refine lv_aload_n hx hb dX6_init_54 rfl (lv_at hl 0 rfl) ?_
  refine va_get (D := D) (ci := 4) (v := .ref q3) (C := RX6) (T := TX6) (N := 5) hx hb hts n_X6_init_X6 hown hK hP 0 rfl rfl 1 (by decide) (hts (.fieldLink RX6 19 "FaceMap" "nodes" "LFaceMap$Nodes;") (List.mem_of_getElem? (i := 15) rfl)) (fun _ h9 => h9) rfl dX6_init_55 ?_
  refine lv_aload_n hx hb dX6_init_58 rfl (lv_at hl 0 rfl) ?_
  refine va_get (D := D) (ci := 4) (v := .ref q5) (C := RX6) (T := TX6) (N := 5) hx hb hts n_X6_init_X6 hown hK hP 0 rfl rfl 2 (by decide) (hts (.fieldLink RX6 28 "FaceMap" "sweep" "LFaceMap$Sweep;") (List.mem_of_getElem? (i := 21) rfl)) (fun _ h9 => h9) rfl dX6_init_59 ?_
  refine q_v (wr := [(h0, .inr (4, [.ref q1, .ref q3, .ref q5, .null, .int 0])), (hi_2, .inl (aL, 8, .inr (.inl (fun _ => 0)))), (q3, .inr (1, [.ref at__4, .ref dg_4, .int 0])), (at__4, .inl (aL, 16, .inr (.inl (fun _ => 0)))), (dg_4, .inl (aI, 16, .inl (fun _ => 0)))]) (q_runI (As := [.ref q1, .ref q3, .ref q5]) (rest := [.ref q7, .ref h0]) ⟨hx, hb, hml, hown, hts⟩ (c_X0_init l D aI aL aZ q7 q1 q3 q5 lo_2 hi_2 (fun _ => 0) _) (cwI 3 hts g_X6_init_X0_init_34 rfl rfl rfl (hts (.initialized RX0) (List.mem_of_getElem? (i := 24) rfl)) (hts (.methodLink RX6 34 yX0_init) (List.mem_of_getElem? (i := 25) rfl)) (hts (.instanceMethod yX0_init) (List.mem_of_getElem? (i := 26) rfl)) rfl (by decide +kernel) ⟨Nat.le_of_ble_eq_true rfl, Nat.le_of_ble_eq_true rfl⟩) hK hN hP hD [7, 5, 6] rfl (by decide) rfl hl.1 rfl (Nat.le_of_ble_eq_true rfl) dX6_init_62 ⟨Nat.le_of_ble_eq_true rfl, Nat.le_of_ble_eq_true rfl⟩) hP hD hS hA [7, 5, 6] [0, 1, 2, 3, 4] rfl rfl (by decide) (by decide) (fun u_8 H locs hw hP hD hS => ?_)
  obtain ⟨le_8, ri_8, wa_8, kf_8, kt_8, ar_8, gr_8, gw_8, gk_8, gt_8⟩ := u_8
  obtain ⟨f8_0, f8_1, f8_2, f8_3⟩ := hw
  have hP : va_P D q_cl [(h0, .inr (4, [.ref q1, .ref q3, .ref q5, .null, .int 0])), (hi_2, .inl (aL, 8, .inr (.inl (fun _ => 0)))), (q3, .inr (1, [.ref at__4, .ref dg_4, .int 0])), (at__4, .inl (aL, 16, .inr (.inl (fun _ => 0)))), (dg_4, .inl (aI, 16, .inl (fun _ => 0))), (q7, .inr (0, [.ref q1, .ref q3, .ref q5, .ref le_8, .ref ri_8, .ref wa_8, .ref kf_8, .ref kt_8, .ref ar_8, .int 1, .int 0])), (ri_8, .inl (aI, 9, .inl gr_8)), (wa_8, .inl (aI, 9, .inl gw_8)), (kf_8, .inl (aI, 9, .inl gk_8)), (kt_8, .inl (aI, 9, .inl gt_8)), (q1, .inr (2, [.ref lo_2, .ref hi_2, .int 0])), (lo_2, .inl (aL, 8, .inr (.inl (fun _ => 0))))] H := hP
  have hD : va_D A [(h0, .inr (4, [.ref q1, .ref q3, .ref q5, .null, .int 0])), (hi_2, .inl (aL, 8, .inr (.inl (fun _ => 0)))), (q3, .inr (1, [.ref at__4, .ref dg_4, .int 0])), (at__4, .inl (aL, 16, .inr (.inl (fun _ => 0)))), (dg_4, .inl (aI, 16, .inl (fun _ => 0))), (q7, .inr (0, [.ref q1, .ref q3, .ref q5, .ref le_8, .ref ri_8, .ref wa_8, .ref kf_8, .ref kt_8, .ref ar_8, .int 1, .int 0])), (ri_8, .inl (aI, 9, .inl gr_8)), (wa_8, .inl (aI, 9, .inl gw_8)), (kf_8, .inl (aI, 9, .inl gk_8)), (kt_8, .inl (aI, 9, .inl gt_8)), (q1, .inr (2, [.ref lo_2, .ref hi_2, .int 0])), (lo_2, .inl (aL, 8, .inr (.inl (fun _ => 0))))] := hD
  refine va_putF (D := D) (ci := 4) (v := .ref q7) (ty := (.object "FaceMap$Faces")) (C := RX6) (T := TX6) (N := 5) hx hb hts n_X6_init_X6 tyX6 tyX6_ok nmX6 hown hK hP hD hS 0 rfl rfl 3 (by decide) (hts (.fieldLink RX6 37 "FaceMap" "faces" "LFaceMap$Faces;") (List.mem_of_getElem? (i := 27) rfl)) (fun _ h9 => h9) rfl hin rfl (by decide +kernel) rfl rfl (Nat.le_of_ble_eq_true rfl) dX6_init_65 (fun H locs hP hD hS => ?_)
  have hP : va_P D q_cl [(h0, .inr (4, [.ref q1, .ref q3, .ref q5, .ref q7, .int 0])), (hi_2, .inl (aL, 8, .inr (.inl (fun _ => 0)))), (q3, .inr (1, [.ref at__4, .ref dg_4, .int 0])), (at__4, .inl (aL, 16, .inr (.inl (fun _ => 0)))), (dg_4, .inl (aI, 16, .inl (fun _ => 0))), (q7, .inr (0, [.ref q1, .ref q3, .ref q5, .ref le_8, .ref ri_8, .ref wa_8, .ref kf_8, .ref kt_8, .ref ar_8, .int 1, .int 0])), (ri_8, .inl (aI, 9, .inl gr_8)), (wa_8, .inl (aI, 9, .inl gw_8)), (kf_8, .inl (aI, 9, .inl gk_8)), (kt_8, .inl (aI, 9, .inl gt_8)), (q1, .inr (2, [.ref lo_2, .ref hi_2, .int 0])), (lo_2, .inl (aL, 8, .inr (.inl (fun _ => 0))))] H := hP
  have hD : va_D A [(h0, .inr (4, [.ref q1, .ref q3, .ref q5, .ref q7, .int 0])), (hi_2, .inl (aL, 8, .inr (.inl (fun _ => 0)))), (q3, .inr (1, [.ref at__4, .ref dg_4, .int 0])), (at__4, .inl (aL, 16, .inr (.inl (fun _ => 0)))), (dg_4, .inl (aI, 16, .inl (fun _ => 0))), (q7, .inr (0, [.ref q1, .ref q3, .ref q5, .ref le_8, .ref ri_8, .ref wa_8, .ref kf_8, .ref kt_8, .ref ar_8, .int 1, .int 0])), (ri_8, .inl (aI, 9, .inl gr_8)), (wa_8, .inl (aI, 9, .inl gw_8)), (kf_8, .inl (aI, 9, .inl gk_8)), (kt_8, .inl (aI, 9, .inl gt_8)), (q1, .inr (2, [.ref lo_2, .ref hi_2, .int 0])), (lo_2, .inl (aL, 8, .inr (.inl (fun _ => 0))))] := hD
  refine lv_aload_n hx hb dX6_init_68 rfl (lv_at hl 0 rfl) ?_
  refine lv_iconst (v := 0) hx hb dX6_init_69 (by decide) ?_
  refine va_put (D := D) (ci := 4) (v := .int 0) (ty := .boolean) (C := RX6) (T := TX6) (N := 5) hx hb hts n_X6_init_X6 tyX6 tyX6_ok nmX6 hown hK hP hD hS 0 rfl rfl 4 (by decide) (hts (.fieldLink RX6 41 "FaceMap" "facesAreOld" "Z") (List.mem_of_getElem? (i := 28) rfl)) (fun _ h9 => h9) rfl (by decide +kernel) rfl rfl (Nat.le_of_ble_eq_true rfl) dX6_init_70 (fun H locs hP hD hS => ?_)
  have hP : va_P D q_cl [(h0, .inr (4, [.ref q1, .ref q3, .ref q5, .ref q7, .int 0])), (hi_2, .inl (aL, 8, .inr (.inl (fun _ => 0)))), (q3, .inr (1, [.ref at__4, .ref dg_4, .int 0])), (at__4, .inl (aL, 16, .inr (.inl (fun _ => 0)))), (dg_4, .inl (aI, 16, .inl (fun _ => 0))), (q7, .inr (0, [.ref q1, .ref q3, .ref q5, .ref le_8, .ref ri_8, .ref wa_8, .ref kf_8, .ref kt_8, .ref ar_8, .int 1, .int 0])), (ri_8, .inl (aI, 9, .inl gr_8)), (wa_8, .inl (aI, 9, .inl gw_8)), (kf_8, .inl (aI, 9, .inl gk_8)), (kt_8, .inl (aI, 9, .inl gt_8)), (q1, .inr (2, [.ref lo_2, .ref hi_2, .int 0])), (lo_2, .inl (aL, 8, .inr (.inl (fun _ => 0))))] H := hP
  have hD : va_D A [(h0, .inr (4, [.ref q1, .ref q3, .ref q5, .ref q7, .int 0])), (hi_2, .inl (aL, 8, .inr (.inl (fun _ => 0)))), (q3, .inr (1, [.ref at__4, .ref dg_4, .int 0])), (at__4, .inl (aL, 16, .inr (.inl (fun _ => 0)))), (dg_4, .inl (aI, 16, .inl (fun _ => 0))), (q7, .inr (0, [.ref q1, .ref q3, .ref q5, .ref le_8, .ref ri_8, .ref wa_8, .ref kf_8, .ref kt_8, .ref ar_8, .int 1, .int 0])), (ri_8, .inl (aI, 9, .inl gr_8)), (wa_8, .inl (aI, 9, .inl gw_8)), (kf_8, .inl (aI, 9, .inl gk_8)), (kt_8, .inl (aI, 9, .inl gt_8)), (q1, .inr (2, [.ref lo_2, .ref hi_2, .int 0])), (lo_2, .inl (aL, 8, .inr (.inl (fun _ => 0))))] := hD
  have hP9 := hP.sub (ws' := [(h0, .inr (4, [.ref q1, .ref q3, .ref q5, .ref q7, .int 0])), (q1, .inr (2, [.ref lo_2, .ref hi_2, .int 0])), (lo_2, .inl (aL, 8, .inr (.inl (fun _ => 0)))), (hi_2, .inl (aL, 8, .inr (.inl (fun _ => 0)))), (q3, .inr (1, [.ref at__4, .ref dg_4, .int 0])), (at__4, .inl (aL, 16, .inr (.inl (fun _ => 0)))), (dg_4, .inl (aI, 16, .inl (fun _ => 0))), (q7, .inr (0, [.ref q1, .ref q3, .ref q5, .ref le_8, .ref ri_8, .ref wa_8, .ref kf_8, .ref kt_8, .ref ar_8, .int 1, .int 0])), (ri_8, .inl (aI, 9, .inl gr_8)), (wa_8, .inl (aI, 9, .inl gw_8)), (kf_8, .inl (aI, 9, .inl gk_8)), (kt_8, .inl (aI, 9, .inl gt_8))]) [0, 10, 11, 1, 2, 3, 4, 5, 6, 7, 8, 9] rfl
  have hD9 := hD.sub (ws' := [(h0, .inr (4, [.ref q1, .ref q3, .ref q5, .ref q7, .int 0])), (q1, .inr (2, [.ref lo_2, .ref hi_2, .int 0])), (lo_2, .inl (aL, 8, .inr (.inl (fun _ => 0)))), (hi_2, .inl (aL, 8, .inr (.inl (fun _ => 0)))), (q3, .inr (1, [.ref at__4, .ref dg_4, .int 0])), (at__4, .inl (aL, 16, .inr (.inl (fun _ => 0)))), (dg_4, .inl (aI, 16, .inl (fun _ => 0))), (q7, .inr (0, [.ref q1, .ref q3, .ref q5, .ref le_8, .ref ri_8, .ref wa_8, .ref kf_8, .ref kt_8, .ref ar_8, .int 1, .int 0])), (ri_8, .inl (aI, 9, .inl gr_8)), (wa_8, .inl (aI, 9, .inl gw_8)), (kf_8, .inl (aI, 9, .inl gk_8)), (kt_8, .inl (aI, 9, .inl gt_8))]) [0, 10, 11, 1, 2, 3, 4, 5, 6, 7, 8, 9] (by decide) rfl
  exact q_retv (q1, q3, q5, q7, lo_2, hi_2, at__4, dg_4, le_8, ri_8, wa_8, kf_8, kt_8, ar_8, gr_8, gw_8, gk_8, gt_8) hx hb hr hlocks hK hP9 hD9 hS (Nat.le_of_ble_eq_true rfl) (Nat.le_of_ble_eq_true rfl) (⟨(by first | assumption | decide | omega | simp_all), (by first | assumption | decide | omega | simp_all), (by first | assumption | decide | omega | simp_all), (by first | assumption | decide | omega | simp_all)⟩) dX6_init_73
end
section
def vsX6_freshFaces : List Cond := .code yX6_freshFaces cX6_freshFaces 1 (some (.object "FaceMap$Faces")) :: ([.fieldLink RX6 41 "FaceMap" "facesAreOld" "Z", .fieldLink RX6 37 "FaceMap" "faces" "LFaceMap$Faces;"] ++ wsX60)
set_option maxRecDepth 20000 in
theorem n_X6_freshFaces_X6 : ∀ w ∈ wsX60, w ∈ vsX6_freshFaces := fun _ h => List.mem_cons_of_mem _ (List.mem_append_right _ h)
set_option maxHeartbeats 4000000 in
set_option maxRecDepth 100000 in
/-- freshFaces, nothing to build -/
theorem c_X6_freshFaces (l : Launch) (D : va_G) (aI aL aZ : ClassId) (h0 : Nat) (ph : Nat) (nh : Nat) (sh : Nat) (fh : Nat) (sz : Nat) : MR l D q_cl (q_ty aI aL aZ) yX6_freshFaces vsX6_freshFaces 0 0 0 [.ref h0] [(h0, .inr (4, [.ref ph, .ref nh, .ref sh, .ref fh, .int 0]))] sz (fun (u : Unit) => True) (fun (u : Unit) => [(h0, .inr (4, [.ref ph, .ref nh, .ref sh, .ref fh, .int 0]))]) (fun (u : Unit) => fh) := by
  refine q_in cX6_freshFaces 1 (some (.object "FaceMap$Faces")) (qQr D q_cl (q_ty aI aL aZ) _ _ _) (by decide) rfl (Nat.le_of_ble_eq_true rfl) ?_
  intro p e s m args below meth c A ls hat hP hD hS hl
  obtain ⟨hx, hb, hr, hts, hown, hlocks, hml, hin, hK, hN, hA⟩ := hat
  have hown : s.vm.findClass RX6 = some m.cls := hown
  have hl : lv_has ls 1 [(0, .ref h0)] := hl
  refine lv_aload_n hx hb dX6_freshFaces_0 rfl (lv_at hl 0 rfl) ?_
  refine va_get (D := D) (ci := 4) (v := .int 0) (C := RX6) (T := TX6) (N := 5) hx hb hts n_X6_freshFaces_X6 hown hK hP 0 rfl rfl 4 (by decide) (hts (.fieldLink RX6 41 "FaceMap" "facesAreOld" "Z") (List.mem_of_getElem? (i := 1) rfl)) (fun _ h9 => h9) rfl dX6_freshFaces_1 ?_
  refine lv_if_eq (tgt := 26) hx hb dX6_freshFaces_4 (by decide) (fun c_1 => ?_) (fun c_1 => ?_)
  · refine lv_aload_n hx hb dX6_freshFaces_26 rfl (lv_at hl 0 rfl) ?_
    refine va_get (D := D) (ci := 4) (v := .ref fh) (C := RX6) (T := TX6) (N := 5) hx hb hts n_X6_freshFaces_X6 hown hK hP 0 rfl rfl 3 (by decide) (hts (.fieldLink RX6 37 "FaceMap" "faces" "LFaceMap$Faces;") (List.mem_of_getElem? (i := 2) rfl)) (fun _ h9 => h9) rfl dX6_freshFaces_27 ?_
    have hP9 := hP.sub (ws' := [(h0, .inr (4, [.ref ph, .ref nh, .ref sh, .ref fh, .int 0]))]) [0] rfl
    have hD9 := hD.sub (ws' := [(h0, .inr (4, [.ref ph, .ref nh, .ref sh, .ref fh, .int 0]))]) [0] (by decide) rfl
    exact q_reta () hx hb hr hlocks hK hP9 hD9 hS (Nat.le_of_ble_eq_true rfl) (Nat.le_of_ble_eq_true rfl) (trivial) rfl dX6_freshFaces_30
  · exact absurd c_1 (by decide)
def vsX6_numberOf : List Cond := .code yX6_numberOf cX6_numberOf 13 (some .int) :: ([.methodLink RX6 55 Lib.MathLoose.min_long.x, .static Lib.MathLoose.min_long.x, .initialized "java/lang/Math", .code Lib.MathLoose.min_long.x Lib.MathLoose.min_long.code 4 (some .long), .methodLink RX6 61 Lib.MathLoose.max_long.x, .static Lib.MathLoose.max_long.x, .code Lib.MathLoose.max_long.x Lib.MathLoose.max_long.code 4 (some .long), .fieldLink RX6 10 "FaceMap" "pieces" "LFaceMap$Pieces;", .methodLink RX6 45 yX3_inBounds, .static yX3_inBounds, .initialized RX3, .code yX3_inBounds cX3_inBounds 2 (some .boolean), .constant RX3 9 (-500000), .constant RX3 10 (500000), .methodLink RX6 51 yX3_of, .static yX3_of, .code yX3_of cX3_of 2 (some .long), .methodLink RX6 64 yX2_has, .instanceMethod yX2_has, .selects RX2 yX2_has yX2_has, .initialized RX2, .code yX2_has cX2_has 6 (some .boolean), .fieldLink RX2 16 "FaceMap$Pieces" "size" "I", .methodLink RX2 20 yX2_rank, .instanceMethod yX2_rank, .selects RX2 yX2_rank yX2_rank, .code yX2_rank cX2_rank 8 (some .int)] ++ wsX60 ++ wsX20)
set_option maxRecDepth 20000 in
theorem g_X6_numberOf_X3_inBounds_45 : GoodIn vsX6_numberOf (va_wsS RX6 45 yX3_inBounds vsX3_inBounds) := goodIn_r _ [9, 10, 11, 12, 13, 14] rfl (by decide +kernel)
set_option maxRecDepth 20000 in
theorem g_X6_numberOf_X3_of_51 : GoodIn vsX6_numberOf (va_wsS RX6 51 yX3_of vsX3_of) := goodIn_r _ [15, 16, 11, 17, 14] rfl (by decide +kernel)
set_option maxRecDepth 20000 in
theorem n_X6_numberOf_X6 : ∀ w ∈ wsX60, w ∈ vsX6_numberOf := fun _ h => List.mem_cons_of_mem _ (List.mem_append_left _ (List.mem_append_right _ h))
set_option maxRecDepth 20000 in
theorem g_X6_numberOf_X2_has_64 : GoodIn vsX6_numberOf (wsV RX6 64 RX2 yX2_has vsX2_has) := goodIn_r _ [18, 19, 20, 21, 22, 23, 24, 25, 26, 21, 27, 33, 34, 35] rfl (by decide +kernel)
set_option maxHeartbeats 4000000 in
set_option maxRecDepth 100000 in
/-- numberOf, with no piece -/
theorem c_X6_numberOf (l : Launch) (D : va_G) (aI aL aZ : ClassId) (h0 : Nat) (ph : Nat) (nh : Nat) (sh : Nat) (fh : Nat) (lo : Nat) (hi : Nat) (x1 : Int32) (y1 : Int32) (x2 : Int32) (y2 : Int32) (sz : Nat) : MI l D q_cl (q_ty aI aL aZ) yX6_numberOf vsX6_numberOf 2 0 0 [.ref h0, .int x1, .int y1, .int x2, .int y2] [(h0, .inr (4, [.ref ph, .ref nh, .ref sh, .ref fh, .int 0])), (ph, .inr (2, [.ref lo, .ref hi, .int 0]))] sz (fun (r : Int32) (u : Unit) => r = (-1)) (fun (u : Unit) => [(h0, .inr (4, [.ref ph, .ref nh, .ref sh, .ref fh, .int 0])), (ph, .inr (2, [.ref lo, .ref hi, .int 0]))]) := by
  refine q_in cX6_numberOf 13 (some .int) (qQi D q_cl (q_ty aI aL aZ) _ _) (by decide) rfl (Nat.le_of_ble_eq_true rfl) ?_
  intro p e s m args below meth c A ls hat hP hD hS hl
  obtain ⟨hx, hb, hr, hts, hown, hlocks, hml, hin, hK, hN, hA⟩ := hat
  have hown : s.vm.findClass RX6 = some m.cls := hown
  have hl : lv_has ls 13 [(0, .ref h0), (1, .int x1), (2, .int y1), (3, .int x2), (4, .int y2)] := hl
  refine lv_iload_n hx hb dX6_numberOf_0 rfl (lv_at hl 1 rfl) ?_
  refine lv_iload_n hx hb dX6_numberOf_1 rfl (lv_at hl 2 rfl) ?_
  refine q_i (wr := [(h0, .inr (4, [.ref ph, .ref nh, .ref sh, .ref fh, .int 0])), (ph, .inr (2, [.ref lo, .ref hi, .int 0]))]) (q_runS (As := [.int x1, .int y1]) (rest := []) ⟨hx, hb, hml, hown, hts⟩ (c_X3_inBounds l D aI aL aZ x1 y1 _) (va_cwS 2 hts g_X6_numberOf_X3_inBounds_45 rfl rfl rfl (by decide +kernel) ⟨Nat.le_of_ble_eq_true rfl, Nat.le_of_ble_eq_true rfl⟩) hK hN hP hD [] rfl (by decide) rfl hl.1 rfl (Nat.le_of_ble_eq_true rfl) dX6_numberOf_2 ⟨Nat.le_of_ble_eq_true rfl, Nat.le_of_ble_eq_true rfl⟩) hP hD hS hA [] [0, 1] rfl rfl (by decide) (by decide) (fun r_1 u_1 H locs hw hP hD hS => ?_)
  rcases hw with ⟨rfl, f1_0⟩ | ⟨rfl, f1_0⟩
  · have hP : va_P D q_cl [(h0, .inr (4, [.ref ph, .ref nh, .ref sh, .ref fh, .int 0])), (ph, .inr (2, [.ref lo, .ref hi, .int 0]))] H := hP
    have hD : va_D A [(h0, .inr (4, [.ref ph, .ref nh, .ref sh, .ref fh, .int 0])), (ph, .inr (2, [.ref lo, .ref hi, .int 0]))] := hD
    refine lv_if_eq (tgt := 17) hx hb dX6_numberOf_5 (by decide) (fun c_2 => ?_) (fun c_2 => ?_)
    · exact absurd c_2 (by decide)
    · refine lv_iload_n hx hb dX6_numberOf_8 rfl (lv_at hl 3 rfl) ?_
      refine lv_iload hx hb dX6_numberOf_9 (lv_at hl 4 rfl) ?_
      refine q_i (wr := [(h0, .inr (4, [.ref ph, .ref nh, .ref sh, .ref fh, .int 0])), (ph, .inr (2, [.ref lo, .ref hi, .int 0]))]) (q_runS (As := [.int x2, .int y2]) (rest := []) ⟨hx, hb, hml, hown, hts⟩ (c_X3_inBounds l D aI aL aZ x2 y2 _) (va_cwS 2 hts g_X6_numberOf_X3_inBounds_45 rfl rfl rfl (by decide +kernel) ⟨Nat.le_of_ble_eq_true rfl, Nat.le_of_ble_eq_true rfl⟩) hK hN hP hD [] rfl (by decide) rfl hl.1 rfl (Nat.le_of_ble_eq_true rfl) dX6_numberOf_11 ⟨Nat.le_of_ble_eq_true rfl, Nat.le_of_ble_eq_true rfl⟩) hP hD hS hA [] [0, 1] rfl rfl (by decide) (by decide) (fun r_3 u_3 H locs hw hP hD hS => ?_)
      rcases hw with ⟨rfl, f3_0⟩ | ⟨rfl, f3_0⟩
      · have hP : va_P D q_cl [(h0, .inr (4, [.ref ph, .ref nh, .ref sh, .ref fh, .int 0])), (ph, .inr (2, [.ref lo, .ref hi, .int 0]))] H := hP
        have hD : va_D A [(h0, .inr (4, [.ref ph, .ref nh, .ref sh, .ref fh, .int 0])), (ph, .inr (2, [.ref lo, .ref hi, .int 0]))] := hD
        refine lv_if_ne (tgt := 19) hx hb dX6_numberOf_14 (by decide) (fun c_4 => ?_) (fun c_4 => ?_)
        · refine lv_iload_n hx hb dX6_numberOf_19 rfl (lv_at hl 1 rfl) ?_
          refine lv_iload_n hx hb dX6_numberOf_20 rfl (lv_at hl 2 rfl) ?_
          refine q_l (wr := [(h0, .inr (4, [.ref ph, .ref nh, .ref sh, .ref fh, .int 0])), (ph, .inr (2, [.ref lo, .ref hi, .int 0]))]) (q_runS (As := [.int x1, .int y1]) (rest := []) ⟨hx, hb, hml, hown, hts⟩ (c_X3_of l D aI aL aZ x1 y1 _) (va_cwS 2 hts g_X6_numberOf_X3_of_51 rfl rfl rfl (by decide +kernel) ⟨Nat.le_of_ble_eq_true rfl, Nat.le_of_ble_eq_true rfl⟩) hK hN hP hD [] rfl (by decide) rfl hl.1 rfl (Nat.le_of_ble_eq_true rfl) dX6_numberOf_21 ⟨Nat.le_of_ble_eq_true rfl, Nat.le_of_ble_eq_true rfl⟩) hP hD hS hA [] [0, 1] rfl rfl (by decide) (by decide) (fun r_5 u_5 H locs hw hP hD hS => ?_)
          subst hw
          have hP : va_P D q_cl [(h0, .inr (4, [.ref ph, .ref nh, .ref sh, .ref fh, .int 0])), (ph, .inr (2, [.ref lo, .ref hi, .int 0]))] H := hP
          have hD : va_D A [(h0, .inr (4, [.ref ph, .ref nh, .ref sh, .ref fh, .int 0])), (ph, .inr (2, [.ref lo, .ref hi, .int 0]))] := hD
          refine lv_lstore (lv' := [(5, .long (plc x1 y1)), (0, .ref h0), (1, .int x1), (2, .int y1), (3, .int x2), (4, .int y2)]) hx hb dX6_numberOf_24 hl (by decide) rfl (fun ls hl => ?_)
          refine lv_iload_n hx hb dX6_numberOf_26 rfl (lv_at hl 4 rfl) ?_
          refine lv_iload hx hb dX6_numberOf_27 (lv_at hl 5 rfl) ?_
          refine q_l (wr := [(h0, .inr (4, [.ref ph, .ref nh, .ref sh, .ref fh, .int 0])), (ph, .inr (2, [.ref lo, .ref hi, .int 0]))]) (q_runS (As := [.int x2, .int y2]) (rest := []) ⟨hx, hb, hml, hown, hts⟩ (c_X3_of l D aI aL aZ x2 y2 _) (va_cwS 2 hts g_X6_numberOf_X3_of_51 rfl rfl rfl (by decide +kernel) ⟨Nat.le_of_ble_eq_true rfl, Nat.le_of_ble_eq_true rfl⟩) hK hN hP hD [] rfl (by decide) rfl hl.1 rfl (Nat.le_of_ble_eq_true rfl) dX6_numberOf_29 ⟨Nat.le_of_ble_eq_true rfl, Nat.le_of_ble_eq_true rfl⟩) hP hD hS hA [] [0, 1] rfl rfl (by decide) (by decide) (fun r_6 u_6 H locs hw hP hD hS => ?_)
          subst hw
          have hP : va_P D q_cl [(h0, .inr (4, [.ref ph, .ref nh, .ref sh, .ref fh, .int 0])), (ph, .inr (2, [.ref lo, .ref hi, .int 0]))] H := hP
          have hD : va_D A [(h0, .inr (4, [.ref ph, .ref nh, .ref sh, .ref fh, .int 0])), (ph, .inr (2, [.ref lo, .ref hi, .int 0]))] := hD
          refine lv_lstore (lv' := [(7, .long (plc x2 y2)), (5, .long (plc x1 y1)), (0, .ref h0), (1, .int x1), (2, .int y1), (3, .int x2), (4, .int y2)]) hx hb dX6_numberOf_32 hl (by decide) rfl (fun ls hl => ?_)
          refine lv_lload hx hb dX6_numberOf_34 (lv_at hl 1 rfl) ?_
          refine lv_lload hx hb dX6_numberOf_36 (lv_at hl 0 rfl) ?_
          refine va_mmin_long hx hb (by rw [hml]; exact hl.1.symm) hown (hts (.methodLink RX6 55 Lib.MathLoose.min_long.x) (List.mem_of_getElem? (i := 1) rfl)) (hts (.static Lib.MathLoose.min_long.x) (List.mem_of_getElem? (i := 2) rfl)) (hts (.initialized "java/lang/Math") (List.mem_of_getElem? (i := 3) rfl)) (hts (.code Lib.MathLoose.min_long.x Lib.MathLoose.min_long.code 4 (some .long)) (List.mem_of_getElem? (i := 4) rfl)) (Nat.le_of_ble_eq_true rfl) (Nat.le_of_ble_eq_true rfl) (Nat.le_of_ble_eq_true rfl) (Nat.le_of_ble_eq_true rfl) dX6_numberOf_38 ?_
          refine lv_topl (fun lo7 elo7 => ?_)
          refine lv_lstore (lv' := [(9, .long lo7), (7, .long (plc x2 y2)), (5, .long (plc x1 y1)), (0, .ref h0), (1, .int x1), (2, .int y1), (3, .int x2), (4, .int y2)]) hx hb dX6_numberOf_41 hl (by decide) rfl (fun ls hl => ?_)
          refine lv_lload hx hb dX6_numberOf_43 (lv_at hl 2 rfl) ?_
          refine lv_lload hx hb dX6_numberOf_45 (lv_at hl 1 rfl) ?_
          refine va_mmax_long hx hb (by rw [hml]; exact hl.1.symm) hown (hts (.methodLink RX6 61 Lib.MathLoose.max_long.x) (List.mem_of_getElem? (i := 5) rfl)) (hts (.static Lib.MathLoose.max_long.x) (List.mem_of_getElem? (i := 6) rfl)) (hts (.initialized "java/lang/Math") (List.mem_of_getElem? (i := 3) rfl)) (hts (.code Lib.MathLoose.max_long.x Lib.MathLoose.max_long.code 4 (some .long)) (List.mem_of_getElem? (i := 7) rfl)) (Nat.le_of_ble_eq_true rfl) (Nat.le_of_ble_eq_true rfl) (Nat.le_of_ble_eq_true rfl) (Nat.le_of_ble_eq_true rfl) dX6_numberOf_47 ?_
          refine lv_topl (fun hi8 ehi8 => ?_)
          refine lv_lstore (lv' := [(11, .long hi8), (9, .long lo7), (7, .long (plc x2 y2)), (5, .long (plc x1 y1)), (0, .ref h0), (1, .int x1), (2, .int y1), (3, .int x2), (4, .int y2)]) hx hb dX6_numberOf_50 hl (by decide) rfl (fun ls hl => ?_)
          refine lv_aload_n hx hb dX6_numberOf_52 rfl (lv_at hl 4 rfl) ?_
          refine va_get (D := D) (ci := 4) (v := .ref ph) (C := RX6) (T := TX6) (N := 5) hx hb hts n_X6_numberOf_X6 hown hK hP 0 rfl rfl 0 (by decide) (hts (.fieldLink RX6 10 "FaceMap" "pieces" "LFaceMap$Pieces;") (List.mem_of_getElem? (i := 8) rfl)) (fun _ h9 => h9) rfl dX6_numberOf_53 ?_
          refine lv_lload hx hb dX6_numberOf_56 (lv_at hl 1 rfl) ?_
          refine lv_lload hx hb dX6_numberOf_58 (lv_at hl 0 rfl) ?_
          refine q_i (wr := [(h0, .inr (4, [.ref ph, .ref nh, .ref sh, .ref fh, .int 0]))]) (q_runV (As := [.long lo7, .long hi8]) (rest := []) ⟨hx, hb, hml, hown, hts⟩ (c_X2_has_0 l D aI aL aZ ph lo hi lo7 hi8 _) (cwV 2 hts g_X6_numberOf_X2_has_64 rfl rfl rfl (by decide +kernel) ⟨Nat.le_of_ble_eq_true rfl, Nat.le_of_ble_eq_true rfl⟩) hK hN hP hD [1] rfl (by decide) rfl rfl rfl hl.1 rfl (Nat.le_of_ble_eq_true rfl) dX6_numberOf_60 ⟨Nat.le_of_ble_eq_true rfl, Nat.le_of_ble_eq_true rfl⟩) hP hD hS hA [1] [0] rfl rfl (by decide) (by decide) (fun r_9 u_9 H locs hw hP hD hS => ?_)
          subst hw
          have hP : va_P D q_cl [(h0, .inr (4, [.ref ph, .ref nh, .ref sh, .ref fh, .int 0])), (ph, .inr (2, [.ref lo, .ref hi, .int 0]))] H := hP
          have hD : va_D A [(h0, .inr (4, [.ref ph, .ref nh, .ref sh, .ref fh, .int 0])), (ph, .inr (2, [.ref lo, .ref hi, .int 0]))] := hD
          refine lv_if_eq (tgt := 80) hx hb dX6_numberOf_63 (by decide) (fun c_10 => ?_) (fun c_10 => ?_)
          · refine lv_iconst (v := (-1)) hx hb dX6_numberOf_80 (by decide) ?_
            have hP9 := hP.sub (ws' := [(h0, .inr (4, [.ref ph, .ref nh, .ref sh, .ref fh, .int 0])), (ph, .inr (2, [.ref lo, .ref hi, .int 0]))]) [0, 1] rfl
            have hD9 := hD.sub (ws' := [(h0, .inr (4, [.ref ph, .ref nh, .ref sh, .ref fh, .int 0])), (ph, .inr (2, [.ref lo, .ref hi, .int 0]))]) [0, 1] (by decide) rfl
            exact q_reti () hx hb hr hlocks hK hP9 hD9 hS (Nat.le_of_ble_eq_true rfl) (Nat.le_of_ble_eq_true rfl) (rfl) dX6_numberOf_81
          · exact absurd c_10 (by decide)
        · exact absurd c_4 (by decide)
      · have hP : va_P D q_cl [(h0, .inr (4, [.ref ph, .ref nh, .ref sh, .ref fh, .int 0])), (ph, .inr (2, [.ref lo, .ref hi, .int 0]))] H := hP
        have hD : va_D A [(h0, .inr (4, [.ref ph, .ref nh, .ref sh, .ref fh, .int 0])), (ph, .inr (2, [.ref lo, .ref hi, .int 0]))] := hD
        refine lv_if_ne (tgt := 19) hx hb dX6_numberOf_14 (by decide) (fun c_11 => ?_) (fun c_11 => ?_)
        · exact absurd c_11 (by decide)
        · refine lv_iconst (v := (-1)) hx hb dX6_numberOf_17 (by decide) ?_
          have hP9 := hP.sub (ws' := [(h0, .inr (4, [.ref ph, .ref nh, .ref sh, .ref fh, .int 0])), (ph, .inr (2, [.ref lo, .ref hi, .int 0]))]) [0, 1] rfl
          have hD9 := hD.sub (ws' := [(h0, .inr (4, [.ref ph, .ref nh, .ref sh, .ref fh, .int 0])), (ph, .inr (2, [.ref lo, .ref hi, .int 0]))]) [0, 1] (by decide) rfl
          exact q_reti () hx hb hr hlocks hK hP9 hD9 hS (Nat.le_of_ble_eq_true rfl) (Nat.le_of_ble_eq_true rfl) (rfl) dX6_numberOf_18
  · have hP : va_P D q_cl [(h0, .inr (4, [.ref ph, .ref nh, .ref sh, .ref fh, .int 0])), (ph, .inr (2, [.ref lo, .ref hi, .int 0]))] H := hP
    have hD : va_D A [(h0, .inr (4, [.ref ph, .ref nh, .ref sh, .ref fh, .int 0])), (ph, .inr (2, [.ref lo, .ref hi, .int 0]))] := hD
    refine lv_if_eq (tgt := 17) hx hb dX6_numberOf_5 (by decide) (fun c_12 => ?_) (fun c_12 => ?_)
    · refine lv_iconst (v := (-1)) hx hb dX6_numberOf_17 (by decide) ?_
      have hP9 := hP.sub (ws' := [(h0, .inr (4, [.ref ph, .ref nh, .ref sh, .ref fh, .int 0])), (ph, .inr (2, [.ref lo, .ref hi, .int 0]))]) [0, 1] rfl
      have hD9 := hD.sub (ws' := [(h0, .inr (4, [.ref ph, .ref nh, .ref sh, .ref fh, .int 0])), (ph, .inr (2, [.ref lo, .ref hi, .int 0]))]) [0, 1] (by decide) rfl
      exact q_reti () hx hb hr hlocks hK hP9 hD9 hS (Nat.le_of_ble_eq_true rfl) (Nat.le_of_ble_eq_true rfl) (rfl) dX6_numberOf_18
    · exact absurd c_12 (by decide)
def vsX6_cut : List Cond := .code yX6_cut cX6_cut 6 (some .boolean) :: ([.methodLink RX6 83 yX6_numberOf, .instanceMethod yX6_numberOf, .selects RX6 yX6_numberOf yX6_numberOf, .initialized RX6, .code yX6_numberOf cX6_numberOf 13 (some .int), .methodLink RX6 55 Lib.MathLoose.min_long.x, .static Lib.MathLoose.min_long.x, .initialized "java/lang/Math", .code Lib.MathLoose.min_long.x Lib.MathLoose.min_long.code 4 (some .long), .methodLink RX6 61 Lib.MathLoose.max_long.x, .static Lib.MathLoose.max_long.x, .code Lib.MathLoose.max_long.x Lib.MathLoose.max_long.code 4 (some .long), .fieldLink RX6 10 "FaceMap" "pieces" "LFaceMap$Pieces;", .methodLink RX6 45 yX3_inBounds, .static yX3_inBounds, .initialized RX3, .code yX3_inBounds cX3_inBounds 2 (some .boolean), .constant RX3 9 (-500000), .constant RX3 10 (500000), .methodLink RX6 51 yX3_of, .static yX3_of, .code yX3_of cX3_of 2 (some .long), .methodLink RX6 64 yX2_has, .instanceMethod yX2_has, .selects RX2 yX2_has yX2_has, .initialized RX2, .code yX2_has cX2_has 6 (some .boolean), .fieldLink RX2 16 "FaceMap$Pieces" "size" "I", .methodLink RX2 20 yX2_rank, .instanceMethod yX2_rank, .selects RX2 yX2_rank yX2_rank, .code yX2_rank cX2_rank 8 (some .int)] ++ wsX60 ++ wsX20)
set_option maxRecDepth 20000 in
theorem g_X6_cut_X6_numberOf_83 : GoodIn vsX6_cut (wsV RX6 83 RX6 yX6_numberOf vsX6_numberOf) := goodIn_r _ [1, 2, 3, 4, 5, 6, 7, 8, 9, 10, 11, 12, 13, 14, 15, 16, 17, 18, 19, 20, 21, 22, 23, 24, 25, 26, 27, 28, 29, 30, 31, 32, 33, 34, 35, 36, 37, 38, 39, 40] rfl (by decide +kernel)
set_option maxHeartbeats 4000000 in
set_option maxRecDepth 100000 in
/-- FaceMap.cut -/
theorem c_X6_cut (l : Launch) (D : va_G) (aI aL aZ : ClassId) (h0 : Nat) (ph : Nat) (nh : Nat) (sh : Nat) (fh : Nat) (lo : Nat) (hi : Nat) (x1 : Int32) (y1 : Int32) (x2 : Int32) (y2 : Int32) (sz : Nat) : MI l D q_cl (q_ty aI aL aZ) yX6_cut vsX6_cut 3 0 0 [.ref h0, .int x1, .int y1, .int x2, .int y2] [(h0, .inr (4, [.ref ph, .ref nh, .ref sh, .ref fh, .int 0])), (ph, .inr (2, [.ref lo, .ref hi, .int 0]))] sz (fun (r : Int32) (u : Unit) => r = 0) (fun (u : Unit) => ([] : va_W)) := by
  refine q_in cX6_cut 6 (some .boolean) (qQi D q_cl (q_ty aI aL aZ) _ _) (by decide) rfl (Nat.le_of_ble_eq_true rfl) ?_
  intro p e s m args below meth c A ls hat hP hD hS hl
  obtain ⟨hx, hb, hr, hts, hown, hlocks, hml, hin, hK, hN, hA⟩ := hat
  have hown : s.vm.findClass RX6 = some m.cls := hown
  have hl : lv_has ls 6 [(0, .ref h0), (1, .int x1), (2, .int y1), (3, .int x2), (4, .int y2)] := hl
  refine lv_aload_n hx hb dX6_cut_0 rfl (lv_at hl 0 rfl) ?_
  refine lv_iload_n hx hb dX6_cut_1 rfl (lv_at hl 1 rfl) ?_
  refine lv_iload_n hx hb dX6_cut_2 rfl (lv_at hl 2 rfl) ?_
  refine lv_iload_n hx hb dX6_cut_3 rfl (lv_at hl 3 rfl) ?_
  refine lv_iload hx hb dX6_cut_4 (lv_at hl 4 rfl) ?_
  refine q_i (wr := []) (q_runV (As := [.int x1, .int y1, .int x2, .int y2]) (rest := []) ⟨hx, hb, hml, hown, hts⟩ (c_X6_numberOf l D aI aL aZ h0 ph nh sh fh lo hi x1 y1 x2 y2 _) (cwV 4 hts g_X6_cut_X6_numberOf_83 rfl rfl rfl (by decide +kernel) ⟨Nat.le_of_ble_eq_true rfl, Nat.le_of_ble_eq_true rfl⟩) hK hN hP hD [0, 1] rfl (by decide) rfl rfl rfl hl.1 rfl (Nat.le_of_ble_eq_true rfl) dX6_cut_6 ⟨Nat.le_of_ble_eq_true rfl, Nat.le_of_ble_eq_true rfl⟩) hP hD hS hA [0, 1] [] rfl rfl (by decide) (by decide) (fun r_1 u_1 H locs hw hP hD hS => ?_)
  subst hw
  have hP : va_P D q_cl [(h0, .inr (4, [.ref ph, .ref nh, .ref sh, .ref fh, .int 0])), (ph, .inr (2, [.ref lo, .ref hi, .int 0]))] H := hP
  have hD : va_D A [(h0, .inr (4, [.ref ph, .ref nh, .ref sh, .ref fh, .int 0])), (ph, .inr (2, [.ref lo, .ref hi, .int 0]))] := hD
  refine lv_istore (lv' := [(5, .int (-1)), (0, .ref h0), (1, .int x1), (2, .int y1), (3, .int x2), (4, .int y2)]) hx hb dX6_cut_9 hl (by decide) rfl (fun ls hl => ?_)
  refine lv_iload hx hb dX6_cut_11 (lv_at hl 0 rfl) ?_
  refine lv_if_ge (tgt := 18) hx hb dX6_cut_13 (by decide) (fun c_2 => ?_) (fun c_2 => ?_)
  · exact absurd c_2 (by decide)
  · refine lv_iconst (v := 0) hx hb dX6_cut_16 (by decide) ?_
    have hP9 := hP.sub (ws' := []) [] rfl
    have hD9 := hD.sub (ws' := []) [] (by decide) rfl
    exact q_retz () hx hb hr (by decide) hlocks hK hP9 hD9 hS (Nat.le_of_ble_eq_true rfl) (Nat.le_of_ble_eq_true rfl) (rfl) dX6_cut_17
def vsX6_left : List Cond := .code yX6_left cX6_left 7 (some .int) :: ([.methodLink RX6 83 yX6_numberOf, .instanceMethod yX6_numberOf, .selects RX6 yX6_numberOf yX6_numberOf, .initialized RX6, .code yX6_numberOf cX6_numberOf 13 (some .int), .methodLink RX6 55 Lib.MathLoose.min_long.x, .static Lib.MathLoose.min_long.x, .initialized "java/lang/Math", .code Lib.MathLoose.min_long.x Lib.MathLoose.min_long.code 4 (some .long), .methodLink RX6 61 Lib.MathLoose.max_long.x, .static Lib.MathLoose.max_long.x, .code Lib.MathLoose.max_long.x Lib.MathLoose.max_long.code 4 (some .long), .fieldLink RX6 10 "FaceMap" "pieces" "LFaceMap$Pieces;", .methodLink RX6 45 yX3_inBounds, .static yX3_inBounds, .initialized RX3, .code yX3_inBounds cX3_inBounds 2 (some .boolean), .constant RX3 9 (-500000), .constant RX3 10 (500000), .methodLink RX6 51 yX3_of, .static yX3_of, .code yX3_of cX3_of 2 (some .long), .methodLink RX6 64 yX2_has, .instanceMethod yX2_has, .selects RX2 yX2_has yX2_has, .initialized RX2, .code yX2_has cX2_has 6 (some .boolean), .fieldLink RX2 16 "FaceMap$Pieces" "size" "I", .methodLink RX2 20 yX2_rank, .instanceMethod yX2_rank, .selects RX2 yX2_rank yX2_rank, .code yX2_rank cX2_rank 8 (some .int)] ++ wsX60 ++ wsX20)
set_option maxRecDepth 20000 in
theorem g_X6_left_X6_numberOf_83 : GoodIn vsX6_left (wsV RX6 83 RX6 yX6_numberOf vsX6_numberOf) := goodIn_r _ [1, 2, 3, 4, 5, 6, 7, 8, 9, 10, 11, 12, 13, 14, 15, 16, 17, 18, 19, 20, 21, 22, 23, 24, 25, 26, 27, 28, 29, 30, 31, 32, 33, 34, 35, 36, 37, 38, 39, 40] rfl (by decide +kernel)
set_option maxHeartbeats 4000000 in
set_option maxRecDepth 100000 in
/-- FaceMap.left -/
theorem c_X6_left (l : Launch) (D : va_G) (aI aL aZ : ClassId) (h0 : Nat) (ph : Nat) (nh : Nat) (sh : Nat) (fh : Nat) (lo : Nat) (hi : Nat) (x1 : Int32) (y1 : Int32) (x2 : Int32) (y2 : Int32) (sz : Nat) : MI l D q_cl (q_ty aI aL aZ) yX6_left vsX6_left 3 0 0 [.ref h0, .int x1, .int y1, .int x2, .int y2] [(h0, .inr (4, [.ref ph, .ref nh, .ref sh, .ref fh, .int 0])), (ph, .inr (2, [.ref lo, .ref hi, .int 0]))] sz (fun (r : Int32) (u : Unit) => r = (-1)) (fun (u : Unit) => ([] : va_W)) := by
  refine q_in cX6_left 7 (some .int) (qQi D q_cl (q_ty aI aL aZ) _ _) (by decide) rfl (Nat.le_of_ble_eq_true rfl) ?_
  intro p e s m args below meth c A ls hat hP hD hS hl
  obtain ⟨hx, hb, hr, hts, hown, hlocks, hml, hin, hK, hN, hA⟩ := hat
  have hown : s.vm.findClass RX6 = some m.cls := hown
  have hl : lv_has ls 7 [(0, .ref h0), (1, .int x1), (2, .int y1), (3, .int x2), (4, .int y2)] := hl
  refine lv_aload_n hx hb dX6_left_0 rfl (lv_at hl 0 rfl) ?_
  refine lv_iload_n hx hb dX6_left_1 rfl (lv_at hl 1 rfl) ?_
  refine lv_iload_n hx hb dX6_left_2 rfl (lv_at hl 2 rfl) ?_
  refine lv_iload_n hx hb dX6_left_3 rfl (lv_at hl 3 rfl) ?_
  refine lv_iload hx hb dX6_left_4 (lv_at hl 4 rfl) ?_
  refine q_i (wr := []) (q_runV (As := [.int x1, .int y1, .int x2, .int y2]) (rest := []) ⟨hx, hb, hml, hown, hts⟩ (c_X6_numberOf l D aI aL aZ h0 ph nh sh fh lo hi x1 y1 x2 y2 _) (cwV 4 hts g_X6_left_X6_numberOf_83 rfl rfl rfl (by decide +kernel) ⟨Nat.le_of_ble_eq_true rfl, Nat.le_of_ble_eq_true rfl⟩) hK hN hP hD [0, 1] rfl (by decide) rfl rfl rfl hl.1 rfl (Nat.le_of_ble_eq_true rfl) dX6_left_6 ⟨Nat.le_of_ble_eq_true rfl, Nat.le_of_ble_eq_true rfl⟩) hP hD hS hA [0, 1] [] rfl rfl (by decide) (by decide) (fun r_1 u_1 H locs hw hP hD hS => ?_)
  subst hw
  have hP : va_P D q_cl [(h0, .inr (4, [.ref ph, .ref nh, .ref sh, .ref fh, .int 0])), (ph, .inr (2, [.ref lo, .ref hi, .int 0]))] H := hP
  have hD : va_D A [(h0, .inr (4, [.ref ph, .ref nh, .ref sh, .ref fh, .int 0])), (ph, .inr (2, [.ref lo, .ref hi, .int 0]))] := hD
  refine lv_istore (lv' := [(5, .int (-1)), (0, .ref h0), (1, .int x1), (2, .int y1), (3, .int x2), (4, .int y2)]) hx hb dX6_left_9 hl (by decide) rfl (fun ls hl => ?_)
  refine lv_iload hx hb dX6_left_11 (lv_at hl 0 rfl) ?_
  refine lv_if_ge (tgt := 18) hx hb dX6_left_13 (by decide) (fun c_2 => ?_) (fun c_2 => ?_)
  · exact absurd c_2 (by decide)
  · refine lv_iconst (v := (-1)) hx hb dX6_left_16 (by decide) ?_
    have hP9 := hP.sub (ws' := []) [] rfl
    have hD9 := hD.sub (ws' := []) [] (by decide) rfl
    exact q_reti () hx hb hr hlocks hK hP9 hD9 hS (Nat.le_of_ble_eq_true rfl) (Nat.le_of_ble_eq_true rfl) (rfl) dX6_left_17
def vsX6_count : List Cond := .code yX6_count cX6_count 2 (some .int) :: ([.fieldLink RX6 19 "FaceMap" "nodes" "LFaceMap$Nodes;", .fieldLink RX6 101 "FaceMap$Nodes" "size" "I", .fieldLink RX6 10 "FaceMap" "pieces" "LFaceMap$Pieces;", .fieldLink RX6 71 "FaceMap$Pieces" "size" "I", .fieldLink RX6 106 "FaceMap$Faces" "size" "I", .fieldLink RX6 107 "FaceMap$Faces" "parts" "I", .methodLink RX6 102 yX6_freshFaces, .instanceMethod yX6_freshFaces, .selects RX6 yX6_freshFaces yX6_freshFaces, .initialized RX6, .code yX6_freshFaces cX6_freshFaces 1 (some (.object "FaceMap$Faces")), .fieldLink RX6 41 "FaceMap" "facesAreOld" "Z", .fieldLink RX6 37 "FaceMap" "faces" "LFaceMap$Faces;"] ++ wsX60 ++ wsX10 ++ wsX20 ++ wsX00)
set_option maxRecDepth 20000 in
theorem n_X6_count_X6 : ∀ w ∈ wsX60, w ∈ vsX6_count := fun _ h => List.mem_cons_of_mem _ (List.mem_append_left _ (List.mem_append_left _ (List.mem_append_left _ (List.mem_append_right _ h))))
set_option maxRecDepth 20000 in
theorem n_X6_count_X1 : ∀ w ∈ wsX10, w ∈ vsX6_count := fun _ h => List.mem_cons_of_mem _ (List.mem_append_left _ (List.mem_append_left _ (List.mem_append_right _ h)))
set_option maxRecDepth 20000 in
theorem n_X6_count_X2 : ∀ w ∈ wsX20, w ∈ vsX6_count := fun _ h => List.mem_cons_of_mem _ (List.mem_append_left _ (List.mem_append_right _ h))
set_option maxRecDepth 20000 in
theorem g_X6_count_X6_freshFaces_102 : GoodIn vsX6_count (wsV RX6 102 RX6 yX6_freshFaces vsX6_freshFaces) := goodIn_r _ [7, 8, 9, 10, 11, 12, 13, 14, 15, 16, 17, 18] rfl (by decide +kernel)
set_option maxRecDepth 20000 in
theorem n_X6_count_X0 : ∀ w ∈ wsX00, w ∈ vsX6_count := fun _ h => List.mem_cons_of_mem _ (List.mem_append_right _ h)
set_option maxHeartbeats 4000000 in
set_option maxRecDepth 100000 in
/-- FaceMap.count -/
theorem c_X6_count (l : Launch) (D : va_G) (aI aL aZ : ClassId) (h0 : Nat) (ph : Nat) (nh : Nat) (sh : Nat) (fh : Nat) (lo : Nat) (hi : Nat) (at_ : Nat) (dg : Nat) (p1 : Nat) (p2 : Nat) (p3 : Nat) (le : Nat) (ri : Nat) (wa : Nat) (kf : Nat) (kt : Nat) (ar : Nat) (x : Int32) (sz : Nat) : MI l D q_cl (q_ty aI aL aZ) yX6_count vsX6_count 1 0 0 [.ref h0, .int x] [(h0, .inr (4, [.ref ph, .ref nh, .ref sh, .ref fh, .int 0])), (ph, .inr (2, [.ref lo, .ref hi, .int 0])), (nh, .inr (1, [.ref at_, .ref dg, .int 0])), (fh, .inr (0, [.ref p1, .ref p2, .ref p3, .ref le, .ref ri, .ref wa, .ref kf, .ref kt, .ref ar, .int 1, .int 0]))] sz (fun (r : Int32) (u : Unit) => r = (cnt x)) (fun (u : Unit) => ([] : va_W)) := by
  refine q_in cX6_count 2 (some .int) (qQi D q_cl (q_ty aI aL aZ) _ _) (by decide) rfl (Nat.le_of_ble_eq_true rfl) ?_
  intro p e s m args below meth c A ls hat hP hD hS hl
  obtain ⟨hx, hb, hr, hts, hown, hlocks, hml, hin, hK, hN, hA⟩ := hat
  have hown : s.vm.findClass RX6 = some m.cls := hown
  have hl : lv_has ls 2 [(0, .ref h0), (1, .int x)] := hl
  refine lv_iload_n hx hb dX6_count_0 rfl (lv_at hl 1 rfl) ?_
  by_cases w_1 : x = 0
  · subst w_1
    refine lv_tableIn (tgt := 32) hx hb dX6_count_1 (by decide) (by decide) rfl (by decide) ?_
    refine lv_aload_n hx hb dX6_count_32 rfl (lv_at hl 0 rfl) ?_
    refine va_get (D := D) (ci := 4) (v := .ref nh) (C := RX6) (T := TX6) (N := 5) hx hb hts n_X6_count_X6 hown hK hP 0 rfl rfl 1 (by decide) (hts (.fieldLink RX6 19 "FaceMap" "nodes" "LFaceMap$Nodes;") (List.mem_of_getElem? (i := 1) rfl)) (fun _ h9 => h9) rfl dX6_count_33 ?_
    refine va_get (D := D) (ci := 1) (v := .int 0) (C := RX1) (T := TX1) (N := 3) hx hb hts n_X6_count_X1 hown hK hP 2 rfl rfl 2 (by decide) (hts (.fieldLink RX6 101 "FaceMap$Nodes" "size" "I") (List.mem_of_getElem? (i := 2) rfl)) (fun _ h9 => h9) rfl dX6_count_36 ?_
    have hP9 := hP.sub (ws' := []) [] rfl
    have hD9 := hD.sub (ws' := []) [] (by decide) rfl
    exact q_reti () hx hb hr hlocks hK hP9 hD9 hS (Nat.le_of_ble_eq_true rfl) (Nat.le_of_ble_eq_true rfl) ((by first | decide | exact cnt_o (by assumption) (by assumption) (by assumption) (by assumption))) dX6_count_39
  by_cases w_2 : x = 1
  · subst w_2
    refine lv_tableIn (tgt := 40) hx hb dX6_count_1 (by decide) (by decide) rfl (by decide) ?_
    refine lv_aload_n hx hb dX6_count_40 rfl (lv_at hl 0 rfl) ?_
    refine va_get (D := D) (ci := 4) (v := .ref ph) (C := RX6) (T := TX6) (N := 5) hx hb hts n_X6_count_X6 hown hK hP 0 rfl rfl 0 (by decide) (hts (.fieldLink RX6 10 "FaceMap" "pieces" "LFaceMap$Pieces;") (List.mem_of_getElem? (i := 3) rfl)) (fun _ h9 => h9) rfl dX6_count_41 ?_
    refine va_get (D := D) (ci := 2) (v := .int 0) (C := RX2) (T := TX2) (N := 3) hx hb hts n_X6_count_X2 hown hK hP 1 rfl rfl 2 (by decide) (hts (.fieldLink RX6 71 "FaceMap$Pieces" "size" "I") (List.mem_of_getElem? (i := 4) rfl)) (fun _ h9 => h9) rfl dX6_count_44 ?_
    have hP9 := hP.sub (ws' := []) [] rfl
    have hD9 := hD.sub (ws' := []) [] (by decide) rfl
    exact q_reti () hx hb hr hlocks hK hP9 hD9 hS (Nat.le_of_ble_eq_true rfl) (Nat.le_of_ble_eq_true rfl) ((by first | decide | exact cnt_o (by assumption) (by assumption) (by assumption) (by assumption))) dX6_count_47
  by_cases w_3 : x = 2
  · subst w_3
    refine lv_tableIn (tgt := 48) hx hb dX6_count_1 (by decide) (by decide) rfl (by decide) ?_
    refine lv_aload_n hx hb dX6_count_48 rfl (lv_at hl 0 rfl) ?_
    refine q_r (wr := [(ph, .inr (2, [.ref lo, .ref hi, .int 0])), (nh, .inr (1, [.ref at_, .ref dg, .int 0])), (fh, .inr (0, [.ref p1, .ref p2, .ref p3, .ref le, .ref ri, .ref wa, .ref kf, .ref kt, .ref ar, .int 1, .int 0]))]) (q_runV (As := []) (rest := []) ⟨hx, hb, hml, hown, hts⟩ (c_X6_freshFaces l D aI aL aZ h0 ph nh sh fh _) (cwV 0 hts g_X6_count_X6_freshFaces_102 rfl rfl rfl (by decide +kernel) ⟨Nat.le_of_ble_eq_true rfl, Nat.le_of_ble_eq_true rfl⟩) hK hN hP hD [0] rfl (by decide) rfl rfl rfl hl.1 rfl (Nat.le_of_ble_eq_true rfl) dX6_count_49 ⟨Nat.le_of_ble_eq_true rfl, Nat.le_of_ble_eq_true rfl⟩) hP hD hS hA [0] [1, 2, 3] rfl rfl (by decide) (by decide) (fun u_4 H locs hw hP hD hS => ?_)
    have hP : va_P D q_cl [(ph, .inr (2, [.ref lo, .ref hi, .int 0])), (nh, .inr (1, [.ref at_, .ref dg, .int 0])), (fh, .inr (0, [.ref p1, .ref p2, .ref p3, .ref le, .ref ri, .ref wa, .ref kf, .ref kt, .ref ar, .int 1, .int 0])), (h0, .inr (4, [.ref ph, .ref nh, .ref sh, .ref fh, .int 0]))] H := hP
    have hD : va_D A [(ph, .inr (2, [.ref lo, .ref hi, .int 0])), (nh, .inr (1, [.ref at_, .ref dg, .int 0])), (fh, .inr (0, [.ref p1, .ref p2, .ref p3, .ref le, .ref ri, .ref wa, .ref kf, .ref kt, .ref ar, .int 1, .int 0])), (h0, .inr (4, [.ref ph, .ref nh, .ref sh, .ref fh, .int 0]))] := hD
    refine va_get (D := D) (ci := 0) (v := .int 1) (C := RX0) (T := TX0) (N := 11) hx hb hts n_X6_count_X0 hown hK hP 2 rfl rfl 9 (by decide) (hts (.fieldLink RX6 106 "FaceMap$Faces" "size" "I") (List.mem_of_getElem? (i := 5) rfl)) (fun _ h9 => h9) rfl dX6_count_52 ?_
    have hP9 := hP.sub (ws' := []) [] rfl
    have hD9 := hD.sub (ws' := []) [] (by decide) rfl
    exact q_reti () hx hb hr hlocks hK hP9 hD9 hS (Nat.le_of_ble_eq_true rfl) (Nat.le_of_ble_eq_true rfl) ((by first | decide | exact cnt_o (by assumption) (by assumption) (by assumption) (by assumption))) dX6_count_55
  by_cases w_5 : x = 3
  · subst w_5
    refine lv_tableIn (tgt := 56) hx hb dX6_count_1 (by decide) (by decide) rfl (by decide) ?_
    refine lv_aload_n hx hb dX6_count_56 rfl (lv_at hl 0 rfl) ?_
    refine q_r (wr := [(ph, .inr (2, [.ref lo, .ref hi, .int 0])), (nh, .inr (1, [.ref at_, .ref dg, .int 0])), (fh, .inr (0, [.ref p1, .ref p2, .ref p3, .ref le, .ref ri, .ref wa, .ref kf, .ref kt, .ref ar, .int 1, .int 0]))]) (q_runV (As := []) (rest := []) ⟨hx, hb, hml, hown, hts⟩ (c_X6_freshFaces l D aI aL aZ h0 ph nh sh fh _) (cwV 0 hts g_X6_count_X6_freshFaces_102 rfl rfl rfl (by decide +kernel) ⟨Nat.le_of_ble_eq_true rfl, Nat.le_of_ble_eq_true rfl⟩) hK hN hP hD [0] rfl (by decide) rfl rfl rfl hl.1 rfl (Nat.le_of_ble_eq_true rfl) dX6_count_57 ⟨Nat.le_of_ble_eq_true rfl, Nat.le_of_ble_eq_true rfl⟩) hP hD hS hA [0] [1, 2, 3] rfl rfl (by decide) (by decide) (fun u_6 H locs hw hP hD hS => ?_)
    have hP : va_P D q_cl [(ph, .inr (2, [.ref lo, .ref hi, .int 0])), (nh, .inr (1, [.ref at_, .ref dg, .int 0])), (fh, .inr (0, [.ref p1, .ref p2, .ref p3, .ref le, .ref ri, .ref wa, .ref kf, .ref kt, .ref ar, .int 1, .int 0])), (h0, .inr (4, [.ref ph, .ref nh, .ref sh, .ref fh, .int 0]))] H := hP
    have hD : va_D A [(ph, .inr (2, [.ref lo, .ref hi, .int 0])), (nh, .inr (1, [.ref at_, .ref dg, .int 0])), (fh, .inr (0, [.ref p1, .ref p2, .ref p3, .ref le, .ref ri, .ref wa, .ref kf, .ref kt, .ref ar, .int 1, .int 0])), (h0, .inr (4, [.ref ph, .ref nh, .ref sh, .ref fh, .int 0]))] := hD
    refine va_get (D := D) (ci := 0) (v := .int 0) (C := RX0) (T := TX0) (N := 11) hx hb hts n_X6_count_X0 hown hK hP 2 rfl rfl 10 (by decide) (hts (.fieldLink RX6 107 "FaceMap$Faces" "parts" "I") (List.mem_of_getElem? (i := 6) rfl)) (fun _ h9 => h9) rfl dX6_count_60 ?_
    have hP9 := hP.sub (ws' := []) [] rfl
    have hD9 := hD.sub (ws' := []) [] (by decide) rfl
    exact q_reti () hx hb hr hlocks hK hP9 hD9 hS (Nat.le_of_ble_eq_true rfl) (Nat.le_of_ble_eq_true rfl) ((by first | decide | exact cnt_o (by assumption) (by assumption) (by assumption) (by assumption))) dX6_count_63
  refine lv_tableOut (tgt := 64) hx hb dX6_count_1 (q_sw3 w_1 w_2 w_3 w_5) (by decide) ?_
  refine lv_iconst (v := (-1)) hx hb dX6_count_64 (by decide) ?_
  have hP9 := hP.sub (ws' := []) [] rfl
  have hD9 := hD.sub (ws' := []) [] (by decide) rfl
  exact q_reti () hx hb hr hlocks hK hP9 hD9 hS (Nat.le_of_ble_eq_true rfl) (Nat.le_of_ble_eq_true rfl) ((by first | decide | exact cnt_o (by assumption) (by assumption) (by assumption) (by assumption))) dX6_count_65
def vsX6_node : List Cond := .code yX6_node cX6_node 3 (some .int) :: ([.constant RX6 110 (1000000), .fieldLink RX6 19 "FaceMap" "nodes" "LFaceMap$Nodes;", .fieldLink RX6 101 "FaceMap$Nodes" "size" "I"] ++ wsX60 ++ wsX10)
set_option maxRecDepth 20000 in
theorem n_X6_node_X6 : ∀ w ∈ wsX60, w ∈ vsX6_node := fun _ h => List.mem_cons_of_mem _ (List.mem_append_left _ (List.mem_append_right _ h))
set_option maxRecDepth 20000 in
theorem n_X6_node_X1 : ∀ w ∈ wsX10, w ∈ vsX6_node := fun _ h => List.mem_cons_of_mem _ (List.mem_append_right _ h)
set_option maxHeartbeats 4000000 in
set_option maxRecDepth 100000 in
/-- FaceMap.node -/
theorem c_X6_node (l : Launch) (D : va_G) (aI aL aZ : ClassId) (h0 : Nat) (ph : Nat) (nh : Nat) (sh : Nat) (fh : Nat) (at_ : Nat) (dg : Nat) (x : Int32) (y : Int32) (sz : Nat) : MI l D q_cl (q_ty aI aL aZ) yX6_node vsX6_node 0 0 0 [.ref h0, .int x, .int y] [(h0, .inr (4, [.ref ph, .ref nh, .ref sh, .ref fh, .int 0])), (nh, .inr (1, [.ref at_, .ref dg, .int 0]))] sz (fun (r : Int32) (u : Unit) => r = 1000000) (fun (u : Unit) => ([] : va_W)) := by
  refine q_in cX6_node 3 (some .int) (qQi D q_cl (q_ty aI aL aZ) _ _) (by decide) rfl (Nat.le_of_ble_eq_true rfl) ?_
  intro p e s m args below meth c A ls hat hP hD hS hl
  obtain ⟨hx, hb, hr, hts, hown, hlocks, hml, hin, hK, hN, hA⟩ := hat
  have hown : s.vm.findClass RX6 = some m.cls := hown
  have hl : lv_has ls 3 [(0, .ref h0), (1, .int x), (2, .int y)] := hl
  refine lv_iload_n hx hb dX6_node_0 rfl (lv_at hl 1 rfl) ?_
  refine lv_if_lt (tgt := 15) hx hb dX6_node_1 (by decide) (fun c_1 => ?_) (fun c_1 => ?_)
  · refine lv_ldc (v := 1000000) hx hb hown (hts (.constant RX6 110 (1000000)) (List.mem_of_getElem? (i := 1) rfl)) dX6_node_15 ?_
    have hP9 := hP.sub (ws' := []) [] rfl
    have hD9 := hD.sub (ws' := []) [] (by decide) rfl
    exact q_reti () hx hb hr hlocks hK hP9 hD9 hS (Nat.le_of_ble_eq_true rfl) (Nat.le_of_ble_eq_true rfl) (rfl) dX6_node_17
  · refine lv_iload_n hx hb dX6_node_4 rfl (lv_at hl 1 rfl) ?_
    refine lv_aload_n hx hb dX6_node_5 rfl (lv_at hl 0 rfl) ?_
    refine va_get (D := D) (ci := 4) (v := .ref nh) (C := RX6) (T := TX6) (N := 5) hx hb hts n_X6_node_X6 hown hK hP 0 rfl rfl 1 (by decide) (hts (.fieldLink RX6 19 "FaceMap" "nodes" "LFaceMap$Nodes;") (List.mem_of_getElem? (i := 2) rfl)) (fun _ h9 => h9) rfl dX6_node_6 ?_
    refine va_get (D := D) (ci := 1) (v := .int 0) (C := RX1) (T := TX1) (N := 3) hx hb hts n_X6_node_X1 hown hK hP 1 rfl rfl 2 (by decide) (hts (.fieldLink RX6 101 "FaceMap$Nodes" "size" "I") (List.mem_of_getElem? (i := 3) rfl)) (fun _ h9 => h9) rfl dX6_node_9 ?_
    refine lv_icmp_lt (tgt := 18) hx hb dX6_node_12 (by decide) (fun c_2 => ?_) (fun c_2 => ?_)
    · exact absurd c_2 (by assumption)
    · refine lv_ldc (v := 1000000) hx hb hown (hts (.constant RX6 110 (1000000)) (List.mem_of_getElem? (i := 1) rfl)) dX6_node_15 ?_
      have hP9 := hP.sub (ws' := []) [] rfl
      have hD9 := hD.sub (ws' := []) [] (by decide) rfl
      exact q_reti () hx hb hr hlocks hK hP9 hD9 hS (Nat.le_of_ble_eq_true rfl) (Nat.le_of_ble_eq_true rfl) (rfl) dX6_node_17
def vsX6_piece : List Cond := .code yX6_piece cX6_piece 3 (some .int) :: ([.fieldLink RX6 10 "FaceMap" "pieces" "LFaceMap$Pieces;", .fieldLink RX6 71 "FaceMap$Pieces" "size" "I"] ++ wsX60 ++ wsX20)
set_option maxRecDepth 20000 in
theorem n_X6_piece_X6 : ∀ w ∈ wsX60, w ∈ vsX6_piece := fun _ h => List.mem_cons_of_mem _ (List.mem_append_left _ (List.mem_append_right _ h))
set_option maxRecDepth 20000 in
theorem n_X6_piece_X2 : ∀ w ∈ wsX20, w ∈ vsX6_piece := fun _ h => List.mem_cons_of_mem _ (List.mem_append_right _ h)
set_option maxHeartbeats 4000000 in
set_option maxRecDepth 100000 in
/-- FaceMap.piece -/
theorem c_X6_piece (l : Launch) (D : va_G) (aI aL aZ : ClassId) (h0 : Nat) (ph : Nat) (nh : Nat) (sh : Nat) (fh : Nat) (lo : Nat) (hi : Nat) (x : Int32) (y : Int32) (sz : Nat) : MI l D q_cl (q_ty aI aL aZ) yX6_piece vsX6_piece 0 0 0 [.ref h0, .int x, .int y] [(h0, .inr (4, [.ref ph, .ref nh, .ref sh, .ref fh, .int 0])), (ph, .inr (2, [.ref lo, .ref hi, .int 0]))] sz (fun (r : Int32) (u : Unit) => r = (-1)) (fun (u : Unit) => ([] : va_W)) := by
  refine q_in cX6_piece 3 (some .int) (qQi D q_cl (q_ty aI aL aZ) _ _) (by decide) rfl (Nat.le_of_ble_eq_true rfl) ?_
  intro p e s m args below meth c A ls hat hP hD hS hl
  obtain ⟨hx, hb, hr, hts, hown, hlocks, hml, hin, hK, hN, hA⟩ := hat
  have hown : s.vm.findClass RX6 = some m.cls := hown
  have hl : lv_has ls 3 [(0, .ref h0), (1, .int x), (2, .int y)] := hl
  refine lv_iload_n hx hb dX6_piece_0 rfl (lv_at hl 1 rfl) ?_
  refine lv_if_lt (tgt := 15) hx hb dX6_piece_1 (by decide) (fun c_1 => ?_) (fun c_1 => ?_)
  · refine lv_iconst (v := (-1)) hx hb dX6_piece_15 (by decide) ?_
    have hP9 := hP.sub (ws' := []) [] rfl
    have hD9 := hD.sub (ws' := []) [] (by decide) rfl
    exact q_reti () hx hb hr hlocks hK hP9 hD9 hS (Nat.le_of_ble_eq_true rfl) (Nat.le_of_ble_eq_true rfl) (rfl) dX6_piece_16
  · refine lv_iload_n hx hb dX6_piece_4 rfl (lv_at hl 1 rfl) ?_
    refine lv_aload_n hx hb dX6_piece_5 rfl (lv_at hl 0 rfl) ?_
    refine va_get (D := D) (ci := 4) (v := .ref ph) (C := RX6) (T := TX6) (N := 5) hx hb hts n_X6_piece_X6 hown hK hP 0 rfl rfl 0 (by decide) (hts (.fieldLink RX6 10 "FaceMap" "pieces" "LFaceMap$Pieces;") (List.mem_of_getElem? (i := 1) rfl)) (fun _ h9 => h9) rfl dX6_piece_6 ?_
    refine va_get (D := D) (ci := 2) (v := .int 0) (C := RX2) (T := TX2) (N := 3) hx hb hts n_X6_piece_X2 hown hK hP 1 rfl rfl 2 (by decide) (hts (.fieldLink RX6 71 "FaceMap$Pieces" "size" "I") (List.mem_of_getElem? (i := 2) rfl)) (fun _ h9 => h9) rfl dX6_piece_9 ?_
    refine lv_icmp_lt (tgt := 17) hx hb dX6_piece_12 (by decide) (fun c_2 => ?_) (fun c_2 => ?_)
    · exact absurd c_2 (by assumption)
    · refine lv_iconst (v := (-1)) hx hb dX6_piece_15 (by decide) ?_
      have hP9 := hP.sub (ws' := []) [] rfl
      have hD9 := hD.sub (ws' := []) [] (by decide) rfl
      exact q_reti () hx hb hr hlocks hK hP9 hD9 hS (Nat.le_of_ble_eq_true rfl) (Nat.le_of_ble_eq_true rfl) (rfl) dX6_piece_16
def vsX6_face : List Cond := .code yX6_face cX6_face 4 (some .int) :: ([.fieldLink RX6 143 "FaceMap$Faces" "rings" "[I", .fieldLink RX6 146 "FaceMap$Faces" "ways" "[I", .fieldLink RX6 149 "FaceMap$Faces" "keyFrom" "[I", .fieldLink RX6 152 "FaceMap$Faces" "keyTo" "[I", .methodLink RX6 102 yX6_freshFaces, .instanceMethod yX6_freshFaces, .selects RX6 yX6_freshFaces yX6_freshFaces, .initialized RX6, .code yX6_freshFaces cX6_freshFaces 1 (some (.object "FaceMap$Faces")), .fieldLink RX6 41 "FaceMap" "facesAreOld" "Z", .fieldLink RX6 37 "FaceMap" "faces" "LFaceMap$Faces;", .methodLink RX6 140 yX0_has, .instanceMethod yX0_has, .selects RX0 yX0_has yX0_has, .initialized RX0, .code yX0_has cX0_has 2 (some .boolean), .fieldLink RX0 60 "FaceMap$Faces" "size" "I"] ++ wsX00 ++ wsX60)
set_option maxRecDepth 20000 in
theorem g_X6_face_X6_freshFaces_102 : GoodIn vsX6_face (wsV RX6 102 RX6 yX6_freshFaces vsX6_freshFaces) := goodIn_r _ [5, 6, 7, 8, 9, 10, 11, 29, 30, 31, 32, 33] rfl (by decide +kernel)
set_option maxRecDepth 20000 in
theorem g_X6_face_X0_has_140 : GoodIn vsX6_face (wsV RX6 140 RX0 yX0_has vsX0_has) := goodIn_r _ [12, 13, 14, 15, 16, 17, 18, 19, 20, 21, 22, 23, 24, 25, 26, 27, 28] rfl (by decide +kernel)
set_option maxRecDepth 20000 in
theorem n_X6_face_X0 : ∀ w ∈ wsX00, w ∈ vsX6_face := fun _ h => List.mem_cons_of_mem _ (List.mem_append_left _ (List.mem_append_right _ h))
set_option maxHeartbeats 4000000 in
set_option maxRecDepth 100000 in
/-- FaceMap.face -/
theorem c_X6_face (l : Launch) (D : va_G) (aI aL aZ : ClassId) (h0 : Nat) (ph : Nat) (nh : Nat) (sh : Nat) (fh : Nat) (p1 : Nat) (p2 : Nat) (p3 : Nat) (le : Nat) (ri : Nat) (wa : Nat) (kf : Nat) (kt : Nat) (ar : Nat) (fr : Nat → Int32) (fw : Nat → Int32) (fk : Nat → Int32) (ft : Nat → Int32) (x : Int32) (y : Int32) (hr0 : fr 0 = 0) (hw0 : fw 0 = 0) (hk0 : fk 0 = (-1)) (ht0 : ft 0 = (-1)) (sz : Nat) : MI l D q_cl (q_ty aI aL aZ) yX6_face vsX6_face 1 0 0 [.ref h0, .int x, .int y] [(h0, .inr (4, [.ref ph, .ref nh, .ref sh, .ref fh, .int 0])), (fh, .inr (0, [.ref p1, .ref p2, .ref p3, .ref le, .ref ri, .ref wa, .ref kf, .ref kt, .ref ar, .int 1, .int 0])), (ri, .inl (aI, 9, .inl fr)), (wa, .inl (aI, 9, .inl fw)), (kf, .inl (aI, 9, .inl fk)), (kt, .inl (aI, 9, .inl ft))] sz (fun (r : Int32) (u : Unit) => r = (fac x y)) (fun (u : Unit) => ([] : va_W)) := by
  refine q_in cX6_face 4 (some .int) (qQi D q_cl (q_ty aI aL aZ) _ _) (by decide) rfl (Nat.le_of_ble_eq_true rfl) ?_
  intro p e s m args below meth c A ls hat hP hD hS hl
  obtain ⟨hx, hb, hr, hts, hown, hlocks, hml, hin, hK, hN, hA⟩ := hat
  have hown : s.vm.findClass RX6 = some m.cls := hown
  have hl : lv_has ls 4 [(0, .ref h0), (1, .int x), (2, .int y)] := hl
  refine lv_aload_n hx hb dX6_face_0 rfl (lv_at hl 0 rfl) ?_
  refine q_r (wr := [(fh, .inr (0, [.ref p1, .ref p2, .ref p3, .ref le, .ref ri, .ref wa, .ref kf, .ref kt, .ref ar, .int 1, .int 0])), (ri, .inl (aI, 9, .inl fr)), (wa, .inl (aI, 9, .inl fw)), (kf, .inl (aI, 9, .inl fk)), (kt, .inl (aI, 9, .inl ft))]) (q_runV (As := []) (rest := []) ⟨hx, hb, hml, hown, hts⟩ (c_X6_freshFaces l D aI aL aZ h0 ph nh sh fh _) (cwV 0 hts g_X6_face_X6_freshFaces_102 rfl rfl rfl (by decide +kernel) ⟨Nat.le_of_ble_eq_true rfl, Nat.le_of_ble_eq_true rfl⟩) hK hN hP hD [0] rfl (by decide) rfl rfl rfl hl.1 rfl (Nat.le_of_ble_eq_true rfl) dX6_face_1 ⟨Nat.le_of_ble_eq_true rfl, Nat.le_of_ble_eq_true rfl⟩) hP hD hS hA [0] [1, 2, 3, 4, 5] rfl rfl (by decide) (by decide) (fun u_1 H locs hw hP hD hS => ?_)
  have hP : va_P D q_cl [(fh, .inr (0, [.ref p1, .ref p2, .ref p3, .ref le, .ref ri, .ref wa, .ref kf, .ref kt, .ref ar, .int 1, .int 0])), (ri, .inl (aI, 9, .inl fr)), (wa, .inl (aI, 9, .inl fw)), (kf, .inl (aI, 9, .inl fk)), (kt, .inl (aI, 9, .inl ft)), (h0, .inr (4, [.ref ph, .ref nh, .ref sh, .ref fh, .int 0]))] H := hP
  have hD : va_D A [(fh, .inr (0, [.ref p1, .ref p2, .ref p3, .ref le, .ref ri, .ref wa, .ref kf, .ref kt, .ref ar, .int 1, .int 0])), (ri, .inl (aI, 9, .inl fr)), (wa, .inl (aI, 9, .inl fw)), (kf, .inl (aI, 9, .inl fk)), (kt, .inl (aI, 9, .inl ft)), (h0, .inr (4, [.ref ph, .ref nh, .ref sh, .ref fh, .int 0]))] := hD
  refine lv_astore_n (lv' := [(3, .ref fh), (0, .ref h0), (1, .int x), (2, .int y)]) hx hb dX6_face_4 rfl hl (by decide) rfl (fun ls hl => ?_)
  refine lv_aload_n hx hb dX6_face_5 rfl (lv_at hl 0 rfl) ?_
  refine lv_iload_n hx hb dX6_face_6 rfl (lv_at hl 2 rfl) ?_
  refine q_i (wr := [(ri, .inl (aI, 9, .inl fr)), (wa, .inl (aI, 9, .inl fw)), (kf, .inl (aI, 9, .inl fk)), (kt, .inl (aI, 9, .inl ft)), (h0, .inr (4, [.ref ph, .ref nh, .ref sh, .ref fh, .int 0]))]) (q_runV (As := [.int x]) (rest := []) ⟨hx, hb, hml, hown, hts⟩ (c_X0_has l D aI aL aZ fh p1 p2 p3 le ri wa kf kt ar x _) (cwV 1 hts g_X6_face_X0_has_140 rfl rfl rfl (by decide +kernel) ⟨Nat.le_of_ble_eq_true rfl, Nat.le_of_ble_eq_true rfl⟩) hK hN hP hD [0] rfl (by decide) rfl rfl rfl hl.1 rfl (Nat.le_of_ble_eq_true rfl) dX6_face_7 ⟨Nat.le_of_ble_eq_true rfl, Nat.le_of_ble_eq_true rfl⟩) hP hD hS hA [0] [1, 2, 3, 4, 5] rfl rfl (by decide) (by decide) (fun r_2 u_2 H locs hw hP hD hS => ?_)
  rcases hw with ⟨rfl, f2_0⟩ | ⟨rfl, f2_0⟩
  · subst f2_0
    have hP : va_P D q_cl [(ri, .inl (aI, 9, .inl fr)), (wa, .inl (aI, 9, .inl fw)), (kf, .inl (aI, 9, .inl fk)), (kt, .inl (aI, 9, .inl ft)), (h0, .inr (4, [.ref ph, .ref nh, .ref sh, .ref fh, .int 0])), (fh, .inr (0, [.ref p1, .ref p2, .ref p3, .ref le, .ref ri, .ref wa, .ref kf, .ref kt, .ref ar, .int 1, .int 0]))] H := hP
    have hD : va_D A [(ri, .inl (aI, 9, .inl fr)), (wa, .inl (aI, 9, .inl fw)), (kf, .inl (aI, 9, .inl fk)), (kt, .inl (aI, 9, .inl ft)), (h0, .inr (4, [.ref ph, .ref nh, .ref sh, .ref fh, .int 0])), (fh, .inr (0, [.ref p1, .ref p2, .ref p3, .ref le, .ref ri, .ref wa, .ref kf, .ref kt, .ref ar, .int 1, .int 0]))] := hD
    refine lv_if_ne (tgt := 15) hx hb dX6_face_10 (by decide) (fun c_3 => ?_) (fun c_3 => ?_)
    · refine lv_iload_n hx hb dX6_face_15 rfl (lv_at hl 3 rfl) ?_
      by_cases w_4 : y = 0
      · subst w_4
        refine lv_tableIn (tgt := 48) hx hb dX6_face_16 (by decide) (by decide) rfl (by decide) ?_
        refine lv_aload_n hx hb dX6_face_48 rfl (lv_at hl 0 rfl) ?_
        refine va_get (D := D) (ci := 0) (v := .ref ri) (C := RX0) (T := TX0) (N := 11) hx hb hts n_X6_face_X0 hown hK hP 5 rfl rfl 4 (by decide) (hts (.fieldLink RX6 143 "FaceMap$Faces" "rings" "[I") (List.mem_of_getElem? (i := 1) rfl)) (fun _ h9 => h9) rfl dX6_face_49 ?_
        refine lv_iload_n hx hb dX6_face_52 rfl (lv_at hl 2 rfl) ?_
        refine va_iald hx hb hK hP 0 0 rfl rfl (q_ix 0 (by decide) (by decide) (by decide)) dX6_face_53 ?_
        refine q_vi (v := 0) hr0 ?_
        have hP9 := hP.sub (ws' := []) [] rfl
        have hD9 := hD.sub (ws' := []) [] (by decide) rfl
        exact q_reti () hx hb hr hlocks hK hP9 hD9 hS (Nat.le_of_ble_eq_true rfl) (Nat.le_of_ble_eq_true rfl) ((by first | decide | exact fac_n (by assumption) | exact fac_o (by assumption) (by assumption))) dX6_face_54
      by_cases w_5 : y = 1
      · subst w_5
        refine lv_tableIn (tgt := 55) hx hb dX6_face_16 (by decide) (by decide) rfl (by decide) ?_
        refine lv_aload_n hx hb dX6_face_55 rfl (lv_at hl 0 rfl) ?_
        refine va_get (D := D) (ci := 0) (v := .ref wa) (C := RX0) (T := TX0) (N := 11) hx hb hts n_X6_face_X0 hown hK hP 5 rfl rfl 5 (by decide) (hts (.fieldLink RX6 146 "FaceMap$Faces" "ways" "[I") (List.mem_of_getElem? (i := 2) rfl)) (fun _ h9 => h9) rfl dX6_face_56 ?_
        refine lv_iload_n hx hb dX6_face_59 rfl (lv_at hl 2 rfl) ?_
        refine va_iald hx hb hK hP 1 0 rfl rfl (q_ix 0 (by decide) (by decide) (by decide)) dX6_face_60 ?_
        refine q_vi (v := 0) hw0 ?_
        have hP9 := hP.sub (ws' := []) [] rfl
        have hD9 := hD.sub (ws' := []) [] (by decide) rfl
        exact q_reti () hx hb hr hlocks hK hP9 hD9 hS (Nat.le_of_ble_eq_true rfl) (Nat.le_of_ble_eq_true rfl) ((by first | decide | exact fac_n (by assumption) | exact fac_o (by assumption) (by assumption))) dX6_face_61
      by_cases w_6 : y = 2
      · subst w_6
        refine lv_tableIn (tgt := 62) hx hb dX6_face_16 (by decide) (by decide) rfl (by decide) ?_
        refine lv_aload_n hx hb dX6_face_62 rfl (lv_at hl 0 rfl) ?_
        refine va_get (D := D) (ci := 0) (v := .ref kf) (C := RX0) (T := TX0) (N := 11) hx hb hts n_X6_face_X0 hown hK hP 5 rfl rfl 6 (by decide) (hts (.fieldLink RX6 149 "FaceMap$Faces" "keyFrom" "[I") (List.mem_of_getElem? (i := 3) rfl)) (fun _ h9 => h9) rfl dX6_face_63 ?_
        refine lv_iload_n hx hb dX6_face_66 rfl (lv_at hl 2 rfl) ?_
        refine va_iald hx hb hK hP 2 0 rfl rfl (q_ix 0 (by decide) (by decide) (by decide)) dX6_face_67 ?_
        refine q_vi (v := (-1)) hk0 ?_
        have hP9 := hP.sub (ws' := []) [] rfl
        have hD9 := hD.sub (ws' := []) [] (by decide) rfl
        exact q_reti () hx hb hr hlocks hK hP9 hD9 hS (Nat.le_of_ble_eq_true rfl) (Nat.le_of_ble_eq_true rfl) ((by first | decide | exact fac_n (by assumption) | exact fac_o (by assumption) (by assumption))) dX6_face_68
      by_cases w_7 : y = 3
      · subst w_7
        refine lv_tableIn (tgt := 69) hx hb dX6_face_16 (by decide) (by decide) rfl (by decide) ?_
        refine lv_aload_n hx hb dX6_face_69 rfl (lv_at hl 0 rfl) ?_
        refine va_get (D := D) (ci := 0) (v := .ref kt) (C := RX0) (T := TX0) (N := 11) hx hb hts n_X6_face_X0 hown hK hP 5 rfl rfl 7 (by decide) (hts (.fieldLink RX6 152 "FaceMap$Faces" "keyTo" "[I") (List.mem_of_getElem? (i := 4) rfl)) (fun _ h9 => h9) rfl dX6_face_70 ?_
        refine lv_iload_n hx hb dX6_face_73 rfl (lv_at hl 2 rfl) ?_
        refine va_iald hx hb hK hP 3 0 rfl rfl (q_ix 0 (by decide) (by decide) (by decide)) dX6_face_74 ?_
        refine q_vi (v := (-1)) ht0 ?_
        have hP9 := hP.sub (ws' := []) [] rfl
        have hD9 := hD.sub (ws' := []) [] (by decide) rfl
        exact q_reti () hx hb hr hlocks hK hP9 hD9 hS (Nat.le_of_ble_eq_true rfl) (Nat.le_of_ble_eq_true rfl) ((by first | decide | exact fac_n (by assumption) | exact fac_o (by assumption) (by assumption))) dX6_face_75
      refine lv_tableOut (tgt := 76) hx hb dX6_face_16 (q_sw3 w_4 w_5 w_6 w_7) (by decide) ?_
      refine lv_iconst (v := (-1)) hx hb dX6_face_76 (by decide) ?_
      have hP9 := hP.sub (ws' := []) [] rfl
      have hD9 := hD.sub (ws' := []) [] (by decide) rfl
      exact q_reti () hx hb hr hlocks hK hP9 hD9 hS (Nat.le_of_ble_eq_true rfl) (Nat.le_of_ble_eq_true rfl) ((by first | decide | exact fac_n (by assumption) | exact fac_o (by assumption) (by assumption))) dX6_face_77
    · exact absurd c_3 (by decide)
  · have hP : va_P D q_cl [(ri, .inl (aI, 9, .inl fr)), (wa, .inl (aI, 9, .inl fw)), (kf, .inl (aI, 9, .inl fk)), (kt, .inl (aI, 9, .inl ft)), (h0, .inr (4, [.ref ph, .ref nh, .ref sh, .ref fh, .int 0])), (fh, .inr (0, [.ref p1, .ref p2, .ref p3, .ref le, .ref ri, .ref wa, .ref kf, .ref kt, .ref ar, .int 1, .int 0]))] H := hP
    have hD : va_D A [(ri, .inl (aI, 9, .inl fr)), (wa, .inl (aI, 9, .inl fw)), (kf, .inl (aI, 9, .inl fk)), (kt, .inl (aI, 9, .inl ft)), (h0, .inr (4, [.ref ph, .ref nh, .ref sh, .ref fh, .int 0])), (fh, .inr (0, [.ref p1, .ref p2, .ref p3, .ref le, .ref ri, .ref wa, .ref kf, .ref kt, .ref ar, .int 1, .int 0]))] := hD
    refine lv_if_ne (tgt := 15) hx hb dX6_face_10 (by decide) (fun c_8 => ?_) (fun c_8 => ?_)
    · exact absurd c_8 (by decide)
    · refine lv_iconst (v := (-1)) hx hb dX6_face_13 (by decide) ?_
      have hP9 := hP.sub (ws' := []) [] rfl
      have hD9 := hD.sub (ws' := []) [] (by decide) rfl
      exact q_reti () hx hb hr hlocks hK hP9 hD9 hS (Nat.le_of_ble_eq_true rfl) (Nat.le_of_ble_eq_true rfl) ((by first | decide | exact fac_n (by assumption) | exact fac_o (by assumption) (by assumption))) dX6_face_14
def vsX6_area2 : List Cond := .code yX6_area2 cX6_area2 3 (some .long) :: ([.methodLink RX6 102 yX6_freshFaces, .instanceMethod yX6_freshFaces, .selects RX6 yX6_freshFaces yX6_freshFaces, .initialized RX6, .code yX6_freshFaces cX6_freshFaces 1 (some (.object "FaceMap$Faces")), .fieldLink RX6 41 "FaceMap" "facesAreOld" "Z", .fieldLink RX6 37 "FaceMap" "faces" "LFaceMap$Faces;", .methodLink RX6 140 yX0_has, .instanceMethod yX0_has, .selects RX0 yX0_has yX0_has, .initialized RX0, .code yX0_has cX0_has 2 (some .boolean), .fieldLink RX0 60 "FaceMap$Faces" "size" "I"] ++ wsX60 ++ wsX00)
set_option maxRecDepth 20000 in
theorem g_X6_area2_X6_freshFaces_102 : GoodIn vsX6_area2 (wsV RX6 102 RX6 yX6_freshFaces vsX6_freshFaces) := goodIn_r _ [1, 2, 3, 4, 5, 6, 7, 14, 15, 16, 17, 18] rfl (by decide +kernel)
set_option maxRecDepth 20000 in
theorem g_X6_area2_X0_has_140 : GoodIn vsX6_area2 (wsV RX6 140 RX0 yX0_has vsX0_has) := goodIn_r _ [8, 9, 10, 11, 12, 13, 19, 20, 21, 22, 23, 24, 25, 26, 27, 28, 29] rfl (by decide +kernel)
set_option maxHeartbeats 4000000 in
set_option maxRecDepth 100000 in
/-- FaceMap.area2 -/
theorem c_X6_area2 (l : Launch) (D : va_G) (aI aL aZ : ClassId) (h0 : Nat) (ph : Nat) (nh : Nat) (sh : Nat) (fh : Nat) (p1 : Nat) (p2 : Nat) (p3 : Nat) (le : Nat) (ri : Nat) (wa : Nat) (kf : Nat) (kt : Nat) (ar : Nat) (x : Int32) (sz : Nat) : ML l D q_cl (q_ty aI aL aZ) yX6_area2 vsX6_area2 1 0 0 [.ref h0, .int x] [(h0, .inr (4, [.ref ph, .ref nh, .ref sh, .ref fh, .int 0])), (fh, .inr (0, [.ref p1, .ref p2, .ref p3, .ref le, .ref ri, .ref wa, .ref kf, .ref kt, .ref ar, .int 1, .int 0]))] sz (fun (r : Int64) (u : Unit) => r = 0) (fun (u : Unit) => ([] : va_W)) := by
  refine q_in cX6_area2 3 (some .long) (qQl D q_cl (q_ty aI aL aZ) _ _) (by decide) rfl (Nat.le_of_ble_eq_true rfl) ?_
  intro p e s m args below meth c A ls hat hP hD hS hl
  obtain ⟨hx, hb, hr, hts, hown, hlocks, hml, hin, hK, hN, hA⟩ := hat
  have hown : s.vm.findClass RX6 = some m.cls := hown
  have hl : lv_has ls 3 [(0, .ref h0), (1, .int x)] := hl
  refine lv_aload_n hx hb dX6_area2_0 rfl (lv_at hl 0 rfl) ?_
  refine q_r (wr := [(fh, .inr (0, [.ref p1, .ref p2, .ref p3, .ref le, .ref ri, .ref wa, .ref kf, .ref kt, .ref ar, .int 1, .int 0]))]) (q_runV (As := []) (rest := []) ⟨hx, hb, hml, hown, hts⟩ (c_X6_freshFaces l D aI aL aZ h0 ph nh sh fh _) (cwV 0 hts g_X6_area2_X6_freshFaces_102 rfl rfl rfl (by decide +kernel) ⟨Nat.le_of_ble_eq_true rfl, Nat.le_of_ble_eq_true rfl⟩) hK hN hP hD [0] rfl (by decide) rfl rfl rfl hl.1 rfl (Nat.le_of_ble_eq_true rfl) dX6_area2_1 ⟨Nat.le_of_ble_eq_true rfl, Nat.le_of_ble_eq_true rfl⟩) hP hD hS hA [0] [1] rfl rfl (by decide) (by decide) (fun u_1 H locs hw hP hD hS => ?_)
  have hP : va_P D q_cl [(fh, .inr (0, [.ref p1, .ref p2, .ref p3, .ref le, .ref ri, .ref wa, .ref kf, .ref kt, .ref ar, .int 1, .int 0])), (h0, .inr (4, [.ref ph, .ref nh, .ref sh, .ref fh, .int 0]))] H := hP
  have hD : va_D A [(fh, .inr (0, [.ref p1, .ref p2, .ref p3, .ref le, .ref ri, .ref wa, .ref kf, .ref kt, .ref ar, .int 1, .int 0])), (h0, .inr (4, [.ref ph, .ref nh, .ref sh, .ref fh, .int 0]))] := hD
  refine lv_astore_n (lv' := [(2, .ref fh), (0, .ref h0), (1, .int x)]) hx hb dX6_area2_4 rfl hl (by decide) rfl (fun ls hl => ?_)
  refine lv_iload_n hx hb dX6_area2_5 rfl (lv_at hl 2 rfl) ?_
  refine lv_if_eq (tgt := 26) hx hb dX6_area2_6 (by decide) (fun c_2 => ?_) (fun c_2 => ?_)
  · refine lv_lconst (v := 0) hx hb dX6_area2_26 (by decide) ?_
    have hP9 := hP.sub (ws' := []) [] rfl
    have hD9 := hD.sub (ws' := []) [] (by decide) rfl
    exact q_retl () hx hb hr hlocks hK hP9 hD9 hS (Nat.le_of_ble_eq_true rfl) (Nat.le_of_ble_eq_true rfl) (rfl) dX6_area2_27
  · refine lv_aload_n hx hb dX6_area2_9 rfl (lv_at hl 0 rfl) ?_
    refine lv_iload_n hx hb dX6_area2_10 rfl (lv_at hl 2 rfl) ?_
    refine q_i (wr := [(h0, .inr (4, [.ref ph, .ref nh, .ref sh, .ref fh, .int 0]))]) (q_runV (As := [.int x]) (rest := []) ⟨hx, hb, hml, hown, hts⟩ (c_X0_has l D aI aL aZ fh p1 p2 p3 le ri wa kf kt ar x _) (cwV 1 hts g_X6_area2_X0_has_140 rfl rfl rfl (by decide +kernel) ⟨Nat.le_of_ble_eq_true rfl, Nat.le_of_ble_eq_true rfl⟩) hK hN hP hD [0] rfl (by decide) rfl rfl rfl hl.1 rfl (Nat.le_of_ble_eq_true rfl) dX6_area2_11 ⟨Nat.le_of_ble_eq_true rfl, Nat.le_of_ble_eq_true rfl⟩) hP hD hS hA [0] [1] rfl rfl (by decide) (by decide) (fun r_3 u_3 H locs hw hP hD hS => ?_)
    rcases hw with ⟨rfl, f3_0⟩ | ⟨rfl, f3_0⟩
    · exact absurd f3_0 (by assumption)
    · have hP : va_P D q_cl [(h0, .inr (4, [.ref ph, .ref nh, .ref sh, .ref fh, .int 0])), (fh, .inr (0, [.ref p1, .ref p2, .ref p3, .ref le, .ref ri, .ref wa, .ref kf, .ref kt, .ref ar, .int 1, .int 0]))] H := hP
      have hD : va_D A [(h0, .inr (4, [.ref ph, .ref nh, .ref sh, .ref fh, .int 0])), (fh, .inr (0, [.ref p1, .ref p2, .ref p3, .ref le, .ref ri, .ref wa, .ref kf, .ref kt, .ref ar, .int 1, .int 0]))] := hD
      refine lv_if_eq (tgt := 26) hx hb dX6_area2_14 (by decide) (fun c_4 => ?_) (fun c_4 => ?_)
      · refine lv_lconst (v := 0) hx hb dX6_area2_26 (by decide) ?_
        have hP9 := hP.sub (ws' := []) [] rfl
        have hD9 := hD.sub (ws' := []) [] (by decide) rfl
        exact q_retl () hx hb hr hlocks hK hP9 hD9 hS (Nat.le_of_ble_eq_true rfl) (Nat.le_of_ble_eq_true rfl) (rfl) dX6_area2_27
      · exact absurd c_4 (by decide)
def vsX6_locate : List Cond := .code yX6_locate cX6_locate 6 (some .int) :: ([.fieldLink RX6 10 "FaceMap" "pieces" "LFaceMap$Pieces;", .methodLink RX6 45 yX3_inBounds, .static yX3_inBounds, .initialized RX3, .code yX3_inBounds cX3_inBounds 2 (some .boolean), .constant RX3 9 (-500000), .constant RX3 10 (500000), .methodLink RX6 51 yX3_of, .static yX3_of, .code yX3_of cX3_of 2 (some .long), .methodLink RX6 158 yX2_firstOn, .instanceMethod yX2_firstOn, .selects RX2 yX2_firstOn yX2_firstOn, .initialized RX2, .code yX2_firstOn cX2_firstOn 4 (some .int), .fieldLink RX2 16 "FaceMap$Pieces" "size" "I", .methodLink RX6 102 yX6_freshFaces, .instanceMethod yX6_freshFaces, .selects RX6 yX6_freshFaces yX6_freshFaces, .initialized RX6, .code yX6_freshFaces cX6_freshFaces 1 (some (.object "FaceMap$Faces")), .fieldLink RX6 41 "FaceMap" "facesAreOld" "Z", .fieldLink RX6 37 "FaceMap" "faces" "LFaceMap$Faces;", .methodLink RX6 161 yX2_nextBelow, .instanceMethod yX2_nextBelow, .selects RX2 yX2_nextBelow yX2_nextBelow, .code yX2_nextBelow cX2_nextBelow 6 (some .int), .methodLink RX6 164 yX0_above, .instanceMethod yX0_above, .selects RX0 yX0_above yX0_above, .initialized RX0, .code yX0_above cX0_above 2 (some .int)] ++ wsX60 ++ wsX20)
set_option maxRecDepth 20000 in
theorem g_X6_locate_X3_inBounds_45 : GoodIn vsX6_locate (va_wsS RX6 45 yX3_inBounds vsX3_inBounds) := goodIn_r _ [2, 3, 4, 5, 6, 7] rfl (by decide +kernel)
set_option maxRecDepth 20000 in
theorem g_X6_locate_X3_of_51 : GoodIn vsX6_locate (va_wsS RX6 51 yX3_of vsX3_of) := goodIn_r _ [8, 9, 4, 10, 7] rfl (by decide +kernel)
set_option maxRecDepth 20000 in
theorem n_X6_locate_X6 : ∀ w ∈ wsX60, w ∈ vsX6_locate := fun _ h => List.mem_cons_of_mem _ (List.mem_append_left _ (List.mem_append_right _ h))
set_option maxRecDepth 20000 in
theorem g_X6_locate_X2_firstOn_158 : GoodIn vsX6_locate (wsV RX6 158 RX2 yX2_firstOn vsX2_firstOn) := goodIn_r _ [11, 12, 13, 14, 15, 16, 38, 39, 40] rfl (by decide +kernel)
set_option maxRecDepth 20000 in
theorem g_X6_locate_X6_freshFaces_102 : GoodIn vsX6_locate (wsV RX6 102 RX6 yX6_freshFaces vsX6_freshFaces) := goodIn_r _ [17, 18, 19, 20, 21, 22, 23, 33, 34, 35, 36, 37] rfl (by decide +kernel)
set_option maxRecDepth 20000 in
theorem g_X6_locate_X2_nextBelow_161 : GoodIn vsX6_locate (wsV RX6 161 RX2 yX2_nextBelow vsX2_nextBelow) := goodIn_r _ [24, 25, 26, 14, 27, 16, 38, 39, 40] rfl (by decide +kernel)
set_option maxRecDepth 20000 in
theorem g_X6_locate_X0_above_164 : GoodIn vsX6_locate (wsV RX6 164 RX0 yX0_above vsX0_above) := goodIn_r _ [28, 29, 30, 31, 32] rfl (by decide +kernel)
set_option maxHeartbeats 4000000 in
set_option maxRecDepth 100000 in
/-- FaceMap.locate -/
theorem c_X6_locate (l : Launch) (D : va_G) (aI aL aZ : ClassId) (h0 : Nat) (ph : Nat) (nh : Nat) (sh : Nat) (fh : Nat) (lo : Nat) (hi : Nat) (p1 : Nat) (p2 : Nat) (p3 : Nat) (le : Nat) (ri : Nat) (wa : Nat) (kf : Nat) (kt : Nat) (ar : Nat) (x : Int32) (y : Int32) (sz : Nat) : MI l D q_cl (q_ty aI aL aZ) yX6_locate vsX6_locate 1 0 0 [.ref h0, .int x, .int y] [(h0, .inr (4, [.ref ph, .ref nh, .ref sh, .ref fh, .int 0])), (ph, .inr (2, [.ref lo, .ref hi, .int 0])), (fh, .inr (0, [.ref p1, .ref p2, .ref p3, .ref le, .ref ri, .ref wa, .ref kf, .ref kt, .ref ar, .int 1, .int 0]))] sz (fun (r : Int32) (u : Unit) => r = 0) (fun (u : Unit) => ([] : va_W)) := by
  refine q_in cX6_locate 6 (some .int) (qQi D q_cl (q_ty aI aL aZ) _ _) (by decide) rfl (Nat.le_of_ble_eq_true rfl) ?_
  intro p e s m args below meth c A ls hat hP hD hS hl
  obtain ⟨hx, hb, hr, hts, hown, hlocks, hml, hin, hK, hN, hA⟩ := hat
  have hown : s.vm.findClass RX6 = some m.cls := hown
  have hl : lv_has ls 6 [(0, .ref h0), (1, .int x), (2, .int y)] := hl
  refine lv_iload_n hx hb dX6_locate_0 rfl (lv_at hl 1 rfl) ?_
  refine lv_iload_n hx hb dX6_locate_1 rfl (lv_at hl 2 rfl) ?_
  refine q_i (wr := [(h0, .inr (4, [.ref ph, .ref nh, .ref sh, .ref fh, .int 0])), (ph, .inr (2, [.ref lo, .ref hi, .int 0])), (fh, .inr (0, [.ref p1, .ref p2, .ref p3, .ref le, .ref ri, .ref wa, .ref kf, .ref kt, .ref ar, .int 1, .int 0]))]) (q_runS (As := [.int x, .int y]) (rest := []) ⟨hx, hb, hml, hown, hts⟩ (c_X3_inBounds l D aI aL aZ x y _) (va_cwS 2 hts g_X6_locate_X3_inBounds_45 rfl rfl rfl (by decide +kernel) ⟨Nat.le_of_ble_eq_true rfl, Nat.le_of_ble_eq_true rfl⟩) hK hN hP hD [] rfl (by decide) rfl hl.1 rfl (Nat.le_of_ble_eq_true rfl) dX6_locate_2 ⟨Nat.le_of_ble_eq_true rfl, Nat.le_of_ble_eq_true rfl⟩) hP hD hS hA [] [0, 1, 2] rfl rfl (by decide) (by decide) (fun r_1 u_1 H locs hw hP hD hS => ?_)
  rcases hw with ⟨rfl, f1_0⟩ | ⟨rfl, f1_0⟩
  · have hP : va_P D q_cl [(h0, .inr (4, [.ref ph, .ref nh, .ref sh, .ref fh, .int 0])), (ph, .inr (2, [.ref lo, .ref hi, .int 0])), (fh, .inr (0, [.ref p1, .ref p2, .ref p3, .ref le, .ref ri, .ref wa, .ref kf, .ref kt, .ref ar, .int 1, .int 0]))] H := hP
    have hD : va_D A [(h0, .inr (4, [.ref ph, .ref nh, .ref sh, .ref fh, .int 0])), (ph, .inr (2, [.ref lo, .ref hi, .int 0])), (fh, .inr (0, [.ref p1, .ref p2, .ref p3, .ref le, .ref ri, .ref wa, .ref kf, .ref kt, .ref ar, .int 1, .int 0]))] := hD
    refine lv_if_ne (tgt := 10) hx hb dX6_locate_5 (by decide) (fun c_2 => ?_) (fun c_2 => ?_)
    · refine lv_iload_n hx hb dX6_locate_10 rfl (lv_at hl 1 rfl) ?_
      refine lv_iload_n hx hb dX6_locate_11 rfl (lv_at hl 2 rfl) ?_
      refine q_l (wr := [(h0, .inr (4, [.ref ph, .ref nh, .ref sh, .ref fh, .int 0])), (ph, .inr (2, [.ref lo, .ref hi, .int 0])), (fh, .inr (0, [.ref p1, .ref p2, .ref p3, .ref le, .ref ri, .ref wa, .ref kf, .ref kt, .ref ar, .int 1, .int 0]))]) (q_runS (As := [.int x, .int y]) (rest := []) ⟨hx, hb, hml, hown, hts⟩ (c_X3_of l D aI aL aZ x y _) (va_cwS 2 hts g_X6_locate_X3_of_51 rfl rfl rfl (by decide +kernel) ⟨Nat.le_of_ble_eq_true rfl, Nat.le_of_ble_eq_true rfl⟩) hK hN hP hD [] rfl (by decide) rfl hl.1 rfl (Nat.le_of_ble_eq_true rfl) dX6_locate_12 ⟨Nat.le_of_ble_eq_true rfl, Nat.le_of_ble_eq_true rfl⟩) hP hD hS hA [] [0, 1, 2] rfl rfl (by decide) (by decide) (fun r_3 u_3 H locs hw hP hD hS => ?_)
      subst hw
      have hP : va_P D q_cl [(h0, .inr (4, [.ref ph, .ref nh, .ref sh, .ref fh, .int 0])), (ph, .inr (2, [.ref lo, .ref hi, .int 0])), (fh, .inr (0, [.ref p1, .ref p2, .ref p3, .ref le, .ref ri, .ref wa, .ref kf, .ref kt, .ref ar, .int 1, .int 0]))] H := hP
      have hD : va_D A [(h0, .inr (4, [.ref ph, .ref nh, .ref sh, .ref fh, .int 0])), (ph, .inr (2, [.ref lo, .ref hi, .int 0])), (fh, .inr (0, [.ref p1, .ref p2, .ref p3, .ref le, .ref ri, .ref wa, .ref kf, .ref kt, .ref ar, .int 1, .int 0]))] := hD
      refine lv_lstore_n (lv' := [(3, .long (plc x y)), (0, .ref h0), (1, .int x), (2, .int y)]) hx hb dX6_locate_15 rfl hl (by decide) rfl (fun ls hl => ?_)
      refine lv_aload_n hx hb dX6_locate_16 rfl (lv_at hl 1 rfl) ?_
      refine va_get (D := D) (ci := 4) (v := .ref ph) (C := RX6) (T := TX6) (N := 5) hx hb hts n_X6_locate_X6 hown hK hP 0 rfl rfl 0 (by decide) (hts (.fieldLink RX6 10 "FaceMap" "pieces" "LFaceMap$Pieces;") (List.mem_of_getElem? (i := 1) rfl)) (fun _ h9 => h9) rfl dX6_locate_17 ?_
      refine lv_lload_n hx hb dX6_locate_20 rfl (lv_at hl 0 rfl) ?_
      refine q_i (wr := [(h0, .inr (4, [.ref ph, .ref nh, .ref sh, .ref fh, .int 0])), (fh, .inr (0, [.ref p1, .ref p2, .ref p3, .ref le, .ref ri, .ref wa, .ref kf, .ref kt, .ref ar, .int 1, .int 0]))]) (q_runV (As := [.long (plc x y)]) (rest := []) ⟨hx, hb, hml, hown, hts⟩ (c_X2_firstOn_0 l D aI aL aZ ph lo hi (plc x y) _) (cwV 1 hts g_X6_locate_X2_firstOn_158 rfl rfl rfl (by decide +kernel) ⟨Nat.le_of_ble_eq_true rfl, Nat.le_of_ble_eq_true rfl⟩) hK hN hP hD [1] rfl (by decide) rfl rfl rfl hl.1 rfl (Nat.le_of_ble_eq_true rfl) dX6_locate_21 ⟨Nat.le_of_ble_eq_true rfl, Nat.le_of_ble_eq_true rfl⟩) hP hD hS hA [1] [0, 2] rfl rfl (by decide) (by decide) (fun r_4 u_4 H locs hw hP hD hS => ?_)
      subst hw
      have hP : va_P D q_cl [(h0, .inr (4, [.ref ph, .ref nh, .ref sh, .ref fh, .int 0])), (fh, .inr (0, [.ref p1, .ref p2, .ref p3, .ref le, .ref ri, .ref wa, .ref kf, .ref kt, .ref ar, .int 1, .int 0])), (ph, .inr (2, [.ref lo, .ref hi, .int 0]))] H := hP
      have hD : va_D A [(h0, .inr (4, [.ref ph, .ref nh, .ref sh, .ref fh, .int 0])), (fh, .inr (0, [.ref p1, .ref p2, .ref p3, .ref le, .ref ri, .ref wa, .ref kf, .ref kt, .ref ar, .int 1, .int 0])), (ph, .inr (2, [.ref lo, .ref hi, .int 0]))] := hD
      refine lv_istore (lv' := [(5, .int (-1)), (3, .long (plc x y)), (0, .ref h0), (1, .int x), (2, .int y)]) hx hb dX6_locate_24 hl (by decide) rfl (fun ls hl => ?_)
      refine lv_iload hx hb dX6_locate_26 (lv_at hl 0 rfl) ?_
      refine lv_if_lt (tgt := 36) hx hb dX6_locate_28 (by decide) (fun c_5 => ?_) (fun c_5 => ?_)
      · refine lv_aload_n hx hb dX6_locate_36 rfl (lv_at hl 2 rfl) ?_
        refine q_r (wr := [(fh, .inr (0, [.ref p1, .ref p2, .ref p3, .ref le, .ref ri, .ref wa, .ref kf, .ref kt, .ref ar, .int 1, .int 0])), (ph, .inr (2, [.ref lo, .ref hi, .int 0]))]) (q_runV (As := []) (rest := []) ⟨hx, hb, hml, hown, hts⟩ (c_X6_freshFaces l D aI aL aZ h0 ph nh sh fh _) (cwV 0 hts g_X6_locate_X6_freshFaces_102 rfl rfl rfl (by decide +kernel) ⟨Nat.le_of_ble_eq_true rfl, Nat.le_of_ble_eq_true rfl⟩) hK hN hP hD [0] rfl (by decide) rfl rfl rfl hl.1 rfl (Nat.le_of_ble_eq_true rfl) dX6_locate_37 ⟨Nat.le_of_ble_eq_true rfl, Nat.le_of_ble_eq_true rfl⟩) hP hD hS hA [0] [1, 2] rfl rfl (by decide) (by decide) (fun u_6 H locs hw hP hD hS => ?_)
        have hP : va_P D q_cl [(fh, .inr (0, [.ref p1, .ref p2, .ref p3, .ref le, .ref ri, .ref wa, .ref kf, .ref kt, .ref ar, .int 1, .int 0])), (ph, .inr (2, [.ref lo, .ref hi, .int 0])), (h0, .inr (4, [.ref ph, .ref nh, .ref sh, .ref fh, .int 0]))] H := hP
        have hD : va_D A [(fh, .inr (0, [.ref p1, .ref p2, .ref p3, .ref le, .ref ri, .ref wa, .ref kf, .ref kt, .ref ar, .int 1, .int 0])), (ph, .inr (2, [.ref lo, .ref hi, .int 0])), (h0, .inr (4, [.ref ph, .ref nh, .ref sh, .ref fh, .int 0]))] := hD
        refine lv_aload_n hx hb dX6_locate_40 rfl (lv_at hl 2 rfl) ?_
        refine va_get (D := D) (ci := 4) (v := .ref ph) (C := RX6) (T := TX6) (N := 5) hx hb hts n_X6_locate_X6 hown hK hP 2 rfl rfl 0 (by decide) (hts (.fieldLink RX6 10 "FaceMap" "pieces" "LFaceMap$Pieces;") (List.mem_of_getElem? (i := 1) rfl)) (fun _ h9 => h9) rfl dX6_locate_41 ?_
        refine lv_lload_n hx hb dX6_locate_44 rfl (lv_at hl 1 rfl) ?_
        refine q_i (wr := [(fh, .inr (0, [.ref p1, .ref p2, .ref p3, .ref le, .ref ri, .ref wa, .ref kf, .ref kt, .ref ar, .int 1, .int 0])), (h0, .inr (4, [.ref ph, .ref nh, .ref sh, .ref fh, .int 0]))]) (q_runV (As := [.long (plc x y)]) (rest := [.ref fh]) ⟨hx, hb, hml, hown, hts⟩ (c_X2_nextBelow_0 l D aI aL aZ ph lo hi (plc x y) _) (cwV 1 hts g_X6_locate_X2_nextBelow_161 rfl rfl rfl (by decide +kernel) ⟨Nat.le_of_ble_eq_true rfl, Nat.le_of_ble_eq_true rfl⟩) hK hN hP hD [1] rfl (by decide) rfl rfl rfl hl.1 rfl (Nat.le_of_ble_eq_true rfl) dX6_locate_45 ⟨Nat.le_of_ble_eq_true rfl, Nat.le_of_ble_eq_true rfl⟩) hP hD hS hA [1] [0, 2] rfl rfl (by decide) (by decide) (fun r_7 u_7 H locs hw hP hD hS => ?_)
        subst hw
        have hP : va_P D q_cl [(fh, .inr (0, [.ref p1, .ref p2, .ref p3, .ref le, .ref ri, .ref wa, .ref kf, .ref kt, .ref ar, .int 1, .int 0])), (h0, .inr (4, [.ref ph, .ref nh, .ref sh, .ref fh, .int 0])), (ph, .inr (2, [.ref lo, .ref hi, .int 0]))] H := hP
        have hD : va_D A [(fh, .inr (0, [.ref p1, .ref p2, .ref p3, .ref le, .ref ri, .ref wa, .ref kf, .ref kt, .ref ar, .int 1, .int 0])), (h0, .inr (4, [.ref ph, .ref nh, .ref sh, .ref fh, .int 0])), (ph, .inr (2, [.ref lo, .ref hi, .int 0]))] := hD
        refine q_i (wr := [(h0, .inr (4, [.ref ph, .ref nh, .ref sh, .ref fh, .int 0])), (ph, .inr (2, [.ref lo, .ref hi, .int 0]))]) (q_runV (As := [.int (-1)]) (rest := []) ⟨hx, hb, hml, hown, hts⟩ (c_X0_above l D aI aL aZ fh p1 p2 p3 le ri wa kf kt ar _) (cwV 1 hts g_X6_locate_X0_above_164 rfl rfl rfl (by decide +kernel) ⟨Nat.le_of_ble_eq_true rfl, Nat.le_of_ble_eq_true rfl⟩) hK hN hP hD [0] rfl (by decide) rfl rfl rfl hl.1 rfl (Nat.le_of_ble_eq_true rfl) dX6_locate_48 ⟨Nat.le_of_ble_eq_true rfl, Nat.le_of_ble_eq_true rfl⟩) hP hD hS hA [0] [1, 2] rfl rfl (by decide) (by decide) (fun r_8 u_8 H locs hw hP hD hS => ?_)
        subst hw
        have hP : va_P D q_cl [(h0, .inr (4, [.ref ph, .ref nh, .ref sh, .ref fh, .int 0])), (ph, .inr (2, [.ref lo, .ref hi, .int 0])), (fh, .inr (0, [.ref p1, .ref p2, .ref p3, .ref le, .ref ri, .ref wa, .ref kf, .ref kt, .ref ar, .int 1, .int 0]))] H := hP
        have hD : va_D A [(h0, .inr (4, [.ref ph, .ref nh, .ref sh, .ref fh, .int 0])), (ph, .inr (2, [.ref lo, .ref hi, .int 0])), (fh, .inr (0, [.ref p1, .ref p2, .ref p3, .ref le, .ref ri, .ref wa, .ref kf, .ref kt, .ref ar, .int 1, .int 0]))] := hD
        have hP9 := hP.sub (ws' := []) [] rfl
        have hD9 := hD.sub (ws' := []) [] (by decide) rfl
        exact q_reti () hx hb hr hlocks hK hP9 hD9 hS (Nat.le_of_ble_eq_true rfl) (Nat.le_of_ble_eq_true rfl) (rfl) dX6_locate_51
      · exact absurd c_5 (by decide)
    · exact absurd c_2 (by decide)
  · have hP : va_P D q_cl [(h0, .inr (4, [.ref ph, .ref nh, .ref sh, .ref fh, .int 0])), (ph, .inr (2, [.ref lo, .ref hi, .int 0])), (fh, .inr (0, [.ref p1, .ref p2, .ref p3, .ref le, .ref ri, .ref wa, .ref kf, .ref kt, .ref ar, .int 1, .int 0]))] H := hP
    have hD : va_D A [(h0, .inr (4, [.ref ph, .ref nh, .ref sh, .ref fh, .int 0])), (ph, .inr (2, [.ref lo, .ref hi, .int 0])), (fh, .inr (0, [.ref p1, .ref p2, .ref p3, .ref le, .ref ri, .ref wa, .ref kf, .ref kt, .ref ar, .int 1, .int 0]))] := hD
    refine lv_if_ne (tgt := 10) hx hb dX6_locate_5 (by decide) (fun c_9 => ?_) (fun c_9 => ?_)
    · exact absurd c_9 (by decide)
    · refine lv_iconst (v := 0) hx hb dX6_locate_8 (by decide) ?_
      have hP9 := hP.sub (ws' := []) [] rfl
      have hD9 := hD.sub (ws' := []) [] (by decide) rfl
      exact q_reti () hx hb hr hlocks hK hP9 hD9 hS (Nat.le_of_ble_eq_true rfl) (Nat.le_of_ble_eq_true rfl) (rfl) dX6_locate_9
def vsX6_between : List Cond := .code yX6_between cX6_between 4 (some .int) :: ([.methodLink RX6 102 yX6_freshFaces, .instanceMethod yX6_freshFaces, .selects RX6 yX6_freshFaces yX6_freshFaces, .initialized RX6, .code yX6_freshFaces cX6_freshFaces 1 (some (.object "FaceMap$Faces")), .fieldLink RX6 41 "FaceMap" "facesAreOld" "Z", .fieldLink RX6 37 "FaceMap" "faces" "LFaceMap$Faces;", .methodLink RX6 140 yX0_has, .instanceMethod yX0_has, .selects RX0 yX0_has yX0_has, .initialized RX0, .code yX0_has cX0_has 2 (some .boolean), .fieldLink RX0 60 "FaceMap$Faces" "size" "I", .methodLink RX6 167 yX0_piecesBetween, .instanceMethod yX0_piecesBetween, .selects RX0 yX0_piecesBetween yX0_piecesBetween, .code yX0_piecesBetween cX0_piecesBetween 7 (some .int), .fieldLink RX0 7 "FaceMap$Faces" "pieces" "LFaceMap$Pieces;", .fieldLink RX0 71 "FaceMap$Pieces" "size" "I"] ++ wsX60 ++ wsX00 ++ wsX20)
set_option maxRecDepth 20000 in
theorem g_X6_between_X6_freshFaces_102 : GoodIn vsX6_between (wsV RX6 102 RX6 yX6_freshFaces vsX6_freshFaces) := goodIn_r _ [1, 2, 3, 4, 5, 6, 7, 20, 21, 22, 23, 24] rfl (by decide +kernel)
set_option maxRecDepth 20000 in
theorem g_X6_between_X0_has_140 : GoodIn vsX6_between (wsV RX6 140 RX0 yX0_has vsX0_has) := goodIn_r _ [8, 9, 10, 11, 12, 13, 25, 26, 27, 28, 29, 30, 31, 32, 33, 34, 35] rfl (by decide +kernel)
set_option maxRecDepth 20000 in
theorem g_X6_between_X0_piecesBetween_167 : GoodIn vsX6_between (wsV RX6 167 RX0 yX0_piecesBetween vsX0_piecesBetween) := goodIn_r _ [14, 15, 16, 11, 17, 18, 19, 25, 26, 27, 28, 29, 30, 31, 32, 33, 34, 35, 36, 37, 38] rfl (by decide +kernel)
set_option maxHeartbeats 4000000 in
set_option maxRecDepth 100000 in
/-- FaceMap.between -/
theorem c_X6_between (l : Launch) (D : va_G) (aI aL aZ : ClassId) (h0 : Nat) (ph : Nat) (nh : Nat) (sh : Nat) (fh : Nat) (lo : Nat) (hi : Nat) (p2 : Nat) (p3 : Nat) (le : Nat) (ri : Nat) (wa : Nat) (kf : Nat) (kt : Nat) (ar : Nat) (x : Int32) (y : Int32) (sz : Nat) : MI l D q_cl (q_ty aI aL aZ) yX6_between vsX6_between 1 0 0 [.ref h0, .int x, .int y] [(h0, .inr (4, [.ref ph, .ref nh, .ref sh, .ref fh, .int 0])), (fh, .inr (0, [.ref ph, .ref p2, .ref p3, .ref le, .ref ri, .ref wa, .ref kf, .ref kt, .ref ar, .int 1, .int 0])), (ph, .inr (2, [.ref lo, .ref hi, .int 0]))] sz (fun (r : Int32) (u : Unit) => r = (btw x y)) (fun (u : Unit) => ([] : va_W)) := by
  refine q_in cX6_between 4 (some .int) (qQi D q_cl (q_ty aI aL aZ) _ _) (by decide) rfl (Nat.le_of_ble_eq_true rfl) ?_
  intro p e s m args below meth c A ls hat hP hD hS hl
  obtain ⟨hx, hb, hr, hts, hown, hlocks, hml, hin, hK, hN, hA⟩ := hat
  have hown : s.vm.findClass RX6 = some m.cls := hown
  have hl : lv_has ls 4 [(0, .ref h0), (1, .int x), (2, .int y)] := hl
  refine lv_aload_n hx hb dX6_between_0 rfl (lv_at hl 0 rfl) ?_
  refine q_r (wr := [(fh, .inr (0, [.ref ph, .ref p2, .ref p3, .ref le, .ref ri, .ref wa, .ref kf, .ref kt, .ref ar, .int 1, .int 0])), (ph, .inr (2, [.ref lo, .ref hi, .int 0]))]) (q_runV (As := []) (rest := []) ⟨hx, hb, hml, hown, hts⟩ (c_X6_freshFaces l D aI aL aZ h0 ph nh sh fh _) (cwV 0 hts g_X6_between_X6_freshFaces_102 rfl rfl rfl (by decide +kernel) ⟨Nat.le_of_ble_eq_true rfl, Nat.le_of_ble_eq_true rfl⟩) hK hN hP hD [0] rfl (by decide) rfl rfl rfl hl.1 rfl (Nat.le_of_ble_eq_true rfl) dX6_between_1 ⟨Nat.le_of_ble_eq_true rfl, Nat.le_of_ble_eq_true rfl⟩) hP hD hS hA [0] [1, 2] rfl rfl (by decide) (by decide) (fun u_1 H locs hw hP hD hS => ?_)
  have hP : va_P D q_cl [(fh, .inr (0, [.ref ph, .ref p2, .ref p3, .ref le, .ref ri, .ref wa, .ref kf, .ref kt, .ref ar, .int 1, .int 0])), (ph, .inr (2, [.ref lo, .ref hi, .int 0])), (h0, .inr (4, [.ref ph, .ref nh, .ref sh, .ref fh, .int 0]))] H := hP
  have hD : va_D A [(fh, .inr (0, [.ref ph, .ref p2, .ref p3, .ref le, .ref ri, .ref wa, .ref kf, .ref kt, .ref ar, .int 1, .int 0])), (ph, .inr (2, [.ref lo, .ref hi, .int 0])), (h0, .inr (4, [.ref ph, .ref nh, .ref sh, .ref fh, .int 0]))] := hD
  refine lv_astore_n (lv' := [(3, .ref fh), (0, .ref h0), (1, .int x), (2, .int y)]) hx hb dX6_between_4 rfl hl (by decide) rfl (fun ls hl => ?_)
  refine lv_aload_n hx hb dX6_between_5 rfl (lv_at hl 0 rfl) ?_
  refine lv_iload_n hx hb dX6_between_6 rfl (lv_at hl 2 rfl) ?_
  refine q_i (wr := [(ph, .inr (2, [.ref lo, .ref hi, .int 0])), (h0, .inr (4, [.ref ph, .ref nh, .ref sh, .ref fh, .int 0]))]) (q_runV (As := [.int x]) (rest := []) ⟨hx, hb, hml, hown, hts⟩ (c_X0_has l D aI aL aZ fh ph p2 p3 le ri wa kf kt ar x _) (cwV 1 hts g_X6_between_X0_has_140 rfl rfl rfl (by decide +kernel) ⟨Nat.le_of_ble_eq_true rfl, Nat.le_of_ble_eq_true rfl⟩) hK hN hP hD [0] rfl (by decide) rfl rfl rfl hl.1 rfl (Nat.le_of_ble_eq_true rfl) dX6_between_7 ⟨Nat.le_of_ble_eq_true rfl, Nat.le_of_ble_eq_true rfl⟩) hP hD hS hA [0] [1, 2] rfl rfl (by decide) (by decide) (fun r_2 u_2 H locs hw hP hD hS => ?_)
  rcases hw with ⟨rfl, f2_0⟩ | ⟨rfl, f2_0⟩
  · subst f2_0
    have hP : va_P D q_cl [(ph, .inr (2, [.ref lo, .ref hi, .int 0])), (h0, .inr (4, [.ref ph, .ref nh, .ref sh, .ref fh, .int 0])), (fh, .inr (0, [.ref ph, .ref p2, .ref p3, .ref le, .ref ri, .ref wa, .ref kf, .ref kt, .ref ar, .int 1, .int 0]))] H := hP
    have hD : va_D A [(ph, .inr (2, [.ref lo, .ref hi, .int 0])), (h0, .inr (4, [.ref ph, .ref nh, .ref sh, .ref fh, .int 0])), (fh, .inr (0, [.ref ph, .ref p2, .ref p3, .ref le, .ref ri, .ref wa, .ref kf, .ref kt, .ref ar, .int 1, .int 0]))] := hD
    refine lv_if_eq (tgt := 30) hx hb dX6_between_10 (by decide) (fun c_3 => ?_) (fun c_3 => ?_)
    · exact absurd c_3 (by decide)
    · refine lv_aload_n hx hb dX6_between_13 rfl (lv_at hl 0 rfl) ?_
      refine lv_iload_n hx hb dX6_between_14 rfl (lv_at hl 3 rfl) ?_
      refine q_i (wr := [(ph, .inr (2, [.ref lo, .ref hi, .int 0])), (h0, .inr (4, [.ref ph, .ref nh, .ref sh, .ref fh, .int 0]))]) (q_runV (As := [.int y]) (rest := []) ⟨hx, hb, hml, hown, hts⟩ (c_X0_has l D aI aL aZ fh ph p2 p3 le ri wa kf kt ar y _) (cwV 1 hts g_X6_between_X0_has_140 rfl rfl rfl (by decide +kernel) ⟨Nat.le_of_ble_eq_true rfl, Nat.le_of_ble_eq_true rfl⟩) hK hN hP hD [2] rfl (by decide) rfl rfl rfl hl.1 rfl (Nat.le_of_ble_eq_true rfl) dX6_between_15 ⟨Nat.le_of_ble_eq_true rfl, Nat.le_of_ble_eq_true rfl⟩) hP hD hS hA [2] [0, 1] rfl rfl (by decide) (by decide) (fun r_4 u_4 H locs hw hP hD hS => ?_)
      rcases hw with ⟨rfl, f4_0⟩ | ⟨rfl, f4_0⟩
      · subst f4_0
        have hP : va_P D q_cl [(ph, .inr (2, [.ref lo, .ref hi, .int 0])), (h0, .inr (4, [.ref ph, .ref nh, .ref sh, .ref fh, .int 0])), (fh, .inr (0, [.ref ph, .ref p2, .ref p3, .ref le, .ref ri, .ref wa, .ref kf, .ref kt, .ref ar, .int 1, .int 0]))] H := hP
        have hD : va_D A [(ph, .inr (2, [.ref lo, .ref hi, .int 0])), (h0, .inr (4, [.ref ph, .ref nh, .ref sh, .ref fh, .int 0])), (fh, .inr (0, [.ref ph, .ref p2, .ref p3, .ref le, .ref ri, .ref wa, .ref kf, .ref kt, .ref ar, .int 1, .int 0]))] := hD
        refine lv_if_eq (tgt := 30) hx hb dX6_between_18 (by decide) (fun c_5 => ?_) (fun c_5 => ?_)
        · exact absurd c_5 (by decide)
        · refine lv_aload_n hx hb dX6_between_21 rfl (lv_at hl 0 rfl) ?_
          refine lv_iload_n hx hb dX6_between_22 rfl (lv_at hl 2 rfl) ?_
          refine lv_iload_n hx hb dX6_between_23 rfl (lv_at hl 3 rfl) ?_
          refine q_i (wr := [(h0, .inr (4, [.ref ph, .ref nh, .ref sh, .ref fh, .int 0]))]) (q_runV (As := [.int 0, .int 0]) (rest := []) ⟨hx, hb, hml, hown, hts⟩ (c_X0_piecesBetween l D aI aL aZ fh ph p2 p3 le ri wa kf kt ar lo hi 0 0 _) (cwV 2 hts g_X6_between_X0_piecesBetween_167 rfl rfl rfl (by decide +kernel) ⟨Nat.le_of_ble_eq_true rfl, Nat.le_of_ble_eq_true rfl⟩) hK hN hP hD [2, 0] rfl (by decide) rfl rfl rfl hl.1 rfl (Nat.le_of_ble_eq_true rfl) dX6_between_24 ⟨Nat.le_of_ble_eq_true rfl, Nat.le_of_ble_eq_true rfl⟩) hP hD hS hA [2, 0] [1] rfl rfl (by decide) (by decide) (fun r_6 u_6 H locs hw hP hD hS => ?_)
          subst hw
          have hP : va_P D q_cl [(h0, .inr (4, [.ref ph, .ref nh, .ref sh, .ref fh, .int 0]))] H := hP
          have hD : va_D A [(h0, .inr (4, [.ref ph, .ref nh, .ref sh, .ref fh, .int 0]))] := hD
          refine lv_goto (tgt := 31) hx hb dX6_between_27 (by decide) ?_
          have hP9 := hP.sub (ws' := []) [] rfl
          have hD9 := hD.sub (ws' := []) [] (by decide) rfl
          exact q_reti () hx hb hr hlocks hK hP9 hD9 hS (Nat.le_of_ble_eq_true rfl) (Nat.le_of_ble_eq_true rfl) ((by first | decide | exact btw_n1 (by assumption) | exact btw_n2 (by assumption))) dX6_between_31
      · have hP : va_P D q_cl [(ph, .inr (2, [.ref lo, .ref hi, .int 0])), (h0, .inr (4, [.ref ph, .ref nh, .ref sh, .ref fh, .int 0])), (fh, .inr (0, [.ref ph, .ref p2, .ref p3, .ref le, .ref ri, .ref wa, .ref kf, .ref kt, .ref ar, .int 1, .int 0]))] H := hP
        have hD : va_D A [(ph, .inr (2, [.ref lo, .ref hi, .int 0])), (h0, .inr (4, [.ref ph, .ref nh, .ref sh, .ref fh, .int 0])), (fh, .inr (0, [.ref ph, .ref p2, .ref p3, .ref le, .ref ri, .ref wa, .ref kf, .ref kt, .ref ar, .int 1, .int 0]))] := hD
        refine lv_if_eq (tgt := 30) hx hb dX6_between_18 (by decide) (fun c_7 => ?_) (fun c_7 => ?_)
        · refine lv_iconst (v := (-1)) hx hb dX6_between_30 (by decide) ?_
          have hP9 := hP.sub (ws' := []) [] rfl
          have hD9 := hD.sub (ws' := []) [] (by decide) rfl
          exact q_reti () hx hb hr hlocks hK hP9 hD9 hS (Nat.le_of_ble_eq_true rfl) (Nat.le_of_ble_eq_true rfl) ((by first | decide | exact btw_n1 (by assumption) | exact btw_n2 (by assumption))) dX6_between_31
        · exact absurd c_7 (by decide)
  · have hP : va_P D q_cl [(ph, .inr (2, [.ref lo, .ref hi, .int 0])), (h0, .inr (4, [.ref ph, .ref nh, .ref sh, .ref fh, .int 0])), (fh, .inr (0, [.ref ph, .ref p2, .ref p3, .ref le, .ref ri, .ref wa, .ref kf, .ref kt, .ref ar, .int 1, .int 0]))] H := hP
    have hD : va_D A [(ph, .inr (2, [.ref lo, .ref hi, .int 0])), (h0, .inr (4, [.ref ph, .ref nh, .ref sh, .ref fh, .int 0])), (fh, .inr (0, [.ref ph, .ref p2, .ref p3, .ref le, .ref ri, .ref wa, .ref kf, .ref kt, .ref ar, .int 1, .int 0]))] := hD
    refine lv_if_eq (tgt := 30) hx hb dX6_between_10 (by decide) (fun c_8 => ?_) (fun c_8 => ?_)
    · refine lv_iconst (v := (-1)) hx hb dX6_between_30 (by decide) ?_
      have hP9 := hP.sub (ws' := []) [] rfl
      have hD9 := hD.sub (ws' := []) [] (by decide) rfl
      exact q_reti () hx hb hr hlocks hK hP9 hD9 hS (Nat.le_of_ble_eq_true rfl) (Nat.le_of_ble_eq_true rfl) ((by first | decide | exact btw_n1 (by assumption) | exact btw_n2 (by assumption))) dX6_between_31
    · exact absurd c_8 (by decide)
end
section
def vsX6_join : List Cond := .code yX6_join cX6_join 13 (some .int) :: ([.methodLink RX6 55 Lib.MathLoose.min_long.x, .static Lib.MathLoose.min_long.x, .initialized "java/lang/Math", .code Lib.MathLoose.min_long.x Lib.MathLoose.min_long.code 4 (some .long), .methodLink RX6 61 Lib.MathLoose.max_long.x, .static Lib.MathLoose.max_long.x, .code Lib.MathLoose.max_long.x Lib.MathLoose.max_long.code 4 (some .long), .fieldLink RX6 10 "FaceMap" "pieces" "LFaceMap$Pieces;", .fieldLink RX6 71 "FaceMap$Pieces" "size" "I", .fieldLink RX6 19 "FaceMap" "nodes" "LFaceMap$Nodes;", .fieldLink RX6 41 "FaceMap" "facesAreOld" "Z", .methodLink RX6 45 yX3_inBounds, .static yX3_inBounds, .initialized RX3, .code yX3_inBounds cX3_inBounds 2 (some .boolean), .constant RX3 9 (-500000), .constant RX3 10 (500000), .methodLink RX6 51 yX3_of, .static yX3_of, .code yX3_of cX3_of 2 (some .long), .methodLink RX6 64 yX2_has, .instanceMethod yX2_has, .selects RX2 yX2_has yX2_has, .initialized RX2, .code yX2_has cX2_has 6 (some .boolean), .fieldLink RX2 16 "FaceMap$Pieces" "size" "I", .methodLink RX2 20 yX2_rank, .instanceMethod yX2_rank, .selects RX2 yX2_rank yX2_rank, .code yX2_rank cX2_rank 8 (some .int), .methodLink RX6 68 yX2_clashWith, .instanceMethod yX2_clashWith, .selects RX2 yX2_clashWith yX2_clashWith, .code yX2_clashWith cX2_clashWith 6 (some .boolean), .methodLink RX6 75 yX2_add, .instanceMethod yX2_add, .selects RX2 yX2_add yX2_add, .code yX2_add cX2_add 6 none, .fieldLink RX2 9 "FaceMap$Pieces" "low" "[J", .methodLink RX2 36 arraycopyName, .native arraycopyName, .static arraycopyName, .initialized "java/lang/System", .fieldLink RX2 13 "FaceMap$Pieces" "high" "[J", .methodLink RX6 79 yX1_addEnd, .instanceMethod yX1_addEnd, .selects RX1 yX1_addEnd yX1_addEnd, .initialized RX1, .code yX1_addEnd cX1_addEnd 4 none, .fieldLink RX1 13 "FaceMap$Nodes" "degree" "[I", .methodLink RX1 21 yX1_rank, .instanceMethod yX1_rank, .selects RX1 yX1_rank yX1_rank, .code yX1_rank cX1_rank 6 (some .int), .fieldLink RX1 17 "FaceMap$Nodes" "size" "I", .fieldLink RX1 9 "FaceMap$Nodes" "at" "[J", .methodLink RX1 25 yX1_isAt, .instanceMethod yX1_isAt, .selects RX1 yX1_isAt yX1_isAt, .code yX1_isAt cX1_isAt 4 (some .boolean), .methodLink RX1 29 yX1_insert, .instanceMethod yX1_insert, .selects RX1 yX1_insert yX1_insert, .code yX1_insert cX1_insert 4 none, .methodLink RX1 42 arraycopyName] ++ wsX60 ++ wsX20 ++ wsX10)
set_option maxRecDepth 20000 in
theorem g_X6_join_X3_inBounds_45 : GoodIn vsX6_join (va_wsS RX6 45 yX3_inBounds vsX3_inBounds) := goodIn_r _ [12, 13, 14, 15, 16, 17] rfl (by decide +kernel)
set_option maxRecDepth 20000 in
theorem g_X6_join_X3_of_51 : GoodIn vsX6_join (va_wsS RX6 51 yX3_of vsX3_of) := goodIn_r _ [18, 19, 14, 20, 17] rfl (by decide +kernel)
set_option maxRecDepth 20000 in
theorem n_X6_join_X6 : ∀ w ∈ wsX60, w ∈ vsX6_join := fun _ h => List.mem_cons_of_mem _ (List.mem_append_left _ (List.mem_append_left _ (List.mem_append_right _ h)))
set_option maxRecDepth 20000 in
theorem g_X6_join_X2_has_64 : GoodIn vsX6_join (wsV RX6 64 RX2 yX2_has vsX2_has) := goodIn_r _ [21, 22, 23, 24, 25, 26, 27, 28, 29, 24, 30, 71, 72, 73] rfl (by decide +kernel)
set_option maxRecDepth 20000 in
theorem g_X6_join_X2_clashWith_68 : GoodIn vsX6_join (wsV RX6 68 RX2 yX2_clashWith vsX2_clashWith) := goodIn_r _ [31, 32, 33, 24, 34, 26, 71, 72, 73] rfl (by decide +kernel)
set_option maxRecDepth 20000 in
theorem n_X6_join_X2 : ∀ w ∈ wsX20, w ∈ vsX6_join := fun _ h => List.mem_cons_of_mem _ (List.mem_append_left _ (List.mem_append_right _ h))
set_option maxRecDepth 20000 in
theorem g_X6_join_X2_add_75 : GoodIn vsX6_join (wsV RX6 75 RX2 yX2_add vsX2_add) := goodIn_r _ [35, 36, 37, 24, 38, 26, 39, 40, 41, 42, 43, 44, 27, 28, 29, 24, 30, 71, 72, 73] rfl (by decide +kernel)
set_option maxRecDepth 20000 in
theorem g_X6_join_X1_addEnd_79 : GoodIn vsX6_join (wsV RX6 79 RX1 yX1_addEnd vsX1_addEnd) := goodIn_r _ [45, 46, 47, 48, 49, 50, 51, 52, 53, 48, 54, 55, 56, 57, 58, 59, 60, 61, 62, 63, 64, 65, 41, 42, 43, 74, 75, 76] rfl (by decide +kernel)
set_option maxHeartbeats 4000000 in
set_option maxRecDepth 100000 in
/-- FaceMap.join -/
theorem c_X6_join (l : Launch) (D : va_G) (aI aL aZ : ClassId) (h0 : Nat) (ph : Nat) (nh : Nat) (sh : Nat) (fh : Nat) (lo : Nat) (hi : Nat) (at_ : Nat) (dg : Nat) (fl : Nat → Int64) (fh2 : Nat → Int64) (fa : Nat → Int64) (fd : Nat → Int32) (x1 : Int32) (y1 : Int32) (x2 : Int32) (y2 : Int32) (sz : Nat) : MI l D q_cl (q_ty aI aL aZ) yX6_join vsX6_join 4 0 0 [.ref h0, .int x1, .int y1, .int x2, .int y2] [(h0, .inr (4, [.ref ph, .ref nh, .ref sh, .ref fh, .int 0])), (ph, .inr (2, [.ref lo, .ref hi, .int 0])), (lo, .inl (aL, 8, .inr (.inl fl))), (hi, .inl (aL, 8, .inr (.inl fh2))), (nh, .inr (1, [.ref at_, .ref dg, .int 0])), (at_, .inl (aL, 16, .inr (.inl fa))), (dg, .inl (aI, 16, .inl fd))] sz (fun (r : Int32) (u : Unit) => r = (joi x1 y1 x2 y2)) (fun (u : Unit) => ([] : va_W)) := by
  refine q_in cX6_join 13 (some .int) (qQi D q_cl (q_ty aI aL aZ) _ _) (by decide) rfl (Nat.le_of_ble_eq_true rfl) ?_
  intro p e s m args below meth c A ls hat hP hD hS hl
  obtain ⟨hx, hb, hr, hts, hown, hlocks, hml, hin, hK, hN, hA⟩ := hat
  have hown : s.vm.findClass RX6 = some m.cls := hown
  have hl : lv_has ls 13 [(0, .ref h0), (1, .int x1), (2, .int y1), (3, .int x2), (4, .int y2)] := hl
  refine lv_iload_n hx hb dX6_join_0 rfl (lv_at hl 1 rfl) ?_
  refine lv_iload_n hx hb dX6_join_1 rfl (lv_at hl 2 rfl) ?_
  refine q_i (wr := [(h0, .inr (4, [.ref ph, .ref nh, .ref sh, .ref fh, .int 0])), (ph, .inr (2, [.ref lo, .ref hi, .int 0])), (lo, .inl (aL, 8, .inr (.inl fl))), (hi, .inl (aL, 8, .inr (.inl fh2))), (nh, .inr (1, [.ref at_, .ref dg, .int 0])), (at_, .inl (aL, 16, .inr (.inl fa))), (dg, .inl (aI, 16, .inl fd))]) (q_runS (As := [.int x1, .int y1]) (rest := []) ⟨hx, hb, hml, hown, hts⟩ (c_X3_inBounds l D aI aL aZ x1 y1 _) (va_cwS 2 hts g_X6_join_X3_inBounds_45 rfl rfl rfl (by decide +kernel) ⟨Nat.le_of_ble_eq_true rfl, Nat.le_of_ble_eq_true rfl⟩) hK hN hP hD [] rfl (by decide) rfl hl.1 rfl (Nat.le_of_ble_eq_true rfl) dX6_join_2 ⟨Nat.le_of_ble_eq_true rfl, Nat.le_of_ble_eq_true rfl⟩) hP hD hS hA [] [0, 1, 2, 3, 4, 5, 6] rfl rfl (by decide) (by decide) (fun r_1 u_1 H locs hw hP hD hS => ?_)
  rcases hw with ⟨rfl, f1_0⟩ | ⟨rfl, f1_0⟩
  · have hP : va_P D q_cl [(h0, .inr (4, [.ref ph, .ref nh, .ref sh, .ref fh, .int 0])), (ph, .inr (2, [.ref lo, .ref hi, .int 0])), (lo, .inl (aL, 8, .inr (.inl fl))), (hi, .inl (aL, 8, .inr (.inl fh2))), (nh, .inr (1, [.ref at_, .ref dg, .int 0])), (at_, .inl (aL, 16, .inr (.inl fa))), (dg, .inl (aI, 16, .inl fd))] H := hP
    have hD : va_D A [(h0, .inr (4, [.ref ph, .ref nh, .ref sh, .ref fh, .int 0])), (ph, .inr (2, [.ref lo, .ref hi, .int 0])), (lo, .inl (aL, 8, .inr (.inl fl))), (hi, .inl (aL, 8, .inr (.inl fh2))), (nh, .inr (1, [.ref at_, .ref dg, .int 0])), (at_, .inl (aL, 16, .inr (.inl fa))), (dg, .inl (aI, 16, .inl fd))] := hD
    refine lv_if_eq (tgt := 17) hx hb dX6_join_5 (by decide) (fun c_2 => ?_) (fun c_2 => ?_)
    · exact absurd c_2 (by decide)
    · refine lv_iload_n hx hb dX6_join_8 rfl (lv_at hl 3 rfl) ?_
      refine lv_iload hx hb dX6_join_9 (lv_at hl 4 rfl) ?_
      refine q_i (wr := [(h0, .inr (4, [.ref ph, .ref nh, .ref sh, .ref fh, .int 0])), (ph, .inr (2, [.ref lo, .ref hi, .int 0])), (lo, .inl (aL, 8, .inr (.inl fl))), (hi, .inl (aL, 8, .inr (.inl fh2))), (nh, .inr (1, [.ref at_, .ref dg, .int 0])), (at_, .inl (aL, 16, .inr (.inl fa))), (dg, .inl (aI, 16, .inl fd))]) (q_runS (As := [.int x2, .int y2]) (rest := []) ⟨hx, hb, hml, hown, hts⟩ (c_X3_inBounds l D aI aL aZ x2 y2 _) (va_cwS 2 hts g_X6_join_X3_inBounds_45 rfl rfl rfl (by decide +kernel) ⟨Nat.le_of_ble_eq_true rfl, Nat.le_of_ble_eq_true rfl⟩) hK hN hP hD [] rfl (by decide) rfl hl.1 rfl (Nat.le_of_ble_eq_true rfl) dX6_join_11 ⟨Nat.le_of_ble_eq_true rfl, Nat.le_of_ble_eq_true rfl⟩) hP hD hS hA [] [0, 1, 2, 3, 4, 5, 6] rfl rfl (by decide) (by decide) (fun r_3 u_3 H locs hw hP hD hS => ?_)
      rcases hw with ⟨rfl, f3_0⟩ | ⟨rfl, f3_0⟩
      · have hP : va_P D q_cl [(h0, .inr (4, [.ref ph, .ref nh, .ref sh, .ref fh, .int 0])), (ph, .inr (2, [.ref lo, .ref hi, .int 0])), (lo, .inl (aL, 8, .inr (.inl fl))), (hi, .inl (aL, 8, .inr (.inl fh2))), (nh, .inr (1, [.ref at_, .ref dg, .int 0])), (at_, .inl (aL, 16, .inr (.inl fa))), (dg, .inl (aI, 16, .inl fd))] H := hP
        have hD : va_D A [(h0, .inr (4, [.ref ph, .ref nh, .ref sh, .ref fh, .int 0])), (ph, .inr (2, [.ref lo, .ref hi, .int 0])), (lo, .inl (aL, 8, .inr (.inl fl))), (hi, .inl (aL, 8, .inr (.inl fh2))), (nh, .inr (1, [.ref at_, .ref dg, .int 0])), (at_, .inl (aL, 16, .inr (.inl fa))), (dg, .inl (aI, 16, .inl fd))] := hD
        refine lv_if_ne (tgt := 19) hx hb dX6_join_14 (by decide) (fun c_4 => ?_) (fun c_4 => ?_)
        · refine lv_iload_n hx hb dX6_join_19 rfl (lv_at hl 1 rfl) ?_
          refine lv_iload_n hx hb dX6_join_20 rfl (lv_at hl 2 rfl) ?_
          refine q_l (wr := [(h0, .inr (4, [.ref ph, .ref nh, .ref sh, .ref fh, .int 0])), (ph, .inr (2, [.ref lo, .ref hi, .int 0])), (lo, .inl (aL, 8, .inr (.inl fl))), (hi, .inl (aL, 8, .inr (.inl fh2))), (nh, .inr (1, [.ref at_, .ref dg, .int 0])), (at_, .inl (aL, 16, .inr (.inl fa))), (dg, .inl (aI, 16, .inl fd))]) (q_runS (As := [.int x1, .int y1]) (rest := []) ⟨hx, hb, hml, hown, hts⟩ (c_X3_of l D aI aL aZ x1 y1 _) (va_cwS 2 hts g_X6_join_X3_of_51 rfl rfl rfl (by decide +kernel) ⟨Nat.le_of_ble_eq_true rfl, Nat.le_of_ble_eq_true rfl⟩) hK hN hP hD [] rfl (by decide) rfl hl.1 rfl (Nat.le_of_ble_eq_true rfl) dX6_join_21 ⟨Nat.le_of_ble_eq_true rfl, Nat.le_of_ble_eq_true rfl⟩) hP hD hS hA [] [0, 1, 2, 3, 4, 5, 6] rfl rfl (by decide) (by decide) (fun r_5 u_5 H locs hw hP hD hS => ?_)
          subst hw
          have hP : va_P D q_cl [(h0, .inr (4, [.ref ph, .ref nh, .ref sh, .ref fh, .int 0])), (ph, .inr (2, [.ref lo, .ref hi, .int 0])), (lo, .inl (aL, 8, .inr (.inl fl))), (hi, .inl (aL, 8, .inr (.inl fh2))), (nh, .inr (1, [.ref at_, .ref dg, .int 0])), (at_, .inl (aL, 16, .inr (.inl fa))), (dg, .inl (aI, 16, .inl fd))] H := hP
          have hD : va_D A [(h0, .inr (4, [.ref ph, .ref nh, .ref sh, .ref fh, .int 0])), (ph, .inr (2, [.ref lo, .ref hi, .int 0])), (lo, .inl (aL, 8, .inr (.inl fl))), (hi, .inl (aL, 8, .inr (.inl fh2))), (nh, .inr (1, [.ref at_, .ref dg, .int 0])), (at_, .inl (aL, 16, .inr (.inl fa))), (dg, .inl (aI, 16, .inl fd))] := hD
          refine lv_lstore (lv' := [(5, .long (plc x1 y1)), (0, .ref h0), (1, .int x1), (2, .int y1), (3, .int x2), (4, .int y2)]) hx hb dX6_join_24 hl (by decide) rfl (fun ls hl => ?_)
          refine lv_iload_n hx hb dX6_join_26 rfl (lv_at hl 4 rfl) ?_
          refine lv_iload hx hb dX6_join_27 (lv_at hl 5 rfl) ?_
          refine q_l (wr := [(h0, .inr (4, [.ref ph, .ref nh, .ref sh, .ref fh, .int 0])), (ph, .inr (2, [.ref lo, .ref hi, .int 0])), (lo, .inl (aL, 8, .inr (.inl fl))), (hi, .inl (aL, 8, .inr (.inl fh2))), (nh, .inr (1, [.ref at_, .ref dg, .int 0])), (at_, .inl (aL, 16, .inr (.inl fa))), (dg, .inl (aI, 16, .inl fd))]) (q_runS (As := [.int x2, .int y2]) (rest := []) ⟨hx, hb, hml, hown, hts⟩ (c_X3_of l D aI aL aZ x2 y2 _) (va_cwS 2 hts g_X6_join_X3_of_51 rfl rfl rfl (by decide +kernel) ⟨Nat.le_of_ble_eq_true rfl, Nat.le_of_ble_eq_true rfl⟩) hK hN hP hD [] rfl (by decide) rfl hl.1 rfl (Nat.le_of_ble_eq_true rfl) dX6_join_29 ⟨Nat.le_of_ble_eq_true rfl, Nat.le_of_ble_eq_true rfl⟩) hP hD hS hA [] [0, 1, 2, 3, 4, 5, 6] rfl rfl (by decide) (by decide) (fun r_6 u_6 H locs hw hP hD hS => ?_)
          subst hw
          have hP : va_P D q_cl [(h0, .inr (4, [.ref ph, .ref nh, .ref sh, .ref fh, .int 0])), (ph, .inr (2, [.ref lo, .ref hi, .int 0])), (lo, .inl (aL, 8, .inr (.inl fl))), (hi, .inl (aL, 8, .inr (.inl fh2))), (nh, .inr (1, [.ref at_, .ref dg, .int 0])), (at_, .inl (aL, 16, .inr (.inl fa))), (dg, .inl (aI, 16, .inl fd))] H := hP
          have hD : va_D A [(h0, .inr (4, [.ref ph, .ref nh, .ref sh, .ref fh, .int 0])), (ph, .inr (2, [.ref lo, .ref hi, .int 0])), (lo, .inl (aL, 8, .inr (.inl fl))), (hi, .inl (aL, 8, .inr (.inl fh2))), (nh, .inr (1, [.ref at_, .ref dg, .int 0])), (at_, .inl (aL, 16, .inr (.inl fa))), (dg, .inl (aI, 16, .inl fd))] := hD
          refine lv_lstore (lv' := [(7, .long (plc x2 y2)), (5, .long (plc x1 y1)), (0, .ref h0), (1, .int x1), (2, .int y1), (3, .int x2), (4, .int y2)]) hx hb dX6_join_32 hl (by decide) rfl (fun ls hl => ?_)
          refine lv_lload hx hb dX6_join_34 (lv_at hl 1 rfl) ?_
          refine lv_lload hx hb dX6_join_36 (lv_at hl 0 rfl) ?_
          refine W.lcmp hx hb dX6_join_38 ?_
          refine lv_if_ne (tgt := 44) hx hb dX6_join_39 (by decide) (fun c_7 => ?_) (fun c_7 => ?_)
          · refine lv_lload hx hb dX6_join_44 (lv_at hl 1 rfl) ?_
            refine lv_lload hx hb dX6_join_46 (lv_at hl 0 rfl) ?_
            refine va_mmin_long hx hb (by rw [hml]; exact hl.1.symm) hown (hts (.methodLink RX6 55 Lib.MathLoose.min_long.x) (List.mem_of_getElem? (i := 1) rfl)) (hts (.static Lib.MathLoose.min_long.x) (List.mem_of_getElem? (i := 2) rfl)) (hts (.initialized "java/lang/Math") (List.mem_of_getElem? (i := 3) rfl)) (hts (.code Lib.MathLoose.min_long.x Lib.MathLoose.min_long.code 4 (some .long)) (List.mem_of_getElem? (i := 4) rfl)) (Nat.le_of_ble_eq_true rfl) (Nat.le_of_ble_eq_true rfl) (Nat.le_of_ble_eq_true rfl) (Nat.le_of_ble_eq_true rfl) dX6_join_48 ?_
            refine lv_topl (fun lo8 elo8 => ?_)
            refine lv_lstore (lv' := [(9, .long lo8), (7, .long (plc x2 y2)), (5, .long (plc x1 y1)), (0, .ref h0), (1, .int x1), (2, .int y1), (3, .int x2), (4, .int y2)]) hx hb dX6_join_51 hl (by decide) rfl (fun ls hl => ?_)
            refine lv_lload hx hb dX6_join_53 (lv_at hl 2 rfl) ?_
            refine lv_lload hx hb dX6_join_55 (lv_at hl 1 rfl) ?_
            refine va_mmax_long hx hb (by rw [hml]; exact hl.1.symm) hown (hts (.methodLink RX6 61 Lib.MathLoose.max_long.x) (List.mem_of_getElem? (i := 5) rfl)) (hts (.static Lib.MathLoose.max_long.x) (List.mem_of_getElem? (i := 6) rfl)) (hts (.initialized "java/lang/Math") (List.mem_of_getElem? (i := 3) rfl)) (hts (.code Lib.MathLoose.max_long.x Lib.MathLoose.max_long.code 4 (some .long)) (List.mem_of_getElem? (i := 7) rfl)) (Nat.le_of_ble_eq_true rfl) (Nat.le_of_ble_eq_true rfl) (Nat.le_of_ble_eq_true rfl) (Nat.le_of_ble_eq_true rfl) dX6_join_57 ?_
            refine lv_topl (fun hi9 ehi9 => ?_)
            refine lv_lstore (lv' := [(11, .long hi9), (9, .long lo8), (7, .long (plc x2 y2)), (5, .long (plc x1 y1)), (0, .ref h0), (1, .int x1), (2, .int y1), (3, .int x2), (4, .int y2)]) hx hb dX6_join_60 hl (by decide) rfl (fun ls hl => ?_)
            refine lv_aload_n hx hb dX6_join_62 rfl (lv_at hl 4 rfl) ?_
            refine va_get (D := D) (ci := 4) (v := .ref ph) (C := RX6) (T := TX6) (N := 5) hx hb hts n_X6_join_X6 hown hK hP 0 rfl rfl 0 (by decide) (hts (.fieldLink RX6 10 "FaceMap" "pieces" "LFaceMap$Pieces;") (List.mem_of_getElem? (i := 8) rfl)) (fun _ h9 => h9) rfl dX6_join_63 ?_
            refine lv_lload hx hb dX6_join_66 (lv_at hl 1 rfl) ?_
            refine lv_lload hx hb dX6_join_68 (lv_at hl 0 rfl) ?_
            refine q_i (wr := [(h0, .inr (4, [.ref ph, .ref nh, .ref sh, .ref fh, .int 0])), (lo, .inl (aL, 8, .inr (.inl fl))), (hi, .inl (aL, 8, .inr (.inl fh2))), (nh, .inr (1, [.ref at_, .ref dg, .int 0])), (at_, .inl (aL, 16, .inr (.inl fa))), (dg, .inl (aI, 16, .inl fd))]) (q_runV (As := [.long lo8, .long hi9]) (rest := []) ⟨hx, hb, hml, hown, hts⟩ (c_X2_has_0 l D aI aL aZ ph lo hi lo8 hi9 _) (cwV 2 hts g_X6_join_X2_has_64 rfl rfl rfl (by decide +kernel) ⟨Nat.le_of_ble_eq_true rfl, Nat.le_of_ble_eq_true rfl⟩) hK hN hP hD [1] rfl (by decide) rfl rfl rfl hl.1 rfl (Nat.le_of_ble_eq_true rfl) dX6_join_70 ⟨Nat.le_of_ble_eq_true rfl, Nat.le_of_ble_eq_true rfl⟩) hP hD hS hA [1] [0, 2, 3, 4, 5, 6] rfl rfl (by decide) (by decide) (fun r_10 u_10 H locs hw hP hD hS => ?_)
            subst hw
            have hP : va_P D q_cl [(h0, .inr (4, [.ref ph, .ref nh, .ref sh, .ref fh, .int 0])), (lo, .inl (aL, 8, .inr (.inl fl))), (hi, .inl (aL, 8, .inr (.inl fh2))), (nh, .inr (1, [.ref at_, .ref dg, .int 0])), (at_, .inl (aL, 16, .inr (.inl fa))), (dg, .inl (aI, 16, .inl fd)), (ph, .inr (2, [.ref lo, .ref hi, .int 0]))] H := hP
            have hD : va_D A [(h0, .inr (4, [.ref ph, .ref nh, .ref sh, .ref fh, .int 0])), (lo, .inl (aL, 8, .inr (.inl fl))), (hi, .inl (aL, 8, .inr (.inl fh2))), (nh, .inr (1, [.ref at_, .ref dg, .int 0])), (at_, .inl (aL, 16, .inr (.inl fa))), (dg, .inl (aI, 16, .inl fd)), (ph, .inr (2, [.ref lo, .ref hi, .int 0]))] := hD
            refine lv_if_eq (tgt := 79) hx hb dX6_join_73 (by decide) (fun c_11 => ?_) (fun c_11 => ?_)
            · refine lv_aload_n hx hb dX6_join_79 rfl (lv_at hl 4 rfl) ?_
              refine va_get (D := D) (ci := 4) (v := .ref ph) (C := RX6) (T := TX6) (N := 5) hx hb hts n_X6_join_X6 hown hK hP 0 rfl rfl 0 (by decide) (hts (.fieldLink RX6 10 "FaceMap" "pieces" "LFaceMap$Pieces;") (List.mem_of_getElem? (i := 8) rfl)) (fun _ h9 => h9) rfl dX6_join_80 ?_
              refine lv_lload hx hb dX6_join_83 (lv_at hl 1 rfl) ?_
              refine lv_lload hx hb dX6_join_85 (lv_at hl 0 rfl) ?_
              refine q_i (wr := [(h0, .inr (4, [.ref ph, .ref nh, .ref sh, .ref fh, .int 0])), (lo, .inl (aL, 8, .inr (.inl fl))), (hi, .inl (aL, 8, .inr (.inl fh2))), (nh, .inr (1, [.ref at_, .ref dg, .int 0])), (at_, .inl (aL, 16, .inr (.inl fa))), (dg, .inl (aI, 16, .inl fd))]) (q_runV (As := [.long lo8, .long hi9]) (rest := []) ⟨hx, hb, hml, hown, hts⟩ (c_X2_clashWith_0 l D aI aL aZ ph lo hi lo8 hi9 _) (cwV 2 hts g_X6_join_X2_clashWith_68 rfl rfl rfl (by decide +kernel) ⟨Nat.le_of_ble_eq_true rfl, Nat.le_of_ble_eq_true rfl⟩) hK hN hP hD [6] rfl (by decide) rfl rfl rfl hl.1 rfl (Nat.le_of_ble_eq_true rfl) dX6_join_87 ⟨Nat.le_of_ble_eq_true rfl, Nat.le_of_ble_eq_true rfl⟩) hP hD hS hA [6] [0, 1, 2, 3, 4, 5] rfl rfl (by decide) (by decide) (fun r_12 u_12 H locs hw hP hD hS => ?_)
              subst hw
              have hP : va_P D q_cl [(h0, .inr (4, [.ref ph, .ref nh, .ref sh, .ref fh, .int 0])), (lo, .inl (aL, 8, .inr (.inl fl))), (hi, .inl (aL, 8, .inr (.inl fh2))), (nh, .inr (1, [.ref at_, .ref dg, .int 0])), (at_, .inl (aL, 16, .inr (.inl fa))), (dg, .inl (aI, 16, .inl fd)), (ph, .inr (2, [.ref lo, .ref hi, .int 0]))] H := hP
              have hD : va_D A [(h0, .inr (4, [.ref ph, .ref nh, .ref sh, .ref fh, .int 0])), (lo, .inl (aL, 8, .inr (.inl fl))), (hi, .inl (aL, 8, .inr (.inl fh2))), (nh, .inr (1, [.ref at_, .ref dg, .int 0])), (at_, .inl (aL, 16, .inr (.inl fa))), (dg, .inl (aI, 16, .inl fd)), (ph, .inr (2, [.ref lo, .ref hi, .int 0]))] := hD
              refine lv_if_eq (tgt := 96) hx hb dX6_join_90 (by decide) (fun c_13 => ?_) (fun c_13 => ?_)
              · refine lv_aload_n hx hb dX6_join_96 rfl (lv_at hl 4 rfl) ?_
                refine va_get (D := D) (ci := 4) (v := .ref ph) (C := RX6) (T := TX6) (N := 5) hx hb hts n_X6_join_X6 hown hK hP 0 rfl rfl 0 (by decide) (hts (.fieldLink RX6 10 "FaceMap" "pieces" "LFaceMap$Pieces;") (List.mem_of_getElem? (i := 8) rfl)) (fun _ h9 => h9) rfl dX6_join_97 ?_
                refine va_get (D := D) (ci := 2) (v := .int 0) (C := RX2) (T := TX2) (N := 3) hx hb hts n_X6_join_X2 hown hK hP 6 rfl rfl 2 (by decide) (hts (.fieldLink RX6 71 "FaceMap$Pieces" "size" "I") (List.mem_of_getElem? (i := 9) rfl)) (fun _ h9 => h9) rfl dX6_join_100 ?_
                refine lv_sipush (v := 1500) hx hb dX6_join_103 (by decide) ?_
                refine lv_icmp_lt (tgt := 112) hx hb dX6_join_106 (by decide) (fun c_14 => ?_) (fun c_14 => ?_)
                · refine lv_aload_n hx hb dX6_join_112 rfl (lv_at hl 4 rfl) ?_
                  refine va_get (D := D) (ci := 4) (v := .ref ph) (C := RX6) (T := TX6) (N := 5) hx hb hts n_X6_join_X6 hown hK hP 0 rfl rfl 0 (by decide) (hts (.fieldLink RX6 10 "FaceMap" "pieces" "LFaceMap$Pieces;") (List.mem_of_getElem? (i := 8) rfl)) (fun _ h9 => h9) rfl dX6_join_113 ?_
                  refine lv_lload hx hb dX6_join_116 (lv_at hl 1 rfl) ?_
                  refine lv_lload hx hb dX6_join_118 (lv_at hl 0 rfl) ?_
                  refine q_v (wr := [(h0, .inr (4, [.ref ph, .ref nh, .ref sh, .ref fh, .int 0])), (nh, .inr (1, [.ref at_, .ref dg, .int 0])), (at_, .inl (aL, 16, .inr (.inl fa))), (dg, .inl (aI, 16, .inl fd))]) (q_runV (As := [.long lo8, .long hi9]) (rest := []) ⟨hx, hb, hml, hown, hts⟩ (c_X2_add_0 l D aI aL aZ ph lo hi fl fh2 lo8 hi9 _) (cwV 2 hts g_X6_join_X2_add_75 rfl rfl rfl (by decide +kernel) ⟨Nat.le_of_ble_eq_true rfl, Nat.le_of_ble_eq_true rfl⟩) hK hN hP hD [6, 1, 2] rfl (by decide) rfl rfl rfl hl.1 rfl (Nat.le_of_ble_eq_true rfl) dX6_join_120 ⟨Nat.le_of_ble_eq_true rfl, Nat.le_of_ble_eq_true rfl⟩) hP hD hS hA [6, 1, 2] [0, 3, 4, 5] rfl rfl (by decide) (by decide) (fun u_15 H locs hw hP hD hS => ?_)
                  have hP : va_P D q_cl [(h0, .inr (4, [.ref ph, .ref nh, .ref sh, .ref fh, .int 0])), (nh, .inr (1, [.ref at_, .ref dg, .int 0])), (at_, .inl (aL, 16, .inr (.inl fa))), (dg, .inl (aI, 16, .inl fd)), (ph, .inr (2, [.ref lo, .ref hi, .int 1]))] H := hP
                  have hD : va_D A [(h0, .inr (4, [.ref ph, .ref nh, .ref sh, .ref fh, .int 0])), (nh, .inr (1, [.ref at_, .ref dg, .int 0])), (at_, .inl (aL, 16, .inr (.inl fa))), (dg, .inl (aI, 16, .inl fd)), (ph, .inr (2, [.ref lo, .ref hi, .int 1]))] := hD
                  refine lv_aload_n hx hb dX6_join_123 rfl (lv_at hl 4 rfl) ?_
                  refine va_get (D := D) (ci := 4) (v := .ref nh) (C := RX6) (T := TX6) (N := 5) hx hb hts n_X6_join_X6 hown hK hP 0 rfl rfl 1 (by decide) (hts (.fieldLink RX6 19 "FaceMap" "nodes" "LFaceMap$Nodes;") (List.mem_of_getElem? (i := 10) rfl)) (fun _ h9 => h9) rfl dX6_join_124 ?_
                  refine lv_lload hx hb dX6_join_127 (lv_at hl 1 rfl) ?_
                  refine q_v (wr := [(h0, .inr (4, [.ref ph, .ref nh, .ref sh, .ref fh, .int 0])), (ph, .inr (2, [.ref lo, .ref hi, .int 1]))]) (q_runV (As := [.long lo8]) (rest := []) ⟨hx, hb, hml, hown, hts⟩ (c_X1_addEnd_0 l D aI aL aZ nh at_ dg fa fd lo8 _) (cwV 1 hts g_X6_join_X1_addEnd_79 rfl rfl rfl (by decide +kernel) ⟨Nat.le_of_ble_eq_true rfl, Nat.le_of_ble_eq_true rfl⟩) hK hN hP hD [1, 2, 3] rfl (by decide) rfl rfl rfl hl.1 rfl (Nat.le_of_ble_eq_true rfl) dX6_join_129 ⟨Nat.le_of_ble_eq_true rfl, Nat.le_of_ble_eq_true rfl⟩) hP hD hS hA [1, 2, 3] [0, 4] rfl rfl (by decide) (by decide) (fun u_16 H locs hw hP hD hS => ?_)
                  obtain ⟨f2_16, g2_16⟩ := u_16
                  have f16_0 := hw
                  have hP : va_P D q_cl [(h0, .inr (4, [.ref ph, .ref nh, .ref sh, .ref fh, .int 0])), (ph, .inr (2, [.ref lo, .ref hi, .int 1])), (nh, .inr (1, [.ref at_, .ref dg, .int 1])), (at_, .inl (aL, 16, .inr (.inl f2_16))), (dg, .inl (aI, 16, .inl g2_16))] H := hP
                  have hD : va_D A [(h0, .inr (4, [.ref ph, .ref nh, .ref sh, .ref fh, .int 0])), (ph, .inr (2, [.ref lo, .ref hi, .int 1])), (nh, .inr (1, [.ref at_, .ref dg, .int 1])), (at_, .inl (aL, 16, .inr (.inl f2_16))), (dg, .inl (aI, 16, .inl g2_16))] := hD
                  refine lv_aload_n hx hb dX6_join_132 rfl (lv_at hl 4 rfl) ?_
                  refine va_get (D := D) (ci := 4) (v := .ref nh) (C := RX6) (T := TX6) (N := 5) hx hb hts n_X6_join_X6 hown hK hP 0 rfl rfl 1 (by decide) (hts (.fieldLink RX6 19 "FaceMap" "nodes" "LFaceMap$Nodes;") (List.mem_of_getElem? (i := 10) rfl)) (fun _ h9 => h9) rfl dX6_join_133 ?_
                  refine lv_lload hx hb dX6_join_136 (lv_at hl 0 rfl) ?_
                  refine q_v (wr := [(h0, .inr (4, [.ref ph, .ref nh, .ref sh, .ref fh, .int 0])), (ph, .inr (2, [.ref lo, .ref hi, .int 1]))]) (q_runV (As := [.long hi9]) (rest := []) ⟨hx, hb, hml, hown, hts⟩ (c_X1_addEnd_1 l D aI aL aZ nh at_ dg f2_16 g2_16 lo8 hi9 (by assumption) (q_lohi (by assumption) (by assumption) (by assumption)) _) (cwV 1 hts g_X6_join_X1_addEnd_79 rfl rfl rfl (by decide +kernel) ⟨Nat.le_of_ble_eq_true rfl, Nat.le_of_ble_eq_true rfl⟩) hK hN hP hD [2, 3, 4] rfl (by decide) rfl rfl rfl hl.1 rfl (Nat.le_of_ble_eq_true rfl) dX6_join_138 ⟨Nat.le_of_ble_eq_true rfl, Nat.le_of_ble_eq_true rfl⟩) hP hD hS hA [2, 3, 4] [0, 1] rfl rfl (by decide) (by decide) (fun u_17 H locs hw hP hD hS => ?_)
                  have hP : va_P D q_cl [(h0, .inr (4, [.ref ph, .ref nh, .ref sh, .ref fh, .int 0])), (ph, .inr (2, [.ref lo, .ref hi, .int 1])), (nh, .inr (1, [.ref at_, .ref dg, .int 2]))] H := hP
                  have hD : va_D A [(h0, .inr (4, [.ref ph, .ref nh, .ref sh, .ref fh, .int 0])), (ph, .inr (2, [.ref lo, .ref hi, .int 1])), (nh, .inr (1, [.ref at_, .ref dg, .int 2]))] := hD
                  refine lv_aload_n hx hb dX6_join_141 rfl (lv_at hl 4 rfl) ?_
                  refine lv_iconst (v := 1) hx hb dX6_join_142 (by decide) ?_
                  refine va_put (D := D) (ci := 4) (v := .int 1) (ty := .boolean) (C := RX6) (T := TX6) (N := 5) hx hb hts n_X6_join_X6 tyX6 tyX6_ok nmX6 hown hK hP hD hS 0 rfl rfl 4 (by decide) (hts (.fieldLink RX6 41 "FaceMap" "facesAreOld" "Z") (List.mem_of_getElem? (i := 11) rfl)) (fun _ h9 => h9) rfl (by decide +kernel) rfl rfl (Nat.le_of_ble_eq_true rfl) dX6_join_143 (fun H locs hP hD hS => ?_)
                  have hP : va_P D q_cl [(h0, .inr (4, [.ref ph, .ref nh, .ref sh, .ref fh, .int 1])), (ph, .inr (2, [.ref lo, .ref hi, .int 1])), (nh, .inr (1, [.ref at_, .ref dg, .int 2]))] H := hP
                  have hD : va_D A [(h0, .inr (4, [.ref ph, .ref nh, .ref sh, .ref fh, .int 1])), (ph, .inr (2, [.ref lo, .ref hi, .int 1])), (nh, .inr (1, [.ref at_, .ref dg, .int 2]))] := hD
                  refine lv_aload_n hx hb dX6_join_146 rfl (lv_at hl 4 rfl) ?_
                  refine va_get (D := D) (ci := 4) (v := .ref ph) (C := RX6) (T := TX6) (N := 5) hx hb hts n_X6_join_X6 hown hK hP 0 rfl rfl 0 (by decide) (hts (.fieldLink RX6 10 "FaceMap" "pieces" "LFaceMap$Pieces;") (List.mem_of_getElem? (i := 8) rfl)) (fun _ h9 => h9) rfl dX6_join_147 ?_
                  refine va_get (D := D) (ci := 2) (v := .int 1) (C := RX2) (T := TX2) (N := 3) hx hb hts n_X6_join_X2 hown hK hP 1 rfl rfl 2 (by decide) (hts (.fieldLink RX6 71 "FaceMap$Pieces" "size" "I") (List.mem_of_getElem? (i := 9) rfl)) (fun _ h9 => h9) rfl dX6_join_150 ?_
                  have hP9 := hP.sub (ws' := []) [] rfl
                  have hD9 := hD.sub (ws' := []) [] (by decide) rfl
                  exact q_reti () hx hb hr hlocks hK hP9 hD9 hS (Nat.le_of_ble_eq_true rfl) (Nat.le_of_ble_eq_true rfl) ((by first | exact joi_n1 (by assumption) | exact joi_n2 (by assumption) | exact joi_eq (by assumption) (by assumption) (by assumption) | exact joi_ne (by assumption) (by assumption) (by assumption))) dX6_join_153
                · exact absurd c_14 (by decide)
              · exact absurd c_13 (by decide)
            · exact absurd c_11 (by decide)
          · refine lv_iconst (v := (-1)) hx hb dX6_join_42 (by decide) ?_
            have hP9 := hP.sub (ws' := []) [] rfl
            have hD9 := hD.sub (ws' := []) [] (by decide) rfl
            exact q_reti () hx hb hr hlocks hK hP9 hD9 hS (Nat.le_of_ble_eq_true rfl) (Nat.le_of_ble_eq_true rfl) ((by first | exact joi_n1 (by assumption) | exact joi_n2 (by assumption) | exact joi_eq (by assumption) (by assumption) (by assumption) | exact joi_ne (by assumption) (by assumption) (by assumption))) dX6_join_43
        · exact absurd c_4 (by decide)
      · have hP : va_P D q_cl [(h0, .inr (4, [.ref ph, .ref nh, .ref sh, .ref fh, .int 0])), (ph, .inr (2, [.ref lo, .ref hi, .int 0])), (lo, .inl (aL, 8, .inr (.inl fl))), (hi, .inl (aL, 8, .inr (.inl fh2))), (nh, .inr (1, [.ref at_, .ref dg, .int 0])), (at_, .inl (aL, 16, .inr (.inl fa))), (dg, .inl (aI, 16, .inl fd))] H := hP
        have hD : va_D A [(h0, .inr (4, [.ref ph, .ref nh, .ref sh, .ref fh, .int 0])), (ph, .inr (2, [.ref lo, .ref hi, .int 0])), (lo, .inl (aL, 8, .inr (.inl fl))), (hi, .inl (aL, 8, .inr (.inl fh2))), (nh, .inr (1, [.ref at_, .ref dg, .int 0])), (at_, .inl (aL, 16, .inr (.inl fa))), (dg, .inl (aI, 16, .inl fd))] := hD
        refine lv_if_ne (tgt := 19) hx hb dX6_join_14 (by decide) (fun c_18 => ?_) (fun c_18 => ?_)
        · exact absurd c_18 (by decide)
        · refine lv_iconst (v := (-1)) hx hb dX6_join_17 (by decide) ?_
          have hP9 := hP.sub (ws' := []) [] rfl
          have hD9 := hD.sub (ws' := []) [] (by decide) rfl
          exact q_reti () hx hb hr hlocks hK hP9 hD9 hS (Nat.le_of_ble_eq_true rfl) (Nat.le_of_ble_eq_true rfl) ((by first | exact joi_n1 (by assumption) | exact joi_n2 (by assumption) | exact joi_eq (by assumption) (by assumption) (by assumption) | exact joi_ne (by assumption) (by assumption) (by assumption))) dX6_join_18
  · have hP : va_P D q_cl [(h0, .inr (4, [.ref ph, .ref nh, .ref sh, .ref fh, .int 0])), (ph, .inr (2, [.ref lo, .ref hi, .int 0])), (lo, .inl (aL, 8, .inr (.inl fl))), (hi, .inl (aL, 8, .inr (.inl fh2))), (nh, .inr (1, [.ref at_, .ref dg, .int 0])), (at_, .inl (aL, 16, .inr (.inl fa))), (dg, .inl (aI, 16, .inl fd))] H := hP
    have hD : va_D A [(h0, .inr (4, [.ref ph, .ref nh, .ref sh, .ref fh, .int 0])), (ph, .inr (2, [.ref lo, .ref hi, .int 0])), (lo, .inl (aL, 8, .inr (.inl fl))), (hi, .inl (aL, 8, .inr (.inl fh2))), (nh, .inr (1, [.ref at_, .ref dg, .int 0])), (at_, .inl (aL, 16, .inr (.inl fa))), (dg, .inl (aI, 16, .inl fd))] := hD
    refine lv_if_eq (tgt := 17) hx hb dX6_join_5 (by decide) (fun c_19 => ?_) (fun c_19 => ?_)
    · refine lv_iconst (v := (-1)) hx hb dX6_join_17 (by decide) ?_
      have hP9 := hP.sub (ws' := []) [] rfl
      have hD9 := hD.sub (ws' := []) [] (by decide) rfl
      exact q_reti () hx hb hr hlocks hK hP9 hD9 hS (Nat.le_of_ble_eq_true rfl) (Nat.le_of_ble_eq_true rfl) ((by first | exact joi_n1 (by assumption) | exact joi_n2 (by assumption) | exact joi_eq (by assumption) (by assumption) (by assumption) | exact joi_ne (by assumption) (by assumption) (by assumption))) dX6_join_18
    · exact absurd c_19 (by decide)
end
section
def vsX7_init : List Cond := .code yX7_init cX7_init 1 none :: ([.methodLink RX7 1 objectInit, .instanceMethod objectInit, .code objectInit ⟨#[0xb1]⟩ 1 none, .arrayClass .int, .fieldLink RX7 7 "FaceMapModel$Net" "x" "[I", .fieldLink RX7 13 "FaceMapModel$Net" "y" "[I", .fieldLink RX7 16 "FaceMapModel$Net" "low" "[I", .fieldLink RX7 19 "FaceMapModel$Net" "high" "[I", .fieldLink RX7 22 "FaceMapModel$Net" "begins" "[I", .fieldLink RX7 25 "FaceMapModel$Net" "out" "[I", .fieldLink RX7 28 "FaceMapModel$Net" "rank" "[I", .fieldLink RX7 31 "FaceMapModel$Net" "round" "[I", .arrayClass .long, .fieldLink RX7 34 "FaceMapModel$Net" "area" "[J", .fieldLink RX7 38 "FaceMapModel$Net" "least" "[I", .fieldLink RX7 41 "FaceMapModel$Net" "faceOf" "[I", .fieldLink RX7 44 "FaceMapModel$Net" "part" "[I", .arrayClass .boolean, .fieldLink RX7 47 "FaceMapModel$Net" "odd" "[Z"] ++ wsX70)
set_option maxRecDepth 20000 in
theorem n_X7_init_X7 : ∀ w ∈ wsX70, w ∈ vsX7_init := fun _ h => List.mem_cons_of_mem _ (List.mem_append_right _ h)
set_option maxHeartbeats 4000000 in
set_option maxRecDepth 100000 in
/-- Net() -/
theorem c_X7_init (l : Launch) (D : va_G) (aI aL aZ : ClassId) (h0 : Nat) (sz : Nat) : MV l D q_cl (q_ty aI aL aZ) yX7_init vsX7_init 1 13 0 [.ref h0] [(h0, .inr (5, [.null, .null, .int 0, .null, .null, .int 0, .null, .null, .null, .null, .null, .null, .null, .int 0, .null, .int 0, .null]))] sz (fun (u : Nat × Nat × Nat × Nat × Nat × Nat × Nat × Nat × Nat × Nat × Nat × Nat × Nat) => True) (fun (u : Nat × Nat × Nat × Nat × Nat × Nat × Nat × Nat × Nat × Nat × Nat × Nat × Nat) => [(h0, .inr (5, [.ref u.1, .ref u.2.1, .int 0, .ref u.2.2.1, .ref u.2.2.2.1, .int 0, .ref u.2.2.2.2.1, .ref u.2.2.2.2.2.1, .ref u.2.2.2.2.2.2.1, .ref u.2.2.2.2.2.2.2.1, .ref u.2.2.2.2.2.2.2.2.1, .ref u.2.2.2.2.2.2.2.2.2.1, .ref u.2.2.2.2.2.2.2.2.2.2.1, .int 0, .ref u.2.2.2.2.2.2.2.2.2.2.2.1, .int 0, .ref u.2.2.2.2.2.2.2.2.2.2.2.2])), (u.1, .inl (aI, 0, .inl (fun _ => 0))), (u.2.2.1, .inl (aI, 0, .inl (fun _ => 0)))]) := by
  refine q_in cX7_init 1 none (qQv D q_cl (q_ty aI aL aZ) _ _) (by decide) rfl (Nat.le_of_ble_eq_true rfl) ?_
  intro p e s m args below meth c A ls hat hP hD hS hl
  obtain ⟨hx, hb, hr, hts, hown, hlocks, hml, hin, hK, hN, hA⟩ := hat
  have hown : s.vm.findClass RX7 = some m.cls := hown
  have hl : lv_has ls 1 [(0, .ref h0)] := hl
  refine lv_aload_n hx hb dX7_init_0 rfl (lv_at hl 0 rfl) ?_
  refine W.objInit hx hb hown (hts (.methodLink RX7 1 objectInit) (List.mem_of_getElem? (i := 1) rfl)) (hts (.instanceMethod objectInit) (List.mem_of_getElem? (i := 2) rfl)) (hts (.code objectInit ⟨#[0xb1]⟩ 1 none) (List.mem_of_getElem? (i := 3) rfl)) rfl (by rw [hml]; exact hl.1) rfl dX7_init_1 (Nat.le_of_ble_eq_true rfl) (Nat.le_of_ble_eq_true rfl) ?_
  refine W.eq (g2 := F0 m 4 ls []) rfl ?_
  refine lv_aload_n hx hb dX7_init_4 rfl (lv_at hl 0 rfl) ?_
  refine lv_iconst (v := 0) hx hb dX7_init_5 (by decide) ?_
  refine q_newI 0 hx hb (hts (.arrayClass .int) (List.mem_of_getElem? (i := 4) rfl)) hK hP hD hS hA 0 rfl (by decide) (by decide) (by decide) (Nat.le_of_ble_eq_true rfl) (Nat.le_of_ble_eq_true rfl) dX7_init_6 (fun q1 H hP hD hS => ?_)
  have hP : va_P D q_cl [(h0, .inr (5, [.null, .null, .int 0, .null, .null, .int 0, .null, .null, .null, .null, .null, .null, .null, .int 0, .null, .int 0, .null])), (q1, .inl (aI, 0, .inl (fun _ => 0)))] H := hP
  have hD : va_D A [(h0, .inr (5, [.null, .null, .int 0, .null, .null, .int 0, .null, .null, .null, .null, .null, .null, .null, .int 0, .null, .int 0, .null])), (q1, .inl (aI, 0, .inl (fun _ => 0)))] := hD
  refine va_put (D := D) (ci := 5) (v := .ref q1) (ty := (.array .int)) (C := RX7) (T := TX7) (N := 17) hx hb hts n_X7_init_X7 tyX7 tyX7_ok nmX7 hown hK hP hD hS 0 rfl rfl 0 (by decide) (hts (.fieldLink RX7 7 "FaceMapModel$Net" "x" "[I") (List.mem_of_getElem? (i := 5) rfl)) (fun _ h9 => h9) rfl (by decide +kernel) rfl rfl (Nat.le_of_ble_eq_true rfl) dX7_init_8 (fun H locs hP hD hS => ?_)
  have hP : va_P D q_cl [(h0, .inr (5, [.ref q1, .null, .int 0, .null, .null, .int 0, .null, .null, .null, .null, .null, .null, .null, .int 0, .null, .int 0, .null])), (q1, .inl (aI, 0, .inl (fun _ => 0)))] H := hP
  have hD : va_D A [(h0, .inr (5, [.ref q1, .null, .int 0, .null, .null, .int 0, .null, .null, .null, .null, .null, .null, .null, .int 0, .null, .int 0, .null])), (q1, .inl (aI, 0, .inl (fun _ => 0)))] := hD
  refine lv_aload_n hx hb dX7_init_11 rfl (lv_at hl 0 rfl) ?_
  refine lv_iconst (v := 0) hx hb dX7_init_12 (by decide) ?_
  refine q_newI 0 hx hb (hts (.arrayClass .int) (List.mem_of_getElem? (i := 4) rfl)) hK hP hD hS hA 0 rfl (by decide) (by decide) (by decide) (Nat.le_of_ble_eq_true rfl) (Nat.le_of_ble_eq_true rfl) dX7_init_13 (fun q2 H hP hD hS => ?_)
  have hP : va_P D q_cl [(h0, .inr (5, [.ref q1, .null, .int 0, .null, .null, .int 0, .null, .null, .null, .null, .null, .null, .null, .int 0, .null, .int 0, .null])), (q1, .inl (aI, 0, .inl (fun _ => 0))), (q2, .inl (aI, 0, .inl (fun _ => 0)))] H := hP
  have hD : va_D A [(h0, .inr (5, [.ref q1, .null, .int 0, .null, .null, .int 0, .null, .null, .null, .null, .null, .null, .null, .int 0, .null, .int 0, .null])), (q1, .inl (aI, 0, .inl (fun _ => 0))), (q2, .inl (aI, 0, .inl (fun _ => 0)))] := hD
  refine va_put (D := D) (ci := 5) (v := .ref q2) (ty := (.array .int)) (C := RX7) (T := TX7) (N := 17) hx hb hts n_X7_init_X7 tyX7 tyX7_ok nmX7 hown hK hP hD hS 0 rfl rfl 1 (by decide) (hts (.fieldLink RX7 13 "FaceMapModel$Net" "y" "[I") (List.mem_of_getElem? (i := 6) rfl)) (fun _ h9 => h9) rfl (by decide +kernel) rfl rfl (Nat.le_of_ble_eq_true rfl) dX7_init_15 (fun H locs hP hD hS => ?_)
  have hP : va_P D q_cl [(h0, .inr (5, [.ref q1, .ref q2, .int 0, .null, .null, .int 0, .null, .null, .null, .null, .null, .null, .null, .int 0, .null, .int 0, .null])), (q1, .inl (aI, 0, .inl (fun _ => 0))), (q2, .inl (aI, 0, .inl (fun _ => 0)))] H := hP
  have hD : va_D A [(h0, .inr (5, [.ref q1, .ref q2, .int 0, .null, .null, .int 0, .null, .null, .null, .null, .null, .null, .null, .int 0, .null, .int 0, .null])), (q1, .inl (aI, 0, .inl (fun _ => 0))), (q2, .inl (aI, 0, .inl (fun _ => 0)))] := hD
  refine lv_aload_n hx hb dX7_init_18 rfl (lv_at hl 0 rfl) ?_
  refine lv_iconst (v := 0) hx hb dX7_init_19 (by decide) ?_
  refine q_newI 0 hx hb (hts (.arrayClass .int) (List.mem_of_getElem? (i := 4) rfl)) hK hP hD hS hA 0 rfl (by decide) (by decide) (by decide) (Nat.le_of_ble_eq_true rfl) (Nat.le_of_ble_eq_true rfl) dX7_init_20 (fun q3 H hP hD hS => ?_)
  have hP : va_P D q_cl [(h0, .inr (5, [.ref q1, .ref q2, .int 0, .null, .null, .int 0, .null, .null, .null, .null, .null, .null, .null, .int 0, .null, .int 0, .null])), (q1, .inl (aI, 0, .inl (fun _ => 0))), (q2, .inl (aI, 0, .inl (fun _ => 0))), (q3, .inl (aI, 0, .inl (fun _ => 0)))] H := hP
  have hD : va_D A [(h0, .inr (5, [.ref q1, .ref q2, .int 0, .null, .null, .int 0, .null, .null, .null, .null, .null, .null, .null, .int 0, .null, .int 0, .null])), (q1, .inl (aI, 0, .inl (fun _ => 0))), (q2, .inl (aI, 0, .inl (fun _ => 0))), (q3, .inl (aI, 0, .inl (fun _ => 0)))] := hD
  refine va_put (D := D) (ci := 5) (v := .ref q3) (ty := (.array .int)) (C := RX7) (T := TX7) (N := 17) hx hb hts n_X7_init_X7 tyX7 tyX7_ok nmX7 hown hK hP hD hS 0 rfl rfl 3 (by decide) (hts (.fieldLink RX7 16 "FaceMapModel$Net" "low" "[I") (List.mem_of_getElem? (i := 7) rfl)) (fun _ h9 => h9) rfl (by decide +kernel) rfl rfl (Nat.le_of_ble_eq_true rfl) dX7_init_22 (fun H locs hP hD hS => ?_)
  have hP : va_P D q_cl [(h0, .inr (5, [.ref q1, .ref q2, .int 0, .ref q3, .null, .int 0, .null, .null, .null, .null, .null, .null, .null, .int 0, .null, .int 0, .null])), (q1, .inl (aI, 0, .inl (fun _ => 0))), (q2, .inl (aI, 0, .inl (fun _ => 0))), (q3, .inl (aI, 0, .inl (fun _ => 0)))] H := hP
  have hD : va_D A [(h0, .inr (5, [.ref q1, .ref q2, .int 0, .ref q3, .null, .int 0, .null, .null, .null, .null, .null, .null, .null, .int 0, .null, .int 0, .null])), (q1, .inl (aI, 0, .inl (fun _ => 0))), (q2, .inl (aI, 0, .inl (fun _ => 0))), (q3, .inl (aI, 0, .inl (fun _ => 0)))] := hD
  refine lv_aload_n hx hb dX7_init_25 rfl (lv_at hl 0 rfl) ?_
  refine lv_iconst (v := 0) hx hb dX7_init_26 (by decide) ?_
  refine q_newI 0 hx hb (hts (.arrayClass .int) (List.mem_of_getElem? (i := 4) rfl)) hK hP hD hS hA 0 rfl (by decide) (by decide) (by decide) (Nat.le_of_ble_eq_true rfl) (Nat.le_of_ble_eq_true rfl) dX7_init_27 (fun q4 H hP hD hS => ?_)
  have hP : va_P D q_cl [(h0, .inr (5, [.ref q1, .ref q2, .int 0, .ref q3, .null, .int 0, .null, .null, .null, .null, .null, .null, .null, .int 0, .null, .int 0, .null])), (q1, .inl (aI, 0, .inl (fun _ => 0))), (q2, .inl (aI, 0, .inl (fun _ => 0))), (q3, .inl (aI, 0, .inl (fun _ => 0))), (q4, .inl (aI, 0, .inl (fun _ => 0)))] H := hP
  have hD : va_D A [(h0, .inr (5, [.ref q1, .ref q2, .int 0, .ref q3, .null, .int 0, .null, .null, .null, .null, .null, .null, .null, .int 0, .null, .int 0, .null])), (q1, .inl (aI, 0, .inl (fun _ => 0))), (q2, .inl (aI, 0, .inl (fun _ => 0))), (q3, .inl (aI, 0, .inl (fun _ => 0))), (q4, .inl (aI, 0, .inl (fun _ => 0)))] := hD
  refine va_put (D := D) (ci := 5) (v := .ref q4) (ty := (.array .int)) (C := RX7) (T := TX7) (N := 17) hx hb hts n_X7_init_X7 tyX7 tyX7_ok nmX7 hown hK hP hD hS 0 rfl rfl 4 (by decide) (hts (.fieldLink RX7 19 "FaceMapModel$Net" "high" "[I") (List.mem_of_getElem? (i := 8) rfl)) (fun _ h9 => h9) rfl (by decide +kernel) rfl rfl (Nat.le_of_ble_eq_true rfl) dX7_init_29 (fun H locs hP hD hS => ?_)
  have hP : va_P D q_cl [(h0, .inr (5, [.ref q1, .ref q2, .int 0, .ref q3, .ref q4, .int 0, .null, .null, .null, .null, .null, .null, .null, .int 0, .null, .int 0, .null])), (q1, .inl (aI, 0, .inl (fun _ => 0))), (q2, .inl (aI, 0, .inl (fun _ => 0))), (q3, .inl (aI, 0, .inl (fun _ => 0))), (q4, .inl (aI, 0, .inl (fun _ => 0)))] H := hP
  have hD : va_D A [(h0, .inr (5, [.ref q1, .ref q2, .int 0, .ref q3, .ref q4, .int 0, .null, .null, .null, .null, .null, .null, .null, .int 0, .null, .int 0, .null])), (q1, .inl (aI, 0, .inl (fun _ => 0))), (q2, .inl (aI, 0, .inl (fun _ => 0))), (q3, .inl (aI, 0, .inl (fun _ => 0))), (q4, .inl (aI, 0, .inl (fun _ => 0)))] := hD
  refine lv_aload_n hx hb dX7_init_32 rfl (lv_at hl 0 rfl) ?_
  refine lv_iconst (v := 0) hx hb dX7_init_33 (by decide) ?_
  refine q_newI 0 hx hb (hts (.arrayClass .int) (List.mem_of_getElem? (i := 4) rfl)) hK hP hD hS hA 0 rfl (by decide) (by decide) (by decide) (Nat.le_of_ble_eq_true rfl) (Nat.le_of_ble_eq_true rfl) dX7_init_34 (fun q5 H hP hD hS => ?_)
  have hP : va_P D q_cl [(h0, .inr (5, [.ref q1, .ref q2, .int 0, .ref q3, .ref q4, .int 0, .null, .null, .null, .null, .null, .null, .null, .int 0, .null, .int 0, .null])), (q1, .inl (aI, 0, .inl (fun _ => 0))), (q2, .inl (aI, 0, .inl (fun _ => 0))), (q3, .inl (aI, 0, .inl (fun _ => 0))), (q4, .inl (aI, 0, .inl (fun _ => 0))), (q5, .inl (aI, 0, .inl (fun _ => 0)))] H := hP
  have hD : va_D A [(h0, .inr (5, [.ref q1, .ref q2, .int 0, .ref q3, .ref q4, .int 0, .null, .null, .null, .null, .null, .null, .null, .int 0, .null, .int 0, .null])), (q1, .inl (aI, 0, .inl (fun _ => 0))), (q2, .inl (aI, 0, .inl (fun _ => 0))), (q3, .inl (aI, 0, .inl (fun _ => 0))), (q4, .inl (aI, 0, .inl (fun _ => 0))), (q5, .inl (aI, 0, .inl (fun _ => 0)))] := hD
  refine va_put (D := D) (ci := 5) (v := .ref q5) (ty := (.array .int)) (C := RX7) (T := TX7) (N := 17) hx hb hts n_X7_init_X7 tyX7 tyX7_ok nmX7 hown hK hP hD hS 0 rfl rfl 6 (by decide) (hts (.fieldLink RX7 22 "FaceMapModel$Net" "begins" "[I") (List.mem_of_getElem? (i := 9) rfl)) (fun _ h9 => h9) rfl (by decide +kernel) rfl rfl (Nat.le_of_ble_eq_true rfl) dX7_init_36 (fun H locs hP hD hS => ?_)
  have hP : va_P D q_cl [(h0, .inr (5, [.ref q1, .ref q2, .int 0, .ref q3, .ref q4, .int 0, .ref q5, .null, .null, .null, .null, .null, .null, .int 0, .null, .int 0, .null])), (q1, .inl (aI, 0, .inl (fun _ => 0))), (q2, .inl (aI, 0, .inl (fun _ => 0))), (q3, .inl (aI, 0, .inl (fun _ => 0))), (q4, .inl (aI, 0, .inl (fun _ => 0))), (q5, .inl (aI, 0, .inl (fun _ => 0)))] H := hP
  have hD : va_D A [(h0, .inr (5, [.ref q1, .ref q2, .int 0, .ref q3, .ref q4, .int 0, .ref q5, .null, .null, .null, .null, .null, .null, .int 0, .null, .int 0, .null])), (q1, .inl (aI, 0, .inl (fun _ => 0))), (q2, .inl (aI, 0, .inl (fun _ => 0))), (q3, .inl (aI, 0, .inl (fun _ => 0))), (q4, .inl (aI, 0, .inl (fun _ => 0))), (q5, .inl (aI, 0, .inl (fun _ => 0)))] := hD
  refine lv_aload_n hx hb dX7_init_39 rfl (lv_at hl 0 rfl) ?_
  refine lv_iconst (v := 0) hx hb dX7_init_40 (by decide) ?_
  refine q_newI 0 hx hb (hts (.arrayClass .int) (List.mem_of_getElem? (i := 4) rfl)) hK hP hD hS hA 0 rfl (by decide) (by decide) (by decide) (Nat.le_of_ble_eq_true rfl) (Nat.le_of_ble_eq_true rfl) dX7_init_41 (fun q6 H hP hD hS => ?_)
  have hP : va_P D q_cl [(h0, .inr (5, [.ref q1, .ref q2, .int 0, .ref q3, .ref q4, .int 0, .ref q5, .null, .null, .null, .null, .null, .null, .int 0, .null, .int 0, .null])), (q1, .inl (aI, 0, .inl (fun _ => 0))), (q2, .inl (aI, 0, .inl (fun _ => 0))), (q3, .inl (aI, 0, .inl (fun _ => 0))), (q4, .inl (aI, 0, .inl (fun _ => 0))), (q5, .inl (aI, 0, .inl (fun _ => 0))), (q6, .inl (aI, 0, .inl (fun _ => 0)))] H := hP
  have hD : va_D A [(h0, .inr (5, [.ref q1, .ref q2, .int 0, .ref q3, .ref q4, .int 0, .ref q5, .null, .null, .null, .null, .null, .null, .int 0, .null, .int 0, .null])), (q1, .inl (aI, 0, .inl (fun _ => 0))), (q2, .inl (aI, 0, .inl (fun _ => 0))), (q3, .inl (aI, 0, .inl (fun _ => 0))), (q4, .inl (aI, 0, .inl (fun _ => 0))), (q5, .inl (aI, 0, .inl (fun _ => 0))), (q6, .inl (aI, 0, .inl (fun _ => 0)))] := hD
  refine va_put (D := D) (ci := 5) (v := .ref q6) (ty := (.array .int)) (C := RX7) (T := TX7) (N := 17) hx hb hts n_X7_init_X7 tyX7 tyX7_ok nmX7 hown hK hP hD hS 0 rfl rfl 7 (by decide) (hts (.fieldLink RX7 25 "FaceMapModel$Net" "out" "[I") (List.mem_of_getElem? (i := 10) rfl)) (fun _ h9 => h9) rfl (by decide +kernel) rfl rfl (Nat.le_of_ble_eq_true rfl) dX7_init_43 (fun H locs hP hD hS => ?_)
  have hP : va_P D q_cl [(h0, .inr (5, [.ref q1, .ref q2, .int 0, .ref q3, .ref q4, .int 0, .ref q5, .ref q6, .null, .null, .null, .null, .null, .int 0, .null, .int 0, .null])), (q1, .inl (aI, 0, .inl (fun _ => 0))), (q2, .inl (aI, 0, .inl (fun _ => 0))), (q3, .inl (aI, 0, .inl (fun _ => 0))), (q4, .inl (aI, 0, .inl (fun _ => 0))), (q5, .inl (aI, 0, .inl (fun _ => 0))), (q6, .inl (aI, 0, .inl (fun _ => 0)))] H := hP
  have hD : va_D A [(h0, .inr (5, [.ref q1, .ref q2, .int 0, .ref q3, .ref q4, .int 0, .ref q5, .ref q6, .null, .null, .null, .null, .null, .int 0, .null, .int 0, .null])), (q1, .inl (aI, 0, .inl (fun _ => 0))), (q2, .inl (aI, 0, .inl (fun _ => 0))), (q3, .inl (aI, 0, .inl (fun _ => 0))), (q4, .inl (aI, 0, .inl (fun _ => 0))), (q5, .inl (aI, 0, .inl (fun _ => 0))), (q6, .inl (aI, 0, .inl (fun _ => 0)))] := hD
  refine lv_aload_n hx hb dX7_init_46 rfl (lv_at hl 0 rfl) ?_
  refine lv_iconst (v := 0) hx hb dX7_init_47 (by decide) ?_
  refine q_newI 0 hx hb (hts (.arrayClass .int) (List.mem_of_getElem? (i := 4) rfl)) hK hP hD hS hA 0 rfl (by decide) (by decide) (by decide) (Nat.le_of_ble_eq_true rfl) (Nat.le_of_ble_eq_true rfl) dX7_init_48 (fun q7 H hP hD hS => ?_)
  have hP : va_P D q_cl [(h0, .inr (5, [.ref q1, .ref q2, .int 0, .ref q3, .ref q4, .int 0, .ref q5, .ref q6, .null, .null, .null, .null, .null, .int 0, .null, .int 0, .null])), (q1, .inl (aI, 0, .inl (fun _ => 0))), (q2, .inl (aI, 0, .inl (fun _ => 0))), (q3, .inl (aI, 0, .inl (fun _ => 0))), (q4, .inl (aI, 0, .inl (fun _ => 0))), (q5, .inl (aI, 0, .inl (fun _ => 0))), (q6, .inl (aI, 0, .inl (fun _ => 0))), (q7, .inl (aI, 0, .inl (fun _ => 0)))] H := hP
  have hD : va_D A [(h0, .inr (5, [.ref q1, .ref q2, .int 0, .ref q3, .ref q4, .int 0, .ref q5, .ref q6, .null, .null, .null, .null, .null, .int 0, .null, .int 0, .null])), (q1, .inl (aI, 0, .inl (fun _ => 0))), (q2, .inl (aI, 0, .inl (fun _ => 0))), (q3, .inl (aI, 0, .inl (fun _ => 0))), (q4, .inl (aI, 0, .inl (fun _ => 0))), (q5, .inl (aI, 0, .inl (fun _ => 0))), (q6, .inl (aI, 0, .inl (fun _ => 0))), (q7, .inl (aI, 0, .inl (fun _ => 0)))] := hD
  refine va_put (D := D) (ci := 5) (v := .ref q7) (ty := (.array .int)) (C := RX7) (T := TX7) (N := 17) hx hb hts n_X7_init_X7 tyX7 tyX7_ok nmX7 hown hK hP hD hS 0 rfl rfl 8 (by decide) (hts (.fieldLink RX7 28 "FaceMapModel$Net" "rank" "[I") (List.mem_of_getElem? (i := 11) rfl)) (fun _ h9 => h9) rfl (by decide +kernel) rfl rfl (Nat.le_of_ble_eq_true rfl) dX7_init_50 (fun H locs hP hD hS => ?_)
  have hP : va_P D q_cl [(h0, .inr (5, [.ref q1, .ref q2, .int 0, .ref q3, .ref q4, .int 0, .ref q5, .ref q6, .ref q7, .null, .null, .null, .null, .int 0, .null, .int 0, .null])), (q1, .inl (aI, 0, .inl (fun _ => 0))), (q2, .inl (aI, 0, .inl (fun _ => 0))), (q3, .inl (aI, 0, .inl (fun _ => 0))), (q4, .inl (aI, 0, .inl (fun _ => 0))), (q5, .inl (aI, 0, .inl (fun _ => 0))), (q6, .inl (aI, 0, .inl (fun _ => 0))), (q7, .inl (aI, 0, .inl (fun _ => 0)))] H := hP
  have hD : va_D A [(h0, .inr (5, [.ref q1, .ref q2, .int 0, .ref q3, .ref q4, .int 0, .ref q5, .ref q6, .ref q7, .null, .null, .null, .null, .int 0, .null, .int 0, .null])), (q1, .inl (aI, 0, .inl (fun _ => 0))), (q2, .inl (aI, 0, .inl (fun _ => 0))), (q3, .inl (aI, 0, .inl (fun _ => 0))), (q4, .inl (aI, 0, .inl (fun _ => 0))), (q5, .inl (aI, 0, .inl (fun _ => 0))), (q6, .inl (aI, 0, .inl (fun _ => 0))), (q7, .inl (aI, 0, .inl (fun _ => 0)))] := hD
  refine lv_aload_n hx hb dX7_init_53 rfl (lv_at hl 0 rfl) ?_
  refine lv_iconst (v := 0) hx hb dX7_init_54 (by decide) ?_
  refine q_newI 0 hx hb (hts (.arrayClass .int) (List.mem_of_getElem? (i := 4) rfl)) hK hP hD hS hA 0 rfl (by decide) (by decide) (by decide) (Nat.le_of_ble_eq_true rfl) (Nat.le_of_ble_eq_true rfl) dX7_init_55 (fun q8 H hP hD hS => ?_)
  have hP : va_P D q_cl [(h0, .inr (5, [.ref q1, .ref q2, .int 0, .ref q3, .ref q4, .int 0, .ref q5, .ref q6, .ref q7, .null, .null, .null, .null, .int 0, .null, .int 0, .null])), (q1, .inl (aI, 0, .inl (fun _ => 0))), (q2, .inl (aI, 0, .inl (fun _ => 0))), (q3, .inl (aI, 0, .inl (fun _ => 0))), (q4, .inl (aI, 0, .inl (fun _ => 0))), (q5, .inl (aI, 0, .inl (fun _ => 0))), (q6, .inl (aI, 0, .inl (fun _ => 0))), (q7, .inl (aI, 0, .inl (fun _ => 0))), (q8, .inl (aI, 0, .inl (fun _ => 0)))] H := hP
  have hD : va_D A [(h0, .inr (5, [.ref q1, .ref q2, .int 0, .ref q3, .ref q4, .int 0, .ref q5, .ref q6, .ref q7, .null, .null, .null, .null, .int 0, .null, .int 0, .null])), (q1, .inl (aI, 0, .inl (fun _ => 0))), (q2, .inl (aI, 0, .inl (fun _ => 0))), (q3, .inl (aI, 0, .inl (fun _ => 0))), (q4, .inl (aI, 0, .inl (fun _ => 0))), (q5, .inl (aI, 0, .inl (fun _ => 0))), (q6, .inl (aI, 0, .inl (fun _ => 0))), (q7, .inl (aI, 0, .inl (fun _ => 0))), (q8, .inl (aI, 0, .inl (fun _ => 0)))] := hD
  refine va_put (D := D) (ci := 5) (v := .ref q8) (ty := (.array .int)) (C := RX7) (T := TX7) (N := 17) hx hb hts n_X7_init_X7 tyX7 tyX7_ok nmX7 hown hK hP hD hS 0 rfl rfl 9 (by decide) (hts (.fieldLink RX7 31 "FaceMapModel$Net" "round" "[I") (List.mem_of_getElem? (i := 12) rfl)) (fun _ h9 => h9) rfl (by decide +kernel) rfl rfl (Nat.le_of_ble_eq_true rfl) dX7_init_57 (fun H locs hP hD hS => ?_)
  have hP : va_P D q_cl [(h0, .inr (5, [.ref q1, .ref q2, .int 0, .ref q3, .ref q4, .int 0, .ref q5, .ref q6, .ref q7, .ref q8, .null, .null, .null, .int 0, .null, .int 0, .null])), (q1, .inl (aI, 0, .inl (fun _ => 0))), (q2, .inl (aI, 0, .inl (fun _ => 0))), (q3, .inl (aI, 0, .inl (fun _ => 0))), (q4, .inl (aI, 0, .inl (fun _ => 0))), (q5, .inl (aI, 0, .inl (fun _ => 0))), (q6, .inl (aI, 0, .inl (fun _ => 0))), (q7, .inl (aI, 0, .inl (fun _ => 0))), (q8, .inl (aI, 0, .inl (fun _ => 0)))] H := hP
  have hD : va_D A [(h0, .inr (5, [.ref q1, .ref q2, .int 0, .ref q3, .ref q4, .int 0, .ref q5, .ref q6, .ref q7, .ref q8, .null, .null, .null, .int 0, .null, .int 0, .null])), (q1, .inl (aI, 0, .inl (fun _ => 0))), (q2, .inl (aI, 0, .inl (fun _ => 0))), (q3, .inl (aI, 0, .inl (fun _ => 0))), (q4, .inl (aI, 0, .inl (fun _ => 0))), (q5, .inl (aI, 0, .inl (fun _ => 0))), (q6, .inl (aI, 0, .inl (fun _ => 0))), (q7, .inl (aI, 0, .inl (fun _ => 0))), (q8, .inl (aI, 0, .inl (fun _ => 0)))] := hD
  refine lv_aload_n hx hb dX7_init_60 rfl (lv_at hl 0 rfl) ?_
  refine lv_iconst (v := 0) hx hb dX7_init_61 (by decide) ?_
  refine q_newL 0 hx hb (hts (.arrayClass .long) (List.mem_of_getElem? (i := 13) rfl)) hK hP hD hS hA 1 rfl (by decide) (by decide) (by decide) (Nat.le_of_ble_eq_true rfl) (Nat.le_of_ble_eq_true rfl) dX7_init_62 (fun q9 H hP hD hS => ?_)
  have hP : va_P D q_cl [(h0, .inr (5, [.ref q1, .ref q2, .int 0, .ref q3, .ref q4, .int 0, .ref q5, .ref q6, .ref q7, .ref q8, .null, .null, .null, .int 0, .null, .int 0, .null])), (q1, .inl (aI, 0, .inl (fun _ => 0))), (q2, .inl (aI, 0, .inl (fun _ => 0))), (q3, .inl (aI, 0, .inl (fun _ => 0))), (q4, .inl (aI, 0, .inl (fun _ => 0))), (q5, .inl (aI, 0, .inl (fun _ => 0))), (q6, .inl (aI, 0, .inl (fun _ => 0))), (q7, .inl (aI, 0, .inl (fun _ => 0))), (q8, .inl (aI, 0, .inl (fun _ => 0))), (q9, .inl (aL, 0, .inr (.inl (fun _ => 0))))] H := hP
  have hD : va_D A [(h0, .inr (5, [.ref q1, .ref q2, .int 0, .ref q3, .ref q4, .int 0, .ref q5, .ref q6, .ref q7, .ref q8, .null, .null, .null, .int 0, .null, .int 0, .null])), (q1, .inl (aI, 0, .inl (fun _ => 0))), (q2, .inl (aI, 0, .inl (fun _ => 0))), (q3, .inl (aI, 0, .inl (fun _ => 0))), (q4, .inl (aI, 0, .inl (fun _ => 0))), (q5, .inl (aI, 0, .inl (fun _ => 0))), (q6, .inl (aI, 0, .inl (fun _ => 0))), (q7, .inl (aI, 0, .inl (fun _ => 0))), (q8, .inl (aI, 0, .inl (fun _ => 0))), (q9, .inl (aL, 0, .inr (.inl (fun _ => 0))))] := hD
  refine va_put (D := D) (ci := 5) (v := .ref q9) (ty := (.array .long)) (C := RX7) (T := TX7) (N := 17) hx hb hts n_X7_init_X7 tyX7 tyX7_ok nmX7 hown hK hP hD hS 0 rfl rfl 10 (by decide) (hts (.fieldLink RX7 34 "FaceMapModel$Net" "area" "[J") (List.mem_of_getElem? (i := 14) rfl)) (fun _ h9 => h9) rfl (by decide +kernel) rfl rfl (Nat.le_of_ble_eq_true rfl) dX7_init_64 (fun H locs hP hD hS => ?_)
  have hP : va_P D q_cl [(h0, .inr (5, [.ref q1, .ref q2, .int 0, .ref q3, .ref q4, .int 0, .ref q5, .ref q6, .ref q7, .ref q8, .ref q9, .null, .null, .int 0, .null, .int 0, .null])), (q1, .inl (aI, 0, .inl (fun _ => 0))), (q2, .inl (aI, 0, .inl (fun _ => 0))), (q3, .inl (aI, 0, .inl (fun _ => 0))), (q4, .inl (aI, 0, .inl (fun _ => 0))), (q5, .inl (aI, 0, .inl (fun _ => 0))), (q6, .inl (aI, 0, .inl (fun _ => 0))), (q7, .inl (aI, 0, .inl (fun _ => 0))), (q8, .inl (aI, 0, .inl (fun _ => 0))), (q9, .inl (aL, 0, .inr (.inl (fun _ => 0))))] H := hP
  have hD : va_D A [(h0, .inr (5, [.ref q1, .ref q2, .int 0, .ref q3, .ref q4, .int 0, .ref q5, .ref q6, .ref q7, .ref q8, .ref q9, .null, .null, .int 0, .null, .int 0, .null])), (q1, .inl (aI, 0, .inl (fun _ => 0))), (q2, .inl (aI, 0, .inl (fun _ => 0))), (q3, .inl (aI, 0, .inl (fun _ => 0))), (q4, .inl (aI, 0, .inl (fun _ => 0))), (q5, .inl (aI, 0, .inl (fun _ => 0))), (q6, .inl (aI, 0, .inl (fun _ => 0))), (q7, .inl (aI, 0, .inl (fun _ => 0))), (q8, .inl (aI, 0, .inl (fun _ => 0))), (q9, .inl (aL, 0, .inr (.inl (fun _ => 0))))] := hD
  refine lv_aload_n hx hb dX7_init_67 rfl (lv_at hl 0 rfl) ?_
  refine lv_iconst (v := 0) hx hb dX7_init_68 (by decide) ?_
  refine q_newI 0 hx hb (hts (.arrayClass .int) (List.mem_of_getElem? (i := 4) rfl)) hK hP hD hS hA 0 rfl (by decide) (by decide) (by decide) (Nat.le_of_ble_eq_true rfl) (Nat.le_of_ble_eq_true rfl) dX7_init_69 (fun q10 H hP hD hS => ?_)
  have hP : va_P D q_cl [(h0, .inr (5, [.ref q1, .ref q2, .int 0, .ref q3, .ref q4, .int 0, .ref q5, .ref q6, .ref q7, .ref q8, .ref q9, .null, .null, .int 0, .null, .int 0, .null])), (q1, .inl (aI, 0, .inl (fun _ => 0))), (q2, .inl (aI, 0, .inl (fun _ => 0))), (q3, .inl (aI, 0, .inl (fun _ => 0))), (q4, .inl (aI, 0, .inl (fun _ => 0))), (q5, .inl (aI, 0, .inl (fun _ => 0))), (q6, .inl (aI, 0, .inl (fun _ => 0))), (q7, .inl (aI, 0, .inl (fun _ => 0))), (q8, .inl (aI, 0, .inl (fun _ => 0))), (q9, .inl (aL, 0, .inr (.inl (fun _ => 0)))), (q10, .inl (aI, 0, .inl (fun _ => 0)))] H := hP
  have hD : va_D A [(h0, .inr (5, [.ref q1, .ref q2, .int 0, .ref q3, .ref q4, .int 0, .ref q5, .ref q6, .ref q7, .ref q8, .ref q9, .null, .null, .int 0, .null, .int 0, .null])), (q1, .inl (aI, 0, .inl (fun _ => 0))), (q2, .inl (aI, 0, .inl (fun _ => 0))), (q3, .inl (aI, 0, .inl (fun _ => 0))), (q4, .inl (aI, 0, .inl (fun _ => 0))), (q5, .inl (aI, 0, .inl (fun _ => 0))), (q6, .inl (aI, 0, .inl (fun _ => 0))), (q7, .inl (aI, 0, .inl (fun _ => 0))), (q8, .inl (aI, 0, .inl (fun _ => 0))), (q9, .inl (aL, 0, .inr (.inl (fun _ => 0)))), (q10, .inl (aI, 0, .inl (fun _ => 0)))] := hD
  refine va_put (D := D) (ci := 5) (v := .ref q10) (ty := (.array .int)) (C := RX7) (T := TX7) (N := 17) hx hb hts n_X7_init_X7 tyX7 tyX7_ok nmX7 hown hK hP hD hS 0 rfl rfl 11 (by decide) (hts (.fieldLink RX7 38 "FaceMapModel$Net" "least" "[I") (List.mem_of_getElem? (i := 15) rfl)) (fun _ h9 => h9) rfl (by decide +kernel) rfl rfl (Nat.le_of_ble_eq_true rfl) dX7_init_71 (fun H locs hP hD hS => ?_)
  have hP : va_P D q_cl [(h0, .inr (5, [.ref q1, .ref q2, .int 0, .ref q3, .ref q4, .int 0, .ref q5, .ref q6, .ref q7, .ref q8, .ref q9, .ref q10, .null, .int 0, .null, .int 0, .null])), (q1, .inl (aI, 0, .inl (fun _ => 0))), (q2, .inl (aI, 0, .inl (fun _ => 0))), (q3, .inl (aI, 0, .inl (fun _ => 0))), (q4, .inl (aI, 0, .inl (fun _ => 0))), (q5, .inl (aI, 0, .inl (fun _ => 0))), (q6, .inl (aI, 0, .inl (fun _ => 0))), (q7, .inl (aI, 0, .inl (fun _ => 0))), (q8, .inl (aI, 0, .inl (fun _ => 0))), (q9, .inl (aL, 0, .inr (.inl (fun _ => 0)))), (q10, .inl (aI, 0, .inl (fun _ => 0)))] H := hP
  have hD : va_D A [(h0, .inr (5, [.ref q1, .ref q2, .int 0, .ref q3, .ref q4, .int 0, .ref q5, .ref q6, .ref q7, .ref q8, .ref q9, .ref q10, .null, .int 0, .null, .int 0, .null])), (q1, .inl (aI, 0, .inl (fun _ => 0))), (q2, .inl (aI, 0, .inl (fun _ => 0))), (q3, .inl (aI, 0, .inl (fun _ => 0))), (q4, .inl (aI, 0, .inl (fun _ => 0))), (q5, .inl (aI, 0, .inl (fun _ => 0))), (q6, .inl (aI, 0, .inl (fun _ => 0))), (q7, .inl (aI, 0, .inl (fun _ => 0))), (q8, .inl (aI, 0, .inl (fun _ => 0))), (q9, .inl (aL, 0, .inr (.inl (fun _ => 0)))), (q10, .inl (aI, 0, .inl (fun _ => 0)))] := hD
  refine lv_aload_n hx hb dX7_init_74 rfl (lv_at hl 0 rfl) ?_
  refine lv_iconst (v := 0) hx hb dX7_init_75 (by decide) ?_
  refine q_newI 0 hx hb (hts (.arrayClass .int) (List.mem_of_getElem? (i := 4) rfl)) hK hP hD hS hA 0 rfl (by decide) (by decide) (by decide) (Nat.le_of_ble_eq_true rfl) (Nat.le_of_ble_eq_true rfl) dX7_init_76 (fun q11 H hP hD hS => ?_)
  have hP : va_P D q_cl [(h0, .inr (5, [.ref q1, .ref q2, .int 0, .ref q3, .ref q4, .int 0, .ref q5, .ref q6, .ref q7, .ref q8, .ref q9, .ref q10, .null, .int 0, .null, .int 0, .null])), (q1, .inl (aI, 0, .inl (fun _ => 0))), (q2, .inl (aI, 0, .inl (fun _ => 0))), (q3, .inl (aI, 0, .inl (fun _ => 0))), (q4, .inl (aI, 0, .inl (fun _ => 0))), (q5, .inl (aI, 0, .inl (fun _ => 0))), (q6, .inl (aI, 0, .inl (fun _ => 0))), (q7, .inl (aI, 0, .inl (fun _ => 0))), (q8, .inl (aI, 0, .inl (fun _ => 0))), (q9, .inl (aL, 0, .inr (.inl (fun _ => 0)))), (q10, .inl (aI, 0, .inl (fun _ => 0))), (q11, .inl (aI, 0, .inl (fun _ => 0)))] H := hP
  have hD : va_D A [(h0, .inr (5, [.ref q1, .ref q2, .int 0, .ref q3, .ref q4, .int 0, .ref q5, .ref q6, .ref q7, .ref q8, .ref q9, .ref q10, .null, .int 0, .null, .int 0, .null])), (q1, .inl (aI, 0, .inl (fun _ => 0))), (q2, .inl (aI, 0, .inl (fun _ => 0))), (q3, .inl (aI, 0, .inl (fun _ => 0))), (q4, .inl (aI, 0, .inl (fun _ => 0))), (q5, .inl (aI, 0, .inl (fun _ => 0))), (q6, .inl (aI, 0, .inl (fun _ => 0))), (q7, .inl (aI, 0, .inl (fun _ => 0))), (q8, .inl (aI, 0, .inl (fun _ => 0))), (q9, .inl (aL, 0, .inr (.inl (fun _ => 0)))), (q10, .inl (aI, 0, .inl (fun _ => 0))), (q11, .inl (aI, 0, .inl (fun _ => 0)))] := hD
  refine va_put (D := D) (ci := 5) (v := .ref q11) (ty := (.array .int)) (C := RX7) (T := TX7) (N := 17) hx hb hts n_X7_init_X7 tyX7 tyX7_ok nmX7 hown hK hP hD hS 0 rfl rfl 12 (by decide) (hts (.fieldLink RX7 41 "FaceMapModel$Net" "faceOf" "[I") (List.mem_of_getElem? (i := 16) rfl)) (fun _ h9 => h9) rfl (by decide +kernel) rfl rfl (Nat.le_of_ble_eq_true rfl) dX7_init_78 (fun H locs hP hD hS => ?_)
  have hP : va_P D q_cl [(h0, .inr (5, [.ref q1, .ref q2, .int 0, .ref q3, .ref q4, .int 0, .ref q5, .ref q6, .ref q7, .ref q8, .ref q9, .ref q10, .ref q11, .int 0, .null, .int 0, .null])), (q1, .inl (aI, 0, .inl (fun _ => 0))), (q2, .inl (aI, 0, .inl (fun _ => 0))), (q3, .inl (aI, 0, .inl (fun _ => 0))), (q4, .inl (aI, 0, .inl (fun _ => 0))), (q5, .inl (aI, 0, .inl (fun _ => 0))), (q6, .inl (aI, 0, .inl (fun _ => 0))), (q7, .inl (aI, 0, .inl (fun _ => 0))), (q8, .inl (aI, 0, .inl (fun _ => 0))), (q9, .inl (aL, 0, .inr (.inl (fun _ => 0)))), (q10, .inl (aI, 0, .inl (fun _ => 0))), (q11, .inl (aI, 0, .inl (fun _ => 0)))] H := hP
  have hD : va_D A [(h0, .inr (5, [.ref q1, .ref q2, .int 0, .ref q3, .ref q4, .int 0, .ref q5, .ref q6, .ref q7, .ref q8, .ref q9, .ref q10, .ref q11, .int 0, .null, .int 0, .null])), (q1, .inl (aI, 0, .inl (fun _ => 0))), (q2, .inl (aI, 0, .inl (fun _ => 0))), (q3, .inl (aI, 0, .inl (fun _ => 0))), (q4, .inl (aI, 0, .inl (fun _ => 0))), (q5, .inl (aI, 0, .inl (fun _ => 0))), (q6, .inl (aI, 0, .inl (fun _ => 0))), (q7, .inl (aI, 0, .inl (fun _ => 0))), (q8, .inl (aI, 0, .inl (fun _ => 0))), (q9, .inl (aL, 0, .inr (.inl (fun _ => 0)))), (q10, .inl (aI, 0, .inl (fun _ => 0))), (q11, .inl (aI, 0, .inl (fun _ => 0)))] := hD
  refine lv_aload_n hx hb dX7_init_81 rfl (lv_at hl 0 rfl) ?_
  refine lv_iconst (v := 0) hx hb dX7_init_82 (by decide) ?_
  refine q_newI 0 hx hb (hts (.arrayClass .int) (List.mem_of_getElem? (i := 4) rfl)) hK hP hD hS hA 0 rfl (by decide) (by decide) (by decide) (Nat.le_of_ble_eq_true rfl) (Nat.le_of_ble_eq_true rfl) dX7_init_83 (fun q12 H hP hD hS => ?_)
  have hP : va_P D q_cl [(h0, .inr (5, [.ref q1, .ref q2, .int 0, .ref q3, .ref q4, .int 0, .ref q5, .ref q6, .ref q7, .ref q8, .ref q9, .ref q10, .ref q11, .int 0, .null, .int 0, .null])), (q1, .inl (aI, 0, .inl (fun _ => 0))), (q2, .inl (aI, 0, .inl (fun _ => 0))), (q3, .inl (aI, 0, .inl (fun _ => 0))), (q4, .inl (aI, 0, .inl (fun _ => 0))), (q5, .inl (aI, 0, .inl (fun _ => 0))), (q6, .inl (aI, 0, .inl (fun _ => 0))), (q7, .inl (aI, 0, .inl (fun _ => 0))), (q8, .inl (aI, 0, .inl (fun _ => 0))), (q9, .inl (aL, 0, .inr (.inl (fun _ => 0)))), (q10, .inl (aI, 0, .inl (fun _ => 0))), (q11, .inl (aI, 0, .inl (fun _ => 0))), (q12, .inl (aI, 0, .inl (fun _ => 0)))] H := hP
  have hD : va_D A [(h0, .inr (5, [.ref q1, .ref q2, .int 0, .ref q3, .ref q4, .int 0, .ref q5, .ref q6, .ref q7, .ref q8, .ref q9, .ref q10, .ref q11, .int 0, .null, .int 0, .null])), (q1, .inl (aI, 0, .inl (fun _ => 0))), (q2, .inl (aI, 0, .inl (fun _ => 0))), (q3, .inl (aI, 0, .inl (fun _ => 0))), (q4, .inl (aI, 0, .inl (fun _ => 0))), (q5, .inl (aI, 0, .inl (fun _ => 0))), (q6, .inl (aI, 0, .inl (fun _ => 0))), (q7, .inl (aI, 0, .inl (fun _ => 0))), (q8, .inl (aI, 0, .inl (fun _ => 0))), (q9, .inl (aL, 0, .inr (.inl (fun _ => 0)))), (q10, .inl (aI, 0, .inl (fun _ => 0))), (q11, .inl (aI, 0, .inl (fun _ => 0))), (q12, .inl (aI, 0, .inl (fun _ => 0)))] := hD
  refine va_put (D := D) (ci := 5) (v := .ref q12) (ty := (.array .int)) (C := RX7) (T := TX7) (N := 17) hx hb hts n_X7_init_X7 tyX7 tyX7_ok nmX7 hown hK hP hD hS 0 rfl rfl 14 (by decide) (hts (.fieldLink RX7 44 "FaceMapModel$Net" "part" "[I") (List.mem_of_getElem? (i := 17) rfl)) (fun _ h9 => h9) rfl (by decide +kernel) rfl rfl (Nat.le_of_ble_eq_true rfl) dX7_init_85 (fun H locs hP hD hS => ?_)
  have hP : va_P D q_cl [(h0, .inr (5, [.ref q1, .ref q2, .int 0, .ref q3, .ref q4, .int 0, .ref q5, .ref q6, .ref q7, .ref q8, .ref q9, .ref q10, .ref q11, .int 0, .ref q12, .int 0, .null])), (q1, .inl (aI, 0, .inl (fun _ => 0))), (q2, .inl (aI, 0, .inl (fun _ => 0))), (q3, .inl (aI, 0, .inl (fun _ => 0))), (q4, .inl (aI, 0, .inl (fun _ => 0))), (q5, .inl (aI, 0, .inl (fun _ => 0))), (q6, .inl (aI, 0, .inl (fun _ => 0))), (q7, .inl (aI, 0, .inl (fun _ => 0))), (q8, .inl (aI, 0, .inl (fun _ => 0))), (q9, .inl (aL, 0, .inr (.inl (fun _ => 0)))), (q10, .inl (aI, 0, .inl (fun _ => 0))), (q11, .inl (aI, 0, .inl (fun _ => 0))), (q12, .inl (aI, 0, .inl (fun _ => 0)))] H := hP
  have hD : va_D A [(h0, .inr (5, [.ref q1, .ref q2, .int 0, .ref q3, .ref q4, .int 0, .ref q5, .ref q6, .ref q7, .ref q8, .ref q9, .ref q10, .ref q11, .int 0, .ref q12, .int 0, .null])), (q1, .inl (aI, 0, .inl (fun _ => 0))), (q2, .inl (aI, 0, .inl (fun _ => 0))), (q3, .inl (aI, 0, .inl (fun _ => 0))), (q4, .inl (aI, 0, .inl (fun _ => 0))), (q5, .inl (aI, 0, .inl (fun _ => 0))), (q6, .inl (aI, 0, .inl (fun _ => 0))), (q7, .inl (aI, 0, .inl (fun _ => 0))), (q8, .inl (aI, 0, .inl (fun _ => 0))), (q9, .inl (aL, 0, .inr (.inl (fun _ => 0)))), (q10, .inl (aI, 0, .inl (fun _ => 0))), (q11, .inl (aI, 0, .inl (fun _ => 0))), (q12, .inl (aI, 0, .inl (fun _ => 0)))] := hD
  refine lv_aload_n hx hb dX7_init_88 rfl (lv_at hl 0 rfl) ?_
  refine lv_iconst (v := 0) hx hb dX7_init_89 (by decide) ?_
  refine q_newZ 0 hx hb (hts (.arrayClass .boolean) (List.mem_of_getElem? (i := 18) rfl)) hK hP hD hS hA 2 rfl (by decide) (by decide) (by decide) (Nat.le_of_ble_eq_true rfl) (Nat.le_of_ble_eq_true rfl) dX7_init_90 (fun q13 H hP hD hS => ?_)
  have hP : va_P D q_cl [(h0, .inr (5, [.ref q1, .ref q2, .int 0, .ref q3, .ref q4, .int 0, .ref q5, .ref q6, .ref q7, .ref q8, .ref q9, .ref q10, .ref q11, .int 0, .ref q12, .int 0, .null])), (q1, .inl (aI, 0, .inl (fun _ => 0))), (q2, .inl (aI, 0, .inl (fun _ => 0))), (q3, .inl (aI, 0, .inl (fun _ => 0))), (q4, .inl (aI, 0, .inl (fun _ => 0))), (q5, .inl (aI, 0, .inl (fun _ => 0))), (q6, .inl (aI, 0, .inl (fun _ => 0))), (q7, .inl (aI, 0, .inl (fun _ => 0))), (q8, .inl (aI, 0, .inl (fun _ => 0))), (q9, .inl (aL, 0, .inr (.inl (fun _ => 0)))), (q10, .inl (aI, 0, .inl (fun _ => 0))), (q11, .inl (aI, 0, .inl (fun _ => 0))), (q12, .inl (aI, 0, .inl (fun _ => 0))), (q13, .inl (aZ, 0, .inl (fun _ => 0)))] H := hP
  have hD : va_D A [(h0, .inr (5, [.ref q1, .ref q2, .int 0, .ref q3, .ref q4, .int 0, .ref q5, .ref q6, .ref q7, .ref q8, .ref q9, .ref q10, .ref q11, .int 0, .ref q12, .int 0, .null])), (q1, .inl (aI, 0, .inl (fun _ => 0))), (q2, .inl (aI, 0, .inl (fun _ => 0))), (q3, .inl (aI, 0, .inl (fun _ => 0))), (q4, .inl (aI, 0, .inl (fun _ => 0))), (q5, .inl (aI, 0, .inl (fun _ => 0))), (q6, .inl (aI, 0, .inl (fun _ => 0))), (q7, .inl (aI, 0, .inl (fun _ => 0))), (q8, .inl (aI, 0, .inl (fun _ => 0))), (q9, .inl (aL, 0, .inr (.inl (fun _ => 0)))), (q10, .inl (aI, 0, .inl (fun _ => 0))), (q11, .inl (aI, 0, .inl (fun _ => 0))), (q12, .inl (aI, 0, .inl (fun _ => 0))), (q13, .inl (aZ, 0, .inl (fun _ => 0)))] := hD
  refine va_put (D := D) (ci := 5) (v := .ref q13) (ty := (.array .boolean)) (C := RX7) (T := TX7) (N := 17) hx hb hts n_X7_init_X7 tyX7 tyX7_ok nmX7 hown hK hP hD hS 0 rfl rfl 16 (by decide) (hts (.fieldLink RX7 47 "FaceMapModel$Net" "odd" "[Z") (List.mem_of_getElem? (i := 19) rfl)) (fun _ h9 => h9) rfl (by decide +kernel) rfl rfl (Nat.le_of_ble_eq_true rfl) dX7_init_92 (fun H locs hP hD hS => ?_)
  have hP : va_P D q_cl [(h0, .inr (5, [.ref q1, .ref q2, .int 0, .ref q3, .ref q4, .int 0, .ref q5, .ref q6, .ref q7, .ref q8, .ref q9, .ref q10, .ref q11, .int 0, .ref q12, .int 0, .ref q13])), (q1, .inl (aI, 0, .inl (fun _ => 0))), (q2, .inl (aI, 0, .inl (fun _ => 0))), (q3, .inl (aI, 0, .inl (fun _ => 0))), (q4, .inl (aI, 0, .inl (fun _ => 0))), (q5, .inl (aI, 0, .inl (fun _ => 0))), (q6, .inl (aI, 0, .inl (fun _ => 0))), (q7, .inl (aI, 0, .inl (fun _ => 0))), (q8, .inl (aI, 0, .inl (fun _ => 0))), (q9, .inl (aL, 0, .inr (.inl (fun _ => 0)))), (q10, .inl (aI, 0, .inl (fun _ => 0))), (q11, .inl (aI, 0, .inl (fun _ => 0))), (q12, .inl (aI, 0, .inl (fun _ => 0))), (q13, .inl (aZ, 0, .inl (fun _ => 0)))] H := hP
  have hD : va_D A [(h0, .inr (5, [.ref q1, .ref q2, .int 0, .ref q3, .ref q4, .int 0, .ref q5, .ref q6, .ref q7, .ref q8, .ref q9, .ref q10, .ref q11, .int 0, .ref q12, .int 0, .ref q13])), (q1, .inl (aI, 0, .inl (fun _ => 0))), (q2, .inl (aI, 0, .inl (fun _ => 0))), (q3, .inl (aI, 0, .inl (fun _ => 0))), (q4, .inl (aI, 0, .inl (fun _ => 0))), (q5, .inl (aI, 0, .inl (fun _ => 0))), (q6, .inl (aI, 0, .inl (fun _ => 0))), (q7, .inl (aI, 0, .inl (fun _ => 0))), (q8, .inl (aI, 0, .inl (fun _ => 0))), (q9, .inl (aL, 0, .inr (.inl (fun _ => 0)))), (q10, .inl (aI, 0, .inl (fun _ => 0))), (q11, .inl (aI, 0, .inl (fun _ => 0))), (q12, .inl (aI, 0, .inl (fun _ => 0))), (q13, .inl (aZ, 0, .inl (fun _ => 0)))] := hD
  have hP9 := hP.sub (ws' := [(h0, .inr (5, [.ref q1, .ref q2, .int 0, .ref q3, .ref q4, .int 0, .ref q5, .ref q6, .ref q7, .ref q8, .ref q9, .ref q10, .ref q11, .int 0, .ref q12, .int 0, .ref q13])), (q1, .inl (aI, 0, .inl (fun _ => 0))), (q3, .inl (aI, 0, .inl (fun _ => 0)))]) [0, 1, 3] rfl
  have hD9 := hD.sub (ws' := [(h0, .inr (5, [.ref q1, .ref q2, .int 0, .ref q3, .ref q4, .int 0, .ref q5, .ref q6, .ref q7, .ref q8, .ref q9, .ref q10, .ref q11, .int 0, .ref q12, .int 0, .ref q13])), (q1, .inl (aI, 0, .inl (fun _ => 0))), (q3, .inl (aI, 0, .inl (fun _ => 0)))]) [0, 1, 3] (by decide) rfl
  exact q_retv (q1, q2, q3, q4, q5, q6, q7, q8, q9, q10, q11, q12, q13) hx hb hr hlocks hK hP9 hD9 hS (Nat.le_of_ble_eq_true rfl) (Nat.le_of_ble_eq_true rfl) (trivial) dX7_init_95
def vsX8_init : List Cond := .code yX8_init cX8_init 1 none :: ([.methodLink RX8 1 objectInit, .instanceMethod objectInit, .code objectInit ⟨#[0xb1]⟩ 1 none, .arrayClass .long, .fieldLink RX8 7 "FaceMapModel$Places" "row" "[J"] ++ wsX80)
set_option maxRecDepth 20000 in
theorem n_X8_init_X8 : ∀ w ∈ wsX80, w ∈ vsX8_init := fun _ h => List.mem_cons_of_mem _ (List.mem_append_right _ h)
set_option maxHeartbeats 4000000 in
set_option maxRecDepth 100000 in
/-- Places() -/
theorem c_X8_init (l : Launch) (D : va_G) (aI aL aZ : ClassId) (h0 : Nat) (sz : Nat) : MV l D q_cl (q_ty aI aL aZ) yX8_init vsX8_init 1 1 64 [.ref h0] [(h0, .inr (6, [.null, .int 0]))] sz (fun (u : Nat) => True) (fun (u : Nat) => [(h0, .inr (6, [.ref u, .int 0]))]) := by
  refine q_in cX8_init 1 none (qQv D q_cl (q_ty aI aL aZ) _ _) (by decide) rfl (Nat.le_of_ble_eq_true rfl) ?_
  intro p e s m args below meth c A ls hat hP hD hS hl
  obtain ⟨hx, hb, hr, hts, hown, hlocks, hml, hin, hK, hN, hA⟩ := hat
  have hown : s.vm.findClass RX8 = some m.cls := hown
  have hl : lv_has ls 1 [(0, .ref h0)] := hl
  refine lv_aload_n hx hb dX8_init_0 rfl (lv_at hl 0 rfl) ?_
  refine W.objInit hx hb hown (hts (.methodLink RX8 1 objectInit) (List.mem_of_getElem? (i := 1) rfl)) (hts (.instanceMethod objectInit) (List.mem_of_getElem? (i := 2) rfl)) (hts (.code objectInit ⟨#[0xb1]⟩ 1 none) (List.mem_of_getElem? (i := 3) rfl)) rfl (by rw [hml]; exact hl.1) rfl dX8_init_1 (Nat.le_of_ble_eq_true rfl) (Nat.le_of_ble_eq_true rfl) ?_
  refine W.eq (g2 := F0 m 4 ls []) rfl ?_
  refine lv_aload_n hx hb dX8_init_4 rfl (lv_at hl 0 rfl) ?_
  refine lv_bipush (v := 64) hx hb dX8_init_5 (by decide) ?_
  refine q_newL 64 hx hb (hts (.arrayClass .long) (List.mem_of_getElem? (i := 4) rfl)) hK hP hD hS hA 1 rfl (by decide) (by decide) (by decide) (Nat.le_of_ble_eq_true rfl) (Nat.le_of_ble_eq_true rfl) dX8_init_7 (fun q1 H hP hD hS => ?_)
  have hP : va_P D q_cl [(h0, .inr (6, [.null, .int 0])), (q1, .inl (aL, 64, .inr (.inl (fun _ => 0))))] H := hP
  have hD : va_D A [(h0, .inr (6, [.null, .int 0])), (q1, .inl (aL, 64, .inr (.inl (fun _ => 0))))] := hD
  refine va_put (D := D) (ci := 6) (v := .ref q1) (ty := (.array .long)) (C := RX8) (T := TX8) (N := 2) hx hb hts n_X8_init_X8 tyX8 tyX8_ok nmX8 hown hK hP hD hS 0 rfl rfl 0 (by decide) (hts (.fieldLink RX8 7 "FaceMapModel$Places" "row" "[J") (List.mem_of_getElem? (i := 5) rfl)) (fun _ h9 => h9) rfl (by decide +kernel) rfl rfl (Nat.le_of_ble_eq_true rfl) dX8_init_9 (fun H locs hP hD hS => ?_)
  have hP : va_P D q_cl [(h0, .inr (6, [.ref q1, .int 0])), (q1, .inl (aL, 64, .inr (.inl (fun _ => 0))))] H := hP
  have hD : va_D A [(h0, .inr (6, [.ref q1, .int 0])), (q1, .inl (aL, 64, .inr (.inl (fun _ => 0))))] := hD
  have hP9 := hP.sub (ws' := [(h0, .inr (6, [.ref q1, .int 0]))]) [0] rfl
  have hD9 := hD.sub (ws' := [(h0, .inr (6, [.ref q1, .int 0]))]) [0] (by decide) rfl
  exact q_retv (q1) hx hb hr hlocks hK hP9 hD9 hS (Nat.le_of_ble_eq_true rfl) (Nat.le_of_ble_eq_true rfl) (trivial) dX8_init_12
def vsX9_init : List Cond := .code yX9_init cX9_init 1 none :: ([.methodLink RX9 28 objectInit, .instanceMethod objectInit, .code objectInit ⟨#[0xb1]⟩ 1 none, .arrayClass .int, .fieldLink RX9 34 "FaceMapModel" "ends" "[I", .classLink RX9 38 RX7, .instantiable RX7 17, .initialized RX7, .instanceMethod yX7_init, .fieldLink RX9 41 "FaceMapModel" "net" "LFaceMapModel$Net;", .classLink RX9 45 RX8, .instantiable RX8 2, .initialized RX8, .instanceMethod yX8_init, .fieldLink RX9 48 "FaceMapModel" "nodes" "LFaceMapModel$Places;", .code yX7_init cX7_init 1 none, .methodLink RX7 1 objectInit, .fieldLink RX7 7 "FaceMapModel$Net" "x" "[I", .fieldLink RX7 13 "FaceMapModel$Net" "y" "[I", .fieldLink RX7 16 "FaceMapModel$Net" "low" "[I", .fieldLink RX7 19 "FaceMapModel$Net" "high" "[I", .fieldLink RX7 22 "FaceMapModel$Net" "begins" "[I", .fieldLink RX7 25 "FaceMapModel$Net" "out" "[I", .fieldLink RX7 28 "FaceMapModel$Net" "rank" "[I", .fieldLink RX7 31 "FaceMapModel$Net" "round" "[I", .arrayClass .long, .fieldLink RX7 34 "FaceMapModel$Net" "area" "[J", .fieldLink RX7 38 "FaceMapModel$Net" "least" "[I", .fieldLink RX7 41 "FaceMapModel$Net" "faceOf" "[I", .fieldLink RX7 44 "FaceMapModel$Net" "part" "[I", .arrayClass .boolean, .fieldLink RX7 47 "FaceMapModel$Net" "odd" "[Z", .code yX8_init cX8_init 1 none, .methodLink RX8 1 objectInit, .fieldLink RX8 7 "FaceMapModel$Places" "row" "[J"] ++ wsX90 ++ wsX70 ++ wsX80)
set_option maxRecDepth 20000 in
theorem n_X9_init_X9 : ∀ w ∈ wsX90, w ∈ vsX9_init := fun _ h => List.mem_cons_of_mem _ (List.mem_append_left _ (List.mem_append_left _ (List.mem_append_right _ h)))
set_option maxRecDepth 20000 in
theorem n_X9_init_X7 : ∀ w ∈ wsX70, w ∈ vsX9_init := fun _ h => List.mem_cons_of_mem _ (List.mem_append_left _ (List.mem_append_right _ h))
set_option maxRecDepth 20000 in
theorem g_X9_init_X7_init_40 : GoodIn vsX9_init vsX7_init := goodIn_r _ [16, 17, 2, 3, 4, 18, 19, 20, 21, 22, 23, 24, 25, 26, 27, 28, 29, 30, 31, 32, 41, 42, 43, 44, 45, 46, 47, 48, 49, 50, 51, 52, 53, 54, 55, 56, 57] rfl (by decide +kernel)
set_option maxRecDepth 20000 in
theorem n_X9_init_X8 : ∀ w ∈ wsX80, w ∈ vsX9_init := fun _ h => List.mem_cons_of_mem _ (List.mem_append_right _ h)
set_option maxRecDepth 20000 in
theorem g_X9_init_X8_init_47 : GoodIn vsX9_init vsX8_init := goodIn_r _ [33, 34, 2, 3, 26, 35, 58, 59] rfl (by decide +kernel)
set_option maxHeartbeats 4000000 in
set_option maxRecDepth 100000 in
/-- FaceMapModel() -/
theorem c_X9_init (l : Launch) (D : va_G) (aI aL aZ : ClassId) (h0 : Nat) (sz : Nat) : MV l D q_cl (q_ty aI aL aZ) yX9_init vsX9_init 2 17 6083 [.ref h0] [(h0, .inr (7, [.null, .int 0, .null, .null, .int 0]))] sz (fun (u : Nat × Nat × Nat × Nat × Nat × Nat × Nat × Nat × Nat × Nat × Nat × Nat × Nat × Nat × Nat × Nat × Nat) => True) (fun (u : Nat × Nat × Nat × Nat × Nat × Nat × Nat × Nat × Nat × Nat × Nat × Nat × Nat × Nat × Nat × Nat × Nat) => [(h0, .inr (7, [.ref u.1, .int 0, .ref u.2.1, .ref u.2.2.1, .int 0])), (u.1, .inl (aI, 6000, .inl (fun _ => 0))), (u.2.1, .inr (5, [.ref u.2.2.2.2.1, .ref u.2.2.2.2.2.1, .int 0, .ref u.2.2.2.2.2.2.1, .ref u.2.2.2.2.2.2.2.1, .int 0, .ref u.2.2.2.2.2.2.2.2.1, .ref u.2.2.2.2.2.2.2.2.2.1, .ref u.2.2.2.2.2.2.2.2.2.2.1, .ref u.2.2.2.2.2.2.2.2.2.2.2.1, .ref u.2.2.2.2.2.2.2.2.2.2.2.2.1, .ref u.2.2.2.2.2.2.2.2.2.2.2.2.2.1, .ref u.2.2.2.2.2.2.2.2.2.2.2.2.2.2.1, .int 0, .ref u.2.2.2.2.2.2.2.2.2.2.2.2.2.2.2.1, .int 0, .ref u.2.2.2.2.2.2.2.2.2.2.2.2.2.2.2.2])), (u.2.2.2.2.1, .inl (aI, 0, .inl (fun _ => 0))), (u.2.2.2.2.2.2.1, .inl (aI, 0, .inl (fun _ => 0))), (u.2.2.1, .inr (6, [.ref u.2.2.2.1, .int 0]))]) := by
  refine q_in cX9_init 1 none (qQv D q_cl (q_ty aI aL aZ) _ _) (by decide) rfl (Nat.le_of_ble_eq_true rfl) ?_
  intro p e s m args below meth c A ls hat hP hD hS hl
  obtain ⟨hx, hb, hr, hts, hown, hlocks, hml, hin, hK, hN, hA⟩ := hat
  have hown : s.vm.findClass RX9 = some m.cls := hown
  have hl : lv_has ls 1 [(0, .ref h0)] := hl
  refine lv_aload_n hx hb dX9_init_0 rfl (lv_at hl 0 rfl) ?_
  refine W.objInit hx hb hown (hts (.methodLink RX9 28 objectInit) (List.mem_of_getElem? (i := 1) rfl)) (hts (.instanceMethod objectInit) (List.mem_of_getElem? (i := 2) rfl)) (hts (.code objectInit ⟨#[0xb1]⟩ 1 none) (List.mem_of_getElem? (i := 3) rfl)) rfl (by rw [hml]; exact hl.1) rfl dX9_init_1 (Nat.le_of_ble_eq_true rfl) (Nat.le_of_ble_eq_true rfl) ?_
  refine W.eq (g2 := F0 m 4 ls []) rfl ?_
  refine lv_aload_n hx hb dX9_init_4 rfl (lv_at hl 0 rfl) ?_
  refine lv_sipush (v := 6000) hx hb dX9_init_5 (by decide) ?_
  refine q_newI 6000 hx hb (hts (.arrayClass .int) (List.mem_of_getElem? (i := 4) rfl)) hK hP hD hS hA 0 rfl (by decide) (by decide) (by decide) (Nat.le_of_ble_eq_true rfl) (Nat.le_of_ble_eq_true rfl) dX9_init_8 (fun q1 H hP hD hS => ?_)
  have hP : va_P D q_cl [(h0, .inr (7, [.null, .int 0, .null, .null, .int 0])), (q1, .inl (aI, 6000, .inl (fun _ => 0)))] H := hP
  have hD : va_D A [(h0, .inr (7, [.null, .int 0, .null, .null, .int 0])), (q1, .inl (aI, 6000, .inl (fun _ => 0)))] := hD
  refine va_putF (D := D) (ci := 7) (v := .ref q1) (ty := (.array .int)) (C := RX9) (T := TX9) (N := 5) hx hb hts n_X9_init_X9 tyX9 tyX9_ok nmX9 hown hK hP hD hS 0 rfl rfl 0 (by decide) (hts (.fieldLink RX9 34 "FaceMapModel" "ends" "[I") (List.mem_of_getElem? (i := 5) rfl)) (fun _ h9 => h9) rfl hin rfl (by decide +kernel) rfl rfl (Nat.le_of_ble_eq_true rfl) dX9_init_10 (fun H locs hP hD hS => ?_)
  have hP : va_P D q_cl [(h0, .inr (7, [.ref q1, .int 0, .null, .null, .int 0])), (q1, .inl (aI, 6000, .inl (fun _ => 0)))] H := hP
  have hD : va_D A [(h0, .inr (7, [.ref q1, .int 0, .null, .null, .int 0])), (q1, .inl (aI, 6000, .inl (fun _ => 0)))] := hD
  refine lv_aload_n hx hb dX9_init_13 rfl (lv_at hl 0 rfl) ?_
  refine va_new (ci := 5) (fs := [.null, .null, .int 0, .null, .null, .int 0, .null, .null, .null, .null, .null, .null, .null, .int 0, .null, .int 0, .null]) (C := RX7) (T := TX7) (N := 17) hx hb hts n_X9_init_X7 tyX7 tyX7_ok hown (hts (.classLink RX9 38 RX7) (List.mem_of_getElem? (i := 6) rfl)) (hts (.instantiable RX7 17) (List.mem_of_getElem? (i := 7) rfl)) (hts (.initialized RX7) (List.mem_of_getElem? (i := 8) rfl)) hK hP hD hS hA rfl (by decide +kernel) (Nat.le_of_ble_eq_true rfl) (Nat.le_of_ble_eq_true rfl) dX9_init_14 (fun q2 H hP hD hS => ?_)
  have hP : va_P D q_cl [(h0, .inr (7, [.ref q1, .int 0, .null, .null, .int 0])), (q1, .inl (aI, 6000, .inl (fun _ => 0))), (q2, .inr (5, [.null, .null, .int 0, .null, .null, .int 0, .null, .null, .null, .null, .null, .null, .null, .int 0, .null, .int 0, .null]))] H := hP
  have hD : va_D A [(h0, .inr (7, [.ref q1, .int 0, .null, .null, .int 0])), (q1, .inl (aI, 6000, .inl (fun _ => 0))), (q2, .inr (5, [.null, .null, .int 0, .null, .null, .int 0, .null, .null, .null, .null, .null, .null, .null, .int 0, .null, .int 0, .null]))] := hD
  refine lv_dup hx hb dX9_init_17 rfl ?_
  refine q_v (wr := [(h0, .inr (7, [.ref q1, .int 0, .null, .null, .int 0])), (q1, .inl (aI, 6000, .inl (fun _ => 0)))]) (q_runIN (As := []) (rest := [.ref q2, .ref h0]) ⟨hx, hb, hml, hown, hts⟩ (c_X7_init l D aI aL aZ q2 _) ⟨va_cnB 0 hts g_X9_init_X7_init_40 rfl rfl rfl hN.1 (hts (.initialized RX7) (List.mem_of_getElem? (i := 8) rfl)) (by decide +kernel) ⟨Nat.le_of_ble_eq_true rfl, Nat.le_of_ble_eq_true rfl⟩, rfl, (hts (.instanceMethod yX7_init) (List.mem_of_getElem? (i := 9) rfl))⟩ hK hN hP hD [2] rfl (by decide) rfl hl.1 rfl (Nat.le_of_ble_eq_true rfl) dX9_init_18 ⟨Nat.le_of_ble_eq_true rfl, Nat.le_of_ble_eq_true rfl⟩) hP hD hS hA [2] [0, 1] rfl rfl (by decide) (by decide) (fun u_3 H locs hw hP hD hS => ?_)
  obtain ⟨nx_3, ny_3, nl_3, nh_3, nb_3, no_3, nr_3, nd_3, na_3, ns_3, nf_3, np_3, nq_3⟩ := u_3
  have hP : va_P D q_cl [(h0, .inr (7, [.ref q1, .int 0, .null, .null, .int 0])), (q1, .inl (aI, 6000, .inl (fun _ => 0))), (q2, .inr (5, [.ref nx_3, .ref ny_3, .int 0, .ref nl_3, .ref nh_3, .int 0, .ref nb_3, .ref no_3, .ref nr_3, .ref nd_3, .ref na_3, .ref ns_3, .ref nf_3, .int 0, .ref np_3, .int 0, .ref nq_3])), (nx_3, .inl (aI, 0, .inl (fun _ => 0))), (nl_3, .inl (aI, 0, .inl (fun _ => 0)))] H := hP
  have hD : va_D A [(h0, .inr (7, [.ref q1, .int 0, .null, .null, .int 0])), (q1, .inl (aI, 6000, .inl (fun _ => 0))), (q2, .inr (5, [.ref nx_3, .ref ny_3, .int 0, .ref nl_3, .ref nh_3, .int 0, .ref nb_3, .ref no_3, .ref nr_3, .ref nd_3, .ref na_3, .ref ns_3, .ref nf_3, .int 0, .ref np_3, .int 0, .ref nq_3])), (nx_3, .inl (aI, 0, .inl (fun _ => 0))), (nl_3, .inl (aI, 0, .inl (fun _ => 0)))] := hD
  refine va_putF (D := D) (ci := 7) (v := .ref q2) (ty := (.object "FaceMapModel$Net")) (C := RX9) (T := TX9) (N := 5) hx hb hts n_X9_init_X9 tyX9 tyX9_ok nmX9 hown hK hP hD hS 0 rfl rfl 2 (by decide) (hts (.fieldLink RX9 41 "FaceMapModel" "net" "LFaceMapModel$Net;") (List.mem_of_getElem? (i := 10) rfl)) (fun _ h9 => h9) rfl hin rfl (by decide +kernel) rfl rfl (Nat.le_of_ble_eq_true rfl) dX9_init_21 (fun H locs hP hD hS => ?_)
  have hP : va_P D q_cl [(h0, .inr (7, [.ref q1, .int 0, .ref q2, .null, .int 0])), (q1, .inl (aI, 6000, .inl (fun _ => 0))), (q2, .inr (5, [.ref nx_3, .ref ny_3, .int 0, .ref nl_3, .ref nh_3, .int 0, .ref nb_3, .ref no_3, .ref nr_3, .ref nd_3, .ref na_3, .ref ns_3, .ref nf_3, .int 0, .ref np_3, .int 0, .ref nq_3])), (nx_3, .inl (aI, 0, .inl (fun _ => 0))), (nl_3, .inl (aI, 0, .inl (fun _ => 0)))] H := hP
  have hD : va_D A [(h0, .inr (7, [.ref q1, .int 0, .ref q2, .null, .int 0])), (q1, .inl (aI, 6000, .inl (fun _ => 0))), (q2, .inr (5, [.ref nx_3, .ref ny_3, .int 0, .ref nl_3, .ref nh_3, .int 0, .ref nb_3, .ref no_3, .ref nr_3, .ref nd_3, .ref na_3, .ref ns_3, .ref nf_3, .int 0, .ref np_3, .int 0, .ref nq_3])), (nx_3, .inl (aI, 0, .inl (fun _ => 0))), (nl_3, .inl (aI, 0, .inl (fun _ => 0)))] := hD
  refine lv_aload_n hx hb dX9_init_24 rfl (lv_at hl 0 rfl) ?_
  refine va_new (ci := 6) (fs := [.null, .int 0]) (C := RX8) (T := TX8) (N := 2) hx hb hts n_X9_init_X8 tyX8 tyX8_ok hown (hts (.classLink RX9 45 RX8) (List.mem_of_getElem? (i := 11) rfl)) (hts (.instantiable RX8 2) (List.mem_of_getElem? (i := 12) rfl)) (hts (.initialized RX8) (List.mem_of_getElem? (i := 13) rfl)) hK hP hD hS hA rfl (by decide +kernel) (Nat.le_of_ble_eq_true rfl) (Nat.le_of_ble_eq_true rfl) dX9_init_25 (fun q4 H hP hD hS => ?_)
  have hP : va_P D q_cl [(h0, .inr (7, [.ref q1, .int 0, .ref q2, .null, .int 0])), (q1, .inl (aI, 6000, .inl (fun _ => 0))), (q2, .inr (5, [.ref nx_3, .ref ny_3, .int 0, .ref nl_3, .ref nh_3, .int 0, .ref nb_3, .ref no_3, .ref nr_3, .ref nd_3, .ref na_3, .ref ns_3, .ref nf_3, .int 0, .ref np_3, .int 0, .ref nq_3])), (nx_3, .inl (aI, 0, .inl (fun _ => 0))), (nl_3, .inl (aI, 0, .inl (fun _ => 0))), (q4, .inr (6, [.null, .int 0]))] H := hP
  have hD : va_D A [(h0, .inr (7, [.ref q1, .int 0, .ref q2, .null, .int 0])), (q1, .inl (aI, 6000, .inl (fun _ => 0))), (q2, .inr (5, [.ref nx_3, .ref ny_3, .int 0, .ref nl_3, .ref nh_3, .int 0, .ref nb_3, .ref no_3, .ref nr_3, .ref nd_3, .ref na_3, .ref ns_3, .ref nf_3, .int 0, .ref np_3, .int 0, .ref nq_3])), (nx_3, .inl (aI, 0, .inl (fun _ => 0))), (nl_3, .inl (aI, 0, .inl (fun _ => 0))), (q4, .inr (6, [.null, .int 0]))] := hD
  refine lv_dup hx hb dX9_init_28 rfl ?_
  refine q_v (wr := [(h0, .inr (7, [.ref q1, .int 0, .ref q2, .null, .int 0])), (q1, .inl (aI, 6000, .inl (fun _ => 0))), (q2, .inr (5, [.ref nx_3, .ref ny_3, .int 0, .ref nl_3, .ref nh_3, .int 0, .ref nb_3, .ref no_3, .ref nr_3, .ref nd_3, .ref na_3, .ref ns_3, .ref nf_3, .int 0, .ref np_3, .int 0, .ref nq_3])), (nx_3, .inl (aI, 0, .inl (fun _ => 0))), (nl_3, .inl (aI, 0, .inl (fun _ => 0)))]) (q_runIN (As := []) (rest := [.ref q4, .ref h0]) ⟨hx, hb, hml, hown, hts⟩ (c_X8_init l D aI aL aZ q4 _) ⟨va_cnB 0 hts g_X9_init_X8_init_47 rfl rfl rfl hN.2 (hts (.initialized RX8) (List.mem_of_getElem? (i := 13) rfl)) (by decide +kernel) ⟨Nat.le_of_ble_eq_true rfl, Nat.le_of_ble_eq_true rfl⟩, rfl, (hts (.instanceMethod yX8_init) (List.mem_of_getElem? (i := 14) rfl))⟩ hK hN hP hD [5] rfl (by decide) rfl hl.1 rfl (Nat.le_of_ble_eq_true rfl) dX9_init_29 ⟨Nat.le_of_ble_eq_true rfl, Nat.le_of_ble_eq_true rfl⟩) hP hD hS hA [5] [0, 1, 2, 3, 4] rfl rfl (by decide) (by decide) (fun u_5 H locs hw hP hD hS => ?_)
  have hP : va_P D q_cl [(h0, .inr (7, [.ref q1, .int 0, .ref q2, .null, .int 0])), (q1, .inl (aI, 6000, .inl (fun _ => 0))), (q2, .inr (5, [.ref nx_3, .ref ny_3, .int 0, .ref nl_3, .ref nh_3, .int 0, .ref nb_3, .ref no_3, .ref nr_3, .ref nd_3, .ref na_3, .ref ns_3, .ref nf_3, .int 0, .ref np_3, .int 0, .ref nq_3])), (nx_3, .inl (aI, 0, .inl (fun _ => 0))), (nl_3, .inl (aI, 0, .inl (fun _ => 0))), (q4, .inr (6, [.ref u_5, .int 0]))] H := hP
  have hD : va_D A [(h0, .inr (7, [.ref q1, .int 0, .ref q2, .null, .int 0])), (q1, .inl (aI, 6000, .inl (fun _ => 0))), (q2, .inr (5, [.ref nx_3, .ref ny_3, .int 0, .ref nl_3, .ref nh_3, .int 0, .ref nb_3, .ref no_3, .ref nr_3, .ref nd_3, .ref na_3, .ref ns_3, .ref nf_3, .int 0, .ref np_3, .int 0, .ref nq_3])), (nx_3, .inl (aI, 0, .inl (fun _ => 0))), (nl_3, .inl (aI, 0, .inl (fun _ => 0))), (q4, .inr (6, [.ref u_5, .int 0]))] := hD
  refine va_putF (D := D) (ci := 7) (v := .ref q4) (ty := (.object "FaceMapModel$Places")) (C := RX9) (T := TX9) (N := 5) hx hb hts n_X9_init_X9 tyX9 tyX9_ok nmX9 hown hK hP hD hS 0 rfl rfl 3 (by decide) (hts (.fieldLink RX9 48 "FaceMapModel" "nodes" "LFaceMapModel$Places;") (List.mem_of_getElem? (i := 15) rfl)) (fun _ h9 => h9) rfl hin rfl (by decide +kernel) rfl rfl (Nat.le_of_ble_eq_true rfl) dX9_init_32 (fun H locs hP hD hS => ?_)
  have hP : va_P D q_cl [(h0, .inr (7, [.ref q1, .int 0, .ref q2, .ref q4, .int 0])), (q1, .inl (aI, 6000, .inl (fun _ => 0))), (q2, .inr (5, [.ref nx_3, .ref ny_3, .int 0, .ref nl_3, .ref nh_3, .int 0, .ref nb_3, .ref no_3, .ref nr_3, .ref nd_3, .ref na_3, .ref ns_3, .ref nf_3, .int 0, .ref np_3, .int 0, .ref nq_3])), (nx_3, .inl (aI, 0, .inl (fun _ => 0))), (nl_3, .inl (aI, 0, .inl (fun _ => 0))), (q4, .inr (6, [.ref u_5, .int 0]))] H := hP
  have hD : va_D A [(h0, .inr (7, [.ref q1, .int 0, .ref q2, .ref q4, .int 0])), (q1, .inl (aI, 6000, .inl (fun _ => 0))), (q2, .inr (5, [.ref nx_3, .ref ny_3, .int 0, .ref nl_3, .ref nh_3, .int 0, .ref nb_3, .ref no_3, .ref nr_3, .ref nd_3, .ref na_3, .ref ns_3, .ref nf_3, .int 0, .ref np_3, .int 0, .ref nq_3])), (nx_3, .inl (aI, 0, .inl (fun _ => 0))), (nl_3, .inl (aI, 0, .inl (fun _ => 0))), (q4, .inr (6, [.ref u_5, .int 0]))] := hD
  have hP9 := hP.sub (ws' := [(h0, .inr (7, [.ref q1, .int 0, .ref q2, .ref q4, .int 0])), (q1, .inl (aI, 6000, .inl (fun _ => 0))), (q2, .inr (5, [.ref nx_3, .ref ny_3, .int 0, .ref nl_3, .ref nh_3, .int 0, .ref nb_3, .ref no_3, .ref nr_3, .ref nd_3, .ref na_3, .ref ns_3, .ref nf_3, .int 0, .ref np_3, .int 0, .ref nq_3])), (nx_3, .inl (aI, 0, .inl (fun _ => 0))), (nl_3, .inl (aI, 0, .inl (fun _ => 0))), (q4, .inr (6, [.ref u_5, .int 0]))]) [0, 1, 2, 3, 4, 5] rfl
  have hD9 := hD.sub (ws' := [(h0, .inr (7, [.ref q1, .int 0, .ref q2, .ref q4, .int 0])), (q1, .inl (aI, 6000, .inl (fun _ => 0))), (q2, .inr (5, [.ref nx_3, .ref ny_3, .int 0, .ref nl_3, .ref nh_3, .int 0, .ref nb_3, .ref no_3, .ref nr_3, .ref nd_3, .ref na_3, .ref ns_3, .ref nf_3, .int 0, .ref np_3, .int 0, .ref nq_3])), (nx_3, .inl (aI, 0, .inl (fun _ => 0))), (nl_3, .inl (aI, 0, .inl (fun _ => 0))), (q4, .inr (6, [.ref u_5, .int 0]))]) [0, 1, 2, 3, 4, 5] (by decide) rfl
  exact q_retv (q1, q2, q4, u_5, nx_3, ny_3, nl_3, nh_3, nb_3, no_3, nr_3, nd_3, na_3, ns_3, nf_3, np_3, nq_3) hx hb hr hlocks hK hP9 hD9 hS (Nat.le_of_ble_eq_true rfl) (Nat.le_of_ble_eq_true rfl) (trivial) dX9_init_35
def vsX8_clear : List Cond := .code yX8_clear cX8_clear 1 none :: ([.fieldLink RX8 13 "FaceMapModel$Places" "size" "I"] ++ wsX80)
set_option maxRecDepth 20000 in
theorem n_X8_clear_X8 : ∀ w ∈ wsX80, w ∈ vsX8_clear := fun _ h => List.mem_cons_of_mem _ (List.mem_append_right _ h)
set_option maxHeartbeats 4000000 in
set_option maxRecDepth 100000 in
/-- Places.clear -/
theorem c_X8_clear (l : Launch) (D : va_G) (aI aL aZ : ClassId) (h0 : Nat) (row : Nat) (sz : Nat) : MV l D q_cl (q_ty aI aL aZ) yX8_clear vsX8_clear 0 0 0 [.ref h0] [(h0, .inr (6, [.ref row, .int 0]))] sz (fun (u : Unit) => True) (fun (u : Unit) => [(h0, .inr (6, [.ref row, .int 0]))]) := by
  refine q_in cX8_clear 1 none (qQv D q_cl (q_ty aI aL aZ) _ _) (by decide) rfl (Nat.le_of_ble_eq_true rfl) ?_
  intro p e s m args below meth c A ls hat hP hD hS hl
  obtain ⟨hx, hb, hr, hts, hown, hlocks, hml, hin, hK, hN, hA⟩ := hat
  have hown : s.vm.findClass RX8 = some m.cls := hown
  have hl : lv_has ls 1 [(0, .ref h0)] := hl
  refine lv_aload_n hx hb dX8_clear_0 rfl (lv_at hl 0 rfl) ?_
  refine lv_iconst (v := 0) hx hb dX8_clear_1 (by decide) ?_
  refine va_put (D := D) (ci := 6) (v := .int 0) (ty := .int) (C := RX8) (T := TX8) (N := 2) hx hb hts n_X8_clear_X8 tyX8 tyX8_ok nmX8 hown hK hP hD hS 0 rfl rfl 1 (by decide) (hts (.fieldLink RX8 13 "FaceMapModel$Places" "size" "I") (List.mem_of_getElem? (i := 1) rfl)) (fun _ h9 => h9) rfl (by decide +kernel) rfl rfl (Nat.le_of_ble_eq_true rfl) dX8_clear_2 (fun H locs hP hD hS => ?_)
  have hP : va_P D q_cl [(h0, .inr (6, [.ref row, .int 0]))] H := hP
  have hD : va_D A [(h0, .inr (6, [.ref row, .int 0]))] := hD
  have hP9 := hP.sub (ws' := [(h0, .inr (6, [.ref row, .int 0]))]) [0] rfl
  have hD9 := hD.sub (ws' := [(h0, .inr (6, [.ref row, .int 0]))]) [0] (by decide) rfl
  exact q_retv () hx hb hr hlocks hK hP9 hD9 hS (Nat.le_of_ble_eq_true rfl) (Nat.le_of_ble_eq_true rfl) (trivial) dX8_clear_5
def vsX8_sort : List Cond := .code yX8_sort cX8_sort 4 none :: ([.fieldLink RX8 13 "FaceMapModel$Places" "size" "I"] ++ wsX80)
set_option maxRecDepth 20000 in
theorem n_X8_sort_X8 : ∀ w ∈ wsX80, w ∈ vsX8_sort := fun _ h => List.mem_cons_of_mem _ (List.mem_append_right _ h)
set_option maxHeartbeats 4000000 in
set_option maxRecDepth 100000 in
/-- Places.sort of none -/
theorem c_X8_sort (l : Launch) (D : va_G) (aI aL aZ : ClassId) (h0 : Nat) (row : Nat) (sz : Nat) : MV l D q_cl (q_ty aI aL aZ) yX8_sort vsX8_sort 0 0 0 [.ref h0] [(h0, .inr (6, [.ref row, .int 0]))] sz (fun (u : Unit) => True) (fun (u : Unit) => [(h0, .inr (6, [.ref row, .int 0]))]) := by
  refine q_in cX8_sort 4 none (qQv D q_cl (q_ty aI aL aZ) _ _) (by decide) rfl (Nat.le_of_ble_eq_true rfl) ?_
  intro p e s m args below meth c A ls hat hP hD hS hl
  obtain ⟨hx, hb, hr, hts, hown, hlocks, hml, hin, hK, hN, hA⟩ := hat
  have hown : s.vm.findClass RX8 = some m.cls := hown
  have hl : lv_has ls 4 [(0, .ref h0)] := hl
  refine lv_aload_n hx hb dX8_sort_0 rfl (lv_at hl 0 rfl) ?_
  refine va_get (D := D) (ci := 6) (v := .int 0) (C := RX8) (T := TX8) (N := 2) hx hb hts n_X8_sort_X8 hown hK hP 0 rfl rfl 1 (by decide) (hts (.fieldLink RX8 13 "FaceMapModel$Places" "size" "I") (List.mem_of_getElem? (i := 1) rfl)) (fun _ h9 => h9) rfl dX8_sort_1 ?_
  refine lv_iconst (v := 2) hx hb dX8_sort_4 (by decide) ?_
  refine lv_idiv hx hb dX8_sort_5 (by decide) ?_
  refine q_vi (v := 0) (by decide) ?_
  refine lv_iconst (v := 1) hx hb dX8_sort_6 (by decide) ?_
  refine lv_isub hx hb dX8_sort_7 ?_
  refine q_vi (v := (-1)) (by decide) ?_
  refine lv_istore_n (lv' := [(1, .int (-1)), (0, .ref h0)]) hx hb dX8_sort_8 rfl hl (by decide) rfl (fun ls hl => ?_)
  refine lv_iload_n hx hb dX8_sort_9 rfl (lv_at hl 0 rfl) ?_
  refine lv_if_lt (tgt := 28) hx hb dX8_sort_10 (by decide) (fun c_1 => ?_) (fun c_1 => ?_)
  · refine lv_aload_n hx hb dX8_sort_28 rfl (lv_at hl 1 rfl) ?_
    refine va_get (D := D) (ci := 6) (v := .int 0) (C := RX8) (T := TX8) (N := 2) hx hb hts n_X8_sort_X8 hown hK hP 0 rfl rfl 1 (by decide) (hts (.fieldLink RX8 13 "FaceMapModel$Places" "size" "I") (List.mem_of_getElem? (i := 1) rfl)) (fun _ h9 => h9) rfl dX8_sort_29 ?_
    refine lv_iconst (v := 1) hx hb dX8_sort_32 (by decide) ?_
    refine lv_isub hx hb dX8_sort_33 ?_
    refine q_vi (v := (-1)) (by decide) ?_
    refine lv_istore_n (lv' := [(1, .int (-1)), (0, .ref h0)]) hx hb dX8_sort_34 rfl hl (by decide) rfl (fun ls hl => ?_)
    refine lv_iload_n hx hb dX8_sort_35 rfl (lv_at hl 0 rfl) ?_
    refine lv_if_le (tgt := 77) hx hb dX8_sort_36 (by decide) (fun c_2 => ?_) (fun c_2 => ?_)
    · refine lv_iconst (v := 0) hx hb dX8_sort_77 (by decide) ?_
      refine lv_istore_n (lv' := [(1, .int 0), (0, .ref h0)]) hx hb dX8_sort_78 rfl hl (by decide) rfl (fun ls hl => ?_)
      refine lv_iconst (v := 0) hx hb dX8_sort_79 (by decide) ?_
      refine lv_istore_n (lv' := [(2, .int 0), (1, .int 0), (0, .ref h0)]) hx hb dX8_sort_80 rfl hl (by decide) rfl (fun ls hl => ?_)
      refine lv_iload_n hx hb dX8_sort_81 rfl (lv_at hl 0 rfl) ?_
      refine lv_aload_n hx hb dX8_sort_82 rfl (lv_at hl 2 rfl) ?_
      refine va_get (D := D) (ci := 6) (v := .int 0) (C := RX8) (T := TX8) (N := 2) hx hb hts n_X8_sort_X8 hown hK hP 0 rfl rfl 1 (by decide) (hts (.fieldLink RX8 13 "FaceMapModel$Places" "size" "I") (List.mem_of_getElem? (i := 1) rfl)) (fun _ h9 => h9) rfl dX8_sort_83 ?_
      refine lv_icmp_ge (tgt := 135) hx hb dX8_sort_86 (by decide) (fun c_3 => ?_) (fun c_3 => ?_)
      · refine lv_aload_n hx hb dX8_sort_135 rfl (lv_at hl 2 rfl) ?_
        refine lv_iload_n hx hb dX8_sort_136 rfl (lv_at hl 1 rfl) ?_
        refine va_put (D := D) (ci := 6) (v := .int 0) (ty := .int) (C := RX8) (T := TX8) (N := 2) hx hb hts n_X8_sort_X8 tyX8 tyX8_ok nmX8 hown hK hP hD hS 0 rfl rfl 1 (by decide) (hts (.fieldLink RX8 13 "FaceMapModel$Places" "size" "I") (List.mem_of_getElem? (i := 1) rfl)) (fun _ h9 => h9) rfl (by decide +kernel) rfl rfl (Nat.le_of_ble_eq_true rfl) dX8_sort_137 (fun H locs hP hD hS => ?_)
        have hP : va_P D q_cl [(h0, .inr (6, [.ref row, .int 0]))] H := hP
        have hD : va_D A [(h0, .inr (6, [.ref row, .int 0]))] := hD
        have hP9 := hP.sub (ws' := [(h0, .inr (6, [.ref row, .int 0]))]) [0] rfl
        have hD9 := hD.sub (ws' := [(h0, .inr (6, [.ref row, .int 0]))]) [0] (by decide) rfl
        exact q_retv () hx hb hr hlocks hK hP9 hD9 hS (Nat.le_of_ble_eq_true rfl) (Nat.le_of_ble_eq_true rfl) (trivial) dX8_sort_140
      · exact absurd c_3 (by decide)
    · exact absurd c_2 (by decide)
  · exact absurd c_1 (by decide)
def vsX7_room : List Cond := .code yX7_room cX7_room 3 none :: ([.fieldLink RX7 7 "FaceMapModel$Net" "x" "[I", .arrayClass .int, .fieldLink RX7 13 "FaceMapModel$Net" "y" "[I", .fieldLink RX7 22 "FaceMapModel$Net" "begins" "[I", .fieldLink RX7 44 "FaceMapModel$Net" "part" "[I", .fieldLink RX7 16 "FaceMapModel$Net" "low" "[I", .fieldLink RX7 19 "FaceMapModel$Net" "high" "[I", .fieldLink RX7 25 "FaceMapModel$Net" "out" "[I", .fieldLink RX7 28 "FaceMapModel$Net" "rank" "[I", .fieldLink RX7 31 "FaceMapModel$Net" "round" "[I", .arrayClass .long, .fieldLink RX7 34 "FaceMapModel$Net" "area" "[J", .fieldLink RX7 38 "FaceMapModel$Net" "least" "[I", .fieldLink RX7 41 "FaceMapModel$Net" "faceOf" "[I", .arrayClass .boolean, .fieldLink RX7 47 "FaceMapModel$Net" "odd" "[Z"] ++ wsX70)
set_option maxRecDepth 20000 in
theorem n_X7_room_X7 : ∀ w ∈ wsX70, w ∈ vsX7_room := fun _ h => List.mem_cons_of_mem _ (List.mem_append_right _ h)
set_option maxHeartbeats 4000000 in
set_option maxRecDepth 100000 in
/-- Net.room -/
theorem c_X7_room (l : Launch) (D : va_G) (aI aL aZ : ClassId) (h0 : Nat) (nx : Nat) (ny : Nat) (nl : Nat) (nh : Nat) (nb : Nat) (no : Nat) (nr : Nat) (nd : Nat) (na : Nat) (ns : Nat) (nf : Nat) (np : Nat) (nq : Nat) (fx : Nat → Int32) (fl : Nat → Int32) (sz : Nat) : MV l D q_cl (q_ty aI aL aZ) yX7_room vsX7_room 0 13 36005 [.ref h0, .int 3000, .int 1500] [(h0, .inr (5, [.ref nx, .ref ny, .int 0, .ref nl, .ref nh, .int 0, .ref nb, .ref no, .ref nr, .ref nd, .ref na, .ref ns, .ref nf, .int 0, .ref np, .int 0, .ref nq])), (nx, .inl (aI, 0, .inl fx)), (nl, .inl (aI, 0, .inl fl))] sz (fun (u : Nat × Nat × Nat × Nat × Nat × Nat × Nat × Nat × Nat × Nat × Nat × Nat × Nat) => True) (fun (u : Nat × Nat × Nat × Nat × Nat × Nat × Nat × Nat × Nat × Nat × Nat × Nat × Nat) => [(h0, .inr (5, [.ref u.1, .ref u.2.1, .int 0, .ref u.2.2.1, .ref u.2.2.2.1, .int 0, .ref u.2.2.2.2.1, .ref u.2.2.2.2.2.1, .ref u.2.2.2.2.2.2.1, .ref u.2.2.2.2.2.2.2.1, .ref u.2.2.2.2.2.2.2.2.1, .ref u.2.2.2.2.2.2.2.2.2.1, .ref u.2.2.2.2.2.2.2.2.2.2.1, .int 0, .ref u.2.2.2.2.2.2.2.2.2.2.2.1, .int 0, .ref u.2.2.2.2.2.2.2.2.2.2.2.2])), (u.2.2.2.2.1, .inl (aI, 3001, .inl (fun _ => 0)))]) := by
  refine q_in cX7_room 3 none (qQv D q_cl (q_ty aI aL aZ) _ _) (by decide) rfl (Nat.le_of_ble_eq_true rfl) ?_
  intro p e s m args below meth c A ls hat hP hD hS hl
  obtain ⟨hx, hb, hr, hts, hown, hlocks, hml, hin, hK, hN, hA⟩ := hat
  have hown : s.vm.findClass RX7 = some m.cls := hown
  have hl : lv_has ls 3 [(0, .ref h0), (1, .int 3000), (2, .int 1500)] := hl
  refine lv_aload_n hx hb dX7_room_0 rfl (lv_at hl 0 rfl) ?_
  refine va_get (D := D) (ci := 5) (v := .ref nx) (C := RX7) (T := TX7) (N := 17) hx hb hts n_X7_room_X7 hown hK hP 0 rfl rfl 0 (by decide) (hts (.fieldLink RX7 7 "FaceMapModel$Net" "x" "[I") (List.mem_of_getElem? (i := 1) rfl)) (fun _ h9 => h9) rfl dX7_room_1 ?_
  refine va_alen (v := 0) hx hb hK hP 1 0 rfl rfl rfl dX7_room_4 ?_
  refine lv_iload_n hx hb dX7_room_5 rfl (lv_at hl 1 rfl) ?_
  refine lv_icmp_ge (tgt := 39) hx hb dX7_room_6 (by decide) (fun c_1 => ?_) (fun c_1 => ?_)
  · exact absurd c_1 (by decide)
  · refine lv_aload_n hx hb dX7_room_9 rfl (lv_at hl 0 rfl) ?_
    refine lv_iload_n hx hb dX7_room_10 rfl (lv_at hl 1 rfl) ?_
    refine q_newI 3000 hx hb (hts (.arrayClass .int) (List.mem_of_getElem? (i := 2) rfl)) hK hP hD hS hA 0 rfl (by decide) (by decide) (by decide) (Nat.le_of_ble_eq_true rfl) (Nat.le_of_ble_eq_true rfl) dX7_room_11 (fun q2 H hP hD hS => ?_)
    have hP : va_P D q_cl [(h0, .inr (5, [.ref nx, .ref ny, .int 0, .ref nl, .ref nh, .int 0, .ref nb, .ref no, .ref nr, .ref nd, .ref na, .ref ns, .ref nf, .int 0, .ref np, .int 0, .ref nq])), (nx, .inl (aI, 0, .inl fx)), (nl, .inl (aI, 0, .inl fl)), (q2, .inl (aI, 3000, .inl (fun _ => 0)))] H := hP
    have hD : va_D A [(h0, .inr (5, [.ref nx, .ref ny, .int 0, .ref nl, .ref nh, .int 0, .ref nb, .ref no, .ref nr, .ref nd, .ref na, .ref ns, .ref nf, .int 0, .ref np, .int 0, .ref nq])), (nx, .inl (aI, 0, .inl fx)), (nl, .inl (aI, 0, .inl fl)), (q2, .inl (aI, 3000, .inl (fun _ => 0)))] := hD
    refine va_put (D := D) (ci := 5) (v := .ref q2) (ty := (.array .int)) (C := RX7) (T := TX7) (N := 17) hx hb hts n_X7_room_X7 tyX7 tyX7_ok nmX7 hown hK hP hD hS 0 rfl rfl 0 (by decide) (hts (.fieldLink RX7 7 "FaceMapModel$Net" "x" "[I") (List.mem_of_getElem? (i := 1) rfl)) (fun _ h9 => h9) rfl (by decide +kernel) rfl rfl (Nat.le_of_ble_eq_true rfl) dX7_room_13 (fun H locs hP hD hS => ?_)
    have hP : va_P D q_cl [(h0, .inr (5, [.ref q2, .ref ny, .int 0, .ref nl, .ref nh, .int 0, .ref nb, .ref no, .ref nr, .ref nd, .ref na, .ref ns, .ref nf, .int 0, .ref np, .int 0, .ref nq])), (nx, .inl (aI, 0, .inl fx)), (nl, .inl (aI, 0, .inl fl)), (q2, .inl (aI, 3000, .inl (fun _ => 0)))] H := hP
    have hD : va_D A [(h0, .inr (5, [.ref q2, .ref ny, .int 0, .ref nl, .ref nh, .int 0, .ref nb, .ref no, .ref nr, .ref nd, .ref na, .ref ns, .ref nf, .int 0, .ref np, .int 0, .ref nq])), (nx, .inl (aI, 0, .inl fx)), (nl, .inl (aI, 0, .inl fl)), (q2, .inl (aI, 3000, .inl (fun _ => 0)))] := hD
    refine lv_aload_n hx hb dX7_room_16 rfl (lv_at hl 0 rfl) ?_
    refine lv_iload_n hx hb dX7_room_17 rfl (lv_at hl 1 rfl) ?_
    refine q_newI 3000 hx hb (hts (.arrayClass .int) (List.mem_of_getElem? (i := 2) rfl)) hK hP hD hS hA 0 rfl (by decide) (by decide) (by decide) (Nat.le_of_ble_eq_true rfl) (Nat.le_of_ble_eq_true rfl) dX7_room_18 (fun q3 H hP hD hS => ?_)
    have hP : va_P D q_cl [(h0, .inr (5, [.ref q2, .ref ny, .int 0, .ref nl, .ref nh, .int 0, .ref nb, .ref no, .ref nr, .ref nd, .ref na, .ref ns, .ref nf, .int 0, .ref np, .int 0, .ref nq])), (nx, .inl (aI, 0, .inl fx)), (nl, .inl (aI, 0, .inl fl)), (q2, .inl (aI, 3000, .inl (fun _ => 0))), (q3, .inl (aI, 3000, .inl (fun _ => 0)))] H := hP
    have hD : va_D A [(h0, .inr (5, [.ref q2, .ref ny, .int 0, .ref nl, .ref nh, .int 0, .ref nb, .ref no, .ref nr, .ref nd, .ref na, .ref ns, .ref nf, .int 0, .ref np, .int 0, .ref nq])), (nx, .inl (aI, 0, .inl fx)), (nl, .inl (aI, 0, .inl fl)), (q2, .inl (aI, 3000, .inl (fun _ => 0))), (q3, .inl (aI, 3000, .inl (fun _ => 0)))] := hD
    refine va_put (D := D) (ci := 5) (v := .ref q3) (ty := (.array .int)) (C := RX7) (T := TX7) (N := 17) hx hb hts n_X7_room_X7 tyX7 tyX7_ok nmX7 hown hK hP hD hS 0 rfl rfl 1 (by decide) (hts (.fieldLink RX7 13 "FaceMapModel$Net" "y" "[I") (List.mem_of_getElem? (i := 3) rfl)) (fun _ h9 => h9) rfl (by decide +kernel) rfl rfl (Nat.le_of_ble_eq_true rfl) dX7_room_20 (fun H locs hP hD hS => ?_)
    have hP : va_P D q_cl [(h0, .inr (5, [.ref q2, .ref q3, .int 0, .ref nl, .ref nh, .int 0, .ref nb, .ref no, .ref nr, .ref nd, .ref na, .ref ns, .ref nf, .int 0, .ref np, .int 0, .ref nq])), (nx, .inl (aI, 0, .inl fx)), (nl, .inl (aI, 0, .inl fl)), (q2, .inl (aI, 3000, .inl (fun _ => 0))), (q3, .inl (aI, 3000, .inl (fun _ => 0)))] H := hP
    have hD : va_D A [(h0, .inr (5, [.ref q2, .ref q3, .int 0, .ref nl, .ref nh, .int 0, .ref nb, .ref no, .ref nr, .ref nd, .ref na, .ref ns, .ref nf, .int 0, .ref np, .int 0, .ref nq])), (nx, .inl (aI, 0, .inl fx)), (nl, .inl (aI, 0, .inl fl)), (q2, .inl (aI, 3000, .inl (fun _ => 0))), (q3, .inl (aI, 3000, .inl (fun _ => 0)))] := hD
    refine lv_aload_n hx hb dX7_room_23 rfl (lv_at hl 0 rfl) ?_
    refine lv_iload_n hx hb dX7_room_24 rfl (lv_at hl 1 rfl) ?_
    refine lv_iconst (v := 1) hx hb dX7_room_25 (by decide) ?_
    refine lv_iadd hx hb dX7_room_26 ?_
    refine q_vi (v := 3001) (by decide) ?_
    refine q_newI 3001 hx hb (hts (.arrayClass .int) (List.mem_of_getElem? (i := 2) rfl)) hK hP hD hS hA 0 rfl (by decide) (by decide) (by decide) (Nat.le_of_ble_eq_true rfl) (Nat.le_of_ble_eq_true rfl) dX7_room_27 (fun q4 H hP hD hS => ?_)
    have hP : va_P D q_cl [(h0, .inr (5, [.ref q2, .ref q3, .int 0, .ref nl, .ref nh, .int 0, .ref nb, .ref no, .ref nr, .ref nd, .ref na, .ref ns, .ref nf, .int 0, .ref np, .int 0, .ref nq])), (nx, .inl (aI, 0, .inl fx)), (nl, .inl (aI, 0, .inl fl)), (q2, .inl (aI, 3000, .inl (fun _ => 0))), (q3, .inl (aI, 3000, .inl (fun _ => 0))), (q4, .inl (aI, 3001, .inl (fun _ => 0)))] H := hP
    have hD : va_D A [(h0, .inr (5, [.ref q2, .ref q3, .int 0, .ref nl, .ref nh, .int 0, .ref nb, .ref no, .ref nr, .ref nd, .ref na, .ref ns, .ref nf, .int 0, .ref np, .int 0, .ref nq])), (nx, .inl (aI, 0, .inl fx)), (nl, .inl (aI, 0, .inl fl)), (q2, .inl (aI, 3000, .inl (fun _ => 0))), (q3, .inl (aI, 3000, .inl (fun _ => 0))), (q4, .inl (aI, 3001, .inl (fun _ => 0)))] := hD
    refine va_put (D := D) (ci := 5) (v := .ref q4) (ty := (.array .int)) (C := RX7) (T := TX7) (N := 17) hx hb hts n_X7_room_X7 tyX7 tyX7_ok nmX7 hown hK hP hD hS 0 rfl rfl 6 (by decide) (hts (.fieldLink RX7 22 "FaceMapModel$Net" "begins" "[I") (List.mem_of_getElem? (i := 4) rfl)) (fun _ h9 => h9) rfl (by decide +kernel) rfl rfl (Nat.le_of_ble_eq_true rfl) dX7_room_29 (fun H locs hP hD hS => ?_)
    have hP : va_P D q_cl [(h0, .inr (5, [.ref q2, .ref q3, .int 0, .ref nl, .ref nh, .int 0, .ref q4, .ref no, .ref nr, .ref nd, .ref na, .ref ns, .ref nf, .int 0, .ref np, .int 0, .ref nq])), (nx, .inl (aI, 0, .inl fx)), (nl, .inl (aI, 0, .inl fl)), (q2, .inl (aI, 3000, .inl (fun _ => 0))), (q3, .inl (aI, 3000, .inl (fun _ => 0))), (q4, .inl (aI, 3001, .inl (fun _ => 0)))] H := hP
    have hD : va_D A [(h0, .inr (5, [.ref q2, .ref q3, .int 0, .ref nl, .ref nh, .int 0, .ref q4, .ref no, .ref nr, .ref nd, .ref na, .ref ns, .ref nf, .int 0, .ref np, .int 0, .ref nq])), (nx, .inl (aI, 0, .inl fx)), (nl, .inl (aI, 0, .inl fl)), (q2, .inl (aI, 3000, .inl (fun _ => 0))), (q3, .inl (aI, 3000, .inl (fun _ => 0))), (q4, .inl (aI, 3001, .inl (fun _ => 0)))] := hD
    refine lv_aload_n hx hb dX7_room_32 rfl (lv_at hl 0 rfl) ?_
    refine lv_iload_n hx hb dX7_room_33 rfl (lv_at hl 1 rfl) ?_
    refine q_newI 3000 hx hb (hts (.arrayClass .int) (List.mem_of_getElem? (i := 2) rfl)) hK hP hD hS hA 0 rfl (by decide) (by decide) (by decide) (Nat.le_of_ble_eq_true rfl) (Nat.le_of_ble_eq_true rfl) dX7_room_34 (fun q5 H hP hD hS => ?_)
    have hP : va_P D q_cl [(h0, .inr (5, [.ref q2, .ref q3, .int 0, .ref nl, .ref nh, .int 0, .ref q4, .ref no, .ref nr, .ref nd, .ref na, .ref ns, .ref nf, .int 0, .ref np, .int 0, .ref nq])), (nx, .inl (aI, 0, .inl fx)), (nl, .inl (aI, 0, .inl fl)), (q2, .inl (aI, 3000, .inl (fun _ => 0))), (q3, .inl (aI, 3000, .inl (fun _ => 0))), (q4, .inl (aI, 3001, .inl (fun _ => 0))), (q5, .inl (aI, 3000, .inl (fun _ => 0)))] H := hP
    have hD : va_D A [(h0, .inr (5, [.ref q2, .ref q3, .int 0, .ref nl, .ref nh, .int 0, .ref q4, .ref no, .ref nr, .ref nd, .ref na, .ref ns, .ref nf, .int 0, .ref np, .int 0, .ref nq])), (nx, .inl (aI, 0, .inl fx)), (nl, .inl (aI, 0, .inl fl)), (q2, .inl (aI, 3000, .inl (fun _ => 0))), (q3, .inl (aI, 3000, .inl (fun _ => 0))), (q4, .inl (aI, 3001, .inl (fun _ => 0))), (q5, .inl (aI, 3000, .inl (fun _ => 0)))] := hD
    refine va_put (D := D) (ci := 5) (v := .ref q5) (ty := (.array .int)) (C := RX7) (T := TX7) (N := 17) hx hb hts n_X7_room_X7 tyX7 tyX7_ok nmX7 hown hK hP hD hS 0 rfl rfl 14 (by decide) (hts (.fieldLink RX7 44 "FaceMapModel$Net" "part" "[I") (List.mem_of_getElem? (i := 5) rfl)) (fun _ h9 => h9) rfl (by decide +kernel) rfl rfl (Nat.le_of_ble_eq_true rfl) dX7_room_36 (fun H locs hP hD hS => ?_)
    have hP : va_P D q_cl [(h0, .inr (5, [.ref q2, .ref q3, .int 0, .ref nl, .ref nh, .int 0, .ref q4, .ref no, .ref nr, .ref nd, .ref na, .ref ns, .ref nf, .int 0, .ref q5, .int 0, .ref nq])), (nx, .inl (aI, 0, .inl fx)), (nl, .inl (aI, 0, .inl fl)), (q2, .inl (aI, 3000, .inl (fun _ => 0))), (q3, .inl (aI, 3000, .inl (fun _ => 0))), (q4, .inl (aI, 3001, .inl (fun _ => 0))), (q5, .inl (aI, 3000, .inl (fun _ => 0)))] H := hP
    have hD : va_D A [(h0, .inr (5, [.ref q2, .ref q3, .int 0, .ref nl, .ref nh, .int 0, .ref q4, .ref no, .ref nr, .ref nd, .ref na, .ref ns, .ref nf, .int 0, .ref q5, .int 0, .ref nq])), (nx, .inl (aI, 0, .inl fx)), (nl, .inl (aI, 0, .inl fl)), (q2, .inl (aI, 3000, .inl (fun _ => 0))), (q3, .inl (aI, 3000, .inl (fun _ => 0))), (q4, .inl (aI, 3001, .inl (fun _ => 0))), (q5, .inl (aI, 3000, .inl (fun _ => 0)))] := hD
    refine lv_aload_n hx hb dX7_room_39 rfl (lv_at hl 0 rfl) ?_
    refine va_get (D := D) (ci := 5) (v := .ref nl) (C := RX7) (T := TX7) (N := 17) hx hb hts n_X7_room_X7 hown hK hP 0 rfl rfl 3 (by decide) (hts (.fieldLink RX7 16 "FaceMapModel$Net" "low" "[I") (List.mem_of_getElem? (i := 6) rfl)) (fun _ h9 => h9) rfl dX7_room_40 ?_
    refine va_alen (v := 0) hx hb hK hP 2 0 rfl rfl rfl dX7_room_43 ?_
    refine lv_iload_n hx hb dX7_room_44 rfl (lv_at hl 2 rfl) ?_
    refine lv_icmp_ge (tgt := 133) hx hb dX7_room_45 (by decide) (fun c_6 => ?_) (fun c_6 => ?_)
    · exact absurd c_6 (by decide)
    · refine lv_aload_n hx hb dX7_room_48 rfl (lv_at hl 0 rfl) ?_
      refine lv_iload_n hx hb dX7_room_49 rfl (lv_at hl 2 rfl) ?_
      refine q_newI 1500 hx hb (hts (.arrayClass .int) (List.mem_of_getElem? (i := 2) rfl)) hK hP hD hS hA 0 rfl (by decide) (by decide) (by decide) (Nat.le_of_ble_eq_true rfl) (Nat.le_of_ble_eq_true rfl) dX7_room_50 (fun q7 H hP hD hS => ?_)
      have hP : va_P D q_cl [(h0, .inr (5, [.ref q2, .ref q3, .int 0, .ref nl, .ref nh, .int 0, .ref q4, .ref no, .ref nr, .ref nd, .ref na, .ref ns, .ref nf, .int 0, .ref q5, .int 0, .ref nq])), (nx, .inl (aI, 0, .inl fx)), (nl, .inl (aI, 0, .inl fl)), (q2, .inl (aI, 3000, .inl (fun _ => 0))), (q3, .inl (aI, 3000, .inl (fun _ => 0))), (q4, .inl (aI, 3001, .inl (fun _ => 0))), (q5, .inl (aI, 3000, .inl (fun _ => 0))), (q7, .inl (aI, 1500, .inl (fun _ => 0)))] H := hP
      have hD : va_D A [(h0, .inr (5, [.ref q2, .ref q3, .int 0, .ref nl, .ref nh, .int 0, .ref q4, .ref no, .ref nr, .ref nd, .ref na, .ref ns, .ref nf, .int 0, .ref q5, .int 0, .ref nq])), (nx, .inl (aI, 0, .inl fx)), (nl, .inl (aI, 0, .inl fl)), (q2, .inl (aI, 3000, .inl (fun _ => 0))), (q3, .inl (aI, 3000, .inl (fun _ => 0))), (q4, .inl (aI, 3001, .inl (fun _ => 0))), (q5, .inl (aI, 3000, .inl (fun _ => 0))), (q7, .inl (aI, 1500, .inl (fun _ => 0)))] := hD
      refine va_put (D := D) (ci := 5) (v := .ref q7) (ty := (.array .int)) (C := RX7) (T := TX7) (N := 17) hx hb hts n_X7_room_X7 tyX7 tyX7_ok nmX7 hown hK hP hD hS 0 rfl rfl 3 (by decide) (hts (.fieldLink RX7 16 "FaceMapModel$Net" "low" "[I") (List.mem_of_getElem? (i := 6) rfl)) (fun _ h9 => h9) rfl (by decide +kernel) rfl rfl (Nat.le_of_ble_eq_true rfl) dX7_room_52 (fun H locs hP hD hS => ?_)
      have hP : va_P D q_cl [(h0, .inr (5, [.ref q2, .ref q3, .int 0, .ref q7, .ref nh, .int 0, .ref q4, .ref no, .ref nr, .ref nd, .ref na, .ref ns, .ref nf, .int 0, .ref q5, .int 0, .ref nq])), (nx, .inl (aI, 0, .inl fx)), (nl, .inl (aI, 0, .inl fl)), (q2, .inl (aI, 3000, .inl (fun _ => 0))), (q3, .inl (aI, 3000, .inl (fun _ => 0))), (q4, .inl (aI, 3001, .inl (fun _ => 0))), (q5, .inl (aI, 3000, .inl (fun _ => 0))), (q7, .inl (aI, 1500, .inl (fun _ => 0)))] H := hP
      have hD : va_D A [(h0, .inr (5, [.ref q2, .ref q3, .int 0, .ref q7, .ref nh, .int 0, .ref q4, .ref no, .ref nr, .ref nd, .ref na, .ref ns, .ref nf, .int 0, .ref q5, .int 0, .ref nq])), (nx, .inl (aI, 0, .inl fx)), (nl, .inl (aI, 0, .inl fl)), (q2, .inl (aI, 3000, .inl (fun _ => 0))), (q3, .inl (aI, 3000, .inl (fun _ => 0))), (q4, .inl (aI, 3001, .inl (fun _ => 0))), (q5, .inl (aI, 3000, .inl (fun _ => 0))), (q7, .inl (aI, 1500, .inl (fun _ => 0)))] := hD
      refine lv_aload_n hx hb dX7_room_55 rfl (lv_at hl 0 rfl) ?_
      refine lv_iload_n hx hb dX7_room_56 rfl (lv_at hl 2 rfl) ?_
      refine q_newI 1500 hx hb (hts (.arrayClass .int) (List.mem_of_getElem? (i := 2) rfl)) hK hP hD hS hA 0 rfl (by decide) (by decide) (by decide) (Nat.le_of_ble_eq_true rfl) (Nat.le_of_ble_eq_true rfl) dX7_room_57 (fun q8 H hP hD hS => ?_)
      have hP : va_P D q_cl [(h0, .inr (5, [.ref q2, .ref q3, .int 0, .ref q7, .ref nh, .int 0, .ref q4, .ref no, .ref nr, .ref nd, .ref na, .ref ns, .ref nf, .int 0, .ref q5, .int 0, .ref nq])), (nx, .inl (aI, 0, .inl fx)), (nl, .inl (aI, 0, .inl fl)), (q2, .inl (aI, 3000, .inl (fun _ => 0))), (q3, .inl (aI, 3000, .inl (fun _ => 0))), (q4, .inl (aI, 3001, .inl (fun _ => 0))), (q5, .inl (aI, 3000, .inl (fun _ => 0))), (q7, .inl (aI, 1500, .inl (fun _ => 0))), (q8, .inl (aI, 1500, .inl (fun _ => 0)))] H := hP
      have hD : va_D A [(h0, .inr (5, [.ref q2, .ref q3, .int 0, .ref q7, .ref nh, .int 0, .ref q4, .ref no, .ref nr, .ref nd, .ref na, .ref ns, .ref nf, .int 0, .ref q5, .int 0, .ref nq])), (nx, .inl (aI, 0, .inl fx)), (nl, .inl (aI, 0, .inl fl)), (q2, .inl (aI, 3000, .inl (fun _ => 0))), (q3, .inl (aI, 3000, .inl (fun _ => 0))), (q4, .inl (aI, 3001, .inl (fun _ => 0))), (q5, .inl (aI, 3000, .inl (fun _ => 0))), (q7, .inl (aI, 1500, .inl (fun _ => 0))), (q8, .inl (aI, 1500, .inl (fun _ => 0)))] := hD
      refine va_put (D := D) (ci := 5) (v := .ref q8) (ty := (.array .int)) (C := RX7) (T := TX7) (N := 17) hx hb hts n_X7_room_X7 tyX7 tyX7_ok nmX7 hown hK hP hD hS 0 rfl rfl 4 (by decide) (hts (.fieldLink RX7 19 "FaceMapModel$Net" "high" "[I") (List.mem_of_getElem? (i := 7) rfl)) (fun _ h9 => h9) rfl (by decide +kernel) rfl rfl (Nat.le_of_ble_eq_true rfl) dX7_room_59 (fun H locs hP hD hS => ?_)
      have hP : va_P D q_cl [(h0, .inr (5, [.ref q2, .ref q3, .int 0, .ref q7, .ref q8, .int 0, .ref q4, .ref no, .ref nr, .ref nd, .ref na, .ref ns, .ref nf, .int 0, .ref q5, .int 0, .ref nq])), (nx, .inl (aI, 0, .inl fx)), (nl, .inl (aI, 0, .inl fl)), (q2, .inl (aI, 3000, .inl (fun _ => 0))), (q3, .inl (aI, 3000, .inl (fun _ => 0))), (q4, .inl (aI, 3001, .inl (fun _ => 0))), (q5, .inl (aI, 3000, .inl (fun _ => 0))), (q7, .inl (aI, 1500, .inl (fun _ => 0))), (q8, .inl (aI, 1500, .inl (fun _ => 0)))] H := hP
      have hD : va_D A [(h0, .inr (5, [.ref q2, .ref q3, .int 0, .ref q7, .ref q8, .int 0, .ref q4, .ref no, .ref nr, .ref nd, .ref na, .ref ns, .ref nf, .int 0, .ref q5, .int 0, .ref nq])), (nx, .inl (aI, 0, .inl fx)), (nl, .inl (aI, 0, .inl fl)), (q2, .inl (aI, 3000, .inl (fun _ => 0))), (q3, .inl (aI, 3000, .inl (fun _ => 0))), (q4, .inl (aI, 3001, .inl (fun _ => 0))), (q5, .inl (aI, 3000, .inl (fun _ => 0))), (q7, .inl (aI, 1500, .inl (fun _ => 0))), (q8, .inl (aI, 1500, .inl (fun _ => 0)))] := hD
      refine lv_aload_n hx hb dX7_room_62 rfl (lv_at hl 0 rfl) ?_
      refine lv_iconst (v := 2) hx hb dX7_room_63 (by decide) ?_
      refine lv_iload_n hx hb dX7_room_64 rfl (lv_at hl 2 rfl) ?_
      refine lv_imul hx hb dX7_room_65 ?_
      refine q_vi (v := 3000) (by decide) ?_
      refine q_newI 3000 hx hb (hts (.arrayClass .int) (List.mem_of_getElem? (i := 2) rfl)) hK hP hD hS hA 0 rfl (by decide) (by decide) (by decide) (Nat.le_of_ble_eq_true rfl) (Nat.le_of_ble_eq_true rfl) dX7_room_66 (fun q9 H hP hD hS => ?_)
      have hP : va_P D q_cl [(h0, .inr (5, [.ref q2, .ref q3, .int 0, .ref q7, .ref q8, .int 0, .ref q4, .ref no, .ref nr, .ref nd, .ref na, .ref ns, .ref nf, .int 0, .ref q5, .int 0, .ref nq])), (nx, .inl (aI, 0, .inl fx)), (nl, .inl (aI, 0, .inl fl)), (q2, .inl (aI, 3000, .inl (fun _ => 0))), (q3, .inl (aI, 3000, .inl (fun _ => 0))), (q4, .inl (aI, 3001, .inl (fun _ => 0))), (q5, .inl (aI, 3000, .inl (fun _ => 0))), (q7, .inl (aI, 1500, .inl (fun _ => 0))), (q8, .inl (aI, 1500, .inl (fun _ => 0))), (q9, .inl (aI, 3000, .inl (fun _ => 0)))] H := hP
      have hD : va_D A [(h0, .inr (5, [.ref q2, .ref q3, .int 0, .ref q7, .ref q8, .int 0, .ref q4, .ref no, .ref nr, .ref nd, .ref na, .ref ns, .ref nf, .int 0, .ref q5, .int 0, .ref nq])), (nx, .inl (aI, 0, .inl fx)), (nl, .inl (aI, 0, .inl fl)), (q2, .inl (aI, 3000, .inl (fun _ => 0))), (q3, .inl (aI, 3000, .inl (fun _ => 0))), (q4, .inl (aI, 3001, .inl (fun _ => 0))), (q5, .inl (aI, 3000, .inl (fun _ => 0))), (q7, .inl (aI, 1500, .inl (fun _ => 0))), (q8, .inl (aI, 1500, .inl (fun _ => 0))), (q9, .inl (aI, 3000, .inl (fun _ => 0)))] := hD
      refine va_put (D := D) (ci := 5) (v := .ref q9) (ty := (.array .int)) (C := RX7) (T := TX7) (N := 17) hx hb hts n_X7_room_X7 tyX7 tyX7_ok nmX7 hown hK hP hD hS 0 rfl rfl 7 (by decide) (hts (.fieldLink RX7 25 "FaceMapModel$Net" "out" "[I") (List.mem_of_getElem? (i := 8) rfl)) (fun _ h9 => h9) rfl (by decide +kernel) rfl rfl (Nat.le_of_ble_eq_true rfl) dX7_room_68 (fun H locs hP hD hS => ?_)
      have hP : va_P D q_cl [(h0, .inr (5, [.ref q2, .ref q3, .int 0, .ref q7, .ref q8, .int 0, .ref q4, .ref q9, .ref nr, .ref nd, .ref na, .ref ns, .ref nf, .int 0, .ref q5, .int 0, .ref nq])), (nx, .inl (aI, 0, .inl fx)), (nl, .inl (aI, 0, .inl fl)), (q2, .inl (aI, 3000, .inl (fun _ => 0))), (q3, .inl (aI, 3000, .inl (fun _ => 0))), (q4, .inl (aI, 3001, .inl (fun _ => 0))), (q5, .inl (aI, 3000, .inl (fun _ => 0))), (q7, .inl (aI, 1500, .inl (fun _ => 0))), (q8, .inl (aI, 1500, .inl (fun _ => 0))), (q9, .inl (aI, 3000, .inl (fun _ => 0)))] H := hP
      have hD : va_D A [(h0, .inr (5, [.ref q2, .ref q3, .int 0, .ref q7, .ref q8, .int 0, .ref q4, .ref q9, .ref nr, .ref nd, .ref na, .ref ns, .ref nf, .int 0, .ref q5, .int 0, .ref nq])), (nx, .inl (aI, 0, .inl fx)), (nl, .inl (aI, 0, .inl fl)), (q2, .inl (aI, 3000, .inl (fun _ => 0))), (q3, .inl (aI, 3000, .inl (fun _ => 0))), (q4, .inl (aI, 3001, .inl (fun _ => 0))), (q5, .inl (aI, 3000, .inl (fun _ => 0))), (q7, .inl (aI, 1500, .inl (fun _ => 0))), (q8, .inl (aI, 1500, .inl (fun _ => 0))), (q9, .inl (aI, 3000, .inl (fun _ => 0)))] := hD
      refine lv_aload_n hx hb dX7_room_71 rfl (lv_at hl 0 rfl) ?_
      refine lv_iconst (v := 2) hx hb dX7_room_72 (by decide) ?_
      refine lv_iload_n hx hb dX7_room_73 rfl (lv_at hl 2 rfl) ?_
      refine lv_imul hx hb dX7_room_74 ?_
      refine q_vi (v := 3000) (by decide) ?_
      refine q_newI 3000 hx hb (hts (.arrayClass .int) (List.mem_of_getElem? (i := 2) rfl)) hK hP hD hS hA 0 rfl (by decide) (by decide) (by decide) (Nat.le_of_ble_eq_true rfl) (Nat.le_of_ble_eq_true rfl) dX7_room_75 (fun q10 H hP hD hS => ?_)
      have hP : va_P D q_cl [(h0, .inr (5, [.ref q2, .ref q3, .int 0, .ref q7, .ref q8, .int 0, .ref q4, .ref q9, .ref nr, .ref nd, .ref na, .ref ns, .ref nf, .int 0, .ref q5, .int 0, .ref nq])), (nx, .inl (aI, 0, .inl fx)), (nl, .inl (aI, 0, .inl fl)), (q2, .inl (aI, 3000, .inl (fun _ => 0))), (q3, .inl (aI, 3000, .inl (fun _ => 0))), (q4, .inl (aI, 3001, .inl (fun _ => 0))), (q5, .inl (aI, 3000, .inl (fun _ => 0))), (q7, .inl (aI, 1500, .inl (fun _ => 0))), (q8, .inl (aI, 1500, .inl (fun _ => 0))), (q9, .inl (aI, 3000, .inl (fun _ => 0))), (q10, .inl (aI, 3000, .inl (fun _ => 0)))] H := hP
      have hD : va_D A [(h0, .inr (5, [.ref q2, .ref q3, .int 0, .ref q7, .ref q8, .int 0, .ref q4, .ref q9, .ref nr, .ref nd, .ref na, .ref ns, .ref nf, .int 0, .ref q5, .int 0, .ref nq])), (nx, .inl (aI, 0, .inl fx)), (nl, .inl (aI, 0, .inl fl)), (q2, .inl (aI, 3000, .inl (fun _ => 0))), (q3, .inl (aI, 3000, .inl (fun _ => 0))), (q4, .inl (aI, 3001, .inl (fun _ => 0))), (q5, .inl (aI, 3000, .inl (fun _ => 0))), (q7, .inl (aI, 1500, .inl (fun _ => 0))), (q8, .inl (aI, 1500, .inl (fun _ => 0))), (q9, .inl (aI, 3000, .inl (fun _ => 0))), (q10, .inl (aI, 3000, .inl (fun _ => 0)))] := hD
      refine va_put (D := D) (ci := 5) (v := .ref q10) (ty := (.array .int)) (C := RX7) (T := TX7) (N := 17) hx hb hts n_X7_room_X7 tyX7 tyX7_ok nmX7 hown hK hP hD hS 0 rfl rfl 8 (by decide) (hts (.fieldLink RX7 28 "FaceMapModel$Net" "rank" "[I") (List.mem_of_getElem? (i := 9) rfl)) (fun _ h9 => h9) rfl (by decide +kernel) rfl rfl (Nat.le_of_ble_eq_true rfl) dX7_room_77 (fun H locs hP hD hS => ?_)
      have hP : va_P D q_cl [(h0, .inr (5, [.ref q2, .ref q3, .int 0, .ref q7, .ref q8, .int 0, .ref q4, .ref q9, .ref q10, .ref nd, .ref na, .ref ns, .ref nf, .int 0, .ref q5, .int 0, .ref nq])), (nx, .inl (aI, 0, .inl fx)), (nl, .inl (aI, 0, .inl fl)), (q2, .inl (aI, 3000, .inl (fun _ => 0))), (q3, .inl (aI, 3000, .inl (fun _ => 0))), (q4, .inl (aI, 3001, .inl (fun _ => 0))), (q5, .inl (aI, 3000, .inl (fun _ => 0))), (q7, .inl (aI, 1500, .inl (fun _ => 0))), (q8, .inl (aI, 1500, .inl (fun _ => 0))), (q9, .inl (aI, 3000, .inl (fun _ => 0))), (q10, .inl (aI, 3000, .inl (fun _ => 0)))] H := hP
      have hD : va_D A [(h0, .inr (5, [.ref q2, .ref q3, .int 0, .ref q7, .ref q8, .int 0, .ref q4, .ref q9, .ref q10, .ref nd, .ref na, .ref ns, .ref nf, .int 0, .ref q5, .int 0, .ref nq])), (nx, .inl (aI, 0, .inl fx)), (nl, .inl (aI, 0, .inl fl)), (q2, .inl (aI, 3000, .inl (fun _ => 0))), (q3, .inl (aI, 3000, .inl (fun _ => 0))), (q4, .inl (aI, 3001, .inl (fun _ => 0))), (q5, .inl (aI, 3000, .inl (fun _ => 0))), (q7, .inl (aI, 1500, .inl (fun _ => 0))), (q8, .inl (aI, 1500, .inl (fun _ => 0))), (q9, .inl (aI, 3000, .inl (fun _ => 0))), (q10, .inl (aI, 3000, .inl (fun _ => 0)))] := hD
      refine lv_aload_n hx hb dX7_room_80 rfl (lv_at hl 0 rfl) ?_
      refine lv_iconst (v := 2) hx hb dX7_room_81 (by decide) ?_
      refine lv_iload_n hx hb dX7_room_82 rfl (lv_at hl 2 rfl) ?_
      refine lv_imul hx hb dX7_room_83 ?_
      refine q_vi (v := 3000) (by decide) ?_
      refine q_newI 3000 hx hb (hts (.arrayClass .int) (List.mem_of_getElem? (i := 2) rfl)) hK hP hD hS hA 0 rfl (by decide) (by decide) (by decide) (Nat.le_of_ble_eq_true rfl) (Nat.le_of_ble_eq_true rfl) dX7_room_84 (fun q11 H hP hD hS => ?_)
      have hP : va_P D q_cl [(h0, .inr (5, [.ref q2, .ref q3, .int 0, .ref q7, .ref q8, .int 0, .ref q4, .ref q9, .ref q10, .ref nd, .ref na, .ref ns, .ref nf, .int 0, .ref q5, .int 0, .ref nq])), (nx, .inl (aI, 0, .inl fx)), (nl, .inl (aI, 0, .inl fl)), (q2, .inl (aI, 3000, .inl (fun _ => 0))), (q3, .inl (aI, 3000, .inl (fun _ => 0))), (q4, .inl (aI, 3001, .inl (fun _ => 0))), (q5, .inl (aI, 3000, .inl (fun _ => 0))), (q7, .inl (aI, 1500, .inl (fun _ => 0))), (q8, .inl (aI, 1500, .inl (fun _ => 0))), (q9, .inl (aI, 3000, .inl (fun _ => 0))), (q10, .inl (aI, 3000, .inl (fun _ => 0))), (q11, .inl (aI, 3000, .inl (fun _ => 0)))] H := hP
      have hD : va_D A [(h0, .inr (5, [.ref q2, .ref q3, .int 0, .ref q7, .ref q8, .int 0, .ref q4, .ref q9, .ref q10, .ref nd, .ref na, .ref ns, .ref nf, .int 0, .ref q5, .int 0, .ref nq])), (nx, .inl (aI, 0, .inl fx)), (nl, .inl (aI, 0, .inl fl)), (q2, .inl (aI, 3000, .inl (fun _ => 0))), (q3, .inl (aI, 3000, .inl (fun _ => 0))), (q4, .inl (aI, 3001, .inl (fun _ => 0))), (q5, .inl (aI, 3000, .inl (fun _ => 0))), (q7, .inl (aI, 1500, .inl (fun _ => 0))), (q8, .inl (aI, 1500, .inl (fun _ => 0))), (q9, .inl (aI, 3000, .inl (fun _ => 0))), (q10, .inl (aI, 3000, .inl (fun _ => 0))), (q11, .inl (aI, 3000, .inl (fun _ => 0)))] := hD
      refine va_put (D := D) (ci := 5) (v := .ref q11) (ty := (.array .int)) (C := RX7) (T := TX7) (N := 17) hx hb hts n_X7_room_X7 tyX7 tyX7_ok nmX7 hown hK hP hD hS 0 rfl rfl 9 (by decide) (hts (.fieldLink RX7 31 "FaceMapModel$Net" "round" "[I") (List.mem_of_getElem? (i := 10) rfl)) (fun _ h9 => h9) rfl (by decide +kernel) rfl rfl (Nat.le_of_ble_eq_true rfl) dX7_room_86 (fun H locs hP hD hS => ?_)
      have hP : va_P D q_cl [(h0, .inr (5, [.ref q2, .ref q3, .int 0, .ref q7, .ref q8, .int 0, .ref q4, .ref q9, .ref q10, .ref q11, .ref na, .ref ns, .ref nf, .int 0, .ref q5, .int 0, .ref nq])), (nx, .inl (aI, 0, .inl fx)), (nl, .inl (aI, 0, .inl fl)), (q2, .inl (aI, 3000, .inl (fun _ => 0))), (q3, .inl (aI, 3000, .inl (fun _ => 0))), (q4, .inl (aI, 3001, .inl (fun _ => 0))), (q5, .inl (aI, 3000, .inl (fun _ => 0))), (q7, .inl (aI, 1500, .inl (fun _ => 0))), (q8, .inl (aI, 1500, .inl (fun _ => 0))), (q9, .inl (aI, 3000, .inl (fun _ => 0))), (q10, .inl (aI, 3000, .inl (fun _ => 0))), (q11, .inl (aI, 3000, .inl (fun _ => 0)))] H := hP
      have hD : va_D A [(h0, .inr (5, [.ref q2, .ref q3, .int 0, .ref q7, .ref q8, .int 0, .ref q4, .ref q9, .ref q10, .ref q11, .ref na, .ref ns, .ref nf, .int 0, .ref q5, .int 0, .ref nq])), (nx, .inl (aI, 0, .inl fx)), (nl, .inl (aI, 0, .inl fl)), (q2, .inl (aI, 3000, .inl (fun _ => 0))), (q3, .inl (aI, 3000, .inl (fun _ => 0))), (q4, .inl (aI, 3001, .inl (fun _ => 0))), (q5, .inl (aI, 3000, .inl (fun _ => 0))), (q7, .inl (aI, 1500, .inl (fun _ => 0))), (q8, .inl (aI, 1500, .inl (fun _ => 0))), (q9, .inl (aI, 3000, .inl (fun _ => 0))), (q10, .inl (aI, 3000, .inl (fun _ => 0))), (q11, .inl (aI, 3000, .inl (fun _ => 0)))] := hD
      refine lv_aload_n hx hb dX7_room_89 rfl (lv_at hl 0 rfl) ?_
      refine lv_iconst (v := 2) hx hb dX7_room_90 (by decide) ?_
      refine lv_iload_n hx hb dX7_room_91 rfl (lv_at hl 2 rfl) ?_
      refine lv_imul hx hb dX7_room_92 ?_
      refine q_vi (v := 3000) (by decide) ?_
      refine lv_iconst (v := 1) hx hb dX7_room_93 (by decide) ?_
      refine lv_iadd hx hb dX7_room_94 ?_
      refine q_vi (v := 3001) (by decide) ?_
      refine q_newL 3001 hx hb (hts (.arrayClass .long) (List.mem_of_getElem? (i := 11) rfl)) hK hP hD hS hA 1 rfl (by decide) (by decide) (by decide) (Nat.le_of_ble_eq_true rfl) (Nat.le_of_ble_eq_true rfl) dX7_room_95 (fun q12 H hP hD hS => ?_)
      have hP : va_P D q_cl [(h0, .inr (5, [.ref q2, .ref q3, .int 0, .ref q7, .ref q8, .int 0, .ref q4, .ref q9, .ref q10, .ref q11, .ref na, .ref ns, .ref nf, .int 0, .ref q5, .int 0, .ref nq])), (nx, .inl (aI, 0, .inl fx)), (nl, .inl (aI, 0, .inl fl)), (q2, .inl (aI, 3000, .inl (fun _ => 0))), (q3, .inl (aI, 3000, .inl (fun _ => 0))), (q4, .inl (aI, 3001, .inl (fun _ => 0))), (q5, .inl (aI, 3000, .inl (fun _ => 0))), (q7, .inl (aI, 1500, .inl (fun _ => 0))), (q8, .inl (aI, 1500, .inl (fun _ => 0))), (q9, .inl (aI, 3000, .inl (fun _ => 0))), (q10, .inl (aI, 3000, .inl (fun _ => 0))), (q11, .inl (aI, 3000, .inl (fun _ => 0))), (q12, .inl (aL, 3001, .inr (.inl (fun _ => 0))))] H := hP
      have hD : va_D A [(h0, .inr (5, [.ref q2, .ref q3, .int 0, .ref q7, .ref q8, .int 0, .ref q4, .ref q9, .ref q10, .ref q11, .ref na, .ref ns, .ref nf, .int 0, .ref q5, .int 0, .ref nq])), (nx, .inl (aI, 0, .inl fx)), (nl, .inl (aI, 0, .inl fl)), (q2, .inl (aI, 3000, .inl (fun _ => 0))), (q3, .inl (aI, 3000, .inl (fun _ => 0))), (q4, .inl (aI, 3001, .inl (fun _ => 0))), (q5, .inl (aI, 3000, .inl (fun _ => 0))), (q7, .inl (aI, 1500, .inl (fun _ => 0))), (q8, .inl (aI, 1500, .inl (fun _ => 0))), (q9, .inl (aI, 3000, .inl (fun _ => 0))), (q10, .inl (aI, 3000, .inl (fun _ => 0))), (q11, .inl (aI, 3000, .inl (fun _ => 0))), (q12, .inl (aL, 3001, .inr (.inl (fun _ => 0))))] := hD
      refine va_put (D := D) (ci := 5) (v := .ref q12) (ty := (.array .long)) (C := RX7) (T := TX7) (N := 17) hx hb hts n_X7_room_X7 tyX7 tyX7_ok nmX7 hown hK hP hD hS 0 rfl rfl 10 (by decide) (hts (.fieldLink RX7 34 "FaceMapModel$Net" "area" "[J") (List.mem_of_getElem? (i := 12) rfl)) (fun _ h9 => h9) rfl (by decide +kernel) rfl rfl (Nat.le_of_ble_eq_true rfl) dX7_room_97 (fun H locs hP hD hS => ?_)
      have hP : va_P D q_cl [(h0, .inr (5, [.ref q2, .ref q3, .int 0, .ref q7, .ref q8, .int 0, .ref q4, .ref q9, .ref q10, .ref q11, .ref q12, .ref ns, .ref nf, .int 0, .ref q5, .int 0, .ref nq])), (nx, .inl (aI, 0, .inl fx)), (nl, .inl (aI, 0, .inl fl)), (q2, .inl (aI, 3000, .inl (fun _ => 0))), (q3, .inl (aI, 3000, .inl (fun _ => 0))), (q4, .inl (aI, 3001, .inl (fun _ => 0))), (q5, .inl (aI, 3000, .inl (fun _ => 0))), (q7, .inl (aI, 1500, .inl (fun _ => 0))), (q8, .inl (aI, 1500, .inl (fun _ => 0))), (q9, .inl (aI, 3000, .inl (fun _ => 0))), (q10, .inl (aI, 3000, .inl (fun _ => 0))), (q11, .inl (aI, 3000, .inl (fun _ => 0))), (q12, .inl (aL, 3001, .inr (.inl (fun _ => 0))))] H := hP
      have hD : va_D A [(h0, .inr (5, [.ref q2, .ref q3, .int 0, .ref q7, .ref q8, .int 0, .ref q4, .ref q9, .ref q10, .ref q11, .ref q12, .ref ns, .ref nf, .int 0, .ref q5, .int 0, .ref nq])), (nx, .inl (aI, 0, .inl fx)), (nl, .inl (aI, 0, .inl fl)), (q2, .inl (aI, 3000, .inl (fun _ => 0))), (q3, .inl (aI, 3000, .inl (fun _ => 0))), (q4, .inl (aI, 3001, .inl (fun _ => 0))), (q5, .inl (aI, 3000, .inl (fun _ => 0))), (q7, .inl (aI, 1500, .inl (fun _ => 0))), (q8, .inl (aI, 1500, .inl (fun _ => 0))), (q9, .inl (aI, 3000, .inl (fun _ => 0))), (q10, .inl (aI, 3000, .inl (fun _ => 0))), (q11, .inl (aI, 3000, .inl (fun _ => 0))), (q12, .inl (aL, 3001, .inr (.inl (fun _ => 0))))] := hD
      refine lv_aload_n hx hb dX7_room_100 rfl (lv_at hl 0 rfl) ?_
      refine lv_iconst (v := 2) hx hb dX7_room_101 (by decide) ?_
      refine lv_iload_n hx hb dX7_room_102 rfl (lv_at hl 2 rfl) ?_
      refine lv_imul hx hb dX7_room_103 ?_
      refine q_vi (v := 3000) (by decide) ?_
      refine lv_iconst (v := 1) hx hb dX7_room_104 (by decide) ?_
      refine lv_iadd hx hb dX7_room_105 ?_
      refine q_vi (v := 3001) (by decide) ?_
      refine q_newI 3001 hx hb (hts (.arrayClass .int) (List.mem_of_getElem? (i := 2) rfl)) hK hP hD hS hA 0 rfl (by decide) (by decide) (by decide) (Nat.le_of_ble_eq_true rfl) (Nat.le_of_ble_eq_true rfl) dX7_room_106 (fun q13 H hP hD hS => ?_)
      have hP : va_P D q_cl [(h0, .inr (5, [.ref q2, .ref q3, .int 0, .ref q7, .ref q8, .int 0, .ref q4, .ref q9, .ref q10, .ref q11, .ref q12, .ref ns, .ref nf, .int 0, .ref q5, .int 0, .ref nq])), (nx, .inl (aI, 0, .inl fx)), (nl, .inl (aI, 0, .inl fl)), (q2, .inl (aI, 3000, .inl (fun _ => 0))), (q3, .inl (aI, 3000, .inl (fun _ => 0))), (q4, .inl (aI, 3001, .inl (fun _ => 0))), (q5, .inl (aI, 3000, .inl (fun _ => 0))), (q7, .inl (aI, 1500, .inl (fun _ => 0))), (q8, .inl (aI, 1500, .inl (fun _ => 0))), (q9, .inl (aI, 3000, .inl (fun _ => 0))), (q10, .inl (aI, 3000, .inl (fun _ => 0))), (q11, .inl (aI, 3000, .inl (fun _ => 0))), (q12, .inl (aL, 3001, .inr (.inl (fun _ => 0)))), (q13, .inl (aI, 3001, .inl (fun _ => 0)))] H := hP
      have hD : va_D A [(h0, .inr (5, [.ref q2, .ref q3, .int 0, .ref q7, .ref q8, .int 0, .ref q4, .ref q9, .ref q10, .ref q11, .ref q12, .ref ns, .ref nf, .int 0, .ref q5, .int 0, .ref nq])), (nx, .inl (aI, 0, .inl fx)), (nl, .inl (aI, 0, .inl fl)), (q2, .inl (aI, 3000, .inl (fun _ => 0))), (q3, .inl (aI, 3000, .inl (fun _ => 0))), (q4, .inl (aI, 3001, .inl (fun _ => 0))), (q5, .inl (aI, 3000, .inl (fun _ => 0))), (q7, .inl (aI, 1500, .inl (fun _ => 0))), (q8, .inl (aI, 1500, .inl (fun _ => 0))), (q9, .inl (aI, 3000, .inl (fun _ => 0))), (q10, .inl (aI, 3000, .inl (fun _ => 0))), (q11, .inl (aI, 3000, .inl (fun _ => 0))), (q12, .inl (aL, 3001, .inr (.inl (fun _ => 0)))), (q13, .inl (aI, 3001, .inl (fun _ => 0)))] := hD
      refine va_put (D := D) (ci := 5) (v := .ref q13) (ty := (.array .int)) (C := RX7) (T := TX7) (N := 17) hx hb hts n_X7_room_X7 tyX7 tyX7_ok nmX7 hown hK hP hD hS 0 rfl rfl 11 (by decide) (hts (.fieldLink RX7 38 "FaceMapModel$Net" "least" "[I") (List.mem_of_getElem? (i := 13) rfl)) (fun _ h9 => h9) rfl (by decide +kernel) rfl rfl (Nat.le_of_ble_eq_true rfl) dX7_room_108 (fun H locs hP hD hS => ?_)
      have hP : va_P D q_cl [(h0, .inr (5, [.ref q2, .ref q3, .int 0, .ref q7, .ref q8, .int 0, .ref q4, .ref q9, .ref q10, .ref q11, .ref q12, .ref q13, .ref nf, .int 0, .ref q5, .int 0, .ref nq])), (nx, .inl (aI, 0, .inl fx)), (nl, .inl (aI, 0, .inl fl)), (q2, .inl (aI, 3000, .inl (fun _ => 0))), (q3, .inl (aI, 3000, .inl (fun _ => 0))), (q4, .inl (aI, 3001, .inl (fun _ => 0))), (q5, .inl (aI, 3000, .inl (fun _ => 0))), (q7, .inl (aI, 1500, .inl (fun _ => 0))), (q8, .inl (aI, 1500, .inl (fun _ => 0))), (q9, .inl (aI, 3000, .inl (fun _ => 0))), (q10, .inl (aI, 3000, .inl (fun _ => 0))), (q11, .inl (aI, 3000, .inl (fun _ => 0))), (q12, .inl (aL, 3001, .inr (.inl (fun _ => 0)))), (q13, .inl (aI, 3001, .inl (fun _ => 0)))] H := hP
      have hD : va_D A [(h0, .inr (5, [.ref q2, .ref q3, .int 0, .ref q7, .ref q8, .int 0, .ref q4, .ref q9, .ref q10, .ref q11, .ref q12, .ref q13, .ref nf, .int 0, .ref q5, .int 0, .ref nq])), (nx, .inl (aI, 0, .inl fx)), (nl, .inl (aI, 0, .inl fl)), (q2, .inl (aI, 3000, .inl (fun _ => 0))), (q3, .inl (aI, 3000, .inl (fun _ => 0))), (q4, .inl (aI, 3001, .inl (fun _ => 0))), (q5, .inl (aI, 3000, .inl (fun _ => 0))), (q7, .inl (aI, 1500, .inl (fun _ => 0))), (q8, .inl (aI, 1500, .inl (fun _ => 0))), (q9, .inl (aI, 3000, .inl (fun _ => 0))), (q10, .inl (aI, 3000, .inl (fun _ => 0))), (q11, .inl (aI, 3000, .inl (fun _ => 0))), (q12, .inl (aL, 3001, .inr (.inl (fun _ => 0)))), (q13, .inl (aI, 3001, .inl (fun _ => 0)))] := hD
      refine lv_aload_n hx hb dX7_room_111 rfl (lv_at hl 0 rfl) ?_
      refine lv_iconst (v := 2) hx hb dX7_room_112 (by decide) ?_
      refine lv_iload_n hx hb dX7_room_113 rfl (lv_at hl 2 rfl) ?_
      refine lv_imul hx hb dX7_room_114 ?_
      refine q_vi (v := 3000) (by decide) ?_
      refine lv_iconst (v := 1) hx hb dX7_room_115 (by decide) ?_
      refine lv_iadd hx hb dX7_room_116 ?_
      refine q_vi (v := 3001) (by decide) ?_
      refine q_newI 3001 hx hb (hts (.arrayClass .int) (List.mem_of_getElem? (i := 2) rfl)) hK hP hD hS hA 0 rfl (by decide) (by decide) (by decide) (Nat.le_of_ble_eq_true rfl) (Nat.le_of_ble_eq_true rfl) dX7_room_117 (fun q14 H hP hD hS => ?_)
      have hP : va_P D q_cl [(h0, .inr (5, [.ref q2, .ref q3, .int 0, .ref q7, .ref q8, .int 0, .ref q4, .ref q9, .ref q10, .ref q11, .ref q12, .ref q13, .ref nf, .int 0, .ref q5, .int 0, .ref nq])), (nx, .inl (aI, 0, .inl fx)), (nl, .inl (aI, 0, .inl fl)), (q2, .inl (aI, 3000, .inl (fun _ => 0))), (q3, .inl (aI, 3000, .inl (fun _ => 0))), (q4, .inl (aI, 3001, .inl (fun _ => 0))), (q5, .inl (aI, 3000, .inl (fun _ => 0))), (q7, .inl (aI, 1500, .inl (fun _ => 0))), (q8, .inl (aI, 1500, .inl (fun _ => 0))), (q9, .inl (aI, 3000, .inl (fun _ => 0))), (q10, .inl (aI, 3000, .inl (fun _ => 0))), (q11, .inl (aI, 3000, .inl (fun _ => 0))), (q12, .inl (aL, 3001, .inr (.inl (fun _ => 0)))), (q13, .inl (aI, 3001, .inl (fun _ => 0))), (q14, .inl (aI, 3001, .inl (fun _ => 0)))] H := hP
      have hD : va_D A [(h0, .inr (5, [.ref q2, .ref q3, .int 0, .ref q7, .ref q8, .int 0, .ref q4, .ref q9, .ref q10, .ref q11, .ref q12, .ref q13, .ref nf, .int 0, .ref q5, .int 0, .ref nq])), (nx, .inl (aI, 0, .inl fx)), (nl, .inl (aI, 0, .inl fl)), (q2, .inl (aI, 3000, .inl (fun _ => 0))), (q3, .inl (aI, 3000, .inl (fun _ => 0))), (q4, .inl (aI, 3001, .inl (fun _ => 0))), (q5, .inl (aI, 3000, .inl (fun _ => 0))), (q7, .inl (aI, 1500, .inl (fun _ => 0))), (q8, .inl (aI, 1500, .inl (fun _ => 0))), (q9, .inl (aI, 3000, .inl (fun _ => 0))), (q10, .inl (aI, 3000, .inl (fun _ => 0))), (q11, .inl (aI, 3000, .inl (fun _ => 0))), (q12, .inl (aL, 3001, .inr (.inl (fun _ => 0)))), (q13, .inl (aI, 3001, .inl (fun _ => 0))), (q14, .inl (aI, 3001, .inl (fun _ => 0)))] := hD
      refine va_put (D := D) (ci := 5) (v := .ref q14) (ty := (.array .int)) (C := RX7) (T := TX7) (N := 17) hx hb hts n_X7_room_X7 tyX7 tyX7_ok nmX7 hown hK hP hD hS 0 rfl rfl 12 (by decide) (hts (.fieldLink RX7 41 "FaceMapModel$Net" "faceOf" "[I") (List.mem_of_getElem? (i := 14) rfl)) (fun _ h9 => h9) rfl (by decide +kernel) rfl rfl (Nat.le_of_ble_eq_true rfl) dX7_room_119 (fun H locs hP hD hS => ?_)
      have hP : va_P D q_cl [(h0, .inr (5, [.ref q2, .ref q3, .int 0, .ref q7, .ref q8, .int 0, .ref q4, .ref q9, .ref q10, .ref q11, .ref q12, .ref q13, .ref q14, .int 0, .ref q5, .int 0, .ref nq])), (nx, .inl (aI, 0, .inl fx)), (nl, .inl (aI, 0, .inl fl)), (q2, .inl (aI, 3000, .inl (fun _ => 0))), (q3, .inl (aI, 3000, .inl (fun _ => 0))), (q4, .inl (aI, 3001, .inl (fun _ => 0))), (q5, .inl (aI, 3000, .inl (fun _ => 0))), (q7, .inl (aI, 1500, .inl (fun _ => 0))), (q8, .inl (aI, 1500, .inl (fun _ => 0))), (q9, .inl (aI, 3000, .inl (fun _ => 0))), (q10, .inl (aI, 3000, .inl (fun _ => 0))), (q11, .inl (aI, 3000, .inl (fun _ => 0))), (q12, .inl (aL, 3001, .inr (.inl (fun _ => 0)))), (q13, .inl (aI, 3001, .inl (fun _ => 0))), (q14, .inl (aI, 3001, .inl (fun _ => 0)))] H := hP
      have hD : va_D A [(h0, .inr (5, [.ref q2, .ref q3, .int 0, .ref q7, .ref q8, .int 0, .ref q4, .ref q9, .ref q10, .ref q11, .ref q12, .ref q13, .ref q14, .int 0, .ref q5, .int 0, .ref nq])), (nx, .inl (aI, 0, .inl fx)), (nl, .inl (aI, 0, .inl fl)), (q2, .inl (aI, 3000, .inl (fun _ => 0))), (q3, .inl (aI, 3000, .inl (fun _ => 0))), (q4, .inl (aI, 3001, .inl (fun _ => 0))), (q5, .inl (aI, 3000, .inl (fun _ => 0))), (q7, .inl (aI, 1500, .inl (fun _ => 0))), (q8, .inl (aI, 1500, .inl (fun _ => 0))), (q9, .inl (aI, 3000, .inl (fun _ => 0))), (q10, .inl (aI, 3000, .inl (fun _ => 0))), (q11, .inl (aI, 3000, .inl (fun _ => 0))), (q12, .inl (aL, 3001, .inr (.inl (fun _ => 0)))), (q13, .inl (aI, 3001, .inl (fun _ => 0))), (q14, .inl (aI, 3001, .inl (fun _ => 0)))] := hD
      refine lv_aload_n hx hb dX7_room_122 rfl (lv_at hl 0 rfl) ?_
      refine lv_iconst (v := 2) hx hb dX7_room_123 (by decide) ?_
      refine lv_iload_n hx hb dX7_room_124 rfl (lv_at hl 2 rfl) ?_
      refine lv_imul hx hb dX7_room_125 ?_
      refine q_vi (v := 3000) (by decide) ?_
      refine lv_iconst (v := 1) hx hb dX7_room_126 (by decide) ?_
      refine lv_iadd hx hb dX7_room_127 ?_
      refine q_vi (v := 3001) (by decide) ?_
      refine q_newZ 3001 hx hb (hts (.arrayClass .boolean) (List.mem_of_getElem? (i := 15) rfl)) hK hP hD hS hA 2 rfl (by decide) (by decide) (by decide) (Nat.le_of_ble_eq_true rfl) (Nat.le_of_ble_eq_true rfl) dX7_room_128 (fun q15 H hP hD hS => ?_)
      have hP : va_P D q_cl [(h0, .inr (5, [.ref q2, .ref q3, .int 0, .ref q7, .ref q8, .int 0, .ref q4, .ref q9, .ref q10, .ref q11, .ref q12, .ref q13, .ref q14, .int 0, .ref q5, .int 0, .ref nq])), (nx, .inl (aI, 0, .inl fx)), (nl, .inl (aI, 0, .inl fl)), (q2, .inl (aI, 3000, .inl (fun _ => 0))), (q3, .inl (aI, 3000, .inl (fun _ => 0))), (q4, .inl (aI, 3001, .inl (fun _ => 0))), (q5, .inl (aI, 3000, .inl (fun _ => 0))), (q7, .inl (aI, 1500, .inl (fun _ => 0))), (q8, .inl (aI, 1500, .inl (fun _ => 0))), (q9, .inl (aI, 3000, .inl (fun _ => 0))), (q10, .inl (aI, 3000, .inl (fun _ => 0))), (q11, .inl (aI, 3000, .inl (fun _ => 0))), (q12, .inl (aL, 3001, .inr (.inl (fun _ => 0)))), (q13, .inl (aI, 3001, .inl (fun _ => 0))), (q14, .inl (aI, 3001, .inl (fun _ => 0))), (q15, .inl (aZ, 3001, .inl (fun _ => 0)))] H := hP
      have hD : va_D A [(h0, .inr (5, [.ref q2, .ref q3, .int 0, .ref q7, .ref q8, .int 0, .ref q4, .ref q9, .ref q10, .ref q11, .ref q12, .ref q13, .ref q14, .int 0, .ref q5, .int 0, .ref nq])), (nx, .inl (aI, 0, .inl fx)), (nl, .inl (aI, 0, .inl fl)), (q2, .inl (aI, 3000, .inl (fun _ => 0))), (q3, .inl (aI, 3000, .inl (fun _ => 0))), (q4, .inl (aI, 3001, .inl (fun _ => 0))), (q5, .inl (aI, 3000, .inl (fun _ => 0))), (q7, .inl (aI, 1500, .inl (fun _ => 0))), (q8, .inl (aI, 1500, .inl (fun _ => 0))), (q9, .inl (aI, 3000, .inl (fun _ => 0))), (q10, .inl (aI, 3000, .inl (fun _ => 0))), (q11, .inl (aI, 3000, .inl (fun _ => 0))), (q12, .inl (aL, 3001, .inr (.inl (fun _ => 0)))), (q13, .inl (aI, 3001, .inl (fun _ => 0))), (q14, .inl (aI, 3001, .inl (fun _ => 0))), (q15, .inl (aZ, 3001, .inl (fun _ => 0)))] := hD
      refine va_put (D := D) (ci := 5) (v := .ref q15) (ty := (.array .boolean)) (C := RX7) (T := TX7) (N := 17) hx hb hts n_X7_room_X7 tyX7 tyX7_ok nmX7 hown hK hP hD hS 0 rfl rfl 16 (by decide) (hts (.fieldLink RX7 47 "FaceMapModel$Net" "odd" "[Z") (List.mem_of_getElem? (i := 16) rfl)) (fun _ h9 => h9) rfl (by decide +kernel) rfl rfl (Nat.le_of_ble_eq_true rfl) dX7_room_130 (fun H locs hP hD hS => ?_)
      have hP : va_P D q_cl [(h0, .inr (5, [.ref q2, .ref q3, .int 0, .ref q7, .ref q8, .int 0, .ref q4, .ref q9, .ref q10, .ref q11, .ref q12, .ref q13, .ref q14, .int 0, .ref q5, .int 0, .ref q15])), (nx, .inl (aI, 0, .inl fx)), (nl, .inl (aI, 0, .inl fl)), (q2, .inl (aI, 3000, .inl (fun _ => 0))), (q3, .inl (aI, 3000, .inl (fun _ => 0))), (q4, .inl (aI, 3001, .inl (fun _ => 0))), (q5, .inl (aI, 3000, .inl (fun _ => 0))), (q7, .inl (aI, 1500, .inl (fun _ => 0))), (q8, .inl (aI, 1500, .inl (fun _ => 0))), (q9, .inl (aI, 3000, .inl (fun _ => 0))), (q10, .inl (aI, 3000, .inl (fun _ => 0))), (q11, .inl (aI, 3000, .inl (fun _ => 0))), (q12, .inl (aL, 3001, .inr (.inl (fun _ => 0)))), (q13, .inl (aI, 3001, .inl (fun _ => 0))), (q14, .inl (aI, 3001, .inl (fun _ => 0))), (q15, .inl (aZ, 3001, .inl (fun _ => 0)))] H := hP
      have hD : va_D A [(h0, .inr (5, [.ref q2, .ref q3, .int 0, .ref q7, .ref q8, .int 0, .ref q4, .ref q9, .ref q10, .ref q11, .ref q12, .ref q13, .ref q14, .int 0, .ref q5, .int 0, .ref q15])), (nx, .inl (aI, 0, .inl fx)), (nl, .inl (aI, 0, .inl fl)), (q2, .inl (aI, 3000, .inl (fun _ => 0))), (q3, .inl (aI, 3000, .inl (fun _ => 0))), (q4, .inl (aI, 3001, .inl (fun _ => 0))), (q5, .inl (aI, 3000, .inl (fun _ => 0))), (q7, .inl (aI, 1500, .inl (fun _ => 0))), (q8, .inl (aI, 1500, .inl (fun _ => 0))), (q9, .inl (aI, 3000, .inl (fun _ => 0))), (q10, .inl (aI, 3000, .inl (fun _ => 0))), (q11, .inl (aI, 3000, .inl (fun _ => 0))), (q12, .inl (aL, 3001, .inr (.inl (fun _ => 0)))), (q13, .inl (aI, 3001, .inl (fun _ => 0))), (q14, .inl (aI, 3001, .inl (fun _ => 0))), (q15, .inl (aZ, 3001, .inl (fun _ => 0)))] := hD
      have hP9 := hP.sub (ws' := [(h0, .inr (5, [.ref q2, .ref q3, .int 0, .ref q7, .ref q8, .int 0, .ref q4, .ref q9, .ref q10, .ref q11, .ref q12, .ref q13, .ref q14, .int 0, .ref q5, .int 0, .ref q15])), (q4, .inl (aI, 3001, .inl (fun _ => 0)))]) [0, 5] rfl
      have hD9 := hD.sub (ws' := [(h0, .inr (5, [.ref q2, .ref q3, .int 0, .ref q7, .ref q8, .int 0, .ref q4, .ref q9, .ref q10, .ref q11, .ref q12, .ref q13, .ref q14, .int 0, .ref q5, .int 0, .ref q15])), (q4, .inl (aI, 3001, .inl (fun _ => 0)))]) [0, 5] (by decide) rfl
      exact q_retv (q2, q3, q7, q8, q4, q9, q10, q11, q12, q13, q14, q5, q15) hx hb hr hlocks hK hP9 hD9 hS (Nat.le_of_ble_eq_true rfl) (Nat.le_of_ble_eq_true rfl) (trivial) dX7_room_133
def vsX7_sortOut : List Cond := .code yX7_sortOut cX7_sortOut 6 none :: ([.fieldLink RX7 67 "FaceMapModel$Net" "nodes" "I", .fieldLink RX7 22 "FaceMapModel$Net" "begins" "[I", .fieldLink RX7 71 "FaceMapModel$Net" "pieces" "I"] ++ wsX70)
set_option maxRecDepth 20000 in
theorem n_X7_sortOut_X7 : ∀ w ∈ wsX70, w ∈ vsX7_sortOut := fun _ h => List.mem_cons_of_mem _ (List.mem_append_right _ h)
set_option maxHeartbeats 4000000 in
set_option maxRecDepth 100000 in
/-- Net.sortOut of none -/
theorem c_X7_sortOut (l : Launch) (D : va_G) (aI aL aZ : ClassId) (h0 : Nat) (nx : Nat) (ny : Nat) (nl : Nat) (nh : Nat) (nb : Nat) (no : Nat) (nr : Nat) (nd : Nat) (na : Nat) (ns : Nat) (nf : Nat) (np : Nat) (nq : Nat) (fb : Nat → Int32) (sz : Nat) : MV l D q_cl (q_ty aI aL aZ) yX7_sortOut vsX7_sortOut 0 0 0 [.ref h0] [(h0, .inr (5, [.ref nx, .ref ny, .int 0, .ref nl, .ref nh, .int 0, .ref nb, .ref no, .ref nr, .ref nd, .ref na, .ref ns, .ref nf, .int 0, .ref np, .int 0, .ref nq])), (nb, .inl (aI, 3001, .inl fb))] sz (fun (u : Unit) => True) (fun (u : Unit) => [(h0, .inr (5, [.ref nx, .ref ny, .int 0, .ref nl, .ref nh, .int 0, .ref nb, .ref no, .ref nr, .ref nd, .ref na, .ref ns, .ref nf, .int 0, .ref np, .int 0, .ref nq]))]) := by
  refine q_in cX7_sortOut 6 none (qQv D q_cl (q_ty aI aL aZ) _ _) (by decide) rfl (Nat.le_of_ble_eq_true rfl) ?_
  intro p e s m args below meth c A ls hat hP hD hS hl
  obtain ⟨hx, hb, hr, hts, hown, hlocks, hml, hin, hK, hN, hA⟩ := hat
  have hown : s.vm.findClass RX7 = some m.cls := hown
  have hl : lv_has ls 6 [(0, .ref h0)] := hl
  refine lv_iconst (v := 0) hx hb dX7_sortOut_0 (by decide) ?_
  refine lv_istore_n (lv' := [(1, .int 0), (0, .ref h0)]) hx hb dX7_sortOut_1 rfl hl (by decide) rfl (fun ls hl => ?_)
  refine lv_iload_n hx hb dX7_sortOut_2 rfl (lv_at hl 0 rfl) ?_
  refine lv_aload_n hx hb dX7_sortOut_3 rfl (lv_at hl 1 rfl) ?_
  refine va_get (D := D) (ci := 5) (v := .int 0) (C := RX7) (T := TX7) (N := 17) hx hb hts n_X7_sortOut_X7 hown hK hP 0 rfl rfl 2 (by decide) (hts (.fieldLink RX7 67 "FaceMapModel$Net" "nodes" "I") (List.mem_of_getElem? (i := 1) rfl)) (fun _ h9 => h9) rfl dX7_sortOut_4 ?_
  refine lv_icmp_gt (tgt := 23) hx hb dX7_sortOut_7 (by decide) (fun c_1 => ?_) (fun c_1 => ?_)
  · exact absurd c_1 (by decide)
  · refine lv_aload_n hx hb dX7_sortOut_10 rfl (lv_at hl 1 rfl) ?_
    refine va_get (D := D) (ci := 5) (v := .ref nb) (C := RX7) (T := TX7) (N := 17) hx hb hts n_X7_sortOut_X7 hown hK hP 0 rfl rfl 6 (by decide) (hts (.fieldLink RX7 22 "FaceMapModel$Net" "begins" "[I") (List.mem_of_getElem? (i := 2) rfl)) (fun _ h9 => h9) rfl dX7_sortOut_11 ?_
    refine lv_iload_n hx hb dX7_sortOut_14 rfl (lv_at hl 0 rfl) ?_
    refine lv_iconst (v := 0) hx hb dX7_sortOut_15 (by decide) ?_
    refine va_iast hx hb hK hP hD hS 1 0 rfl rfl (q_ix 0 (by decide) (by decide) (by decide)) dX7_sortOut_16 (fun H locs hP hD hS => ?_)
    have hP : va_P D q_cl [(h0, .inr (5, [.ref nx, .ref ny, .int 0, .ref nl, .ref nh, .int 0, .ref nb, .ref no, .ref nr, .ref nd, .ref na, .ref ns, .ref nf, .int 0, .ref np, .int 0, .ref nq])), (nb, .inl (aI, 3001, .inl (upd fb 0 0)))] H := hP
    have hD : va_D A [(h0, .inr (5, [.ref nx, .ref ny, .int 0, .ref nl, .ref nh, .int 0, .ref nb, .ref no, .ref nr, .ref nd, .ref na, .ref ns, .ref nf, .int 0, .ref np, .int 0, .ref nq])), (nb, .inl (aI, 3001, .inl (upd fb 0 0)))] := hD
    refine lv_iinc (v := 1) (lv' := [(1, .int 1), (0, .ref h0)]) hx hb dX7_sortOut_17 hl (k := 0) rfl (by decide) (by decide) rfl (fun ls hl => ?_)
    refine lv_goto (tgt := 2) hx hb dX7_sortOut_20 (by decide) ?_
    refine lv_iload_n hx hb dX7_sortOut_2 rfl (lv_at hl 0 rfl) ?_
    refine lv_aload_n hx hb dX7_sortOut_3 rfl (lv_at hl 1 rfl) ?_
    refine va_get (D := D) (ci := 5) (v := .int 0) (C := RX7) (T := TX7) (N := 17) hx hb hts n_X7_sortOut_X7 hown hK hP 0 rfl rfl 2 (by decide) (hts (.fieldLink RX7 67 "FaceMapModel$Net" "nodes" "I") (List.mem_of_getElem? (i := 1) rfl)) (fun _ h9 => h9) rfl dX7_sortOut_4 ?_
    refine lv_icmp_gt (tgt := 23) hx hb dX7_sortOut_7 (by decide) (fun c_2 => ?_) (fun c_2 => ?_)
    · refine lv_iconst (v := 0) hx hb dX7_sortOut_23 (by decide) ?_
      refine lv_istore_n (lv' := [(1, .int 0), (0, .ref h0)]) hx hb dX7_sortOut_24 rfl hl (by decide) rfl (fun ls hl => ?_)
      refine lv_iload_n hx hb dX7_sortOut_25 rfl (lv_at hl 0 rfl) ?_
      refine lv_iconst (v := 2) hx hb dX7_sortOut_26 (by decide) ?_
      refine lv_aload_n hx hb dX7_sortOut_27 rfl (lv_at hl 1 rfl) ?_
      refine va_get (D := D) (ci := 5) (v := .int 0) (C := RX7) (T := TX7) (N := 17) hx hb hts n_X7_sortOut_X7 hown hK hP 0 rfl rfl 5 (by decide) (hts (.fieldLink RX7 71 "FaceMapModel$Net" "pieces" "I") (List.mem_of_getElem? (i := 3) rfl)) (fun _ h9 => h9) rfl dX7_sortOut_28 ?_
      refine lv_imul hx hb dX7_sortOut_31 ?_
      refine q_vi (v := 0) (by decide) ?_
      refine lv_icmp_ge (tgt := 55) hx hb dX7_sortOut_32 (by decide) (fun c_3 => ?_) (fun c_3 => ?_)
      · refine lv_iconst (v := 0) hx hb dX7_sortOut_55 (by decide) ?_
        refine lv_istore_n (lv' := [(1, .int 0), (0, .ref h0)]) hx hb dX7_sortOut_56 rfl hl (by decide) rfl (fun ls hl => ?_)
        refine lv_iconst (v := 0) hx hb dX7_sortOut_57 (by decide) ?_
        refine lv_istore_n (lv' := [(2, .int 0), (1, .int 0), (0, .ref h0)]) hx hb dX7_sortOut_58 rfl hl (by decide) rfl (fun ls hl => ?_)
        refine lv_iload_n hx hb dX7_sortOut_59 rfl (lv_at hl 0 rfl) ?_
        refine lv_aload_n hx hb dX7_sortOut_60 rfl (lv_at hl 2 rfl) ?_
        refine va_get (D := D) (ci := 5) (v := .int 0) (C := RX7) (T := TX7) (N := 17) hx hb hts n_X7_sortOut_X7 hown hK hP 0 rfl rfl 2 (by decide) (hts (.fieldLink RX7 67 "FaceMapModel$Net" "nodes" "I") (List.mem_of_getElem? (i := 1) rfl)) (fun _ h9 => h9) rfl dX7_sortOut_61 ?_
        refine lv_icmp_gt (tgt := 103) hx hb dX7_sortOut_64 (by decide) (fun c_4 => ?_) (fun c_4 => ?_)
        · exact absurd c_4 (by decide)
        · refine lv_iload_n hx hb dX7_sortOut_67 rfl (lv_at hl 0 rfl) ?_
          refine lv_aload_n hx hb dX7_sortOut_68 rfl (lv_at hl 2 rfl) ?_
          refine va_get (D := D) (ci := 5) (v := .int 0) (C := RX7) (T := TX7) (N := 17) hx hb hts n_X7_sortOut_X7 hown hK hP 0 rfl rfl 2 (by decide) (hts (.fieldLink RX7 67 "FaceMapModel$Net" "nodes" "I") (List.mem_of_getElem? (i := 1) rfl)) (fun _ h9 => h9) rfl dX7_sortOut_69 ?_
          refine lv_icmp_ge (tgt := 84) hx hb dX7_sortOut_72 (by decide) (fun c_5 => ?_) (fun c_5 => ?_)
          · refine lv_iconst (v := 0) hx hb dX7_sortOut_84 (by decide) ?_
            refine lv_istore_n (lv' := [(3, .int 0), (2, .int 0), (1, .int 0), (0, .ref h0)]) hx hb dX7_sortOut_85 rfl hl (by decide) rfl (fun ls hl => ?_)
            refine lv_aload_n hx hb dX7_sortOut_86 rfl (lv_at hl 3 rfl) ?_
            refine va_get (D := D) (ci := 5) (v := .ref nb) (C := RX7) (T := TX7) (N := 17) hx hb hts n_X7_sortOut_X7 hown hK hP 0 rfl rfl 6 (by decide) (hts (.fieldLink RX7 22 "FaceMapModel$Net" "begins" "[I") (List.mem_of_getElem? (i := 2) rfl)) (fun _ h9 => h9) rfl dX7_sortOut_87 ?_
            refine lv_iload_n hx hb dX7_sortOut_90 rfl (lv_at hl 1 rfl) ?_
            refine lv_iload_n hx hb dX7_sortOut_91 rfl (lv_at hl 2 rfl) ?_
            refine va_iast hx hb hK hP hD hS 1 0 rfl rfl (q_ix 0 (by decide) (by decide) (by decide)) dX7_sortOut_92 (fun H locs hP hD hS => ?_)
            have hP : va_P D q_cl [(h0, .inr (5, [.ref nx, .ref ny, .int 0, .ref nl, .ref nh, .int 0, .ref nb, .ref no, .ref nr, .ref nd, .ref na, .ref ns, .ref nf, .int 0, .ref np, .int 0, .ref nq])), (nb, .inl (aI, 3001, .inl (upd (upd fb 0 0) 0 0)))] H := hP
            have hD : va_D A [(h0, .inr (5, [.ref nx, .ref ny, .int 0, .ref nl, .ref nh, .int 0, .ref nb, .ref no, .ref nr, .ref nd, .ref na, .ref ns, .ref nf, .int 0, .ref np, .int 0, .ref nq])), (nb, .inl (aI, 3001, .inl (upd (upd fb 0 0) 0 0)))] := hD
            refine lv_iload_n hx hb dX7_sortOut_93 rfl (lv_at hl 2 rfl) ?_
            refine lv_iload_n hx hb dX7_sortOut_94 rfl (lv_at hl 0 rfl) ?_
            refine lv_iadd hx hb dX7_sortOut_95 ?_
            refine q_vi (v := 0) (by decide) ?_
            refine lv_istore_n (lv' := [(1, .int 0), (3, .int 0), (2, .int 0), (0, .ref h0)]) hx hb dX7_sortOut_96 rfl hl (by decide) rfl (fun ls hl => ?_)
            refine lv_iinc (v := 1) (lv' := [(2, .int 1), (1, .int 0), (3, .int 0), (0, .ref h0)]) hx hb dX7_sortOut_97 hl (k := 2) rfl (by decide) (by decide) rfl (fun ls hl => ?_)
            refine lv_goto (tgt := 59) hx hb dX7_sortOut_100 (by decide) ?_
            refine lv_iload_n hx hb dX7_sortOut_59 rfl (lv_at hl 0 rfl) ?_
            refine lv_aload_n hx hb dX7_sortOut_60 rfl (lv_at hl 3 rfl) ?_
            refine va_get (D := D) (ci := 5) (v := .int 0) (C := RX7) (T := TX7) (N := 17) hx hb hts n_X7_sortOut_X7 hown hK hP 0 rfl rfl 2 (by decide) (hts (.fieldLink RX7 67 "FaceMapModel$Net" "nodes" "I") (List.mem_of_getElem? (i := 1) rfl)) (fun _ h9 => h9) rfl dX7_sortOut_61 ?_
            refine lv_icmp_gt (tgt := 103) hx hb dX7_sortOut_64 (by decide) (fun c_6 => ?_) (fun c_6 => ?_)
            · refine lv_iconst (v := 0) hx hb dX7_sortOut_103 (by decide) ?_
              refine lv_istore_n (lv' := [(2, .int 0), (1, .int 0), (3, .int 0), (0, .ref h0)]) hx hb dX7_sortOut_104 rfl hl (by decide) rfl (fun ls hl => ?_)
              refine lv_iload_n hx hb dX7_sortOut_105 rfl (lv_at hl 0 rfl) ?_
              refine lv_iconst (v := 2) hx hb dX7_sortOut_106 (by decide) ?_
              refine lv_aload_n hx hb dX7_sortOut_107 rfl (lv_at hl 3 rfl) ?_
              refine va_get (D := D) (ci := 5) (v := .int 0) (C := RX7) (T := TX7) (N := 17) hx hb hts n_X7_sortOut_X7 hown hK hP 0 rfl rfl 5 (by decide) (hts (.fieldLink RX7 71 "FaceMapModel$Net" "pieces" "I") (List.mem_of_getElem? (i := 3) rfl)) (fun _ h9 => h9) rfl dX7_sortOut_108 ?_
              refine lv_imul hx hb dX7_sortOut_111 ?_
              refine q_vi (v := 0) (by decide) ?_
              refine lv_icmp_ge (tgt := 128) hx hb dX7_sortOut_112 (by decide) (fun c_7 => ?_) (fun c_7 => ?_)
              · refine lv_iconst (v := 0) hx hb dX7_sortOut_128 (by decide) ?_
                refine lv_istore_n (lv' := [(2, .int 0), (1, .int 0), (3, .int 0), (0, .ref h0)]) hx hb dX7_sortOut_129 rfl hl (by decide) rfl (fun ls hl => ?_)
                refine lv_iload_n hx hb dX7_sortOut_130 rfl (lv_at hl 0 rfl) ?_
                refine lv_iconst (v := 2) hx hb dX7_sortOut_131 (by decide) ?_
                refine lv_aload_n hx hb dX7_sortOut_132 rfl (lv_at hl 3 rfl) ?_
                refine va_get (D := D) (ci := 5) (v := .int 0) (C := RX7) (T := TX7) (N := 17) hx hb hts n_X7_sortOut_X7 hown hK hP 0 rfl rfl 5 (by decide) (hts (.fieldLink RX7 71 "FaceMapModel$Net" "pieces" "I") (List.mem_of_getElem? (i := 3) rfl)) (fun _ h9 => h9) rfl dX7_sortOut_133 ?_
                refine lv_imul hx hb dX7_sortOut_136 ?_
                refine q_vi (v := 0) (by decide) ?_
                refine lv_icmp_ge (tgt := 220) hx hb dX7_sortOut_137 (by decide) (fun c_8 => ?_) (fun c_8 => ?_)
                · refine lv_iconst (v := 0) hx hb dX7_sortOut_220 (by decide) ?_
                  refine lv_istore_n (lv' := [(2, .int 0), (1, .int 0), (3, .int 0), (0, .ref h0)]) hx hb dX7_sortOut_221 rfl hl (by decide) rfl (fun ls hl => ?_)
                  refine lv_iload_n hx hb dX7_sortOut_222 rfl (lv_at hl 0 rfl) ?_
                  refine lv_iconst (v := 2) hx hb dX7_sortOut_223 (by decide) ?_
                  refine lv_aload_n hx hb dX7_sortOut_224 rfl (lv_at hl 3 rfl) ?_
                  refine va_get (D := D) (ci := 5) (v := .int 0) (C := RX7) (T := TX7) (N := 17) hx hb hts n_X7_sortOut_X7 hown hK hP 0 rfl rfl 5 (by decide) (hts (.fieldLink RX7 71 "FaceMapModel$Net" "pieces" "I") (List.mem_of_getElem? (i := 3) rfl)) (fun _ h9 => h9) rfl dX7_sortOut_225 ?_
                  refine lv_imul hx hb dX7_sortOut_228 ?_
                  refine q_vi (v := 0) (by decide) ?_
                  refine lv_icmp_ge (tgt := 250) hx hb dX7_sortOut_229 (by decide) (fun c_9 => ?_) (fun c_9 => ?_)
                  · have hP9 := hP.sub (ws' := [(h0, .inr (5, [.ref nx, .ref ny, .int 0, .ref nl, .ref nh, .int 0, .ref nb, .ref no, .ref nr, .ref nd, .ref na, .ref ns, .ref nf, .int 0, .ref np, .int 0, .ref nq]))]) [0] rfl
                    have hD9 := hD.sub (ws' := [(h0, .inr (5, [.ref nx, .ref ny, .int 0, .ref nl, .ref nh, .int 0, .ref nb, .ref no, .ref nr, .ref nd, .ref na, .ref ns, .ref nf, .int 0, .ref np, .int 0, .ref nq]))]) [0] (by decide) rfl
                    exact q_retv () hx hb hr hlocks hK hP9 hD9 hS (Nat.le_of_ble_eq_true rfl) (Nat.le_of_ble_eq_true rfl) (trivial) dX7_sortOut_250
                  · exact absurd c_9 (by decide)
                · exact absurd c_8 (by decide)
              · exact absurd c_7 (by decide)
            · exact absurd c_6 (by decide)
          · exact absurd c_5 (by decide)
      · exact absurd c_3 (by decide)
    · exact absurd c_2 (by decide)
def vsX7_number : List Cond := .code yX7_number cX7_number 5 none :: ([.fieldLink RX7 107 "FaceMapModel$Net" "faces" "I", .fieldLink RX7 87 "FaceMapModel$Net" "rounds" "I"] ++ wsX70)
set_option maxRecDepth 20000 in
theorem n_X7_number_X7 : ∀ w ∈ wsX70, w ∈ vsX7_number := fun _ h => List.mem_cons_of_mem _ (List.mem_append_right _ h)
set_option maxHeartbeats 4000000 in
set_option maxRecDepth 100000 in
/-- Net.number of none -/
theorem c_X7_number (l : Launch) (D : va_G) (aI aL aZ : ClassId) (h0 : Nat) (nx : Nat) (ny : Nat) (nl : Nat) (nh : Nat) (nb : Nat) (no : Nat) (nr : Nat) (nd : Nat) (na : Nat) (ns : Nat) (nf : Nat) (np : Nat) (nq : Nat) (sz : Nat) : MV l D q_cl (q_ty aI aL aZ) yX7_number vsX7_number 0 0 0 [.ref h0] [(h0, .inr (5, [.ref nx, .ref ny, .int 0, .ref nl, .ref nh, .int 0, .ref nb, .ref no, .ref nr, .ref nd, .ref na, .ref ns, .ref nf, .int 0, .ref np, .int 0, .ref nq]))] sz (fun (u : Unit) => True) (fun (u : Unit) => [(h0, .inr (5, [.ref nx, .ref ny, .int 0, .ref nl, .ref nh, .int 0, .ref nb, .ref no, .ref nr, .ref nd, .ref na, .ref ns, .ref nf, .int 0, .ref np, .int 1, .ref nq]))]) := by
  refine q_in cX7_number 5 none (qQv D q_cl (q_ty aI aL aZ) _ _) (by decide) rfl (Nat.le_of_ble_eq_true rfl) ?_
  intro p e s m args below meth c A ls hat hP hD hS hl
  obtain ⟨hx, hb, hr, hts, hown, hlocks, hml, hin, hK, hN, hA⟩ := hat
  have hown : s.vm.findClass RX7 = some m.cls := hown
  have hl : lv_has ls 5 [(0, .ref h0)] := hl
  refine lv_aload_n hx hb dX7_number_0 rfl (lv_at hl 0 rfl) ?_
  refine lv_iconst (v := 1) hx hb dX7_number_1 (by decide) ?_
  refine va_put (D := D) (ci := 5) (v := .int 1) (ty := .int) (C := RX7) (T := TX7) (N := 17) hx hb hts n_X7_number_X7 tyX7 tyX7_ok nmX7 hown hK hP hD hS 0 rfl rfl 15 (by decide) (hts (.fieldLink RX7 107 "FaceMapModel$Net" "faces" "I") (List.mem_of_getElem? (i := 1) rfl)) (fun _ h9 => h9) rfl (by decide +kernel) rfl rfl (Nat.le_of_ble_eq_true rfl) dX7_number_2 (fun H locs hP hD hS => ?_)
  have hP : va_P D q_cl [(h0, .inr (5, [.ref nx, .ref ny, .int 0, .ref nl, .ref nh, .int 0, .ref nb, .ref no, .ref nr, .ref nd, .ref na, .ref ns, .ref nf, .int 0, .ref np, .int 1, .ref nq]))] H := hP
  have hD : va_D A [(h0, .inr (5, [.ref nx, .ref ny, .int 0, .ref nl, .ref nh, .int 0, .ref nb, .ref no, .ref nr, .ref nd, .ref na, .ref ns, .ref nf, .int 0, .ref np, .int 1, .ref nq]))] := hD
  refine lv_iconst (v := (-1)) hx hb dX7_number_5 (by decide) ?_
  refine lv_istore_n (lv' := [(1, .int (-1)), (0, .ref h0)]) hx hb dX7_number_6 rfl hl (by decide) rfl (fun ls hl => ?_)
  refine lv_iconst (v := 1) hx hb dX7_number_7 (by decide) ?_
  refine lv_istore_n (lv' := [(2, .int 1), (1, .int (-1)), (0, .ref h0)]) hx hb dX7_number_8 rfl hl (by decide) rfl (fun ls hl => ?_)
  refine lv_iload_n hx hb dX7_number_9 rfl (lv_at hl 0 rfl) ?_
  refine lv_if_eq (tgt := 141) hx hb dX7_number_10 (by decide) (fun c_1 => ?_) (fun c_1 => ?_)
  · exact absurd c_1 (by decide)
  · refine lv_iconst (v := (-1)) hx hb dX7_number_13 (by decide) ?_
    refine lv_istore_n (lv' := [(3, .int (-1)), (2, .int 1), (1, .int (-1)), (0, .ref h0)]) hx hb dX7_number_14 rfl hl (by decide) rfl (fun ls hl => ?_)
    refine lv_iconst (v := 0) hx hb dX7_number_15 (by decide) ?_
    refine lv_istore (lv' := [(4, .int 0), (3, .int (-1)), (2, .int 1), (1, .int (-1)), (0, .ref h0)]) hx hb dX7_number_16 hl (by decide) rfl (fun ls hl => ?_)
    refine lv_iload hx hb dX7_number_18 (lv_at hl 0 rfl) ?_
    refine lv_aload_n hx hb dX7_number_20 rfl (lv_at hl 4 rfl) ?_
    refine va_get (D := D) (ci := 5) (v := .int 0) (C := RX7) (T := TX7) (N := 17) hx hb hts n_X7_number_X7 hown hK hP 0 rfl rfl 13 (by decide) (hts (.fieldLink RX7 87 "FaceMapModel$Net" "rounds" "I") (List.mem_of_getElem? (i := 2) rfl)) (fun _ h9 => h9) rfl dX7_number_21 ?_
    refine lv_icmp_ge (tgt := 99) hx hb dX7_number_24 (by decide) (fun c_2 => ?_) (fun c_2 => ?_)
    · refine lv_iload_n hx hb dX7_number_99 rfl (lv_at hl 1 rfl) ?_
      refine lv_if_lt (tgt := 107) hx hb dX7_number_100 (by decide) (fun c_3 => ?_) (fun c_3 => ?_)
      · refine lv_iconst (v := 0) hx hb dX7_number_107 (by decide) ?_
        refine lv_istore_n (lv' := [(2, .int 0), (4, .int 0), (3, .int (-1)), (1, .int (-1)), (0, .ref h0)]) hx hb dX7_number_108 rfl hl (by decide) rfl (fun ls hl => ?_)
        refine lv_iload_n hx hb dX7_number_109 rfl (lv_at hl 0 rfl) ?_
        refine lv_if_ne (tgt := 116) hx hb dX7_number_110 (by decide) (fun c_4 => ?_) (fun c_4 => ?_)
        · exact absurd c_4 (by decide)
        · refine lv_goto (tgt := 9) hx hb dX7_number_113 (by decide) ?_
          refine lv_iload_n hx hb dX7_number_9 rfl (lv_at hl 0 rfl) ?_
          refine lv_if_eq (tgt := 141) hx hb dX7_number_10 (by decide) (fun c_5 => ?_) (fun c_5 => ?_)
          · have hP9 := hP.sub (ws' := [(h0, .inr (5, [.ref nx, .ref ny, .int 0, .ref nl, .ref nh, .int 0, .ref nb, .ref no, .ref nr, .ref nd, .ref na, .ref ns, .ref nf, .int 0, .ref np, .int 1, .ref nq]))]) [0] rfl
            have hD9 := hD.sub (ws' := [(h0, .inr (5, [.ref nx, .ref ny, .int 0, .ref nl, .ref nh, .int 0, .ref nb, .ref no, .ref nr, .ref nd, .ref na, .ref ns, .ref nf, .int 0, .ref np, .int 1, .ref nq]))]) [0] (by decide) rfl
            exact q_retv () hx hb hr hlocks hK hP9 hD9 hS (Nat.le_of_ble_eq_true rfl) (Nat.le_of_ble_eq_true rfl) (trivial) dX7_number_141
          · exact absurd c_5 (by decide)
      · exact absurd c_3 (by decide)
    · exact absurd c_2 (by decide)
def vsX7_build : List Cond := .code yX7_build cX7_build 2 none :: ([.fieldLink RX7 67 "FaceMapModel$Net" "nodes" "I", .fieldLink RX7 71 "FaceMapModel$Net" "pieces" "I", .fieldLink RX7 87 "FaceMapModel$Net" "rounds" "I", .methodLink RX7 81 yX7_sortOut, .instanceMethod yX7_sortOut, .selects RX7 yX7_sortOut yX7_sortOut, .initialized RX7, .code yX7_sortOut cX7_sortOut 6 none, .fieldLink RX7 22 "FaceMapModel$Net" "begins" "[I", .methodLink RX7 94 yX7_number, .instanceMethod yX7_number, .selects RX7 yX7_number yX7_number, .code yX7_number cX7_number 5 none, .fieldLink RX7 107 "FaceMapModel$Net" "faces" "I"] ++ wsX70)
set_option maxRecDepth 20000 in
theorem g_X7_build_X7_sortOut_81 : GoodIn vsX7_build (wsV RX7 81 RX7 yX7_sortOut vsX7_sortOut) := goodIn_r _ [4, 5, 6, 7, 8, 1, 9, 2, 15, 16, 17, 18, 19, 20, 21, 22, 23, 24, 25, 26, 27, 28, 29, 30, 31] rfl (by decide +kernel)
set_option maxRecDepth 20000 in
theorem n_X7_build_X7 : ∀ w ∈ wsX70, w ∈ vsX7_build := fun _ h => List.mem_cons_of_mem _ (List.mem_append_right _ h)
set_option maxRecDepth 20000 in
theorem g_X7_build_X7_number_94 : GoodIn vsX7_build (wsV RX7 94 RX7 yX7_number vsX7_number) := goodIn_r _ [10, 11, 12, 7, 13, 14, 3, 15, 16, 17, 18, 19, 20, 21, 22, 23, 24, 25, 26, 27, 28, 29, 30, 31] rfl (by decide +kernel)
set_option maxHeartbeats 4000000 in
set_option maxRecDepth 100000 in
/-- Net.build of none -/
theorem c_X7_build (l : Launch) (D : va_G) (aI aL aZ : ClassId) (h0 : Nat) (nx : Nat) (ny : Nat) (nl : Nat) (nh : Nat) (nb : Nat) (no : Nat) (nr : Nat) (nd : Nat) (na : Nat) (ns : Nat) (nf : Nat) (np : Nat) (nq : Nat) (fb : Nat → Int32) (sz : Nat) : MV l D q_cl (q_ty aI aL aZ) yX7_build vsX7_build 1 0 0 [.ref h0] [(h0, .inr (5, [.ref nx, .ref ny, .int 0, .ref nl, .ref nh, .int 0, .ref nb, .ref no, .ref nr, .ref nd, .ref na, .ref ns, .ref nf, .int 0, .ref np, .int 0, .ref nq])), (nb, .inl (aI, 3001, .inl fb))] sz (fun (u : Unit) => True) (fun (u : Unit) => [(h0, .inr (5, [.ref nx, .ref ny, .int 0, .ref nl, .ref nh, .int 0, .ref nb, .ref no, .ref nr, .ref nd, .ref na, .ref ns, .ref nf, .int 0, .ref np, .int 1, .ref nq]))]) := by
  refine q_in cX7_build 2 none (qQv D q_cl (q_ty aI aL aZ) _ _) (by decide) rfl (Nat.le_of_ble_eq_true rfl) ?_
  intro p e s m args below meth c A ls hat hP hD hS hl
  obtain ⟨hx, hb, hr, hts, hown, hlocks, hml, hin, hK, hN, hA⟩ := hat
  have hown : s.vm.findClass RX7 = some m.cls := hown
  have hl : lv_has ls 2 [(0, .ref h0)] := hl
  refine lv_aload_n hx hb dX7_build_0 rfl (lv_at hl 0 rfl) ?_
  refine q_v (wr := []) (q_runV (As := []) (rest := []) ⟨hx, hb, hml, hown, hts⟩ (c_X7_sortOut l D aI aL aZ h0 nx ny nl nh nb no nr nd na ns nf np nq fb _) (cwV 0 hts g_X7_build_X7_sortOut_81 rfl rfl rfl (by decide +kernel) ⟨Nat.le_of_ble_eq_true rfl, Nat.le_of_ble_eq_true rfl⟩) hK hN hP hD [0, 1] rfl (by decide) rfl rfl rfl hl.1 rfl (Nat.le_of_ble_eq_true rfl) dX7_build_1 ⟨Nat.le_of_ble_eq_true rfl, Nat.le_of_ble_eq_true rfl⟩) hP hD hS hA [0, 1] [] rfl rfl (by decide) (by decide) (fun u_1 H locs hw hP hD hS => ?_)
  have hP : va_P D q_cl [(h0, .inr (5, [.ref nx, .ref ny, .int 0, .ref nl, .ref nh, .int 0, .ref nb, .ref no, .ref nr, .ref nd, .ref na, .ref ns, .ref nf, .int 0, .ref np, .int 0, .ref nq]))] H := hP
  have hD : va_D A [(h0, .inr (5, [.ref nx, .ref ny, .int 0, .ref nl, .ref nh, .int 0, .ref nb, .ref no, .ref nr, .ref nd, .ref na, .ref ns, .ref nf, .int 0, .ref np, .int 0, .ref nq]))] := hD
  refine lv_iconst (v := 0) hx hb dX7_build_4 (by decide) ?_
  refine lv_istore_n (lv' := [(1, .int 0), (0, .ref h0)]) hx hb dX7_build_5 rfl hl (by decide) rfl (fun ls hl => ?_)
  refine lv_iload_n hx hb dX7_build_6 rfl (lv_at hl 0 rfl) ?_
  refine lv_aload_n hx hb dX7_build_7 rfl (lv_at hl 1 rfl) ?_
  refine va_get (D := D) (ci := 5) (v := .int 0) (C := RX7) (T := TX7) (N := 17) hx hb hts n_X7_build_X7 hown hK hP 0 rfl rfl 2 (by decide) (hts (.fieldLink RX7 67 "FaceMapModel$Net" "nodes" "I") (List.mem_of_getElem? (i := 1) rfl)) (fun _ h9 => h9) rfl dX7_build_8 ?_
  refine lv_icmp_ge (tgt := 27) hx hb dX7_build_11 (by decide) (fun c_2 => ?_) (fun c_2 => ?_)
  · refine lv_iconst (v := 0) hx hb dX7_build_27 (by decide) ?_
    refine lv_istore_n (lv' := [(1, .int 0), (0, .ref h0)]) hx hb dX7_build_28 rfl hl (by decide) rfl (fun ls hl => ?_)
    refine lv_iload_n hx hb dX7_build_29 rfl (lv_at hl 0 rfl) ?_
    refine lv_aload_n hx hb dX7_build_30 rfl (lv_at hl 1 rfl) ?_
    refine va_get (D := D) (ci := 5) (v := .int 0) (C := RX7) (T := TX7) (N := 17) hx hb hts n_X7_build_X7 hown hK hP 0 rfl rfl 5 (by decide) (hts (.fieldLink RX7 71 "FaceMapModel$Net" "pieces" "I") (List.mem_of_getElem? (i := 2) rfl)) (fun _ h9 => h9) rfl dX7_build_31 ?_
    refine lv_icmp_ge (tgt := 68) hx hb dX7_build_34 (by decide) (fun c_3 => ?_) (fun c_3 => ?_)
    · refine lv_iconst (v := 0) hx hb dX7_build_68 (by decide) ?_
      refine lv_istore_n (lv' := [(1, .int 0), (0, .ref h0)]) hx hb dX7_build_69 rfl hl (by decide) rfl (fun ls hl => ?_)
      refine lv_iload_n hx hb dX7_build_70 rfl (lv_at hl 0 rfl) ?_
      refine lv_aload_n hx hb dX7_build_71 rfl (lv_at hl 1 rfl) ?_
      refine va_get (D := D) (ci := 5) (v := .int 0) (C := RX7) (T := TX7) (N := 17) hx hb hts n_X7_build_X7 hown hK hP 0 rfl rfl 2 (by decide) (hts (.fieldLink RX7 67 "FaceMapModel$Net" "nodes" "I") (List.mem_of_getElem? (i := 1) rfl)) (fun _ h9 => h9) rfl dX7_build_72 ?_
      refine lv_icmp_ge (tgt := 95) hx hb dX7_build_75 (by decide) (fun c_4 => ?_) (fun c_4 => ?_)
      · refine lv_aload_n hx hb dX7_build_95 rfl (lv_at hl 1 rfl) ?_
        refine lv_iconst (v := 0) hx hb dX7_build_96 (by decide) ?_
        refine va_put (D := D) (ci := 5) (v := .int 0) (ty := .int) (C := RX7) (T := TX7) (N := 17) hx hb hts n_X7_build_X7 tyX7 tyX7_ok nmX7 hown hK hP hD hS 0 rfl rfl 13 (by decide) (hts (.fieldLink RX7 87 "FaceMapModel$Net" "rounds" "I") (List.mem_of_getElem? (i := 3) rfl)) (fun _ h9 => h9) rfl (by decide +kernel) rfl rfl (Nat.le_of_ble_eq_true rfl) dX7_build_97 (fun H locs hP hD hS => ?_)
        have hP : va_P D q_cl [(h0, .inr (5, [.ref nx, .ref ny, .int 0, .ref nl, .ref nh, .int 0, .ref nb, .ref no, .ref nr, .ref nd, .ref na, .ref ns, .ref nf, .int 0, .ref np, .int 0, .ref nq]))] H := hP
        have hD : va_D A [(h0, .inr (5, [.ref nx, .ref ny, .int 0, .ref nl, .ref nh, .int 0, .ref nb, .ref no, .ref nr, .ref nd, .ref na, .ref ns, .ref nf, .int 0, .ref np, .int 0, .ref nq]))] := hD
        refine lv_iconst (v := 0) hx hb dX7_build_100 (by decide) ?_
        refine lv_istore_n (lv' := [(1, .int 0), (0, .ref h0)]) hx hb dX7_build_101 rfl hl (by decide) rfl (fun ls hl => ?_)
        refine lv_iload_n hx hb dX7_build_102 rfl (lv_at hl 0 rfl) ?_
        refine lv_iconst (v := 2) hx hb dX7_build_103 (by decide) ?_
        refine lv_aload_n hx hb dX7_build_104 rfl (lv_at hl 1 rfl) ?_
        refine va_get (D := D) (ci := 5) (v := .int 0) (C := RX7) (T := TX7) (N := 17) hx hb hts n_X7_build_X7 hown hK hP 0 rfl rfl 5 (by decide) (hts (.fieldLink RX7 71 "FaceMapModel$Net" "pieces" "I") (List.mem_of_getElem? (i := 2) rfl)) (fun _ h9 => h9) rfl dX7_build_105 ?_
        refine lv_imul hx hb dX7_build_108 ?_
        refine q_vi (v := 0) (by decide) ?_
        refine lv_icmp_ge (tgt := 125) hx hb dX7_build_109 (by decide) (fun c_5 => ?_) (fun c_5 => ?_)
        · refine lv_iconst (v := 0) hx hb dX7_build_125 (by decide) ?_
          refine lv_istore_n (lv' := [(1, .int 0), (0, .ref h0)]) hx hb dX7_build_126 rfl hl (by decide) rfl (fun ls hl => ?_)
          refine lv_iload_n hx hb dX7_build_127 rfl (lv_at hl 0 rfl) ?_
          refine lv_iconst (v := 2) hx hb dX7_build_128 (by decide) ?_
          refine lv_aload_n hx hb dX7_build_129 rfl (lv_at hl 1 rfl) ?_
          refine va_get (D := D) (ci := 5) (v := .int 0) (C := RX7) (T := TX7) (N := 17) hx hb hts n_X7_build_X7 hown hK hP 0 rfl rfl 5 (by decide) (hts (.fieldLink RX7 71 "FaceMapModel$Net" "pieces" "I") (List.mem_of_getElem? (i := 2) rfl)) (fun _ h9 => h9) rfl dX7_build_130 ?_
          refine lv_imul hx hb dX7_build_133 ?_
          refine q_vi (v := 0) (by decide) ?_
          refine lv_icmp_ge (tgt := 157) hx hb dX7_build_134 (by decide) (fun c_6 => ?_) (fun c_6 => ?_)
          · refine lv_aload_n hx hb dX7_build_157 rfl (lv_at hl 1 rfl) ?_
            refine q_v (wr := []) (q_runV (As := []) (rest := []) ⟨hx, hb, hml, hown, hts⟩ (c_X7_number l D aI aL aZ h0 nx ny nl nh nb no nr nd na ns nf np nq _) (cwV 0 hts g_X7_build_X7_number_94 rfl rfl rfl (by decide +kernel) ⟨Nat.le_of_ble_eq_true rfl, Nat.le_of_ble_eq_true rfl⟩) hK hN hP hD [0] rfl (by decide) rfl rfl rfl hl.1 rfl (Nat.le_of_ble_eq_true rfl) dX7_build_158 ⟨Nat.le_of_ble_eq_true rfl, Nat.le_of_ble_eq_true rfl⟩) hP hD hS hA [0] [] rfl rfl (by decide) (by decide) (fun u_7 H locs hw hP hD hS => ?_)
            have hP : va_P D q_cl [(h0, .inr (5, [.ref nx, .ref ny, .int 0, .ref nl, .ref nh, .int 0, .ref nb, .ref no, .ref nr, .ref nd, .ref na, .ref ns, .ref nf, .int 0, .ref np, .int 1, .ref nq]))] H := hP
            have hD : va_D A [(h0, .inr (5, [.ref nx, .ref ny, .int 0, .ref nl, .ref nh, .int 0, .ref nb, .ref no, .ref nr, .ref nd, .ref na, .ref ns, .ref nf, .int 0, .ref np, .int 1, .ref nq]))] := hD
            refine lv_iconst (v := 0) hx hb dX7_build_161 (by decide) ?_
            refine lv_istore_n (lv' := [(1, .int 0), (0, .ref h0)]) hx hb dX7_build_162 rfl hl (by decide) rfl (fun ls hl => ?_)
            refine lv_iload_n hx hb dX7_build_163 rfl (lv_at hl 0 rfl) ?_
            refine lv_aload_n hx hb dX7_build_164 rfl (lv_at hl 1 rfl) ?_
            refine va_get (D := D) (ci := 5) (v := .int 0) (C := RX7) (T := TX7) (N := 17) hx hb hts n_X7_build_X7 hown hK hP 0 rfl rfl 13 (by decide) (hts (.fieldLink RX7 87 "FaceMapModel$Net" "rounds" "I") (List.mem_of_getElem? (i := 3) rfl)) (fun _ h9 => h9) rfl dX7_build_165 ?_
            refine lv_icmp_ge (tgt := 223) hx hb dX7_build_168 (by decide) (fun c_8 => ?_) (fun c_8 => ?_)
            · have hP9 := hP.sub (ws' := [(h0, .inr (5, [.ref nx, .ref ny, .int 0, .ref nl, .ref nh, .int 0, .ref nb, .ref no, .ref nr, .ref nd, .ref na, .ref ns, .ref nf, .int 0, .ref np, .int 1, .ref nq]))]) [0] rfl
              have hD9 := hD.sub (ws' := [(h0, .inr (5, [.ref nx, .ref ny, .int 0, .ref nl, .ref nh, .int 0, .ref nb, .ref no, .ref nr, .ref nd, .ref na, .ref ns, .ref nf, .int 0, .ref np, .int 1, .ref nq]))]) [0] (by decide) rfl
              exact q_retv () hx hb hr hlocks hK hP9 hD9 hS (Nat.le_of_ble_eq_true rfl) (Nat.le_of_ble_eq_true rfl) (trivial) dX7_build_223
            · exact absurd c_8 (by decide)
          · exact absurd c_6 (by decide)
        · exact absurd c_5 (by decide)
      · exact absurd c_4 (by decide)
    · exact absurd c_3 (by decide)
  · exact absurd c_2 (by decide)
def vsX7_parts : List Cond := .code yX7_parts cX7_parts 3 (some .int) :: ([.fieldLink RX7 67 "FaceMapModel$Net" "nodes" "I"] ++ wsX70)
set_option maxRecDepth 20000 in
theorem n_X7_parts_X7 : ∀ w ∈ wsX70, w ∈ vsX7_parts := fun _ h => List.mem_cons_of_mem _ (List.mem_append_right _ h)
set_option maxHeartbeats 4000000 in
set_option maxRecDepth 100000 in
/-- Net.parts of none -/
theorem c_X7_parts (l : Launch) (D : va_G) (aI aL aZ : ClassId) (h0 : Nat) (nx : Nat) (ny : Nat) (nl : Nat) (nh : Nat) (nb : Nat) (no : Nat) (nr : Nat) (nd : Nat) (na : Nat) (ns : Nat) (nf : Nat) (np : Nat) (nq : Nat) (sz : Nat) : MI l D q_cl (q_ty aI aL aZ) yX7_parts vsX7_parts 0 0 0 [.ref h0] [(h0, .inr (5, [.ref nx, .ref ny, .int 0, .ref nl, .ref nh, .int 0, .ref nb, .ref no, .ref nr, .ref nd, .ref na, .ref ns, .ref nf, .int 0, .ref np, .int 1, .ref nq]))] sz (fun (r : Int32) (u : Unit) => r = 0) (fun (u : Unit) => [(h0, .inr (5, [.ref nx, .ref ny, .int 0, .ref nl, .ref nh, .int 0, .ref nb, .ref no, .ref nr, .ref nd, .ref na, .ref ns, .ref nf, .int 0, .ref np, .int 1, .ref nq]))]) := by
  refine q_in cX7_parts 3 (some .int) (qQi D q_cl (q_ty aI aL aZ) _ _) (by decide) rfl (Nat.le_of_ble_eq_true rfl) ?_
  intro p e s m args below meth c A ls hat hP hD hS hl
  obtain ⟨hx, hb, hr, hts, hown, hlocks, hml, hin, hK, hN, hA⟩ := hat
  have hown : s.vm.findClass RX7 = some m.cls := hown
  have hl : lv_has ls 3 [(0, .ref h0)] := hl
  refine lv_iconst (v := 0) hx hb dX7_parts_0 (by decide) ?_
  refine lv_istore_n (lv' := [(1, .int 0), (0, .ref h0)]) hx hb dX7_parts_1 rfl hl (by decide) rfl (fun ls hl => ?_)
  refine lv_iconst (v := 0) hx hb dX7_parts_2 (by decide) ?_
  refine lv_istore_n (lv' := [(2, .int 0), (1, .int 0), (0, .ref h0)]) hx hb dX7_parts_3 rfl hl (by decide) rfl (fun ls hl => ?_)
  refine lv_iload_n hx hb dX7_parts_4 rfl (lv_at hl 0 rfl) ?_
  refine lv_aload_n hx hb dX7_parts_5 rfl (lv_at hl 2 rfl) ?_
  refine va_get (D := D) (ci := 5) (v := .int 0) (C := RX7) (T := TX7) (N := 17) hx hb hts n_X7_parts_X7 hown hK hP 0 rfl rfl 2 (by decide) (hts (.fieldLink RX7 67 "FaceMapModel$Net" "nodes" "I") (List.mem_of_getElem? (i := 1) rfl)) (fun _ h9 => h9) rfl dX7_parts_6 ?_
  refine lv_icmp_ge (tgt := 31) hx hb dX7_parts_9 (by decide) (fun c_1 => ?_) (fun c_1 => ?_)
  · refine lv_iload_n hx hb dX7_parts_31 rfl (lv_at hl 1 rfl) ?_
    have hP9 := hP.sub (ws' := [(h0, .inr (5, [.ref nx, .ref ny, .int 0, .ref nl, .ref nh, .int 0, .ref nb, .ref no, .ref nr, .ref nd, .ref na, .ref ns, .ref nf, .int 0, .ref np, .int 1, .ref nq]))]) [0] rfl
    have hD9 := hD.sub (ws' := [(h0, .inr (5, [.ref nx, .ref ny, .int 0, .ref nl, .ref nh, .int 0, .ref nb, .ref no, .ref nr, .ref nd, .ref na, .ref ns, .ref nf, .int 0, .ref np, .int 1, .ref nq]))]) [0] (by decide) rfl
    exact q_reti () hx hb hr hlocks hK hP9 hD9 hS (Nat.le_of_ble_eq_true rfl) (Nat.le_of_ble_eq_true rfl) (rfl) dX7_parts_32
  · exact absurd c_1 (by decide)
def vsX7_ringsOf : List Cond := .code yX7_ringsOf cX7_ringsOf 4 (some .int) :: ([.fieldLink RX7 87 "FaceMapModel$Net" "rounds" "I"] ++ wsX70)
set_option maxRecDepth 20000 in
theorem n_X7_ringsOf_X7 : ∀ w ∈ wsX70, w ∈ vsX7_ringsOf := fun _ h => List.mem_cons_of_mem _ (List.mem_append_right _ h)
set_option maxHeartbeats 4000000 in
set_option maxRecDepth 100000 in
/-- Net.ringsOf of none -/
theorem c_X7_ringsOf (l : Launch) (D : va_G) (aI aL aZ : ClassId) (h0 : Nat) (nx : Nat) (ny : Nat) (nl : Nat) (nh : Nat) (nb : Nat) (no : Nat) (nr : Nat) (nd : Nat) (na : Nat) (ns : Nat) (nf : Nat) (np : Nat) (nq : Nat) (x : Int32) (sz : Nat) : MI l D q_cl (q_ty aI aL aZ) yX7_ringsOf vsX7_ringsOf 0 0 0 [.ref h0, .int x] [(h0, .inr (5, [.ref nx, .ref ny, .int 0, .ref nl, .ref nh, .int 0, .ref nb, .ref no, .ref nr, .ref nd, .ref na, .ref ns, .ref nf, .int 0, .ref np, .int 1, .ref nq]))] sz (fun (r : Int32) (u : Unit) => r = 0) (fun (u : Unit) => [(h0, .inr (5, [.ref nx, .ref ny, .int 0, .ref nl, .ref nh, .int 0, .ref nb, .ref no, .ref nr, .ref nd, .ref na, .ref ns, .ref nf, .int 0, .ref np, .int 1, .ref nq]))]) := by
  refine q_in cX7_ringsOf 4 (some .int) (qQi D q_cl (q_ty aI aL aZ) _ _) (by decide) rfl (Nat.le_of_ble_eq_true rfl) ?_
  intro p e s m args below meth c A ls hat hP hD hS hl
  obtain ⟨hx, hb, hr, hts, hown, hlocks, hml, hin, hK, hN, hA⟩ := hat
  have hown : s.vm.findClass RX7 = some m.cls := hown
  have hl : lv_has ls 4 [(0, .ref h0), (1, .int x)] := hl
  refine lv_iconst (v := 0) hx hb dX7_ringsOf_0 (by decide) ?_
  refine lv_istore_n (lv' := [(2, .int 0), (0, .ref h0), (1, .int x)]) hx hb dX7_ringsOf_1 rfl hl (by decide) rfl (fun ls hl => ?_)
  refine lv_iconst (v := 0) hx hb dX7_ringsOf_2 (by decide) ?_
  refine lv_istore_n (lv' := [(3, .int 0), (2, .int 0), (0, .ref h0), (1, .int x)]) hx hb dX7_ringsOf_3 rfl hl (by decide) rfl (fun ls hl => ?_)
  refine lv_iload_n hx hb dX7_ringsOf_4 rfl (lv_at hl 0 rfl) ?_
  refine lv_aload_n hx hb dX7_ringsOf_5 rfl (lv_at hl 2 rfl) ?_
  refine va_get (D := D) (ci := 5) (v := .int 0) (C := RX7) (T := TX7) (N := 17) hx hb hts n_X7_ringsOf_X7 hown hK hP 0 rfl rfl 13 (by decide) (hts (.fieldLink RX7 87 "FaceMapModel$Net" "rounds" "I") (List.mem_of_getElem? (i := 1) rfl)) (fun _ h9 => h9) rfl dX7_ringsOf_6 ?_
  refine lv_icmp_ge (tgt := 31) hx hb dX7_ringsOf_9 (by decide) (fun c_1 => ?_) (fun c_1 => ?_)
  · refine lv_iload_n hx hb dX7_ringsOf_31 rfl (lv_at hl 1 rfl) ?_
    have hP9 := hP.sub (ws' := [(h0, .inr (5, [.ref nx, .ref ny, .int 0, .ref nl, .ref nh, .int 0, .ref nb, .ref no, .ref nr, .ref nd, .ref na, .ref ns, .ref nf, .int 0, .ref np, .int 1, .ref nq]))]) [0] rfl
    have hD9 := hD.sub (ws' := [(h0, .inr (5, [.ref nx, .ref ny, .int 0, .ref nl, .ref nh, .int 0, .ref nb, .ref no, .ref nr, .ref nd, .ref na, .ref ns, .ref nf, .int 0, .ref np, .int 1, .ref nq]))]) [0] (by decide) rfl
    exact q_reti () hx hb hr hlocks hK hP9 hD9 hS (Nat.le_of_ble_eq_true rfl) (Nat.le_of_ble_eq_true rfl) (rfl) dX7_ringsOf_32
  · exact absurd c_1 (by decide)
def vsX7_waysOf : List Cond := .code yX7_waysOf cX7_waysOf 4 (some .int) :: ([.fieldLink RX7 71 "FaceMapModel$Net" "pieces" "I"] ++ wsX70)
set_option maxRecDepth 20000 in
theorem n_X7_waysOf_X7 : ∀ w ∈ wsX70, w ∈ vsX7_waysOf := fun _ h => List.mem_cons_of_mem _ (List.mem_append_right _ h)
set_option maxHeartbeats 4000000 in
set_option maxRecDepth 100000 in
/-- Net.waysOf of none -/
theorem c_X7_waysOf (l : Launch) (D : va_G) (aI aL aZ : ClassId) (h0 : Nat) (nx : Nat) (ny : Nat) (nl : Nat) (nh : Nat) (nb : Nat) (no : Nat) (nr : Nat) (nd : Nat) (na : Nat) (ns : Nat) (nf : Nat) (np : Nat) (nq : Nat) (x : Int32) (sz : Nat) : MI l D q_cl (q_ty aI aL aZ) yX7_waysOf vsX7_waysOf 0 0 0 [.ref h0, .int x] [(h0, .inr (5, [.ref nx, .ref ny, .int 0, .ref nl, .ref nh, .int 0, .ref nb, .ref no, .ref nr, .ref nd, .ref na, .ref ns, .ref nf, .int 0, .ref np, .int 1, .ref nq]))] sz (fun (r : Int32) (u : Unit) => r = 0) (fun (u : Unit) => [(h0, .inr (5, [.ref nx, .ref ny, .int 0, .ref nl, .ref nh, .int 0, .ref nb, .ref no, .ref nr, .ref nd, .ref na, .ref ns, .ref nf, .int 0, .ref np, .int 1, .ref nq]))]) := by
  refine q_in cX7_waysOf 4 (some .int) (qQi D q_cl (q_ty aI aL aZ) _ _) (by decide) rfl (Nat.le_of_ble_eq_true rfl) ?_
  intro p e s m args below meth c A ls hat hP hD hS hl
  obtain ⟨hx, hb, hr, hts, hown, hlocks, hml, hin, hK, hN, hA⟩ := hat
  have hown : s.vm.findClass RX7 = some m.cls := hown
  have hl : lv_has ls 4 [(0, .ref h0), (1, .int x)] := hl
  refine lv_iconst (v := 0) hx hb dX7_waysOf_0 (by decide) ?_
  refine lv_istore_n (lv' := [(2, .int 0), (0, .ref h0), (1, .int x)]) hx hb dX7_waysOf_1 rfl hl (by decide) rfl (fun ls hl => ?_)
  refine lv_iconst (v := 0) hx hb dX7_waysOf_2 (by decide) ?_
  refine lv_istore_n (lv' := [(3, .int 0), (2, .int 0), (0, .ref h0), (1, .int x)]) hx hb dX7_waysOf_3 rfl hl (by decide) rfl (fun ls hl => ?_)
  refine lv_iload_n hx hb dX7_waysOf_4 rfl (lv_at hl 0 rfl) ?_
  refine lv_iconst (v := 2) hx hb dX7_waysOf_5 (by decide) ?_
  refine lv_aload_n hx hb dX7_waysOf_6 rfl (lv_at hl 2 rfl) ?_
  refine va_get (D := D) (ci := 5) (v := .int 0) (C := RX7) (T := TX7) (N := 17) hx hb hts n_X7_waysOf_X7 hown hK hP 0 rfl rfl 5 (by decide) (hts (.fieldLink RX7 71 "FaceMapModel$Net" "pieces" "I") (List.mem_of_getElem? (i := 1) rfl)) (fun _ h9 => h9) rfl dX7_waysOf_7 ?_
  refine lv_imul hx hb dX7_waysOf_10 ?_
  refine q_vi (v := 0) (by decide) ?_
  refine lv_icmp_ge (tgt := 32) hx hb dX7_waysOf_11 (by decide) (fun c_1 => ?_) (fun c_1 => ?_)
  · refine lv_iload_n hx hb dX7_waysOf_32 rfl (lv_at hl 1 rfl) ?_
    have hP9 := hP.sub (ws' := [(h0, .inr (5, [.ref nx, .ref ny, .int 0, .ref nl, .ref nh, .int 0, .ref nb, .ref no, .ref nr, .ref nd, .ref na, .ref ns, .ref nf, .int 0, .ref np, .int 1, .ref nq]))]) [0] rfl
    have hD9 := hD.sub (ws' := [(h0, .inr (5, [.ref nx, .ref ny, .int 0, .ref nl, .ref nh, .int 0, .ref nb, .ref no, .ref nr, .ref nd, .ref na, .ref ns, .ref nf, .int 0, .ref np, .int 1, .ref nq]))]) [0] (by decide) rfl
    exact q_reti () hx hb hr hlocks hK hP9 hD9 hS (Nat.le_of_ble_eq_true rfl) (Nat.le_of_ble_eq_true rfl) (rfl) dX7_waysOf_33
  · exact absurd c_1 (by decide)
def vsX7_keyOf : List Cond := .code yX7_keyOf cX7_keyOf 3 (some .int) :: ([.fieldLink RX7 87 "FaceMapModel$Net" "rounds" "I"] ++ wsX70)
set_option maxRecDepth 20000 in
theorem n_X7_keyOf_X7 : ∀ w ∈ wsX70, w ∈ vsX7_keyOf := fun _ h => List.mem_cons_of_mem _ (List.mem_append_right _ h)
set_option maxHeartbeats 4000000 in
set_option maxRecDepth 100000 in
/-- Net.keyOf of none -/
theorem c_X7_keyOf (l : Launch) (D : va_G) (aI aL aZ : ClassId) (h0 : Nat) (nx : Nat) (ny : Nat) (nl : Nat) (nh : Nat) (nb : Nat) (no : Nat) (nr : Nat) (nd : Nat) (na : Nat) (ns : Nat) (nf : Nat) (np : Nat) (nq : Nat) (x : Int32) (sz : Nat) : MI l D q_cl (q_ty aI aL aZ) yX7_keyOf vsX7_keyOf 0 0 0 [.ref h0, .int x] [(h0, .inr (5, [.ref nx, .ref ny, .int 0, .ref nl, .ref nh, .int 0, .ref nb, .ref no, .ref nr, .ref nd, .ref na, .ref ns, .ref nf, .int 0, .ref np, .int 1, .ref nq]))] sz (fun (r : Int32) (u : Unit) => r = (-1)) (fun (u : Unit) => [(h0, .inr (5, [.ref nx, .ref ny, .int 0, .ref nl, .ref nh, .int 0, .ref nb, .ref no, .ref nr, .ref nd, .ref na, .ref ns, .ref nf, .int 0, .ref np, .int 1, .ref nq]))]) := by
  refine q_in cX7_keyOf 3 (some .int) (qQi D q_cl (q_ty aI aL aZ) _ _) (by decide) rfl (Nat.le_of_ble_eq_true rfl) ?_
  intro p e s m args below meth c A ls hat hP hD hS hl
  obtain ⟨hx, hb, hr, hts, hown, hlocks, hml, hin, hK, hN, hA⟩ := hat
  have hown : s.vm.findClass RX7 = some m.cls := hown
  have hl : lv_has ls 3 [(0, .ref h0), (1, .int x)] := hl
  refine lv_iconst (v := 0) hx hb dX7_keyOf_0 (by decide) ?_
  refine lv_istore_n (lv' := [(2, .int 0), (0, .ref h0), (1, .int x)]) hx hb dX7_keyOf_1 rfl hl (by decide) rfl (fun ls hl => ?_)
  refine lv_iload_n hx hb dX7_keyOf_2 rfl (lv_at hl 0 rfl) ?_
  refine lv_aload_n hx hb dX7_keyOf_3 rfl (lv_at hl 1 rfl) ?_
  refine va_get (D := D) (ci := 5) (v := .int 0) (C := RX7) (T := TX7) (N := 17) hx hb hts n_X7_keyOf_X7 hown hK hP 0 rfl rfl 13 (by decide) (hts (.fieldLink RX7 87 "FaceMapModel$Net" "rounds" "I") (List.mem_of_getElem? (i := 1) rfl)) (fun _ h9 => h9) rfl dX7_keyOf_4 ?_
  refine lv_icmp_ge (tgt := 44) hx hb dX7_keyOf_7 (by decide) (fun c_1 => ?_) (fun c_1 => ?_)
  · refine lv_iconst (v := (-1)) hx hb dX7_keyOf_44 (by decide) ?_
    have hP9 := hP.sub (ws' := [(h0, .inr (5, [.ref nx, .ref ny, .int 0, .ref nl, .ref nh, .int 0, .ref nb, .ref no, .ref nr, .ref nd, .ref na, .ref ns, .ref nf, .int 0, .ref np, .int 1, .ref nq]))]) [0] rfl
    have hD9 := hD.sub (ws' := [(h0, .inr (5, [.ref nx, .ref ny, .int 0, .ref nl, .ref nh, .int 0, .ref nb, .ref no, .ref nr, .ref nd, .ref na, .ref ns, .ref nf, .int 0, .ref np, .int 1, .ref nq]))]) [0] (by decide) rfl
    exact q_reti () hx hb hr hlocks hK hP9 hD9 hS (Nat.le_of_ble_eq_true rfl) (Nat.le_of_ble_eq_true rfl) (rfl) dX7_keyOf_45
  · exact absurd c_1 (by decide)
def vsX7_inside : List Cond := .code yX7_inside cX7_inside 9 (some .int) :: ([.fieldLink RX7 87 "FaceMapModel$Net" "rounds" "I", .fieldLink RX7 71 "FaceMapModel$Net" "pieces" "I"] ++ wsX70)
set_option maxRecDepth 20000 in
theorem n_X7_inside_X7 : ∀ w ∈ wsX70, w ∈ vsX7_inside := fun _ h => List.mem_cons_of_mem _ (List.mem_append_right _ h)
set_option maxHeartbeats 4000000 in
set_option maxRecDepth 100000 in
/-- Net.inside of none -/
theorem c_X7_inside (l : Launch) (D : va_G) (aI aL aZ : ClassId) (h0 : Nat) (nx : Nat) (ny : Nat) (nl : Nat) (nh : Nat) (nb : Nat) (no : Nat) (nr : Nat) (nd : Nat) (na : Nat) (ns : Nat) (nf : Nat) (np : Nat) (nq : Nat) (x : Int64) (y : Int64) (sz : Nat) : MI l D q_cl (q_ty aI aL aZ) yX7_inside vsX7_inside 0 0 0 [.ref h0, .long x, .long y, .int (-1)] [(h0, .inr (5, [.ref nx, .ref ny, .int 0, .ref nl, .ref nh, .int 0, .ref nb, .ref no, .ref nr, .ref nd, .ref na, .ref ns, .ref nf, .int 0, .ref np, .int 1, .ref nq]))] sz (fun (r : Int32) (u : Unit) => r = 0) (fun (u : Unit) => [(h0, .inr (5, [.ref nx, .ref ny, .int 0, .ref nl, .ref nh, .int 0, .ref nb, .ref no, .ref nr, .ref nd, .ref na, .ref ns, .ref nf, .int 0, .ref np, .int 1, .ref nq]))]) := by
  refine q_in cX7_inside 9 (some .int) (qQi D q_cl (q_ty aI aL aZ) _ _) (by decide) rfl (Nat.le_of_ble_eq_true rfl) ?_
  intro p e s m args below meth c A ls hat hP hD hS hl
  obtain ⟨hx, hb, hr, hts, hown, hlocks, hml, hin, hK, hN, hA⟩ := hat
  have hown : s.vm.findClass RX7 = some m.cls := hown
  have hl : lv_has ls 9 [(0, .ref h0), (1, .long x), (3, .long y), (5, .int (-1))] := hl
  refine lv_iconst (v := 0) hx hb dX7_inside_0 (by decide) ?_
  refine lv_istore (lv' := [(6, .int 0), (0, .ref h0), (1, .long x), (3, .long y), (5, .int (-1))]) hx hb dX7_inside_1 hl (by decide) rfl (fun ls hl => ?_)
  refine lv_iload hx hb dX7_inside_3 (lv_at hl 0 rfl) ?_
  refine lv_aload_n hx hb dX7_inside_5 rfl (lv_at hl 1 rfl) ?_
  refine va_get (D := D) (ci := 5) (v := .int 0) (C := RX7) (T := TX7) (N := 17) hx hb hts n_X7_inside_X7 hown hK hP 0 rfl rfl 13 (by decide) (hts (.fieldLink RX7 87 "FaceMapModel$Net" "rounds" "I") (List.mem_of_getElem? (i := 1) rfl)) (fun _ h9 => h9) rfl dX7_inside_6 ?_
  refine lv_icmp_ge (tgt := 26) hx hb dX7_inside_9 (by decide) (fun c_1 => ?_) (fun c_1 => ?_)
  · refine lv_iconst (v := 0) hx hb dX7_inside_26 (by decide) ?_
    refine lv_istore (lv' := [(6, .int 0), (0, .ref h0), (1, .long x), (3, .long y), (5, .int (-1))]) hx hb dX7_inside_27 hl (by decide) rfl (fun ls hl => ?_)
    refine lv_iload hx hb dX7_inside_29 (lv_at hl 0 rfl) ?_
    refine lv_iconst (v := 2) hx hb dX7_inside_31 (by decide) ?_
    refine lv_aload_n hx hb dX7_inside_32 rfl (lv_at hl 1 rfl) ?_
    refine va_get (D := D) (ci := 5) (v := .int 0) (C := RX7) (T := TX7) (N := 17) hx hb hts n_X7_inside_X7 hown hK hP 0 rfl rfl 5 (by decide) (hts (.fieldLink RX7 71 "FaceMapModel$Net" "pieces" "I") (List.mem_of_getElem? (i := 2) rfl)) (fun _ h9 => h9) rfl dX7_inside_33 ?_
    refine lv_imul hx hb dX7_inside_36 ?_
    refine q_vi (v := 0) (by decide) ?_
    refine lv_icmp_ge (tgt := 252) hx hb dX7_inside_37 (by decide) (fun c_2 => ?_) (fun c_2 => ?_)
    · refine lv_iconst (v := (-1)) hx hb dX7_inside_252 (by decide) ?_
      refine lv_istore (lv' := [(6, .int (-1)), (0, .ref h0), (1, .long x), (3, .long y), (5, .int (-1))]) hx hb dX7_inside_253 hl (by decide) rfl (fun ls hl => ?_)
      refine lv_iconst (v := 0) hx hb dX7_inside_255 (by decide) ?_
      refine lv_istore (lv' := [(7, .int 0), (6, .int (-1)), (0, .ref h0), (1, .long x), (3, .long y), (5, .int (-1))]) hx hb dX7_inside_256 hl (by decide) rfl (fun ls hl => ?_)
      refine lv_iload hx hb dX7_inside_258 (lv_at hl 0 rfl) ?_
      refine lv_aload_n hx hb dX7_inside_260 rfl (lv_at hl 2 rfl) ?_
      refine va_get (D := D) (ci := 5) (v := .int 0) (C := RX7) (T := TX7) (N := 17) hx hb hts n_X7_inside_X7 hown hK hP 0 rfl rfl 13 (by decide) (hts (.fieldLink RX7 87 "FaceMapModel$Net" "rounds" "I") (List.mem_of_getElem? (i := 1) rfl)) (fun _ h9 => h9) rfl dX7_inside_261 ?_
      refine lv_icmp_ge (tgt := 310) hx hb dX7_inside_264 (by decide) (fun c_3 => ?_) (fun c_3 => ?_)
      · refine lv_iload hx hb dX7_inside_310 (lv_at hl 1 rfl) ?_
        refine lv_if_ge (tgt := 319) hx hb dX7_inside_312 (by decide) (fun c_4 => ?_) (fun c_4 => ?_)
        · exact absurd c_4 (by decide)
        · refine lv_iconst (v := 0) hx hb dX7_inside_315 (by decide) ?_
          refine lv_goto (tgt := 326) hx hb dX7_inside_316 (by decide) ?_
          have hP9 := hP.sub (ws' := [(h0, .inr (5, [.ref nx, .ref ny, .int 0, .ref nl, .ref nh, .int 0, .ref nb, .ref no, .ref nr, .ref nd, .ref na, .ref ns, .ref nf, .int 0, .ref np, .int 1, .ref nq]))]) [0] rfl
          have hD9 := hD.sub (ws' := [(h0, .inr (5, [.ref nx, .ref ny, .int 0, .ref nl, .ref nh, .int 0, .ref nb, .ref no, .ref nr, .ref nd, .ref na, .ref ns, .ref nf, .int 0, .ref np, .int 1, .ref nq]))]) [0] (by decide) rfl
          exact q_reti () hx hb hr hlocks hK hP9 hD9 hS (Nat.le_of_ble_eq_true rfl) (Nat.le_of_ble_eq_true rfl) (rfl) dX7_inside_326
      · exact absurd c_3 (by decide)
    · exact absurd c_2 (by decide)
  · exact absurd c_1 (by decide)
end
section
def vsX9_isIn : List Cond := .code yX9_isIn cX9_isIn 2 (some .boolean) :: ([.constant RX9 52 (-500000), .constant RX9 53 (500000)])
set_option maxHeartbeats 4000000 in
set_option maxRecDepth 100000 in
/-- isIn -/
theorem c_X9_isIn (l : Launch) (D : va_G) (aI aL aZ : ClassId) (x : Int32) (y : Int32) (sz : Nat) : MI l D q_cl (q_ty aI aL aZ) yX9_isIn vsX9_isIn 0 0 0 [.int x, .int y] ([] : va_W) sz (fun (r : Int32) (u : Unit) => (r = 1 ∧ inB x y) ∨ (r = 0 ∧ ¬ inB x y)) (fun (u : Unit) => ([] : va_W)) := by
  refine q_in cX9_isIn 2 (some .boolean) (qQi D q_cl (q_ty aI aL aZ) _ _) (by decide) rfl (Nat.le_of_ble_eq_true rfl) ?_
  intro p e s m args below meth c A ls hat hP hD hS hl
  obtain ⟨hx, hb, hr, hts, hown, hlocks, hml, hin, hK, hN, hA⟩ := hat
  have hown : s.vm.findClass RX9 = some m.cls := hown
  have hl : lv_has ls 2 [(0, .int x), (1, .int y)] := hl
  refine lv_iload_n hx hb dX9_isIn_0 rfl (lv_at hl 0 rfl) ?_
  refine lv_ldc (v := (-500000)) hx hb hown (hts (.constant RX9 52 (-500000)) (List.mem_of_getElem? (i := 1) rfl)) dX9_isIn_1 ?_
  refine lv_icmp_lt (tgt := 28) hx hb dX9_isIn_3 (by decide) (fun c_1 => ?_) (fun c_1 => ?_)
  · refine lv_iconst (v := 0) hx hb dX9_isIn_28 (by decide) ?_
    have hP9 := hP.sub (ws' := []) [] rfl
    have hD9 := hD.sub (ws' := []) [] (by decide) rfl
    exact q_retz () hx hb hr (by decide) hlocks hK hP9 hD9 hS (Nat.le_of_ble_eq_true rfl) (Nat.le_of_ble_eq_true rfl) (Or.inr (⟨rfl, (by unfold inB; simp_all)⟩)) dX9_isIn_29
  · refine lv_iload_n hx hb dX9_isIn_6 rfl (lv_at hl 0 rfl) ?_
    refine lv_ldc (v := 500000) hx hb hown (hts (.constant RX9 53 (500000)) (List.mem_of_getElem? (i := 2) rfl)) dX9_isIn_7 ?_
    refine lv_icmp_gt (tgt := 28) hx hb dX9_isIn_9 (by decide) (fun c_2 => ?_) (fun c_2 => ?_)
    · refine lv_iconst (v := 0) hx hb dX9_isIn_28 (by decide) ?_
      have hP9 := hP.sub (ws' := []) [] rfl
      have hD9 := hD.sub (ws' := []) [] (by decide) rfl
      exact q_retz () hx hb hr (by decide) hlocks hK hP9 hD9 hS (Nat.le_of_ble_eq_true rfl) (Nat.le_of_ble_eq_true rfl) (Or.inr (⟨rfl, (by unfold inB; simp_all)⟩)) dX9_isIn_29
    · refine lv_iload_n hx hb dX9_isIn_12 rfl (lv_at hl 1 rfl) ?_
      refine lv_ldc (v := (-500000)) hx hb hown (hts (.constant RX9 52 (-500000)) (List.mem_of_getElem? (i := 1) rfl)) dX9_isIn_13 ?_
      refine lv_icmp_lt (tgt := 28) hx hb dX9_isIn_15 (by decide) (fun c_3 => ?_) (fun c_3 => ?_)
      · refine lv_iconst (v := 0) hx hb dX9_isIn_28 (by decide) ?_
        have hP9 := hP.sub (ws' := []) [] rfl
        have hD9 := hD.sub (ws' := []) [] (by decide) rfl
        exact q_retz () hx hb hr (by decide) hlocks hK hP9 hD9 hS (Nat.le_of_ble_eq_true rfl) (Nat.le_of_ble_eq_true rfl) (Or.inr (⟨rfl, (by unfold inB; simp_all)⟩)) dX9_isIn_29
      · refine lv_iload_n hx hb dX9_isIn_18 rfl (lv_at hl 1 rfl) ?_
        refine lv_ldc (v := 500000) hx hb hown (hts (.constant RX9 53 (500000)) (List.mem_of_getElem? (i := 2) rfl)) dX9_isIn_19 ?_
        refine lv_icmp_gt (tgt := 28) hx hb dX9_isIn_21 (by decide) (fun c_4 => ?_) (fun c_4 => ?_)
        · refine lv_iconst (v := 0) hx hb dX9_isIn_28 (by decide) ?_
          have hP9 := hP.sub (ws' := []) [] rfl
          have hD9 := hD.sub (ws' := []) [] (by decide) rfl
          exact q_retz () hx hb hr (by decide) hlocks hK hP9 hD9 hS (Nat.le_of_ble_eq_true rfl) (Nat.le_of_ble_eq_true rfl) (Or.inr (⟨rfl, (by unfold inB; simp_all)⟩)) dX9_isIn_29
        · refine lv_iconst (v := 1) hx hb dX9_isIn_24 (by decide) ?_
          refine lv_goto (tgt := 29) hx hb dX9_isIn_25 (by decide) ?_
          have hP9 := hP.sub (ws' := []) [] rfl
          have hD9 := hD.sub (ws' := []) [] (by decide) rfl
          exact q_retz () hx hb hr (by decide) hlocks hK hP9 hD9 hS (Nat.le_of_ble_eq_true rfl) (Nat.le_of_ble_eq_true rfl) (Or.inl (⟨rfl, (by unfold inB; exact ⟨by assumption, by assumption, by assumption, by assumption⟩)⟩)) dX9_isIn_29
def vsX9_compare : List Cond := .code yX9_compare cX9_compare 4 (some .int) :: ([])
set_option maxHeartbeats 4000000 in
set_option maxRecDepth 100000 in
/-- compare -/
theorem c_X9_compare (l : Launch) (D : va_G) (aI aL aZ : ClassId) (x1 : Int32) (y1 : Int32) (x2 : Int32) (y2 : Int32) (sz : Nat) : MI l D q_cl (q_ty aI aL aZ) yX9_compare vsX9_compare 0 0 0 [.int x1, .int y1, .int x2, .int y2] ([] : va_W) sz (fun (r : Int32) (u : Unit) => r = (cmp4 x1 y1 x2 y2)) (fun (u : Unit) => ([] : va_W)) := by
  refine q_in cX9_compare 4 (some .int) (qQi D q_cl (q_ty aI aL aZ) _ _) (by decide) rfl (Nat.le_of_ble_eq_true rfl) ?_
  intro p e s m args below meth c A ls hat hP hD hS hl
  obtain ⟨hx, hb, hr, hts, hown, hlocks, hml, hin, hK, hN, hA⟩ := hat
  have hown : s.vm.findClass RX9 = some m.cls := hown
  have hl : lv_has ls 4 [(0, .int x1), (1, .int y1), (2, .int x2), (3, .int y2)] := hl
  refine lv_iload_n hx hb dX9_compare_0 rfl (lv_at hl 0 rfl) ?_
  refine lv_iload_n hx hb dX9_compare_1 rfl (lv_at hl 2 rfl) ?_
  refine lv_icmp_eq (tgt := 18) hx hb dX9_compare_2 (by decide) (fun c_1 => ?_) (fun c_1 => ?_)
  · refine lv_iload_n hx hb dX9_compare_18 rfl (lv_at hl 1 rfl) ?_
    refine lv_iload_n hx hb dX9_compare_19 rfl (lv_at hl 3 rfl) ?_
    refine lv_icmp_eq (tgt := 36) hx hb dX9_compare_20 (by decide) (fun c_2 => ?_) (fun c_2 => ?_)
    · refine lv_iconst (v := 0) hx hb dX9_compare_36 (by decide) ?_
      have hP9 := hP.sub (ws' := []) [] rfl
      have hD9 := hD.sub (ws' := []) [] (by decide) rfl
      exact q_reti () hx hb hr hlocks hK hP9 hD9 hS (Nat.le_of_ble_eq_true rfl) (Nat.le_of_ble_eq_true rfl) ((by first | exact cmp_xl (by assumption) (by assumption) | exact cmp_xg (by assumption) (by assumption) | exact cmp_yl (by assumption) (by assumption) (by assumption) | exact cmp_yg (by assumption) (by assumption) (by assumption) | exact cmp_e (by assumption) (by assumption))) dX9_compare_37
    · refine lv_iload_n hx hb dX9_compare_23 rfl (lv_at hl 1 rfl) ?_
      refine lv_iload_n hx hb dX9_compare_24 rfl (lv_at hl 3 rfl) ?_
      refine lv_icmp_ge (tgt := 32) hx hb dX9_compare_25 (by decide) (fun c_3 => ?_) (fun c_3 => ?_)
      · refine lv_iconst (v := 1) hx hb dX9_compare_32 (by decide) ?_
        refine lv_goto (tgt := 37) hx hb dX9_compare_33 (by decide) ?_
        have hP9 := hP.sub (ws' := []) [] rfl
        have hD9 := hD.sub (ws' := []) [] (by decide) rfl
        exact q_reti () hx hb hr hlocks hK hP9 hD9 hS (Nat.le_of_ble_eq_true rfl) (Nat.le_of_ble_eq_true rfl) ((by first | exact cmp_xl (by assumption) (by assumption) | exact cmp_xg (by assumption) (by assumption) | exact cmp_yl (by assumption) (by assumption) (by assumption) | exact cmp_yg (by assumption) (by assumption) (by assumption) | exact cmp_e (by assumption) (by assumption))) dX9_compare_37
      · refine lv_iconst (v := (-1)) hx hb dX9_compare_28 (by decide) ?_
        refine lv_goto (tgt := 37) hx hb dX9_compare_29 (by decide) ?_
        have hP9 := hP.sub (ws' := []) [] rfl
        have hD9 := hD.sub (ws' := []) [] (by decide) rfl
        exact q_reti () hx hb hr hlocks hK hP9 hD9 hS (Nat.le_of_ble_eq_true rfl) (Nat.le_of_ble_eq_true rfl) ((by first | exact cmp_xl (by assumption) (by assumption) | exact cmp_xg (by assumption) (by assumption) | exact cmp_yl (by assumption) (by assumption) (by assumption) | exact cmp_yg (by assumption) (by assumption) (by assumption) | exact cmp_e (by assumption) (by assumption))) dX9_compare_37
  · refine lv_iload_n hx hb dX9_compare_5 rfl (lv_at hl 0 rfl) ?_
    refine lv_iload_n hx hb dX9_compare_6 rfl (lv_at hl 2 rfl) ?_
    refine lv_icmp_ge (tgt := 14) hx hb dX9_compare_7 (by decide) (fun c_4 => ?_) (fun c_4 => ?_)
    · refine lv_iconst (v := 1) hx hb dX9_compare_14 (by decide) ?_
      refine lv_goto (tgt := 37) hx hb dX9_compare_15 (by decide) ?_
      have hP9 := hP.sub (ws' := []) [] rfl
      have hD9 := hD.sub (ws' := []) [] (by decide) rfl
      exact q_reti () hx hb hr hlocks hK hP9 hD9 hS (Nat.le_of_ble_eq_true rfl) (Nat.le_of_ble_eq_true rfl) ((by first | exact cmp_xl (by assumption) (by assumption) | exact cmp_xg (by assumption) (by assumption) | exact cmp_yl (by assumption) (by assumption) (by assumption) | exact cmp_yg (by assumption) (by assumption) (by assumption) | exact cmp_e (by assumption) (by assumption))) dX9_compare_37
    · refine lv_iconst (v := (-1)) hx hb dX9_compare_10 (by decide) ?_
      refine lv_goto (tgt := 37) hx hb dX9_compare_11 (by decide) ?_
      have hP9 := hP.sub (ws' := []) [] rfl
      have hD9 := hD.sub (ws' := []) [] (by decide) rfl
      exact q_reti () hx hb hr hlocks hK hP9 hD9 hS (Nat.le_of_ble_eq_true rfl) (Nat.le_of_ble_eq_true rfl) ((by first | exact cmp_xl (by assumption) (by assumption) | exact cmp_xg (by assumption) (by assumption) | exact cmp_yl (by assumption) (by assumption) (by assumption) | exact cmp_yg (by assumption) (by assumption) (by assumption) | exact cmp_e (by assumption) (by assumption))) dX9_compare_37
def vsX9_from : List Cond := .code yX9_from cX9_from 7 (some .int) :: ([.fieldLink RX9 54 "FaceMapModel" "count" "I"] ++ wsX90)
set_option maxRecDepth 20000 in
theorem n_X9_from_X9 : ∀ w ∈ wsX90, w ∈ vsX9_from := fun _ h => List.mem_cons_of_mem _ (List.mem_append_right _ h)
set_option maxHeartbeats 4000000 in
set_option maxRecDepth 100000 in
/-- from, with no piece -/
theorem c_X9_from (l : Launch) (D : va_G) (aI aL aZ : ClassId) (h0 : Nat) (en : Nat) (nt : Nat) (pl : Nat) (q : Int32) (x1 : Int32) (y1 : Int32) (x2 : Int32) (y2 : Int32) (sz : Nat) : MI l D q_cl (q_ty aI aL aZ) yX9_from vsX9_from 0 0 0 [.ref h0, .int x1, .int y1, .int x2, .int y2] [(h0, .inr (7, [.ref en, .int 0, .ref nt, .ref pl, .int q]))] sz (fun (r : Int32) (u : Unit) => r = 0) (fun (u : Unit) => [(h0, .inr (7, [.ref en, .int 0, .ref nt, .ref pl, .int q]))]) := by
  refine q_in cX9_from 7 (some .int) (qQi D q_cl (q_ty aI aL aZ) _ _) (by decide) rfl (Nat.le_of_ble_eq_true rfl) ?_
  intro p e s m args below meth c A ls hat hP hD hS hl
  obtain ⟨hx, hb, hr, hts, hown, hlocks, hml, hin, hK, hN, hA⟩ := hat
  have hown : s.vm.findClass RX9 = some m.cls := hown
  have hl : lv_has ls 7 [(0, .ref h0), (1, .int x1), (2, .int y1), (3, .int x2), (4, .int y2)] := hl
  refine lv_iconst (v := 0) hx hb dX9_from_0 (by decide) ?_
  refine lv_istore (lv' := [(5, .int 0), (0, .ref h0), (1, .int x1), (2, .int y1), (3, .int x2), (4, .int y2)]) hx hb dX9_from_1 hl (by decide) rfl (fun ls hl => ?_)
  refine lv_iload hx hb dX9_from_3 (lv_at hl 0 rfl) ?_
  refine lv_aload_n hx hb dX9_from_5 rfl (lv_at hl 1 rfl) ?_
  refine va_get (D := D) (ci := 7) (v := .int 0) (C := RX9) (T := TX9) (N := 5) hx hb hts n_X9_from_X9 hown hK hP 0 rfl rfl 1 (by decide) (hts (.fieldLink RX9 54 "FaceMapModel" "count" "I") (List.mem_of_getElem? (i := 1) rfl)) (fun _ h9 => h9) rfl dX9_from_6 ?_
  refine lv_icmp_ge (tgt := 88) hx hb dX9_from_9 (by decide) (fun c_1 => ?_) (fun c_1 => ?_)
  · refine lv_iload hx hb dX9_from_88 (lv_at hl 0 rfl) ?_
    have hP9 := hP.sub (ws' := [(h0, .inr (7, [.ref en, .int 0, .ref nt, .ref pl, .int q]))]) [0] rfl
    have hD9 := hD.sub (ws' := [(h0, .inr (7, [.ref en, .int 0, .ref nt, .ref pl, .int q]))]) [0] (by decide) rfl
    exact q_reti () hx hb hr hlocks hK hP9 hD9 hS (Nat.le_of_ble_eq_true rfl) (Nat.le_of_ble_eq_true rfl) (rfl) dX9_from_90
  · exact absurd c_1 (by decide)
def vsX9_isAt : List Cond := .code yX9_isAt cX9_isAt 6 (some .boolean) :: ([.fieldLink RX9 54 "FaceMapModel" "count" "I"] ++ wsX90)
set_option maxRecDepth 20000 in
theorem n_X9_isAt_X9 : ∀ w ∈ wsX90, w ∈ vsX9_isAt := fun _ h => List.mem_cons_of_mem _ (List.mem_append_right _ h)
set_option maxHeartbeats 4000000 in
set_option maxRecDepth 100000 in
/-- isAt, with no piece -/
theorem c_X9_isAt (l : Launch) (D : va_G) (aI aL aZ : ClassId) (h0 : Nat) (en : Nat) (nt : Nat) (pl : Nat) (q : Int32) (x1 : Int32) (y1 : Int32) (x2 : Int32) (y2 : Int32) (sz : Nat) : MI l D q_cl (q_ty aI aL aZ) yX9_isAt vsX9_isAt 0 0 0 [.ref h0, .int 0, .int x1, .int y1, .int x2, .int y2] [(h0, .inr (7, [.ref en, .int 0, .ref nt, .ref pl, .int q]))] sz (fun (r : Int32) (u : Unit) => r = 0) (fun (u : Unit) => [(h0, .inr (7, [.ref en, .int 0, .ref nt, .ref pl, .int q]))]) := by
  refine q_in cX9_isAt 6 (some .boolean) (qQi D q_cl (q_ty aI aL aZ) _ _) (by decide) rfl (Nat.le_of_ble_eq_true rfl) ?_
  intro p e s m args below meth c A ls hat hP hD hS hl
  obtain ⟨hx, hb, hr, hts, hown, hlocks, hml, hin, hK, hN, hA⟩ := hat
  have hown : s.vm.findClass RX9 = some m.cls := hown
  have hl : lv_has ls 6 [(0, .ref h0), (1, .int 0), (2, .int x1), (3, .int y1), (4, .int x2), (5, .int y2)] := hl
  refine lv_iload_n hx hb dX9_isAt_0 rfl (lv_at hl 1 rfl) ?_
  refine lv_aload_n hx hb dX9_isAt_1 rfl (lv_at hl 0 rfl) ?_
  refine va_get (D := D) (ci := 7) (v := .int 0) (C := RX9) (T := TX9) (N := 5) hx hb hts n_X9_isAt_X9 hown hK hP 0 rfl rfl 1 (by decide) (hts (.fieldLink RX9 54 "FaceMapModel" "count" "I") (List.mem_of_getElem? (i := 1) rfl)) (fun _ h9 => h9) rfl dX9_isAt_2 ?_
  refine lv_icmp_ge (tgt := 68) hx hb dX9_isAt_5 (by decide) (fun c_1 => ?_) (fun c_1 => ?_)
  · refine lv_iconst (v := 0) hx hb dX9_isAt_68 (by decide) ?_
    have hP9 := hP.sub (ws' := [(h0, .inr (7, [.ref en, .int 0, .ref nt, .ref pl, .int q]))]) [0] rfl
    have hD9 := hD.sub (ws' := [(h0, .inr (7, [.ref en, .int 0, .ref nt, .ref pl, .int q]))]) [0] (by decide) rfl
    exact q_retz () hx hb hr (by decide) hlocks hK hP9 hD9 hS (Nat.le_of_ble_eq_true rfl) (Nat.le_of_ble_eq_true rfl) (rfl) dX9_isAt_69
  · exact absurd c_1 (by decide)
def vsX9_join : List Cond := .code yX9_join cX9_join 7 (some .int) :: ([.fieldLink RX9 54 "FaceMapModel" "count" "I", .fieldLink RX9 34 "FaceMapModel" "ends" "[I", .fieldLink RX9 82 "FaceMapModel" "isBuilt" "Z", .methodLink RX9 65 yX9_isIn, .static yX9_isIn, .initialized RX9, .code yX9_isIn cX9_isIn 2 (some .boolean), .constant RX9 52 (-500000), .constant RX9 53 (500000), .methodLink RX9 58 yX9_compare, .static yX9_compare, .code yX9_compare cX9_compare 4 (some .int), .methodLink RX9 72 yX9_from, .instanceMethod yX9_from, .selects RX9 yX9_from yX9_from, .code yX9_from cX9_from 7 (some .int), .methodLink RX9 75 yX9_isAt, .instanceMethod yX9_isAt, .selects RX9 yX9_isAt yX9_isAt, .code yX9_isAt cX9_isAt 6 (some .boolean), .methodLink RX9 69 yX9_join, .instanceMethod yX9_join, .selects RX9 yX9_join yX9_join] ++ wsX90)
set_option maxRecDepth 20000 in
theorem g_X9_join_X9_isIn_65 : GoodIn vsX9_join (va_wsS RX9 65 yX9_isIn vsX9_isIn) := goodIn_r _ [4, 5, 6, 7, 8, 9] rfl (by decide +kernel)
set_option maxRecDepth 20000 in
theorem g_X9_join_X9_compare_58 : GoodIn vsX9_join (va_wsS RX9 58 yX9_compare vsX9_compare) := goodIn_r _ [10, 11, 6, 12] rfl (by decide +kernel)
set_option maxRecDepth 20000 in
theorem g_X9_join_X9_from_72 : GoodIn vsX9_join (wsV RX9 72 RX9 yX9_from vsX9_from) := goodIn_r _ [13, 14, 15, 6, 16, 1, 24, 25, 26, 27, 28] rfl (by decide +kernel)
set_option maxRecDepth 20000 in
theorem g_X9_join_X9_isAt_75 : GoodIn vsX9_join (wsV RX9 75 RX9 yX9_isAt vsX9_isAt) := goodIn_r _ [17, 18, 19, 6, 20, 1, 24, 25, 26, 27, 28] rfl (by decide +kernel)
set_option maxRecDepth 20000 in
theorem n_X9_join_X9 : ∀ w ∈ wsX90, w ∈ vsX9_join := fun _ h => List.mem_cons_of_mem _ (List.mem_append_right _ h)
set_option maxHeartbeats 4000000 in
set_option maxRecDepth 100000 in
/-- join, the lesser place first -/
theorem c_X9_join_low (l : Launch) (D : va_G) (aI aL aZ : ClassId) (h0 : Nat) (en : Nat) (nt : Nat) (pl : Nat) (fe : Nat → Int32) (x1 : Int32) (y1 : Int32) (x2 : Int32) (y2 : Int32) (hc : cmp4 x1 y1 x2 y2 ≤ 0) (sz : Nat) : MI l D q_cl (q_ty aI aL aZ) yX9_join vsX9_join 1 0 0 [.ref h0, .int x1, .int y1, .int x2, .int y2] [(h0, .inr (7, [.ref en, .int 0, .ref nt, .ref pl, .int 0])), (en, .inl (aI, 6000, .inl fe))] sz (fun (r : Int32) (u : Unit) => r = (joi x1 y1 x2 y2)) (fun (u : Unit) => ([] : va_W)) := by
  refine q_in cX9_join 7 (some .int) (qQi D q_cl (q_ty aI aL aZ) _ _) (by decide) rfl (Nat.le_of_ble_eq_true rfl) ?_
  intro p e s m args below meth c A ls hat hP hD hS hl
  obtain ⟨hx, hb, hr, hts, hown, hlocks, hml, hin, hK, hN, hA⟩ := hat
  have hown : s.vm.findClass RX9 = some m.cls := hown
  have hl : lv_has ls 7 [(0, .ref h0), (1, .int x1), (2, .int y1), (3, .int x2), (4, .int y2)] := hl
  refine lv_iload_n hx hb dX9_join_0 rfl (lv_at hl 1 rfl) ?_
  refine lv_iload_n hx hb dX9_join_1 rfl (lv_at hl 2 rfl) ?_
  refine q_i (wr := [(h0, .inr (7, [.ref en, .int 0, .ref nt, .ref pl, .int 0])), (en, .inl (aI, 6000, .inl fe))]) (q_runS (As := [.int x1, .int y1]) (rest := []) ⟨hx, hb, hml, hown, hts⟩ (c_X9_isIn l D aI aL aZ x1 y1 _) (va_cwS 2 hts g_X9_join_X9_isIn_65 rfl rfl rfl (by decide +kernel) ⟨Nat.le_of_ble_eq_true rfl, Nat.le_of_ble_eq_true rfl⟩) hK hN hP hD [] rfl (by decide) rfl hl.1 rfl (Nat.le_of_ble_eq_true rfl) dX9_join_2 ⟨Nat.le_of_ble_eq_true rfl, Nat.le_of_ble_eq_true rfl⟩) hP hD hS hA [] [0, 1] rfl rfl (by decide) (by decide) (fun r_1 u_1 H locs hw hP hD hS => ?_)
  rcases hw with ⟨rfl, f1_0⟩ | ⟨rfl, f1_0⟩
  · have hP : va_P D q_cl [(h0, .inr (7, [.ref en, .int 0, .ref nt, .ref pl, .int 0])), (en, .inl (aI, 6000, .inl fe))] H := hP
    have hD : va_D A [(h0, .inr (7, [.ref en, .int 0, .ref nt, .ref pl, .int 0])), (en, .inl (aI, 6000, .inl fe))] := hD
    refine lv_if_eq (tgt := 28) hx hb dX9_join_5 (by decide) (fun c_2 => ?_) (fun c_2 => ?_)
    · exact absurd c_2 (by decide)
    · refine lv_iload_n hx hb dX9_join_8 rfl (lv_at hl 3 rfl) ?_
      refine lv_iload hx hb dX9_join_9 (lv_at hl 4 rfl) ?_
      refine q_i (wr := [(h0, .inr (7, [.ref en, .int 0, .ref nt, .ref pl, .int 0])), (en, .inl (aI, 6000, .inl fe))]) (q_runS (As := [.int x2, .int y2]) (rest := []) ⟨hx, hb, hml, hown, hts⟩ (c_X9_isIn l D aI aL aZ x2 y2 _) (va_cwS 2 hts g_X9_join_X9_isIn_65 rfl rfl rfl (by decide +kernel) ⟨Nat.le_of_ble_eq_true rfl, Nat.le_of_ble_eq_true rfl⟩) hK hN hP hD [] rfl (by decide) rfl hl.1 rfl (Nat.le_of_ble_eq_true rfl) dX9_join_11 ⟨Nat.le_of_ble_eq_true rfl, Nat.le_of_ble_eq_true rfl⟩) hP hD hS hA [] [0, 1] rfl rfl (by decide) (by decide) (fun r_3 u_3 H locs hw hP hD hS => ?_)
      rcases hw with ⟨rfl, f3_0⟩ | ⟨rfl, f3_0⟩
      · have hP : va_P D q_cl [(h0, .inr (7, [.ref en, .int 0, .ref nt, .ref pl, .int 0])), (en, .inl (aI, 6000, .inl fe))] H := hP
        have hD : va_D A [(h0, .inr (7, [.ref en, .int 0, .ref nt, .ref pl, .int 0])), (en, .inl (aI, 6000, .inl fe))] := hD
        refine lv_if_eq (tgt := 28) hx hb dX9_join_14 (by decide) (fun c_4 => ?_) (fun c_4 => ?_)
        · exact absurd c_4 (by decide)
        · refine lv_iload_n hx hb dX9_join_17 rfl (lv_at hl 1 rfl) ?_
          refine lv_iload_n hx hb dX9_join_18 rfl (lv_at hl 3 rfl) ?_
          refine lv_icmp_ne (tgt := 30) hx hb dX9_join_19 (by decide) (fun c_5 => ?_) (fun c_5 => ?_)
          · refine lv_iload_n hx hb dX9_join_30 rfl (lv_at hl 1 rfl) ?_
            refine lv_iload_n hx hb dX9_join_31 rfl (lv_at hl 2 rfl) ?_
            refine lv_iload_n hx hb dX9_join_32 rfl (lv_at hl 3 rfl) ?_
            refine lv_iload hx hb dX9_join_33 (lv_at hl 4 rfl) ?_
            refine q_i (wr := [(h0, .inr (7, [.ref en, .int 0, .ref nt, .ref pl, .int 0])), (en, .inl (aI, 6000, .inl fe))]) (q_runS (As := [.int x1, .int y1, .int x2, .int y2]) (rest := []) ⟨hx, hb, hml, hown, hts⟩ (c_X9_compare l D aI aL aZ x1 y1 x2 y2 _) (va_cwS 4 hts g_X9_join_X9_compare_58 rfl rfl rfl (by decide +kernel) ⟨Nat.le_of_ble_eq_true rfl, Nat.le_of_ble_eq_true rfl⟩) hK hN hP hD [] rfl (by decide) rfl hl.1 rfl (Nat.le_of_ble_eq_true rfl) dX9_join_35 ⟨Nat.le_of_ble_eq_true rfl, Nat.le_of_ble_eq_true rfl⟩) hP hD hS hA [] [0, 1] rfl rfl (by decide) (by decide) (fun r_6 u_6 H locs hw hP hD hS => ?_)
            subst hw
            have hP : va_P D q_cl [(h0, .inr (7, [.ref en, .int 0, .ref nt, .ref pl, .int 0])), (en, .inl (aI, 6000, .inl fe))] H := hP
            have hD : va_D A [(h0, .inr (7, [.ref en, .int 0, .ref nt, .ref pl, .int 0])), (en, .inl (aI, 6000, .inl fe))] := hD
            refine lv_if_le (tgt := 51) hx hb dX9_join_38 (by decide) (fun c_7 => ?_) (fun c_7 => ?_)
            · refine lv_aload_n hx hb dX9_join_51 rfl (lv_at hl 0 rfl) ?_
              refine lv_iload_n hx hb dX9_join_52 rfl (lv_at hl 1 rfl) ?_
              refine lv_iload_n hx hb dX9_join_53 rfl (lv_at hl 2 rfl) ?_
              refine lv_iload_n hx hb dX9_join_54 rfl (lv_at hl 3 rfl) ?_
              refine lv_iload hx hb dX9_join_55 (lv_at hl 4 rfl) ?_
              refine q_i (wr := [(en, .inl (aI, 6000, .inl fe))]) (q_runV (As := [.int x1, .int y1, .int x2, .int y2]) (rest := []) ⟨hx, hb, hml, hown, hts⟩ (c_X9_from l D aI aL aZ h0 en nt pl 0 x1 y1 x2 y2 _) (cwV 4 hts g_X9_join_X9_from_72 rfl rfl rfl (by decide +kernel) ⟨Nat.le_of_ble_eq_true rfl, Nat.le_of_ble_eq_true rfl⟩) hK hN hP hD [0] rfl (by decide) rfl rfl rfl hl.1 rfl (Nat.le_of_ble_eq_true rfl) dX9_join_57 ⟨Nat.le_of_ble_eq_true rfl, Nat.le_of_ble_eq_true rfl⟩) hP hD hS hA [0] [1] rfl rfl (by decide) (by decide) (fun r_8 u_8 H locs hw hP hD hS => ?_)
              subst hw
              have hP : va_P D q_cl [(en, .inl (aI, 6000, .inl fe)), (h0, .inr (7, [.ref en, .int 0, .ref nt, .ref pl, .int 0]))] H := hP
              have hD : va_D A [(en, .inl (aI, 6000, .inl fe)), (h0, .inr (7, [.ref en, .int 0, .ref nt, .ref pl, .int 0]))] := hD
              refine lv_istore (lv' := [(5, .int 0), (0, .ref h0), (1, .int x1), (2, .int y1), (3, .int x2), (4, .int y2)]) hx hb dX9_join_60 hl (by decide) rfl (fun ls hl => ?_)
              refine lv_aload_n hx hb dX9_join_62 rfl (lv_at hl 1 rfl) ?_
              refine lv_iload hx hb dX9_join_63 (lv_at hl 0 rfl) ?_
              refine lv_iload_n hx hb dX9_join_65 rfl (lv_at hl 2 rfl) ?_
              refine lv_iload_n hx hb dX9_join_66 rfl (lv_at hl 3 rfl) ?_
              refine lv_iload_n hx hb dX9_join_67 rfl (lv_at hl 4 rfl) ?_
              refine lv_iload hx hb dX9_join_68 (lv_at hl 5 rfl) ?_
              refine q_i (wr := [(en, .inl (aI, 6000, .inl fe))]) (q_runV (As := [.int 0, .int x1, .int y1, .int x2, .int y2]) (rest := []) ⟨hx, hb, hml, hown, hts⟩ (c_X9_isAt l D aI aL aZ h0 en nt pl 0 x1 y1 x2 y2 _) (cwV 5 hts g_X9_join_X9_isAt_75 rfl rfl rfl (by decide +kernel) ⟨Nat.le_of_ble_eq_true rfl, Nat.le_of_ble_eq_true rfl⟩) hK hN hP hD [1] rfl (by decide) rfl rfl rfl hl.1 rfl (Nat.le_of_ble_eq_true rfl) dX9_join_70 ⟨Nat.le_of_ble_eq_true rfl, Nat.le_of_ble_eq_true rfl⟩) hP hD hS hA [1] [0] rfl rfl (by decide) (by decide) (fun r_9 u_9 H locs hw hP hD hS => ?_)
              subst hw
              have hP : va_P D q_cl [(en, .inl (aI, 6000, .inl fe)), (h0, .inr (7, [.ref en, .int 0, .ref nt, .ref pl, .int 0]))] H := hP
              have hD : va_D A [(en, .inl (aI, 6000, .inl fe)), (h0, .inr (7, [.ref en, .int 0, .ref nt, .ref pl, .int 0]))] := hD
              refine lv_if_eq (tgt := 79) hx hb dX9_join_73 (by decide) (fun c_10 => ?_) (fun c_10 => ?_)
              · refine lv_iconst (v := 0) hx hb dX9_join_79 (by decide) ?_
                refine lv_istore (lv' := [(6, .int 0), (5, .int 0), (0, .ref h0), (1, .int x1), (2, .int y1), (3, .int x2), (4, .int y2)]) hx hb dX9_join_80 hl (by decide) rfl (fun ls hl => ?_)
                refine lv_iload hx hb dX9_join_82 (lv_at hl 0 rfl) ?_
                refine lv_aload_n hx hb dX9_join_84 rfl (lv_at hl 2 rfl) ?_
                refine va_get (D := D) (ci := 7) (v := .int 0) (C := RX9) (T := TX9) (N := 5) hx hb hts n_X9_join_X9 hown hK hP 1 rfl rfl 1 (by decide) (hts (.fieldLink RX9 54 "FaceMapModel" "count" "I") (List.mem_of_getElem? (i := 1) rfl)) (fun _ h9 => h9) rfl dX9_join_85 ?_
                refine lv_icmp_ge (tgt := 114) hx hb dX9_join_88 (by decide) (fun c_11 => ?_) (fun c_11 => ?_)
                · refine lv_aload_n hx hb dX9_join_114 rfl (lv_at hl 2 rfl) ?_
                  refine va_get (D := D) (ci := 7) (v := .int 0) (C := RX9) (T := TX9) (N := 5) hx hb hts n_X9_join_X9 hown hK hP 1 rfl rfl 1 (by decide) (hts (.fieldLink RX9 54 "FaceMapModel" "count" "I") (List.mem_of_getElem? (i := 1) rfl)) (fun _ h9 => h9) rfl dX9_join_115 ?_
                  refine lv_sipush (v := 1500) hx hb dX9_join_118 (by decide) ?_
                  refine lv_icmp_ne (tgt := 127) hx hb dX9_join_121 (by decide) (fun c_12 => ?_) (fun c_12 => ?_)
                  · refine lv_iconst (v := 4) hx hb dX9_join_127 (by decide) ?_
                    refine lv_aload_n hx hb dX9_join_128 rfl (lv_at hl 2 rfl) ?_
                    refine va_get (D := D) (ci := 7) (v := .int 0) (C := RX9) (T := TX9) (N := 5) hx hb hts n_X9_join_X9 hown hK hP 1 rfl rfl 1 (by decide) (hts (.fieldLink RX9 54 "FaceMapModel" "count" "I") (List.mem_of_getElem? (i := 1) rfl)) (fun _ h9 => h9) rfl dX9_join_129 ?_
                    refine lv_imul hx hb dX9_join_132 ?_
                    refine q_vi (v := 0) (by decide) ?_
                    refine lv_iconst (v := 1) hx hb dX9_join_133 (by decide) ?_
                    refine lv_isub hx hb dX9_join_134 ?_
                    refine q_vi (v := (-1)) (by decide) ?_
                    refine lv_istore (lv' := [(6, .int (-1)), (5, .int 0), (0, .ref h0), (1, .int x1), (2, .int y1), (3, .int x2), (4, .int y2)]) hx hb dX9_join_135 hl (by decide) rfl (fun ls hl => ?_)
                    refine lv_iload hx hb dX9_join_137 (lv_at hl 0 rfl) ?_
                    refine lv_iconst (v := 4) hx hb dX9_join_139 (by decide) ?_
                    refine lv_iload hx hb dX9_join_140 (lv_at hl 1 rfl) ?_
                    refine lv_imul hx hb dX9_join_142 ?_
                    refine q_vi (v := 0) (by decide) ?_
                    refine lv_icmp_lt (tgt := 168) hx hb dX9_join_143 (by decide) (fun c_13 => ?_) (fun c_13 => ?_)
                    · refine lv_aload_n hx hb dX9_join_168 rfl (lv_at hl 2 rfl) ?_
                      refine va_get (D := D) (ci := 7) (v := .ref en) (C := RX9) (T := TX9) (N := 5) hx hb hts n_X9_join_X9 hown hK hP 1 rfl rfl 0 (by decide) (hts (.fieldLink RX9 34 "FaceMapModel" "ends" "[I") (List.mem_of_getElem? (i := 2) rfl)) (fun _ h9 => h9) rfl dX9_join_169 ?_
                      refine lv_iconst (v := 4) hx hb dX9_join_172 (by decide) ?_
                      refine lv_iload hx hb dX9_join_173 (lv_at hl 1 rfl) ?_
                      refine lv_imul hx hb dX9_join_175 ?_
                      refine q_vi (v := 0) (by decide) ?_
                      refine lv_iload_n hx hb dX9_join_176 rfl (lv_at hl 3 rfl) ?_
                      refine va_iast hx hb hK hP hD hS 0 0 rfl rfl (q_ix 0 (by decide) (by decide) (by decide)) dX9_join_177 (fun H locs hP hD hS => ?_)
                      have hP : va_P D q_cl [(en, .inl (aI, 6000, .inl (upd fe 0 x1))), (h0, .inr (7, [.ref en, .int 0, .ref nt, .ref pl, .int 0]))] H := hP
                      have hD : va_D A [(en, .inl (aI, 6000, .inl (upd fe 0 x1))), (h0, .inr (7, [.ref en, .int 0, .ref nt, .ref pl, .int 0]))] := hD
                      refine lv_aload_n hx hb dX9_join_178 rfl (lv_at hl 2 rfl) ?_
                      refine va_get (D := D) (ci := 7) (v := .ref en) (C := RX9) (T := TX9) (N := 5) hx hb hts n_X9_join_X9 hown hK hP 1 rfl rfl 0 (by decide) (hts (.fieldLink RX9 34 "FaceMapModel" "ends" "[I") (List.mem_of_getElem? (i := 2) rfl)) (fun _ h9 => h9) rfl dX9_join_179 ?_
                      refine lv_iconst (v := 4) hx hb dX9_join_182 (by decide) ?_
                      refine lv_iload hx hb dX9_join_183 (lv_at hl 1 rfl) ?_
                      refine lv_imul hx hb dX9_join_185 ?_
                      refine q_vi (v := 0) (by decide) ?_
                      refine lv_iconst (v := 1) hx hb dX9_join_186 (by decide) ?_
                      refine lv_iadd hx hb dX9_join_187 ?_
                      refine q_vi (v := 1) (by decide) ?_
                      refine lv_iload_n hx hb dX9_join_188 rfl (lv_at hl 4 rfl) ?_
                      refine va_iast hx hb hK hP hD hS 0 0 rfl rfl (q_ix 1 (by decide) (by decide) (by decide)) dX9_join_189 (fun H locs hP hD hS => ?_)
                      have hP : va_P D q_cl [(en, .inl (aI, 6000, .inl (upd (upd fe 0 x1) 1 y1))), (h0, .inr (7, [.ref en, .int 0, .ref nt, .ref pl, .int 0]))] H := hP
                      have hD : va_D A [(en, .inl (aI, 6000, .inl (upd (upd fe 0 x1) 1 y1))), (h0, .inr (7, [.ref en, .int 0, .ref nt, .ref pl, .int 0]))] := hD
                      refine lv_aload_n hx hb dX9_join_190 rfl (lv_at hl 2 rfl) ?_
                      refine va_get (D := D) (ci := 7) (v := .ref en) (C := RX9) (T := TX9) (N := 5) hx hb hts n_X9_join_X9 hown hK hP 1 rfl rfl 0 (by decide) (hts (.fieldLink RX9 34 "FaceMapModel" "ends" "[I") (List.mem_of_getElem? (i := 2) rfl)) (fun _ h9 => h9) rfl dX9_join_191 ?_
                      refine lv_iconst (v := 4) hx hb dX9_join_194 (by decide) ?_
                      refine lv_iload hx hb dX9_join_195 (lv_at hl 1 rfl) ?_
                      refine lv_imul hx hb dX9_join_197 ?_
                      refine q_vi (v := 0) (by decide) ?_
                      refine lv_iconst (v := 2) hx hb dX9_join_198 (by decide) ?_
                      refine lv_iadd hx hb dX9_join_199 ?_
                      refine q_vi (v := 2) (by decide) ?_
                      refine lv_iload_n hx hb dX9_join_200 rfl (lv_at hl 5 rfl) ?_
                      refine va_iast hx hb hK hP hD hS 0 0 rfl rfl (q_ix 2 (by decide) (by decide) (by decide)) dX9_join_201 (fun H locs hP hD hS => ?_)
                      have hP : va_P D q_cl [(en, .inl (aI, 6000, .inl (upd (upd (upd fe 0 x1) 1 y1) 2 x2))), (h0, .inr (7, [.ref en, .int 0, .ref nt, .ref pl, .int 0]))] H := hP
                      have hD : va_D A [(en, .inl (aI, 6000, .inl (upd (upd (upd fe 0 x1) 1 y1) 2 x2))), (h0, .inr (7, [.ref en, .int 0, .ref nt, .ref pl, .int 0]))] := hD
                      refine lv_aload_n hx hb dX9_join_202 rfl (lv_at hl 2 rfl) ?_
                      refine va_get (D := D) (ci := 7) (v := .ref en) (C := RX9) (T := TX9) (N := 5) hx hb hts n_X9_join_X9 hown hK hP 1 rfl rfl 0 (by decide) (hts (.fieldLink RX9 34 "FaceMapModel" "ends" "[I") (List.mem_of_getElem? (i := 2) rfl)) (fun _ h9 => h9) rfl dX9_join_203 ?_
                      refine lv_iconst (v := 4) hx hb dX9_join_206 (by decide) ?_
                      refine lv_iload hx hb dX9_join_207 (lv_at hl 1 rfl) ?_
                      refine lv_imul hx hb dX9_join_209 ?_
                      refine q_vi (v := 0) (by decide) ?_
                      refine lv_iconst (v := 3) hx hb dX9_join_210 (by decide) ?_
                      refine lv_iadd hx hb dX9_join_211 ?_
                      refine q_vi (v := 3) (by decide) ?_
                      refine lv_iload hx hb dX9_join_212 (lv_at hl 6 rfl) ?_
                      refine va_iast hx hb hK hP hD hS 0 0 rfl rfl (q_ix 3 (by decide) (by decide) (by decide)) dX9_join_214 (fun H locs hP hD hS => ?_)
                      have hP : va_P D q_cl [(en, .inl (aI, 6000, .inl (upd (upd (upd (upd fe 0 x1) 1 y1) 2 x2) 3 y2))), (h0, .inr (7, [.ref en, .int 0, .ref nt, .ref pl, .int 0]))] H := hP
                      have hD : va_D A [(en, .inl (aI, 6000, .inl (upd (upd (upd (upd fe 0 x1) 1 y1) 2 x2) 3 y2))), (h0, .inr (7, [.ref en, .int 0, .ref nt, .ref pl, .int 0]))] := hD
                      refine lv_aload_n hx hb dX9_join_215 rfl (lv_at hl 2 rfl) ?_
                      refine lv_dup hx hb dX9_join_216 rfl ?_
                      refine va_get (D := D) (ci := 7) (v := .int 0) (C := RX9) (T := TX9) (N := 5) hx hb hts n_X9_join_X9 hown hK hP 1 rfl rfl 1 (by decide) (hts (.fieldLink RX9 54 "FaceMapModel" "count" "I") (List.mem_of_getElem? (i := 1) rfl)) (fun _ h9 => h9) rfl dX9_join_217 ?_
                      refine lv_iconst (v := 1) hx hb dX9_join_220 (by decide) ?_
                      refine lv_iadd hx hb dX9_join_221 ?_
                      refine q_vi (v := 1) (by decide) ?_
                      refine va_put (D := D) (ci := 7) (v := .int 1) (ty := .int) (C := RX9) (T := TX9) (N := 5) hx hb hts n_X9_join_X9 tyX9 tyX9_ok nmX9 hown hK hP hD hS 1 rfl rfl 1 (by decide) (hts (.fieldLink RX9 54 "FaceMapModel" "count" "I") (List.mem_of_getElem? (i := 1) rfl)) (fun _ h9 => h9) rfl (by decide +kernel) rfl rfl (Nat.le_of_ble_eq_true rfl) dX9_join_222 (fun H locs hP hD hS => ?_)
                      have hP : va_P D q_cl [(en, .inl (aI, 6000, .inl (upd (upd (upd (upd fe 0 x1) 1 y1) 2 x2) 3 y2))), (h0, .inr (7, [.ref en, .int 1, .ref nt, .ref pl, .int 0]))] H := hP
                      have hD : va_D A [(en, .inl (aI, 6000, .inl (upd (upd (upd (upd fe 0 x1) 1 y1) 2 x2) 3 y2))), (h0, .inr (7, [.ref en, .int 1, .ref nt, .ref pl, .int 0]))] := hD
                      refine lv_aload_n hx hb dX9_join_225 rfl (lv_at hl 2 rfl) ?_
                      refine lv_iconst (v := 0) hx hb dX9_join_226 (by decide) ?_
                      refine va_put (D := D) (ci := 7) (v := .int 0) (ty := .boolean) (C := RX9) (T := TX9) (N := 5) hx hb hts n_X9_join_X9 tyX9 tyX9_ok nmX9 hown hK hP hD hS 1 rfl rfl 4 (by decide) (hts (.fieldLink RX9 82 "FaceMapModel" "isBuilt" "Z") (List.mem_of_getElem? (i := 3) rfl)) (fun _ h9 => h9) rfl (by decide +kernel) rfl rfl (Nat.le_of_ble_eq_true rfl) dX9_join_227 (fun H locs hP hD hS => ?_)
                      have hP : va_P D q_cl [(en, .inl (aI, 6000, .inl (upd (upd (upd (upd fe 0 x1) 1 y1) 2 x2) 3 y2))), (h0, .inr (7, [.ref en, .int 1, .ref nt, .ref pl, .int 0]))] H := hP
                      have hD : va_D A [(en, .inl (aI, 6000, .inl (upd (upd (upd (upd fe 0 x1) 1 y1) 2 x2) 3 y2))), (h0, .inr (7, [.ref en, .int 1, .ref nt, .ref pl, .int 0]))] := hD
                      refine lv_aload_n hx hb dX9_join_230 rfl (lv_at hl 2 rfl) ?_
                      refine va_get (D := D) (ci := 7) (v := .int 1) (C := RX9) (T := TX9) (N := 5) hx hb hts n_X9_join_X9 hown hK hP 1 rfl rfl 1 (by decide) (hts (.fieldLink RX9 54 "FaceMapModel" "count" "I") (List.mem_of_getElem? (i := 1) rfl)) (fun _ h9 => h9) rfl dX9_join_231 ?_
                      have hP9 := hP.sub (ws' := []) [] rfl
                      have hD9 := hD.sub (ws' := []) [] (by decide) rfl
                      exact q_reti () hx hb hr hlocks hK hP9 hD9 hS (Nat.le_of_ble_eq_true rfl) (Nat.le_of_ble_eq_true rfl) ((by first | exact joi_n1 (by assumption) | exact joi_n2 (by assumption) | exact joi_e (by assumption) (by assumption) | exact joi_x (by assumption) (by assumption) (by assumption) | exact joi_y (by assumption) (by assumption) (by assumption) | exact joi_c _ _ _ _)) dX9_join_234
                    · exact absurd c_13 (by decide)
                  · exact absurd c_12 (by decide)
                · exact absurd c_11 (by decide)
              · exact absurd c_10 (by decide)
            · exact absurd hc c_7
          · refine lv_iload_n hx hb dX9_join_22 rfl (lv_at hl 2 rfl) ?_
            refine lv_iload hx hb dX9_join_23 (lv_at hl 4 rfl) ?_
            refine lv_icmp_ne (tgt := 30) hx hb dX9_join_25 (by decide) (fun c_14 => ?_) (fun c_14 => ?_)
            · refine lv_iload_n hx hb dX9_join_30 rfl (lv_at hl 1 rfl) ?_
              refine lv_iload_n hx hb dX9_join_31 rfl (lv_at hl 2 rfl) ?_
              refine lv_iload_n hx hb dX9_join_32 rfl (lv_at hl 3 rfl) ?_
              refine lv_iload hx hb dX9_join_33 (lv_at hl 4 rfl) ?_
              refine q_i (wr := [(h0, .inr (7, [.ref en, .int 0, .ref nt, .ref pl, .int 0])), (en, .inl (aI, 6000, .inl fe))]) (q_runS (As := [.int x1, .int y1, .int x2, .int y2]) (rest := []) ⟨hx, hb, hml, hown, hts⟩ (c_X9_compare l D aI aL aZ x1 y1 x2 y2 _) (va_cwS 4 hts g_X9_join_X9_compare_58 rfl rfl rfl (by decide +kernel) ⟨Nat.le_of_ble_eq_true rfl, Nat.le_of_ble_eq_true rfl⟩) hK hN hP hD [] rfl (by decide) rfl hl.1 rfl (Nat.le_of_ble_eq_true rfl) dX9_join_35 ⟨Nat.le_of_ble_eq_true rfl, Nat.le_of_ble_eq_true rfl⟩) hP hD hS hA [] [0, 1] rfl rfl (by decide) (by decide) (fun r_15 u_15 H locs hw hP hD hS => ?_)
              subst hw
              have hP : va_P D q_cl [(h0, .inr (7, [.ref en, .int 0, .ref nt, .ref pl, .int 0])), (en, .inl (aI, 6000, .inl fe))] H := hP
              have hD : va_D A [(h0, .inr (7, [.ref en, .int 0, .ref nt, .ref pl, .int 0])), (en, .inl (aI, 6000, .inl fe))] := hD
              refine lv_if_le (tgt := 51) hx hb dX9_join_38 (by decide) (fun c_16 => ?_) (fun c_16 => ?_)
              · refine lv_aload_n hx hb dX9_join_51 rfl (lv_at hl 0 rfl) ?_
                refine lv_iload_n hx hb dX9_join_52 rfl (lv_at hl 1 rfl) ?_
                refine lv_iload_n hx hb dX9_join_53 rfl (lv_at hl 2 rfl) ?_
                refine lv_iload_n hx hb dX9_join_54 rfl (lv_at hl 3 rfl) ?_
                refine lv_iload hx hb dX9_join_55 (lv_at hl 4 rfl) ?_
                refine q_i (wr := [(en, .inl (aI, 6000, .inl fe))]) (q_runV (As := [.int x1, .int y1, .int x2, .int y2]) (rest := []) ⟨hx, hb, hml, hown, hts⟩ (c_X9_from l D aI aL aZ h0 en nt pl 0 x1 y1 x2 y2 _) (cwV 4 hts g_X9_join_X9_from_72 rfl rfl rfl (by decide +kernel) ⟨Nat.le_of_ble_eq_true rfl, Nat.le_of_ble_eq_true rfl⟩) hK hN hP hD [0] rfl (by decide) rfl rfl rfl hl.1 rfl (Nat.le_of_ble_eq_true rfl) dX9_join_57 ⟨Nat.le_of_ble_eq_true rfl, Nat.le_of_ble_eq_true rfl⟩) hP hD hS hA [0] [1] rfl rfl (by decide) (by decide) (fun r_17 u_17 H locs hw hP hD hS => ?_)
                subst hw
                have hP : va_P D q_cl [(en, .inl (aI, 6000, .inl fe)), (h0, .inr (7, [.ref en, .int 0, .ref nt, .ref pl, .int 0]))] H := hP
                have hD : va_D A [(en, .inl (aI, 6000, .inl fe)), (h0, .inr (7, [.ref en, .int 0, .ref nt, .ref pl, .int 0]))] := hD
                refine lv_istore (lv' := [(5, .int 0), (0, .ref h0), (1, .int x1), (2, .int y1), (3, .int x2), (4, .int y2)]) hx hb dX9_join_60 hl (by decide) rfl (fun ls hl => ?_)
                refine lv_aload_n hx hb dX9_join_62 rfl (lv_at hl 1 rfl) ?_
                refine lv_iload hx hb dX9_join_63 (lv_at hl 0 rfl) ?_
                refine lv_iload_n hx hb dX9_join_65 rfl (lv_at hl 2 rfl) ?_
                refine lv_iload_n hx hb dX9_join_66 rfl (lv_at hl 3 rfl) ?_
                refine lv_iload_n hx hb dX9_join_67 rfl (lv_at hl 4 rfl) ?_
                refine lv_iload hx hb dX9_join_68 (lv_at hl 5 rfl) ?_
                refine q_i (wr := [(en, .inl (aI, 6000, .inl fe))]) (q_runV (As := [.int 0, .int x1, .int y1, .int x2, .int y2]) (rest := []) ⟨hx, hb, hml, hown, hts⟩ (c_X9_isAt l D aI aL aZ h0 en nt pl 0 x1 y1 x2 y2 _) (cwV 5 hts g_X9_join_X9_isAt_75 rfl rfl rfl (by decide +kernel) ⟨Nat.le_of_ble_eq_true rfl, Nat.le_of_ble_eq_true rfl⟩) hK hN hP hD [1] rfl (by decide) rfl rfl rfl hl.1 rfl (Nat.le_of_ble_eq_true rfl) dX9_join_70 ⟨Nat.le_of_ble_eq_true rfl, Nat.le_of_ble_eq_true rfl⟩) hP hD hS hA [1] [0] rfl rfl (by decide) (by decide) (fun r_18 u_18 H locs hw hP hD hS => ?_)
                subst hw
                have hP : va_P D q_cl [(en, .inl (aI, 6000, .inl fe)), (h0, .inr (7, [.ref en, .int 0, .ref nt, .ref pl, .int 0]))] H := hP
                have hD : va_D A [(en, .inl (aI, 6000, .inl fe)), (h0, .inr (7, [.ref en, .int 0, .ref nt, .ref pl, .int 0]))] := hD
                refine lv_if_eq (tgt := 79) hx hb dX9_join_73 (by decide) (fun c_19 => ?_) (fun c_19 => ?_)
                · refine lv_iconst (v := 0) hx hb dX9_join_79 (by decide) ?_
                  refine lv_istore (lv' := [(6, .int 0), (5, .int 0), (0, .ref h0), (1, .int x1), (2, .int y1), (3, .int x2), (4, .int y2)]) hx hb dX9_join_80 hl (by decide) rfl (fun ls hl => ?_)
                  refine lv_iload hx hb dX9_join_82 (lv_at hl 0 rfl) ?_
                  refine lv_aload_n hx hb dX9_join_84 rfl (lv_at hl 2 rfl) ?_
                  refine va_get (D := D) (ci := 7) (v := .int 0) (C := RX9) (T := TX9) (N := 5) hx hb hts n_X9_join_X9 hown hK hP 1 rfl rfl 1 (by decide) (hts (.fieldLink RX9 54 "FaceMapModel" "count" "I") (List.mem_of_getElem? (i := 1) rfl)) (fun _ h9 => h9) rfl dX9_join_85 ?_
                  refine lv_icmp_ge (tgt := 114) hx hb dX9_join_88 (by decide) (fun c_20 => ?_) (fun c_20 => ?_)
                  · refine lv_aload_n hx hb dX9_join_114 rfl (lv_at hl 2 rfl) ?_
                    refine va_get (D := D) (ci := 7) (v := .int 0) (C := RX9) (T := TX9) (N := 5) hx hb hts n_X9_join_X9 hown hK hP 1 rfl rfl 1 (by decide) (hts (.fieldLink RX9 54 "FaceMapModel" "count" "I") (List.mem_of_getElem? (i := 1) rfl)) (fun _ h9 => h9) rfl dX9_join_115 ?_
                    refine lv_sipush (v := 1500) hx hb dX9_join_118 (by decide) ?_
                    refine lv_icmp_ne (tgt := 127) hx hb dX9_join_121 (by decide) (fun c_21 => ?_) (fun c_21 => ?_)
                    · refine lv_iconst (v := 4) hx hb dX9_join_127 (by decide) ?_
                      refine lv_aload_n hx hb dX9_join_128 rfl (lv_at hl 2 rfl) ?_
                      refine va_get (D := D) (ci := 7) (v := .int 0) (C := RX9) (T := TX9) (N := 5) hx hb hts n_X9_join_X9 hown hK hP 1 rfl rfl 1 (by decide) (hts (.fieldLink RX9 54 "FaceMapModel" "count" "I") (List.mem_of_getElem? (i := 1) rfl)) (fun _ h9 => h9) rfl dX9_join_129 ?_
                      refine lv_imul hx hb dX9_join_132 ?_
                      refine q_vi (v := 0) (by decide) ?_
                      refine lv_iconst (v := 1) hx hb dX9_join_133 (by decide) ?_
                      refine lv_isub hx hb dX9_join_134 ?_
                      refine q_vi (v := (-1)) (by decide) ?_
                      refine lv_istore (lv' := [(6, .int (-1)), (5, .int 0), (0, .ref h0), (1, .int x1), (2, .int y1), (3, .int x2), (4, .int y2)]) hx hb dX9_join_135 hl (by decide) rfl (fun ls hl => ?_)
                      refine lv_iload hx hb dX9_join_137 (lv_at hl 0 rfl) ?_
                      refine lv_iconst (v := 4) hx hb dX9_join_139 (by decide) ?_
                      refine lv_iload hx hb dX9_join_140 (lv_at hl 1 rfl) ?_
                      refine lv_imul hx hb dX9_join_142 ?_
                      refine q_vi (v := 0) (by decide) ?_
                      refine lv_icmp_lt (tgt := 168) hx hb dX9_join_143 (by decide) (fun c_22 => ?_) (fun c_22 => ?_)
                      · refine lv_aload_n hx hb dX9_join_168 rfl (lv_at hl 2 rfl) ?_
                        refine va_get (D := D) (ci := 7) (v := .ref en) (C := RX9) (T := TX9) (N := 5) hx hb hts n_X9_join_X9 hown hK hP 1 rfl rfl 0 (by decide) (hts (.fieldLink RX9 34 "FaceMapModel" "ends" "[I") (List.mem_of_getElem? (i := 2) rfl)) (fun _ h9 => h9) rfl dX9_join_169 ?_
                        refine lv_iconst (v := 4) hx hb dX9_join_172 (by decide) ?_
                        refine lv_iload hx hb dX9_join_173 (lv_at hl 1 rfl) ?_
                        refine lv_imul hx hb dX9_join_175 ?_
                        refine q_vi (v := 0) (by decide) ?_
                        refine lv_iload_n hx hb dX9_join_176 rfl (lv_at hl 3 rfl) ?_
                        refine va_iast hx hb hK hP hD hS 0 0 rfl rfl (q_ix 0 (by decide) (by decide) (by decide)) dX9_join_177 (fun H locs hP hD hS => ?_)
                        have hP : va_P D q_cl [(en, .inl (aI, 6000, .inl (upd fe 0 x1))), (h0, .inr (7, [.ref en, .int 0, .ref nt, .ref pl, .int 0]))] H := hP
                        have hD : va_D A [(en, .inl (aI, 6000, .inl (upd fe 0 x1))), (h0, .inr (7, [.ref en, .int 0, .ref nt, .ref pl, .int 0]))] := hD
                        refine lv_aload_n hx hb dX9_join_178 rfl (lv_at hl 2 rfl) ?_
                        refine va_get (D := D) (ci := 7) (v := .ref en) (C := RX9) (T := TX9) (N := 5) hx hb hts n_X9_join_X9 hown hK hP 1 rfl rfl 0 (by decide) (hts (.fieldLink RX9 34 "FaceMapModel" "ends" "[I") (List.mem_of_getElem? (i := 2) rfl)) (fun _ h9 => h9) rfl dX9_join_179 ?_
                        refine lv_iconst (v := 4) hx hb dX9_join_182 (by decide) ?_
                        refine lv_iload hx hb dX9_join_183 (lv_at hl 1 rfl) ?_
                        refine lv_imul hx hb dX9_join_185 ?_
                        refine q_vi (v := 0) (by decide) ?_
                        refine lv_iconst (v := 1) hx hb dX9_join_186 (by decide) ?_
                        refine lv_iadd hx hb dX9_join_187 ?_
                        refine q_vi (v := 1) (by decide) ?_
                        refine lv_iload_n hx hb dX9_join_188 rfl (lv_at hl 4 rfl) ?_
                        refine va_iast hx hb hK hP hD hS 0 0 rfl rfl (q_ix 1 (by decide) (by decide) (by decide)) dX9_join_189 (fun H locs hP hD hS => ?_)
                        have hP : va_P D q_cl [(en, .inl (aI, 6000, .inl (upd (upd fe 0 x1) 1 y1))), (h0, .inr (7, [.ref en, .int 0, .ref nt, .ref pl, .int 0]))] H := hP
                        have hD : va_D A [(en, .inl (aI, 6000, .inl (upd (upd fe 0 x1) 1 y1))), (h0, .inr (7, [.ref en, .int 0, .ref nt, .ref pl, .int 0]))] := hD
                        refine lv_aload_n hx hb dX9_join_190 rfl (lv_at hl 2 rfl) ?_
                        refine va_get (D := D) (ci := 7) (v := .ref en) (C := RX9) (T := TX9) (N := 5) hx hb hts n_X9_join_X9 hown hK hP 1 rfl rfl 0 (by decide) (hts (.fieldLink RX9 34 "FaceMapModel" "ends" "[I") (List.mem_of_getElem? (i := 2) rfl)) (fun _ h9 => h9) rfl dX9_join_191 ?_
                        refine lv_iconst (v := 4) hx hb dX9_join_194 (by decide) ?_
                        refine lv_iload hx hb dX9_join_195 (lv_at hl 1 rfl) ?_
                        refine lv_imul hx hb dX9_join_197 ?_
                        refine q_vi (v := 0) (by decide) ?_
                        refine lv_iconst (v := 2) hx hb dX9_join_198 (by decide) ?_
                        refine lv_iadd hx hb dX9_join_199 ?_
                        refine q_vi (v := 2) (by decide) ?_
                        refine lv_iload_n hx hb dX9_join_200 rfl (lv_at hl 5 rfl) ?_
                        refine va_iast hx hb hK hP hD hS 0 0 rfl rfl (q_ix 2 (by decide) (by decide) (by decide)) dX9_join_201 (fun H locs hP hD hS => ?_)
                        have hP : va_P D q_cl [(en, .inl (aI, 6000, .inl (upd (upd (upd fe 0 x1) 1 y1) 2 x2))), (h0, .inr (7, [.ref en, .int 0, .ref nt, .ref pl, .int 0]))] H := hP
                        have hD : va_D A [(en, .inl (aI, 6000, .inl (upd (upd (upd fe 0 x1) 1 y1) 2 x2))), (h0, .inr (7, [.ref en, .int 0, .ref nt, .ref pl, .int 0]))] := hD
                        refine lv_aload_n hx hb dX9_join_202 rfl (lv_at hl 2 rfl) ?_
                        refine va_get (D := D) (ci := 7) (v := .ref en) (C := RX9) (T := TX9) (N := 5) hx hb hts n_X9_join_X9 hown hK hP 1 rfl rfl 0 (by decide) (hts (.fieldLink RX9 34 "FaceMapModel" "ends" "[I") (List.mem_of_getElem? (i := 2) rfl)) (fun _ h9 => h9) rfl dX9_join_203 ?_
                        refine lv_iconst (v := 4) hx hb dX9_join_206 (by decide) ?_
                        refine lv_iload hx hb dX9_join_207 (lv_at hl 1 rfl) ?_
                        refine lv_imul hx hb dX9_join_209 ?_
                        refine q_vi (v := 0) (by decide) ?_
                        refine lv_iconst (v := 3) hx hb dX9_join_210 (by decide) ?_
                        refine lv_iadd hx hb dX9_join_211 ?_
                        refine q_vi (v := 3) (by decide) ?_
                        refine lv_iload hx hb dX9_join_212 (lv_at hl 6 rfl) ?_
                        refine va_iast hx hb hK hP hD hS 0 0 rfl rfl (q_ix 3 (by decide) (by decide) (by decide)) dX9_join_214 (fun H locs hP hD hS => ?_)
                        have hP : va_P D q_cl [(en, .inl (aI, 6000, .inl (upd (upd (upd (upd fe 0 x1) 1 y1) 2 x2) 3 y2))), (h0, .inr (7, [.ref en, .int 0, .ref nt, .ref pl, .int 0]))] H := hP
                        have hD : va_D A [(en, .inl (aI, 6000, .inl (upd (upd (upd (upd fe 0 x1) 1 y1) 2 x2) 3 y2))), (h0, .inr (7, [.ref en, .int 0, .ref nt, .ref pl, .int 0]))] := hD
                        refine lv_aload_n hx hb dX9_join_215 rfl (lv_at hl 2 rfl) ?_
                        refine lv_dup hx hb dX9_join_216 rfl ?_
                        refine va_get (D := D) (ci := 7) (v := .int 0) (C := RX9) (T := TX9) (N := 5) hx hb hts n_X9_join_X9 hown hK hP 1 rfl rfl 1 (by decide) (hts (.fieldLink RX9 54 "FaceMapModel" "count" "I") (List.mem_of_getElem? (i := 1) rfl)) (fun _ h9 => h9) rfl dX9_join_217 ?_
                        refine lv_iconst (v := 1) hx hb dX9_join_220 (by decide) ?_
                        refine lv_iadd hx hb dX9_join_221 ?_
                        refine q_vi (v := 1) (by decide) ?_
                        refine va_put (D := D) (ci := 7) (v := .int 1) (ty := .int) (C := RX9) (T := TX9) (N := 5) hx hb hts n_X9_join_X9 tyX9 tyX9_ok nmX9 hown hK hP hD hS 1 rfl rfl 1 (by decide) (hts (.fieldLink RX9 54 "FaceMapModel" "count" "I") (List.mem_of_getElem? (i := 1) rfl)) (fun _ h9 => h9) rfl (by decide +kernel) rfl rfl (Nat.le_of_ble_eq_true rfl) dX9_join_222 (fun H locs hP hD hS => ?_)
                        have hP : va_P D q_cl [(en, .inl (aI, 6000, .inl (upd (upd (upd (upd fe 0 x1) 1 y1) 2 x2) 3 y2))), (h0, .inr (7, [.ref en, .int 1, .ref nt, .ref pl, .int 0]))] H := hP
                        have hD : va_D A [(en, .inl (aI, 6000, .inl (upd (upd (upd (upd fe 0 x1) 1 y1) 2 x2) 3 y2))), (h0, .inr (7, [.ref en, .int 1, .ref nt, .ref pl, .int 0]))] := hD
                        refine lv_aload_n hx hb dX9_join_225 rfl (lv_at hl 2 rfl) ?_
                        refine lv_iconst (v := 0) hx hb dX9_join_226 (by decide) ?_
                        refine va_put (D := D) (ci := 7) (v := .int 0) (ty := .boolean) (C := RX9) (T := TX9) (N := 5) hx hb hts n_X9_join_X9 tyX9 tyX9_ok nmX9 hown hK hP hD hS 1 rfl rfl 4 (by decide) (hts (.fieldLink RX9 82 "FaceMapModel" "isBuilt" "Z") (List.mem_of_getElem? (i := 3) rfl)) (fun _ h9 => h9) rfl (by decide +kernel) rfl rfl (Nat.le_of_ble_eq_true rfl) dX9_join_227 (fun H locs hP hD hS => ?_)
                        have hP : va_P D q_cl [(en, .inl (aI, 6000, .inl (upd (upd (upd (upd fe 0 x1) 1 y1) 2 x2) 3 y2))), (h0, .inr (7, [.ref en, .int 1, .ref nt, .ref pl, .int 0]))] H := hP
                        have hD : va_D A [(en, .inl (aI, 6000, .inl (upd (upd (upd (upd fe 0 x1) 1 y1) 2 x2) 3 y2))), (h0, .inr (7, [.ref en, .int 1, .ref nt, .ref pl, .int 0]))] := hD
                        refine lv_aload_n hx hb dX9_join_230 rfl (lv_at hl 2 rfl) ?_
                        refine va_get (D := D) (ci := 7) (v := .int 1) (C := RX9) (T := TX9) (N := 5) hx hb hts n_X9_join_X9 hown hK hP 1 rfl rfl 1 (by decide) (hts (.fieldLink RX9 54 "FaceMapModel" "count" "I") (List.mem_of_getElem? (i := 1) rfl)) (fun _ h9 => h9) rfl dX9_join_231 ?_
                        have hP9 := hP.sub (ws' := []) [] rfl
                        have hD9 := hD.sub (ws' := []) [] (by decide) rfl
                        exact q_reti () hx hb hr hlocks hK hP9 hD9 hS (Nat.le_of_ble_eq_true rfl) (Nat.le_of_ble_eq_true rfl) ((by first | exact joi_n1 (by assumption) | exact joi_n2 (by assumption) | exact joi_e (by assumption) (by assumption) | exact joi_x (by assumption) (by assumption) (by assumption) | exact joi_y (by assumption) (by assumption) (by assumption) | exact joi_c _ _ _ _)) dX9_join_234
                      · exact absurd c_22 (by decide)
                    · exact absurd c_21 (by decide)
                  · exact absurd c_20 (by decide)
                · exact absurd c_19 (by decide)
              · exact absurd hc c_16
            · refine lv_iconst (v := (-1)) hx hb dX9_join_28 (by decide) ?_
              have hP9 := hP.sub (ws' := []) [] rfl
              have hD9 := hD.sub (ws' := []) [] (by decide) rfl
              exact q_reti () hx hb hr hlocks hK hP9 hD9 hS (Nat.le_of_ble_eq_true rfl) (Nat.le_of_ble_eq_true rfl) ((by first | exact joi_n1 (by assumption) | exact joi_n2 (by assumption) | exact joi_e (by assumption) (by assumption) | exact joi_x (by assumption) (by assumption) (by assumption) | exact joi_y (by assumption) (by assumption) (by assumption) | exact joi_c _ _ _ _)) dX9_join_29
      · have hP : va_P D q_cl [(h0, .inr (7, [.ref en, .int 0, .ref nt, .ref pl, .int 0])), (en, .inl (aI, 6000, .inl fe))] H := hP
        have hD : va_D A [(h0, .inr (7, [.ref en, .int 0, .ref nt, .ref pl, .int 0])), (en, .inl (aI, 6000, .inl fe))] := hD
        refine lv_if_eq (tgt := 28) hx hb dX9_join_14 (by decide) (fun c_23 => ?_) (fun c_23 => ?_)
        · refine lv_iconst (v := (-1)) hx hb dX9_join_28 (by decide) ?_
          have hP9 := hP.sub (ws' := []) [] rfl
          have hD9 := hD.sub (ws' := []) [] (by decide) rfl
          exact q_reti () hx hb hr hlocks hK hP9 hD9 hS (Nat.le_of_ble_eq_true rfl) (Nat.le_of_ble_eq_true rfl) ((by first | exact joi_n1 (by assumption) | exact joi_n2 (by assumption) | exact joi_e (by assumption) (by assumption) | exact joi_x (by assumption) (by assumption) (by assumption) | exact joi_y (by assumption) (by assumption) (by assumption) | exact joi_c _ _ _ _)) dX9_join_29
        · exact absurd c_23 (by decide)
  · have hP : va_P D q_cl [(h0, .inr (7, [.ref en, .int 0, .ref nt, .ref pl, .int 0])), (en, .inl (aI, 6000, .inl fe))] H := hP
    have hD : va_D A [(h0, .inr (7, [.ref en, .int 0, .ref nt, .ref pl, .int 0])), (en, .inl (aI, 6000, .inl fe))] := hD
    refine lv_if_eq (tgt := 28) hx hb dX9_join_5 (by decide) (fun c_24 => ?_) (fun c_24 => ?_)
    · refine lv_iconst (v := (-1)) hx hb dX9_join_28 (by decide) ?_
      have hP9 := hP.sub (ws' := []) [] rfl
      have hD9 := hD.sub (ws' := []) [] (by decide) rfl
      exact q_reti () hx hb hr hlocks hK hP9 hD9 hS (Nat.le_of_ble_eq_true rfl) (Nat.le_of_ble_eq_true rfl) ((by first | exact joi_n1 (by assumption) | exact joi_n2 (by assumption) | exact joi_e (by assumption) (by assumption) | exact joi_x (by assumption) (by assumption) (by assumption) | exact joi_y (by assumption) (by assumption) (by assumption) | exact joi_c _ _ _ _)) dX9_join_29
    · exact absurd c_24 (by decide)
set_option maxRecDepth 20000 in
theorem g_X9_join_X9_join_69 : GoodIn vsX9_join (wsV RX9 69 RX9 yX9_join vsX9_join) := goodIn_r _ [21, 22, 23, 6, 0, 1, 2, 3, 4, 5, 6, 7, 8, 9, 10, 11, 12, 13, 14, 15, 16, 17, 18, 19, 20, 21, 22, 23, 24, 25, 26, 27, 28] rfl (by decide +kernel)
set_option maxHeartbeats 4000000 in
set_option maxRecDepth 100000 in
/-- FaceMapModel.join -/
theorem c_X9_join (l : Launch) (D : va_G) (aI aL aZ : ClassId) (h0 : Nat) (en : Nat) (nt : Nat) (pl : Nat) (fe : Nat → Int32) (x1 : Int32) (y1 : Int32) (x2 : Int32) (y2 : Int32) (sz : Nat) : MI l D q_cl (q_ty aI aL aZ) yX9_join vsX9_join 2 0 0 [.ref h0, .int x1, .int y1, .int x2, .int y2] [(h0, .inr (7, [.ref en, .int 0, .ref nt, .ref pl, .int 0])), (en, .inl (aI, 6000, .inl fe))] sz (fun (r : Int32) (u : Unit) => r = (joi x1 y1 x2 y2)) (fun (u : Unit) => ([] : va_W)) := by
  refine q_in cX9_join 7 (some .int) (qQi D q_cl (q_ty aI aL aZ) _ _) (by decide) rfl (Nat.le_of_ble_eq_true rfl) ?_
  intro p e s m args below meth c A ls hat hP hD hS hl
  obtain ⟨hx, hb, hr, hts, hown, hlocks, hml, hin, hK, hN, hA⟩ := hat
  have hown : s.vm.findClass RX9 = some m.cls := hown
  have hl : lv_has ls 7 [(0, .ref h0), (1, .int x1), (2, .int y1), (3, .int x2), (4, .int y2)] := hl
  refine lv_iload_n hx hb dX9_join_0 rfl (lv_at hl 1 rfl) ?_
  refine lv_iload_n hx hb dX9_join_1 rfl (lv_at hl 2 rfl) ?_
  refine q_i (wr := [(h0, .inr (7, [.ref en, .int 0, .ref nt, .ref pl, .int 0])), (en, .inl (aI, 6000, .inl fe))]) (q_runS (As := [.int x1, .int y1]) (rest := []) ⟨hx, hb, hml, hown, hts⟩ (c_X9_isIn l D aI aL aZ x1 y1 _) (va_cwS 2 hts g_X9_join_X9_isIn_65 rfl rfl rfl (by decide +kernel) ⟨Nat.le_of_ble_eq_true rfl, Nat.le_of_ble_eq_true rfl⟩) hK hN hP hD [] rfl (by decide) rfl hl.1 rfl (Nat.le_of_ble_eq_true rfl) dX9_join_2 ⟨Nat.le_of_ble_eq_true rfl, Nat.le_of_ble_eq_true rfl⟩) hP hD hS hA [] [0, 1] rfl rfl (by decide) (by decide) (fun r_1 u_1 H locs hw hP hD hS => ?_)
  rcases hw with ⟨rfl, f1_0⟩ | ⟨rfl, f1_0⟩
  · have hP : va_P D q_cl [(h0, .inr (7, [.ref en, .int 0, .ref nt, .ref pl, .int 0])), (en, .inl (aI, 6000, .inl fe))] H := hP
    have hD : va_D A [(h0, .inr (7, [.ref en, .int 0, .ref nt, .ref pl, .int 0])), (en, .inl (aI, 6000, .inl fe))] := hD
    refine lv_if_eq (tgt := 28) hx hb dX9_join_5 (by decide) (fun c_2 => ?_) (fun c_2 => ?_)
    · exact absurd c_2 (by decide)
    · refine lv_iload_n hx hb dX9_join_8 rfl (lv_at hl 3 rfl) ?_
      refine lv_iload hx hb dX9_join_9 (lv_at hl 4 rfl) ?_
      refine q_i (wr := [(h0, .inr (7, [.ref en, .int 0, .ref nt, .ref pl, .int 0])), (en, .inl (aI, 6000, .inl fe))]) (q_runS (As := [.int x2, .int y2]) (rest := []) ⟨hx, hb, hml, hown, hts⟩ (c_X9_isIn l D aI aL aZ x2 y2 _) (va_cwS 2 hts g_X9_join_X9_isIn_65 rfl rfl rfl (by decide +kernel) ⟨Nat.le_of_ble_eq_true rfl, Nat.le_of_ble_eq_true rfl⟩) hK hN hP hD [] rfl (by decide) rfl hl.1 rfl (Nat.le_of_ble_eq_true rfl) dX9_join_11 ⟨Nat.le_of_ble_eq_true rfl, Nat.le_of_ble_eq_true rfl⟩) hP hD hS hA [] [0, 1] rfl rfl (by decide) (by decide) (fun r_3 u_3 H locs hw hP hD hS => ?_)
      rcases hw with ⟨rfl, f3_0⟩ | ⟨rfl, f3_0⟩
      · have hP : va_P D q_cl [(h0, .inr (7, [.ref en, .int 0, .ref nt, .ref pl, .int 0])), (en, .inl (aI, 6000, .inl fe))] H := hP
        have hD : va_D A [(h0, .inr (7, [.ref en, .int 0, .ref nt, .ref pl, .int 0])), (en, .inl (aI, 6000, .inl fe))] := hD
        refine lv_if_eq (tgt := 28) hx hb dX9_join_14 (by decide) (fun c_4 => ?_) (fun c_4 => ?_)
        · exact absurd c_4 (by decide)
        · refine lv_iload_n hx hb dX9_join_17 rfl (lv_at hl 1 rfl) ?_
          refine lv_iload_n hx hb dX9_join_18 rfl (lv_at hl 3 rfl) ?_
          refine lv_icmp_ne (tgt := 30) hx hb dX9_join_19 (by decide) (fun c_5 => ?_) (fun c_5 => ?_)
          · refine lv_iload_n hx hb dX9_join_30 rfl (lv_at hl 1 rfl) ?_
            refine lv_iload_n hx hb dX9_join_31 rfl (lv_at hl 2 rfl) ?_
            refine lv_iload_n hx hb dX9_join_32 rfl (lv_at hl 3 rfl) ?_
            refine lv_iload hx hb dX9_join_33 (lv_at hl 4 rfl) ?_
            refine q_i (wr := [(h0, .inr (7, [.ref en, .int 0, .ref nt, .ref pl, .int 0])), (en, .inl (aI, 6000, .inl fe))]) (q_runS (As := [.int x1, .int y1, .int x2, .int y2]) (rest := []) ⟨hx, hb, hml, hown, hts⟩ (c_X9_compare l D aI aL aZ x1 y1 x2 y2 _) (va_cwS 4 hts g_X9_join_X9_compare_58 rfl rfl rfl (by decide +kernel) ⟨Nat.le_of_ble_eq_true rfl, Nat.le_of_ble_eq_true rfl⟩) hK hN hP hD [] rfl (by decide) rfl hl.1 rfl (Nat.le_of_ble_eq_true rfl) dX9_join_35 ⟨Nat.le_of_ble_eq_true rfl, Nat.le_of_ble_eq_true rfl⟩) hP hD hS hA [] [0, 1] rfl rfl (by decide) (by decide) (fun r_6 u_6 H locs hw hP hD hS => ?_)
            subst hw
            have hP : va_P D q_cl [(h0, .inr (7, [.ref en, .int 0, .ref nt, .ref pl, .int 0])), (en, .inl (aI, 6000, .inl fe))] H := hP
            have hD : va_D A [(h0, .inr (7, [.ref en, .int 0, .ref nt, .ref pl, .int 0])), (en, .inl (aI, 6000, .inl fe))] := hD
            refine lv_if_le (tgt := 51) hx hb dX9_join_38 (by decide) (fun c_7 => ?_) (fun c_7 => ?_)
            · refine lv_aload_n hx hb dX9_join_51 rfl (lv_at hl 0 rfl) ?_
              refine lv_iload_n hx hb dX9_join_52 rfl (lv_at hl 1 rfl) ?_
              refine lv_iload_n hx hb dX9_join_53 rfl (lv_at hl 2 rfl) ?_
              refine lv_iload_n hx hb dX9_join_54 rfl (lv_at hl 3 rfl) ?_
              refine lv_iload hx hb dX9_join_55 (lv_at hl 4 rfl) ?_
              refine q_i (wr := [(en, .inl (aI, 6000, .inl fe))]) (q_runV (As := [.int x1, .int y1, .int x2, .int y2]) (rest := []) ⟨hx, hb, hml, hown, hts⟩ (c_X9_from l D aI aL aZ h0 en nt pl 0 x1 y1 x2 y2 _) (cwV 4 hts g_X9_join_X9_from_72 rfl rfl rfl (by decide +kernel) ⟨Nat.le_of_ble_eq_true rfl, Nat.le_of_ble_eq_true rfl⟩) hK hN hP hD [0] rfl (by decide) rfl rfl rfl hl.1 rfl (Nat.le_of_ble_eq_true rfl) dX9_join_57 ⟨Nat.le_of_ble_eq_true rfl, Nat.le_of_ble_eq_true rfl⟩) hP hD hS hA [0] [1] rfl rfl (by decide) (by decide) (fun r_8 u_8 H locs hw hP hD hS => ?_)
              subst hw
              have hP : va_P D q_cl [(en, .inl (aI, 6000, .inl fe)), (h0, .inr (7, [.ref en, .int 0, .ref nt, .ref pl, .int 0]))] H := hP
              have hD : va_D A [(en, .inl (aI, 6000, .inl fe)), (h0, .inr (7, [.ref en, .int 0, .ref nt, .ref pl, .int 0]))] := hD
              refine lv_istore (lv' := [(5, .int 0), (0, .ref h0), (1, .int x1), (2, .int y1), (3, .int x2), (4, .int y2)]) hx hb dX9_join_60 hl (by decide) rfl (fun ls hl => ?_)
              refine lv_aload_n hx hb dX9_join_62 rfl (lv_at hl 1 rfl) ?_
              refine lv_iload hx hb dX9_join_63 (lv_at hl 0 rfl) ?_
              refine lv_iload_n hx hb dX9_join_65 rfl (lv_at hl 2 rfl) ?_
              refine lv_iload_n hx hb dX9_join_66 rfl (lv_at hl 3 rfl) ?_
              refine lv_iload_n hx hb dX9_join_67 rfl (lv_at hl 4 rfl) ?_
              refine lv_iload hx hb dX9_join_68 (lv_at hl 5 rfl) ?_
              refine q_i (wr := [(en, .inl (aI, 6000, .inl fe))]) (q_runV (As := [.int 0, .int x1, .int y1, .int x2, .int y2]) (rest := []) ⟨hx, hb, hml, hown, hts⟩ (c_X9_isAt l D aI aL aZ h0 en nt pl 0 x1 y1 x2 y2 _) (cwV 5 hts g_X9_join_X9_isAt_75 rfl rfl rfl (by decide +kernel) ⟨Nat.le_of_ble_eq_true rfl, Nat.le_of_ble_eq_true rfl⟩) hK hN hP hD [1] rfl (by decide) rfl rfl rfl hl.1 rfl (Nat.le_of_ble_eq_true rfl) dX9_join_70 ⟨Nat.le_of_ble_eq_true rfl, Nat.le_of_ble_eq_true rfl⟩) hP hD hS hA [1] [0] rfl rfl (by decide) (by decide) (fun r_9 u_9 H locs hw hP hD hS => ?_)
              subst hw
              have hP : va_P D q_cl [(en, .inl (aI, 6000, .inl fe)), (h0, .inr (7, [.ref en, .int 0, .ref nt, .ref pl, .int 0]))] H := hP
              have hD : va_D A [(en, .inl (aI, 6000, .inl fe)), (h0, .inr (7, [.ref en, .int 0, .ref nt, .ref pl, .int 0]))] := hD
              refine lv_if_eq (tgt := 79) hx hb dX9_join_73 (by decide) (fun c_10 => ?_) (fun c_10 => ?_)
              · refine lv_iconst (v := 0) hx hb dX9_join_79 (by decide) ?_
                refine lv_istore (lv' := [(6, .int 0), (5, .int 0), (0, .ref h0), (1, .int x1), (2, .int y1), (3, .int x2), (4, .int y2)]) hx hb dX9_join_80 hl (by decide) rfl (fun ls hl => ?_)
                refine lv_iload hx hb dX9_join_82 (lv_at hl 0 rfl) ?_
                refine lv_aload_n hx hb dX9_join_84 rfl (lv_at hl 2 rfl) ?_
                refine va_get (D := D) (ci := 7) (v := .int 0) (C := RX9) (T := TX9) (N := 5) hx hb hts n_X9_join_X9 hown hK hP 1 rfl rfl 1 (by decide) (hts (.fieldLink RX9 54 "FaceMapModel" "count" "I") (List.mem_of_getElem? (i := 1) rfl)) (fun _ h9 => h9) rfl dX9_join_85 ?_
                refine lv_icmp_ge (tgt := 114) hx hb dX9_join_88 (by decide) (fun c_11 => ?_) (fun c_11 => ?_)
                · refine lv_aload_n hx hb dX9_join_114 rfl (lv_at hl 2 rfl) ?_
                  refine va_get (D := D) (ci := 7) (v := .int 0) (C := RX9) (T := TX9) (N := 5) hx hb hts n_X9_join_X9 hown hK hP 1 rfl rfl 1 (by decide) (hts (.fieldLink RX9 54 "FaceMapModel" "count" "I") (List.mem_of_getElem? (i := 1) rfl)) (fun _ h9 => h9) rfl dX9_join_115 ?_
                  refine lv_sipush (v := 1500) hx hb dX9_join_118 (by decide) ?_
                  refine lv_icmp_ne (tgt := 127) hx hb dX9_join_121 (by decide) (fun c_12 => ?_) (fun c_12 => ?_)
                  · refine lv_iconst (v := 4) hx hb dX9_join_127 (by decide) ?_
                    refine lv_aload_n hx hb dX9_join_128 rfl (lv_at hl 2 rfl) ?_
                    refine va_get (D := D) (ci := 7) (v := .int 0) (C := RX9) (T := TX9) (N := 5) hx hb hts n_X9_join_X9 hown hK hP 1 rfl rfl 1 (by decide) (hts (.fieldLink RX9 54 "FaceMapModel" "count" "I") (List.mem_of_getElem? (i := 1) rfl)) (fun _ h9 => h9) rfl dX9_join_129 ?_
                    refine lv_imul hx hb dX9_join_132 ?_
                    refine q_vi (v := 0) (by decide) ?_
                    refine lv_iconst (v := 1) hx hb dX9_join_133 (by decide) ?_
                    refine lv_isub hx hb dX9_join_134 ?_
                    refine q_vi (v := (-1)) (by decide) ?_
                    refine lv_istore (lv' := [(6, .int (-1)), (5, .int 0), (0, .ref h0), (1, .int x1), (2, .int y1), (3, .int x2), (4, .int y2)]) hx hb dX9_join_135 hl (by decide) rfl (fun ls hl => ?_)
                    refine lv_iload hx hb dX9_join_137 (lv_at hl 0 rfl) ?_
                    refine lv_iconst (v := 4) hx hb dX9_join_139 (by decide) ?_
                    refine lv_iload hx hb dX9_join_140 (lv_at hl 1 rfl) ?_
                    refine lv_imul hx hb dX9_join_142 ?_
                    refine q_vi (v := 0) (by decide) ?_
                    refine lv_icmp_lt (tgt := 168) hx hb dX9_join_143 (by decide) (fun c_13 => ?_) (fun c_13 => ?_)
                    · refine lv_aload_n hx hb dX9_join_168 rfl (lv_at hl 2 rfl) ?_
                      refine va_get (D := D) (ci := 7) (v := .ref en) (C := RX9) (T := TX9) (N := 5) hx hb hts n_X9_join_X9 hown hK hP 1 rfl rfl 0 (by decide) (hts (.fieldLink RX9 34 "FaceMapModel" "ends" "[I") (List.mem_of_getElem? (i := 2) rfl)) (fun _ h9 => h9) rfl dX9_join_169 ?_
                      refine lv_iconst (v := 4) hx hb dX9_join_172 (by decide) ?_
                      refine lv_iload hx hb dX9_join_173 (lv_at hl 1 rfl) ?_
                      refine lv_imul hx hb dX9_join_175 ?_
                      refine q_vi (v := 0) (by decide) ?_
                      refine lv_iload_n hx hb dX9_join_176 rfl (lv_at hl 3 rfl) ?_
                      refine va_iast hx hb hK hP hD hS 0 0 rfl rfl (q_ix 0 (by decide) (by decide) (by decide)) dX9_join_177 (fun H locs hP hD hS => ?_)
                      have hP : va_P D q_cl [(en, .inl (aI, 6000, .inl (upd fe 0 x1))), (h0, .inr (7, [.ref en, .int 0, .ref nt, .ref pl, .int 0]))] H := hP
                      have hD : va_D A [(en, .inl (aI, 6000, .inl (upd fe 0 x1))), (h0, .inr (7, [.ref en, .int 0, .ref nt, .ref pl, .int 0]))] := hD
                      refine lv_aload_n hx hb dX9_join_178 rfl (lv_at hl 2 rfl) ?_
                      refine va_get (D := D) (ci := 7) (v := .ref en) (C := RX9) (T := TX9) (N := 5) hx hb hts n_X9_join_X9 hown hK hP 1 rfl rfl 0 (by decide) (hts (.fieldLink RX9 34 "FaceMapModel" "ends" "[I") (List.mem_of_getElem? (i := 2) rfl)) (fun _ h9 => h9) rfl dX9_join_179 ?_
                      refine lv_iconst (v := 4) hx hb dX9_join_182 (by decide) ?_
                      refine lv_iload hx hb dX9_join_183 (lv_at hl 1 rfl) ?_
                      refine lv_imul hx hb dX9_join_185 ?_
                      refine q_vi (v := 0) (by decide) ?_
                      refine lv_iconst (v := 1) hx hb dX9_join_186 (by decide) ?_
                      refine lv_iadd hx hb dX9_join_187 ?_
                      refine q_vi (v := 1) (by decide) ?_
                      refine lv_iload_n hx hb dX9_join_188 rfl (lv_at hl 4 rfl) ?_
                      refine va_iast hx hb hK hP hD hS 0 0 rfl rfl (q_ix 1 (by decide) (by decide) (by decide)) dX9_join_189 (fun H locs hP hD hS => ?_)
                      have hP : va_P D q_cl [(en, .inl (aI, 6000, .inl (upd (upd fe 0 x1) 1 y1))), (h0, .inr (7, [.ref en, .int 0, .ref nt, .ref pl, .int 0]))] H := hP
                      have hD : va_D A [(en, .inl (aI, 6000, .inl (upd (upd fe 0 x1) 1 y1))), (h0, .inr (7, [.ref en, .int 0, .ref nt, .ref pl, .int 0]))] := hD
                      refine lv_aload_n hx hb dX9_join_190 rfl (lv_at hl 2 rfl) ?_
                      refine va_get (D := D) (ci := 7) (v := .ref en) (C := RX9) (T := TX9) (N := 5) hx hb hts n_X9_join_X9 hown hK hP 1 rfl rfl 0 (by decide) (hts (.fieldLink RX9 34 "FaceMapModel" "ends" "[I") (List.mem_of_getElem? (i := 2) rfl)) (fun _ h9 => h9) rfl dX9_join_191 ?_
                      refine lv_iconst (v := 4) hx hb dX9_join_194 (by decide) ?_
                      refine lv_iload hx hb dX9_join_195 (lv_at hl 1 rfl) ?_
                      refine lv_imul hx hb dX9_join_197 ?_
                      refine q_vi (v := 0) (by decide) ?_
                      refine lv_iconst (v := 2) hx hb dX9_join_198 (by decide) ?_
                      refine lv_iadd hx hb dX9_join_199 ?_
                      refine q_vi (v := 2) (by decide) ?_
                      refine lv_iload_n hx hb dX9_join_200 rfl (lv_at hl 5 rfl) ?_
                      refine va_iast hx hb hK hP hD hS 0 0 rfl rfl (q_ix 2 (by decide) (by decide) (by decide)) dX9_join_201 (fun H locs hP hD hS => ?_)
                      have hP : va_P D q_cl [(en, .inl (aI, 6000, .inl (upd (upd (upd fe 0 x1) 1 y1) 2 x2))), (h0, .inr (7, [.ref en, .int 0, .ref nt, .ref pl, .int 0]))] H := hP
                      have hD : va_D A [(en, .inl (aI, 6000, .inl (upd (upd (upd fe 0 x1) 1 y1) 2 x2))), (h0, .inr (7, [.ref en, .int 0, .ref nt, .ref pl, .int 0]))] := hD
                      refine lv_aload_n hx hb dX9_join_202 rfl (lv_at hl 2 rfl) ?_
                      refine va_get (D := D) (ci := 7) (v := .ref en) (C := RX9) (T := TX9) (N := 5) hx hb hts n_X9_join_X9 hown hK hP 1 rfl rfl 0 (by decide) (hts (.fieldLink RX9 34 "FaceMapModel" "ends" "[I") (List.mem_of_getElem? (i := 2) rfl)) (fun _ h9 => h9) rfl dX9_join_203 ?_
                      refine lv_iconst (v := 4) hx hb dX9_join_206 (by decide) ?_
                      refine lv_iload hx hb dX9_join_207 (lv_at hl 1 rfl) ?_
                      refine lv_imul hx hb dX9_join_209 ?_
                      refine q_vi (v := 0) (by decide) ?_
                      refine lv_iconst (v := 3) hx hb dX9_join_210 (by decide) ?_
                      refine lv_iadd hx hb dX9_join_211 ?_
                      refine q_vi (v := 3) (by decide) ?_
                      refine lv_iload hx hb dX9_join_212 (lv_at hl 6 rfl) ?_
                      refine va_iast hx hb hK hP hD hS 0 0 rfl rfl (q_ix 3 (by decide) (by decide) (by decide)) dX9_join_214 (fun H locs hP hD hS => ?_)
                      have hP : va_P D q_cl [(en, .inl (aI, 6000, .inl (upd (upd (upd (upd fe 0 x1) 1 y1) 2 x2) 3 y2))), (h0, .inr (7, [.ref en, .int 0, .ref nt, .ref pl, .int 0]))] H := hP
                      have hD : va_D A [(en, .inl (aI, 6000, .inl (upd (upd (upd (upd fe 0 x1) 1 y1) 2 x2) 3 y2))), (h0, .inr (7, [.ref en, .int 0, .ref nt, .ref pl, .int 0]))] := hD
                      refine lv_aload_n hx hb dX9_join_215 rfl (lv_at hl 2 rfl) ?_
                      refine lv_dup hx hb dX9_join_216 rfl ?_
                      refine va_get (D := D) (ci := 7) (v := .int 0) (C := RX9) (T := TX9) (N := 5) hx hb hts n_X9_join_X9 hown hK hP 1 rfl rfl 1 (by decide) (hts (.fieldLink RX9 54 "FaceMapModel" "count" "I") (List.mem_of_getElem? (i := 1) rfl)) (fun _ h9 => h9) rfl dX9_join_217 ?_
                      refine lv_iconst (v := 1) hx hb dX9_join_220 (by decide) ?_
                      refine lv_iadd hx hb dX9_join_221 ?_
                      refine q_vi (v := 1) (by decide) ?_
                      refine va_put (D := D) (ci := 7) (v := .int 1) (ty := .int) (C := RX9) (T := TX9) (N := 5) hx hb hts n_X9_join_X9 tyX9 tyX9_ok nmX9 hown hK hP hD hS 1 rfl rfl 1 (by decide) (hts (.fieldLink RX9 54 "FaceMapModel" "count" "I") (List.mem_of_getElem? (i := 1) rfl)) (fun _ h9 => h9) rfl (by decide +kernel) rfl rfl (Nat.le_of_ble_eq_true rfl) dX9_join_222 (fun H locs hP hD hS => ?_)
                      have hP : va_P D q_cl [(en, .inl (aI, 6000, .inl (upd (upd (upd (upd fe 0 x1) 1 y1) 2 x2) 3 y2))), (h0, .inr (7, [.ref en, .int 1, .ref nt, .ref pl, .int 0]))] H := hP
                      have hD : va_D A [(en, .inl (aI, 6000, .inl (upd (upd (upd (upd fe 0 x1) 1 y1) 2 x2) 3 y2))), (h0, .inr (7, [.ref en, .int 1, .ref nt, .ref pl, .int 0]))] := hD
                      refine lv_aload_n hx hb dX9_join_225 rfl (lv_at hl 2 rfl) ?_
                      refine lv_iconst (v := 0) hx hb dX9_join_226 (by decide) ?_
                      refine va_put (D := D) (ci := 7) (v := .int 0) (ty := .boolean) (C := RX9) (T := TX9) (N := 5) hx hb hts n_X9_join_X9 tyX9 tyX9_ok nmX9 hown hK hP hD hS 1 rfl rfl 4 (by decide) (hts (.fieldLink RX9 82 "FaceMapModel" "isBuilt" "Z") (List.mem_of_getElem? (i := 3) rfl)) (fun _ h9 => h9) rfl (by decide +kernel) rfl rfl (Nat.le_of_ble_eq_true rfl) dX9_join_227 (fun H locs hP hD hS => ?_)
                      have hP : va_P D q_cl [(en, .inl (aI, 6000, .inl (upd (upd (upd (upd fe 0 x1) 1 y1) 2 x2) 3 y2))), (h0, .inr (7, [.ref en, .int 1, .ref nt, .ref pl, .int 0]))] H := hP
                      have hD : va_D A [(en, .inl (aI, 6000, .inl (upd (upd (upd (upd fe 0 x1) 1 y1) 2 x2) 3 y2))), (h0, .inr (7, [.ref en, .int 1, .ref nt, .ref pl, .int 0]))] := hD
                      refine lv_aload_n hx hb dX9_join_230 rfl (lv_at hl 2 rfl) ?_
                      refine va_get (D := D) (ci := 7) (v := .int 1) (C := RX9) (T := TX9) (N := 5) hx hb hts n_X9_join_X9 hown hK hP 1 rfl rfl 1 (by decide) (hts (.fieldLink RX9 54 "FaceMapModel" "count" "I") (List.mem_of_getElem? (i := 1) rfl)) (fun _ h9 => h9) rfl dX9_join_231 ?_
                      have hP9 := hP.sub (ws' := []) [] rfl
                      have hD9 := hD.sub (ws' := []) [] (by decide) rfl
                      exact q_reti () hx hb hr hlocks hK hP9 hD9 hS (Nat.le_of_ble_eq_true rfl) (Nat.le_of_ble_eq_true rfl) ((by first | exact joi_n1 (by assumption) | exact joi_n2 (by assumption) | exact joi_e (by assumption) (by assumption) | exact joi_x (by assumption) (by assumption) (by assumption) | exact joi_y (by assumption) (by assumption) (by assumption) | exact joi_c _ _ _ _)) dX9_join_234
                    · exact absurd c_13 (by decide)
                  · exact absurd c_12 (by decide)
                · exact absurd c_11 (by decide)
              · exact absurd c_10 (by decide)
            · refine lv_aload_n hx hb dX9_join_41 rfl (lv_at hl 0 rfl) ?_
              refine lv_iload_n hx hb dX9_join_42 rfl (lv_at hl 3 rfl) ?_
              refine lv_iload hx hb dX9_join_43 (lv_at hl 4 rfl) ?_
              refine lv_iload_n hx hb dX9_join_45 rfl (lv_at hl 1 rfl) ?_
              refine lv_iload_n hx hb dX9_join_46 rfl (lv_at hl 2 rfl) ?_
              refine q_i (wr := []) (q_runV (As := [.int x2, .int y2, .int x1, .int y1]) (rest := []) ⟨hx, hb, hml, hown, hts⟩ (c_X9_join_low l D aI aL aZ h0 en nt pl fe x2 y2 x1 y1 (cmp_swap (by assumption)) _) (cwV 4 hts g_X9_join_X9_join_69 rfl rfl rfl (by decide +kernel) ⟨Nat.le_of_ble_eq_true rfl, Nat.le_of_ble_eq_true rfl⟩) hK hN hP hD [0, 1] rfl (by decide) rfl rfl rfl hl.1 rfl (Nat.le_of_ble_eq_true rfl) dX9_join_47 ⟨Nat.le_of_ble_eq_true rfl, Nat.le_of_ble_eq_true rfl⟩) hP hD hS hA [0, 1] [] rfl rfl (by decide) (by decide) (fun r_14 u_14 H locs hw hP hD hS => ?_)
              subst hw
              have hP : va_P D q_cl [] H := hP
              have hD : va_D A [] := hD
              have hP9 := hP.sub (ws' := []) [] rfl
              have hD9 := hD.sub (ws' := []) [] (by decide) rfl
              exact q_reti () hx hb hr hlocks hK hP9 hD9 hS (Nat.le_of_ble_eq_true rfl) (Nat.le_of_ble_eq_true rfl) ((by first | exact joi_n1 (by assumption) | exact joi_n2 (by assumption) | exact joi_e (by assumption) (by assumption) | exact joi_x (by assumption) (by assumption) (by assumption) | exact joi_y (by assumption) (by assumption) (by assumption) | exact joi_c _ _ _ _)) dX9_join_50
          · refine lv_iload_n hx hb dX9_join_22 rfl (lv_at hl 2 rfl) ?_
            refine lv_iload hx hb dX9_join_23 (lv_at hl 4 rfl) ?_
            refine lv_icmp_ne (tgt := 30) hx hb dX9_join_25 (by decide) (fun c_15 => ?_) (fun c_15 => ?_)
            · refine lv_iload_n hx hb dX9_join_30 rfl (lv_at hl 1 rfl) ?_
              refine lv_iload_n hx hb dX9_join_31 rfl (lv_at hl 2 rfl) ?_
              refine lv_iload_n hx hb dX9_join_32 rfl (lv_at hl 3 rfl) ?_
              refine lv_iload hx hb dX9_join_33 (lv_at hl 4 rfl) ?_
              refine q_i (wr := [(h0, .inr (7, [.ref en, .int 0, .ref nt, .ref pl, .int 0])), (en, .inl (aI, 6000, .inl fe))]) (q_runS (As := [.int x1, .int y1, .int x2, .int y2]) (rest := []) ⟨hx, hb, hml, hown, hts⟩ (c_X9_compare l D aI aL aZ x1 y1 x2 y2 _) (va_cwS 4 hts g_X9_join_X9_compare_58 rfl rfl rfl (by decide +kernel) ⟨Nat.le_of_ble_eq_true rfl, Nat.le_of_ble_eq_true rfl⟩) hK hN hP hD [] rfl (by decide) rfl hl.1 rfl (Nat.le_of_ble_eq_true rfl) dX9_join_35 ⟨Nat.le_of_ble_eq_true rfl, Nat.le_of_ble_eq_true rfl⟩) hP hD hS hA [] [0, 1] rfl rfl (by decide) (by decide) (fun r_16 u_16 H locs hw hP hD hS => ?_)
              subst hw
              have hP : va_P D q_cl [(h0, .inr (7, [.ref en, .int 0, .ref nt, .ref pl, .int 0])), (en, .inl (aI, 6000, .inl fe))] H := hP
              have hD : va_D A [(h0, .inr (7, [.ref en, .int 0, .ref nt, .ref pl, .int 0])), (en, .inl (aI, 6000, .inl fe))] := hD
              refine lv_if_le (tgt := 51) hx hb dX9_join_38 (by decide) (fun c_17 => ?_) (fun c_17 => ?_)
              · refine lv_aload_n hx hb dX9_join_51 rfl (lv_at hl 0 rfl) ?_
                refine lv_iload_n hx hb dX9_join_52 rfl (lv_at hl 1 rfl) ?_
                refine lv_iload_n hx hb dX9_join_53 rfl (lv_at hl 2 rfl) ?_
                refine lv_iload_n hx hb dX9_join_54 rfl (lv_at hl 3 rfl) ?_
                refine lv_iload hx hb dX9_join_55 (lv_at hl 4 rfl) ?_
                refine q_i (wr := [(en, .inl (aI, 6000, .inl fe))]) (q_runV (As := [.int x1, .int y1, .int x2, .int y2]) (rest := []) ⟨hx, hb, hml, hown, hts⟩ (c_X9_from l D aI aL aZ h0 en nt pl 0 x1 y1 x2 y2 _) (cwV 4 hts g_X9_join_X9_from_72 rfl rfl rfl (by decide +kernel) ⟨Nat.le_of_ble_eq_true rfl, Nat.le_of_ble_eq_true rfl⟩) hK hN hP hD [0] rfl (by decide) rfl rfl rfl hl.1 rfl (Nat.le_of_ble_eq_true rfl) dX9_join_57 ⟨Nat.le_of_ble_eq_true rfl, Nat.le_of_ble_eq_true rfl⟩) hP hD hS hA [0] [1] rfl rfl (by decide) (by decide) (fun r_18 u_18 H locs hw hP hD hS => ?_)
                subst hw
                have hP : va_P D q_cl [(en, .inl (aI, 6000, .inl fe)), (h0, .inr (7, [.ref en, .int 0, .ref nt, .ref pl, .int 0]))] H := hP
                have hD : va_D A [(en, .inl (aI, 6000, .inl fe)), (h0, .inr (7, [.ref en, .int 0, .ref nt, .ref pl, .int 0]))] := hD
                refine lv_istore (lv' := [(5, .int 0), (0, .ref h0), (1, .int x1), (2, .int y1), (3, .int x2), (4, .int y2)]) hx hb dX9_join_60 hl (by decide) rfl (fun ls hl => ?_)
                refine lv_aload_n hx hb dX9_join_62 rfl (lv_at hl 1 rfl) ?_
                refine lv_iload hx hb dX9_join_63 (lv_at hl 0 rfl) ?_
                refine lv_iload_n hx hb dX9_join_65 rfl (lv_at hl 2 rfl) ?_
                refine lv_iload_n hx hb dX9_join_66 rfl (lv_at hl 3 rfl) ?_
                refine lv_iload_n hx hb dX9_join_67 rfl (lv_at hl 4 rfl) ?_
                refine lv_iload hx hb dX9_join_68 (lv_at hl 5 rfl) ?_
                refine q_i (wr := [(en, .inl (aI, 6000, .inl fe))]) (q_runV (As := [.int 0, .int x1, .int y1, .int x2, .int y2]) (rest := []) ⟨hx, hb, hml, hown, hts⟩ (c_X9_isAt l D aI aL aZ h0 en nt pl 0 x1 y1 x2 y2 _) (cwV 5 hts g_X9_join_X9_isAt_75 rfl rfl rfl (by decide +kernel) ⟨Nat.le_of_ble_eq_true rfl, Nat.le_of_ble_eq_true rfl⟩) hK hN hP hD [1] rfl (by decide) rfl rfl rfl hl.1 rfl (Nat.le_of_ble_eq_true rfl) dX9_join_70 ⟨Nat.le_of_ble_eq_true rfl, Nat.le_of_ble_eq_true rfl⟩) hP hD hS hA [1] [0] rfl rfl (by decide) (by decide) (fun r_19 u_19 H locs hw hP hD hS => ?_)
                subst hw
                have hP : va_P D q_cl [(en, .inl (aI, 6000, .inl fe)), (h0, .inr (7, [.ref en, .int 0, .ref nt, .ref pl, .int 0]))] H := hP
                have hD : va_D A [(en, .inl (aI, 6000, .inl fe)), (h0, .inr (7, [.ref en, .int 0, .ref nt, .ref pl, .int 0]))] := hD
                refine lv_if_eq (tgt := 79) hx hb dX9_join_73 (by decide) (fun c_20 => ?_) (fun c_20 => ?_)
                · refine lv_iconst (v := 0) hx hb dX9_join_79 (by decide) ?_
                  refine lv_istore (lv' := [(6, .int 0), (5, .int 0), (0, .ref h0), (1, .int x1), (2, .int y1), (3, .int x2), (4, .int y2)]) hx hb dX9_join_80 hl (by decide) rfl (fun ls hl => ?_)
                  refine lv_iload hx hb dX9_join_82 (lv_at hl 0 rfl) ?_
                  refine lv_aload_n hx hb dX9_join_84 rfl (lv_at hl 2 rfl) ?_
                  refine va_get (D := D) (ci := 7) (v := .int 0) (C := RX9) (T := TX9) (N := 5) hx hb hts n_X9_join_X9 hown hK hP 1 rfl rfl 1 (by decide) (hts (.fieldLink RX9 54 "FaceMapModel" "count" "I") (List.mem_of_getElem? (i := 1) rfl)) (fun _ h9 => h9) rfl dX9_join_85 ?_
                  refine lv_icmp_ge (tgt := 114) hx hb dX9_join_88 (by decide) (fun c_21 => ?_) (fun c_21 => ?_)
                  · refine lv_aload_n hx hb dX9_join_114 rfl (lv_at hl 2 rfl) ?_
                    refine va_get (D := D) (ci := 7) (v := .int 0) (C := RX9) (T := TX9) (N := 5) hx hb hts n_X9_join_X9 hown hK hP 1 rfl rfl 1 (by decide) (hts (.fieldLink RX9 54 "FaceMapModel" "count" "I") (List.mem_of_getElem? (i := 1) rfl)) (fun _ h9 => h9) rfl dX9_join_115 ?_
                    refine lv_sipush (v := 1500) hx hb dX9_join_118 (by decide) ?_
                    refine lv_icmp_ne (tgt := 127) hx hb dX9_join_121 (by decide) (fun c_22 => ?_) (fun c_22 => ?_)
                    · refine lv_iconst (v := 4) hx hb dX9_join_127 (by decide) ?_
                      refine lv_aload_n hx hb dX9_join_128 rfl (lv_at hl 2 rfl) ?_
                      refine va_get (D := D) (ci := 7) (v := .int 0) (C := RX9) (T := TX9) (N := 5) hx hb hts n_X9_join_X9 hown hK hP 1 rfl rfl 1 (by decide) (hts (.fieldLink RX9 54 "FaceMapModel" "count" "I") (List.mem_of_getElem? (i := 1) rfl)) (fun _ h9 => h9) rfl dX9_join_129 ?_
                      refine lv_imul hx hb dX9_join_132 ?_
                      refine q_vi (v := 0) (by decide) ?_
                      refine lv_iconst (v := 1) hx hb dX9_join_133 (by decide) ?_
                      refine lv_isub hx hb dX9_join_134 ?_
                      refine q_vi (v := (-1)) (by decide) ?_
                      refine lv_istore (lv' := [(6, .int (-1)), (5, .int 0), (0, .ref h0), (1, .int x1), (2, .int y1), (3, .int x2), (4, .int y2)]) hx hb dX9_join_135 hl (by decide) rfl (fun ls hl => ?_)
                      refine lv_iload hx hb dX9_join_137 (lv_at hl 0 rfl) ?_
                      refine lv_iconst (v := 4) hx hb dX9_join_139 (by decide) ?_
                      refine lv_iload hx hb dX9_join_140 (lv_at hl 1 rfl) ?_
                      refine lv_imul hx hb dX9_join_142 ?_
                      refine q_vi (v := 0) (by decide) ?_
                      refine lv_icmp_lt (tgt := 168) hx hb dX9_join_143 (by decide) (fun c_23 => ?_) (fun c_23 => ?_)
                      · refine lv_aload_n hx hb dX9_join_168 rfl (lv_at hl 2 rfl) ?_
                        refine va_get (D := D) (ci := 7) (v := .ref en) (C := RX9) (T := TX9) (N := 5) hx hb hts n_X9_join_X9 hown hK hP 1 rfl rfl 0 (by decide) (hts (.fieldLink RX9 34 "FaceMapModel" "ends" "[I") (List.mem_of_getElem? (i := 2) rfl)) (fun _ h9 => h9) rfl dX9_join_169 ?_
                        refine lv_iconst (v := 4) hx hb dX9_join_172 (by decide) ?_
                        refine lv_iload hx hb dX9_join_173 (lv_at hl 1 rfl) ?_
                        refine lv_imul hx hb dX9_join_175 ?_
                        refine q_vi (v := 0) (by decide) ?_
                        refine lv_iload_n hx hb dX9_join_176 rfl (lv_at hl 3 rfl) ?_
                        refine va_iast hx hb hK hP hD hS 0 0 rfl rfl (q_ix 0 (by decide) (by decide) (by decide)) dX9_join_177 (fun H locs hP hD hS => ?_)
                        have hP : va_P D q_cl [(en, .inl (aI, 6000, .inl (upd fe 0 x1))), (h0, .inr (7, [.ref en, .int 0, .ref nt, .ref pl, .int 0]))] H := hP
                        have hD : va_D A [(en, .inl (aI, 6000, .inl (upd fe 0 x1))), (h0, .inr (7, [.ref en, .int 0, .ref nt, .ref pl, .int 0]))] := hD
                        refine lv_aload_n hx hb dX9_join_178 rfl (lv_at hl 2 rfl) ?_
                        refine va_get (D := D) (ci := 7) (v := .ref en) (C := RX9) (T := TX9) (N := 5) hx hb hts n_X9_join_X9 hown hK hP 1 rfl rfl 0 (by decide) (hts (.fieldLink RX9 34 "FaceMapModel" "ends" "[I") (List.mem_of_getElem? (i := 2) rfl)) (fun _ h9 => h9) rfl dX9_join_179 ?_
                        refine lv_iconst (v := 4) hx hb dX9_join_182 (by decide) ?_
                        refine lv_iload hx hb dX9_join_183 (lv_at hl 1 rfl) ?_
                        refine lv_imul hx hb dX9_join_185 ?_
                        refine q_vi (v := 0) (by decide) ?_
                        refine lv_iconst (v := 1) hx hb dX9_join_186 (by decide) ?_
                        refine lv_iadd hx hb dX9_join_187 ?_
                        refine q_vi (v := 1) (by decide) ?_
                        refine lv_iload_n hx hb dX9_join_188 rfl (lv_at hl 4 rfl) ?_
                        refine va_iast hx hb hK hP hD hS 0 0 rfl rfl (q_ix 1 (by decide) (by decide) (by decide)) dX9_join_189 (fun H locs hP hD hS => ?_)
                        have hP : va_P D q_cl [(en, .inl (aI, 6000, .inl (upd (upd fe 0 x1) 1 y1))), (h0, .inr (7, [.ref en, .int 0, .ref nt, .ref pl, .int 0]))] H := hP
                        have hD : va_D A [(en, .inl (aI, 6000, .inl (upd (upd fe 0 x1) 1 y1))), (h0, .inr (7, [.ref en, .int 0, .ref nt, .ref pl, .int 0]))] := hD
                        refine lv_aload_n hx hb dX9_join_190 rfl (lv_at hl 2 rfl) ?_
                        refine va_get (D := D) (ci := 7) (v := .ref en) (C := RX9) (T := TX9) (N := 5) hx hb hts n_X9_join_X9 hown hK hP 1 rfl rfl 0 (by decide) (hts (.fieldLink RX9 34 "FaceMapModel" "ends" "[I") (List.mem_of_getElem? (i := 2) rfl)) (fun _ h9 => h9) rfl dX9_join_191 ?_
                        refine lv_iconst (v := 4) hx hb dX9_join_194 (by decide) ?_
                        refine lv_iload hx hb dX9_join_195 (lv_at hl 1 rfl) ?_
                        refine lv_imul hx hb dX9_join_197 ?_
                        refine q_vi (v := 0) (by decide) ?_
                        refine lv_iconst (v := 2) hx hb dX9_join_198 (by decide) ?_
                        refine lv_iadd hx hb dX9_join_199 ?_
                        refine q_vi (v := 2) (by decide) ?_
                        refine lv_iload_n hx hb dX9_join_200 rfl (lv_at hl 5 rfl) ?_
                        refine va_iast hx hb hK hP hD hS 0 0 rfl rfl (q_ix 2 (by decide) (by decide) (by decide)) dX9_join_201 (fun H locs hP hD hS => ?_)
                        have hP : va_P D q_cl [(en, .inl (aI, 6000, .inl (upd (upd (upd fe 0 x1) 1 y1) 2 x2))), (h0, .inr (7, [.ref en, .int 0, .ref nt, .ref pl, .int 0]))] H := hP
                        have hD : va_D A [(en, .inl (aI, 6000, .inl (upd (upd (upd fe 0 x1) 1 y1) 2 x2))), (h0, .inr (7, [.ref en, .int 0, .ref nt, .ref pl, .int 0]))] := hD
                        refine lv_aload_n hx hb dX9_join_202 rfl (lv_at hl 2 rfl) ?_
                        refine va_get (D := D) (ci := 7) (v := .ref en) (C := RX9) (T := TX9) (N := 5) hx hb hts n_X9_join_X9 hown hK hP 1 rfl rfl 0 (by decide) (hts (.fieldLink RX9 34 "FaceMapModel" "ends" "[I") (List.mem_of_getElem? (i := 2) rfl)) (fun _ h9 => h9) rfl dX9_join_203 ?_
                        refine lv_iconst (v := 4) hx hb dX9_join_206 (by decide) ?_
                        refine lv_iload hx hb dX9_join_207 (lv_at hl 1 rfl) ?_
                        refine lv_imul hx hb dX9_join_209 ?_
                        refine q_vi (v := 0) (by decide) ?_
                        refine lv_iconst (v := 3) hx hb dX9_join_210 (by decide) ?_
                        refine lv_iadd hx hb dX9_join_211 ?_
                        refine q_vi (v := 3) (by decide) ?_
                        refine lv_iload hx hb dX9_join_212 (lv_at hl 6 rfl) ?_
                        refine va_iast hx hb hK hP hD hS 0 0 rfl rfl (q_ix 3 (by decide) (by decide) (by decide)) dX9_join_214 (fun H locs hP hD hS => ?_)
                        have hP : va_P D q_cl [(en, .inl (aI, 6000, .inl (upd (upd (upd (upd fe 0 x1) 1 y1) 2 x2) 3 y2))), (h0, .inr (7, [.ref en, .int 0, .ref nt, .ref pl, .int 0]))] H := hP
                        have hD : va_D A [(en, .inl (aI, 6000, .inl (upd (upd (upd (upd fe 0 x1) 1 y1) 2 x2) 3 y2))), (h0, .inr (7, [.ref en, .int 0, .ref nt, .ref pl, .int 0]))] := hD
                        refine lv_aload_n hx hb dX9_join_215 rfl (lv_at hl 2 rfl) ?_
                        refine lv_dup hx hb dX9_join_216 rfl ?_
                        refine va_get (D := D) (ci := 7) (v := .int 0) (C := RX9) (T := TX9) (N := 5) hx hb hts n_X9_join_X9 hown hK hP 1 rfl rfl 1 (by decide) (hts (.fieldLink RX9 54 "FaceMapModel" "count" "I") (List.mem_of_getElem? (i := 1) rfl)) (fun _ h9 => h9) rfl dX9_join_217 ?_
                        refine lv_iconst (v := 1) hx hb dX9_join_220 (by decide) ?_
                        refine lv_iadd hx hb dX9_join_221 ?_
                        refine q_vi (v := 1) (by decide) ?_
                        refine va_put (D := D) (ci := 7) (v := .int 1) (ty := .int) (C := RX9) (T := TX9) (N := 5) hx hb hts n_X9_join_X9 tyX9 tyX9_ok nmX9 hown hK hP hD hS 1 rfl rfl 1 (by decide) (hts (.fieldLink RX9 54 "FaceMapModel" "count" "I") (List.mem_of_getElem? (i := 1) rfl)) (fun _ h9 => h9) rfl (by decide +kernel) rfl rfl (Nat.le_of_ble_eq_true rfl) dX9_join_222 (fun H locs hP hD hS => ?_)
                        have hP : va_P D q_cl [(en, .inl (aI, 6000, .inl (upd (upd (upd (upd fe 0 x1) 1 y1) 2 x2) 3 y2))), (h0, .inr (7, [.ref en, .int 1, .ref nt, .ref pl, .int 0]))] H := hP
                        have hD : va_D A [(en, .inl (aI, 6000, .inl (upd (upd (upd (upd fe 0 x1) 1 y1) 2 x2) 3 y2))), (h0, .inr (7, [.ref en, .int 1, .ref nt, .ref pl, .int 0]))] := hD
                        refine lv_aload_n hx hb dX9_join_225 rfl (lv_at hl 2 rfl) ?_
                        refine lv_iconst (v := 0) hx hb dX9_join_226 (by decide) ?_
                        refine va_put (D := D) (ci := 7) (v := .int 0) (ty := .boolean) (C := RX9) (T := TX9) (N := 5) hx hb hts n_X9_join_X9 tyX9 tyX9_ok nmX9 hown hK hP hD hS 1 rfl rfl 4 (by decide) (hts (.fieldLink RX9 82 "FaceMapModel" "isBuilt" "Z") (List.mem_of_getElem? (i := 3) rfl)) (fun _ h9 => h9) rfl (by decide +kernel) rfl rfl (Nat.le_of_ble_eq_true rfl) dX9_join_227 (fun H locs hP hD hS => ?_)
                        have hP : va_P D q_cl [(en, .inl (aI, 6000, .inl (upd (upd (upd (upd fe 0 x1) 1 y1) 2 x2) 3 y2))), (h0, .inr (7, [.ref en, .int 1, .ref nt, .ref pl, .int 0]))] H := hP
                        have hD : va_D A [(en, .inl (aI, 6000, .inl (upd (upd (upd (upd fe 0 x1) 1 y1) 2 x2) 3 y2))), (h0, .inr (7, [.ref en, .int 1, .ref nt, .ref pl, .int 0]))] := hD
                        refine lv_aload_n hx hb dX9_join_230 rfl (lv_at hl 2 rfl) ?_
                        refine va_get (D := D) (ci := 7) (v := .int 1) (C := RX9) (T := TX9) (N := 5) hx hb hts n_X9_join_X9 hown hK hP 1 rfl rfl 1 (by decide) (hts (.fieldLink RX9 54 "FaceMapModel" "count" "I") (List.mem_of_getElem? (i := 1) rfl)) (fun _ h9 => h9) rfl dX9_join_231 ?_
                        have hP9 := hP.sub (ws' := []) [] rfl
                        have hD9 := hD.sub (ws' := []) [] (by decide) rfl
                        exact q_reti () hx hb hr hlocks hK hP9 hD9 hS (Nat.le_of_ble_eq_true rfl) (Nat.le_of_ble_eq_true rfl) ((by first | exact joi_n1 (by assumption) | exact joi_n2 (by assumption) | exact joi_e (by assumption) (by assumption) | exact joi_x (by assumption) (by assumption) (by assumption) | exact joi_y (by assumption) (by assumption) (by assumption) | exact joi_c _ _ _ _)) dX9_join_234
                      · exact absurd c_23 (by decide)
                    · exact absurd c_22 (by decide)
                  · exact absurd c_21 (by decide)
                · exact absurd c_20 (by decide)
              · refine lv_aload_n hx hb dX9_join_41 rfl (lv_at hl 0 rfl) ?_
                refine lv_iload_n hx hb dX9_join_42 rfl (lv_at hl 3 rfl) ?_
                refine lv_iload hx hb dX9_join_43 (lv_at hl 4 rfl) ?_
                refine lv_iload_n hx hb dX9_join_45 rfl (lv_at hl 1 rfl) ?_
                refine lv_iload_n hx hb dX9_join_46 rfl (lv_at hl 2 rfl) ?_
                refine q_i (wr := []) (q_runV (As := [.int x2, .int y2, .int x1, .int y1]) (rest := []) ⟨hx, hb, hml, hown, hts⟩ (c_X9_join_low l D aI aL aZ h0 en nt pl fe x2 y2 x1 y1 (cmp_swap (by assumption)) _) (cwV 4 hts g_X9_join_X9_join_69 rfl rfl rfl (by decide +kernel) ⟨Nat.le_of_ble_eq_true rfl, Nat.le_of_ble_eq_true rfl⟩) hK hN hP hD [0, 1] rfl (by decide) rfl rfl rfl hl.1 rfl (Nat.le_of_ble_eq_true rfl) dX9_join_47 ⟨Nat.le_of_ble_eq_true rfl, Nat.le_of_ble_eq_true rfl⟩) hP hD hS hA [0, 1] [] rfl rfl (by decide) (by decide) (fun r_24 u_24 H locs hw hP hD hS => ?_)
                subst hw
                have hP : va_P D q_cl [] H := hP
                have hD : va_D A [] := hD
                have hP9 := hP.sub (ws' := []) [] rfl
                have hD9 := hD.sub (ws' := []) [] (by decide) rfl
                exact q_reti () hx hb hr hlocks hK hP9 hD9 hS (Nat.le_of_ble_eq_true rfl) (Nat.le_of_ble_eq_true rfl) ((by first | exact joi_n1 (by assumption) | exact joi_n2 (by assumption) | exact joi_e (by assumption) (by assumption) | exact joi_x (by assumption) (by assumption) (by assumption) | exact joi_y (by assumption) (by assumption) (by assumption) | exact joi_c _ _ _ _)) dX9_join_50
            · refine lv_iconst (v := (-1)) hx hb dX9_join_28 (by decide) ?_
              have hP9 := hP.sub (ws' := []) [] rfl
              have hD9 := hD.sub (ws' := []) [] (by decide) rfl
              exact q_reti () hx hb hr hlocks hK hP9 hD9 hS (Nat.le_of_ble_eq_true rfl) (Nat.le_of_ble_eq_true rfl) ((by first | exact joi_n1 (by assumption) | exact joi_n2 (by assumption) | exact joi_e (by assumption) (by assumption) | exact joi_x (by assumption) (by assumption) (by assumption) | exact joi_y (by assumption) (by assumption) (by assumption) | exact joi_c _ _ _ _)) dX9_join_29
      · have hP : va_P D q_cl [(h0, .inr (7, [.ref en, .int 0, .ref nt, .ref pl, .int 0])), (en, .inl (aI, 6000, .inl fe))] H := hP
        have hD : va_D A [(h0, .inr (7, [.ref en, .int 0, .ref nt, .ref pl, .int 0])), (en, .inl (aI, 6000, .inl fe))] := hD
        refine lv_if_eq (tgt := 28) hx hb dX9_join_14 (by decide) (fun c_25 => ?_) (fun c_25 => ?_)
        · refine lv_iconst (v := (-1)) hx hb dX9_join_28 (by decide) ?_
          have hP9 := hP.sub (ws' := []) [] rfl
          have hD9 := hD.sub (ws' := []) [] (by decide) rfl
          exact q_reti () hx hb hr hlocks hK hP9 hD9 hS (Nat.le_of_ble_eq_true rfl) (Nat.le_of_ble_eq_true rfl) ((by first | exact joi_n1 (by assumption) | exact joi_n2 (by assumption) | exact joi_e (by assumption) (by assumption) | exact joi_x (by assumption) (by assumption) (by assumption) | exact joi_y (by assumption) (by assumption) (by assumption) | exact joi_c _ _ _ _)) dX9_join_29
        · exact absurd c_25 (by decide)
  · have hP : va_P D q_cl [(h0, .inr (7, [.ref en, .int 0, .ref nt, .ref pl, .int 0])), (en, .inl (aI, 6000, .inl fe))] H := hP
    have hD : va_D A [(h0, .inr (7, [.ref en, .int 0, .ref nt, .ref pl, .int 0])), (en, .inl (aI, 6000, .inl fe))] := hD
    refine lv_if_eq (tgt := 28) hx hb dX9_join_5 (by decide) (fun c_26 => ?_) (fun c_26 => ?_)
    · refine lv_iconst (v := (-1)) hx hb dX9_join_28 (by decide) ?_
      have hP9 := hP.sub (ws' := []) [] rfl
      have hD9 := hD.sub (ws' := []) [] (by decide) rfl
      exact q_reti () hx hb hr hlocks hK hP9 hD9 hS (Nat.le_of_ble_eq_true rfl) (Nat.le_of_ble_eq_true rfl) ((by first | exact joi_n1 (by assumption) | exact joi_n2 (by assumption) | exact joi_e (by assumption) (by assumption) | exact joi_x (by assumption) (by assumption) (by assumption) | exact joi_y (by assumption) (by assumption) (by assumption) | exact joi_c _ _ _ _)) dX9_join_29
    · exact absurd c_26 (by decide)
def vsX9_cut : List Cond := .code yX9_cut cX9_cut 7 (some .boolean) :: ([.methodLink RX9 58 yX9_compare, .static yX9_compare, .initialized RX9, .code yX9_compare cX9_compare 4 (some .int), .methodLink RX9 72 yX9_from, .instanceMethod yX9_from, .selects RX9 yX9_from yX9_from, .code yX9_from cX9_from 7 (some .int), .fieldLink RX9 54 "FaceMapModel" "count" "I", .methodLink RX9 75 yX9_isAt, .instanceMethod yX9_isAt, .selects RX9 yX9_isAt yX9_isAt, .code yX9_isAt cX9_isAt 6 (some .boolean), .methodLink RX9 86 yX9_cut, .instanceMethod yX9_cut, .selects RX9 yX9_cut yX9_cut] ++ wsX90)
set_option maxRecDepth 20000 in
theorem g_X9_cut_X9_compare_58 : GoodIn vsX9_cut (va_wsS RX9 58 yX9_compare vsX9_compare) := goodIn_r _ [1, 2, 3, 4] rfl (by decide +kernel)
set_option maxRecDepth 20000 in
theorem g_X9_cut_X9_from_72 : GoodIn vsX9_cut (wsV RX9 72 RX9 yX9_from vsX9_from) := goodIn_r _ [5, 6, 7, 3, 8, 9, 17, 18, 19, 20, 21] rfl (by decide +kernel)
set_option maxRecDepth 20000 in
theorem g_X9_cut_X9_isAt_75 : GoodIn vsX9_cut (wsV RX9 75 RX9 yX9_isAt vsX9_isAt) := goodIn_r _ [10, 11, 12, 3, 13, 9, 17, 18, 19, 20, 21] rfl (by decide +kernel)
set_option maxHeartbeats 4000000 in
set_option maxRecDepth 100000 in
/-- cut, the lesser place first -/
theorem c_X9_cut_low (l : Launch) (D : va_G) (aI aL aZ : ClassId) (h0 : Nat) (en : Nat) (nt : Nat) (pl : Nat) (x1 : Int32) (y1 : Int32) (x2 : Int32) (y2 : Int32) (hc : cmp4 x1 y1 x2 y2 ≤ 0) (sz : Nat) : MI l D q_cl (q_ty aI aL aZ) yX9_cut vsX9_cut 1 0 0 [.ref h0, .int x1, .int y1, .int x2, .int y2] [(h0, .inr (7, [.ref en, .int 0, .ref nt, .ref pl, .int 0]))] sz (fun (r : Int32) (u : Unit) => r = 0) (fun (u : Unit) => ([] : va_W)) := by
  refine q_in cX9_cut 7 (some .boolean) (qQi D q_cl (q_ty aI aL aZ) _ _) (by decide) rfl (Nat.le_of_ble_eq_true rfl) ?_
  intro p e s m args below meth c A ls hat hP hD hS hl
  obtain ⟨hx, hb, hr, hts, hown, hlocks, hml, hin, hK, hN, hA⟩ := hat
  have hown : s.vm.findClass RX9 = some m.cls := hown
  have hl : lv_has ls 7 [(0, .ref h0), (1, .int x1), (2, .int y1), (3, .int x2), (4, .int y2)] := hl
  refine lv_iload_n hx hb dX9_cut_0 rfl (lv_at hl 1 rfl) ?_
  refine lv_iload_n hx hb dX9_cut_1 rfl (lv_at hl 2 rfl) ?_
  refine lv_iload_n hx hb dX9_cut_2 rfl (lv_at hl 3 rfl) ?_
  refine lv_iload hx hb dX9_cut_3 (lv_at hl 4 rfl) ?_
  refine q_i (wr := [(h0, .inr (7, [.ref en, .int 0, .ref nt, .ref pl, .int 0]))]) (q_runS (As := [.int x1, .int y1, .int x2, .int y2]) (rest := []) ⟨hx, hb, hml, hown, hts⟩ (c_X9_compare l D aI aL aZ x1 y1 x2 y2 _) (va_cwS 4 hts g_X9_cut_X9_compare_58 rfl rfl rfl (by decide +kernel) ⟨Nat.le_of_ble_eq_true rfl, Nat.le_of_ble_eq_true rfl⟩) hK hN hP hD [] rfl (by decide) rfl hl.1 rfl (Nat.le_of_ble_eq_true rfl) dX9_cut_5 ⟨Nat.le_of_ble_eq_true rfl, Nat.le_of_ble_eq_true rfl⟩) hP hD hS hA [] [0] rfl rfl (by decide) (by decide) (fun r_1 u_1 H locs hw hP hD hS => ?_)
  subst hw
  have hP : va_P D q_cl [(h0, .inr (7, [.ref en, .int 0, .ref nt, .ref pl, .int 0]))] H := hP
  have hD : va_D A [(h0, .inr (7, [.ref en, .int 0, .ref nt, .ref pl, .int 0]))] := hD
  refine lv_if_le (tgt := 21) hx hb dX9_cut_8 (by decide) (fun c_2 => ?_) (fun c_2 => ?_)
  · refine lv_aload_n hx hb dX9_cut_21 rfl (lv_at hl 0 rfl) ?_
    refine lv_iload_n hx hb dX9_cut_22 rfl (lv_at hl 1 rfl) ?_
    refine lv_iload_n hx hb dX9_cut_23 rfl (lv_at hl 2 rfl) ?_
    refine lv_iload_n hx hb dX9_cut_24 rfl (lv_at hl 3 rfl) ?_
    refine lv_iload hx hb dX9_cut_25 (lv_at hl 4 rfl) ?_
    refine q_i (wr := []) (q_runV (As := [.int x1, .int y1, .int x2, .int y2]) (rest := []) ⟨hx, hb, hml, hown, hts⟩ (c_X9_from l D aI aL aZ h0 en nt pl 0 x1 y1 x2 y2 _) (cwV 4 hts g_X9_cut_X9_from_72 rfl rfl rfl (by decide +kernel) ⟨Nat.le_of_ble_eq_true rfl, Nat.le_of_ble_eq_true rfl⟩) hK hN hP hD [0] rfl (by decide) rfl rfl rfl hl.1 rfl (Nat.le_of_ble_eq_true rfl) dX9_cut_27 ⟨Nat.le_of_ble_eq_true rfl, Nat.le_of_ble_eq_true rfl⟩) hP hD hS hA [0] [] rfl rfl (by decide) (by decide) (fun r_3 u_3 H locs hw hP hD hS => ?_)
    subst hw
    have hP : va_P D q_cl [(h0, .inr (7, [.ref en, .int 0, .ref nt, .ref pl, .int 0]))] H := hP
    have hD : va_D A [(h0, .inr (7, [.ref en, .int 0, .ref nt, .ref pl, .int 0]))] := hD
    refine lv_istore (lv' := [(5, .int 0), (0, .ref h0), (1, .int x1), (2, .int y1), (3, .int x2), (4, .int y2)]) hx hb dX9_cut_30 hl (by decide) rfl (fun ls hl => ?_)
    refine lv_aload_n hx hb dX9_cut_32 rfl (lv_at hl 1 rfl) ?_
    refine lv_iload hx hb dX9_cut_33 (lv_at hl 0 rfl) ?_
    refine lv_iload_n hx hb dX9_cut_35 rfl (lv_at hl 2 rfl) ?_
    refine lv_iload_n hx hb dX9_cut_36 rfl (lv_at hl 3 rfl) ?_
    refine lv_iload_n hx hb dX9_cut_37 rfl (lv_at hl 4 rfl) ?_
    refine lv_iload hx hb dX9_cut_38 (lv_at hl 5 rfl) ?_
    refine q_i (wr := []) (q_runV (As := [.int 0, .int x1, .int y1, .int x2, .int y2]) (rest := []) ⟨hx, hb, hml, hown, hts⟩ (c_X9_isAt l D aI aL aZ h0 en nt pl 0 x1 y1 x2 y2 _) (cwV 5 hts g_X9_cut_X9_isAt_75 rfl rfl rfl (by decide +kernel) ⟨Nat.le_of_ble_eq_true rfl, Nat.le_of_ble_eq_true rfl⟩) hK hN hP hD [0] rfl (by decide) rfl rfl rfl hl.1 rfl (Nat.le_of_ble_eq_true rfl) dX9_cut_40 ⟨Nat.le_of_ble_eq_true rfl, Nat.le_of_ble_eq_true rfl⟩) hP hD hS hA [0] [] rfl rfl (by decide) (by decide) (fun r_4 u_4 H locs hw hP hD hS => ?_)
    subst hw
    have hP : va_P D q_cl [(h0, .inr (7, [.ref en, .int 0, .ref nt, .ref pl, .int 0]))] H := hP
    have hD : va_D A [(h0, .inr (7, [.ref en, .int 0, .ref nt, .ref pl, .int 0]))] := hD
    refine lv_if_ne (tgt := 48) hx hb dX9_cut_43 (by decide) (fun c_5 => ?_) (fun c_5 => ?_)
    · exact absurd c_5 (by decide)
    · refine lv_iconst (v := 0) hx hb dX9_cut_46 (by decide) ?_
      have hP9 := hP.sub (ws' := []) [] rfl
      have hD9 := hD.sub (ws' := []) [] (by decide) rfl
      exact q_retz () hx hb hr (by decide) hlocks hK hP9 hD9 hS (Nat.le_of_ble_eq_true rfl) (Nat.le_of_ble_eq_true rfl) (rfl) dX9_cut_47
  · exact absurd hc c_2
set_option maxRecDepth 20000 in
theorem g_X9_cut_X9_cut_86 : GoodIn vsX9_cut (wsV RX9 86 RX9 yX9_cut vsX9_cut) := goodIn_r _ [14, 15, 16, 3, 0, 1, 2, 3, 4, 5, 6, 7, 8, 9, 10, 11, 12, 13, 14, 15, 16, 17, 18, 19, 20, 21] rfl (by decide +kernel)
set_option maxHeartbeats 4000000 in
set_option maxRecDepth 100000 in
/-- FaceMapModel.cut -/
theorem c_X9_cut (l : Launch) (D : va_G) (aI aL aZ : ClassId) (h0 : Nat) (en : Nat) (nt : Nat) (pl : Nat) (x1 : Int32) (y1 : Int32) (x2 : Int32) (y2 : Int32) (sz : Nat) : MI l D q_cl (q_ty aI aL aZ) yX9_cut vsX9_cut 2 0 0 [.ref h0, .int x1, .int y1, .int x2, .int y2] [(h0, .inr (7, [.ref en, .int 0, .ref nt, .ref pl, .int 0]))] sz (fun (r : Int32) (u : Unit) => r = 0) (fun (u : Unit) => ([] : va_W)) := by
  refine q_in cX9_cut 7 (some .boolean) (qQi D q_cl (q_ty aI aL aZ) _ _) (by decide) rfl (Nat.le_of_ble_eq_true rfl) ?_
  intro p e s m args below meth c A ls hat hP hD hS hl
  obtain ⟨hx, hb, hr, hts, hown, hlocks, hml, hin, hK, hN, hA⟩ := hat
  have hown : s.vm.findClass RX9 = some m.cls := hown
  have hl : lv_has ls 7 [(0, .ref h0), (1, .int x1), (2, .int y1), (3, .int x2), (4, .int y2)] := hl
  refine lv_iload_n hx hb dX9_cut_0 rfl (lv_at hl 1 rfl) ?_
  refine lv_iload_n hx hb dX9_cut_1 rfl (lv_at hl 2 rfl) ?_
  refine lv_iload_n hx hb dX9_cut_2 rfl (lv_at hl 3 rfl) ?_
  refine lv_iload hx hb dX9_cut_3 (lv_at hl 4 rfl) ?_
  refine q_i (wr := [(h0, .inr (7, [.ref en, .int 0, .ref nt, .ref pl, .int 0]))]) (q_runS (As := [.int x1, .int y1, .int x2, .int y2]) (rest := []) ⟨hx, hb, hml, hown, hts⟩ (c_X9_compare l D aI aL aZ x1 y1 x2 y2 _) (va_cwS 4 hts g_X9_cut_X9_compare_58 rfl rfl rfl (by decide +kernel) ⟨Nat.le_of_ble_eq_true rfl, Nat.le_of_ble_eq_true rfl⟩) hK hN hP hD [] rfl (by decide) rfl hl.1 rfl (Nat.le_of_ble_eq_true rfl) dX9_cut_5 ⟨Nat.le_of_ble_eq_true rfl, Nat.le_of_ble_eq_true rfl⟩) hP hD hS hA [] [0] rfl rfl (by decide) (by decide) (fun r_1 u_1 H locs hw hP hD hS => ?_)
  subst hw
  have hP : va_P D q_cl [(h0, .inr (7, [.ref en, .int 0, .ref nt, .ref pl, .int 0]))] H := hP
  have hD : va_D A [(h0, .inr (7, [.ref en, .int 0, .ref nt, .ref pl, .int 0]))] := hD
  refine lv_if_le (tgt := 21) hx hb dX9_cut_8 (by decide) (fun c_2 => ?_) (fun c_2 => ?_)
  · refine lv_aload_n hx hb dX9_cut_21 rfl (lv_at hl 0 rfl) ?_
    refine lv_iload_n hx hb dX9_cut_22 rfl (lv_at hl 1 rfl) ?_
    refine lv_iload_n hx hb dX9_cut_23 rfl (lv_at hl 2 rfl) ?_
    refine lv_iload_n hx hb dX9_cut_24 rfl (lv_at hl 3 rfl) ?_
    refine lv_iload hx hb dX9_cut_25 (lv_at hl 4 rfl) ?_
    refine q_i (wr := []) (q_runV (As := [.int x1, .int y1, .int x2, .int y2]) (rest := []) ⟨hx, hb, hml, hown, hts⟩ (c_X9_from l D aI aL aZ h0 en nt pl 0 x1 y1 x2 y2 _) (cwV 4 hts g_X9_cut_X9_from_72 rfl rfl rfl (by decide +kernel) ⟨Nat.le_of_ble_eq_true rfl, Nat.le_of_ble_eq_true rfl⟩) hK hN hP hD [0] rfl (by decide) rfl rfl rfl hl.1 rfl (Nat.le_of_ble_eq_true rfl) dX9_cut_27 ⟨Nat.le_of_ble_eq_true rfl, Nat.le_of_ble_eq_true rfl⟩) hP hD hS hA [0] [] rfl rfl (by decide) (by decide) (fun r_3 u_3 H locs hw hP hD hS => ?_)
    subst hw
    have hP : va_P D q_cl [(h0, .inr (7, [.ref en, .int 0, .ref nt, .ref pl, .int 0]))] H := hP
    have hD : va_D A [(h0, .inr (7, [.ref en, .int 0, .ref nt, .ref pl, .int 0]))] := hD
    refine lv_istore (lv' := [(5, .int 0), (0, .ref h0), (1, .int x1), (2, .int y1), (3, .int x2), (4, .int y2)]) hx hb dX9_cut_30 hl (by decide) rfl (fun ls hl => ?_)
    refine lv_aload_n hx hb dX9_cut_32 rfl (lv_at hl 1 rfl) ?_
    refine lv_iload hx hb dX9_cut_33 (lv_at hl 0 rfl) ?_
    refine lv_iload_n hx hb dX9_cut_35 rfl (lv_at hl 2 rfl) ?_
    refine lv_iload_n hx hb dX9_cut_36 rfl (lv_at hl 3 rfl) ?_
    refine lv_iload_n hx hb dX9_cut_37 rfl (lv_at hl 4 rfl) ?_
    refine lv_iload hx hb dX9_cut_38 (lv_at hl 5 rfl) ?_
    refine q_i (wr := []) (q_runV (As := [.int 0, .int x1, .int y1, .int x2, .int y2]) (rest := []) ⟨hx, hb, hml, hown, hts⟩ (c_X9_isAt l D aI aL aZ h0 en nt pl 0 x1 y1 x2 y2 _) (cwV 5 hts g_X9_cut_X9_isAt_75 rfl rfl rfl (by decide +kernel) ⟨Nat.le_of_ble_eq_true rfl, Nat.le_of_ble_eq_true rfl⟩) hK hN hP hD [0] rfl (by decide) rfl rfl rfl hl.1 rfl (Nat.le_of_ble_eq_true rfl) dX9_cut_40 ⟨Nat.le_of_ble_eq_true rfl, Nat.le_of_ble_eq_true rfl⟩) hP hD hS hA [0] [] rfl rfl (by decide) (by decide) (fun r_4 u_4 H locs hw hP hD hS => ?_)
    subst hw
    have hP : va_P D q_cl [(h0, .inr (7, [.ref en, .int 0, .ref nt, .ref pl, .int 0]))] H := hP
    have hD : va_D A [(h0, .inr (7, [.ref en, .int 0, .ref nt, .ref pl, .int 0]))] := hD
    refine lv_if_ne (tgt := 48) hx hb dX9_cut_43 (by decide) (fun c_5 => ?_) (fun c_5 => ?_)
    · exact absurd c_5 (by decide)
    · refine lv_iconst (v := 0) hx hb dX9_cut_46 (by decide) ?_
      have hP9 := hP.sub (ws' := []) [] rfl
      have hD9 := hD.sub (ws' := []) [] (by decide) rfl
      exact q_retz () hx hb hr (by decide) hlocks hK hP9 hD9 hS (Nat.le_of_ble_eq_true rfl) (Nat.le_of_ble_eq_true rfl) (rfl) dX9_cut_47
  · refine lv_aload_n hx hb dX9_cut_11 rfl (lv_at hl 0 rfl) ?_
    refine lv_iload_n hx hb dX9_cut_12 rfl (lv_at hl 3 rfl) ?_
    refine lv_iload hx hb dX9_cut_13 (lv_at hl 4 rfl) ?_
    refine lv_iload_n hx hb dX9_cut_15 rfl (lv_at hl 1 rfl) ?_
    refine lv_iload_n hx hb dX9_cut_16 rfl (lv_at hl 2 rfl) ?_
    refine q_i (wr := []) (q_runV (As := [.int x2, .int y2, .int x1, .int y1]) (rest := []) ⟨hx, hb, hml, hown, hts⟩ (c_X9_cut_low l D aI aL aZ h0 en nt pl x2 y2 x1 y1 (cmp_swap (by assumption)) _) (cwV 4 hts g_X9_cut_X9_cut_86 rfl rfl rfl (by decide +kernel) ⟨Nat.le_of_ble_eq_true rfl, Nat.le_of_ble_eq_true rfl⟩) hK hN hP hD [0] rfl (by decide) rfl rfl rfl hl.1 rfl (Nat.le_of_ble_eq_true rfl) dX9_cut_17 ⟨Nat.le_of_ble_eq_true rfl, Nat.le_of_ble_eq_true rfl⟩) hP hD hS hA [0] [] rfl rfl (by decide) (by decide) (fun r_6 u_6 H locs hw hP hD hS => ?_)
    subst hw
    have hP : va_P D q_cl [] H := hP
    have hD : va_D A [] := hD
    have hP9 := hP.sub (ws' := []) [] rfl
    have hD9 := hD.sub (ws' := []) [] (by decide) rfl
    exact q_retz () hx hb hr (by decide) hlocks hK hP9 hD9 hS (Nat.le_of_ble_eq_true rfl) (Nat.le_of_ble_eq_true rfl) (rfl) dX9_cut_20
def vsX9_build : List Cond := .code yX9_build cX9_build 2 none :: ([.fieldLink RX9 82 "FaceMapModel" "isBuilt" "Z", .fieldLink RX9 48 "FaceMapModel" "nodes" "LFaceMapModel$Places;", .fieldLink RX9 54 "FaceMapModel" "count" "I", .fieldLink RX9 41 "FaceMapModel" "net" "LFaceMapModel$Net;", .fieldLink RX9 103 "FaceMapModel$Places" "size" "I", .fieldLink RX9 106 "FaceMapModel$Net" "nodes" "I", .fieldLink RX9 108 "FaceMapModel$Net" "pieces" "I", .methodLink RX9 90 yX8_clear, .instanceMethod yX8_clear, .selects RX8 yX8_clear yX8_clear, .initialized RX8, .code yX8_clear cX8_clear 1 none, .fieldLink RX8 13 "FaceMapModel$Places" "size" "I", .methodLink RX9 97 yX8_sort, .instanceMethod yX8_sort, .selects RX8 yX8_sort yX8_sort, .code yX8_sort cX8_sort 4 none, .methodLink RX9 100 yX7_room, .instanceMethod yX7_room, .selects RX7 yX7_room yX7_room, .initialized RX7, .code yX7_room cX7_room 3 none, .fieldLink RX7 7 "FaceMapModel$Net" "x" "[I", .arrayClass .int, .fieldLink RX7 13 "FaceMapModel$Net" "y" "[I", .fieldLink RX7 22 "FaceMapModel$Net" "begins" "[I", .fieldLink RX7 44 "FaceMapModel$Net" "part" "[I", .fieldLink RX7 16 "FaceMapModel$Net" "low" "[I", .fieldLink RX7 19 "FaceMapModel$Net" "high" "[I", .fieldLink RX7 25 "FaceMapModel$Net" "out" "[I", .fieldLink RX7 28 "FaceMapModel$Net" "rank" "[I", .fieldLink RX7 31 "FaceMapModel$Net" "round" "[I", .arrayClass .long, .fieldLink RX7 34 "FaceMapModel$Net" "area" "[J", .fieldLink RX7 38 "FaceMapModel$Net" "least" "[I", .fieldLink RX7 41 "FaceMapModel$Net" "faceOf" "[I", .arrayClass .boolean, .fieldLink RX7 47 "FaceMapModel$Net" "odd" "[Z", .methodLink RX9 132 yX7_build, .instanceMethod yX7_build, .selects RX7 yX7_build yX7_build, .code yX7_build cX7_build 2 none, .fieldLink RX7 67 "FaceMapModel$Net" "nodes" "I", .fieldLink RX7 71 "FaceMapModel$Net" "pieces" "I", .fieldLink RX7 87 "FaceMapModel$Net" "rounds" "I", .methodLink RX7 81 yX7_sortOut, .instanceMethod yX7_sortOut, .selects RX7 yX7_sortOut yX7_sortOut, .code yX7_sortOut cX7_sortOut 6 none, .methodLink RX7 94 yX7_number, .instanceMethod yX7_number, .selects RX7 yX7_number yX7_number, .code yX7_number cX7_number 5 none, .fieldLink RX7 107 "FaceMapModel$Net" "faces" "I"] ++ wsX90 ++ wsX80 ++ wsX70)
set_option maxRecDepth 20000 in
theorem n_X9_build_X9 : ∀ w ∈ wsX90, w ∈ vsX9_build := fun _ h => List.mem_cons_of_mem _ (List.mem_append_left _ (List.mem_append_left _ (List.mem_append_right _ h)))
set_option maxRecDepth 20000 in
theorem g_X9_build_X8_clear_90 : GoodIn vsX9_build (wsV RX9 90 RX8 yX8_clear vsX8_clear) := goodIn_r _ [8, 9, 10, 11, 12, 13, 60, 61] rfl (by decide +kernel)
set_option maxRecDepth 20000 in
theorem g_X9_build_X8_sort_97 : GoodIn vsX9_build (wsV RX9 97 RX8 yX8_sort vsX8_sort) := goodIn_r _ [14, 15, 16, 11, 17, 13, 60, 61] rfl (by decide +kernel)
set_option maxRecDepth 20000 in
theorem g_X9_build_X7_room_100 : GoodIn vsX9_build (wsV RX9 100 RX7 yX7_room vsX7_room) := goodIn_r _ [18, 19, 20, 21, 22, 23, 24, 25, 26, 27, 28, 29, 30, 31, 32, 33, 34, 35, 36, 37, 38, 62, 63, 64, 65, 66, 67, 68, 69, 70, 71, 72, 73, 74, 75, 76, 77, 78] rfl (by decide +kernel)
set_option maxRecDepth 20000 in
theorem n_X9_build_X8 : ∀ w ∈ wsX80, w ∈ vsX9_build := fun _ h => List.mem_cons_of_mem _ (List.mem_append_left _ (List.mem_append_right _ h))
set_option maxRecDepth 20000 in
theorem n_X9_build_X7 : ∀ w ∈ wsX70, w ∈ vsX9_build := fun _ h => List.mem_cons_of_mem _ (List.mem_append_right _ h)
set_option maxRecDepth 20000 in
theorem g_X9_build_X7_build_132 : GoodIn vsX9_build (wsV RX9 132 RX7 yX7_build vsX7_build) := goodIn_r _ [39, 40, 41, 21, 42, 43, 44, 45, 46, 47, 48, 21, 49, 26, 50, 51, 52, 53, 54, 62, 63, 64, 65, 66, 67, 68, 69, 70, 71, 72, 73, 74, 75, 76, 77, 78] rfl (by decide +kernel)
set_option maxHeartbeats 4000000 in
set_option maxRecDepth 100000 in
/-- build of none -/
theorem c_X9_build (l : Launch) (D : va_G) (aI aL aZ : ClassId) (h0 : Nat) (en : Nat) (nt : Nat) (pl : Nat) (row : Nat) (nx : Nat) (ny : Nat) (nl : Nat) (nh : Nat) (nb : Nat) (no : Nat) (nr : Nat) (nd : Nat) (na : Nat) (ns : Nat) (nf : Nat) (np : Nat) (nq : Nat) (fx : Nat → Int32) (fl : Nat → Int32) (sz : Nat) : MV l D q_cl (q_ty aI aL aZ) yX9_build vsX9_build 2 13 36005 [.ref h0] [(h0, .inr (7, [.ref en, .int 0, .ref nt, .ref pl, .int 0])), (nt, .inr (5, [.ref nx, .ref ny, .int 0, .ref nl, .ref nh, .int 0, .ref nb, .ref no, .ref nr, .ref nd, .ref na, .ref ns, .ref nf, .int 0, .ref np, .int 0, .ref nq])), (nx, .inl (aI, 0, .inl fx)), (nl, .inl (aI, 0, .inl fl)), (pl, .inr (6, [.ref row, .int 0]))] sz (fun (u : Nat × Nat × Nat × Nat × Nat × Nat × Nat × Nat × Nat × Nat × Nat × Nat × Nat) => True) (fun (u : Nat × Nat × Nat × Nat × Nat × Nat × Nat × Nat × Nat × Nat × Nat × Nat × Nat) => [(h0, .inr (7, [.ref en, .int 0, .ref nt, .ref pl, .int 1])), (nt, .inr (5, [.ref u.1, .ref u.2.1, .int 0, .ref u.2.2.1, .ref u.2.2.2.1, .int 0, .ref u.2.2.2.2.1, .ref u.2.2.2.2.2.1, .ref u.2.2.2.2.2.2.1, .ref u.2.2.2.2.2.2.2.1, .ref u.2.2.2.2.2.2.2.2.1, .ref u.2.2.2.2.2.2.2.2.2.1, .ref u.2.2.2.2.2.2.2.2.2.2.1, .int 0, .ref u.2.2.2.2.2.2.2.2.2.2.2.1, .int 1, .ref u.2.2.2.2.2.2.2.2.2.2.2.2]))]) := by
  refine q_in cX9_build 2 none (qQv D q_cl (q_ty aI aL aZ) _ _) (by decide) rfl (Nat.le_of_ble_eq_true rfl) ?_
  intro p e s m args below meth c A ls hat hP hD hS hl
  obtain ⟨hx, hb, hr, hts, hown, hlocks, hml, hin, hK, hN, hA⟩ := hat
  have hown : s.vm.findClass RX9 = some m.cls := hown
  have hl : lv_has ls 2 [(0, .ref h0)] := hl
  refine lv_aload_n hx hb dX9_build_0 rfl (lv_at hl 0 rfl) ?_
  refine va_get (D := D) (ci := 7) (v := .int 0) (C := RX9) (T := TX9) (N := 5) hx hb hts n_X9_build_X9 hown hK hP 0 rfl rfl 4 (by decide) (hts (.fieldLink RX9 82 "FaceMapModel" "isBuilt" "Z") (List.mem_of_getElem? (i := 1) rfl)) (fun _ h9 => h9) rfl dX9_build_1 ?_
  refine lv_if_eq (tgt := 8) hx hb dX9_build_4 (by decide) (fun c_1 => ?_) (fun c_1 => ?_)
  · refine lv_aload_n hx hb dX9_build_8 rfl (lv_at hl 0 rfl) ?_
    refine lv_iconst (v := 1) hx hb dX9_build_9 (by decide) ?_
    refine va_put (D := D) (ci := 7) (v := .int 1) (ty := .boolean) (C := RX9) (T := TX9) (N := 5) hx hb hts n_X9_build_X9 tyX9 tyX9_ok nmX9 hown hK hP hD hS 0 rfl rfl 4 (by decide) (hts (.fieldLink RX9 82 "FaceMapModel" "isBuilt" "Z") (List.mem_of_getElem? (i := 1) rfl)) (fun _ h9 => h9) rfl (by decide +kernel) rfl rfl (Nat.le_of_ble_eq_true rfl) dX9_build_10 (fun H locs hP hD hS => ?_)
    have hP : va_P D q_cl [(h0, .inr (7, [.ref en, .int 0, .ref nt, .ref pl, .int 1])), (nt, .inr (5, [.ref nx, .ref ny, .int 0, .ref nl, .ref nh, .int 0, .ref nb, .ref no, .ref nr, .ref nd, .ref na, .ref ns, .ref nf, .int 0, .ref np, .int 0, .ref nq])), (nx, .inl (aI, 0, .inl fx)), (nl, .inl (aI, 0, .inl fl)), (pl, .inr (6, [.ref row, .int 0]))] H := hP
    have hD : va_D A [(h0, .inr (7, [.ref en, .int 0, .ref nt, .ref pl, .int 1])), (nt, .inr (5, [.ref nx, .ref ny, .int 0, .ref nl, .ref nh, .int 0, .ref nb, .ref no, .ref nr, .ref nd, .ref na, .ref ns, .ref nf, .int 0, .ref np, .int 0, .ref nq])), (nx, .inl (aI, 0, .inl fx)), (nl, .inl (aI, 0, .inl fl)), (pl, .inr (6, [.ref row, .int 0]))] := hD
    refine lv_aload_n hx hb dX9_build_13 rfl (lv_at hl 0 rfl) ?_
    refine va_get (D := D) (ci := 7) (v := .ref pl) (C := RX9) (T := TX9) (N := 5) hx hb hts n_X9_build_X9 hown hK hP 0 rfl rfl 3 (by decide) (hts (.fieldLink RX9 48 "FaceMapModel" "nodes" "LFaceMapModel$Places;") (List.mem_of_getElem? (i := 2) rfl)) (fun _ h9 => h9) rfl dX9_build_14 ?_
    refine q_v (wr := [(h0, .inr (7, [.ref en, .int 0, .ref nt, .ref pl, .int 1])), (nt, .inr (5, [.ref nx, .ref ny, .int 0, .ref nl, .ref nh, .int 0, .ref nb, .ref no, .ref nr, .ref nd, .ref na, .ref ns, .ref nf, .int 0, .ref np, .int 0, .ref nq])), (nx, .inl (aI, 0, .inl fx)), (nl, .inl (aI, 0, .inl fl))]) (q_runV (As := []) (rest := []) ⟨hx, hb, hml, hown, hts⟩ (c_X8_clear l D aI aL aZ pl row _) (cwV 0 hts g_X9_build_X8_clear_90 rfl rfl rfl (by decide +kernel) ⟨Nat.le_of_ble_eq_true rfl, Nat.le_of_ble_eq_true rfl⟩) hK hN hP hD [4] rfl (by decide) rfl rfl rfl hl.1 rfl (Nat.le_of_ble_eq_true rfl) dX9_build_17 ⟨Nat.le_of_ble_eq_true rfl, Nat.le_of_ble_eq_true rfl⟩) hP hD hS hA [4] [0, 1, 2, 3] rfl rfl (by decide) (by decide) (fun u_2 H locs hw hP hD hS => ?_)
    have hP : va_P D q_cl [(h0, .inr (7, [.ref en, .int 0, .ref nt, .ref pl, .int 1])), (nt, .inr (5, [.ref nx, .ref ny, .int 0, .ref nl, .ref nh, .int 0, .ref nb, .ref no, .ref nr, .ref nd, .ref na, .ref ns, .ref nf, .int 0, .ref np, .int 0, .ref nq])), (nx, .inl (aI, 0, .inl fx)), (nl, .inl (aI, 0, .inl fl)), (pl, .inr (6, [.ref row, .int 0]))] H := hP
    have hD : va_D A [(h0, .inr (7, [.ref en, .int 0, .ref nt, .ref pl, .int 1])), (nt, .inr (5, [.ref nx, .ref ny, .int 0, .ref nl, .ref nh, .int 0, .ref nb, .ref no, .ref nr, .ref nd, .ref na, .ref ns, .ref nf, .int 0, .ref np, .int 0, .ref nq])), (nx, .inl (aI, 0, .inl fx)), (nl, .inl (aI, 0, .inl fl)), (pl, .inr (6, [.ref row, .int 0]))] := hD
    refine lv_iconst (v := 0) hx hb dX9_build_20 (by decide) ?_
    refine lv_istore_n (lv' := [(1, .int 0), (0, .ref h0)]) hx hb dX9_build_21 rfl hl (by decide) rfl (fun ls hl => ?_)
    refine lv_iload_n hx hb dX9_build_22 rfl (lv_at hl 0 rfl) ?_
    refine lv_iconst (v := 2) hx hb dX9_build_23 (by decide) ?_
    refine lv_aload_n hx hb dX9_build_24 rfl (lv_at hl 1 rfl) ?_
    refine va_get (D := D) (ci := 7) (v := .int 0) (C := RX9) (T := TX9) (N := 5) hx hb hts n_X9_build_X9 hown hK hP 0 rfl rfl 1 (by decide) (hts (.fieldLink RX9 54 "FaceMapModel" "count" "I") (List.mem_of_getElem? (i := 3) rfl)) (fun _ h9 => h9) rfl dX9_build_25 ?_
    refine lv_imul hx hb dX9_build_28 ?_
    refine q_vi (v := 0) (by decide) ?_
    refine lv_icmp_ge (tgt := 63) hx hb dX9_build_29 (by decide) (fun c_3 => ?_) (fun c_3 => ?_)
    · refine lv_aload_n hx hb dX9_build_63 rfl (lv_at hl 1 rfl) ?_
      refine va_get (D := D) (ci := 7) (v := .ref pl) (C := RX9) (T := TX9) (N := 5) hx hb hts n_X9_build_X9 hown hK hP 0 rfl rfl 3 (by decide) (hts (.fieldLink RX9 48 "FaceMapModel" "nodes" "LFaceMapModel$Places;") (List.mem_of_getElem? (i := 2) rfl)) (fun _ h9 => h9) rfl dX9_build_64 ?_
      refine q_v (wr := [(h0, .inr (7, [.ref en, .int 0, .ref nt, .ref pl, .int 1])), (nt, .inr (5, [.ref nx, .ref ny, .int 0, .ref nl, .ref nh, .int 0, .ref nb, .ref no, .ref nr, .ref nd, .ref na, .ref ns, .ref nf, .int 0, .ref np, .int 0, .ref nq])), (nx, .inl (aI, 0, .inl fx)), (nl, .inl (aI, 0, .inl fl))]) (q_runV (As := []) (rest := []) ⟨hx, hb, hml, hown, hts⟩ (c_X8_sort l D aI aL aZ pl row _) (cwV 0 hts g_X9_build_X8_sort_97 rfl rfl rfl (by decide +kernel) ⟨Nat.le_of_ble_eq_true rfl, Nat.le_of_ble_eq_true rfl⟩) hK hN hP hD [4] rfl (by decide) rfl rfl rfl hl.1 rfl (Nat.le_of_ble_eq_true rfl) dX9_build_67 ⟨Nat.le_of_ble_eq_true rfl, Nat.le_of_ble_eq_true rfl⟩) hP hD hS hA [4] [0, 1, 2, 3] rfl rfl (by decide) (by decide) (fun u_4 H locs hw hP hD hS => ?_)
      have hP : va_P D q_cl [(h0, .inr (7, [.ref en, .int 0, .ref nt, .ref pl, .int 1])), (nt, .inr (5, [.ref nx, .ref ny, .int 0, .ref nl, .ref nh, .int 0, .ref nb, .ref no, .ref nr, .ref nd, .ref na, .ref ns, .ref nf, .int 0, .ref np, .int 0, .ref nq])), (nx, .inl (aI, 0, .inl fx)), (nl, .inl (aI, 0, .inl fl)), (pl, .inr (6, [.ref row, .int 0]))] H := hP
      have hD : va_D A [(h0, .inr (7, [.ref en, .int 0, .ref nt, .ref pl, .int 1])), (nt, .inr (5, [.ref nx, .ref ny, .int 0, .ref nl, .ref nh, .int 0, .ref nb, .ref no, .ref nr, .ref nd, .ref na, .ref ns, .ref nf, .int 0, .ref np, .int 0, .ref nq])), (nx, .inl (aI, 0, .inl fx)), (nl, .inl (aI, 0, .inl fl)), (pl, .inr (6, [.ref row, .int 0]))] := hD
      refine lv_aload_n hx hb dX9_build_70 rfl (lv_at hl 1 rfl) ?_
      refine va_get (D := D) (ci := 7) (v := .ref nt) (C := RX9) (T := TX9) (N := 5) hx hb hts n_X9_build_X9 hown hK hP 0 rfl rfl 2 (by decide) (hts (.fieldLink RX9 41 "FaceMapModel" "net" "LFaceMapModel$Net;") (List.mem_of_getElem? (i := 4) rfl)) (fun _ h9 => h9) rfl dX9_build_71 ?_
      refine lv_sipush (v := 3000) hx hb dX9_build_74 (by decide) ?_
      refine lv_sipush (v := 1500) hx hb dX9_build_77 (by decide) ?_
      refine q_v (wr := [(h0, .inr (7, [.ref en, .int 0, .ref nt, .ref pl, .int 1])), (pl, .inr (6, [.ref row, .int 0]))]) (q_runV (As := [.int 3000, .int 1500]) (rest := []) ⟨hx, hb, hml, hown, hts⟩ (c_X7_room l D aI aL aZ nt nx ny nl nh nb no nr nd na ns nf np nq fx fl _) (cwV 2 hts g_X9_build_X7_room_100 rfl rfl rfl (by decide +kernel) ⟨Nat.le_of_ble_eq_true rfl, Nat.le_of_ble_eq_true rfl⟩) hK hN hP hD [1, 2, 3] rfl (by decide) rfl rfl rfl hl.1 rfl (Nat.le_of_ble_eq_true rfl) dX9_build_80 ⟨Nat.le_of_ble_eq_true rfl, Nat.le_of_ble_eq_true rfl⟩) hP hD hS hA [1, 2, 3] [0, 4] rfl rfl (by decide) (by decide) (fun u_5 H locs hw hP hD hS => ?_)
      obtain ⟨knx_5, kny_5, knl_5, knh_5, knb_5, kno_5, knr_5, knd_5, kna_5, kns_5, knf_5, knp_5, knq_5⟩ := u_5
      have hP : va_P D q_cl [(h0, .inr (7, [.ref en, .int 0, .ref nt, .ref pl, .int 1])), (pl, .inr (6, [.ref row, .int 0])), (nt, .inr (5, [.ref knx_5, .ref kny_5, .int 0, .ref knl_5, .ref knh_5, .int 0, .ref knb_5, .ref kno_5, .ref knr_5, .ref knd_5, .ref kna_5, .ref kns_5, .ref knf_5, .int 0, .ref knp_5, .int 0, .ref knq_5])), (knb_5, .inl (aI, 3001, .inl (fun _ => 0)))] H := hP
      have hD : va_D A [(h0, .inr (7, [.ref en, .int 0, .ref nt, .ref pl, .int 1])), (pl, .inr (6, [.ref row, .int 0])), (nt, .inr (5, [.ref knx_5, .ref kny_5, .int 0, .ref knl_5, .ref knh_5, .int 0, .ref knb_5, .ref kno_5, .ref knr_5, .ref knd_5, .ref kna_5, .ref kns_5, .ref knf_5, .int 0, .ref knp_5, .int 0, .ref knq_5])), (knb_5, .inl (aI, 3001, .inl (fun _ => 0)))] := hD
      refine lv_aload_n hx hb dX9_build_83 rfl (lv_at hl 1 rfl) ?_
      refine va_get (D := D) (ci := 7) (v := .ref nt) (C := RX9) (T := TX9) (N := 5) hx hb hts n_X9_build_X9 hown hK hP 0 rfl rfl 2 (by decide) (hts (.fieldLink RX9 41 "FaceMapModel" "net" "LFaceMapModel$Net;") (List.mem_of_getElem? (i := 4) rfl)) (fun _ h9 => h9) rfl dX9_build_84 ?_
      refine lv_aload_n hx hb dX9_build_87 rfl (lv_at hl 1 rfl) ?_
      refine va_get (D := D) (ci := 7) (v := .ref pl) (C := RX9) (T := TX9) (N := 5) hx hb hts n_X9_build_X9 hown hK hP 0 rfl rfl 3 (by decide) (hts (.fieldLink RX9 48 "FaceMapModel" "nodes" "LFaceMapModel$Places;") (List.mem_of_getElem? (i := 2) rfl)) (fun _ h9 => h9) rfl dX9_build_88 ?_
      refine va_get (D := D) (ci := 6) (v := .int 0) (C := RX8) (T := TX8) (N := 2) hx hb hts n_X9_build_X8 hown hK hP 1 rfl rfl 1 (by decide) (hts (.fieldLink RX9 103 "FaceMapModel$Places" "size" "I") (List.mem_of_getElem? (i := 5) rfl)) (fun _ h9 => h9) rfl dX9_build_91 ?_
      refine va_put (D := D) (ci := 5) (v := .int 0) (ty := .int) (C := RX7) (T := TX7) (N := 17) hx hb hts n_X9_build_X7 tyX7 tyX7_ok nmX7 hown hK hP hD hS 2 rfl rfl 2 (by decide) (hts (.fieldLink RX9 106 "FaceMapModel$Net" "nodes" "I") (List.mem_of_getElem? (i := 6) rfl)) (fun _ h9 => h9) rfl (by decide +kernel) rfl rfl (Nat.le_of_ble_eq_true rfl) dX9_build_94 (fun H locs hP hD hS => ?_)
      have hP : va_P D q_cl [(h0, .inr (7, [.ref en, .int 0, .ref nt, .ref pl, .int 1])), (pl, .inr (6, [.ref row, .int 0])), (nt, .inr (5, [.ref knx_5, .ref kny_5, .int 0, .ref knl_5, .ref knh_5, .int 0, .ref knb_5, .ref kno_5, .ref knr_5, .ref knd_5, .ref kna_5, .ref kns_5, .ref knf_5, .int 0, .ref knp_5, .int 0, .ref knq_5])), (knb_5, .inl (aI, 3001, .inl (fun _ => 0)))] H := hP
      have hD : va_D A [(h0, .inr (7, [.ref en, .int 0, .ref nt, .ref pl, .int 1])), (pl, .inr (6, [.ref row, .int 0])), (nt, .inr (5, [.ref knx_5, .ref kny_5, .int 0, .ref knl_5, .ref knh_5, .int 0, .ref knb_5, .ref kno_5, .ref knr_5, .ref knd_5, .ref kna_5, .ref kns_5, .ref knf_5, .int 0, .ref knp_5, .int 0, .ref knq_5])), (knb_5, .inl (aI, 3001, .inl (fun _ => 0)))] := hD
      refine lv_aload_n hx hb dX9_build_97 rfl (lv_at hl 1 rfl) ?_
      refine va_get (D := D) (ci := 7) (v := .ref nt) (C := RX9) (T := TX9) (N := 5) hx hb hts n_X9_build_X9 hown hK hP 0 rfl rfl 2 (by decide) (hts (.fieldLink RX9 41 "FaceMapModel" "net" "LFaceMapModel$Net;") (List.mem_of_getElem? (i := 4) rfl)) (fun _ h9 => h9) rfl dX9_build_98 ?_
      refine lv_aload_n hx hb dX9_build_101 rfl (lv_at hl 1 rfl) ?_
      refine va_get (D := D) (ci := 7) (v := .int 0) (C := RX9) (T := TX9) (N := 5) hx hb hts n_X9_build_X9 hown hK hP 0 rfl rfl 1 (by decide) (hts (.fieldLink RX9 54 "FaceMapModel" "count" "I") (List.mem_of_getElem? (i := 3) rfl)) (fun _ h9 => h9) rfl dX9_build_102 ?_
      refine va_put (D := D) (ci := 5) (v := .int 0) (ty := .int) (C := RX7) (T := TX7) (N := 17) hx hb hts n_X9_build_X7 tyX7 tyX7_ok nmX7 hown hK hP hD hS 2 rfl rfl 5 (by decide) (hts (.fieldLink RX9 108 "FaceMapModel$Net" "pieces" "I") (List.mem_of_getElem? (i := 7) rfl)) (fun _ h9 => h9) rfl (by decide +kernel) rfl rfl (Nat.le_of_ble_eq_true rfl) dX9_build_105 (fun H locs hP hD hS => ?_)
      have hP : va_P D q_cl [(h0, .inr (7, [.ref en, .int 0, .ref nt, .ref pl, .int 1])), (pl, .inr (6, [.ref row, .int 0])), (nt, .inr (5, [.ref knx_5, .ref kny_5, .int 0, .ref knl_5, .ref knh_5, .int 0, .ref knb_5, .ref kno_5, .ref knr_5, .ref knd_5, .ref kna_5, .ref kns_5, .ref knf_5, .int 0, .ref knp_5, .int 0, .ref knq_5])), (knb_5, .inl (aI, 3001, .inl (fun _ => 0)))] H := hP
      have hD : va_D A [(h0, .inr (7, [.ref en, .int 0, .ref nt, .ref pl, .int 1])), (pl, .inr (6, [.ref row, .int 0])), (nt, .inr (5, [.ref knx_5, .ref kny_5, .int 0, .ref knl_5, .ref knh_5, .int 0, .ref knb_5, .ref kno_5, .ref knr_5, .ref knd_5, .ref kna_5, .ref kns_5, .ref knf_5, .int 0, .ref knp_5, .int 0, .ref knq_5])), (knb_5, .inl (aI, 3001, .inl (fun _ => 0)))] := hD
      refine lv_iconst (v := 0) hx hb dX9_build_108 (by decide) ?_
      refine lv_istore_n (lv' := [(1, .int 0), (0, .ref h0)]) hx hb dX9_build_109 rfl hl (by decide) rfl (fun ls hl => ?_)
      refine lv_iload_n hx hb dX9_build_110 rfl (lv_at hl 0 rfl) ?_
      refine lv_aload_n hx hb dX9_build_111 rfl (lv_at hl 1 rfl) ?_
      refine va_get (D := D) (ci := 7) (v := .ref pl) (C := RX9) (T := TX9) (N := 5) hx hb hts n_X9_build_X9 hown hK hP 0 rfl rfl 3 (by decide) (hts (.fieldLink RX9 48 "FaceMapModel" "nodes" "LFaceMapModel$Places;") (List.mem_of_getElem? (i := 2) rfl)) (fun _ h9 => h9) rfl dX9_build_112 ?_
      refine va_get (D := D) (ci := 6) (v := .int 0) (C := RX8) (T := TX8) (N := 2) hx hb hts n_X9_build_X8 hown hK hP 1 rfl rfl 1 (by decide) (hts (.fieldLink RX9 103 "FaceMapModel$Places" "size" "I") (List.mem_of_getElem? (i := 5) rfl)) (fun _ h9 => h9) rfl dX9_build_115 ?_
      refine lv_icmp_ge (tgt := 161) hx hb dX9_build_118 (by decide) (fun c_6 => ?_) (fun c_6 => ?_)
      · refine lv_iconst (v := 0) hx hb dX9_build_161 (by decide) ?_
        refine lv_istore_n (lv' := [(1, .int 0), (0, .ref h0)]) hx hb dX9_build_162 rfl hl (by decide) rfl (fun ls hl => ?_)
        refine lv_iload_n hx hb dX9_build_163 rfl (lv_at hl 0 rfl) ?_
        refine lv_aload_n hx hb dX9_build_164 rfl (lv_at hl 1 rfl) ?_
        refine va_get (D := D) (ci := 7) (v := .int 0) (C := RX9) (T := TX9) (N := 5) hx hb hts n_X9_build_X9 hown hK hP 0 rfl rfl 1 (by decide) (hts (.fieldLink RX9 54 "FaceMapModel" "count" "I") (List.mem_of_getElem? (i := 3) rfl)) (fun _ h9 => h9) rfl dX9_build_165 ?_
        refine lv_icmp_ge (tgt := 247) hx hb dX9_build_168 (by decide) (fun c_7 => ?_) (fun c_7 => ?_)
        · refine lv_aload_n hx hb dX9_build_247 rfl (lv_at hl 1 rfl) ?_
          refine va_get (D := D) (ci := 7) (v := .ref nt) (C := RX9) (T := TX9) (N := 5) hx hb hts n_X9_build_X9 hown hK hP 0 rfl rfl 2 (by decide) (hts (.fieldLink RX9 41 "FaceMapModel" "net" "LFaceMapModel$Net;") (List.mem_of_getElem? (i := 4) rfl)) (fun _ h9 => h9) rfl dX9_build_248 ?_
          refine q_v (wr := [(h0, .inr (7, [.ref en, .int 0, .ref nt, .ref pl, .int 1])), (pl, .inr (6, [.ref row, .int 0]))]) (q_runV (As := []) (rest := []) ⟨hx, hb, hml, hown, hts⟩ (c_X7_build l D aI aL aZ nt knx_5 kny_5 knl_5 knh_5 knb_5 kno_5 knr_5 knd_5 kna_5 kns_5 knf_5 knp_5 knq_5 (fun _ => 0) _) (cwV 0 hts g_X9_build_X7_build_132 rfl rfl rfl (by decide +kernel) ⟨Nat.le_of_ble_eq_true rfl, Nat.le_of_ble_eq_true rfl⟩) hK hN hP hD [2, 3] rfl (by decide) rfl rfl rfl hl.1 rfl (Nat.le_of_ble_eq_true rfl) dX9_build_251 ⟨Nat.le_of_ble_eq_true rfl, Nat.le_of_ble_eq_true rfl⟩) hP hD hS hA [2, 3] [0, 1] rfl rfl (by decide) (by decide) (fun u_8 H locs hw hP hD hS => ?_)
          have hP : va_P D q_cl [(h0, .inr (7, [.ref en, .int 0, .ref nt, .ref pl, .int 1])), (pl, .inr (6, [.ref row, .int 0])), (nt, .inr (5, [.ref knx_5, .ref kny_5, .int 0, .ref knl_5, .ref knh_5, .int 0, .ref knb_5, .ref kno_5, .ref knr_5, .ref knd_5, .ref kna_5, .ref kns_5, .ref knf_5, .int 0, .ref knp_5, .int 1, .ref knq_5]))] H := hP
          have hD : va_D A [(h0, .inr (7, [.ref en, .int 0, .ref nt, .ref pl, .int 1])), (pl, .inr (6, [.ref row, .int 0])), (nt, .inr (5, [.ref knx_5, .ref kny_5, .int 0, .ref knl_5, .ref knh_5, .int 0, .ref knb_5, .ref kno_5, .ref knr_5, .ref knd_5, .ref kna_5, .ref kns_5, .ref knf_5, .int 0, .ref knp_5, .int 1, .ref knq_5]))] := hD
          have hP9 := hP.sub (ws' := [(h0, .inr (7, [.ref en, .int 0, .ref nt, .ref pl, .int 1])), (nt, .inr (5, [.ref knx_5, .ref kny_5, .int 0, .ref knl_5, .ref knh_5, .int 0, .ref knb_5, .ref kno_5, .ref knr_5, .ref knd_5, .ref kna_5, .ref kns_5, .ref knf_5, .int 0, .ref knp_5, .int 1, .ref knq_5]))]) [0, 2] rfl
          have hD9 := hD.sub (ws' := [(h0, .inr (7, [.ref en, .int 0, .ref nt, .ref pl, .int 1])), (nt, .inr (5, [.ref knx_5, .ref kny_5, .int 0, .ref knl_5, .ref knh_5, .int 0, .ref knb_5, .ref kno_5, .ref knr_5, .ref knd_5, .ref kna_5, .ref kns_5, .ref knf_5, .int 0, .ref knp_5, .int 1, .ref knq_5]))]) [0, 2] (by decide) rfl
          exact q_retv (knx_5, kny_5, knl_5, knh_5, knb_5, kno_5, knr_5, knd_5, kna_5, kns_5, knf_5, knp_5, knq_5) hx hb hr hlocks hK hP9 hD9 hS (Nat.le_of_ble_eq_true rfl) (Nat.le_of_ble_eq_true rfl) (trivial) dX9_build_254
        · exact absurd c_7 (by decide)
      · exact absurd c_6 (by decide)
    · exact absurd c_3 (by decide)
  · exact absurd c_1 (by decide)
def vsX9_isFace : List Cond := .code yX9_isFace cX9_isFace 2 (some .boolean) :: ([.fieldLink RX9 41 "FaceMapModel" "net" "LFaceMapModel$Net;", .fieldLink RX9 136 "FaceMapModel$Net" "faces" "I"] ++ wsX90 ++ wsX70)
set_option maxRecDepth 20000 in
theorem n_X9_isFace_X9 : ∀ w ∈ wsX90, w ∈ vsX9_isFace := fun _ h => List.mem_cons_of_mem _ (List.mem_append_left _ (List.mem_append_right _ h))
set_option maxRecDepth 20000 in
theorem n_X9_isFace_X7 : ∀ w ∈ wsX70, w ∈ vsX9_isFace := fun _ h => List.mem_cons_of_mem _ (List.mem_append_right _ h)
set_option maxHeartbeats 4000000 in
set_option maxRecDepth 100000 in
/-- isFace, with the outside alone -/
theorem c_X9_isFace (l : Launch) (D : va_G) (aI aL aZ : ClassId) (h0 : Nat) (en : Nat) (nt : Nat) (pl : Nat) (q : Int32) (nx : Nat) (ny : Nat) (nl : Nat) (nh : Nat) (nb : Nat) (no : Nat) (nr : Nat) (nd : Nat) (na : Nat) (ns : Nat) (nf : Nat) (np : Nat) (nq : Nat) (x : Int32) (sz : Nat) : MI l D q_cl (q_ty aI aL aZ) yX9_isFace vsX9_isFace 0 0 0 [.ref h0, .int x] [(h0, .inr (7, [.ref en, .int 0, .ref nt, .ref pl, .int q])), (nt, .inr (5, [.ref nx, .ref ny, .int 0, .ref nl, .ref nh, .int 0, .ref nb, .ref no, .ref nr, .ref nd, .ref na, .ref ns, .ref nf, .int 0, .ref np, .int 1, .ref nq]))] sz (fun (r : Int32) (u : Unit) => (r = 1 ∧ x = 0) ∨ (r = 0 ∧ ¬ x = 0)) (fun (u : Unit) => [(h0, .inr (7, [.ref en, .int 0, .ref nt, .ref pl, .int q])), (nt, .inr (5, [.ref nx, .ref ny, .int 0, .ref nl, .ref nh, .int 0, .ref nb, .ref no, .ref nr, .ref nd, .ref na, .ref ns, .ref nf, .int 0, .ref np, .int 1, .ref nq]))]) := by
  refine q_in cX9_isFace 2 (some .boolean) (qQi D q_cl (q_ty aI aL aZ) _ _) (by decide) rfl (Nat.le_of_ble_eq_true rfl) ?_
  intro p e s m args below meth c A ls hat hP hD hS hl
  obtain ⟨hx, hb, hr, hts, hown, hlocks, hml, hin, hK, hN, hA⟩ := hat
  have hown : s.vm.findClass RX9 = some m.cls := hown
  have hl : lv_has ls 2 [(0, .ref h0), (1, .int x)] := hl
  refine lv_iload_n hx hb dX9_isFace_0 rfl (lv_at hl 1 rfl) ?_
  refine lv_if_lt (tgt := 19) hx hb dX9_isFace_1 (by decide) (fun c_1 => ?_) (fun c_1 => ?_)
  · refine lv_iconst (v := 0) hx hb dX9_isFace_19 (by decide) ?_
    have hP9 := hP.sub (ws' := [(h0, .inr (7, [.ref en, .int 0, .ref nt, .ref pl, .int q])), (nt, .inr (5, [.ref nx, .ref ny, .int 0, .ref nl, .ref nh, .int 0, .ref nb, .ref no, .ref nr, .ref nd, .ref na, .ref ns, .ref nf, .int 0, .ref np, .int 1, .ref nq]))]) [0, 1] rfl
    have hD9 := hD.sub (ws' := [(h0, .inr (7, [.ref en, .int 0, .ref nt, .ref pl, .int q])), (nt, .inr (5, [.ref nx, .ref ny, .int 0, .ref nl, .ref nh, .int 0, .ref nb, .ref no, .ref nr, .ref nd, .ref na, .ref ns, .ref nf, .int 0, .ref np, .int 1, .ref nq]))]) [0, 1] (by decide) rfl
    exact q_retz () hx hb hr (by decide) hlocks hK hP9 hD9 hS (Nat.le_of_ble_eq_true rfl) (Nat.le_of_ble_eq_true rfl) (Or.inr (⟨rfl, (q_hasn (by first | exact Or.inl (by assumption) | exact Or.inr (by assumption)))⟩)) dX9_isFace_20
  · refine lv_iload_n hx hb dX9_isFace_4 rfl (lv_at hl 1 rfl) ?_
    refine lv_aload_n hx hb dX9_isFace_5 rfl (lv_at hl 0 rfl) ?_
    refine va_get (D := D) (ci := 7) (v := .ref nt) (C := RX9) (T := TX9) (N := 5) hx hb hts n_X9_isFace_X9 hown hK hP 0 rfl rfl 2 (by decide) (hts (.fieldLink RX9 41 "FaceMapModel" "net" "LFaceMapModel$Net;") (List.mem_of_getElem? (i := 1) rfl)) (fun _ h9 => h9) rfl dX9_isFace_6 ?_
    refine va_get (D := D) (ci := 5) (v := .int 1) (C := RX7) (T := TX7) (N := 17) hx hb hts n_X9_isFace_X7 hown hK hP 1 rfl rfl 15 (by decide) (hts (.fieldLink RX9 136 "FaceMapModel$Net" "faces" "I") (List.mem_of_getElem? (i := 2) rfl)) (fun _ h9 => h9) rfl dX9_isFace_9 ?_
    refine lv_icmp_ge (tgt := 19) hx hb dX9_isFace_12 (by decide) (fun c_2 => ?_) (fun c_2 => ?_)
    · refine lv_iconst (v := 0) hx hb dX9_isFace_19 (by decide) ?_
      have hP9 := hP.sub (ws' := [(h0, .inr (7, [.ref en, .int 0, .ref nt, .ref pl, .int q])), (nt, .inr (5, [.ref nx, .ref ny, .int 0, .ref nl, .ref nh, .int 0, .ref nb, .ref no, .ref nr, .ref nd, .ref na, .ref ns, .ref nf, .int 0, .ref np, .int 1, .ref nq]))]) [0, 1] rfl
      have hD9 := hD.sub (ws' := [(h0, .inr (7, [.ref en, .int 0, .ref nt, .ref pl, .int q])), (nt, .inr (5, [.ref nx, .ref ny, .int 0, .ref nl, .ref nh, .int 0, .ref nb, .ref no, .ref nr, .ref nd, .ref na, .ref ns, .ref nf, .int 0, .ref np, .int 1, .ref nq]))]) [0, 1] (by decide) rfl
      exact q_retz () hx hb hr (by decide) hlocks hK hP9 hD9 hS (Nat.le_of_ble_eq_true rfl) (Nat.le_of_ble_eq_true rfl) (Or.inr (⟨rfl, (q_hasn (by first | exact Or.inl (by assumption) | exact Or.inr (by assumption)))⟩)) dX9_isFace_20
    · refine lv_iconst (v := 1) hx hb dX9_isFace_15 (by decide) ?_
      refine lv_goto (tgt := 20) hx hb dX9_isFace_16 (by decide) ?_
      have hP9 := hP.sub (ws' := [(h0, .inr (7, [.ref en, .int 0, .ref nt, .ref pl, .int q])), (nt, .inr (5, [.ref nx, .ref ny, .int 0, .ref nl, .ref nh, .int 0, .ref nb, .ref no, .ref nr, .ref nd, .ref na, .ref ns, .ref nf, .int 0, .ref np, .int 1, .ref nq]))]) [0, 1] rfl
      have hD9 := hD.sub (ws' := [(h0, .inr (7, [.ref en, .int 0, .ref nt, .ref pl, .int q])), (nt, .inr (5, [.ref nx, .ref ny, .int 0, .ref nl, .ref nh, .int 0, .ref nb, .ref no, .ref nr, .ref nd, .ref na, .ref ns, .ref nf, .int 0, .ref np, .int 1, .ref nq]))]) [0, 1] (by decide) rfl
      exact q_retz () hx hb hr (by decide) hlocks hK hP9 hD9 hS (Nat.le_of_ble_eq_true rfl) (Nat.le_of_ble_eq_true rfl) (Or.inl (⟨rfl, (q_has (by assumption) (by assumption))⟩)) dX9_isFace_20
end
section
def vsX9_count : List Cond := .code yX9_count cX9_count 2 (some .int) :: ([.fieldLink RX9 41 "FaceMapModel" "net" "LFaceMapModel$Net;", .fieldLink RX9 136 "FaceMapModel$Net" "faces" "I", .fieldLink RX9 54 "FaceMapModel" "count" "I", .fieldLink RX9 106 "FaceMapModel$Net" "nodes" "I", .methodLink RX9 135 yX9_build, .instanceMethod yX9_build, .selects RX9 yX9_build yX9_build, .initialized RX9, .code yX9_build cX9_build 2 none, .fieldLink RX9 82 "FaceMapModel" "isBuilt" "Z", .fieldLink RX9 48 "FaceMapModel" "nodes" "LFaceMapModel$Places;", .fieldLink RX9 103 "FaceMapModel$Places" "size" "I", .fieldLink RX9 108 "FaceMapModel$Net" "pieces" "I", .methodLink RX9 90 yX8_clear, .instanceMethod yX8_clear, .selects RX8 yX8_clear yX8_clear, .initialized RX8, .code yX8_clear cX8_clear 1 none, .fieldLink RX8 13 "FaceMapModel$Places" "size" "I", .methodLink RX9 97 yX8_sort, .instanceMethod yX8_sort, .selects RX8 yX8_sort yX8_sort, .code yX8_sort cX8_sort 4 none, .methodLink RX9 100 yX7_room, .instanceMethod yX7_room, .selects RX7 yX7_room yX7_room, .initialized RX7, .code yX7_room cX7_room 3 none, .fieldLink RX7 7 "FaceMapModel$Net" "x" "[I", .arrayClass .int, .fieldLink RX7 13 "FaceMapModel$Net" "y" "[I", .fieldLink RX7 22 "FaceMapModel$Net" "begins" "[I", .fieldLink RX7 44 "FaceMapModel$Net" "part" "[I", .fieldLink RX7 16 "FaceMapModel$Net" "low" "[I", .fieldLink RX7 19 "FaceMapModel$Net" "high" "[I", .fieldLink RX7 25 "FaceMapModel$Net" "out" "[I", .fieldLink RX7 28 "FaceMapModel$Net" "rank" "[I", .fieldLink RX7 31 "FaceMapModel$Net" "round" "[I", .arrayClass .long, .fieldLink RX7 34 "FaceMapModel$Net" "area" "[J", .fieldLink RX7 38 "FaceMapModel$Net" "least" "[I", .fieldLink RX7 41 "FaceMapModel$Net" "faceOf" "[I", .arrayClass .boolean, .fieldLink RX7 47 "FaceMapModel$Net" "odd" "[Z", .methodLink RX9 132 yX7_build, .instanceMethod yX7_build, .selects RX7 yX7_build yX7_build, .code yX7_build cX7_build 2 none, .fieldLink RX7 67 "FaceMapModel$Net" "nodes" "I", .fieldLink RX7 71 "FaceMapModel$Net" "pieces" "I", .fieldLink RX7 87 "FaceMapModel$Net" "rounds" "I", .methodLink RX7 81 yX7_sortOut, .instanceMethod yX7_sortOut, .selects RX7 yX7_sortOut yX7_sortOut, .code yX7_sortOut cX7_sortOut 6 none, .methodLink RX7 94 yX7_number, .instanceMethod yX7_number, .selects RX7 yX7_number yX7_number, .code yX7_number cX7_number 5 none, .fieldLink RX7 107 "FaceMapModel$Net" "faces" "I", .methodLink RX9 139 yX7_parts, .instanceMethod yX7_parts, .selects RX7 yX7_parts yX7_parts, .code yX7_parts cX7_parts 3 (some .int)] ++ wsX90 ++ wsX70 ++ wsX80)
set_option maxRecDepth 20000 in
theorem g_X9_count_X9_build_135 : GoodIn vsX9_count (wsV RX9 135 RX9 yX9_build vsX9_build) := goodIn_r _ [5, 6, 7, 8, 9, 10, 11, 3, 1, 12, 4, 13, 14, 15, 16, 17, 18, 19, 20, 21, 22, 23, 24, 25, 26, 27, 28, 29, 30, 31, 32, 33, 34, 35, 36, 37, 38, 39, 40, 41, 42, 43, 44, 45, 46, 47, 48, 49, 50, 51, 52, 53, 54, 55, 56, 57, 58, 59, 60, 65, 66, 67, 68, 69, 87, 88, 70, 71, 72, 73, 74, 75, 76, 77, 78, 79, 80, 81, 82, 83, 84, 85, 86] rfl (by decide +kernel)
set_option maxRecDepth 20000 in
theorem n_X9_count_X9 : ∀ w ∈ wsX90, w ∈ vsX9_count := fun _ h => List.mem_cons_of_mem _ (List.mem_append_left _ (List.mem_append_left _ (List.mem_append_right _ h)))
set_option maxRecDepth 20000 in
theorem g_X9_count_X7_parts_139 : GoodIn vsX9_count (wsV RX9 139 RX7 yX7_parts vsX7_parts) := goodIn_r _ [61, 62, 63, 27, 64, 49, 70, 71, 72, 73, 74, 75, 76, 77, 78, 79, 80, 81, 82, 83, 84, 85, 86] rfl (by decide +kernel)
set_option maxRecDepth 20000 in
theorem n_X9_count_X7 : ∀ w ∈ wsX70, w ∈ vsX9_count := fun _ h => List.mem_cons_of_mem _ (List.mem_append_left _ (List.mem_append_right _ h))
set_option maxHeartbeats 4000000 in
set_option maxRecDepth 100000 in
/-- FaceMapModel.count -/
theorem c_X9_count (l : Launch) (D : va_G) (aI aL aZ : ClassId) (h0 : Nat) (en : Nat) (nt : Nat) (pl : Nat) (row : Nat) (nx : Nat) (ny : Nat) (nl : Nat) (nh : Nat) (nb : Nat) (no : Nat) (nr : Nat) (nd : Nat) (na : Nat) (ns : Nat) (nf : Nat) (np : Nat) (nq : Nat) (fx : Nat → Int32) (fl : Nat → Int32) (x : Int32) (sz : Nat) : MI l D q_cl (q_ty aI aL aZ) yX9_count vsX9_count 3 13 36005 [.ref h0, .int x] [(h0, .inr (7, [.ref en, .int 0, .ref nt, .ref pl, .int 0])), (nt, .inr (5, [.ref nx, .ref ny, .int 0, .ref nl, .ref nh, .int 0, .ref nb, .ref no, .ref nr, .ref nd, .ref na, .ref ns, .ref nf, .int 0, .ref np, .int 0, .ref nq])), (nx, .inl (aI, 0, .inl fx)), (nl, .inl (aI, 0, .inl fl)), (pl, .inr (6, [.ref row, .int 0]))] sz (fun (r : Int32) (u : Unit) => r = (cnt x)) (fun (u : Unit) => ([] : va_W)) := by
  refine q_in cX9_count 2 (some .int) (qQi D q_cl (q_ty aI aL aZ) _ _) (by decide) rfl (Nat.le_of_ble_eq_true rfl) ?_
  intro p e s m args below meth c A ls hat hP hD hS hl
  obtain ⟨hx, hb, hr, hts, hown, hlocks, hml, hin, hK, hN, hA⟩ := hat
  have hown : s.vm.findClass RX9 = some m.cls := hown
  have hl : lv_has ls 2 [(0, .ref h0), (1, .int x)] := hl
  refine lv_aload_n hx hb dX9_count_0 rfl (lv_at hl 0 rfl) ?_
  refine q_v (wr := []) (q_runV (As := []) (rest := []) ⟨hx, hb, hml, hown, hts⟩ (c_X9_build l D aI aL aZ h0 en nt pl row nx ny nl nh nb no nr nd na ns nf np nq fx fl _) (cwV 0 hts g_X9_count_X9_build_135 rfl rfl rfl (by decide +kernel) ⟨Nat.le_of_ble_eq_true rfl, Nat.le_of_ble_eq_true rfl⟩) hK hN hP hD [0, 1, 2, 3, 4] rfl (by decide) rfl rfl rfl hl.1 rfl (Nat.le_of_ble_eq_true rfl) dX9_count_1 ⟨Nat.le_of_ble_eq_true rfl, Nat.le_of_ble_eq_true rfl⟩) hP hD hS hA [0, 1, 2, 3, 4] [] rfl rfl (by decide) (by decide) (fun u_1 H locs hw hP hD hS => ?_)
  obtain ⟨knx_1, kny_1, knl_1, knh_1, knb_1, kno_1, knr_1, knd_1, kna_1, kns_1, knf_1, knp_1, knq_1⟩ := u_1
  have hP : va_P D q_cl [(h0, .inr (7, [.ref en, .int 0, .ref nt, .ref pl, .int 1])), (nt, .inr (5, [.ref knx_1, .ref kny_1, .int 0, .ref knl_1, .ref knh_1, .int 0, .ref knb_1, .ref kno_1, .ref knr_1, .ref knd_1, .ref kna_1, .ref kns_1, .ref knf_1, .int 0, .ref knp_1, .int 1, .ref knq_1]))] H := hP
  have hD : va_D A [(h0, .inr (7, [.ref en, .int 0, .ref nt, .ref pl, .int 1])), (nt, .inr (5, [.ref knx_1, .ref kny_1, .int 0, .ref knl_1, .ref knh_1, .int 0, .ref knb_1, .ref kno_1, .ref knr_1, .ref knd_1, .ref kna_1, .ref kns_1, .ref knf_1, .int 0, .ref knp_1, .int 1, .ref knq_1]))] := hD
  refine lv_iload_n hx hb dX9_count_4 rfl (lv_at hl 1 rfl) ?_
  refine lv_if_lt (tgt := 13) hx hb dX9_count_5 (by decide) (fun c_2 => ?_) (fun c_2 => ?_)
  · refine lv_iconst (v := (-1)) hx hb dX9_count_13 (by decide) ?_
    have hP9 := hP.sub (ws' := []) [] rfl
    have hD9 := hD.sub (ws' := []) [] (by decide) rfl
    exact q_reti () hx hb hr hlocks hK hP9 hD9 hS (Nat.le_of_ble_eq_true rfl) (Nat.le_of_ble_eq_true rfl) ((by first | exact cnt_lt (by assumption) | exact cnt_gt (by assumption) | exact cnt_0 (by assumption) | exact cnt_1 (by assumption) | exact cnt_2 (by assumption) | exact cnt_3 (by assumption) (by assumption) (by assumption) (by assumption) (by assumption))) dX9_count_14
  · refine lv_iload_n hx hb dX9_count_8 rfl (lv_at hl 1 rfl) ?_
    refine lv_iconst (v := 3) hx hb dX9_count_9 (by decide) ?_
    refine lv_icmp_le (tgt := 15) hx hb dX9_count_10 (by decide) (fun c_3 => ?_) (fun c_3 => ?_)
    · refine lv_iload_n hx hb dX9_count_15 rfl (lv_at hl 1 rfl) ?_
      refine lv_if_ne (tgt := 27) hx hb dX9_count_16 (by decide) (fun c_4 => ?_) (fun c_4 => ?_)
      · refine lv_iload_n hx hb dX9_count_27 rfl (lv_at hl 1 rfl) ?_
        refine lv_iconst (v := 1) hx hb dX9_count_28 (by decide) ?_
        refine lv_icmp_ne (tgt := 39) hx hb dX9_count_29 (by decide) (fun c_5 => ?_) (fun c_5 => ?_)
        · refine lv_iload_n hx hb dX9_count_39 rfl (lv_at hl 1 rfl) ?_
          refine lv_iconst (v := 2) hx hb dX9_count_40 (by decide) ?_
          refine lv_icmp_ne (tgt := 54) hx hb dX9_count_41 (by decide) (fun c_6 => ?_) (fun c_6 => ?_)
          · refine lv_aload_n hx hb dX9_count_54 rfl (lv_at hl 0 rfl) ?_
            refine va_get (D := D) (ci := 7) (v := .ref nt) (C := RX9) (T := TX9) (N := 5) hx hb hts n_X9_count_X9 hown hK hP 0 rfl rfl 2 (by decide) (hts (.fieldLink RX9 41 "FaceMapModel" "net" "LFaceMapModel$Net;") (List.mem_of_getElem? (i := 1) rfl)) (fun _ h9 => h9) rfl dX9_count_55 ?_
            refine q_i (wr := [(h0, .inr (7, [.ref en, .int 0, .ref nt, .ref pl, .int 1]))]) (q_runV (As := []) (rest := []) ⟨hx, hb, hml, hown, hts⟩ (c_X7_parts l D aI aL aZ nt knx_1 kny_1 knl_1 knh_1 knb_1 kno_1 knr_1 knd_1 kna_1 kns_1 knf_1 knp_1 knq_1 _) (cwV 0 hts g_X9_count_X7_parts_139 rfl rfl rfl (by decide +kernel) ⟨Nat.le_of_ble_eq_true rfl, Nat.le_of_ble_eq_true rfl⟩) hK hN hP hD [1] rfl (by decide) rfl rfl rfl hl.1 rfl (Nat.le_of_ble_eq_true rfl) dX9_count_58 ⟨Nat.le_of_ble_eq_true rfl, Nat.le_of_ble_eq_true rfl⟩) hP hD hS hA [1] [0] rfl rfl (by decide) (by decide) (fun r_7 u_7 H locs hw hP hD hS => ?_)
            subst hw
            have hP : va_P D q_cl [(h0, .inr (7, [.ref en, .int 0, .ref nt, .ref pl, .int 1])), (nt, .inr (5, [.ref knx_1, .ref kny_1, .int 0, .ref knl_1, .ref knh_1, .int 0, .ref knb_1, .ref kno_1, .ref knr_1, .ref knd_1, .ref kna_1, .ref kns_1, .ref knf_1, .int 0, .ref knp_1, .int 1, .ref knq_1]))] H := hP
            have hD : va_D A [(h0, .inr (7, [.ref en, .int 0, .ref nt, .ref pl, .int 1])), (nt, .inr (5, [.ref knx_1, .ref kny_1, .int 0, .ref knl_1, .ref knh_1, .int 0, .ref knb_1, .ref kno_1, .ref knr_1, .ref knd_1, .ref kna_1, .ref kns_1, .ref knf_1, .int 0, .ref knp_1, .int 1, .ref knq_1]))] := hD
            have hP9 := hP.sub (ws' := []) [] rfl
            have hD9 := hD.sub (ws' := []) [] (by decide) rfl
            exact q_reti () hx hb hr hlocks hK hP9 hD9 hS (Nat.le_of_ble_eq_true rfl) (Nat.le_of_ble_eq_true rfl) ((by first | exact cnt_lt (by assumption) | exact cnt_gt (by assumption) | exact cnt_0 (by assumption) | exact cnt_1 (by assumption) | exact cnt_2 (by assumption) | exact cnt_3 (by assumption) (by assumption) (by assumption) (by assumption) (by assumption))) dX9_count_61
          · refine lv_aload_n hx hb dX9_count_44 rfl (lv_at hl 0 rfl) ?_
            refine va_get (D := D) (ci := 7) (v := .ref nt) (C := RX9) (T := TX9) (N := 5) hx hb hts n_X9_count_X9 hown hK hP 0 rfl rfl 2 (by decide) (hts (.fieldLink RX9 41 "FaceMapModel" "net" "LFaceMapModel$Net;") (List.mem_of_getElem? (i := 1) rfl)) (fun _ h9 => h9) rfl dX9_count_45 ?_
            refine va_get (D := D) (ci := 5) (v := .int 1) (C := RX7) (T := TX7) (N := 17) hx hb hts n_X9_count_X7 hown hK hP 1 rfl rfl 15 (by decide) (hts (.fieldLink RX9 136 "FaceMapModel$Net" "faces" "I") (List.mem_of_getElem? (i := 2) rfl)) (fun _ h9 => h9) rfl dX9_count_48 ?_
            refine lv_goto (tgt := 61) hx hb dX9_count_51 (by decide) ?_
            have hP9 := hP.sub (ws' := []) [] rfl
            have hD9 := hD.sub (ws' := []) [] (by decide) rfl
            exact q_reti () hx hb hr hlocks hK hP9 hD9 hS (Nat.le_of_ble_eq_true rfl) (Nat.le_of_ble_eq_true rfl) ((by first | exact cnt_lt (by assumption) | exact cnt_gt (by assumption) | exact cnt_0 (by assumption) | exact cnt_1 (by assumption) | exact cnt_2 (by assumption) | exact cnt_3 (by assumption) (by assumption) (by assumption) (by assumption) (by assumption))) dX9_count_61
        · refine lv_aload_n hx hb dX9_count_32 rfl (lv_at hl 0 rfl) ?_
          refine va_get (D := D) (ci := 7) (v := .int 0) (C := RX9) (T := TX9) (N := 5) hx hb hts n_X9_count_X9 hown hK hP 0 rfl rfl 1 (by decide) (hts (.fieldLink RX9 54 "FaceMapModel" "count" "I") (List.mem_of_getElem? (i := 3) rfl)) (fun _ h9 => h9) rfl dX9_count_33 ?_
          refine lv_goto (tgt := 61) hx hb dX9_count_36 (by decide) ?_
          have hP9 := hP.sub (ws' := []) [] rfl
          have hD9 := hD.sub (ws' := []) [] (by decide) rfl
          exact q_reti () hx hb hr hlocks hK hP9 hD9 hS (Nat.le_of_ble_eq_true rfl) (Nat.le_of_ble_eq_true rfl) ((by first | exact cnt_lt (by assumption) | exact cnt_gt (by assumption) | exact cnt_0 (by assumption) | exact cnt_1 (by assumption) | exact cnt_2 (by assumption) | exact cnt_3 (by assumption) (by assumption) (by assumption) (by assumption) (by assumption))) dX9_count_61
      · refine lv_aload_n hx hb dX9_count_19 rfl (lv_at hl 0 rfl) ?_
        refine va_get (D := D) (ci := 7) (v := .ref nt) (C := RX9) (T := TX9) (N := 5) hx hb hts n_X9_count_X9 hown hK hP 0 rfl rfl 2 (by decide) (hts (.fieldLink RX9 41 "FaceMapModel" "net" "LFaceMapModel$Net;") (List.mem_of_getElem? (i := 1) rfl)) (fun _ h9 => h9) rfl dX9_count_20 ?_
        refine va_get (D := D) (ci := 5) (v := .int 0) (C := RX7) (T := TX7) (N := 17) hx hb hts n_X9_count_X7 hown hK hP 1 rfl rfl 2 (by decide) (hts (.fieldLink RX9 106 "FaceMapModel$Net" "nodes" "I") (List.mem_of_getElem? (i := 4) rfl)) (fun _ h9 => h9) rfl dX9_count_23 ?_
        have hP9 := hP.sub (ws' := []) [] rfl
        have hD9 := hD.sub (ws' := []) [] (by decide) rfl
        exact q_reti () hx hb hr hlocks hK hP9 hD9 hS (Nat.le_of_ble_eq_true rfl) (Nat.le_of_ble_eq_true rfl) ((by first | exact cnt_lt (by assumption) | exact cnt_gt (by assumption) | exact cnt_0 (by assumption) | exact cnt_1 (by assumption) | exact cnt_2 (by assumption) | exact cnt_3 (by assumption) (by assumption) (by assumption) (by assumption) (by assumption))) dX9_count_26
    · refine lv_iconst (v := (-1)) hx hb dX9_count_13 (by decide) ?_
      have hP9 := hP.sub (ws' := []) [] rfl
      have hD9 := hD.sub (ws' := []) [] (by decide) rfl
      exact q_reti () hx hb hr hlocks hK hP9 hD9 hS (Nat.le_of_ble_eq_true rfl) (Nat.le_of_ble_eq_true rfl) ((by first | exact cnt_lt (by assumption) | exact cnt_gt (by assumption) | exact cnt_0 (by assumption) | exact cnt_1 (by assumption) | exact cnt_2 (by assumption) | exact cnt_3 (by assumption) (by assumption) (by assumption) (by assumption) (by assumption))) dX9_count_14
def vsX9_node : List Cond := .code yX9_node cX9_node 3 (some .int) :: ([.constant RX9 143 (1000000), .fieldLink RX9 41 "FaceMapModel" "net" "LFaceMapModel$Net;", .fieldLink RX9 106 "FaceMapModel$Net" "nodes" "I", .methodLink RX9 135 yX9_build, .instanceMethod yX9_build, .selects RX9 yX9_build yX9_build, .initialized RX9, .code yX9_build cX9_build 2 none, .fieldLink RX9 82 "FaceMapModel" "isBuilt" "Z", .fieldLink RX9 48 "FaceMapModel" "nodes" "LFaceMapModel$Places;", .fieldLink RX9 54 "FaceMapModel" "count" "I", .fieldLink RX9 103 "FaceMapModel$Places" "size" "I", .fieldLink RX9 108 "FaceMapModel$Net" "pieces" "I", .methodLink RX9 90 yX8_clear, .instanceMethod yX8_clear, .selects RX8 yX8_clear yX8_clear, .initialized RX8, .code yX8_clear cX8_clear 1 none, .fieldLink RX8 13 "FaceMapModel$Places" "size" "I", .methodLink RX9 97 yX8_sort, .instanceMethod yX8_sort, .selects RX8 yX8_sort yX8_sort, .code yX8_sort cX8_sort 4 none, .methodLink RX9 100 yX7_room, .instanceMethod yX7_room, .selects RX7 yX7_room yX7_room, .initialized RX7, .code yX7_room cX7_room 3 none, .fieldLink RX7 7 "FaceMapModel$Net" "x" "[I", .arrayClass .int, .fieldLink RX7 13 "FaceMapModel$Net" "y" "[I", .fieldLink RX7 22 "FaceMapModel$Net" "begins" "[I", .fieldLink RX7 44 "FaceMapModel$Net" "part" "[I", .fieldLink RX7 16 "FaceMapModel$Net" "low" "[I", .fieldLink RX7 19 "FaceMapModel$Net" "high" "[I", .fieldLink RX7 25 "FaceMapModel$Net" "out" "[I", .fieldLink RX7 28 "FaceMapModel$Net" "rank" "[I", .fieldLink RX7 31 "FaceMapModel$Net" "round" "[I", .arrayClass .long, .fieldLink RX7 34 "FaceMapModel$Net" "area" "[J", .fieldLink RX7 38 "FaceMapModel$Net" "least" "[I", .fieldLink RX7 41 "FaceMapModel$Net" "faceOf" "[I", .arrayClass .boolean, .fieldLink RX7 47 "FaceMapModel$Net" "odd" "[Z", .methodLink RX9 132 yX7_build, .instanceMethod yX7_build, .selects RX7 yX7_build yX7_build, .code yX7_build cX7_build 2 none, .fieldLink RX7 67 "FaceMapModel$Net" "nodes" "I", .fieldLink RX7 71 "FaceMapModel$Net" "pieces" "I", .fieldLink RX7 87 "FaceMapModel$Net" "rounds" "I", .methodLink RX7 81 yX7_sortOut, .instanceMethod yX7_sortOut, .selects RX7 yX7_sortOut yX7_sortOut, .code yX7_sortOut cX7_sortOut 6 none, .methodLink RX7 94 yX7_number, .instanceMethod yX7_number, .selects RX7 yX7_number yX7_number, .code yX7_number cX7_number 5 none, .fieldLink RX7 107 "FaceMapModel$Net" "faces" "I"] ++ wsX90 ++ wsX70 ++ wsX80)
set_option maxRecDepth 20000 in
theorem g_X9_node_X9_build_135 : GoodIn vsX9_node (wsV RX9 135 RX9 yX9_build vsX9_build) := goodIn_r _ [4, 5, 6, 7, 8, 9, 10, 11, 2, 12, 3, 13, 14, 15, 16, 17, 18, 19, 20, 21, 22, 23, 24, 25, 26, 27, 28, 29, 30, 31, 32, 33, 34, 35, 36, 37, 38, 39, 40, 41, 42, 43, 44, 45, 46, 47, 48, 49, 50, 51, 52, 53, 54, 55, 56, 57, 58, 59, 60, 61, 62, 63, 64, 65, 83, 84, 66, 67, 68, 69, 70, 71, 72, 73, 74, 75, 76, 77, 78, 79, 80, 81, 82] rfl (by decide +kernel)
set_option maxRecDepth 20000 in
theorem n_X9_node_X9 : ∀ w ∈ wsX90, w ∈ vsX9_node := fun _ h => List.mem_cons_of_mem _ (List.mem_append_left _ (List.mem_append_left _ (List.mem_append_right _ h)))
set_option maxRecDepth 20000 in
theorem n_X9_node_X7 : ∀ w ∈ wsX70, w ∈ vsX9_node := fun _ h => List.mem_cons_of_mem _ (List.mem_append_left _ (List.mem_append_right _ h))
set_option maxHeartbeats 4000000 in
set_option maxRecDepth 100000 in
/-- FaceMapModel.node -/
theorem c_X9_node (l : Launch) (D : va_G) (aI aL aZ : ClassId) (h0 : Nat) (en : Nat) (nt : Nat) (pl : Nat) (row : Nat) (nx : Nat) (ny : Nat) (nl : Nat) (nh : Nat) (nb : Nat) (no : Nat) (nr : Nat) (nd : Nat) (na : Nat) (ns : Nat) (nf : Nat) (np : Nat) (nq : Nat) (fx : Nat → Int32) (fl : Nat → Int32) (x : Int32) (y : Int32) (sz : Nat) : MI l D q_cl (q_ty aI aL aZ) yX9_node vsX9_node 3 13 36005 [.ref h0, .int x, .int y] [(h0, .inr (7, [.ref en, .int 0, .ref nt, .ref pl, .int 0])), (nt, .inr (5, [.ref nx, .ref ny, .int 0, .ref nl, .ref nh, .int 0, .ref nb, .ref no, .ref nr, .ref nd, .ref na, .ref ns, .ref nf, .int 0, .ref np, .int 0, .ref nq])), (nx, .inl (aI, 0, .inl fx)), (nl, .inl (aI, 0, .inl fl)), (pl, .inr (6, [.ref row, .int 0]))] sz (fun (r : Int32) (u : Unit) => r = 1000000) (fun (u : Unit) => ([] : va_W)) := by
  refine q_in cX9_node 3 (some .int) (qQi D q_cl (q_ty aI aL aZ) _ _) (by decide) rfl (Nat.le_of_ble_eq_true rfl) ?_
  intro p e s m args below meth c A ls hat hP hD hS hl
  obtain ⟨hx, hb, hr, hts, hown, hlocks, hml, hin, hK, hN, hA⟩ := hat
  have hown : s.vm.findClass RX9 = some m.cls := hown
  have hl : lv_has ls 3 [(0, .ref h0), (1, .int x), (2, .int y)] := hl
  refine lv_aload_n hx hb dX9_node_0 rfl (lv_at hl 0 rfl) ?_
  refine q_v (wr := []) (q_runV (As := []) (rest := []) ⟨hx, hb, hml, hown, hts⟩ (c_X9_build l D aI aL aZ h0 en nt pl row nx ny nl nh nb no nr nd na ns nf np nq fx fl _) (cwV 0 hts g_X9_node_X9_build_135 rfl rfl rfl (by decide +kernel) ⟨Nat.le_of_ble_eq_true rfl, Nat.le_of_ble_eq_true rfl⟩) hK hN hP hD [0, 1, 2, 3, 4] rfl (by decide) rfl rfl rfl hl.1 rfl (Nat.le_of_ble_eq_true rfl) dX9_node_1 ⟨Nat.le_of_ble_eq_true rfl, Nat.le_of_ble_eq_true rfl⟩) hP hD hS hA [0, 1, 2, 3, 4] [] rfl rfl (by decide) (by decide) (fun u_1 H locs hw hP hD hS => ?_)
  obtain ⟨knx_1, kny_1, knl_1, knh_1, knb_1, kno_1, knr_1, knd_1, kna_1, kns_1, knf_1, knp_1, knq_1⟩ := u_1
  have hP : va_P D q_cl [(h0, .inr (7, [.ref en, .int 0, .ref nt, .ref pl, .int 1])), (nt, .inr (5, [.ref knx_1, .ref kny_1, .int 0, .ref knl_1, .ref knh_1, .int 0, .ref knb_1, .ref kno_1, .ref knr_1, .ref knd_1, .ref kna_1, .ref kns_1, .ref knf_1, .int 0, .ref knp_1, .int 1, .ref knq_1]))] H := hP
  have hD : va_D A [(h0, .inr (7, [.ref en, .int 0, .ref nt, .ref pl, .int 1])), (nt, .inr (5, [.ref knx_1, .ref kny_1, .int 0, .ref knl_1, .ref knh_1, .int 0, .ref knb_1, .ref kno_1, .ref knr_1, .ref knd_1, .ref kna_1, .ref kns_1, .ref knf_1, .int 0, .ref knp_1, .int 1, .ref knq_1]))] := hD
  refine lv_iload_n hx hb dX9_node_4 rfl (lv_at hl 1 rfl) ?_
  refine lv_if_lt (tgt := 28) hx hb dX9_node_5 (by decide) (fun c_2 => ?_) (fun c_2 => ?_)
  · refine lv_ldc (v := 1000000) hx hb hown (hts (.constant RX9 143 (1000000)) (List.mem_of_getElem? (i := 1) rfl)) dX9_node_28 ?_
    have hP9 := hP.sub (ws' := []) [] rfl
    have hD9 := hD.sub (ws' := []) [] (by decide) rfl
    exact q_reti () hx hb hr hlocks hK hP9 hD9 hS (Nat.le_of_ble_eq_true rfl) (Nat.le_of_ble_eq_true rfl) (rfl) dX9_node_30
  · refine lv_iload_n hx hb dX9_node_8 rfl (lv_at hl 1 rfl) ?_
    refine lv_aload_n hx hb dX9_node_9 rfl (lv_at hl 0 rfl) ?_
    refine va_get (D := D) (ci := 7) (v := .ref nt) (C := RX9) (T := TX9) (N := 5) hx hb hts n_X9_node_X9 hown hK hP 0 rfl rfl 2 (by decide) (hts (.fieldLink RX9 41 "FaceMapModel" "net" "LFaceMapModel$Net;") (List.mem_of_getElem? (i := 2) rfl)) (fun _ h9 => h9) rfl dX9_node_10 ?_
    refine va_get (D := D) (ci := 5) (v := .int 0) (C := RX7) (T := TX7) (N := 17) hx hb hts n_X9_node_X7 hown hK hP 1 rfl rfl 2 (by decide) (hts (.fieldLink RX9 106 "FaceMapModel$Net" "nodes" "I") (List.mem_of_getElem? (i := 3) rfl)) (fun _ h9 => h9) rfl dX9_node_13 ?_
    refine lv_icmp_ge (tgt := 28) hx hb dX9_node_16 (by decide) (fun c_3 => ?_) (fun c_3 => ?_)
    · refine lv_ldc (v := 1000000) hx hb hown (hts (.constant RX9 143 (1000000)) (List.mem_of_getElem? (i := 1) rfl)) dX9_node_28 ?_
      have hP9 := hP.sub (ws' := []) [] rfl
      have hD9 := hD.sub (ws' := []) [] (by decide) rfl
      exact q_reti () hx hb hr hlocks hK hP9 hD9 hS (Nat.le_of_ble_eq_true rfl) (Nat.le_of_ble_eq_true rfl) (rfl) dX9_node_30
    · exact absurd (Int32.not_lt.mp (by assumption)) c_3
def vsX9_piece : List Cond := .code yX9_piece cX9_piece 3 (some .int) :: ([.fieldLink RX9 54 "FaceMapModel" "count" "I", .methodLink RX9 135 yX9_build, .instanceMethod yX9_build, .selects RX9 yX9_build yX9_build, .initialized RX9, .code yX9_build cX9_build 2 none, .fieldLink RX9 82 "FaceMapModel" "isBuilt" "Z", .fieldLink RX9 48 "FaceMapModel" "nodes" "LFaceMapModel$Places;", .fieldLink RX9 41 "FaceMapModel" "net" "LFaceMapModel$Net;", .fieldLink RX9 103 "FaceMapModel$Places" "size" "I", .fieldLink RX9 106 "FaceMapModel$Net" "nodes" "I", .fieldLink RX9 108 "FaceMapModel$Net" "pieces" "I", .methodLink RX9 90 yX8_clear, .instanceMethod yX8_clear, .selects RX8 yX8_clear yX8_clear, .initialized RX8, .code yX8_clear cX8_clear 1 none, .fieldLink RX8 13 "FaceMapModel$Places" "size" "I", .methodLink RX9 97 yX8_sort, .instanceMethod yX8_sort, .selects RX8 yX8_sort yX8_sort, .code yX8_sort cX8_sort 4 none, .methodLink RX9 100 yX7_room, .instanceMethod yX7_room, .selects RX7 yX7_room yX7_room, .initialized RX7, .code yX7_room cX7_room 3 none, .fieldLink RX7 7 "FaceMapModel$Net" "x" "[I", .arrayClass .int, .fieldLink RX7 13 "FaceMapModel$Net" "y" "[I", .fieldLink RX7 22 "FaceMapModel$Net" "begins" "[I", .fieldLink RX7 44 "FaceMapModel$Net" "part" "[I", .fieldLink RX7 16 "FaceMapModel$Net" "low" "[I", .fieldLink RX7 19 "FaceMapModel$Net" "high" "[I", .fieldLink RX7 25 "FaceMapModel$Net" "out" "[I", .fieldLink RX7 28 "FaceMapModel$Net" "rank" "[I", .fieldLink RX7 31 "FaceMapModel$Net" "round" "[I", .arrayClass .long, .fieldLink RX7 34 "FaceMapModel$Net" "area" "[J", .fieldLink RX7 38 "FaceMapModel$Net" "least" "[I", .fieldLink RX7 41 "FaceMapModel$Net" "faceOf" "[I", .arrayClass .boolean, .fieldLink RX7 47 "FaceMapModel$Net" "odd" "[Z", .methodLink RX9 132 yX7_build, .instanceMethod yX7_build, .selects RX7 yX7_build yX7_build, .code yX7_build cX7_build 2 none, .fieldLink RX7 67 "FaceMapModel$Net" "nodes" "I", .fieldLink RX7 71 "FaceMapModel$Net" "pieces" "I", .fieldLink RX7 87 "FaceMapModel$Net" "rounds" "I", .methodLink RX7 81 yX7_sortOut, .instanceMethod yX7_sortOut, .selects RX7 yX7_sortOut yX7_sortOut, .code yX7_sortOut cX7_sortOut 6 none, .methodLink RX7 94 yX7_number, .instanceMethod yX7_number, .selects RX7 yX7_number yX7_number, .code yX7_number cX7_number 5 none, .fieldLink RX7 107 "FaceMapModel$Net" "faces" "I"] ++ wsX90 ++ wsX80 ++ wsX70)
set_option maxRecDepth 20000 in
theorem g_X9_piece_X9_build_135 : GoodIn vsX9_piece (wsV RX9 135 RX9 yX9_build vsX9_build) := goodIn_r _ [2, 3, 4, 5, 6, 7, 8, 1, 9, 10, 11, 12, 13, 14, 15, 16, 17, 18, 19, 20, 21, 22, 23, 24, 25, 26, 27, 28, 29, 30, 31, 32, 33, 34, 35, 36, 37, 38, 39, 40, 41, 42, 43, 44, 45, 46, 47, 48, 49, 50, 51, 52, 53, 54, 55, 56, 57, 58, 59, 60, 61, 62, 63, 64, 65, 66, 67, 68, 69, 70, 71, 72, 73, 74, 75, 76, 77, 78, 79, 80, 81, 82, 83] rfl (by decide +kernel)
set_option maxRecDepth 20000 in
theorem n_X9_piece_X9 : ∀ w ∈ wsX90, w ∈ vsX9_piece := fun _ h => List.mem_cons_of_mem _ (List.mem_append_left _ (List.mem_append_left _ (List.mem_append_right _ h)))
set_option maxHeartbeats 4000000 in
set_option maxRecDepth 100000 in
/-- FaceMapModel.piece -/
theorem c_X9_piece (l : Launch) (D : va_G) (aI aL aZ : ClassId) (h0 : Nat) (en : Nat) (nt : Nat) (pl : Nat) (row : Nat) (nx : Nat) (ny : Nat) (nl : Nat) (nh : Nat) (nb : Nat) (no : Nat) (nr : Nat) (nd : Nat) (na : Nat) (ns : Nat) (nf : Nat) (np : Nat) (nq : Nat) (fx : Nat → Int32) (fl : Nat → Int32) (x : Int32) (y : Int32) (sz : Nat) : MI l D q_cl (q_ty aI aL aZ) yX9_piece vsX9_piece 3 13 36005 [.ref h0, .int x, .int y] [(h0, .inr (7, [.ref en, .int 0, .ref nt, .ref pl, .int 0])), (nt, .inr (5, [.ref nx, .ref ny, .int 0, .ref nl, .ref nh, .int 0, .ref nb, .ref no, .ref nr, .ref nd, .ref na, .ref ns, .ref nf, .int 0, .ref np, .int 0, .ref nq])), (nx, .inl (aI, 0, .inl fx)), (nl, .inl (aI, 0, .inl fl)), (pl, .inr (6, [.ref row, .int 0]))] sz (fun (r : Int32) (u : Unit) => r = (-1)) (fun (u : Unit) => ([] : va_W)) := by
  refine q_in cX9_piece 3 (some .int) (qQi D q_cl (q_ty aI aL aZ) _ _) (by decide) rfl (Nat.le_of_ble_eq_true rfl) ?_
  intro p e s m args below meth c A ls hat hP hD hS hl
  obtain ⟨hx, hb, hr, hts, hown, hlocks, hml, hin, hK, hN, hA⟩ := hat
  have hown : s.vm.findClass RX9 = some m.cls := hown
  have hl : lv_has ls 3 [(0, .ref h0), (1, .int x), (2, .int y)] := hl
  refine lv_aload_n hx hb dX9_piece_0 rfl (lv_at hl 0 rfl) ?_
  refine q_v (wr := []) (q_runV (As := []) (rest := []) ⟨hx, hb, hml, hown, hts⟩ (c_X9_build l D aI aL aZ h0 en nt pl row nx ny nl nh nb no nr nd na ns nf np nq fx fl _) (cwV 0 hts g_X9_piece_X9_build_135 rfl rfl rfl (by decide +kernel) ⟨Nat.le_of_ble_eq_true rfl, Nat.le_of_ble_eq_true rfl⟩) hK hN hP hD [0, 1, 2, 3, 4] rfl (by decide) rfl rfl rfl hl.1 rfl (Nat.le_of_ble_eq_true rfl) dX9_piece_1 ⟨Nat.le_of_ble_eq_true rfl, Nat.le_of_ble_eq_true rfl⟩) hP hD hS hA [0, 1, 2, 3, 4] [] rfl rfl (by decide) (by decide) (fun u_1 H locs hw hP hD hS => ?_)
  obtain ⟨knx_1, kny_1, knl_1, knh_1, knb_1, kno_1, knr_1, knd_1, kna_1, kns_1, knf_1, knp_1, knq_1⟩ := u_1
  have hP : va_P D q_cl [(h0, .inr (7, [.ref en, .int 0, .ref nt, .ref pl, .int 1])), (nt, .inr (5, [.ref knx_1, .ref kny_1, .int 0, .ref knl_1, .ref knh_1, .int 0, .ref knb_1, .ref kno_1, .ref knr_1, .ref knd_1, .ref kna_1, .ref kns_1, .ref knf_1, .int 0, .ref knp_1, .int 1, .ref knq_1]))] H := hP
  have hD : va_D A [(h0, .inr (7, [.ref en, .int 0, .ref nt, .ref pl, .int 1])), (nt, .inr (5, [.ref knx_1, .ref kny_1, .int 0, .ref knl_1, .ref knh_1, .int 0, .ref knb_1, .ref kno_1, .ref knr_1, .ref knd_1, .ref kna_1, .ref kns_1, .ref knf_1, .int 0, .ref knp_1, .int 1, .ref knq_1]))] := hD
  refine lv_iload_n hx hb dX9_piece_4 rfl (lv_at hl 1 rfl) ?_
  refine lv_if_lt (tgt := 25) hx hb dX9_piece_5 (by decide) (fun c_2 => ?_) (fun c_2 => ?_)
  · refine lv_iconst (v := (-1)) hx hb dX9_piece_25 (by decide) ?_
    have hP9 := hP.sub (ws' := []) [] rfl
    have hD9 := hD.sub (ws' := []) [] (by decide) rfl
    exact q_reti () hx hb hr hlocks hK hP9 hD9 hS (Nat.le_of_ble_eq_true rfl) (Nat.le_of_ble_eq_true rfl) (rfl) dX9_piece_26
  · refine lv_iload_n hx hb dX9_piece_8 rfl (lv_at hl 1 rfl) ?_
    refine lv_aload_n hx hb dX9_piece_9 rfl (lv_at hl 0 rfl) ?_
    refine va_get (D := D) (ci := 7) (v := .int 0) (C := RX9) (T := TX9) (N := 5) hx hb hts n_X9_piece_X9 hown hK hP 0 rfl rfl 1 (by decide) (hts (.fieldLink RX9 54 "FaceMapModel" "count" "I") (List.mem_of_getElem? (i := 1) rfl)) (fun _ h9 => h9) rfl dX9_piece_10 ?_
    refine lv_icmp_ge (tgt := 25) hx hb dX9_piece_13 (by decide) (fun c_3 => ?_) (fun c_3 => ?_)
    · refine lv_iconst (v := (-1)) hx hb dX9_piece_25 (by decide) ?_
      have hP9 := hP.sub (ws' := []) [] rfl
      have hD9 := hD.sub (ws' := []) [] (by decide) rfl
      exact q_reti () hx hb hr hlocks hK hP9 hD9 hS (Nat.le_of_ble_eq_true rfl) (Nat.le_of_ble_eq_true rfl) (rfl) dX9_piece_26
    · exact absurd (Int32.not_lt.mp (by assumption)) c_3
def vsX9_left : List Cond := .code yX9_left cX9_left 8 (some .int) :: ([.methodLink RX9 135 yX9_build, .instanceMethod yX9_build, .selects RX9 yX9_build yX9_build, .initialized RX9, .code yX9_build cX9_build 2 none, .fieldLink RX9 82 "FaceMapModel" "isBuilt" "Z", .fieldLink RX9 48 "FaceMapModel" "nodes" "LFaceMapModel$Places;", .fieldLink RX9 54 "FaceMapModel" "count" "I", .fieldLink RX9 41 "FaceMapModel" "net" "LFaceMapModel$Net;", .fieldLink RX9 103 "FaceMapModel$Places" "size" "I", .fieldLink RX9 106 "FaceMapModel$Net" "nodes" "I", .fieldLink RX9 108 "FaceMapModel$Net" "pieces" "I", .methodLink RX9 90 yX8_clear, .instanceMethod yX8_clear, .selects RX8 yX8_clear yX8_clear, .initialized RX8, .code yX8_clear cX8_clear 1 none, .fieldLink RX8 13 "FaceMapModel$Places" "size" "I", .methodLink RX9 97 yX8_sort, .instanceMethod yX8_sort, .selects RX8 yX8_sort yX8_sort, .code yX8_sort cX8_sort 4 none, .methodLink RX9 100 yX7_room, .instanceMethod yX7_room, .selects RX7 yX7_room yX7_room, .initialized RX7, .code yX7_room cX7_room 3 none, .fieldLink RX7 7 "FaceMapModel$Net" "x" "[I", .arrayClass .int, .fieldLink RX7 13 "FaceMapModel$Net" "y" "[I", .fieldLink RX7 22 "FaceMapModel$Net" "begins" "[I", .fieldLink RX7 44 "FaceMapModel$Net" "part" "[I", .fieldLink RX7 16 "FaceMapModel$Net" "low" "[I", .fieldLink RX7 19 "FaceMapModel$Net" "high" "[I", .fieldLink RX7 25 "FaceMapModel$Net" "out" "[I", .fieldLink RX7 28 "FaceMapModel$Net" "rank" "[I", .fieldLink RX7 31 "FaceMapModel$Net" "round" "[I", .arrayClass .long, .fieldLink RX7 34 "FaceMapModel$Net" "area" "[J", .fieldLink RX7 38 "FaceMapModel$Net" "least" "[I", .fieldLink RX7 41 "FaceMapModel$Net" "faceOf" "[I", .arrayClass .boolean, .fieldLink RX7 47 "FaceMapModel$Net" "odd" "[Z", .methodLink RX9 132 yX7_build, .instanceMethod yX7_build, .selects RX7 yX7_build yX7_build, .code yX7_build cX7_build 2 none, .fieldLink RX7 67 "FaceMapModel$Net" "nodes" "I", .fieldLink RX7 71 "FaceMapModel$Net" "pieces" "I", .fieldLink RX7 87 "FaceMapModel$Net" "rounds" "I", .methodLink RX7 81 yX7_sortOut, .instanceMethod yX7_sortOut, .selects RX7 yX7_sortOut yX7_sortOut, .code yX7_sortOut cX7_sortOut 6 none, .methodLink RX7 94 yX7_number, .instanceMethod yX7_number, .selects RX7 yX7_number yX7_number, .code yX7_number cX7_number 5 none, .fieldLink RX7 107 "FaceMapModel$Net" "faces" "I", .methodLink RX9 58 yX9_compare, .static yX9_compare, .code yX9_compare cX9_compare 4 (some .int), .methodLink RX9 72 yX9_from, .instanceMethod yX9_from, .selects RX9 yX9_from yX9_from, .code yX9_from cX9_from 7 (some .int), .methodLink RX9 75 yX9_isAt, .instanceMethod yX9_isAt, .selects RX9 yX9_isAt yX9_isAt, .code yX9_isAt cX9_isAt 6 (some .boolean)] ++ wsX90 ++ wsX80 ++ wsX70)
set_option maxRecDepth 20000 in
theorem g_X9_left_X9_build_135 : GoodIn vsX9_left (wsV RX9 135 RX9 yX9_build vsX9_build) := goodIn_r _ [1, 2, 3, 4, 5, 6, 7, 8, 9, 10, 11, 12, 13, 14, 15, 16, 17, 18, 19, 20, 21, 22, 23, 24, 25, 26, 27, 28, 29, 30, 31, 32, 33, 34, 35, 36, 37, 38, 39, 40, 41, 42, 43, 44, 45, 46, 47, 48, 49, 50, 51, 52, 53, 54, 55, 56, 57, 58, 59, 71, 72, 73, 74, 75, 76, 77, 78, 79, 80, 81, 82, 83, 84, 85, 86, 87, 88, 89, 90, 91, 92, 93, 94] rfl (by decide +kernel)
set_option maxRecDepth 20000 in
theorem g_X9_left_X9_compare_58 : GoodIn vsX9_left (va_wsS RX9 58 yX9_compare vsX9_compare) := goodIn_r _ [60, 61, 4, 62] rfl (by decide +kernel)
set_option maxRecDepth 20000 in
theorem g_X9_left_X9_from_72 : GoodIn vsX9_left (wsV RX9 72 RX9 yX9_from vsX9_from) := goodIn_r _ [63, 64, 65, 4, 66, 8, 71, 72, 73, 74, 75] rfl (by decide +kernel)
set_option maxRecDepth 20000 in
theorem g_X9_left_X9_isAt_75 : GoodIn vsX9_left (wsV RX9 75 RX9 yX9_isAt vsX9_isAt) := goodIn_r _ [67, 68, 69, 4, 70, 8, 71, 72, 73, 74, 75] rfl (by decide +kernel)
set_option maxHeartbeats 4000000 in
set_option maxRecDepth 100000 in
/-- FaceMapModel.left -/
theorem c_X9_left (l : Launch) (D : va_G) (aI aL aZ : ClassId) (h0 : Nat) (en : Nat) (nt : Nat) (pl : Nat) (row : Nat) (nx : Nat) (ny : Nat) (nl : Nat) (nh : Nat) (nb : Nat) (no : Nat) (nr : Nat) (nd : Nat) (na : Nat) (ns : Nat) (nf : Nat) (np : Nat) (nq : Nat) (fx : Nat → Int32) (fl : Nat → Int32) (x1 : Int32) (y1 : Int32) (x2 : Int32) (y2 : Int32) (sz : Nat) : MI l D q_cl (q_ty aI aL aZ) yX9_left vsX9_left 3 13 36005 [.ref h0, .int x1, .int y1, .int x2, .int y2] [(h0, .inr (7, [.ref en, .int 0, .ref nt, .ref pl, .int 0])), (nt, .inr (5, [.ref nx, .ref ny, .int 0, .ref nl, .ref nh, .int 0, .ref nb, .ref no, .ref nr, .ref nd, .ref na, .ref ns, .ref nf, .int 0, .ref np, .int 0, .ref nq])), (nx, .inl (aI, 0, .inl fx)), (nl, .inl (aI, 0, .inl fl)), (pl, .inr (6, [.ref row, .int 0]))] sz (fun (r : Int32) (u : Unit) => r = (-1)) (fun (u : Unit) => ([] : va_W)) := by
  refine q_in cX9_left 8 (some .int) (qQi D q_cl (q_ty aI aL aZ) _ _) (by decide) rfl (Nat.le_of_ble_eq_true rfl) ?_
  intro p e s m args below meth c A ls hat hP hD hS hl
  obtain ⟨hx, hb, hr, hts, hown, hlocks, hml, hin, hK, hN, hA⟩ := hat
  have hown : s.vm.findClass RX9 = some m.cls := hown
  have hl : lv_has ls 8 [(0, .ref h0), (1, .int x1), (2, .int y1), (3, .int x2), (4, .int y2)] := hl
  refine lv_aload_n hx hb dX9_left_0 rfl (lv_at hl 0 rfl) ?_
  refine q_v (wr := []) (q_runV (As := []) (rest := []) ⟨hx, hb, hml, hown, hts⟩ (c_X9_build l D aI aL aZ h0 en nt pl row nx ny nl nh nb no nr nd na ns nf np nq fx fl _) (cwV 0 hts g_X9_left_X9_build_135 rfl rfl rfl (by decide +kernel) ⟨Nat.le_of_ble_eq_true rfl, Nat.le_of_ble_eq_true rfl⟩) hK hN hP hD [0, 1, 2, 3, 4] rfl (by decide) rfl rfl rfl hl.1 rfl (Nat.le_of_ble_eq_true rfl) dX9_left_1 ⟨Nat.le_of_ble_eq_true rfl, Nat.le_of_ble_eq_true rfl⟩) hP hD hS hA [0, 1, 2, 3, 4] [] rfl rfl (by decide) (by decide) (fun u_1 H locs hw hP hD hS => ?_)
  obtain ⟨knx_1, kny_1, knl_1, knh_1, knb_1, kno_1, knr_1, knd_1, kna_1, kns_1, knf_1, knp_1, knq_1⟩ := u_1
  have hP : va_P D q_cl [(h0, .inr (7, [.ref en, .int 0, .ref nt, .ref pl, .int 1])), (nt, .inr (5, [.ref knx_1, .ref kny_1, .int 0, .ref knl_1, .ref knh_1, .int 0, .ref knb_1, .ref kno_1, .ref knr_1, .ref knd_1, .ref kna_1, .ref kns_1, .ref knf_1, .int 0, .ref knp_1, .int 1, .ref knq_1]))] H := hP
  have hD : va_D A [(h0, .inr (7, [.ref en, .int 0, .ref nt, .ref pl, .int 1])), (nt, .inr (5, [.ref knx_1, .ref kny_1, .int 0, .ref knl_1, .ref knh_1, .int 0, .ref knb_1, .ref kno_1, .ref knr_1, .ref knd_1, .ref kna_1, .ref kns_1, .ref knf_1, .int 0, .ref knp_1, .int 1, .ref knq_1]))] := hD
  refine lv_iload_n hx hb dX9_left_4 rfl (lv_at hl 1 rfl) ?_
  refine lv_iload_n hx hb dX9_left_5 rfl (lv_at hl 2 rfl) ?_
  refine lv_iload_n hx hb dX9_left_6 rfl (lv_at hl 3 rfl) ?_
  refine lv_iload hx hb dX9_left_7 (lv_at hl 4 rfl) ?_
  refine q_i (wr := [(h0, .inr (7, [.ref en, .int 0, .ref nt, .ref pl, .int 1])), (nt, .inr (5, [.ref knx_1, .ref kny_1, .int 0, .ref knl_1, .ref knh_1, .int 0, .ref knb_1, .ref kno_1, .ref knr_1, .ref knd_1, .ref kna_1, .ref kns_1, .ref knf_1, .int 0, .ref knp_1, .int 1, .ref knq_1]))]) (q_runS (As := [.int x1, .int y1, .int x2, .int y2]) (rest := []) ⟨hx, hb, hml, hown, hts⟩ (c_X9_compare l D aI aL aZ x1 y1 x2 y2 _) (va_cwS 4 hts g_X9_left_X9_compare_58 rfl rfl rfl (by decide +kernel) ⟨Nat.le_of_ble_eq_true rfl, Nat.le_of_ble_eq_true rfl⟩) hK hN hP hD [] rfl (by decide) rfl hl.1 rfl (Nat.le_of_ble_eq_true rfl) dX9_left_9 ⟨Nat.le_of_ble_eq_true rfl, Nat.le_of_ble_eq_true rfl⟩) hP hD hS hA [] [0, 1] rfl rfl (by decide) (by decide) (fun r_2 u_2 H locs hw hP hD hS => ?_)
  subst hw
  have hP : va_P D q_cl [(h0, .inr (7, [.ref en, .int 0, .ref nt, .ref pl, .int 1])), (nt, .inr (5, [.ref knx_1, .ref kny_1, .int 0, .ref knl_1, .ref knh_1, .int 0, .ref knb_1, .ref kno_1, .ref knr_1, .ref knd_1, .ref kna_1, .ref kns_1, .ref knf_1, .int 0, .ref knp_1, .int 1, .ref knq_1]))] H := hP
  have hD : va_D A [(h0, .inr (7, [.ref en, .int 0, .ref nt, .ref pl, .int 1])), (nt, .inr (5, [.ref knx_1, .ref kny_1, .int 0, .ref knl_1, .ref knh_1, .int 0, .ref knb_1, .ref kno_1, .ref knr_1, .ref knd_1, .ref kna_1, .ref kns_1, .ref knf_1, .int 0, .ref knp_1, .int 1, .ref knq_1]))] := hD
  refine lv_if_le (tgt := 19) hx hb dX9_left_12 (by decide) (fun c_3 => ?_) (fun c_3 => ?_)
  · refine lv_iconst (v := 0) hx hb dX9_left_19 (by decide) ?_
    refine lv_istore (lv' := [(5, .int 0), (0, .ref h0), (1, .int x1), (2, .int y1), (3, .int x2), (4, .int y2)]) hx hb dX9_left_20 hl (by decide) rfl (fun ls hl => ?_)
    refine lv_iload hx hb dX9_left_22 (lv_at hl 0 rfl) ?_
    refine lv_if_eq (tgt := 39) hx hb dX9_left_24 (by decide) (fun c_4 => ?_) (fun c_4 => ?_)
    · refine lv_aload_n hx hb dX9_left_39 rfl (lv_at hl 1 rfl) ?_
      refine lv_iload_n hx hb dX9_left_40 rfl (lv_at hl 2 rfl) ?_
      refine lv_iload_n hx hb dX9_left_41 rfl (lv_at hl 3 rfl) ?_
      refine lv_iload_n hx hb dX9_left_42 rfl (lv_at hl 4 rfl) ?_
      refine lv_iload hx hb dX9_left_43 (lv_at hl 5 rfl) ?_
      refine q_i (wr := [(nt, .inr (5, [.ref knx_1, .ref kny_1, .int 0, .ref knl_1, .ref knh_1, .int 0, .ref knb_1, .ref kno_1, .ref knr_1, .ref knd_1, .ref kna_1, .ref kns_1, .ref knf_1, .int 0, .ref knp_1, .int 1, .ref knq_1]))]) (q_runV (As := [.int x1, .int y1, .int x2, .int y2]) (rest := []) ⟨hx, hb, hml, hown, hts⟩ (c_X9_from l D aI aL aZ h0 en nt pl 1 x1 y1 x2 y2 _) (cwV 4 hts g_X9_left_X9_from_72 rfl rfl rfl (by decide +kernel) ⟨Nat.le_of_ble_eq_true rfl, Nat.le_of_ble_eq_true rfl⟩) hK hN hP hD [0] rfl (by decide) rfl rfl rfl hl.1 rfl (Nat.le_of_ble_eq_true rfl) dX9_left_45 ⟨Nat.le_of_ble_eq_true rfl, Nat.le_of_ble_eq_true rfl⟩) hP hD hS hA [0] [1] rfl rfl (by decide) (by decide) (fun r_5 u_5 H locs hw hP hD hS => ?_)
      subst hw
      have hP : va_P D q_cl [(nt, .inr (5, [.ref knx_1, .ref kny_1, .int 0, .ref knl_1, .ref knh_1, .int 0, .ref knb_1, .ref kno_1, .ref knr_1, .ref knd_1, .ref kna_1, .ref kns_1, .ref knf_1, .int 0, .ref knp_1, .int 1, .ref knq_1])), (h0, .inr (7, [.ref en, .int 0, .ref nt, .ref pl, .int 1]))] H := hP
      have hD : va_D A [(nt, .inr (5, [.ref knx_1, .ref kny_1, .int 0, .ref knl_1, .ref knh_1, .int 0, .ref knb_1, .ref kno_1, .ref knr_1, .ref knd_1, .ref kna_1, .ref kns_1, .ref knf_1, .int 0, .ref knp_1, .int 1, .ref knq_1])), (h0, .inr (7, [.ref en, .int 0, .ref nt, .ref pl, .int 1]))] := hD
      refine lv_istore (lv' := [(6, .int 0), (5, .int 0), (0, .ref h0), (1, .int x1), (2, .int y1), (3, .int x2), (4, .int y2)]) hx hb dX9_left_48 hl (by decide) rfl (fun ls hl => ?_)
      refine lv_iload hx hb dX9_left_50 (lv_at hl 1 rfl) ?_
      refine lv_if_eq (tgt := 69) hx hb dX9_left_52 (by decide) (fun c_6 => ?_) (fun c_6 => ?_)
      · refine lv_aload_n hx hb dX9_left_69 rfl (lv_at hl 2 rfl) ?_
        refine lv_iload hx hb dX9_left_70 (lv_at hl 0 rfl) ?_
        refine lv_iload_n hx hb dX9_left_72 rfl (lv_at hl 3 rfl) ?_
        refine lv_iload_n hx hb dX9_left_73 rfl (lv_at hl 4 rfl) ?_
        refine lv_iload_n hx hb dX9_left_74 rfl (lv_at hl 5 rfl) ?_
        refine lv_iload hx hb dX9_left_75 (lv_at hl 6 rfl) ?_
        refine q_i (wr := [(nt, .inr (5, [.ref knx_1, .ref kny_1, .int 0, .ref knl_1, .ref knh_1, .int 0, .ref knb_1, .ref kno_1, .ref knr_1, .ref knd_1, .ref kna_1, .ref kns_1, .ref knf_1, .int 0, .ref knp_1, .int 1, .ref knq_1]))]) (q_runV (As := [.int 0, .int x1, .int y1, .int x2, .int y2]) (rest := []) ⟨hx, hb, hml, hown, hts⟩ (c_X9_isAt l D aI aL aZ h0 en nt pl 1 x1 y1 x2 y2 _) (cwV 5 hts g_X9_left_X9_isAt_75 rfl rfl rfl (by decide +kernel) ⟨Nat.le_of_ble_eq_true rfl, Nat.le_of_ble_eq_true rfl⟩) hK hN hP hD [1] rfl (by decide) rfl rfl rfl hl.1 rfl (Nat.le_of_ble_eq_true rfl) dX9_left_77 ⟨Nat.le_of_ble_eq_true rfl, Nat.le_of_ble_eq_true rfl⟩) hP hD hS hA [1] [0] rfl rfl (by decide) (by decide) (fun r_7 u_7 H locs hw hP hD hS => ?_)
        subst hw
        have hP : va_P D q_cl [(nt, .inr (5, [.ref knx_1, .ref kny_1, .int 0, .ref knl_1, .ref knh_1, .int 0, .ref knb_1, .ref kno_1, .ref knr_1, .ref knd_1, .ref kna_1, .ref kns_1, .ref knf_1, .int 0, .ref knp_1, .int 1, .ref knq_1])), (h0, .inr (7, [.ref en, .int 0, .ref nt, .ref pl, .int 1]))] H := hP
        have hD : va_D A [(nt, .inr (5, [.ref knx_1, .ref kny_1, .int 0, .ref knl_1, .ref knh_1, .int 0, .ref knb_1, .ref kno_1, .ref knr_1, .ref knd_1, .ref kna_1, .ref kns_1, .ref knf_1, .int 0, .ref knp_1, .int 1, .ref knq_1])), (h0, .inr (7, [.ref en, .int 0, .ref nt, .ref pl, .int 1]))] := hD
        refine lv_istore (lv' := [(7, .int 0), (6, .int 0), (5, .int 0), (0, .ref h0), (1, .int x1), (2, .int y1), (3, .int x2), (4, .int y2)]) hx hb dX9_left_80 hl (by decide) rfl (fun ls hl => ?_)
        refine lv_iload hx hb dX9_left_82 (lv_at hl 0 rfl) ?_
        refine lv_if_eq (tgt := 112) hx hb dX9_left_84 (by decide) (fun c_8 => ?_) (fun c_8 => ?_)
        · refine lv_iconst (v := (-1)) hx hb dX9_left_112 (by decide) ?_
          have hP9 := hP.sub (ws' := []) [] rfl
          have hD9 := hD.sub (ws' := []) [] (by decide) rfl
          exact q_reti () hx hb hr hlocks hK hP9 hD9 hS (Nat.le_of_ble_eq_true rfl) (Nat.le_of_ble_eq_true rfl) (rfl) dX9_left_113
        · exact absurd c_8 (by decide)
      · exact absurd c_6 (by decide)
    · exact absurd c_4 (by decide)
  · refine lv_iconst (v := 1) hx hb dX9_left_15 (by decide) ?_
    refine lv_goto (tgt := 20) hx hb dX9_left_16 (by decide) ?_
    refine lv_istore (lv' := [(5, .int 1), (0, .ref h0), (1, .int x1), (2, .int y1), (3, .int x2), (4, .int y2)]) hx hb dX9_left_20 hl (by decide) rfl (fun ls hl => ?_)
    refine lv_iload hx hb dX9_left_22 (lv_at hl 0 rfl) ?_
    refine lv_if_eq (tgt := 39) hx hb dX9_left_24 (by decide) (fun c_9 => ?_) (fun c_9 => ?_)
    · exact absurd c_9 (by decide)
    · refine lv_aload_n hx hb dX9_left_27 rfl (lv_at hl 1 rfl) ?_
      refine lv_iload_n hx hb dX9_left_28 rfl (lv_at hl 4 rfl) ?_
      refine lv_iload hx hb dX9_left_29 (lv_at hl 5 rfl) ?_
      refine lv_iload_n hx hb dX9_left_31 rfl (lv_at hl 2 rfl) ?_
      refine lv_iload_n hx hb dX9_left_32 rfl (lv_at hl 3 rfl) ?_
      refine q_i (wr := [(nt, .inr (5, [.ref knx_1, .ref kny_1, .int 0, .ref knl_1, .ref knh_1, .int 0, .ref knb_1, .ref kno_1, .ref knr_1, .ref knd_1, .ref kna_1, .ref kns_1, .ref knf_1, .int 0, .ref knp_1, .int 1, .ref knq_1]))]) (q_runV (As := [.int x2, .int y2, .int x1, .int y1]) (rest := []) ⟨hx, hb, hml, hown, hts⟩ (c_X9_from l D aI aL aZ h0 en nt pl 1 x2 y2 x1 y1 _) (cwV 4 hts g_X9_left_X9_from_72 rfl rfl rfl (by decide +kernel) ⟨Nat.le_of_ble_eq_true rfl, Nat.le_of_ble_eq_true rfl⟩) hK hN hP hD [0] rfl (by decide) rfl rfl rfl hl.1 rfl (Nat.le_of_ble_eq_true rfl) dX9_left_33 ⟨Nat.le_of_ble_eq_true rfl, Nat.le_of_ble_eq_true rfl⟩) hP hD hS hA [0] [1] rfl rfl (by decide) (by decide) (fun r_10 u_10 H locs hw hP hD hS => ?_)
      subst hw
      have hP : va_P D q_cl [(nt, .inr (5, [.ref knx_1, .ref kny_1, .int 0, .ref knl_1, .ref knh_1, .int 0, .ref knb_1, .ref kno_1, .ref knr_1, .ref knd_1, .ref kna_1, .ref kns_1, .ref knf_1, .int 0, .ref knp_1, .int 1, .ref knq_1])), (h0, .inr (7, [.ref en, .int 0, .ref nt, .ref pl, .int 1]))] H := hP
      have hD : va_D A [(nt, .inr (5, [.ref knx_1, .ref kny_1, .int 0, .ref knl_1, .ref knh_1, .int 0, .ref knb_1, .ref kno_1, .ref knr_1, .ref knd_1, .ref kna_1, .ref kns_1, .ref knf_1, .int 0, .ref knp_1, .int 1, .ref knq_1])), (h0, .inr (7, [.ref en, .int 0, .ref nt, .ref pl, .int 1]))] := hD
      refine lv_goto (tgt := 48) hx hb dX9_left_36 (by decide) ?_
      refine lv_istore (lv' := [(6, .int 0), (5, .int 1), (0, .ref h0), (1, .int x1), (2, .int y1), (3, .int x2), (4, .int y2)]) hx hb dX9_left_48 hl (by decide) rfl (fun ls hl => ?_)
      refine lv_iload hx hb dX9_left_50 (lv_at hl 1 rfl) ?_
      refine lv_if_eq (tgt := 69) hx hb dX9_left_52 (by decide) (fun c_11 => ?_) (fun c_11 => ?_)
      · exact absurd c_11 (by decide)
      · refine lv_aload_n hx hb dX9_left_55 rfl (lv_at hl 2 rfl) ?_
        refine lv_iload hx hb dX9_left_56 (lv_at hl 0 rfl) ?_
        refine lv_iload_n hx hb dX9_left_58 rfl (lv_at hl 5 rfl) ?_
        refine lv_iload hx hb dX9_left_59 (lv_at hl 6 rfl) ?_
        refine lv_iload_n hx hb dX9_left_61 rfl (lv_at hl 3 rfl) ?_
        refine lv_iload_n hx hb dX9_left_62 rfl (lv_at hl 4 rfl) ?_
        refine q_i (wr := [(nt, .inr (5, [.ref knx_1, .ref kny_1, .int 0, .ref knl_1, .ref knh_1, .int 0, .ref knb_1, .ref kno_1, .ref knr_1, .ref knd_1, .ref kna_1, .ref kns_1, .ref knf_1, .int 0, .ref knp_1, .int 1, .ref knq_1]))]) (q_runV (As := [.int 0, .int x2, .int y2, .int x1, .int y1]) (rest := []) ⟨hx, hb, hml, hown, hts⟩ (c_X9_isAt l D aI aL aZ h0 en nt pl 1 x2 y2 x1 y1 _) (cwV 5 hts g_X9_left_X9_isAt_75 rfl rfl rfl (by decide +kernel) ⟨Nat.le_of_ble_eq_true rfl, Nat.le_of_ble_eq_true rfl⟩) hK hN hP hD [1] rfl (by decide) rfl rfl rfl hl.1 rfl (Nat.le_of_ble_eq_true rfl) dX9_left_63 ⟨Nat.le_of_ble_eq_true rfl, Nat.le_of_ble_eq_true rfl⟩) hP hD hS hA [1] [0] rfl rfl (by decide) (by decide) (fun r_12 u_12 H locs hw hP hD hS => ?_)
        subst hw
        have hP : va_P D q_cl [(nt, .inr (5, [.ref knx_1, .ref kny_1, .int 0, .ref knl_1, .ref knh_1, .int 0, .ref knb_1, .ref kno_1, .ref knr_1, .ref knd_1, .ref kna_1, .ref kns_1, .ref knf_1, .int 0, .ref knp_1, .int 1, .ref knq_1])), (h0, .inr (7, [.ref en, .int 0, .ref nt, .ref pl, .int 1]))] H := hP
        have hD : va_D A [(nt, .inr (5, [.ref knx_1, .ref kny_1, .int 0, .ref knl_1, .ref knh_1, .int 0, .ref knb_1, .ref kno_1, .ref knr_1, .ref knd_1, .ref kna_1, .ref kns_1, .ref knf_1, .int 0, .ref knp_1, .int 1, .ref knq_1])), (h0, .inr (7, [.ref en, .int 0, .ref nt, .ref pl, .int 1]))] := hD
        refine lv_goto (tgt := 80) hx hb dX9_left_66 (by decide) ?_
        refine lv_istore (lv' := [(7, .int 0), (6, .int 0), (5, .int 1), (0, .ref h0), (1, .int x1), (2, .int y1), (3, .int x2), (4, .int y2)]) hx hb dX9_left_80 hl (by decide) rfl (fun ls hl => ?_)
        refine lv_iload hx hb dX9_left_82 (lv_at hl 0 rfl) ?_
        refine lv_if_eq (tgt := 112) hx hb dX9_left_84 (by decide) (fun c_13 => ?_) (fun c_13 => ?_)
        · refine lv_iconst (v := (-1)) hx hb dX9_left_112 (by decide) ?_
          have hP9 := hP.sub (ws' := []) [] rfl
          have hD9 := hD.sub (ws' := []) [] (by decide) rfl
          exact q_reti () hx hb hr hlocks hK hP9 hD9 hS (Nat.le_of_ble_eq_true rfl) (Nat.le_of_ble_eq_true rfl) (rfl) dX9_left_113
        · exact absurd c_13 (by decide)
def vsX9_face : List Cond := .code yX9_face cX9_face 4 (some .int) :: ([.fieldLink RX9 41 "FaceMapModel" "net" "LFaceMapModel$Net;", .methodLink RX9 135 yX9_build, .instanceMethod yX9_build, .selects RX9 yX9_build yX9_build, .initialized RX9, .code yX9_build cX9_build 2 none, .fieldLink RX9 82 "FaceMapModel" "isBuilt" "Z", .fieldLink RX9 48 "FaceMapModel" "nodes" "LFaceMapModel$Places;", .fieldLink RX9 54 "FaceMapModel" "count" "I", .fieldLink RX9 103 "FaceMapModel$Places" "size" "I", .fieldLink RX9 106 "FaceMapModel$Net" "nodes" "I", .fieldLink RX9 108 "FaceMapModel$Net" "pieces" "I", .methodLink RX9 90 yX8_clear, .instanceMethod yX8_clear, .selects RX8 yX8_clear yX8_clear, .initialized RX8, .code yX8_clear cX8_clear 1 none, .fieldLink RX8 13 "FaceMapModel$Places" "size" "I", .methodLink RX9 97 yX8_sort, .instanceMethod yX8_sort, .selects RX8 yX8_sort yX8_sort, .code yX8_sort cX8_sort 4 none, .methodLink RX9 100 yX7_room, .instanceMethod yX7_room, .selects RX7 yX7_room yX7_room, .initialized RX7, .code yX7_room cX7_room 3 none, .fieldLink RX7 7 "FaceMapModel$Net" "x" "[I", .arrayClass .int, .fieldLink RX7 13 "FaceMapModel$Net" "y" "[I", .fieldLink RX7 22 "FaceMapModel$Net" "begins" "[I", .fieldLink RX7 44 "FaceMapModel$Net" "part" "[I", .fieldLink RX7 16 "FaceMapModel$Net" "low" "[I", .fieldLink RX7 19 "FaceMapModel$Net" "high" "[I", .fieldLink RX7 25 "FaceMapModel$Net" "out" "[I", .fieldLink RX7 28 "FaceMapModel$Net" "rank" "[I", .fieldLink RX7 31 "FaceMapModel$Net" "round" "[I", .arrayClass .long, .fieldLink RX7 34 "FaceMapModel$Net" "area" "[J", .fieldLink RX7 38 "FaceMapModel$Net" "least" "[I", .fieldLink RX7 41 "FaceMapModel$Net" "faceOf" "[I", .arrayClass .boolean, .fieldLink RX7 47 "FaceMapModel$Net" "odd" "[Z", .methodLink RX9 132 yX7_build, .instanceMethod yX7_build, .selects RX7 yX7_build yX7_build, .code yX7_build cX7_build 2 none, .fieldLink RX7 67 "FaceMapModel$Net" "nodes" "I", .fieldLink RX7 71 "FaceMapModel$Net" "pieces" "I", .fieldLink RX7 87 "FaceMapModel$Net" "rounds" "I", .methodLink RX7 81 yX7_sortOut, .instanceMethod yX7_sortOut, .selects RX7 yX7_sortOut yX7_sortOut, .code yX7_sortOut cX7_sortOut 6 none, .methodLink RX7 94 yX7_number, .instanceMethod yX7_number, .selects RX7 yX7_number yX7_number, .code yX7_number cX7_number 5 none, .fieldLink RX7 107 "FaceMapModel$Net" "faces" "I", .methodLink RX9 150 yX9_isFace, .instanceMethod yX9_isFace, .selects RX9 yX9_isFace yX9_isFace, .code yX9_isFace cX9_isFace 2 (some .boolean), .fieldLink RX9 136 "FaceMapModel$Net" "faces" "I", .methodLink RX9 160 yX7_keyOf, .instanceMethod yX7_keyOf, .selects RX7 yX7_keyOf yX7_keyOf, .code yX7_keyOf cX7_keyOf 3 (some .int), .methodLink RX9 157 yX7_waysOf, .instanceMethod yX7_waysOf, .selects RX7 yX7_waysOf yX7_waysOf, .code yX7_waysOf cX7_waysOf 4 (some .int), .methodLink RX9 154 yX7_ringsOf, .instanceMethod yX7_ringsOf, .selects RX7 yX7_ringsOf yX7_ringsOf, .code yX7_ringsOf cX7_ringsOf 4 (some .int)] ++ wsX90 ++ wsX80 ++ wsX70)
set_option maxRecDepth 20000 in
theorem g_X9_face_X9_build_135 : GoodIn vsX9_face (wsV RX9 135 RX9 yX9_build vsX9_build) := goodIn_r _ [2, 3, 4, 5, 6, 7, 8, 9, 1, 10, 11, 12, 13, 14, 15, 16, 17, 18, 19, 20, 21, 22, 23, 24, 25, 26, 27, 28, 29, 30, 31, 32, 33, 34, 35, 36, 37, 38, 39, 40, 41, 42, 43, 44, 45, 46, 47, 48, 49, 50, 51, 52, 53, 54, 55, 56, 57, 58, 59, 77, 78, 79, 80, 81, 82, 83, 84, 85, 86, 87, 88, 89, 90, 91, 92, 93, 94, 95, 96, 97, 98, 99, 100] rfl (by decide +kernel)
set_option maxRecDepth 20000 in
theorem g_X9_face_X9_isFace_150 : GoodIn vsX9_face (wsV RX9 150 RX9 yX9_isFace vsX9_isFace) := goodIn_r _ [60, 61, 62, 5, 63, 1, 64, 77, 78, 79, 80, 81, 84, 85, 86, 87, 88, 89, 90, 91, 92, 93, 94, 95, 96, 97, 98, 99, 100] rfl (by decide +kernel)
set_option maxRecDepth 20000 in
theorem n_X9_face_X9 : ∀ w ∈ wsX90, w ∈ vsX9_face := fun _ h => List.mem_cons_of_mem _ (List.mem_append_left _ (List.mem_append_left _ (List.mem_append_right _ h)))
set_option maxRecDepth 20000 in
theorem g_X9_face_X7_keyOf_160 : GoodIn vsX9_face (wsV RX9 160 RX7 yX7_keyOf vsX7_keyOf) := goodIn_r _ [65, 66, 67, 26, 68, 50, 84, 85, 86, 87, 88, 89, 90, 91, 92, 93, 94, 95, 96, 97, 98, 99, 100] rfl (by decide +kernel)
set_option maxRecDepth 20000 in
theorem g_X9_face_X7_waysOf_157 : GoodIn vsX9_face (wsV RX9 157 RX7 yX7_waysOf vsX7_waysOf) := goodIn_r _ [69, 70, 71, 26, 72, 49, 84, 85, 86, 87, 88, 89, 90, 91, 92, 93, 94, 95, 96, 97, 98, 99, 100] rfl (by decide +kernel)
set_option maxRecDepth 20000 in
theorem g_X9_face_X7_ringsOf_154 : GoodIn vsX9_face (wsV RX9 154 RX7 yX7_ringsOf vsX7_ringsOf) := goodIn_r _ [73, 74, 75, 26, 76, 50, 84, 85, 86, 87, 88, 89, 90, 91, 92, 93, 94, 95, 96, 97, 98, 99, 100] rfl (by decide +kernel)
set_option maxHeartbeats 4000000 in
set_option maxRecDepth 100000 in
/-- FaceMapModel.face -/
theorem c_X9_face (l : Launch) (D : va_G) (aI aL aZ : ClassId) (h0 : Nat) (en : Nat) (nt : Nat) (pl : Nat) (row : Nat) (nx : Nat) (ny : Nat) (nl : Nat) (nh : Nat) (nb : Nat) (no : Nat) (nr : Nat) (nd : Nat) (na : Nat) (ns : Nat) (nf : Nat) (np : Nat) (nq : Nat) (fx : Nat → Int32) (fl : Nat → Int32) (x : Int32) (y : Int32) (sz : Nat) : MI l D q_cl (q_ty aI aL aZ) yX9_face vsX9_face 3 13 36005 [.ref h0, .int x, .int y] [(h0, .inr (7, [.ref en, .int 0, .ref nt, .ref pl, .int 0])), (nt, .inr (5, [.ref nx, .ref ny, .int 0, .ref nl, .ref nh, .int 0, .ref nb, .ref no, .ref nr, .ref nd, .ref na, .ref ns, .ref nf, .int 0, .ref np, .int 0, .ref nq])), (nx, .inl (aI, 0, .inl fx)), (nl, .inl (aI, 0, .inl fl)), (pl, .inr (6, [.ref row, .int 0]))] sz (fun (r : Int32) (u : Unit) => r = (fac x y)) (fun (u : Unit) => ([] : va_W)) := by
  refine q_in cX9_face 4 (some .int) (qQi D q_cl (q_ty aI aL aZ) _ _) (by decide) rfl (Nat.le_of_ble_eq_true rfl) ?_
  intro p e s m args below meth c A ls hat hP hD hS hl
  obtain ⟨hx, hb, hr, hts, hown, hlocks, hml, hin, hK, hN, hA⟩ := hat
  have hown : s.vm.findClass RX9 = some m.cls := hown
  have hl : lv_has ls 4 [(0, .ref h0), (1, .int x), (2, .int y)] := hl
  refine lv_aload_n hx hb dX9_face_0 rfl (lv_at hl 0 rfl) ?_
  refine q_v (wr := []) (q_runV (As := []) (rest := []) ⟨hx, hb, hml, hown, hts⟩ (c_X9_build l D aI aL aZ h0 en nt pl row nx ny nl nh nb no nr nd na ns nf np nq fx fl _) (cwV 0 hts g_X9_face_X9_build_135 rfl rfl rfl (by decide +kernel) ⟨Nat.le_of_ble_eq_true rfl, Nat.le_of_ble_eq_true rfl⟩) hK hN hP hD [0, 1, 2, 3, 4] rfl (by decide) rfl rfl rfl hl.1 rfl (Nat.le_of_ble_eq_true rfl) dX9_face_1 ⟨Nat.le_of_ble_eq_true rfl, Nat.le_of_ble_eq_true rfl⟩) hP hD hS hA [0, 1, 2, 3, 4] [] rfl rfl (by decide) (by decide) (fun u_1 H locs hw hP hD hS => ?_)
  obtain ⟨knx_1, kny_1, knl_1, knh_1, knb_1, kno_1, knr_1, knd_1, kna_1, kns_1, knf_1, knp_1, knq_1⟩ := u_1
  have hP : va_P D q_cl [(h0, .inr (7, [.ref en, .int 0, .ref nt, .ref pl, .int 1])), (nt, .inr (5, [.ref knx_1, .ref kny_1, .int 0, .ref knl_1, .ref knh_1, .int 0, .ref knb_1, .ref kno_1, .ref knr_1, .ref knd_1, .ref kna_1, .ref kns_1, .ref knf_1, .int 0, .ref knp_1, .int 1, .ref knq_1]))] H := hP
  have hD : va_D A [(h0, .inr (7, [.ref en, .int 0, .ref nt, .ref pl, .int 1])), (nt, .inr (5, [.ref knx_1, .ref kny_1, .int 0, .ref knl_1, .ref knh_1, .int 0, .ref knb_1, .ref kno_1, .ref knr_1, .ref knd_1, .ref kna_1, .ref kns_1, .ref knf_1, .int 0, .ref knp_1, .int 1, .ref knq_1]))] := hD
  refine lv_aload_n hx hb dX9_face_4 rfl (lv_at hl 0 rfl) ?_
  refine lv_iload_n hx hb dX9_face_5 rfl (lv_at hl 1 rfl) ?_
  refine q_i (wr := []) (q_runV (As := [.int x]) (rest := []) ⟨hx, hb, hml, hown, hts⟩ (c_X9_isFace l D aI aL aZ h0 en nt pl 1 knx_1 kny_1 knl_1 knh_1 knb_1 kno_1 knr_1 knd_1 kna_1 kns_1 knf_1 knp_1 knq_1 x _) (cwV 1 hts g_X9_face_X9_isFace_150 rfl rfl rfl (by decide +kernel) ⟨Nat.le_of_ble_eq_true rfl, Nat.le_of_ble_eq_true rfl⟩) hK hN hP hD [0, 1] rfl (by decide) rfl rfl rfl hl.1 rfl (Nat.le_of_ble_eq_true rfl) dX9_face_6 ⟨Nat.le_of_ble_eq_true rfl, Nat.le_of_ble_eq_true rfl⟩) hP hD hS hA [0, 1] [] rfl rfl (by decide) (by decide) (fun r_2 u_2 H locs hw hP hD hS => ?_)
  rcases hw with ⟨rfl, f2_0⟩ | ⟨rfl, f2_0⟩
  · subst f2_0
    have hP : va_P D q_cl [(h0, .inr (7, [.ref en, .int 0, .ref nt, .ref pl, .int 1])), (nt, .inr (5, [.ref knx_1, .ref kny_1, .int 0, .ref knl_1, .ref knh_1, .int 0, .ref knb_1, .ref kno_1, .ref knr_1, .ref knd_1, .ref kna_1, .ref kns_1, .ref knf_1, .int 0, .ref knp_1, .int 1, .ref knq_1]))] H := hP
    have hD : va_D A [(h0, .inr (7, [.ref en, .int 0, .ref nt, .ref pl, .int 1])), (nt, .inr (5, [.ref knx_1, .ref kny_1, .int 0, .ref knl_1, .ref knh_1, .int 0, .ref knb_1, .ref kno_1, .ref knr_1, .ref knd_1, .ref kna_1, .ref kns_1, .ref knf_1, .int 0, .ref knp_1, .int 1, .ref knq_1]))] := hD
    refine lv_if_eq (tgt := 21) hx hb dX9_face_9 (by decide) (fun c_3 => ?_) (fun c_3 => ?_)
    · exact absurd c_3 (by decide)
    · refine lv_iload_n hx hb dX9_face_12 rfl (lv_at hl 2 rfl) ?_
      refine lv_if_lt (tgt := 21) hx hb dX9_face_13 (by decide) (fun c_4 => ?_) (fun c_4 => ?_)
      · refine lv_iconst (v := (-1)) hx hb dX9_face_21 (by decide) ?_
        have hP9 := hP.sub (ws' := []) [] rfl
        have hD9 := hD.sub (ws' := []) [] (by decide) rfl
        exact q_reti () hx hb hr hlocks hK hP9 hD9 hS (Nat.le_of_ble_eq_true rfl) (Nat.le_of_ble_eq_true rfl) ((by first | exact fac_n (by assumption) | exact fac_lt (by assumption) | exact fac_gt (by assumption) | exact fac_0 (by assumption) | exact fac_1 (by assumption) | exact fac_o (by assumption) (by assumption))) dX9_face_22
      · refine lv_iload_n hx hb dX9_face_16 rfl (lv_at hl 2 rfl) ?_
        refine lv_iconst (v := 3) hx hb dX9_face_17 (by decide) ?_
        refine lv_icmp_le (tgt := 23) hx hb dX9_face_18 (by decide) (fun c_5 => ?_) (fun c_5 => ?_)
        · refine lv_iload_n hx hb dX9_face_23 rfl (lv_at hl 2 rfl) ?_
          refine lv_if_ne (tgt := 36) hx hb dX9_face_24 (by decide) (fun c_6 => ?_) (fun c_6 => ?_)
          · refine lv_iload_n hx hb dX9_face_36 rfl (lv_at hl 2 rfl) ?_
            refine lv_iconst (v := 1) hx hb dX9_face_37 (by decide) ?_
            refine lv_icmp_ne (tgt := 50) hx hb dX9_face_38 (by decide) (fun c_7 => ?_) (fun c_7 => ?_)
            · refine lv_aload_n hx hb dX9_face_50 rfl (lv_at hl 0 rfl) ?_
              refine va_get (D := D) (ci := 7) (v := .ref nt) (C := RX9) (T := TX9) (N := 5) hx hb hts n_X9_face_X9 hown hK hP 0 rfl rfl 2 (by decide) (hts (.fieldLink RX9 41 "FaceMapModel" "net" "LFaceMapModel$Net;") (List.mem_of_getElem? (i := 1) rfl)) (fun _ h9 => h9) rfl dX9_face_51 ?_
              refine lv_iload_n hx hb dX9_face_54 rfl (lv_at hl 1 rfl) ?_
              refine q_i (wr := [(h0, .inr (7, [.ref en, .int 0, .ref nt, .ref pl, .int 1]))]) (q_runV (As := [.int 0]) (rest := []) ⟨hx, hb, hml, hown, hts⟩ (c_X7_keyOf l D aI aL aZ nt knx_1 kny_1 knl_1 knh_1 knb_1 kno_1 knr_1 knd_1 kna_1 kns_1 knf_1 knp_1 knq_1 0 _) (cwV 1 hts g_X9_face_X7_keyOf_160 rfl rfl rfl (by decide +kernel) ⟨Nat.le_of_ble_eq_true rfl, Nat.le_of_ble_eq_true rfl⟩) hK hN hP hD [1] rfl (by decide) rfl rfl rfl hl.1 rfl (Nat.le_of_ble_eq_true rfl) dX9_face_55 ⟨Nat.le_of_ble_eq_true rfl, Nat.le_of_ble_eq_true rfl⟩) hP hD hS hA [1] [0] rfl rfl (by decide) (by decide) (fun r_8 u_8 H locs hw hP hD hS => ?_)
              subst hw
              have hP : va_P D q_cl [(h0, .inr (7, [.ref en, .int 0, .ref nt, .ref pl, .int 1])), (nt, .inr (5, [.ref knx_1, .ref kny_1, .int 0, .ref knl_1, .ref knh_1, .int 0, .ref knb_1, .ref kno_1, .ref knr_1, .ref knd_1, .ref kna_1, .ref kns_1, .ref knf_1, .int 0, .ref knp_1, .int 1, .ref knq_1]))] H := hP
              have hD : va_D A [(h0, .inr (7, [.ref en, .int 0, .ref nt, .ref pl, .int 1])), (nt, .inr (5, [.ref knx_1, .ref kny_1, .int 0, .ref knl_1, .ref knh_1, .int 0, .ref knb_1, .ref kno_1, .ref knr_1, .ref knd_1, .ref kna_1, .ref kns_1, .ref knf_1, .int 0, .ref knp_1, .int 1, .ref knq_1]))] := hD
              refine lv_istore_n (lv' := [(3, .int (-1)), (0, .ref h0), (1, .int 0), (2, .int y)]) hx hb dX9_face_58 rfl hl (by decide) rfl (fun ls hl => ?_)
              refine lv_iload_n hx hb dX9_face_59 rfl (lv_at hl 0 rfl) ?_
              refine lv_if_ge (tgt := 67) hx hb dX9_face_60 (by decide) (fun c_9 => ?_) (fun c_9 => ?_)
              · exact absurd c_9 (by decide)
              · refine lv_iconst (v := (-1)) hx hb dX9_face_63 (by decide) ?_
                refine lv_goto (tgt := 91) hx hb dX9_face_64 (by decide) ?_
                have hP9 := hP.sub (ws' := []) [] rfl
                have hD9 := hD.sub (ws' := []) [] (by decide) rfl
                exact q_reti () hx hb hr hlocks hK hP9 hD9 hS (Nat.le_of_ble_eq_true rfl) (Nat.le_of_ble_eq_true rfl) ((by first | exact fac_n (by assumption) | exact fac_lt (by assumption) | exact fac_gt (by assumption) | exact fac_0 (by assumption) | exact fac_1 (by assumption) | exact fac_o (by assumption) (by assumption))) dX9_face_91
            · refine lv_aload_n hx hb dX9_face_41 rfl (lv_at hl 0 rfl) ?_
              refine va_get (D := D) (ci := 7) (v := .ref nt) (C := RX9) (T := TX9) (N := 5) hx hb hts n_X9_face_X9 hown hK hP 0 rfl rfl 2 (by decide) (hts (.fieldLink RX9 41 "FaceMapModel" "net" "LFaceMapModel$Net;") (List.mem_of_getElem? (i := 1) rfl)) (fun _ h9 => h9) rfl dX9_face_42 ?_
              refine lv_iload_n hx hb dX9_face_45 rfl (lv_at hl 1 rfl) ?_
              refine q_i (wr := [(h0, .inr (7, [.ref en, .int 0, .ref nt, .ref pl, .int 1]))]) (q_runV (As := [.int 0]) (rest := []) ⟨hx, hb, hml, hown, hts⟩ (c_X7_waysOf l D aI aL aZ nt knx_1 kny_1 knl_1 knh_1 knb_1 kno_1 knr_1 knd_1 kna_1 kns_1 knf_1 knp_1 knq_1 0 _) (cwV 1 hts g_X9_face_X7_waysOf_157 rfl rfl rfl (by decide +kernel) ⟨Nat.le_of_ble_eq_true rfl, Nat.le_of_ble_eq_true rfl⟩) hK hN hP hD [1] rfl (by decide) rfl rfl rfl hl.1 rfl (Nat.le_of_ble_eq_true rfl) dX9_face_46 ⟨Nat.le_of_ble_eq_true rfl, Nat.le_of_ble_eq_true rfl⟩) hP hD hS hA [1] [0] rfl rfl (by decide) (by decide) (fun r_10 u_10 H locs hw hP hD hS => ?_)
              subst hw
              have hP : va_P D q_cl [(h0, .inr (7, [.ref en, .int 0, .ref nt, .ref pl, .int 1])), (nt, .inr (5, [.ref knx_1, .ref kny_1, .int 0, .ref knl_1, .ref knh_1, .int 0, .ref knb_1, .ref kno_1, .ref knr_1, .ref knd_1, .ref kna_1, .ref kns_1, .ref knf_1, .int 0, .ref knp_1, .int 1, .ref knq_1]))] H := hP
              have hD : va_D A [(h0, .inr (7, [.ref en, .int 0, .ref nt, .ref pl, .int 1])), (nt, .inr (5, [.ref knx_1, .ref kny_1, .int 0, .ref knl_1, .ref knh_1, .int 0, .ref knb_1, .ref kno_1, .ref knr_1, .ref knd_1, .ref kna_1, .ref kns_1, .ref knf_1, .int 0, .ref knp_1, .int 1, .ref knq_1]))] := hD
              have hP9 := hP.sub (ws' := []) [] rfl
              have hD9 := hD.sub (ws' := []) [] (by decide) rfl
              exact q_reti () hx hb hr hlocks hK hP9 hD9 hS (Nat.le_of_ble_eq_true rfl) (Nat.le_of_ble_eq_true rfl) ((by first | exact fac_n (by assumption) | exact fac_lt (by assumption) | exact fac_gt (by assumption) | exact fac_0 (by assumption) | exact fac_1 (by assumption) | exact fac_o (by assumption) (by assumption))) dX9_face_49
          · refine lv_aload_n hx hb dX9_face_27 rfl (lv_at hl 0 rfl) ?_
            refine va_get (D := D) (ci := 7) (v := .ref nt) (C := RX9) (T := TX9) (N := 5) hx hb hts n_X9_face_X9 hown hK hP 0 rfl rfl 2 (by decide) (hts (.fieldLink RX9 41 "FaceMapModel" "net" "LFaceMapModel$Net;") (List.mem_of_getElem? (i := 1) rfl)) (fun _ h9 => h9) rfl dX9_face_28 ?_
            refine lv_iload_n hx hb dX9_face_31 rfl (lv_at hl 1 rfl) ?_
            refine q_i (wr := [(h0, .inr (7, [.ref en, .int 0, .ref nt, .ref pl, .int 1]))]) (q_runV (As := [.int 0]) (rest := []) ⟨hx, hb, hml, hown, hts⟩ (c_X7_ringsOf l D aI aL aZ nt knx_1 kny_1 knl_1 knh_1 knb_1 kno_1 knr_1 knd_1 kna_1 kns_1 knf_1 knp_1 knq_1 0 _) (cwV 1 hts g_X9_face_X7_ringsOf_154 rfl rfl rfl (by decide +kernel) ⟨Nat.le_of_ble_eq_true rfl, Nat.le_of_ble_eq_true rfl⟩) hK hN hP hD [1] rfl (by decide) rfl rfl rfl hl.1 rfl (Nat.le_of_ble_eq_true rfl) dX9_face_32 ⟨Nat.le_of_ble_eq_true rfl, Nat.le_of_ble_eq_true rfl⟩) hP hD hS hA [1] [0] rfl rfl (by decide) (by decide) (fun r_11 u_11 H locs hw hP hD hS => ?_)
            subst hw
            have hP : va_P D q_cl [(h0, .inr (7, [.ref en, .int 0, .ref nt, .ref pl, .int 1])), (nt, .inr (5, [.ref knx_1, .ref kny_1, .int 0, .ref knl_1, .ref knh_1, .int 0, .ref knb_1, .ref kno_1, .ref knr_1, .ref knd_1, .ref kna_1, .ref kns_1, .ref knf_1, .int 0, .ref knp_1, .int 1, .ref knq_1]))] H := hP
            have hD : va_D A [(h0, .inr (7, [.ref en, .int 0, .ref nt, .ref pl, .int 1])), (nt, .inr (5, [.ref knx_1, .ref kny_1, .int 0, .ref knl_1, .ref knh_1, .int 0, .ref knb_1, .ref kno_1, .ref knr_1, .ref knd_1, .ref kna_1, .ref kns_1, .ref knf_1, .int 0, .ref knp_1, .int 1, .ref knq_1]))] := hD
            have hP9 := hP.sub (ws' := []) [] rfl
            have hD9 := hD.sub (ws' := []) [] (by decide) rfl
            exact q_reti () hx hb hr hlocks hK hP9 hD9 hS (Nat.le_of_ble_eq_true rfl) (Nat.le_of_ble_eq_true rfl) ((by first | exact fac_n (by assumption) | exact fac_lt (by assumption) | exact fac_gt (by assumption) | exact fac_0 (by assumption) | exact fac_1 (by assumption) | exact fac_o (by assumption) (by assumption))) dX9_face_35
        · refine lv_iconst (v := (-1)) hx hb dX9_face_21 (by decide) ?_
          have hP9 := hP.sub (ws' := []) [] rfl
          have hD9 := hD.sub (ws' := []) [] (by decide) rfl
          exact q_reti () hx hb hr hlocks hK hP9 hD9 hS (Nat.le_of_ble_eq_true rfl) (Nat.le_of_ble_eq_true rfl) ((by first | exact fac_n (by assumption) | exact fac_lt (by assumption) | exact fac_gt (by assumption) | exact fac_0 (by assumption) | exact fac_1 (by assumption) | exact fac_o (by assumption) (by assumption))) dX9_face_22
  · have hP : va_P D q_cl [(h0, .inr (7, [.ref en, .int 0, .ref nt, .ref pl, .int 1])), (nt, .inr (5, [.ref knx_1, .ref kny_1, .int 0, .ref knl_1, .ref knh_1, .int 0, .ref knb_1, .ref kno_1, .ref knr_1, .ref knd_1, .ref kna_1, .ref kns_1, .ref knf_1, .int 0, .ref knp_1, .int 1, .ref knq_1]))] H := hP
    have hD : va_D A [(h0, .inr (7, [.ref en, .int 0, .ref nt, .ref pl, .int 1])), (nt, .inr (5, [.ref knx_1, .ref kny_1, .int 0, .ref knl_1, .ref knh_1, .int 0, .ref knb_1, .ref kno_1, .ref knr_1, .ref knd_1, .ref kna_1, .ref kns_1, .ref knf_1, .int 0, .ref knp_1, .int 1, .ref knq_1]))] := hD
    refine lv_if_eq (tgt := 21) hx hb dX9_face_9 (by decide) (fun c_12 => ?_) (fun c_12 => ?_)
    · refine lv_iconst (v := (-1)) hx hb dX9_face_21 (by decide) ?_
      have hP9 := hP.sub (ws' := []) [] rfl
      have hD9 := hD.sub (ws' := []) [] (by decide) rfl
      exact q_reti () hx hb hr hlocks hK hP9 hD9 hS (Nat.le_of_ble_eq_true rfl) (Nat.le_of_ble_eq_true rfl) ((by first | exact fac_n (by assumption) | exact fac_lt (by assumption) | exact fac_gt (by assumption) | exact fac_0 (by assumption) | exact fac_1 (by assumption) | exact fac_o (by assumption) (by assumption))) dX9_face_22
    · exact absurd c_12 (by decide)
def vsX9_area2 : List Cond := .code yX9_area2 cX9_area2 2 (some .long) :: ([.methodLink RX9 135 yX9_build, .instanceMethod yX9_build, .selects RX9 yX9_build yX9_build, .initialized RX9, .code yX9_build cX9_build 2 none, .fieldLink RX9 82 "FaceMapModel" "isBuilt" "Z", .fieldLink RX9 48 "FaceMapModel" "nodes" "LFaceMapModel$Places;", .fieldLink RX9 54 "FaceMapModel" "count" "I", .fieldLink RX9 41 "FaceMapModel" "net" "LFaceMapModel$Net;", .fieldLink RX9 103 "FaceMapModel$Places" "size" "I", .fieldLink RX9 106 "FaceMapModel$Net" "nodes" "I", .fieldLink RX9 108 "FaceMapModel$Net" "pieces" "I", .methodLink RX9 90 yX8_clear, .instanceMethod yX8_clear, .selects RX8 yX8_clear yX8_clear, .initialized RX8, .code yX8_clear cX8_clear 1 none, .fieldLink RX8 13 "FaceMapModel$Places" "size" "I", .methodLink RX9 97 yX8_sort, .instanceMethod yX8_sort, .selects RX8 yX8_sort yX8_sort, .code yX8_sort cX8_sort 4 none, .methodLink RX9 100 yX7_room, .instanceMethod yX7_room, .selects RX7 yX7_room yX7_room, .initialized RX7, .code yX7_room cX7_room 3 none, .fieldLink RX7 7 "FaceMapModel$Net" "x" "[I", .arrayClass .int, .fieldLink RX7 13 "FaceMapModel$Net" "y" "[I", .fieldLink RX7 22 "FaceMapModel$Net" "begins" "[I", .fieldLink RX7 44 "FaceMapModel$Net" "part" "[I", .fieldLink RX7 16 "FaceMapModel$Net" "low" "[I", .fieldLink RX7 19 "FaceMapModel$Net" "high" "[I", .fieldLink RX7 25 "FaceMapModel$Net" "out" "[I", .fieldLink RX7 28 "FaceMapModel$Net" "rank" "[I", .fieldLink RX7 31 "FaceMapModel$Net" "round" "[I", .arrayClass .long, .fieldLink RX7 34 "FaceMapModel$Net" "area" "[J", .fieldLink RX7 38 "FaceMapModel$Net" "least" "[I", .fieldLink RX7 41 "FaceMapModel$Net" "faceOf" "[I", .arrayClass .boolean, .fieldLink RX7 47 "FaceMapModel$Net" "odd" "[Z", .methodLink RX9 132 yX7_build, .instanceMethod yX7_build, .selects RX7 yX7_build yX7_build, .code yX7_build cX7_build 2 none, .fieldLink RX7 67 "FaceMapModel$Net" "nodes" "I", .fieldLink RX7 71 "FaceMapModel$Net" "pieces" "I", .fieldLink RX7 87 "FaceMapModel$Net" "rounds" "I", .methodLink RX7 81 yX7_sortOut, .instanceMethod yX7_sortOut, .selects RX7 yX7_sortOut yX7_sortOut, .code yX7_sortOut cX7_sortOut 6 none, .methodLink RX7 94 yX7_number, .instanceMethod yX7_number, .selects RX7 yX7_number yX7_number, .code yX7_number cX7_number 5 none, .fieldLink RX7 107 "FaceMapModel$Net" "faces" "I", .methodLink RX9 150 yX9_isFace, .instanceMethod yX9_isFace, .selects RX9 yX9_isFace yX9_isFace, .code yX9_isFace cX9_isFace 2 (some .boolean), .fieldLink RX9 136 "FaceMapModel$Net" "faces" "I"] ++ wsX90 ++ wsX80 ++ wsX70)
set_option maxRecDepth 20000 in
theorem g_X9_area2_X9_build_135 : GoodIn vsX9_area2 (wsV RX9 135 RX9 yX9_build vsX9_build) := goodIn_r _ [1, 2, 3, 4, 5, 6, 7, 8, 9, 10, 11, 12, 13, 14, 15, 16, 17, 18, 19, 20, 21, 22, 23, 24, 25, 26, 27, 28, 29, 30, 31, 32, 33, 34, 35, 36, 37, 38, 39, 40, 41, 42, 43, 44, 45, 46, 47, 48, 49, 50, 51, 52, 53, 54, 55, 56, 57, 58, 59, 65, 66, 67, 68, 69, 70, 71, 72, 73, 74, 75, 76, 77, 78, 79, 80, 81, 82, 83, 84, 85, 86, 87, 88] rfl (by decide +kernel)
set_option maxRecDepth 20000 in
theorem g_X9_area2_X9_isFace_150 : GoodIn vsX9_area2 (wsV RX9 150 RX9 yX9_isFace vsX9_isFace) := goodIn_r _ [60, 61, 62, 4, 63, 9, 64, 65, 66, 67, 68, 69, 72, 73, 74, 75, 76, 77, 78, 79, 80, 81, 82, 83, 84, 85, 86, 87, 88] rfl (by decide +kernel)
set_option maxHeartbeats 4000000 in
set_option maxRecDepth 100000 in
/-- FaceMapModel.area2 -/
theorem c_X9_area2 (l : Launch) (D : va_G) (aI aL aZ : ClassId) (h0 : Nat) (en : Nat) (nt : Nat) (pl : Nat) (row : Nat) (nx : Nat) (ny : Nat) (nl : Nat) (nh : Nat) (nb : Nat) (no : Nat) (nr : Nat) (nd : Nat) (na : Nat) (ns : Nat) (nf : Nat) (np : Nat) (nq : Nat) (fx : Nat → Int32) (fl : Nat → Int32) (x : Int32) (sz : Nat) : ML l D q_cl (q_ty aI aL aZ) yX9_area2 vsX9_area2 3 13 36005 [.ref h0, .int x] [(h0, .inr (7, [.ref en, .int 0, .ref nt, .ref pl, .int 0])), (nt, .inr (5, [.ref nx, .ref ny, .int 0, .ref nl, .ref nh, .int 0, .ref nb, .ref no, .ref nr, .ref nd, .ref na, .ref ns, .ref nf, .int 0, .ref np, .int 0, .ref nq])), (nx, .inl (aI, 0, .inl fx)), (nl, .inl (aI, 0, .inl fl)), (pl, .inr (6, [.ref row, .int 0]))] sz (fun (r : Int64) (u : Unit) => r = 0) (fun (u : Unit) => ([] : va_W)) := by
  refine q_in cX9_area2 2 (some .long) (qQl D q_cl (q_ty aI aL aZ) _ _) (by decide) rfl (Nat.le_of_ble_eq_true rfl) ?_
  intro p e s m args below meth c A ls hat hP hD hS hl
  obtain ⟨hx, hb, hr, hts, hown, hlocks, hml, hin, hK, hN, hA⟩ := hat
  have hown : s.vm.findClass RX9 = some m.cls := hown
  have hl : lv_has ls 2 [(0, .ref h0), (1, .int x)] := hl
  refine lv_aload_n hx hb dX9_area2_0 rfl (lv_at hl 0 rfl) ?_
  refine q_v (wr := []) (q_runV (As := []) (rest := []) ⟨hx, hb, hml, hown, hts⟩ (c_X9_build l D aI aL aZ h0 en nt pl row nx ny nl nh nb no nr nd na ns nf np nq fx fl _) (cwV 0 hts g_X9_area2_X9_build_135 rfl rfl rfl (by decide +kernel) ⟨Nat.le_of_ble_eq_true rfl, Nat.le_of_ble_eq_true rfl⟩) hK hN hP hD [0, 1, 2, 3, 4] rfl (by decide) rfl rfl rfl hl.1 rfl (Nat.le_of_ble_eq_true rfl) dX9_area2_1 ⟨Nat.le_of_ble_eq_true rfl, Nat.le_of_ble_eq_true rfl⟩) hP hD hS hA [0, 1, 2, 3, 4] [] rfl rfl (by decide) (by decide) (fun u_1 H locs hw hP hD hS => ?_)
  obtain ⟨knx_1, kny_1, knl_1, knh_1, knb_1, kno_1, knr_1, knd_1, kna_1, kns_1, knf_1, knp_1, knq_1⟩ := u_1
  have hP : va_P D q_cl [(h0, .inr (7, [.ref en, .int 0, .ref nt, .ref pl, .int 1])), (nt, .inr (5, [.ref knx_1, .ref kny_1, .int 0, .ref knl_1, .ref knh_1, .int 0, .ref knb_1, .ref kno_1, .ref knr_1, .ref knd_1, .ref kna_1, .ref kns_1, .ref knf_1, .int 0, .ref knp_1, .int 1, .ref knq_1]))] H := hP
  have hD : va_D A [(h0, .inr (7, [.ref en, .int 0, .ref nt, .ref pl, .int 1])), (nt, .inr (5, [.ref knx_1, .ref kny_1, .int 0, .ref knl_1, .ref knh_1, .int 0, .ref knb_1, .ref kno_1, .ref knr_1, .ref knd_1, .ref kna_1, .ref kns_1, .ref knf_1, .int 0, .ref knp_1, .int 1, .ref knq_1]))] := hD
  refine lv_iload_n hx hb dX9_area2_4 rfl (lv_at hl 1 rfl) ?_
  refine lv_if_le (tgt := 27) hx hb dX9_area2_5 (by decide) (fun c_2 => ?_) (fun c_2 => ?_)
  · refine lv_lconst (v := 0) hx hb dX9_area2_27 (by decide) ?_
    have hP9 := hP.sub (ws' := []) [] rfl
    have hD9 := hD.sub (ws' := []) [] (by decide) rfl
    exact q_retl () hx hb hr hlocks hK hP9 hD9 hS (Nat.le_of_ble_eq_true rfl) (Nat.le_of_ble_eq_true rfl) (rfl) dX9_area2_28
  · refine lv_aload_n hx hb dX9_area2_8 rfl (lv_at hl 0 rfl) ?_
    refine lv_iload_n hx hb dX9_area2_9 rfl (lv_at hl 1 rfl) ?_
    refine q_i (wr := []) (q_runV (As := [.int x]) (rest := []) ⟨hx, hb, hml, hown, hts⟩ (c_X9_isFace l D aI aL aZ h0 en nt pl 1 knx_1 kny_1 knl_1 knh_1 knb_1 kno_1 knr_1 knd_1 kna_1 kns_1 knf_1 knp_1 knq_1 x _) (cwV 1 hts g_X9_area2_X9_isFace_150 rfl rfl rfl (by decide +kernel) ⟨Nat.le_of_ble_eq_true rfl, Nat.le_of_ble_eq_true rfl⟩) hK hN hP hD [0, 1] rfl (by decide) rfl rfl rfl hl.1 rfl (Nat.le_of_ble_eq_true rfl) dX9_area2_10 ⟨Nat.le_of_ble_eq_true rfl, Nat.le_of_ble_eq_true rfl⟩) hP hD hS hA [0, 1] [] rfl rfl (by decide) (by decide) (fun r_3 u_3 H locs hw hP hD hS => ?_)
    rcases hw with ⟨rfl, f3_0⟩ | ⟨rfl, f3_0⟩
    · exact absurd f3_0 (q_npos (by assumption))
    · have hP : va_P D q_cl [(h0, .inr (7, [.ref en, .int 0, .ref nt, .ref pl, .int 1])), (nt, .inr (5, [.ref knx_1, .ref kny_1, .int 0, .ref knl_1, .ref knh_1, .int 0, .ref knb_1, .ref kno_1, .ref knr_1, .ref knd_1, .ref kna_1, .ref kns_1, .ref knf_1, .int 0, .ref knp_1, .int 1, .ref knq_1]))] H := hP
      have hD : va_D A [(h0, .inr (7, [.ref en, .int 0, .ref nt, .ref pl, .int 1])), (nt, .inr (5, [.ref knx_1, .ref kny_1, .int 0, .ref knl_1, .ref knh_1, .int 0, .ref knb_1, .ref kno_1, .ref knr_1, .ref knd_1, .ref kna_1, .ref kns_1, .ref knf_1, .int 0, .ref knp_1, .int 1, .ref knq_1]))] := hD
      refine lv_if_eq (tgt := 27) hx hb dX9_area2_13 (by decide) (fun c_4 => ?_) (fun c_4 => ?_)
      · refine lv_lconst (v := 0) hx hb dX9_area2_27 (by decide) ?_
        have hP9 := hP.sub (ws' := []) [] rfl
        have hD9 := hD.sub (ws' := []) [] (by decide) rfl
        exact q_retl () hx hb hr hlocks hK hP9 hD9 hS (Nat.le_of_ble_eq_true rfl) (Nat.le_of_ble_eq_true rfl) (rfl) dX9_area2_28
      · exact absurd c_4 (by decide)
def vsX9_locate : List Cond := .code yX9_locate cX9_locate 4 (some .int) :: ([.fieldLink RX9 54 "FaceMapModel" "count" "I", .fieldLink RX9 41 "FaceMapModel" "net" "LFaceMapModel$Net;", .methodLink RX9 135 yX9_build, .instanceMethod yX9_build, .selects RX9 yX9_build yX9_build, .initialized RX9, .code yX9_build cX9_build 2 none, .fieldLink RX9 82 "FaceMapModel" "isBuilt" "Z", .fieldLink RX9 48 "FaceMapModel" "nodes" "LFaceMapModel$Places;", .fieldLink RX9 103 "FaceMapModel$Places" "size" "I", .fieldLink RX9 106 "FaceMapModel$Net" "nodes" "I", .fieldLink RX9 108 "FaceMapModel$Net" "pieces" "I", .methodLink RX9 90 yX8_clear, .instanceMethod yX8_clear, .selects RX8 yX8_clear yX8_clear, .initialized RX8, .code yX8_clear cX8_clear 1 none, .fieldLink RX8 13 "FaceMapModel$Places" "size" "I", .methodLink RX9 97 yX8_sort, .instanceMethod yX8_sort, .selects RX8 yX8_sort yX8_sort, .code yX8_sort cX8_sort 4 none, .methodLink RX9 100 yX7_room, .instanceMethod yX7_room, .selects RX7 yX7_room yX7_room, .initialized RX7, .code yX7_room cX7_room 3 none, .fieldLink RX7 7 "FaceMapModel$Net" "x" "[I", .arrayClass .int, .fieldLink RX7 13 "FaceMapModel$Net" "y" "[I", .fieldLink RX7 22 "FaceMapModel$Net" "begins" "[I", .fieldLink RX7 44 "FaceMapModel$Net" "part" "[I", .fieldLink RX7 16 "FaceMapModel$Net" "low" "[I", .fieldLink RX7 19 "FaceMapModel$Net" "high" "[I", .fieldLink RX7 25 "FaceMapModel$Net" "out" "[I", .fieldLink RX7 28 "FaceMapModel$Net" "rank" "[I", .fieldLink RX7 31 "FaceMapModel$Net" "round" "[I", .arrayClass .long, .fieldLink RX7 34 "FaceMapModel$Net" "area" "[J", .fieldLink RX7 38 "FaceMapModel$Net" "least" "[I", .fieldLink RX7 41 "FaceMapModel$Net" "faceOf" "[I", .arrayClass .boolean, .fieldLink RX7 47 "FaceMapModel$Net" "odd" "[Z", .methodLink RX9 132 yX7_build, .instanceMethod yX7_build, .selects RX7 yX7_build yX7_build, .code yX7_build cX7_build 2 none, .fieldLink RX7 67 "FaceMapModel$Net" "nodes" "I", .fieldLink RX7 71 "FaceMapModel$Net" "pieces" "I", .fieldLink RX7 87 "FaceMapModel$Net" "rounds" "I", .methodLink RX7 81 yX7_sortOut, .instanceMethod yX7_sortOut, .selects RX7 yX7_sortOut yX7_sortOut, .code yX7_sortOut cX7_sortOut 6 none, .methodLink RX7 94 yX7_number, .instanceMethod yX7_number, .selects RX7 yX7_number yX7_number, .code yX7_number cX7_number 5 none, .fieldLink RX7 107 "FaceMapModel$Net" "faces" "I", .methodLink RX9 176 yX7_inside, .instanceMethod yX7_inside, .selects RX7 yX7_inside yX7_inside, .code yX7_inside cX7_inside 9 (some .int)] ++ wsX90 ++ wsX80 ++ wsX70)
set_option maxRecDepth 20000 in
theorem g_X9_locate_X9_build_135 : GoodIn vsX9_locate (wsV RX9 135 RX9 yX9_build vsX9_build) := goodIn_r _ [3, 4, 5, 6, 7, 8, 9, 1, 2, 10, 11, 12, 13, 14, 15, 16, 17, 18, 19, 20, 21, 22, 23, 24, 25, 26, 27, 28, 29, 30, 31, 32, 33, 34, 35, 36, 37, 38, 39, 40, 41, 42, 43, 44, 45, 46, 47, 48, 49, 50, 51, 52, 53, 54, 55, 56, 57, 58, 59, 64, 65, 66, 67, 68, 69, 70, 71, 72, 73, 74, 75, 76, 77, 78, 79, 80, 81, 82, 83, 84, 85, 86, 87] rfl (by decide +kernel)
set_option maxRecDepth 20000 in
theorem n_X9_locate_X9 : ∀ w ∈ wsX90, w ∈ vsX9_locate := fun _ h => List.mem_cons_of_mem _ (List.mem_append_left _ (List.mem_append_left _ (List.mem_append_right _ h)))
set_option maxRecDepth 20000 in
theorem g_X9_locate_X7_inside_176 : GoodIn vsX9_locate (wsV RX9 176 RX7 yX7_inside vsX7_inside) := goodIn_r _ [60, 61, 62, 26, 63, 50, 49, 71, 72, 73, 74, 75, 76, 77, 78, 79, 80, 81, 82, 83, 84, 85, 86, 87] rfl (by decide +kernel)
set_option maxHeartbeats 4000000 in
set_option maxRecDepth 100000 in
/-- FaceMapModel.locate -/
theorem c_X9_locate (l : Launch) (D : va_G) (aI aL aZ : ClassId) (h0 : Nat) (en : Nat) (nt : Nat) (pl : Nat) (row : Nat) (nx : Nat) (ny : Nat) (nl : Nat) (nh : Nat) (nb : Nat) (no : Nat) (nr : Nat) (nd : Nat) (na : Nat) (ns : Nat) (nf : Nat) (np : Nat) (nq : Nat) (fx : Nat → Int32) (fl : Nat → Int32) (x : Int32) (y : Int32) (sz : Nat) : MI l D q_cl (q_ty aI aL aZ) yX9_locate vsX9_locate 3 13 36005 [.ref h0, .int x, .int y] [(h0, .inr (7, [.ref en, .int 0, .ref nt, .ref pl, .int 0])), (nt, .inr (5, [.ref nx, .ref ny, .int 0, .ref nl, .ref nh, .int 0, .ref nb, .ref no, .ref nr, .ref nd, .ref na, .ref ns, .ref nf, .int 0, .ref np, .int 0, .ref nq])), (nx, .inl (aI, 0, .inl fx)), (nl, .inl (aI, 0, .inl fl)), (pl, .inr (6, [.ref row, .int 0]))] sz (fun (r : Int32) (u : Unit) => r = 0) (fun (u : Unit) => ([] : va_W)) := by
  refine q_in cX9_locate 4 (some .int) (qQi D q_cl (q_ty aI aL aZ) _ _) (by decide) rfl (Nat.le_of_ble_eq_true rfl) ?_
  intro p e s m args below meth c A ls hat hP hD hS hl
  obtain ⟨hx, hb, hr, hts, hown, hlocks, hml, hin, hK, hN, hA⟩ := hat
  have hown : s.vm.findClass RX9 = some m.cls := hown
  have hl : lv_has ls 4 [(0, .ref h0), (1, .int x), (2, .int y)] := hl
  refine lv_aload_n hx hb dX9_locate_0 rfl (lv_at hl 0 rfl) ?_
  refine q_v (wr := []) (q_runV (As := []) (rest := []) ⟨hx, hb, hml, hown, hts⟩ (c_X9_build l D aI aL aZ h0 en nt pl row nx ny nl nh nb no nr nd na ns nf np nq fx fl _) (cwV 0 hts g_X9_locate_X9_build_135 rfl rfl rfl (by decide +kernel) ⟨Nat.le_of_ble_eq_true rfl, Nat.le_of_ble_eq_true rfl⟩) hK hN hP hD [0, 1, 2, 3, 4] rfl (by decide) rfl rfl rfl hl.1 rfl (Nat.le_of_ble_eq_true rfl) dX9_locate_1 ⟨Nat.le_of_ble_eq_true rfl, Nat.le_of_ble_eq_true rfl⟩) hP hD hS hA [0, 1, 2, 3, 4] [] rfl rfl (by decide) (by decide) (fun u_1 H locs hw hP hD hS => ?_)
  obtain ⟨knx_1, kny_1, knl_1, knh_1, knb_1, kno_1, knr_1, knd_1, kna_1, kns_1, knf_1, knp_1, knq_1⟩ := u_1
  have hP : va_P D q_cl [(h0, .inr (7, [.ref en, .int 0, .ref nt, .ref pl, .int 1])), (nt, .inr (5, [.ref knx_1, .ref kny_1, .int 0, .ref knl_1, .ref knh_1, .int 0, .ref knb_1, .ref kno_1, .ref knr_1, .ref knd_1, .ref kna_1, .ref kns_1, .ref knf_1, .int 0, .ref knp_1, .int 1, .ref knq_1]))] H := hP
  have hD : va_D A [(h0, .inr (7, [.ref en, .int 0, .ref nt, .ref pl, .int 1])), (nt, .inr (5, [.ref knx_1, .ref kny_1, .int 0, .ref knl_1, .ref knh_1, .int 0, .ref knb_1, .ref kno_1, .ref knr_1, .ref knd_1, .ref kna_1, .ref kns_1, .ref knf_1, .int 0, .ref knp_1, .int 1, .ref knq_1]))] := hD
  refine lv_iconst (v := 0) hx hb dX9_locate_4 (by decide) ?_
  refine lv_istore_n (lv' := [(3, .int 0), (0, .ref h0), (1, .int x), (2, .int y)]) hx hb dX9_locate_5 rfl hl (by decide) rfl (fun ls hl => ?_)
  refine lv_iload_n hx hb dX9_locate_6 rfl (lv_at hl 0 rfl) ?_
  refine lv_aload_n hx hb dX9_locate_7 rfl (lv_at hl 1 rfl) ?_
  refine va_get (D := D) (ci := 7) (v := .int 0) (C := RX9) (T := TX9) (N := 5) hx hb hts n_X9_locate_X9 hown hK hP 0 rfl rfl 1 (by decide) (hts (.fieldLink RX9 54 "FaceMapModel" "count" "I") (List.mem_of_getElem? (i := 1) rfl)) (fun _ h9 => h9) rfl dX9_locate_8 ?_
  refine lv_icmp_ge (tgt := 76) hx hb dX9_locate_11 (by decide) (fun c_2 => ?_) (fun c_2 => ?_)
  · refine lv_aload_n hx hb dX9_locate_76 rfl (lv_at hl 1 rfl) ?_
    refine va_get (D := D) (ci := 7) (v := .ref nt) (C := RX9) (T := TX9) (N := 5) hx hb hts n_X9_locate_X9 hown hK hP 0 rfl rfl 2 (by decide) (hts (.fieldLink RX9 41 "FaceMapModel" "net" "LFaceMapModel$Net;") (List.mem_of_getElem? (i := 2) rfl)) (fun _ h9 => h9) rfl dX9_locate_77 ?_
    refine lv_iload_n hx hb dX9_locate_80 rfl (lv_at hl 2 rfl) ?_
    refine lv_i2l (v := x.toInt64) hx hb dX9_locate_81 rfl ?_
    refine lv_iload_n hx hb dX9_locate_82 rfl (lv_at hl 3 rfl) ?_
    refine lv_i2l (v := y.toInt64) hx hb dX9_locate_83 rfl ?_
    refine lv_iconst (v := (-1)) hx hb dX9_locate_84 (by decide) ?_
    refine q_i (wr := [(h0, .inr (7, [.ref en, .int 0, .ref nt, .ref pl, .int 1]))]) (q_runV (As := [.long x.toInt64, .long y.toInt64, .int (-1)]) (rest := []) ⟨hx, hb, hml, hown, hts⟩ (c_X7_inside l D aI aL aZ nt knx_1 kny_1 knl_1 knh_1 knb_1 kno_1 knr_1 knd_1 kna_1 kns_1 knf_1 knp_1 knq_1 x.toInt64 y.toInt64 _) (cwV 3 hts g_X9_locate_X7_inside_176 rfl rfl rfl (by decide +kernel) ⟨Nat.le_of_ble_eq_true rfl, Nat.le_of_ble_eq_true rfl⟩) hK hN hP hD [1] rfl (by decide) rfl rfl rfl hl.1 rfl (Nat.le_of_ble_eq_true rfl) dX9_locate_85 ⟨Nat.le_of_ble_eq_true rfl, Nat.le_of_ble_eq_true rfl⟩) hP hD hS hA [1] [0] rfl rfl (by decide) (by decide) (fun r_3 u_3 H locs hw hP hD hS => ?_)
    subst hw
    have hP : va_P D q_cl [(h0, .inr (7, [.ref en, .int 0, .ref nt, .ref pl, .int 1])), (nt, .inr (5, [.ref knx_1, .ref kny_1, .int 0, .ref knl_1, .ref knh_1, .int 0, .ref knb_1, .ref kno_1, .ref knr_1, .ref knd_1, .ref kna_1, .ref kns_1, .ref knf_1, .int 0, .ref knp_1, .int 1, .ref knq_1]))] H := hP
    have hD : va_D A [(h0, .inr (7, [.ref en, .int 0, .ref nt, .ref pl, .int 1])), (nt, .inr (5, [.ref knx_1, .ref kny_1, .int 0, .ref knl_1, .ref knh_1, .int 0, .ref knb_1, .ref kno_1, .ref knr_1, .ref knd_1, .ref kna_1, .ref kns_1, .ref knf_1, .int 0, .ref knp_1, .int 1, .ref knq_1]))] := hD
    have hP9 := hP.sub (ws' := []) [] rfl
    have hD9 := hD.sub (ws' := []) [] (by decide) rfl
    exact q_reti () hx hb hr hlocks hK hP9 hD9 hS (Nat.le_of_ble_eq_true rfl) (Nat.le_of_ble_eq_true rfl) (rfl) dX9_locate_88
  · exact absurd c_2 (by decide)
def vsX9_between : List Cond := .code yX9_between cX9_between 7 (some .int) :: ([.fieldLink RX9 54 "FaceMapModel" "count" "I", .methodLink RX9 135 yX9_build, .instanceMethod yX9_build, .selects RX9 yX9_build yX9_build, .initialized RX9, .code yX9_build cX9_build 2 none, .fieldLink RX9 82 "FaceMapModel" "isBuilt" "Z", .fieldLink RX9 48 "FaceMapModel" "nodes" "LFaceMapModel$Places;", .fieldLink RX9 41 "FaceMapModel" "net" "LFaceMapModel$Net;", .fieldLink RX9 103 "FaceMapModel$Places" "size" "I", .fieldLink RX9 106 "FaceMapModel$Net" "nodes" "I", .fieldLink RX9 108 "FaceMapModel$Net" "pieces" "I", .methodLink RX9 90 yX8_clear, .instanceMethod yX8_clear, .selects RX8 yX8_clear yX8_clear, .initialized RX8, .code yX8_clear cX8_clear 1 none, .fieldLink RX8 13 "FaceMapModel$Places" "size" "I", .methodLink RX9 97 yX8_sort, .instanceMethod yX8_sort, .selects RX8 yX8_sort yX8_sort, .code yX8_sort cX8_sort 4 none, .methodLink RX9 100 yX7_room, .instanceMethod yX7_room, .selects RX7 yX7_room yX7_room, .initialized RX7, .code yX7_room cX7_room 3 none, .fieldLink RX7 7 "FaceMapModel$Net" "x" "[I", .arrayClass .int, .fieldLink RX7 13 "FaceMapModel$Net" "y" "[I", .fieldLink RX7 22 "FaceMapModel$Net" "begins" "[I", .fieldLink RX7 44 "FaceMapModel$Net" "part" "[I", .fieldLink RX7 16 "FaceMapModel$Net" "low" "[I", .fieldLink RX7 19 "FaceMapModel$Net" "high" "[I", .fieldLink RX7 25 "FaceMapModel$Net" "out" "[I", .fieldLink RX7 28 "FaceMapModel$Net" "rank" "[I", .fieldLink RX7 31 "FaceMapModel$Net" "round" "[I", .arrayClass .long, .fieldLink RX7 34 "FaceMapModel$Net" "area" "[J", .fieldLink RX7 38 "FaceMapModel$Net" "least" "[I", .fieldLink RX7 41 "FaceMapModel$Net" "faceOf" "[I", .arrayClass .boolean, .fieldLink RX7 47 "FaceMapModel$Net" "odd" "[Z", .methodLink RX9 132 yX7_build, .instanceMethod yX7_build, .selects RX7 yX7_build yX7_build, .code yX7_build cX7_build 2 none, .fieldLink RX7 67 "FaceMapModel$Net" "nodes" "I", .fieldLink RX7 71 "FaceMapModel$Net" "pieces" "I", .fieldLink RX7 87 "FaceMapModel$Net" "rounds" "I", .methodLink RX7 81 yX7_sortOut, .instanceMethod yX7_sortOut, .selects RX7 yX7_sortOut yX7_sortOut, .code yX7_sortOut cX7_sortOut 6 none, .methodLink RX7 94 yX7_number, .instanceMethod yX7_number, .selects RX7 yX7_number yX7_number, .code yX7_number cX7_number 5 none, .fieldLink RX7 107 "FaceMapModel$Net" "faces" "I", .methodLink RX9 150 yX9_isFace, .instanceMethod yX9_isFace, .selects RX9 yX9_isFace yX9_isFace, .code yX9_isFace cX9_isFace 2 (some .boolean), .fieldLink RX9 136 "FaceMapModel$Net" "faces" "I"] ++ wsX90 ++ wsX80 ++ wsX70)
set_option maxRecDepth 20000 in
theorem g_X9_between_X9_build_135 : GoodIn vsX9_between (wsV RX9 135 RX9 yX9_build vsX9_build) := goodIn_r _ [2, 3, 4, 5, 6, 7, 8, 1, 9, 10, 11, 12, 13, 14, 15, 16, 17, 18, 19, 20, 21, 22, 23, 24, 25, 26, 27, 28, 29, 30, 31, 32, 33, 34, 35, 36, 37, 38, 39, 40, 41, 42, 43, 44, 45, 46, 47, 48, 49, 50, 51, 52, 53, 54, 55, 56, 57, 58, 59, 65, 66, 67, 68, 69, 70, 71, 72, 73, 74, 75, 76, 77, 78, 79, 80, 81, 82, 83, 84, 85, 86, 87, 88] rfl (by decide +kernel)
set_option maxRecDepth 20000 in
theorem g_X9_between_X9_isFace_150 : GoodIn vsX9_between (wsV RX9 150 RX9 yX9_isFace vsX9_isFace) := goodIn_r _ [60, 61, 62, 5, 63, 9, 64, 65, 66, 67, 68, 69, 72, 73, 74, 75, 76, 77, 78, 79, 80, 81, 82, 83, 84, 85, 86, 87, 88] rfl (by decide +kernel)
set_option maxRecDepth 20000 in
theorem n_X9_between_X9 : ∀ w ∈ wsX90, w ∈ vsX9_between := fun _ h => List.mem_cons_of_mem _ (List.mem_append_left _ (List.mem_append_left _ (List.mem_append_right _ h)))
set_option maxHeartbeats 4000000 in
set_option maxRecDepth 100000 in
/-- FaceMapModel.between -/
theorem c_X9_between (l : Launch) (D : va_G) (aI aL aZ : ClassId) (h0 : Nat) (en : Nat) (nt : Nat) (pl : Nat) (row : Nat) (nx : Nat) (ny : Nat) (nl : Nat) (nh : Nat) (nb : Nat) (no : Nat) (nr : Nat) (nd : Nat) (na : Nat) (ns : Nat) (nf : Nat) (np : Nat) (nq : Nat) (fx : Nat → Int32) (fl : Nat → Int32) (x : Int32) (y : Int32) (sz : Nat) : MI l D q_cl (q_ty aI aL aZ) yX9_between vsX9_between 3 13 36005 [.ref h0, .int x, .int y] [(h0, .inr (7, [.ref en, .int 0, .ref nt, .ref pl, .int 0])), (nt, .inr (5, [.ref nx, .ref ny, .int 0, .ref nl, .ref nh, .int 0, .ref nb, .ref no, .ref nr, .ref nd, .ref na, .ref ns, .ref nf, .int 0, .ref np, .int 0, .ref nq])), (nx, .inl (aI, 0, .inl fx)), (nl, .inl (aI, 0, .inl fl)), (pl, .inr (6, [.ref row, .int 0]))] sz (fun (r : Int32) (u : Unit) => r = (btw x y)) (fun (u : Unit) => ([] : va_W)) := by
  refine q_in cX9_between 7 (some .int) (qQi D q_cl (q_ty aI aL aZ) _ _) (by decide) rfl (Nat.le_of_ble_eq_true rfl) ?_
  intro p e s m args below meth c A ls hat hP hD hS hl
  obtain ⟨hx, hb, hr, hts, hown, hlocks, hml, hin, hK, hN, hA⟩ := hat
  have hown : s.vm.findClass RX9 = some m.cls := hown
  have hl : lv_has ls 7 [(0, .ref h0), (1, .int x), (2, .int y)] := hl
  refine lv_aload_n hx hb dX9_between_0 rfl (lv_at hl 0 rfl) ?_
  refine q_v (wr := []) (q_runV (As := []) (rest := []) ⟨hx, hb, hml, hown, hts⟩ (c_X9_build l D aI aL aZ h0 en nt pl row nx ny nl nh nb no nr nd na ns nf np nq fx fl _) (cwV 0 hts g_X9_between_X9_build_135 rfl rfl rfl (by decide +kernel) ⟨Nat.le_of_ble_eq_true rfl, Nat.le_of_ble_eq_true rfl⟩) hK hN hP hD [0, 1, 2, 3, 4] rfl (by decide) rfl rfl rfl hl.1 rfl (Nat.le_of_ble_eq_true rfl) dX9_between_1 ⟨Nat.le_of_ble_eq_true rfl, Nat.le_of_ble_eq_true rfl⟩) hP hD hS hA [0, 1, 2, 3, 4] [] rfl rfl (by decide) (by decide) (fun u_1 H locs hw hP hD hS => ?_)
  obtain ⟨knx_1, kny_1, knl_1, knh_1, knb_1, kno_1, knr_1, knd_1, kna_1, kns_1, knf_1, knp_1, knq_1⟩ := u_1
  have hP : va_P D q_cl [(h0, .inr (7, [.ref en, .int 0, .ref nt, .ref pl, .int 1])), (nt, .inr (5, [.ref knx_1, .ref kny_1, .int 0, .ref knl_1, .ref knh_1, .int 0, .ref knb_1, .ref kno_1, .ref knr_1, .ref knd_1, .ref kna_1, .ref kns_1, .ref knf_1, .int 0, .ref knp_1, .int 1, .ref knq_1]))] H := hP
  have hD : va_D A [(h0, .inr (7, [.ref en, .int 0, .ref nt, .ref pl, .int 1])), (nt, .inr (5, [.ref knx_1, .ref kny_1, .int 0, .ref knl_1, .ref knh_1, .int 0, .ref knb_1, .ref kno_1, .ref knr_1, .ref knd_1, .ref kna_1, .ref kns_1, .ref knf_1, .int 0, .ref knp_1, .int 1, .ref knq_1]))] := hD
  refine lv_aload_n hx hb dX9_between_4 rfl (lv_at hl 0 rfl) ?_
  refine lv_iload_n hx hb dX9_between_5 rfl (lv_at hl 1 rfl) ?_
  refine q_i (wr := []) (q_runV (As := [.int x]) (rest := []) ⟨hx, hb, hml, hown, hts⟩ (c_X9_isFace l D aI aL aZ h0 en nt pl 1 knx_1 kny_1 knl_1 knh_1 knb_1 kno_1 knr_1 knd_1 kna_1 kns_1 knf_1 knp_1 knq_1 x _) (cwV 1 hts g_X9_between_X9_isFace_150 rfl rfl rfl (by decide +kernel) ⟨Nat.le_of_ble_eq_true rfl, Nat.le_of_ble_eq_true rfl⟩) hK hN hP hD [0, 1] rfl (by decide) rfl rfl rfl hl.1 rfl (Nat.le_of_ble_eq_true rfl) dX9_between_6 ⟨Nat.le_of_ble_eq_true rfl, Nat.le_of_ble_eq_true rfl⟩) hP hD hS hA [0, 1] [] rfl rfl (by decide) (by decide) (fun r_2 u_2 H locs hw hP hD hS => ?_)
  rcases hw with ⟨rfl, f2_0⟩ | ⟨rfl, f2_0⟩
  · subst f2_0
    have hP : va_P D q_cl [(h0, .inr (7, [.ref en, .int 0, .ref nt, .ref pl, .int 1])), (nt, .inr (5, [.ref knx_1, .ref kny_1, .int 0, .ref knl_1, .ref knh_1, .int 0, .ref knb_1, .ref kno_1, .ref knr_1, .ref knd_1, .ref kna_1, .ref kns_1, .ref knf_1, .int 0, .ref knp_1, .int 1, .ref knq_1]))] H := hP
    have hD : va_D A [(h0, .inr (7, [.ref en, .int 0, .ref nt, .ref pl, .int 1])), (nt, .inr (5, [.ref knx_1, .ref kny_1, .int 0, .ref knl_1, .ref knh_1, .int 0, .ref knb_1, .ref kno_1, .ref knr_1, .ref knd_1, .ref kna_1, .ref kns_1, .ref knf_1, .int 0, .ref knp_1, .int 1, .ref knq_1]))] := hD
    refine lv_if_eq (tgt := 20) hx hb dX9_between_9 (by decide) (fun c_3 => ?_) (fun c_3 => ?_)
    · exact absurd c_3 (by decide)
    · refine lv_aload_n hx hb dX9_between_12 rfl (lv_at hl 0 rfl) ?_
      refine lv_iload_n hx hb dX9_between_13 rfl (lv_at hl 2 rfl) ?_
      refine q_i (wr := []) (q_runV (As := [.int y]) (rest := []) ⟨hx, hb, hml, hown, hts⟩ (c_X9_isFace l D aI aL aZ h0 en nt pl 1 knx_1 kny_1 knl_1 knh_1 knb_1 kno_1 knr_1 knd_1 kna_1 kns_1 knf_1 knp_1 knq_1 y _) (cwV 1 hts g_X9_between_X9_isFace_150 rfl rfl rfl (by decide +kernel) ⟨Nat.le_of_ble_eq_true rfl, Nat.le_of_ble_eq_true rfl⟩) hK hN hP hD [0, 1] rfl (by decide) rfl rfl rfl hl.1 rfl (Nat.le_of_ble_eq_true rfl) dX9_between_14 ⟨Nat.le_of_ble_eq_true rfl, Nat.le_of_ble_eq_true rfl⟩) hP hD hS hA [0, 1] [] rfl rfl (by decide) (by decide) (fun r_4 u_4 H locs hw hP hD hS => ?_)
      rcases hw with ⟨rfl, f4_0⟩ | ⟨rfl, f4_0⟩
      · subst f4_0
        have hP : va_P D q_cl [(h0, .inr (7, [.ref en, .int 0, .ref nt, .ref pl, .int 1])), (nt, .inr (5, [.ref knx_1, .ref kny_1, .int 0, .ref knl_1, .ref knh_1, .int 0, .ref knb_1, .ref kno_1, .ref knr_1, .ref knd_1, .ref kna_1, .ref kns_1, .ref knf_1, .int 0, .ref knp_1, .int 1, .ref knq_1]))] H := hP
        have hD : va_D A [(h0, .inr (7, [.ref en, .int 0, .ref nt, .ref pl, .int 1])), (nt, .inr (5, [.ref knx_1, .ref kny_1, .int 0, .ref knl_1, .ref knh_1, .int 0, .ref knb_1, .ref kno_1, .ref knr_1, .ref knd_1, .ref kna_1, .ref kns_1, .ref knf_1, .int 0, .ref knp_1, .int 1, .ref knq_1]))] := hD
        refine lv_if_ne (tgt := 22) hx hb dX9_between_17 (by decide) (fun c_5 => ?_) (fun c_5 => ?_)
        · refine lv_iconst (v := 0) hx hb dX9_between_22 (by decide) ?_
          refine lv_istore_n (lv' := [(3, .int 0), (0, .ref h0), (1, .int 0), (2, .int 0)]) hx hb dX9_between_23 rfl hl (by decide) rfl (fun ls hl => ?_)
          refine lv_iconst (v := 0) hx hb dX9_between_24 (by decide) ?_
          refine lv_istore (lv' := [(4, .int 0), (3, .int 0), (0, .ref h0), (1, .int 0), (2, .int 0)]) hx hb dX9_between_25 hl (by decide) rfl (fun ls hl => ?_)
          refine lv_iload hx hb dX9_between_27 (lv_at hl 0 rfl) ?_
          refine lv_aload_n hx hb dX9_between_29 rfl (lv_at hl 2 rfl) ?_
          refine va_get (D := D) (ci := 7) (v := .int 0) (C := RX9) (T := TX9) (N := 5) hx hb hts n_X9_between_X9 hown hK hP 0 rfl rfl 1 (by decide) (hts (.fieldLink RX9 54 "FaceMapModel" "count" "I") (List.mem_of_getElem? (i := 1) rfl)) (fun _ h9 => h9) rfl dX9_between_30 ?_
          refine lv_icmp_ge (tgt := 97) hx hb dX9_between_33 (by decide) (fun c_6 => ?_) (fun c_6 => ?_)
          · refine lv_iload_n hx hb dX9_between_97 rfl (lv_at hl 1 rfl) ?_
            have hP9 := hP.sub (ws' := []) [] rfl
            have hD9 := hD.sub (ws' := []) [] (by decide) rfl
            exact q_reti () hx hb hr hlocks hK hP9 hD9 hS (Nat.le_of_ble_eq_true rfl) (Nat.le_of_ble_eq_true rfl) ((by first | decide | exact btw_n1 (by assumption) | exact btw_n2 (by assumption))) dX9_between_98
          · exact absurd c_6 (by decide)
        · exact absurd c_5 (by decide)
      · have hP : va_P D q_cl [(h0, .inr (7, [.ref en, .int 0, .ref nt, .ref pl, .int 1])), (nt, .inr (5, [.ref knx_1, .ref kny_1, .int 0, .ref knl_1, .ref knh_1, .int 0, .ref knb_1, .ref kno_1, .ref knr_1, .ref knd_1, .ref kna_1, .ref kns_1, .ref knf_1, .int 0, .ref knp_1, .int 1, .ref knq_1]))] H := hP
        have hD : va_D A [(h0, .inr (7, [.ref en, .int 0, .ref nt, .ref pl, .int 1])), (nt, .inr (5, [.ref knx_1, .ref kny_1, .int 0, .ref knl_1, .ref knh_1, .int 0, .ref knb_1, .ref kno_1, .ref knr_1, .ref knd_1, .ref kna_1, .ref kns_1, .ref knf_1, .int 0, .ref knp_1, .int 1, .ref knq_1]))] := hD
        refine lv_if_ne (tgt := 22) hx hb dX9_between_17 (by decide) (fun c_7 => ?_) (fun c_7 => ?_)
        · exact absurd c_7 (by decide)
        · refine lv_iconst (v := (-1)) hx hb dX9_between_20 (by decide) ?_
          have hP9 := hP.sub (ws' := []) [] rfl
          have hD9 := hD.sub (ws' := []) [] (by decide) rfl
          exact q_reti () hx hb hr hlocks hK hP9 hD9 hS (Nat.le_of_ble_eq_true rfl) (Nat.le_of_ble_eq_true rfl) ((by first | decide | exact btw_n1 (by assumption) | exact btw_n2 (by assumption))) dX9_between_21
  · have hP : va_P D q_cl [(h0, .inr (7, [.ref en, .int 0, .ref nt, .ref pl, .int 1])), (nt, .inr (5, [.ref knx_1, .ref kny_1, .int 0, .ref knl_1, .ref knh_1, .int 0, .ref knb_1, .ref kno_1, .ref knr_1, .ref knd_1, .ref kna_1, .ref kns_1, .ref knf_1, .int 0, .ref knp_1, .int 1, .ref knq_1]))] H := hP
    have hD : va_D A [(h0, .inr (7, [.ref en, .int 0, .ref nt, .ref pl, .int 1])), (nt, .inr (5, [.ref knx_1, .ref kny_1, .int 0, .ref knl_1, .ref knh_1, .int 0, .ref knb_1, .ref kno_1, .ref knr_1, .ref knd_1, .ref kna_1, .ref kns_1, .ref knf_1, .int 0, .ref knp_1, .int 1, .ref knq_1]))] := hD
    refine lv_if_eq (tgt := 20) hx hb dX9_between_9 (by decide) (fun c_8 => ?_) (fun c_8 => ?_)
    · refine lv_iconst (v := (-1)) hx hb dX9_between_20 (by decide) ?_
      have hP9 := hP.sub (ws' := []) [] rfl
      have hD9 := hD.sub (ws' := []) [] (by decide) rfl
      exact q_reti () hx hb hr hlocks hK hP9 hD9 hS (Nat.le_of_ble_eq_true rfl) (Nat.le_of_ble_eq_true rfl) ((by first | decide | exact btw_n1 (by assumption) | exact btw_n2 (by assumption))) dX9_between_21
    · exact absurd c_8 (by decide)
end
section
def vsL_law : List Cond := [.instantiable RX0 11, .instantiable RX1 3, .instantiable RX2 3, .instantiable RX4 8, .instantiable RX6 5, .instantiable RX7 17, .instantiable RX8 2, .instantiable RX9 5, .arrayClass .int, .arrayClass .long, .arrayClass .boolean, .classLink RL 7 RX6, .initialized RX6, .methodLink RL 9 yX6_init, .instanceMethod yX6_init, .classLink RL 10 RX9, .initialized RX9, .methodLink RL 12 yX9_init, .instanceMethod yX9_init, .code yX6_init cX6_init 1 none, .methodLink RX6 1 objectInit, .instanceMethod objectInit, .code objectInit ⟨#[0xb1]⟩ 1 none, .classLink RX6 7 RX2, .initialized RX2, .methodLink RX6 9 yX2_init, .instanceMethod yX2_init, .fieldLink RX6 10 "FaceMap" "pieces" "LFaceMap$Pieces;", .classLink RX6 16 RX1, .initialized RX1, .methodLink RX6 18 yX1_init, .instanceMethod yX1_init, .fieldLink RX6 19 "FaceMap" "nodes" "LFaceMap$Nodes;", .classLink RX6 23 RX4, .initialized RX4, .methodLink RX6 25 yX4_init, .instanceMethod yX4_init, .fieldLink RX6 28 "FaceMap" "sweep" "LFaceMap$Sweep;", .classLink RX6 32 RX0, .initialized RX0, .methodLink RX6 34 yX0_init, .instanceMethod yX0_init, .fieldLink RX6 37 "FaceMap" "faces" "LFaceMap$Faces;", .fieldLink RX6 41 "FaceMap" "facesAreOld" "Z", .code yX2_init cX2_init 1 none, .methodLink RX2 1 objectInit, .fieldLink RX2 9 "FaceMap$Pieces" "low" "[J", .fieldLink RX2 13 "FaceMap$Pieces" "high" "[J", .fieldLink RX2 16 "FaceMap$Pieces" "size" "I", .code yX1_init cX1_init 1 none, .methodLink RX1 1 objectInit, .fieldLink RX1 9 "FaceMap$Nodes" "at" "[J", .fieldLink RX1 13 "FaceMap$Nodes" "degree" "[I", .fieldLink RX1 17 "FaceMap$Nodes" "size" "I", .code yX4_init cX4_init 3 none, .methodLink RX4 1 objectInit, .fieldLink RX4 7 "FaceMap$Sweep" "pieces" "LFaceMap$Pieces;", .fieldLink RX4 13 "FaceMap$Sweep" "nodes" "LFaceMap$Nodes;", .methodLink RX4 17 yX2_room, .instanceMethod yX2_room, .selects RX2 yX2_room yX2_room, .code yX2_room cX2_room 1 (some .int), .methodLink RX4 23 yX4_makeRows, .instanceMethod yX4_makeRows, .selects RX4 yX4_makeRows yX4_makeRows, .code yX4_makeRows cX4_makeRows 2 none, .fieldLink RX4 27 "FaceMap$Sweep" "crossed" "[I", .fieldLink RX4 31 "FaceMap$Sweep" "around" "[I", .fieldLink RX4 34 "FaceMap$Sweep" "next" "[I", .fieldLink RX4 37 "FaceMap$Sweep" "below" "[I", .code yX0_init cX0_init 4 none, .methodLink RX0 1 objectInit, .fieldLink RX0 7 "FaceMap$Faces" "pieces" "LFaceMap$Pieces;", .fieldLink RX0 13 "FaceMap$Faces" "nodes" "LFaceMap$Nodes;", .fieldLink RX0 17 "FaceMap$Faces" "sweep" "LFaceMap$Sweep;", .methodLink RX0 21 yX2_room, .methodLink RX0 27 yX0_makeRows, .instanceMethod yX0_makeRows, .selects RX0 yX0_makeRows yX0_makeRows, .code yX0_makeRows cX0_makeRows 2 none, .fieldLink RX0 34 "FaceMap$Faces" "leftOf" "[I", .fieldLink RX0 38 "FaceMap$Faces" "rings" "[I", .fieldLink RX0 41 "FaceMap$Faces" "ways" "[I", .fieldLink RX0 44 "FaceMap$Faces" "keyFrom" "[I", .fieldLink RX0 47 "FaceMap$Faces" "keyTo" "[I", .fieldLink RX0 50 "FaceMap$Faces" "area" "[J", .methodLink RX0 31 yX0_clear, .instanceMethod yX0_clear, .selects RX0 yX0_clear yX0_clear, .code yX0_clear cX0_clear 1 none, .fieldLink RX0 60 "FaceMap$Faces" "size" "I", .fieldLink RX0 64 "FaceMap$Faces" "parts" "I", .methodLink RX0 54 yJ7_fill_53178, .static yJ7_fill_53178, .initialized RJ7, .code yJ7_fill_53178 cJ7_fill_53178 4 none, .methodLink RX0 67 yX0_addFace, .instanceMethod yX0_addFace, .selects RX0 yX0_addFace yX0_addFace, .code yX0_addFace cX0_addFace 4 (some .int), .code yX9_init cX9_init 1 none, .methodLink RX9 28 objectInit, .fieldLink RX9 34 "FaceMapModel" "ends" "[I", .classLink RX9 38 RX7, .initialized RX7, .instanceMethod yX7_init, .fieldLink RX9 41 "FaceMapModel" "net" "LFaceMapModel$Net;", .classLink RX9 45 RX8, .initialized RX8, .instanceMethod yX8_init, .fieldLink RX9 48 "FaceMapModel" "nodes" "LFaceMapModel$Places;", .code yX7_init cX7_init 1 none, .methodLink RX7 1 objectInit, .fieldLink RX7 7 "FaceMapModel$Net" "x" "[I", .fieldLink RX7 13 "FaceMapModel$Net" "y" "[I", .fieldLink RX7 16 "FaceMapModel$Net" "low" "[I", .fieldLink RX7 19 "FaceMapModel$Net" "high" "[I", .fieldLink RX7 22 "FaceMapModel$Net" "begins" "[I", .fieldLink RX7 25 "FaceMapModel$Net" "out" "[I", .fieldLink RX7 28 "FaceMapModel$Net" "rank" "[I", .fieldLink RX7 31 "FaceMapModel$Net" "round" "[I", .fieldLink RX7 34 "FaceMapModel$Net" "area" "[J", .fieldLink RX7 38 "FaceMapModel$Net" "least" "[I", .fieldLink RX7 41 "FaceMapModel$Net" "faceOf" "[I", .fieldLink RX7 44 "FaceMapModel$Net" "part" "[I", .fieldLink RX7 47 "FaceMapModel$Net" "odd" "[Z", .code yX8_init cX8_init 1 none, .methodLink RX8 1 objectInit, .fieldLink RX8 7 "FaceMapModel$Places" "row" "[J", .methodLink RL 13 yX6_join, .instanceMethod yX6_join, .selects RX6 yX6_join yX6_join, .code yX6_join cX6_join 13 (some .int), .methodLink RX6 55 Lib.MathLoose.min_long.x, .static Lib.MathLoose.min_long.x, .initialized "java/lang/Math", .code Lib.MathLoose.min_long.x Lib.MathLoose.min_long.code 4 (some .long), .methodLink RX6 61 Lib.MathLoose.max_long.x, .static Lib.MathLoose.max_long.x, .code Lib.MathLoose.max_long.x Lib.MathLoose.max_long.code 4 (some .long), .fieldLink RX6 71 "FaceMap$Pieces" "size" "I", .methodLink RX6 45 yX3_inBounds, .static yX3_inBounds, .initialized RX3, .code yX3_inBounds cX3_inBounds 2 (some .boolean), .constant RX3 9 (-500000), .constant RX3 10 (500000), .methodLink RX6 51 yX3_of, .static yX3_of, .code yX3_of cX3_of 2 (some .long), .methodLink RX6 64 yX2_has, .instanceMethod yX2_has, .selects RX2 yX2_has yX2_has, .code yX2_has cX2_has 6 (some .boolean), .methodLink RX2 20 yX2_rank, .instanceMethod yX2_rank, .selects RX2 yX2_rank yX2_rank, .code yX2_rank cX2_rank 8 (some .int), .methodLink RX6 68 yX2_clashWith, .instanceMethod yX2_clashWith, .selects RX2 yX2_clashWith yX2_clashWith, .code yX2_clashWith cX2_clashWith 6 (some .boolean), .methodLink RX6 75 yX2_add, .instanceMethod yX2_add, .selects RX2 yX2_add yX2_add, .code yX2_add cX2_add 6 none, .methodLink RX2 36 arraycopyName, .native arraycopyName, .static arraycopyName, .initialized "java/lang/System", .methodLink RX6 79 yX1_addEnd, .instanceMethod yX1_addEnd, .selects RX1 yX1_addEnd yX1_addEnd, .code yX1_addEnd cX1_addEnd 4 none, .methodLink RX1 21 yX1_rank, .instanceMethod yX1_rank, .selects RX1 yX1_rank yX1_rank, .code yX1_rank cX1_rank 6 (some .int), .methodLink RX1 25 yX1_isAt, .instanceMethod yX1_isAt, .selects RX1 yX1_isAt yX1_isAt, .code yX1_isAt cX1_isAt 4 (some .boolean), .methodLink RX1 29 yX1_insert, .instanceMethod yX1_insert, .selects RX1 yX1_insert yX1_insert, .code yX1_insert cX1_insert 4 none, .methodLink RX1 42 arraycopyName, .methodLink RL 17 yX9_join, .instanceMethod yX9_join, .selects RX9 yX9_join yX9_join, .code yX9_join cX9_join 7 (some .int), .fieldLink RX9 54 "FaceMapModel" "count" "I", .fieldLink RX9 82 "FaceMapModel" "isBuilt" "Z", .methodLink RX9 65 yX9_isIn, .static yX9_isIn, .code yX9_isIn cX9_isIn 2 (some .boolean), .constant RX9 52 (-500000), .constant RX9 53 (500000), .methodLink RX9 58 yX9_compare, .static yX9_compare, .code yX9_compare cX9_compare 4 (some .int), .methodLink RX9 72 yX9_from, .instanceMethod yX9_from, .selects RX9 yX9_from yX9_from, .code yX9_from cX9_from 7 (some .int), .methodLink RX9 75 yX9_isAt, .instanceMethod yX9_isAt, .selects RX9 yX9_isAt yX9_isAt, .code yX9_isAt cX9_isAt 6 (some .boolean), .methodLink RX9 69 yX9_join, .methodLink RL 18 yX6_cut, .instanceMethod yX6_cut, .selects RX6 yX6_cut yX6_cut, .code yX6_cut cX6_cut 6 (some .boolean), .methodLink RX6 83 yX6_numberOf, .instanceMethod yX6_numberOf, .selects RX6 yX6_numberOf yX6_numberOf, .code yX6_numberOf cX6_numberOf 13 (some .int), .methodLink RL 22 yX9_cut, .instanceMethod yX9_cut, .selects RX9 yX9_cut yX9_cut, .code yX9_cut cX9_cut 7 (some .boolean), .methodLink RX9 86 yX9_cut, .methodLink RL 23 yX6_count, .instanceMethod yX6_count, .selects RX6 yX6_count yX6_count, .code yX6_count cX6_count 2 (some .int), .fieldLink RX6 101 "FaceMap$Nodes" "size" "I", .fieldLink RX6 106 "FaceMap$Faces" "size" "I", .fieldLink RX6 107 "FaceMap$Faces" "parts" "I", .methodLink RX6 102 yX6_freshFaces, .instanceMethod yX6_freshFaces, .selects RX6 yX6_freshFaces yX6_freshFaces, .code yX6_freshFaces cX6_freshFaces 1 (some (.object "FaceMap$Faces")), .methodLink RL 27 yX9_count, .instanceMethod yX9_count, .selects RX9 yX9_count yX9_count, .code yX9_count cX9_count 2 (some .int), .fieldLink RX9 136 "FaceMapModel$Net" "faces" "I", .fieldLink RX9 106 "FaceMapModel$Net" "nodes" "I", .methodLink RX9 135 yX9_build, .instanceMethod yX9_build, .selects RX9 yX9_build yX9_build, .code yX9_build cX9_build 2 none, .fieldLink RX9 103 "FaceMapModel$Places" "size" "I", .fieldLink RX9 108 "FaceMapModel$Net" "pieces" "I", .methodLink RX9 90 yX8_clear, .instanceMethod yX8_clear, .selects RX8 yX8_clear yX8_clear, .code yX8_clear cX8_clear 1 none, .fieldLink RX8 13 "FaceMapModel$Places" "size" "I", .methodLink RX9 97 yX8_sort, .instanceMethod yX8_sort, .selects RX8 yX8_sort yX8_sort, .code yX8_sort cX8_sort 4 none, .methodLink RX9 100 yX7_room, .instanceMethod yX7_room, .selects RX7 yX7_room yX7_room, .code yX7_room cX7_room 3 none, .methodLink RX9 132 yX7_build, .instanceMethod yX7_build, .selects RX7 yX7_build yX7_build, .code yX7_build cX7_build 2 none, .fieldLink RX7 67 "FaceMapModel$Net" "nodes" "I", .fieldLink RX7 71 "FaceMapModel$Net" "pieces" "I", .fieldLink RX7 87 "FaceMapModel$Net" "rounds" "I", .methodLink RX7 81 yX7_sortOut, .instanceMethod yX7_sortOut, .selects RX7 yX7_sortOut yX7_sortOut, .code yX7_sortOut cX7_sortOut 6 none, .methodLink RX7 94 yX7_number, .instanceMethod yX7_number, .selects RX7 yX7_number yX7_number, .code yX7_number cX7_number 5 none, .fieldLink RX7 107 "FaceMapModel$Net" "faces" "I", .methodLink RX9 139 yX7_parts, .instanceMethod yX7_parts, .selects RX7 yX7_parts yX7_parts, .code yX7_parts cX7_parts 3 (some .int), .methodLink RL 28 yX6_node, .instanceMethod yX6_node, .selects RX6 yX6_node yX6_node, .code yX6_node cX6_node 3 (some .int), .constant RX6 110 (1000000), .methodLink RL 32 yX9_node, .instanceMethod yX9_node, .selects RX9 yX9_node yX9_node, .code yX9_node cX9_node 3 (some .int), .constant RX9 143 (1000000), .methodLink RL 33 yX6_piece, .instanceMethod yX6_piece, .selects RX6 yX6_piece yX6_piece, .code yX6_piece cX6_piece 3 (some .int), .methodLink RL 36 yX9_piece, .instanceMethod yX9_piece, .selects RX9 yX9_piece yX9_piece, .code yX9_piece cX9_piece 3 (some .int), .methodLink RL 37 yX6_left, .instanceMethod yX6_left, .selects RX6 yX6_left yX6_left, .code yX6_left cX6_left 7 (some .int), .methodLink RL 40 yX9_left, .instanceMethod yX9_left, .selects RX9 yX9_left yX9_left, .code yX9_left cX9_left 8 (some .int), .methodLink RL 41 yX6_face, .instanceMethod yX6_face, .selects RX6 yX6_face yX6_face, .code yX6_face cX6_face 4 (some .int), .fieldLink RX6 143 "FaceMap$Faces" "rings" "[I", .fieldLink RX6 146 "FaceMap$Faces" "ways" "[I", .fieldLink RX6 149 "FaceMap$Faces" "keyFrom" "[I", .fieldLink RX6 152 "FaceMap$Faces" "keyTo" "[I", .methodLink RX6 140 yX0_has, .instanceMethod yX0_has, .selects RX0 yX0_has yX0_has, .code yX0_has cX0_has 2 (some .boolean), .methodLink RL 44 yX9_face, .instanceMethod yX9_face, .selects RX9 yX9_face yX9_face, .code yX9_face cX9_face 4 (some .int), .methodLink RX9 150 yX9_isFace, .instanceMethod yX9_isFace, .selects RX9 yX9_isFace yX9_isFace, .code yX9_isFace cX9_isFace 2 (some .boolean), .methodLink RX9 160 yX7_keyOf, .instanceMethod yX7_keyOf, .selects RX7 yX7_keyOf yX7_keyOf, .code yX7_keyOf cX7_keyOf 3 (some .int), .methodLink RX9 157 yX7_waysOf, .instanceMethod yX7_waysOf, .selects RX7 yX7_waysOf yX7_waysOf, .code yX7_waysOf cX7_waysOf 4 (some .int), .methodLink RX9 154 yX7_ringsOf, .instanceMethod yX7_ringsOf, .selects RX7 yX7_ringsOf yX7_ringsOf, .code yX7_ringsOf cX7_ringsOf 4 (some .int), .methodLink RL 45 yX6_area2, .instanceMethod yX6_area2, .selects RX6 yX6_area2 yX6_area2, .code yX6_area2 cX6_area2 3 (some .long), .methodLink RL 49 yX9_area2, .instanceMethod yX9_area2, .selects RX9 yX9_area2 yX9_area2, .code yX9_area2 cX9_area2 2 (some .long), .methodLink RL 50 yX6_locate, .instanceMethod yX6_locate, .selects RX6 yX6_locate yX6_locate, .code yX6_locate cX6_locate 6 (some .int), .methodLink RX6 158 yX2_firstOn, .instanceMethod yX2_firstOn, .selects RX2 yX2_firstOn yX2_firstOn, .code yX2_firstOn cX2_firstOn 4 (some .int), .methodLink RX6 161 yX2_nextBelow, .instanceMethod yX2_nextBelow, .selects RX2 yX2_nextBelow yX2_nextBelow, .code yX2_nextBelow cX2_nextBelow 6 (some .int), .methodLink RX6 164 yX0_above, .instanceMethod yX0_above, .selects RX0 yX0_above yX0_above, .code yX0_above cX0_above 2 (some .int), .methodLink RL 53 yX9_locate, .instanceMethod yX9_locate, .selects RX9 yX9_locate yX9_locate, .code yX9_locate cX9_locate 4 (some .int), .methodLink RX9 176 yX7_inside, .instanceMethod yX7_inside, .selects RX7 yX7_inside yX7_inside, .code yX7_inside cX7_inside 9 (some .int), .methodLink RL 54 yX6_between, .instanceMethod yX6_between, .selects RX6 yX6_between yX6_between, .code yX6_between cX6_between 4 (some .int), .methodLink RX6 167 yX0_piecesBetween, .instanceMethod yX0_piecesBetween, .selects RX0 yX0_piecesBetween yX0_piecesBetween, .code yX0_piecesBetween cX0_piecesBetween 7 (some .int), .fieldLink RX0 71 "FaceMap$Pieces" "size" "I", .methodLink RL 57 yX9_between, .instanceMethod yX9_between, .selects RX9 yX9_between yX9_between, .code yX9_between cX9_between 7 (some .int)] ++ wsX00 ++ wsX10 ++ wsX20 ++ wsX40 ++ wsX60 ++ wsX70 ++ wsX80 ++ wsX90
set_option maxRecDepth 100000 in
theorem vsL_in : ∀ w ∈ vsL_law, w ∈ lw_tbl := fun w h => (goodIn_r (big := lw_tbl) vsL_law [142, 79, 53, 101, 45, 481, 547, 475, 99, 77, 545, 44, 31, 46, 47, 474, 37, 476, 477, 48, 49, 50, 51, 52, 32, 54, 55, 205, 78, 33, 80, 81, 206, 100, 34, 102, 103, 207, 141, 35, 143, 144, 208, 209, 56, 57, 58, 62, 66, 82, 83, 84, 87, 89, 104, 105, 114, 115, 106, 107, 108, 109, 110, 112, 0, 113, 117, 119, 120, 122, 145, 146, 163, 164, 165, 147, 148, 150, 1, 151, 166, 168, 170, 172, 174, 176, 152, 154, 2, 155, 178, 180, 156, 157, 36, 158, 159, 161, 3, 162, 478, 479, 560, 480, 38, 483, 562, 546, 39, 549, 563, 484, 485, 486, 488, 492, 494, 498, 499, 500, 501, 502, 503, 504, 506, 509, 550, 551, 552, 221, 222, 223, 224, 233, 234, 41, 235, 236, 237, 238, 67, 225, 226, 40, 227, 228, 229, 230, 231, 232, 239, 240, 241, 242, 243, 244, 245, 246, 247, 248, 249, 250, 264, 265, 266, 267, 284, 283, 282, 42, 285, 286, 287, 288, 289, 290, 291, 292, 293, 294, 295, 296, 297, 298, 299, 300, 310, 576, 577, 578, 579, 561, 564, 580, 581, 582, 583, 584, 585, 586, 587, 589, 591, 16, 592, 593, 595, 17, 596, 588, 311, 312, 313, 314, 315, 317, 4, 318, 618, 619, 620, 621, 622, 328, 329, 330, 331, 91, 179, 181, 332, 334, 5, 335, 623, 624, 625, 626, 508, 491, 627, 629, 19, 630, 554, 497, 631, 632, 633, 634, 553, 643, 644, 645, 646, 651, 652, 653, 654, 668, 669, 670, 671, 490, 496, 505, 672, 674, 21, 675, 713, 715, 27, 716, 507, 725, 726, 727, 728, 417, 418, 419, 420, 421, 729, 730, 731, 732, 733, 424, 425, 426, 427, 738, 739, 740, 741, 431, 432, 433, 434, 746, 747, 748, 749, 435, 436, 437, 438, 169, 171, 173, 175, 439, 440, 441, 442, 750, 751, 752, 753, 754, 756, 29, 757, 767, 768, 769, 770, 762, 763, 764, 765, 758, 759, 760, 761, 443, 444, 445, 446, 773, 774, 775, 776, 447, 448, 449, 450, 451, 452, 453, 454, 456, 457, 458, 459, 464, 410, 411, 412, 781, 782, 783, 784, 788, 722, 723, 724, 465, 466, 467, 468, 469, 470, 471, 472, 68, 789, 790, 791, 792, 182, 184, 186, 188, 190, 192, 194, 196, 198, 200, 202, 92, 94, 96, 70, 72, 74, 124, 126, 128, 130, 132, 134, 136, 138, 210, 212, 214, 216, 218, 510, 512, 514, 516, 518, 520, 522, 524, 526, 528, 530, 532, 534, 536, 538, 540, 542, 555, 557, 565, 567, 569, 571, 573] rfl (by decide +kernel) w h).1
set_option maxRecDepth 20000 in
theorem n_L_law_X0 : ∀ w ∈ wsX00, w ∈ vsL_law := fun _ h => List.mem_append_left _ (List.mem_append_left _ (List.mem_append_left _ (List.mem_append_left _ (List.mem_append_left _ (List.mem_append_left _ (List.mem_append_left _ (List.mem_append_right _ h)))))))
set_option maxRecDepth 20000 in
theorem n_L_law_X1 : ∀ w ∈ wsX10, w ∈ vsL_law := fun _ h => List.mem_append_left _ (List.mem_append_left _ (List.mem_append_left _ (List.mem_append_left _ (List.mem_append_left _ (List.mem_append_left _ (List.mem_append_right _ h))))))
set_option maxRecDepth 20000 in
theorem n_L_law_X2 : ∀ w ∈ wsX20, w ∈ vsL_law := fun _ h => List.mem_append_left _ (List.mem_append_left _ (List.mem_append_left _ (List.mem_append_left _ (List.mem_append_left _ (List.mem_append_right _ h)))))
set_option maxRecDepth 20000 in
theorem n_L_law_X4 : ∀ w ∈ wsX40, w ∈ vsL_law := fun _ h => List.mem_append_left _ (List.mem_append_left _ (List.mem_append_left _ (List.mem_append_left _ (List.mem_append_right _ h))))
set_option maxRecDepth 20000 in
theorem n_L_law_X6 : ∀ w ∈ wsX60, w ∈ vsL_law := fun _ h => List.mem_append_left _ (List.mem_append_left _ (List.mem_append_left _ (List.mem_append_right _ h)))
set_option maxRecDepth 20000 in
theorem n_L_law_X7 : ∀ w ∈ wsX70, w ∈ vsL_law := fun _ h => List.mem_append_left _ (List.mem_append_left _ (List.mem_append_right _ h))
set_option maxRecDepth 20000 in
theorem n_L_law_X8 : ∀ w ∈ wsX80, w ∈ vsL_law := fun _ h => List.mem_append_left _ (List.mem_append_right _ h)
set_option maxRecDepth 20000 in
theorem n_L_law_X9 : ∀ w ∈ wsX90, w ∈ vsL_law := fun _ h => List.mem_append_right _ h
set_option maxRecDepth 20000 in
theorem g_L_law_X6_init_9 : GoodIn vsL_law vsX6_init := goodIn_r _ [19, 20, 21, 22, 23, 2, 24, 25, 26, 27, 28, 1, 29, 30, 31, 32, 33, 3, 34, 35, 36, 37, 38, 0, 39, 40, 41, 42, 43, 44, 45, 9, 46, 47, 48, 49, 50, 51, 8, 52, 53, 54, 55, 56, 57, 58, 59, 60, 61, 62, 63, 64, 65, 66, 67, 68, 69, 70, 71, 72, 73, 74, 75, 76, 77, 78, 79, 80, 81, 82, 83, 84, 85, 86, 87, 88, 89, 90, 91, 92, 93, 94, 95, 96, 97, 98, 99, 396, 397, 398, 407, 408, 409, 410, 411, 393, 394, 395, 399, 400, 401, 402, 403, 404, 405, 406, 382, 383, 384, 385, 386, 387, 388, 389, 390, 391, 392] rfl (by decide +kernel)
set_option maxRecDepth 20000 in
theorem g_L_law_X9_init_12 : GoodIn vsL_law vsX9_init := goodIn_r _ [100, 101, 21, 22, 8, 102, 103, 5, 104, 105, 106, 107, 6, 108, 109, 110, 111, 112, 113, 114, 115, 116, 117, 118, 119, 120, 9, 121, 122, 123, 124, 10, 125, 126, 127, 128, 431, 432, 433, 434, 435, 412, 413, 414, 415, 416, 417, 418, 419, 420, 421, 422, 423, 424, 425, 426, 427, 428, 429, 430] rfl (by decide +kernel)
set_option maxRecDepth 20000 in
theorem g_L_law_X6_join_13 : GoodIn vsL_law (wsV RL 13 RX6 yX6_join vsX6_join) := goodIn_r _ [129, 130, 131, 12, 132, 133, 134, 135, 136, 137, 138, 139, 27, 140, 32, 43, 141, 142, 143, 144, 145, 146, 147, 148, 149, 150, 151, 152, 24, 153, 48, 154, 155, 156, 157, 158, 159, 160, 161, 162, 163, 164, 165, 46, 166, 167, 168, 169, 47, 170, 171, 172, 29, 173, 52, 174, 175, 176, 177, 53, 51, 178, 179, 180, 181, 182, 183, 184, 185, 186, 407, 408, 409, 410, 411, 396, 397, 398, 393, 394, 395] rfl (by decide +kernel)
set_option maxRecDepth 20000 in
theorem g_L_law_X9_join_17 : GoodIn vsL_law (wsV RL 17 RX9 yX9_join vsX9_join) := goodIn_r _ [187, 188, 189, 16, 190, 191, 102, 192, 193, 194, 16, 195, 196, 197, 198, 199, 200, 201, 202, 203, 204, 205, 206, 207, 208, 209, 188, 189, 431, 432, 433, 434, 435] rfl (by decide +kernel)
set_option maxRecDepth 20000 in
theorem g_L_law_X6_cut_18 : GoodIn vsL_law (wsV RL 18 RX6 yX6_cut vsX6_cut) := goodIn_r _ [210, 211, 212, 12, 213, 214, 215, 216, 12, 217, 133, 134, 135, 136, 137, 138, 139, 27, 141, 142, 143, 144, 145, 146, 147, 148, 149, 150, 151, 152, 24, 153, 48, 154, 155, 156, 157, 407, 408, 409, 410, 411, 396, 397, 398] rfl (by decide +kernel)
set_option maxRecDepth 20000 in
theorem g_L_law_X9_cut_22 : GoodIn vsL_law (wsV RL 22 RX9 yX9_cut vsX9_cut) := goodIn_r _ [218, 219, 220, 16, 221, 198, 199, 16, 200, 201, 202, 203, 204, 191, 205, 206, 207, 208, 222, 219, 220, 431, 432, 433, 434, 435] rfl (by decide +kernel)
set_option maxRecDepth 20000 in
theorem g_L_law_X6_count_23 : GoodIn vsL_law (wsV RL 23 RX6 yX6_count vsX6_count) := goodIn_r _ [223, 224, 225, 12, 226, 32, 227, 27, 140, 228, 229, 230, 231, 232, 12, 233, 43, 42, 407, 408, 409, 410, 411, 393, 394, 395, 396, 397, 398, 382, 383, 384, 385, 386, 387, 388, 389, 390, 391, 392] rfl (by decide +kernel)
set_option maxRecDepth 20000 in
theorem g_L_law_X9_count_27 : GoodIn vsL_law (wsV RL 27 RX9 yX9_count vsX9_count) := goodIn_r _ [234, 235, 236, 16, 237, 106, 238, 191, 239, 240, 241, 242, 16, 243, 192, 110, 244, 245, 246, 247, 248, 108, 249, 250, 251, 252, 253, 254, 255, 256, 257, 104, 258, 113, 8, 114, 117, 124, 115, 116, 118, 119, 120, 9, 121, 122, 123, 10, 125, 259, 260, 261, 262, 263, 264, 265, 266, 267, 268, 269, 270, 271, 272, 273, 274, 275, 276, 277, 278, 431, 432, 433, 434, 435, 412, 413, 414, 415, 416, 417, 418, 419, 420, 421, 422, 423, 424, 425, 426, 427, 428, 429, 430] rfl (by decide +kernel)
set_option maxRecDepth 20000 in
theorem g_L_law_X6_node_28 : GoodIn vsL_law (wsV RL 28 RX6 yX6_node vsX6_node) := goodIn_r _ [279, 280, 281, 12, 282, 283, 32, 227, 407, 408, 409, 410, 411, 393, 394, 395] rfl (by decide +kernel)
set_option maxRecDepth 20000 in
theorem g_L_law_X9_node_32 : GoodIn vsL_law (wsV RL 32 RX9 yX9_node vsX9_node) := goodIn_r _ [284, 285, 286, 16, 287, 288, 106, 239, 240, 241, 242, 16, 243, 192, 110, 191, 244, 245, 246, 247, 248, 108, 249, 250, 251, 252, 253, 254, 255, 256, 257, 104, 258, 113, 8, 114, 117, 124, 115, 116, 118, 119, 120, 9, 121, 122, 123, 10, 125, 259, 260, 261, 262, 263, 264, 265, 266, 267, 268, 269, 270, 271, 272, 273, 274, 431, 432, 433, 434, 435, 412, 413, 414, 415, 416, 417, 418, 419, 420, 421, 422, 423, 424, 425, 426, 427, 428, 429, 430] rfl (by decide +kernel)
set_option maxRecDepth 20000 in
theorem g_L_law_X6_piece_33 : GoodIn vsL_law (wsV RL 33 RX6 yX6_piece vsX6_piece) := goodIn_r _ [289, 290, 291, 12, 292, 27, 140, 407, 408, 409, 410, 411, 396, 397, 398] rfl (by decide +kernel)
set_option maxRecDepth 20000 in
theorem g_L_law_X9_piece_36 : GoodIn vsL_law (wsV RL 36 RX9 yX9_piece vsX9_piece) := goodIn_r _ [293, 294, 295, 16, 296, 191, 240, 241, 242, 16, 243, 192, 110, 106, 244, 239, 245, 246, 247, 248, 108, 249, 250, 251, 252, 253, 254, 255, 256, 257, 104, 258, 113, 8, 114, 117, 124, 115, 116, 118, 119, 120, 9, 121, 122, 123, 10, 125, 259, 260, 261, 262, 263, 264, 265, 266, 267, 268, 269, 270, 271, 272, 273, 274, 431, 432, 433, 434, 435, 429, 430, 412, 413, 414, 415, 416, 417, 418, 419, 420, 421, 422, 423, 424, 425, 426, 427, 428] rfl (by decide +kernel)
set_option maxRecDepth 20000 in
theorem g_L_law_X6_left_37 : GoodIn vsL_law (wsV RL 37 RX6 yX6_left vsX6_left) := goodIn_r _ [297, 298, 299, 12, 300, 214, 215, 216, 12, 217, 133, 134, 135, 136, 137, 138, 139, 27, 141, 142, 143, 144, 145, 146, 147, 148, 149, 150, 151, 152, 24, 153, 48, 154, 155, 156, 157, 407, 408, 409, 410, 411, 396, 397, 398] rfl (by decide +kernel)
set_option maxRecDepth 20000 in
theorem g_L_law_X9_left_40 : GoodIn vsL_law (wsV RL 40 RX9 yX9_left vsX9_left) := goodIn_r _ [301, 302, 303, 16, 304, 240, 241, 242, 16, 243, 192, 110, 191, 106, 244, 239, 245, 246, 247, 248, 108, 249, 250, 251, 252, 253, 254, 255, 256, 257, 104, 258, 113, 8, 114, 117, 124, 115, 116, 118, 119, 120, 9, 121, 122, 123, 10, 125, 259, 260, 261, 262, 263, 264, 265, 266, 267, 268, 269, 270, 271, 272, 273, 274, 198, 199, 200, 201, 202, 203, 204, 205, 206, 207, 208, 431, 432, 433, 434, 435, 429, 430, 412, 413, 414, 415, 416, 417, 418, 419, 420, 421, 422, 423, 424, 425, 426, 427, 428] rfl (by decide +kernel)
set_option maxRecDepth 20000 in
theorem g_L_law_X6_face_41 : GoodIn vsL_law (wsV RL 41 RX6 yX6_face vsX6_face) := goodIn_r _ [305, 306, 307, 12, 308, 309, 310, 311, 312, 230, 231, 232, 12, 233, 43, 42, 313, 314, 315, 39, 316, 90, 382, 383, 384, 385, 386, 387, 388, 389, 390, 391, 392, 407, 408, 409, 410, 411] rfl (by decide +kernel)
set_option maxRecDepth 20000 in
theorem g_L_law_X9_face_44 : GoodIn vsL_law (wsV RL 44 RX9 yX9_face vsX9_face) := goodIn_r _ [317, 318, 319, 16, 320, 106, 240, 241, 242, 16, 243, 192, 110, 191, 244, 239, 245, 246, 247, 248, 108, 249, 250, 251, 252, 253, 254, 255, 256, 257, 104, 258, 113, 8, 114, 117, 124, 115, 116, 118, 119, 120, 9, 121, 122, 123, 10, 125, 259, 260, 261, 262, 263, 264, 265, 266, 267, 268, 269, 270, 271, 272, 273, 274, 321, 322, 323, 324, 238, 325, 326, 327, 328, 329, 330, 331, 332, 333, 334, 335, 336, 431, 432, 433, 434, 435, 429, 430, 412, 413, 414, 415, 416, 417, 418, 419, 420, 421, 422, 423, 424, 425, 426, 427, 428] rfl (by decide +kernel)
set_option maxRecDepth 20000 in
theorem g_L_law_X6_area2_45 : GoodIn vsL_law (wsV RL 45 RX6 yX6_area2 vsX6_area2) := goodIn_r _ [337, 338, 339, 12, 340, 230, 231, 232, 12, 233, 43, 42, 313, 314, 315, 39, 316, 90, 407, 408, 409, 410, 411, 382, 383, 384, 385, 386, 387, 388, 389, 390, 391, 392] rfl (by decide +kernel)
set_option maxRecDepth 20000 in
theorem g_L_law_X9_area2_49 : GoodIn vsL_law (wsV RL 49 RX9 yX9_area2 vsX9_area2) := goodIn_r _ [341, 342, 343, 16, 344, 240, 241, 242, 16, 243, 192, 110, 191, 106, 244, 239, 245, 246, 247, 248, 108, 249, 250, 251, 252, 253, 254, 255, 256, 257, 104, 258, 113, 8, 114, 117, 124, 115, 116, 118, 119, 120, 9, 121, 122, 123, 10, 125, 259, 260, 261, 262, 263, 264, 265, 266, 267, 268, 269, 270, 271, 272, 273, 274, 321, 322, 323, 324, 238, 431, 432, 433, 434, 435, 429, 430, 412, 413, 414, 415, 416, 417, 418, 419, 420, 421, 422, 423, 424, 425, 426, 427, 428] rfl (by decide +kernel)
set_option maxRecDepth 20000 in
theorem g_L_law_X6_locate_50 : GoodIn vsL_law (wsV RL 50 RX6 yX6_locate vsX6_locate) := goodIn_r _ [345, 346, 347, 12, 348, 27, 141, 142, 143, 144, 145, 146, 147, 148, 149, 349, 350, 351, 24, 352, 48, 230, 231, 232, 12, 233, 43, 42, 353, 354, 355, 356, 357, 358, 359, 39, 360, 407, 408, 409, 410, 411, 396, 397, 398] rfl (by decide +kernel)
set_option maxRecDepth 20000 in
theorem g_L_law_X9_locate_53 : GoodIn vsL_law (wsV RL 53 RX9 yX9_locate vsX9_locate) := goodIn_r _ [361, 362, 363, 16, 364, 191, 106, 240, 241, 242, 16, 243, 192, 110, 244, 239, 245, 246, 247, 248, 108, 249, 250, 251, 252, 253, 254, 255, 256, 257, 104, 258, 113, 8, 114, 117, 124, 115, 116, 118, 119, 120, 9, 121, 122, 123, 10, 125, 259, 260, 261, 262, 263, 264, 265, 266, 267, 268, 269, 270, 271, 272, 273, 274, 365, 366, 367, 368, 431, 432, 433, 434, 435, 429, 430, 412, 413, 414, 415, 416, 417, 418, 419, 420, 421, 422, 423, 424, 425, 426, 427, 428] rfl (by decide +kernel)
set_option maxRecDepth 20000 in
theorem g_L_law_X6_between_54 : GoodIn vsL_law (wsV RL 54 RX6 yX6_between vsX6_between) := goodIn_r _ [369, 370, 371, 12, 372, 230, 231, 232, 12, 233, 43, 42, 313, 314, 315, 39, 316, 90, 373, 374, 375, 376, 72, 377, 407, 408, 409, 410, 411, 382, 383, 384, 385, 386, 387, 388, 389, 390, 391, 392, 396, 397, 398] rfl (by decide +kernel)
set_option maxRecDepth 20000 in
theorem g_L_law_X9_between_57 : GoodIn vsL_law (wsV RL 57 RX9 yX9_between vsX9_between) := goodIn_r _ [378, 379, 380, 16, 381, 191, 240, 241, 242, 16, 243, 192, 110, 106, 244, 239, 245, 246, 247, 248, 108, 249, 250, 251, 252, 253, 254, 255, 256, 257, 104, 258, 113, 8, 114, 117, 124, 115, 116, 118, 119, 120, 9, 121, 122, 123, 10, 125, 259, 260, 261, 262, 263, 264, 265, 266, 267, 268, 269, 270, 271, 272, 273, 274, 321, 322, 323, 324, 238, 431, 432, 433, 434, 435, 429, 430, 412, 413, 414, 415, 416, 417, 418, 419, 420, 421, 422, 423, 424, 425, 426, 427, 428] rfl (by decide +kernel)
theorem inX0 : ∀ w ∈ wsX00, w ∈ lw_tbl := fun w h => vsL_in w (n_L_law_X0 w h)
theorem inX1 : ∀ w ∈ wsX10, w ∈ lw_tbl := fun w h => vsL_in w (n_L_law_X1 w h)
theorem inX2 : ∀ w ∈ wsX20, w ∈ lw_tbl := fun w h => vsL_in w (n_L_law_X2 w h)
theorem inX4 : ∀ w ∈ wsX40, w ∈ lw_tbl := fun w h => vsL_in w (n_L_law_X4 w h)
theorem inX6 : ∀ w ∈ wsX60, w ∈ lw_tbl := fun w h => vsL_in w (n_L_law_X6 w h)
theorem inX7 : ∀ w ∈ wsX70, w ∈ lw_tbl := fun w h => vsL_in w (n_L_law_X7 w h)
theorem inX8 : ∀ w ∈ wsX80, w ∈ lw_tbl := fun w h => vsL_in w (n_L_law_X8 w h)
theorem inX9 : ∀ w ∈ wsX90, w ∈ lw_tbl := fun w h => vsL_in w (n_L_law_X9 w h)
end
