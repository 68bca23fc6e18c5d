def vsX6_freshFaces : List Cond := .code yX6_freshFaces cX6_freshFaces 1 (some (.object "FaceMap$Faces")) :: ([.fieldLink RX6 41 "FaceMap" "facesAreOld" "Z", .fieldLink RX6 37 "FaceMap" "faces" "LFaceMap$Faces;"] ++ wsX60)
set_option maxRecDepth 20000 in
theorem n_X6_freshFaces_X6 : ∀ w ∈ wsX60, w ∈ vsX6_freshFaces := fun _ h => List.mem_cons_of_mem _ (List.mem_append_right _ h)
set_option maxHeartbeats 4000000 in
set_option maxRecDepth 100000 in
/-- freshFaces, nothing to build -/
theorem c_X6_freshFaces (l : Launch) (D : va_G) (aI aL aZ : ClassId) (h0 : Nat) (ph : Nat) (nh : Nat) (sh : Nat) (fh : Nat) (sz : Nat) : MR l D q_cl (q_ty aI aL aZ) yX6_freshFaces vsX6_freshFaces 0 0 0 [.ref h0] [(h0, .inr (4, [.ref ph, .ref nh, .ref sh, .ref fh, .int 0]))] sz (fun (u : Unit) => True) (fun (u : Unit) => [(h0, .inr (4, [.ref ph, .ref nh, .ref sh, .ref fh, .int 0]))]) (fun (u : Unit) => fh) := by
  refine q_in cX6_freshFaces 1 (some (.object "FaceMap$Faces")) (qQr D q_cl (q_ty aI aL aZ) _ _ _) (by decide) rfl (Nat.le_of_ble_eq_true rfl) ?_
  intro p e s m args below meth c A ls hat hP hD hS hl
  obtain ⟨hx, hb, hr, hts, hown, hlocks, hml, hin, hK, hN, hA⟩ := hat
  have hown : s.vm.findClass RX6 = some m.cls := hown
  have hl : lv_has ls 1 [(0, .ref h0)] := hl
  refine lv_aload_n hx hb dX6_freshFaces_0 rfl (lv_at hl 0 rfl) ?_
  refine va_get (D := D) (ci := 4) (v := .int 0) (C := RX6) (T := TX6) (N := 5) hx hb hts n_X6_freshFaces_X6 hown hK hP 0 rfl rfl 4 (by decide) (hts (.fieldLink RX6 41 "FaceMap" "facesAreOld" "Z") (List.mem_of_getElem? (i := 1) rfl)) (fun _ h9 => h9) rfl dX6_freshFaces_1 ?_
  refine lv_if_eq (tgt := 26) hx hb dX6_freshFaces_4 (by decide) (fun c_1 => ?_) (fun c_1 => ?_)
  · refine lv_aload_n hx hb dX6_freshFaces_26 rfl (lv_at hl 0 rfl) ?_
    refine va_get (D := D) (ci := 4) (v := .ref fh) (C := RX6) (T := TX6) (N := 5) hx hb hts n_X6_freshFaces_X6 hown hK hP 0 rfl rfl 3 (by decide) (hts (.fieldLink RX6 37 "FaceMap" "faces" "LFaceMap$Faces;") (List.mem_of_getElem? (i := 2) rfl)) (fun _ h9 => h9) rfl dX6_freshFaces_27 ?_
    have hP9 := hP.sub (ws' := [(h0, .inr (4, [.ref ph, .ref nh, .ref sh, .ref fh, .int 0]))]) [0] rfl
    have hD9 := hD.sub (ws' := [(h0, .inr (4, [.ref ph, .ref nh, .ref sh, .ref fh, .int 0]))]) [0] (by decide) rfl
    exact q_reta () hx hb hr hlocks hK hP9 hD9 hS (Nat.le_of_ble_eq_true rfl) (Nat.le_of_ble_eq_true rfl) (trivial) rfl dX6_freshFaces_30
  · exact absurd c_1 (by decide)
def vsX6_numberOf : List Cond := .code yX6_numberOf cX6_numberOf 13 (some .int) :: ([.methodLink RX6 55 Lib.MathLoose.min_long.x, .static Lib.MathLoose.min_long.x, .initialized "java/lang/Math", .code Lib.MathLoose.min_long.x Lib.MathLoose.min_long.code 4 (some .long), .methodLink RX6 61 Lib.MathLoose.max_long.x, .static Lib.MathLoose.max_long.x, .code Lib.MathLoose.max_long.x Lib.MathLoose.max_long.code 4 (some .long), .fieldLink RX6 10 "FaceMap" "pieces" "LFaceMap$Pieces;", .methodLink RX6 45 yX3_inBounds, .static yX3_inBounds, .initialized RX3, .code yX3_inBounds cX3_inBounds 2 (some .boolean), .constant RX3 9 (-500000), .constant RX3 10 (500000), .methodLink RX6 51 yX3_of, .static yX3_of, .code yX3_of cX3_of 2 (some .long), .methodLink RX6 64 yX2_has, .instanceMethod yX2_has, .selects RX2 yX2_has yX2_has, .initialized RX2, .code yX2_has cX2_has 6 (some .boolean), .fieldLink RX2 16 "FaceMap$Pieces" "size" "I", .methodLink RX2 20 yX2_rank, .instanceMethod yX2_rank, .selects RX2 yX2_rank yX2_rank, .code yX2_rank cX2_rank 8 (some .int)] ++ wsX60 ++ wsX20)
set_option maxRecDepth 20000 in
theorem g_X6_numberOf_X3_inBounds_45 : GoodIn vsX6_numberOf (va_wsS RX6 45 yX3_inBounds vsX3_inBounds) := goodIn_r _ [9, 10, 11, 12, 13, 14] rfl (by decide +kernel)
set_option maxRecDepth 20000 in
theorem g_X6_numberOf_X3_of_51 : GoodIn vsX6_numberOf (va_wsS RX6 51 yX3_of vsX3_of) := goodIn_r _ [15, 16, 11, 17, 14] rfl (by decide +kernel)
set_option maxRecDepth 20000 in
theorem n_X6_numberOf_X6 : ∀ w ∈ wsX60, w ∈ vsX6_numberOf := fun _ h => List.mem_cons_of_mem _ (List.mem_append_left _ (List.mem_append_right _ h))
set_option maxRecDepth 20000 in
theorem g_X6_numberOf_X2_has_64 : GoodIn vsX6_numberOf (wsV RX6 64 RX2 yX2_has vsX2_has) := goodIn_r _ [18, 19, 20, 21, 22, 23, 24, 25, 26, 21, 27, 33, 34, 35] rfl (by decide +kernel)
set_option maxHeartbeats 4000000 in
set_option maxRecDepth 100000 in
/-- numberOf, with no piece -/
theorem c_X6_numberOf (l : Launch) (D : va_G) (aI aL aZ : ClassId) (h0 : Nat) (ph : Nat) (nh : Nat) (sh : Nat) (fh : Nat) (lo : Nat) (hi : Nat) (x1 : Int32) (y1 : Int32) (x2 : Int32) (y2 : Int32) (sz : Nat) : MI l D q_cl (q_ty aI aL aZ) yX6_numberOf vsX6_numberOf 2 0 0 [.ref h0, .int x1, .int y1, .int x2, .int y2] [(h0, .inr (4, [.ref ph, .ref nh, .ref sh, .ref fh, .int 0])), (ph, .inr (2, [.ref lo, .ref hi, .int 0]))] sz (fun (r : Int32) (u : Unit) => r = (-1)) (fun (u : Unit) => [(h0, .inr (4, [.ref ph, .ref nh, .ref sh, .ref fh, .int 0])), (ph, .inr (2, [.ref lo, .ref hi, .int 0]))]) := by
  refine q_in cX6_numberOf 13 (some .int) (qQi D q_cl (q_ty aI aL aZ) _ _) (by decide) rfl (Nat.le_of_ble_eq_true rfl) ?_
  intro p e s m args below meth c A ls hat hP hD hS hl
  obtain ⟨hx, hb, hr, hts, hown, hlocks, hml, hin, hK, hN, hA⟩ := hat
  have hown : s.vm.findClass RX6 = some m.cls := hown
  have hl : lv_has ls 13 [(0, .ref h0), (1, .int x1), (2, .int y1), (3, .int x2), (4, .int y2)] := hl
  refine lv_iload_n hx hb dX6_numberOf_0 rfl (lv_at hl 1 rfl) ?_
  refine lv_iload_n hx hb dX6_numberOf_1 rfl (lv_at hl 2 rfl) ?_
  refine q_i (wr := [(h0, .inr (4, [.ref ph, .ref nh, .ref sh, .ref fh, .int 0])), (ph, .inr (2, [.ref lo, .ref hi, .int 0]))]) (q_runS (As := [.int x1, .int y1]) (rest := []) ⟨hx, hb, hml, hown, hts⟩ (c_X3_inBounds l D aI aL aZ x1 y1 _) (va_cwS 2 hts g_X6_numberOf_X3_inBounds_45 rfl rfl rfl (by decide +kernel) ⟨Nat.le_of_ble_eq_true rfl, Nat.le_of_ble_eq_true rfl⟩) hK hN hP hD [] rfl (by decide) rfl hl.1 rfl (Nat.le_of_ble_eq_true rfl) dX6_numberOf_2 ⟨Nat.le_of_ble_eq_true rfl, Nat.le_of_ble_eq_true rfl⟩) hP hD hS hA [] [0, 1] rfl rfl (by decide) (by decide) (fun r_1 u_1 H locs hw hP hD hS => ?_)
  rcases hw with ⟨rfl, f1_0⟩ | ⟨rfl, f1_0⟩
  · have hP : va_P D q_cl [(h0, .inr (4, [.ref ph, .ref nh, .ref sh, .ref fh, .int 0])), (ph, .inr (2, [.ref lo, .ref hi, .int 0]))] H := hP
    have hD : va_D A [(h0, .inr (4, [.ref ph, .ref nh, .ref sh, .ref fh, .int 0])), (ph, .inr (2, [.ref lo, .ref hi, .int 0]))] := hD
    refine lv_if_eq (tgt := 17) hx hb dX6_numberOf_5 (by decide) (fun c_2 => ?_) (fun c_2 => ?_)
    · exact absurd c_2 (by decide)
    · refine lv_iload_n hx hb dX6_numberOf_8 rfl (lv_at hl 3 rfl) ?_
      refine lv_iload hx hb dX6_numberOf_9 (lv_at hl 4 rfl) ?_
      refine q_i (wr := [(h0, .inr (4, [.ref ph, .ref nh, .ref sh, .ref fh, .int 0])), (ph, .inr (2, [.ref lo, .ref hi, .int 0]))]) (q_runS (As := [.int x2, .int y2]) (rest := []) ⟨hx, hb, hml, hown, hts⟩ (c_X3_inBounds l D aI aL aZ x2 y2 _) (va_cwS 2 hts g_X6_numberOf_X3_inBounds_45 rfl rfl rfl (by decide +kernel) ⟨Nat.le_of_ble_eq_true rfl, Nat.le_of_ble_eq_true rfl⟩) hK hN hP hD [] rfl (by decide) rfl hl.1 rfl (Nat.le_of_ble_eq_true rfl) dX6_numberOf_11 ⟨Nat.le_of_ble_eq_true rfl, Nat.le_of_ble_eq_true rfl⟩) hP hD hS hA [] [0, 1] rfl rfl (by decide) (by decide) (fun r_3 u_3 H locs hw hP hD hS => ?_)
      rcases hw with ⟨rfl, f3_0⟩ | ⟨rfl, f3_0⟩
      · have hP : va_P D q_cl [(h0, .inr (4, [.ref ph, .ref nh, .ref sh, .ref fh, .int 0])), (ph, .inr (2, [.ref lo, .ref hi, .int 0]))] H := hP
        have hD : va_D A [(h0, .inr (4, [.ref ph, .ref nh, .ref sh, .ref fh, .int 0])), (ph, .inr (2, [.ref lo, .ref hi, .int 0]))] := hD
        refine lv_if_ne (tgt := 19) hx hb dX6_numberOf_14 (by decide) (fun c_4 => ?_) (fun c_4 => ?_)
        · refine lv_iload_n hx hb dX6_numberOf_19 rfl (lv_at hl 1 rfl) ?_
          refine lv_iload_n hx hb dX6_numberOf_20 rfl (lv_at hl 2 rfl) ?_
          refine q_l (wr := [(h0, .inr (4, [.ref ph, .ref nh, .ref sh, .ref fh, .int 0])), (ph, .inr (2, [.ref lo, .ref hi, .int 0]))]) (q_runS (As := [.int x1, .int y1]) (rest := []) ⟨hx, hb, hml, hown, hts⟩ (c_X3_of l D aI aL aZ x1 y1 _) (va_cwS 2 hts g_X6_numberOf_X3_of_51 rfl rfl rfl (by decide +kernel) ⟨Nat.le_of_ble_eq_true rfl, Nat.le_of_ble_eq_true rfl⟩) hK hN hP hD [] rfl (by decide) rfl hl.1 rfl (Nat.le_of_ble_eq_true rfl) dX6_numberOf_21 ⟨Nat.le_of_ble_eq_true rfl, Nat.le_of_ble_eq_true rfl⟩) hP hD hS hA [] [0, 1] rfl rfl (by decide) (by decide) (fun r_5 u_5 H locs hw hP hD hS => ?_)
          subst hw
          have hP : va_P D q_cl [(h0, .inr (4, [.ref ph, .ref nh, .ref sh, .ref fh, .int 0])), (ph, .inr (2, [.ref lo, .ref hi, .int 0]))] H := hP
          have hD : va_D A [(h0, .inr (4, [.ref ph, .ref nh, .ref sh, .ref fh, .int 0])), (ph, .inr (2, [.ref lo, .ref hi, .int 0]))] := hD
          refine lv_lstore (lv' := [(5, .long (plc x1 y1)), (0, .ref h0), (1, .int x1), (2, .int y1), (3, .int x2), (4, .int y2)]) hx hb dX6_numberOf_24 hl (by decide) rfl (fun ls hl => ?_)
          refine lv_iload_n hx hb dX6_numberOf_26 rfl (lv_at hl 4 rfl) ?_
          refine lv_iload hx hb dX6_numberOf_27 (lv_at hl 5 rfl) ?_
          refine q_l (wr := [(h0, .inr (4, [.ref ph, .ref nh, .ref sh, .ref fh, .int 0])), (ph, .inr (2, [.ref lo, .ref hi, .int 0]))]) (q_runS (As := [.int x2, .int y2]) (rest := []) ⟨hx, hb, hml, hown, hts⟩ (c_X3_of l D aI aL aZ x2 y2 _) (va_cwS 2 hts g_X6_numberOf_X3_of_51 rfl rfl rfl (by decide +kernel) ⟨Nat.le_of_ble_eq_true rfl, Nat.le_of_ble_eq_true rfl⟩) hK hN hP hD [] rfl (by decide) rfl hl.1 rfl (Nat.le_of_ble_eq_true rfl) dX6_numberOf_29 ⟨Nat.le_of_ble_eq_true rfl, Nat.le_of_ble_eq_true rfl⟩) hP hD hS hA [] [0, 1] rfl rfl (by decide) (by decide) (fun r_6 u_6 H locs hw hP hD hS => ?_)
          subst hw
          have hP : va_P D q_cl [(h0, .inr (4, [.ref ph, .ref nh, .ref sh, .ref fh, .int 0])), (ph, .inr (2, [.ref lo, .ref hi, .int 0]))] H := hP
          have hD : va_D A [(h0, .inr (4, [.ref ph, .ref nh, .ref sh, .ref fh, .int 0])), (ph, .inr (2, [.ref lo, .ref hi, .int 0]))] := hD
          refine lv_lstore (lv' := [(7, .long (plc x2 y2)), (5, .long (plc x1 y1)), (0, .ref h0), (1, .int x1), (2, .int y1), (3, .int x2), (4, .int y2)]) hx hb dX6_numberOf_32 hl (by decide) rfl (fun ls hl => ?_)
          refine lv_lload hx hb dX6_numberOf_34 (lv_at hl 1 rfl) ?_
          refine lv_lload hx hb dX6_numberOf_36 (lv_at hl 0 rfl) ?_
          refine va_mmin_long hx hb (by rw [hml]; exact hl.1.symm) hown (hts (.methodLink RX6 55 Lib.MathLoose.min_long.x) (List.mem_of_getElem? (i := 1) rfl)) (hts (.static Lib.MathLoose.min_long.x) (List.mem_of_getElem? (i := 2) rfl)) (hts (.initialized "java/lang/Math") (List.mem_of_getElem? (i := 3) rfl)) (hts (.code Lib.MathLoose.min_long.x Lib.MathLoose.min_long.code 4 (some .long)) (List.mem_of_getElem? (i := 4) rfl)) (Nat.le_of_ble_eq_true rfl) (Nat.le_of_ble_eq_true rfl) (Nat.le_of_ble_eq_true rfl) (Nat.le_of_ble_eq_true rfl) dX6_numberOf_38 ?_
          refine lv_topl (fun lo7 elo7 => ?_)
          refine lv_lstore (lv' := [(9, .long lo7), (7, .long (plc x2 y2)), (5, .long (plc x1 y1)), (0, .ref h0), (1, .int x1), (2, .int y1), (3, .int x2), (4, .int y2)]) hx hb dX6_numberOf_41 hl (by decide) rfl (fun ls hl => ?_)
          refine lv_lload hx hb dX6_numberOf_43 (lv_at hl 2 rfl) ?_
          refine lv_lload hx hb dX6_numberOf_45 (lv_at hl 1 rfl) ?_
          refine va_mmax_long hx hb (by rw [hml]; exact hl.1.symm) hown (hts (.methodLink RX6 61 Lib.MathLoose.max_long.x) (List.mem_of_getElem? (i := 5) rfl)) (hts (.static Lib.MathLoose.max_long.x) (List.mem_of_getElem? (i := 6) rfl)) (hts (.initialized "java/lang/Math") (List.mem_of_getElem? (i := 3) rfl)) (hts (.code Lib.MathLoose.max_long.x Lib.MathLoose.max_long.code 4 (some .long)) (List.mem_of_getElem? (i := 7) rfl)) (Nat.le_of_ble_eq_true rfl) (Nat.le_of_ble_eq_true rfl) (Nat.le_of_ble_eq_true rfl) (Nat.le_of_ble_eq_true rfl) dX6_numberOf_47 ?_
          refine lv_topl (fun hi8 ehi8 => ?_)
          refine lv_lstore (lv' := [(11, .long hi8), (9, .long lo7), (7, .long (plc x2 y2)), (5, .long (plc x1 y1)), (0, .ref h0), (1, .int x1), (2, .int y1), (3, .int x2), (4, .int y2)]) hx hb dX6_numberOf_50 hl (by decide) rfl (fun ls hl => ?_)
          refine lv_aload_n hx hb dX6_numberOf_52 rfl (lv_at hl 4 rfl) ?_
          refine va_get (D := D) (ci := 4) (v := .ref ph) (C := RX6) (T := TX6) (N := 5) hx hb hts n_X6_numberOf_X6 hown hK hP 0 rfl rfl 0 (by decide) (hts (.fieldLink RX6 10 "FaceMap" "pieces" "LFaceMap$Pieces;") (List.mem_of_getElem? (i := 8) rfl)) (fun _ h9 => h9) rfl dX6_numberOf_53 ?_
          refine lv_lload hx hb dX6_numberOf_56 (lv_at hl 1 rfl) ?_
          refine lv_lload hx hb dX6_numberOf_58 (lv_at hl 0 rfl) ?_
          refine q_i (wr := [(h0, .inr (4, [.ref ph, .ref nh, .ref sh, .ref fh, .int 0]))]) (q_runV (As := [.long lo7, .long hi8]) (rest := []) ⟨hx, hb, hml, hown, hts⟩ (c_X2_has_0 l D aI aL aZ ph lo hi lo7 hi8 _) (cwV 2 hts g_X6_numberOf_X2_has_64 rfl rfl rfl (by decide +kernel) ⟨Nat.le_of_ble_eq_true rfl, Nat.le_of_ble_eq_true rfl⟩) hK hN hP hD [1] rfl (by decide) rfl rfl rfl hl.1 rfl (Nat.le_of_ble_eq_true rfl) dX6_numberOf_60 ⟨Nat.le_of_ble_eq_true rfl, Nat.le_of_ble_eq_true rfl⟩) hP hD hS hA [1] [0] rfl rfl (by decide) (by decide) (fun r_9 u_9 H locs hw hP hD hS => ?_)
          subst hw
          have hP : va_P D q_cl [(h0, .inr (4, [.ref ph, .ref nh, .ref sh, .ref fh, .int 0])), (ph, .inr (2, [.ref lo, .ref hi, .int 0]))] H := hP
          have hD : va_D A [(h0, .inr (4, [.ref ph, .ref nh, .ref sh, .ref fh, .int 0])), (ph, .inr (2, [.ref lo, .ref hi, .int 0]))] := hD
          refine lv_if_eq (tgt := 80) hx hb dX6_numberOf_63 (by decide) (fun c_10 => ?_) (fun c_10 => ?_)
          · refine lv_iconst (v := (-1)) hx hb dX6_numberOf_80 (by decide) ?_
            have hP9 := hP.sub (ws' := [(h0, .inr (4, [.ref ph, .ref nh, .ref sh, .ref fh, .int 0])), (ph, .inr (2, [.ref lo, .ref hi, .int 0]))]) [0, 1] rfl
            have hD9 := hD.sub (ws' := [(h0, .inr (4, [.ref ph, .ref nh, .ref sh, .ref fh, .int 0])), (ph, .inr (2, [.ref lo, .ref hi, .int 0]))]) [0, 1] (by decide) rfl
            exact q_reti () hx hb hr hlocks hK hP9 hD9 hS (Nat.le_of_ble_eq_true rfl) (Nat.le_of_ble_eq_true rfl) (rfl) dX6_numberOf_81
          · exact absurd c_10 (by decide)
        · exact absurd c_4 (by decide)
      · have hP : va_P D q_cl [(h0, .inr (4, [.ref ph, .ref nh, .ref sh, .ref fh, .int 0])), (ph, .inr (2, [.ref lo, .ref hi, .int 0]))] H := hP
        have hD : va_D A [(h0, .inr (4, [.ref ph, .ref nh, .ref sh, .ref fh, .int 0])), (ph, .inr (2, [.ref lo, .ref hi, .int 0]))] := hD
        refine lv_if_ne (tgt := 19) hx hb dX6_numberOf_14 (by decide) (fun c_11 => ?_) (fun c_11 => ?_)
        · exact absurd c_11 (by decide)
        · refine lv_iconst (v := (-1)) hx hb dX6_numberOf_17 (by decide) ?_
          have hP9 := hP.sub (ws' := [(h0, .inr (4, [.ref ph, .ref nh, .ref sh, .ref fh, .int 0])), (ph, .inr (2, [.ref lo, .ref hi, .int 0]))]) [0, 1] rfl
          have hD9 := hD.sub (ws' := [(h0, .inr (4, [.ref ph, .ref nh, .ref sh, .ref fh, .int 0])), (ph, .inr (2, [.ref lo, .ref hi, .int 0]))]) [0, 1] (by decide) rfl
          exact q_reti () hx hb hr hlocks hK hP9 hD9 hS (Nat.le_of_ble_eq_true rfl) (Nat.le_of_ble_eq_true rfl) (rfl) dX6_numberOf_18
  · have hP : va_P D q_cl [(h0, .inr (4, [.ref ph, .ref nh, .ref sh, .ref fh, .int 0])), (ph, .inr (2, [.ref lo, .ref hi, .int 0]))] H := hP
    have hD : va_D A [(h0, .inr (4, [.ref ph, .ref nh, .ref sh, .ref fh, .int 0])), (ph, .inr (2, [.ref lo, .ref hi, .int 0]))] := hD
    refine lv_if_eq (tgt := 17) hx hb dX6_numberOf_5 (by decide) (fun c_12 => ?_) (fun c_12 => ?_)
    · refine lv_iconst (v := (-1)) hx hb dX6_numberOf_17 (by decide) ?_
      have hP9 := hP.sub (ws' := [(h0, .inr (4, [.ref ph, .ref nh, .ref sh, .ref fh, .int 0])), (ph, .inr (2, [.ref lo, .ref hi, .int 0]))]) [0, 1] rfl
      have hD9 := hD.sub (ws' := [(h0, .inr (4, [.ref ph, .ref nh, .ref sh, .ref fh, .int 0])), (ph, .inr (2, [.ref lo, .ref hi, .int 0]))]) [0, 1] (by decide) rfl
      exact q_reti () hx hb hr hlocks hK hP9 hD9 hS (Nat.le_of_ble_eq_true rfl) (Nat.le_of_ble_eq_true rfl) (rfl) dX6_numberOf_18
    · exact absurd c_12 (by decide)
def vsX6_cut : List Cond := .code yX6_cut cX6_cut 6 (some .boolean) :: ([.methodLink RX6 83 yX6_numberOf, .instanceMethod yX6_numberOf, .selects RX6 yX6_numberOf yX6_numberOf, .initialized RX6, .code yX6_numberOf cX6_numberOf 13 (some .int), .methodLink RX6 55 Lib.MathLoose.min_long.x, .static Lib.MathLoose.min_long.x, .initialized "java/lang/Math", .code Lib.MathLoose.min_long.x Lib.MathLoose.min_long.code 4 (some .long), .methodLink RX6 61 Lib.MathLoose.max_long.x, .static Lib.MathLoose.max_long.x, .code Lib.MathLoose.max_long.x Lib.MathLoose.max_long.code 4 (some .long), .fieldLink RX6 10 "FaceMap" "pieces" "LFaceMap$Pieces;", .methodLink RX6 45 yX3_inBounds, .static yX3_inBounds, .initialized RX3, .code yX3_inBounds cX3_inBounds 2 (some .boolean), .constant RX3 9 (-500000), .constant RX3 10 (500000), .methodLink RX6 51 yX3_of, .static yX3_of, .code yX3_of cX3_of 2 (some .long), .methodLink RX6 64 yX2_has, .instanceMethod yX2_has, .selects RX2 yX2_has yX2_has, .initialized RX2, .code yX2_has cX2_has 6 (some .boolean), .fieldLink RX2 16 "FaceMap$Pieces" "size" "I", .methodLink RX2 20 yX2_rank, .instanceMethod yX2_rank, .selects RX2 yX2_rank yX2_rank, .code yX2_rank cX2_rank 8 (some .int)] ++ wsX60 ++ wsX20)
set_option maxRecDepth 20000 in
theorem g_X6_cut_X6_numberOf_83 : GoodIn vsX6_cut (wsV RX6 83 RX6 yX6_numberOf vsX6_numberOf) := goodIn_r _ [1, 2, 3, 4, 5, 6, 7, 8, 9, 10, 11, 12, 13, 14, 15, 16, 17, 18, 19, 20, 21, 22, 23, 24, 25, 26, 27, 28, 29, 30, 31, 32, 33, 34, 35, 36, 37, 38, 39, 40] rfl (by decide +kernel)
set_option maxHeartbeats 4000000 in
set_option maxRecDepth 100000 in
/-- FaceMap.cut -/
theorem c_X6_cut (l : Launch) (D : va_G) (aI aL aZ : ClassId) (h0 : Nat) (ph : Nat) (nh : Nat) (sh : Nat) (fh : Nat) (lo : Nat) (hi : Nat) (x1 : Int32) (y1 : Int32) (x2 : Int32) (y2 : Int32) (sz : Nat) : MI l D q_cl (q_ty aI aL aZ) yX6_cut vsX6_cut 3 0 0 [.ref h0, .int x1, .int y1, .int x2, .int y2] [(h0, .inr (4, [.ref ph, .ref nh, .ref sh, .ref fh, .int 0])), (ph, .inr (2, [.ref lo, .ref hi, .int 0]))] sz (fun (r : Int32) (u : Unit) => r = 0) (fun (u : Unit) => ([] : va_W)) := by
  refine q_in cX6_cut 6 (some .boolean) (qQi D q_cl (q_ty aI aL aZ) _ _) (by decide) rfl (Nat.le_of_ble_eq_true rfl) ?_
  intro p e s m args below meth c A ls hat hP hD hS hl
  obtain ⟨hx, hb, hr, hts, hown, hlocks, hml, hin, hK, hN, hA⟩ := hat
  have hown : s.vm.findClass RX6 = some m.cls := hown
  have hl : lv_has ls 6 [(0, .ref h0), (1, .int x1), (2, .int y1), (3, .int x2), (4, .int y2)] := hl
  refine lv_aload_n hx hb dX6_cut_0 rfl (lv_at hl 0 rfl) ?_
  refine lv_iload_n hx hb dX6_cut_1 rfl (lv_at hl 1 rfl) ?_
  refine lv_iload_n hx hb dX6_cut_2 rfl (lv_at hl 2 rfl) ?_
  refine lv_iload_n hx hb dX6_cut_3 rfl (lv_at hl 3 rfl) ?_
  refine lv_iload hx hb dX6_cut_4 (lv_at hl 4 rfl) ?_
  refine q_i (wr := []) (q_runV (As := [.int x1, .int y1, .int x2, .int y2]) (rest := []) ⟨hx, hb, hml, hown, hts⟩ (c_X6_numberOf l D aI aL aZ h0 ph nh sh fh lo hi x1 y1 x2 y2 _) (cwV 4 hts g_X6_cut_X6_numberOf_83 rfl rfl rfl (by decide +kernel) ⟨Nat.le_of_ble_eq_true rfl, Nat.le_of_ble_eq_true rfl⟩) hK hN hP hD [0, 1] rfl (by decide) rfl rfl rfl hl.1 rfl (Nat.le_of_ble_eq_true rfl) dX6_cut_6 ⟨Nat.le_of_ble_eq_true rfl, Nat.le_of_ble_eq_true rfl⟩) hP hD hS hA [0, 1] [] rfl rfl (by decide) (by decide) (fun r_1 u_1 H locs hw hP hD hS => ?_)
  subst hw
  have hP : va_P D q_cl [(h0, .inr (4, [.ref ph, .ref nh, .ref sh, .ref fh, .int 0])), (ph, .inr (2, [.ref lo, .ref hi, .int 0]))] H := hP
  have hD : va_D A [(h0, .inr (4, [.ref ph, .ref nh, .ref sh, .ref fh, .int 0])), (ph, .inr (2, [.ref lo, .ref hi, .int 0]))] := hD
  refine lv_istore (lv' := [(5, .int (-1)), (0, .ref h0), (1, .int x1), (2, .int y1), (3, .int x2), (4, .int y2)]) hx hb dX6_cut_9 hl (by decide) rfl (fun ls hl => ?_)
  refine lv_iload hx hb dX6_cut_11 (lv_at hl 0 rfl) ?_
  refine lv_if_ge (tgt := 18) hx hb dX6_cut_13 (by decide) (fun c_2 => ?_) (fun c_2 => ?_)
  · exact absurd c_2 (by decide)
  · refine lv_iconst (v := 0) hx hb dX6_cut_16 (by decide) ?_
    have hP9 := hP.sub (ws' := []) [] rfl
    have hD9 := hD.sub (ws' := []) [] (by decide) rfl
    exact q_retz () hx hb hr (by decide) hlocks hK hP9 hD9 hS (Nat.le_of_ble_eq_true rfl) (Nat.le_of_ble_eq_true rfl) (rfl) dX6_cut_17
def vsX6_left : List Cond := .code yX6_left cX6_left 7 (some .int) :: ([.methodLink RX6 83 yX6_numberOf, .instanceMethod yX6_numberOf, .selects RX6 yX6_numberOf yX6_numberOf, .initialized RX6, .code yX6_numberOf cX6_numberOf 13 (some .int), .methodLink RX6 55 Lib.MathLoose.min_long.x, .static Lib.MathLoose.min_long.x, .initialized "java/lang/Math", .code Lib.MathLoose.min_long.x Lib.MathLoose.min_long.code 4 (some .long), .methodLink RX6 61 Lib.MathLoose.max_long.x, .static Lib.MathLoose.max_long.x, .code Lib.MathLoose.max_long.x Lib.MathLoose.max_long.code 4 (some .long), .fieldLink RX6 10 "FaceMap" "pieces" "LFaceMap$Pieces;", .methodLink RX6 45 yX3_inBounds, .static yX3_inBounds, .initialized RX3, .code yX3_inBounds cX3_inBounds 2 (some .boolean), .constant RX3 9 (-500000), .constant RX3 10 (500000), .methodLink RX6 51 yX3_of, .static yX3_of, .code yX3_of cX3_of 2 (some .long), .methodLink RX6 64 yX2_has, .instanceMethod yX2_has, .selects RX2 yX2_has yX2_has, .initialized RX2, .code yX2_has cX2_has 6 (some .boolean), .fieldLink RX2 16 "FaceMap$Pieces" "size" "I", .methodLink RX2 20 yX2_rank, .instanceMethod yX2_rank, .selects RX2 yX2_rank yX2_rank, .code yX2_rank cX2_rank 8 (some .int)] ++ wsX60 ++ wsX20)
set_option maxRecDepth 20000 in
theorem g_X6_left_X6_numberOf_83 : GoodIn vsX6_left (wsV RX6 83 RX6 yX6_numberOf vsX6_numberOf) := goodIn_r _ [1, 2, 3, 4, 5, 6, 7, 8, 9, 10, 11, 12, 13, 14, 15, 16, 17, 18, 19, 20, 21, 22, 23, 24, 25, 26, 27, 28, 29, 30, 31, 32, 33, 34, 35, 36, 37, 38, 39, 40] rfl (by decide +kernel)
set_option maxHeartbeats 4000000 in
set_option maxRecDepth 100000 in
/-- FaceMap.left -/
theorem c_X6_left (l : Launch) (D : va_G) (aI aL aZ : ClassId) (h0 : Nat) (ph : Nat) (nh : Nat) (sh : Nat) (fh : Nat) (lo : Nat) (hi : Nat) (x1 : Int32) (y1 : Int32) (x2 : Int32) (y2 : Int32) (sz : Nat) : MI l D q_cl (q_ty aI aL aZ) yX6_left vsX6_left 3 0 0 [.ref h0, .int x1, .int y1, .int x2, .int y2] [(h0, .inr (4, [.ref ph, .ref nh, .ref sh, .ref fh, .int 0])), (ph, .inr (2, [.ref lo, .ref hi, .int 0]))] sz (fun (r : Int32) (u : Unit) => r = (-1)) (fun (u : Unit) => ([] : va_W)) := by
  refine q_in cX6_left 7 (some .int) (qQi D q_cl (q_ty aI aL aZ) _ _) (by decide) rfl (Nat.le_of_ble_eq_true rfl) ?_
  intro p e s m args below meth c A ls hat hP hD hS hl
  obtain ⟨hx, hb, hr, hts, hown, hlocks, hml, hin, hK, hN, hA⟩ := hat
  have hown : s.vm.findClass RX6 = some m.cls := hown
  have hl : lv_has ls 7 [(0, .ref h0), (1, .int x1), (2, .int y1), (3, .int x2), (4, .int y2)] := hl
  refine lv_aload_n hx hb dX6_left_0 rfl (lv_at hl 0 rfl) ?_
  refine lv_iload_n hx hb dX6_left_1 rfl (lv_at hl 1 rfl) ?_
  refine lv_iload_n hx hb dX6_left_2 rfl (lv_at hl 2 rfl) ?_
  refine lv_iload_n hx hb dX6_left_3 rfl (lv_at hl 3 rfl) ?_
  refine lv_iload hx hb dX6_left_4 (lv_at hl 4 rfl) ?_
  refine q_i (wr := []) (q_runV (As := [.int x1, .int y1, .int x2, .int y2]) (rest := []) ⟨hx, hb, hml, hown, hts⟩ (c_X6_numberOf l D aI aL aZ h0 ph nh sh fh lo hi x1 y1 x2 y2 _) (cwV 4 hts g_X6_left_X6_numberOf_83 rfl rfl rfl (by decide +kernel) ⟨Nat.le_of_ble_eq_true rfl, Nat.le_of_ble_eq_true rfl⟩) hK hN hP hD [0, 1] rfl (by decide) rfl rfl rfl hl.1 rfl (Nat.le_of_ble_eq_true rfl) dX6_left_6 ⟨Nat.le_of_ble_eq_true rfl, Nat.le_of_ble_eq_true rfl⟩) hP hD hS hA [0, 1] [] rfl rfl (by decide) (by decide) (fun r_1 u_1 H locs hw hP hD hS => ?_)
  subst hw
  have hP : va_P D q_cl [(h0, .inr (4, [.ref ph, .ref nh, .ref sh, .ref fh, .int 0])), (ph, .inr (2, [.ref lo, .ref hi, .int 0]))] H := hP
  have hD : va_D A [(h0, .inr (4, [.ref ph, .ref nh, .ref sh, .ref fh, .int 0])), (ph, .inr (2, [.ref lo, .ref hi, .int 0]))] := hD
  refine lv_istore (lv' := [(5, .int (-1)), (0, .ref h0), (1, .int x1), (2, .int y1), (3, .int x2), (4, .int y2)]) hx hb dX6_left_9 hl (by decide) rfl (fun ls hl => ?_)
  refine lv_iload hx hb dX6_left_11 (lv_at hl 0 rfl) ?_
  refine lv_if_ge (tgt := 18) hx hb dX6_left_13 (by decide) (fun c_2 => ?_) (fun c_2 => ?_)
  · exact absurd c_2 (by decide)
  · refine lv_iconst (v := (-1)) hx hb dX6_left_16 (by decide) ?_
    have hP9 := hP.sub (ws' := []) [] rfl
    have hD9 := hD.sub (ws' := []) [] (by decide) rfl
    exact q_reti () hx hb hr hlocks hK hP9 hD9 hS (Nat.le_of_ble_eq_true rfl) (Nat.le_of_ble_eq_true rfl) (rfl) dX6_left_17
def vsX6_count : List Cond := .code yX6_count cX6_count 2 (some .int) :: ([.fieldLink RX6 19 "FaceMap" "nodes" "LFaceMap$Nodes;", .fieldLink RX6 101 "FaceMap$Nodes" "size" "I", .fieldLink RX6 10 "FaceMap" "pieces" "LFaceMap$Pieces;", .fieldLink RX6 71 "FaceMap$Pieces" "size" "I", .fieldLink RX6 106 "FaceMap$Faces" "size" "I", .fieldLink RX6 107 "FaceMap$Faces" "parts" "I", .methodLink RX6 102 yX6_freshFaces, .instanceMethod yX6_freshFaces, .selects RX6 yX6_freshFaces yX6_freshFaces, .initialized RX6, .code yX6_freshFaces cX6_freshFaces 1 (some (.object "FaceMap$Faces")), .fieldLink RX6 41 "FaceMap" "facesAreOld" "Z", .fieldLink RX6 37 "FaceMap" "faces" "LFaceMap$Faces;"] ++ wsX60 ++ wsX10 ++ wsX20 ++ wsX00)
set_option maxRecDepth 20000 in
theorem n_X6_count_X6 : ∀ w ∈ wsX60, w ∈ vsX6_count := fun _ h => List.mem_cons_of_mem _ (List.mem_append_left _ (List.mem_append_left _ (List.mem_append_left _ (List.mem_append_right _ h))))
set_option maxRecDepth 20000 in
theorem n_X6_count_X1 : ∀ w ∈ wsX10, w ∈ vsX6_count := fun _ h => List.mem_cons_of_mem _ (List.mem_append_left _ (List.mem_append_left _ (List.mem_append_right _ h)))
set_option maxRecDepth 20000 in
theorem n_X6_count_X2 : ∀ w ∈ wsX20, w ∈ vsX6_count := fun _ h => List.mem_cons_of_mem _ (List.mem_append_left _ (List.mem_append_right _ h))
set_option maxRecDepth 20000 in
theorem g_X6_count_X6_freshFaces_102 : GoodIn vsX6_count (wsV RX6 102 RX6 yX6_freshFaces vsX6_freshFaces) := goodIn_r _ [7, 8, 9, 10, 11, 12, 13, 14, 15, 16, 17, 18] rfl (by decide +kernel)
set_option maxRecDepth 20000 in
theorem n_X6_count_X0 : ∀ w ∈ wsX00, w ∈ vsX6_count := fun _ h => List.mem_cons_of_mem _ (List.mem_append_right _ h)
set_option maxHeartbeats 4000000 in
set_option maxRecDepth 100000 in
/-- FaceMap.count -/
theorem c_X6_count (l : Launch) (D : va_G) (aI aL aZ : ClassId) (h0 : Nat) (ph : Nat) (nh : Nat) (sh : Nat) (fh : Nat) (lo : Nat) (hi : Nat) (at_ : Nat) (dg : Nat) (p1 : Nat) (p2 : Nat) (p3 : Nat) (le : Nat) (ri : Nat) (wa : Nat) (kf : Nat) (kt : Nat) (ar : Nat) (x : Int32) (sz : Nat) : MI l D q_cl (q_ty aI aL aZ) yX6_count vsX6_count 1 0 0 [.ref h0, .int x] [(h0, .inr (4, [.ref ph, .ref nh, .ref sh, .ref fh, .int 0])), (ph, .inr (2, [.ref lo, .ref hi, .int 0])), (nh, .inr (1, [.ref at_, .ref dg, .int 0])), (fh, .inr (0, [.ref p1, .ref p2, .ref p3, .ref le, .ref ri, .ref wa, .ref kf, .ref kt, .ref ar, .int 1, .int 0]))] sz (fun (r : Int32) (u : Unit) => r = (cnt x)) (fun (u : Unit) => ([] : va_W)) := by
  refine q_in cX6_count 2 (some .int) (qQi D q_cl (q_ty aI aL aZ) _ _) (by decide) rfl (Nat.le_of_ble_eq_true rfl) ?_
  intro p e s m args below meth c A ls hat hP hD hS hl
  obtain ⟨hx, hb, hr, hts, hown, hlocks, hml, hin, hK, hN, hA⟩ := hat
  have hown : s.vm.findClass RX6 = some m.cls := hown
  have hl : lv_has ls 2 [(0, .ref h0), (1, .int x)] := hl
  refine lv_iload_n hx hb dX6_count_0 rfl (lv_at hl 1 rfl) ?_
  by_cases w_1 : x = 0
  · subst w_1
    refine lv_tableIn (tgt := 32) hx hb dX6_count_1 (by decide) (by decide) rfl (by decide) ?_
    refine lv_aload_n hx hb dX6_count_32 rfl (lv_at hl 0 rfl) ?_
    refine va_get (D := D) (ci := 4) (v := .ref nh) (C := RX6) (T := TX6) (N := 5) hx hb hts n_X6_count_X6 hown hK hP 0 rfl rfl 1 (by decide) (hts (.fieldLink RX6 19 "FaceMap" "nodes" "LFaceMap$Nodes;") (List.mem_of_getElem? (i := 1) rfl)) (fun _ h9 => h9) rfl dX6_count_33 ?_
    refine va_get (D := D) (ci := 1) (v := .int 0) (C := RX1) (T := TX1) (N := 3) hx hb hts n_X6_count_X1 hown hK hP 2 rfl rfl 2 (by decide) (hts (.fieldLink RX6 101 "FaceMap$Nodes" "size" "I") (List.mem_of_getElem? (i := 2) rfl)) (fun _ h9 => h9) rfl dX6_count_36 ?_
    have hP9 := hP.sub (ws' := []) [] rfl
    have hD9 := hD.sub (ws' := []) [] (by decide) rfl
    exact q_reti () hx hb hr hlocks hK hP9 hD9 hS (Nat.le_of_ble_eq_true rfl) (Nat.le_of_ble_eq_true rfl) ((by first | decide | exact cnt_o (by assumption) (by assumption) (by assumption) (by assumption))) dX6_count_39
  by_cases w_2 : x = 1
  · subst w_2
    refine lv_tableIn (tgt := 40) hx hb dX6_count_1 (by decide) (by decide) rfl (by decide) ?_
    refine lv_aload_n hx hb dX6_count_40 rfl (lv_at hl 0 rfl) ?_
    refine va_get (D := D) (ci := 4) (v := .ref ph) (C := RX6) (T := TX6) (N := 5) hx hb hts n_X6_count_X6 hown hK hP 0 rfl rfl 0 (by decide) (hts (.fieldLink RX6 10 "FaceMap" "pieces" "LFaceMap$Pieces;") (List.mem_of_getElem? (i := 3) rfl)) (fun _ h9 => h9) rfl dX6_count_41 ?_
    refine va_get (D := D) (ci := 2) (v := .int 0) (C := RX2) (T := TX2) (N := 3) hx hb hts n_X6_count_X2 hown hK hP 1 rfl rfl 2 (by decide) (hts (.fieldLink RX6 71 "FaceMap$Pieces" "size" "I") (List.mem_of_getElem? (i := 4) rfl)) (fun _ h9 => h9) rfl dX6_count_44 ?_
    have hP9 := hP.sub (ws' := []) [] rfl
    have hD9 := hD.sub (ws' := []) [] (by decide) rfl
    exact q_reti () hx hb hr hlocks hK hP9 hD9 hS (Nat.le_of_ble_eq_true rfl) (Nat.le_of_ble_eq_true rfl) ((by first | decide | exact cnt_o (by assumption) (by assumption) (by assumption) (by assumption))) dX6_count_47
  by_cases w_3 : x = 2
  · subst w_3
    refine lv_tableIn (tgt := 48) hx hb dX6_count_1 (by decide) (by decide) rfl (by decide) ?_
    refine lv_aload_n hx hb dX6_count_48 rfl (lv_at hl 0 rfl) ?_
    refine q_r (wr := [(ph, .inr (2, [.ref lo, .ref hi, .int 0])), (nh, .inr (1, [.ref at_, .ref dg, .int 0])), (fh, .inr (0, [.ref p1, .ref p2, .ref p3, .ref le, .ref ri, .ref wa, .ref kf, .ref kt, .ref ar, .int 1, .int 0]))]) (q_runV (As := []) (rest := []) ⟨hx, hb, hml, hown, hts⟩ (c_X6_freshFaces l D aI aL aZ h0 ph nh sh fh _) (cwV 0 hts g_X6_count_X6_freshFaces_102 rfl rfl rfl (by decide +kernel) ⟨Nat.le_of_ble_eq_true rfl, Nat.le_of_ble_eq_true rfl⟩) hK hN hP hD [0] rfl (by decide) rfl rfl rfl hl.1 rfl (Nat.le_of_ble_eq_true rfl) dX6_count_49 ⟨Nat.le_of_ble_eq_true rfl, Nat.le_of_ble_eq_true rfl⟩) hP hD hS hA [0] [1, 2, 3] rfl rfl (by decide) (by decide) (fun u_4 H locs hw hP hD hS => ?_)
    have hP : va_P D q_cl [(ph, .inr (2, [.ref lo, .ref hi, .int 0])), (nh, .inr (1, [.ref at_, .ref dg, .int 0])), (fh, .inr (0, [.ref p1, .ref p2, .ref p3, .ref le, .ref ri, .ref wa, .ref kf, .ref kt, .ref ar, .int 1, .int 0])), (h0, .inr (4, [.ref ph, .ref nh, .ref sh, .ref fh, .int 0]))] H := hP
    have hD : va_D A [(ph, .inr (2, [.ref lo, .ref hi, .int 0])), (nh, .inr (1, [.ref at_, .ref dg, .int 0])), (fh, .inr (0, [.ref p1, .ref p2, .ref p3, .ref le, .ref ri, .ref wa, .ref kf, .ref kt, .ref ar, .int 1, .int 0])), (h0, .inr (4, [.ref ph, .ref nh, .ref sh, .ref fh, .int 0]))] := hD
    refine va_get (D := D) (ci := 0) (v := .int 1) (C := RX0) (T := TX0) (N := 11) hx hb hts n_X6_count_X0 hown hK hP 2 rfl rfl 9 (by decide) (hts (.fieldLink RX6 106 "FaceMap$Faces" "size" "I") (List.mem_of_getElem? (i := 5) rfl)) (fun _ h9 => h9) rfl dX6_count_52 ?_
    have hP9 := hP.sub (ws' := []) [] rfl
    have hD9 := hD.sub (ws' := []) [] (by decide) rfl
    exact q_reti () hx hb hr hlocks hK hP9 hD9 hS (Nat.le_of_ble_eq_true rfl) (Nat.le_of_ble_eq_true rfl) ((by first | decide | exact cnt_o (by assumption) (by assumption) (by assumption) (by assumption))) dX6_count_55
  by_cases w_5 : x = 3
  · subst w_5
    refine lv_tableIn (tgt := 56) hx hb dX6_count_1 (by decide) (by decide) rfl (by decide) ?_
    refine lv_aload_n hx hb dX6_count_56 rfl (lv_at hl 0 rfl) ?_
    refine q_r (wr := [(ph, .inr (2, [.ref lo, .ref hi, .int 0])), (nh, .inr (1, [.ref at_, .ref dg, .int 0])), (fh, .inr (0, [.ref p1, .ref p2, .ref p3, .ref le, .ref ri, .ref wa, .ref kf, .ref kt, .ref ar, .int 1, .int 0]))]) (q_runV (As := []) (rest := []) ⟨hx, hb, hml, hown, hts⟩ (c_X6_freshFaces l D aI aL aZ h0 ph nh sh fh _) (cwV 0 hts g_X6_count_X6_freshFaces_102 rfl rfl rfl (by decide +kernel) ⟨Nat.le_of_ble_eq_true rfl, Nat.le_of_ble_eq_true rfl⟩) hK hN hP hD [0] rfl (by decide) rfl rfl rfl hl.1 rfl (Nat.le_of_ble_eq_true rfl) dX6_count_57 ⟨Nat.le_of_ble_eq_true rfl, Nat.le_of_ble_eq_true rfl⟩) hP hD hS hA [0] [1, 2, 3] rfl rfl (by decide) (by decide) (fun u_6 H locs hw hP hD hS => ?_)
    have hP : va_P D q_cl [(ph, .inr (2, [.ref lo, .ref hi, .int 0])), (nh, .inr (1, [.ref at_, .ref dg, .int 0])), (fh, .inr (0, [.ref p1, .ref p2, .ref p3, .ref le, .ref ri, .ref wa, .ref kf, .ref kt, .ref ar, .int 1, .int 0])), (h0, .inr (4, [.ref ph, .ref nh, .ref sh, .ref fh, .int 0]))] H := hP
    have hD : va_D A [(ph, .inr (2, [.ref lo, .ref hi, .int 0])), (nh, .inr (1, [.ref at_, .ref dg, .int 0])), (fh, .inr (0, [.ref p1, .ref p2, .ref p3, .ref le, .ref ri, .ref wa, .ref kf, .ref kt, .ref ar, .int 1, .int 0])), (h0, .inr (4, [.ref ph, .ref nh, .ref sh, .ref fh, .int 0]))] := hD
    refine va_get (D := D) (ci := 0) (v := .int 0) (C := RX0) (T := TX0) (N := 11) hx hb hts n_X6_count_X0 hown hK hP 2 rfl rfl 10 (by decide) (hts (.fieldLink RX6 107 "FaceMap$Faces" "parts" "I") (List.mem_of_getElem? (i := 6) rfl)) (fun _ h9 => h9) rfl dX6_count_60 ?_
    have hP9 := hP.sub (ws' := []) [] rfl
    have hD9 := hD.sub (ws' := []) [] (by decide) rfl
    exact q_reti () hx hb hr hlocks hK hP9 hD9 hS (Nat.le_of_ble_eq_true rfl) (Nat.le_of_ble_eq_true rfl) ((by first | decide | exact cnt_o (by assumption) (by assumption) (by assumption) (by assumption))) dX6_count_63
  refine lv_tableOut (tgt := 64) hx hb dX6_count_1 (q_sw3 w_1 w_2 w_3 w_5) (by decide) ?_
  refine lv_iconst (v := (-1)) hx hb dX6_count_64 (by decide) ?_
  have hP9 := hP.sub (ws' := []) [] rfl
  have hD9 := hD.sub (ws' := []) [] (by decide) rfl
  exact q_reti () hx hb hr hlocks hK hP9 hD9 hS (Nat.le_of_ble_eq_true rfl) (Nat.le_of_ble_eq_true rfl) ((by first | decide | exact cnt_o (by assumption) (by assumption) (by assumption) (by assumption))) dX6_count_65
def vsX6_node : List Cond := .code yX6_node cX6_node 3 (some .int) :: ([.constant RX6 110 (1000000), .fieldLink RX6 19 "FaceMap" "nodes" "LFaceMap$Nodes;", .fieldLink RX6 101 "FaceMap$Nodes" "size" "I"] ++ wsX60 ++ wsX10)
set_option maxRecDepth 20000 in
theorem n_X6_node_X6 : ∀ w ∈ wsX60, w ∈ vsX6_node := fun _ h => List.mem_cons_of_mem _ (List.mem_append_left _ (List.mem_append_right _ h))
set_option maxRecDepth 20000 in
theorem n_X6_node_X1 : ∀ w ∈ wsX10, w ∈ vsX6_node := fun _ h => List.mem_cons_of_mem _ (List.mem_append_right _ h)
set_option maxHeartbeats 4000000 in
set_option maxRecDepth 100000 in
/-- FaceMap.node -/
theorem c_X6_node (l : Launch) (D : va_G) (aI aL aZ : ClassId) (h0 : Nat) (ph : Nat) (nh : Nat) (sh : Nat) (fh : Nat) (at_ : Nat) (dg : Nat) (x : Int32) (y : Int32) (sz : Nat) : MI l D q_cl (q_ty aI aL aZ) yX6_node vsX6_node 0 0 0 [.ref h0, .int x, .int y] [(h0, .inr (4, [.ref ph, .ref nh, .ref sh, .ref fh, .int 0])), (nh, .inr (1, [.ref at_, .ref dg, .int 0]))] sz (fun (r : Int32) (u : Unit) => r = 1000000) (fun (u : Unit) => ([] : va_W)) := by
  refine q_in cX6_node 3 (some .int) (qQi D q_cl (q_ty aI aL aZ) _ _) (by decide) rfl (Nat.le_of_ble_eq_true rfl) ?_
  intro p e s m args below meth c A ls hat hP hD hS hl
  obtain ⟨hx, hb, hr, hts, hown, hlocks, hml, hin, hK, hN, hA⟩ := hat
  have hown : s.vm.findClass RX6 = some m.cls := hown
  have hl : lv_has ls 3 [(0, .ref h0), (1, .int x), (2, .int y)] := hl
  refine lv_iload_n hx hb dX6_node_0 rfl (lv_at hl 1 rfl) ?_
  refine lv_if_lt (tgt := 15) hx hb dX6_node_1 (by decide) (fun c_1 => ?_) (fun c_1 => ?_)
  · refine lv_ldc (v := 1000000) hx hb hown (hts (.constant RX6 110 (1000000)) (List.mem_of_getElem? (i := 1) rfl)) dX6_node_15 ?_
    have hP9 := hP.sub (ws' := []) [] rfl
    have hD9 := hD.sub (ws' := []) [] (by decide) rfl
    exact q_reti () hx hb hr hlocks hK hP9 hD9 hS (Nat.le_of_ble_eq_true rfl) (Nat.le_of_ble_eq_true rfl) (rfl) dX6_node_17
  · refine lv_iload_n hx hb dX6_node_4 rfl (lv_at hl 1 rfl) ?_
    refine lv_aload_n hx hb dX6_node_5 rfl (lv_at hl 0 rfl) ?_
    refine va_get (D := D) (ci := 4) (v := .ref nh) (C := RX6) (T := TX6) (N := 5) hx hb hts n_X6_node_X6 hown hK hP 0 rfl rfl 1 (by decide) (hts (.fieldLink RX6 19 "FaceMap" "nodes" "LFaceMap$Nodes;") (List.mem_of_getElem? (i := 2) rfl)) (fun _ h9 => h9) rfl dX6_node_6 ?_
    refine va_get (D := D) (ci := 1) (v := .int 0) (C := RX1) (T := TX1) (N := 3) hx hb hts n_X6_node_X1 hown hK hP 1 rfl rfl 2 (by decide) (hts (.fieldLink RX6 101 "FaceMap$Nodes" "size" "I") (List.mem_of_getElem? (i := 3) rfl)) (fun _ h9 => h9) rfl dX6_node_9 ?_
    refine lv_icmp_lt (tgt := 18) hx hb dX6_node_12 (by decide) (fun c_2 => ?_) (fun c_2 => ?_)
    · exact absurd c_2 (by assumption)
    · refine lv_ldc (v := 1000000) hx hb hown (hts (.constant RX6 110 (1000000)) (List.mem_of_getElem? (i := 1) rfl)) dX6_node_15 ?_
      have hP9 := hP.sub (ws' := []) [] rfl
      have hD9 := hD.sub (ws' := []) [] (by decide) rfl
      exact q_reti () hx hb hr hlocks hK hP9 hD9 hS (Nat.le_of_ble_eq_true rfl) (Nat.le_of_ble_eq_true rfl) (rfl) dX6_node_17
def vsX6_piece : List Cond := .code yX6_piece cX6_piece 3 (some .int) :: ([.fieldLink RX6 10 "FaceMap" "pieces" "LFaceMap$Pieces;", .fieldLink RX6 71 "FaceMap$Pieces" "size" "I"] ++ wsX60 ++ wsX20)
set_option maxRecDepth 20000 in
theorem n_X6_piece_X6 : ∀ w ∈ wsX60, w ∈ vsX6_piece := fun _ h => List.mem_cons_of_mem _ (List.mem_append_left _ (List.mem_append_right _ h))
set_option maxRecDepth 20000 in
theorem n_X6_piece_X2 : ∀ w ∈ wsX20, w ∈ vsX6_piece := fun _ h => List.mem_cons_of_mem _ (List.mem_append_right _ h)
set_option maxHeartbeats 4000000 in
set_option maxRecDepth 100000 in
/-- FaceMap.piece -/
theorem c_X6_piece (l : Launch) (D : va_G) (aI aL aZ : ClassId) (h0 : Nat) (ph : Nat) (nh : Nat) (sh : Nat) (fh : Nat) (lo : Nat) (hi : Nat) (x : Int32) (y : Int32) (sz : Nat) : MI l D q_cl (q_ty aI aL aZ) yX6_piece vsX6_piece 0 0 0 [.ref h0, .int x, .int y] [(h0, .inr (4, [.ref ph, .ref nh, .ref sh, .ref fh, .int 0])), (ph, .inr (2, [.ref lo, .ref hi, .int 0]))] sz (fun (r : Int32) (u : Unit) => r = (-1)) (fun (u : Unit) => ([] : va_W)) := by
  refine q_in cX6_piece 3 (some .int) (qQi D q_cl (q_ty aI aL aZ) _ _) (by decide) rfl (Nat.le_of_ble_eq_true rfl) ?_
  intro p e s m args below meth c A ls hat hP hD hS hl
  obtain ⟨hx, hb, hr, hts, hown, hlocks, hml, hin, hK, hN, hA⟩ := hat
  have hown : s.vm.findClass RX6 = some m.cls := hown
  have hl : lv_has ls 3 [(0, .ref h0), (1, .int x), (2, .int y)] := hl
  refine lv_iload_n hx hb dX6_piece_0 rfl (lv_at hl 1 rfl) ?_
  refine lv_if_lt (tgt := 15) hx hb dX6_piece_1 (by decide) (fun c_1 => ?_) (fun c_1 => ?_)
  · refine lv_iconst (v := (-1)) hx hb dX6_piece_15 (by decide) ?_
    have hP9 := hP.sub (ws' := []) [] rfl
    have hD9 := hD.sub (ws' := []) [] (by decide) rfl
    exact q_reti () hx hb hr hlocks hK hP9 hD9 hS (Nat.le_of_ble_eq_true rfl) (Nat.le_of_ble_eq_true rfl) (rfl) dX6_piece_16
  · refine lv_iload_n hx hb dX6_piece_4 rfl (lv_at hl 1 rfl) ?_
    refine lv_aload_n hx hb dX6_piece_5 rfl (lv_at hl 0 rfl) ?_
    refine va_get (D := D) (ci := 4) (v := .ref ph) (C := RX6) (T := TX6) (N := 5) hx hb hts n_X6_piece_X6 hown hK hP 0 rfl rfl 0 (by decide) (hts (.fieldLink RX6 10 "FaceMap" "pieces" "LFaceMap$Pieces;") (List.mem_of_getElem? (i := 1) rfl)) (fun _ h9 => h9) rfl dX6_piece_6 ?_
    refine va_get (D := D) (ci := 2) (v := .int 0) (C := RX2) (T := TX2) (N := 3) hx hb hts n_X6_piece_X2 hown hK hP 1 rfl rfl 2 (by decide) (hts (.fieldLink RX6 71 "FaceMap$Pieces" "size" "I") (List.mem_of_getElem? (i := 2) rfl)) (fun _ h9 => h9) rfl dX6_piece_9 ?_
    refine lv_icmp_lt (tgt := 17) hx hb dX6_piece_12 (by decide) (fun c_2 => ?_) (fun c_2 => ?_)
    · exact absurd c_2 (by assumption)
    · refine lv_iconst (v := (-1)) hx hb dX6_piece_15 (by decide) ?_
      have hP9 := hP.sub (ws' := []) [] rfl
      have hD9 := hD.sub (ws' := []) [] (by decide) rfl
      exact q_reti () hx hb hr hlocks hK hP9 hD9 hS (Nat.le_of_ble_eq_true rfl) (Nat.le_of_ble_eq_true rfl) (rfl) dX6_piece_16
def vsX6_face : List Cond := .code yX6_face cX6_face 4 (some .int) :: ([.fieldLink RX6 143 "FaceMap$Faces" "rings" "[I", .fieldLink RX6 146 "FaceMap$Faces" "ways" "[I", .fieldLink RX6 149 "FaceMap$Faces" "keyFrom" "[I", .fieldLink RX6 152 "FaceMap$Faces" "keyTo" "[I", .methodLink RX6 102 yX6_freshFaces, .instanceMethod yX6_freshFaces, .selects RX6 yX6_freshFaces yX6_freshFaces, .initialized RX6, .code yX6_freshFaces cX6_freshFaces 1 (some (.object "FaceMap$Faces")), .fieldLink RX6 41 "FaceMap" "facesAreOld" "Z", .fieldLink RX6 37 "FaceMap" "faces" "LFaceMap$Faces;", .methodLink RX6 140 yX0_has, .instanceMethod yX0_has, .selects RX0 yX0_has yX0_has, .initialized RX0, .code yX0_has cX0_has 2 (some .boolean), .fieldLink RX0 60 "FaceMap$Faces" "size" "I"] ++ wsX00 ++ wsX60)
set_option maxRecDepth 20000 in
theorem g_X6_face_X6_freshFaces_102 : GoodIn vsX6_face (wsV RX6 102 RX6 yX6_freshFaces vsX6_freshFaces) := goodIn_r _ [5, 6, 7, 8, 9, 10, 11, 29, 30, 31, 32, 33] rfl (by decide +kernel)
set_option maxRecDepth 20000 in
theorem g_X6_face_X0_has_140 : GoodIn vsX6_face (wsV RX6 140 RX0 yX0_has vsX0_has) := goodIn_r _ [12, 13, 14, 15, 16, 17, 18, 19, 20, 21, 22, 23, 24, 25, 26, 27, 28] rfl (by decide +kernel)
set_option maxRecDepth 20000 in
theorem n_X6_face_X0 : ∀ w ∈ wsX00, w ∈ vsX6_face := fun _ h => List.mem_cons_of_mem _ (List.mem_append_left _ (List.mem_append_right _ h))
set_option maxHeartbeats 4000000 in
set_option maxRecDepth 100000 in
/-- FaceMap.face -/
theorem c_X6_face (l : Launch) (D : va_G) (aI aL aZ : ClassId) (h0 : Nat) (ph : Nat) (nh : Nat) (sh : Nat) (fh : Nat) (p1 : Nat) (p2 : Nat) (p3 : Nat) (le : Nat) (ri : Nat) (wa : Nat) (kf : Nat) (kt : Nat) (ar : Nat) (fr : Nat → Int32) (fw : Nat → Int32) (fk : Nat → Int32) (ft : Nat → Int32) (x : Int32) (y : Int32) (hr0 : fr 0 = 0) (hw0 : fw 0 = 0) (hk0 : fk 0 = (-1)) (ht0 : ft 0 = (-1)) (sz : Nat) : MI l D q_cl (q_ty aI aL aZ) yX6_face vsX6_face 1 0 0 [.ref h0, .int x, .int y] [(h0, .inr (4, [.ref ph, .ref nh, .ref sh, .ref fh, .int 0])), (fh, .inr (0, [.ref p1, .ref p2, .ref p3, .ref le, .ref ri, .ref wa, .ref kf, .ref kt, .ref ar, .int 1, .int 0])), (ri, .inl (aI, 9, .inl fr)), (wa, .inl (aI, 9, .inl fw)), (kf, .inl (aI, 9, .inl fk)), (kt, .inl (aI, 9, .inl ft))] sz (fun (r : Int32) (u : Unit) => r = (fac x y)) (fun (u : Unit) => ([] : va_W)) := by
  refine q_in cX6_face 4 (some .int) (qQi D q_cl (q_ty aI aL aZ) _ _) (by decide) rfl (Nat.le_of_ble_eq_true rfl) ?_
  intro p e s m args below meth c A ls hat hP hD hS hl
  obtain ⟨hx, hb, hr, hts, hown, hlocks, hml, hin, hK, hN, hA⟩ := hat
  have hown : s.vm.findClass RX6 = some m.cls := hown
  have hl : lv_has ls 4 [(0, .ref h0), (1, .int x), (2, .int y)] := hl
  refine lv_aload_n hx hb dX6_face_0 rfl (lv_at hl 0 rfl) ?_
  refine q_r (wr := [(fh, .inr (0, [.ref p1, .ref p2, .ref p3, .ref le, .ref ri, .ref wa, .ref kf, .ref kt, .ref ar, .int 1, .int 0])), (ri, .inl (aI, 9, .inl fr)), (wa, .inl (aI, 9, .inl fw)), (kf, .inl (aI, 9, .inl fk)), (kt, .inl (aI, 9, .inl ft))]) (q_runV (As := []) (rest := []) ⟨hx, hb, hml, hown, hts⟩ (c_X6_freshFaces l D aI aL aZ h0 ph nh sh fh _) (cwV 0 hts g_X6_face_X6_freshFaces_102 rfl rfl rfl (by decide +kernel) ⟨Nat.le_of_ble_eq_true rfl, Nat.le_of_ble_eq_true rfl⟩) hK hN hP hD [0] rfl (by decide) rfl rfl rfl hl.1 rfl (Nat.le_of_ble_eq_true rfl) dX6_face_1 ⟨Nat.le_of_ble_eq_true rfl, Nat.le_of_ble_eq_true rfl⟩) hP hD hS hA [0] [1, 2, 3, 4, 5] rfl rfl (by decide) (by decide) (fun u_1 H locs hw hP hD hS => ?_)
  have hP : va_P D q_cl [(fh, .inr (0, [.ref p1, .ref p2, .ref p3, .ref le, .ref ri, .ref wa, .ref kf, .ref kt, .ref ar, .int 1, .int 0])), (ri, .inl (aI, 9, .inl fr)), (wa, .inl (aI, 9, .inl fw)), (kf, .inl (aI, 9, .inl fk)), (kt, .inl (aI, 9, .inl ft)), (h0, .inr (4, [.ref ph, .ref nh, .ref sh, .ref fh, .int 0]))] H := hP
  have hD : va_D A [(fh, .inr (0, [.ref p1, .ref p2, .ref p3, .ref le, .ref ri, .ref wa, .ref kf, .ref kt, .ref ar, .int 1, .int 0])), (ri, .inl (aI, 9, .inl fr)), (wa, .inl (aI, 9, .inl fw)), (kf, .inl (aI, 9, .inl fk)), (kt, .inl (aI, 9, .inl ft)), (h0, .inr (4, [.ref ph, .ref nh, .ref sh, .ref fh, .int 0]))] := hD
  refine lv_astore_n (lv' := [(3, .ref fh), (0, .ref h0), (1, .int x), (2, .int y)]) hx hb dX6_face_4 rfl hl (by decide) rfl (fun ls hl => ?_)
  refine lv_aload_n hx hb dX6_face_5 rfl (lv_at hl 0 rfl) ?_
  refine lv_iload_n hx hb dX6_face_6 rfl (lv_at hl 2 rfl) ?_
  refine q_i (wr := [(ri, .inl (aI, 9, .inl fr)), (wa, .inl (aI, 9, .inl fw)), (kf, .inl (aI, 9, .inl fk)), (kt, .inl (aI, 9, .inl ft)), (h0, .inr (4, [.ref ph, .ref nh, .ref sh, .ref fh, .int 0]))]) (q_runV (As := [.int x]) (rest := []) ⟨hx, hb, hml, hown, hts⟩ (c_X0_has l D aI aL aZ fh p1 p2 p3 le ri wa kf kt ar x _) (cwV 1 hts g_X6_face_X0_has_140 rfl rfl rfl (by decide +kernel) ⟨Nat.le_of_ble_eq_true rfl, Nat.le_of_ble_eq_true rfl⟩) hK hN hP hD [0] rfl (by decide) rfl rfl rfl hl.1 rfl (Nat.le_of_ble_eq_true rfl) dX6_face_7 ⟨Nat.le_of_ble_eq_true rfl, Nat.le_of_ble_eq_true rfl⟩) hP hD hS hA [0] [1, 2, 3, 4, 5] rfl rfl (by decide) (by decide) (fun r_2 u_2 H locs hw hP hD hS => ?_)
  rcases hw with ⟨rfl, f2_0⟩ | ⟨rfl, f2_0⟩
  · subst f2_0
    have hP : va_P D q_cl [(ri, .inl (aI, 9, .inl fr)), (wa, .inl (aI, 9, .inl fw)), (kf, .inl (aI, 9, .inl fk)), (kt, .inl (aI, 9, .inl ft)), (h0, .inr (4, [.ref ph, .ref nh, .ref sh, .ref fh, .int 0])), (fh, .inr (0, [.ref p1, .ref p2, .ref p3, .ref le, .ref ri, .ref wa, .ref kf, .ref kt, .ref ar, .int 1, .int 0]))] H := hP
    have hD : va_D A [(ri, .inl (aI, 9, .inl fr)), (wa, .inl (aI, 9, .inl fw)), (kf, .inl (aI, 9, .inl fk)), (kt, .inl (aI, 9, .inl ft)), (h0, .inr (4, [.ref ph, .ref nh, .ref sh, .ref fh, .int 0])), (fh, .inr (0, [.ref p1, .ref p2, .ref p3, .ref le, .ref ri, .ref wa, .ref kf, .ref kt, .ref ar, .int 1, .int 0]))] := hD
    refine lv_if_ne (tgt := 15) hx hb dX6_face_10 (by decide) (fun c_3 => ?_) (fun c_3 => ?_)
    · refine lv_iload_n hx hb dX6_face_15 rfl (lv_at hl 3 rfl) ?_
      by_cases w_4 : y = 0
      · subst w_4
        refine lv_tableIn (tgt := 48) hx hb dX6_face_16 (by decide) (by decide) rfl (by decide) ?_
        refine lv_aload_n hx hb dX6_face_48 rfl (lv_at hl 0 rfl) ?_
        refine va_get (D := D) (ci := 0) (v := .ref ri) (C := RX0) (T := TX0) (N := 11) hx hb hts n_X6_face_X0 hown hK hP 5 rfl rfl 4 (by decide) (hts (.fieldLink RX6 143 "FaceMap$Faces" "rings" "[I") (List.mem_of_getElem? (i := 1) rfl)) (fun _ h9 => h9) rfl dX6_face_49 ?_
        refine lv_iload_n hx hb dX6_face_52 rfl (lv_at hl 2 rfl) ?_
        refine va_iald hx hb hK hP 0 0 rfl rfl (q_ix 0 (by decide) (by decide) (by decide)) dX6_face_53 ?_
        refine q_vi (v := 0) hr0 ?_
        have hP9 := hP.sub (ws' := []) [] rfl
        have hD9 := hD.sub (ws' := []) [] (by decide) rfl
        exact q_reti () hx hb hr hlocks hK hP9 hD9 hS (Nat.le_of_ble_eq_true rfl) (Nat.le_of_ble_eq_true rfl) ((by first | decide | exact fac_n (by assumption) | exact fac_o (by assumption) (by assumption))) dX6_face_54
      by_cases w_5 : y = 1
      · subst w_5
        refine lv_tableIn (tgt := 55) hx hb dX6_face_16 (by decide) (by decide) rfl (by decide) ?_
        refine lv_aload_n hx hb dX6_face_55 rfl (lv_at hl 0 rfl) ?_
        refine va_get (D := D) (ci := 0) (v := .ref wa) (C := RX0) (T := TX0) (N := 11) hx hb hts n_X6_face_X0 hown hK hP 5 rfl rfl 5 (by decide) (hts (.fieldLink RX6 146 "FaceMap$Faces" "ways" "[I") (List.mem_of_getElem? (i := 2) rfl)) (fun _ h9 => h9) rfl dX6_face_56 ?_
        refine lv_iload_n hx hb dX6_face_59 rfl (lv_at hl 2 rfl) ?_
        refine va_iald hx hb hK hP 1 0 rfl rfl (q_ix 0 (by decide) (by decide) (by decide)) dX6_face_60 ?_
        refine q_vi (v := 0) hw0 ?_
        have hP9 := hP.sub (ws' := []) [] rfl
        have hD9 := hD.sub (ws' := []) [] (by decide) rfl
        exact q_reti () hx hb hr hlocks hK hP9 hD9 hS (Nat.le_of_ble_eq_true rfl) (Nat.le_of_ble_eq_true rfl) ((by first | decide | exact fac_n (by assumption) | exact fac_o (by assumption) (by assumption))) dX6_face_61
      by_cases w_6 : y = 2
      · subst w_6
        refine lv_tableIn (tgt := 62) hx hb dX6_face_16 (by decide) (by decide) rfl (by decide) ?_
        refine lv_aload_n hx hb dX6_face_62 rfl (lv_at hl 0 rfl) ?_
        refine va_get (D := D) (ci := 0) (v := .ref kf) (C := RX0) (T := TX0) (N := 11) hx hb hts n_X6_face_X0 hown hK hP 5 rfl rfl 6 (by decide) (hts (.fieldLink RX6 149 "FaceMap$Faces" "keyFrom" "[I") (List.mem_of_getElem? (i := 3) rfl)) (fun _ h9 => h9) rfl dX6_face_63 ?_
        refine lv_iload_n hx hb dX6_face_66 rfl (lv_at hl 2 rfl) ?_
        refine va_iald hx hb hK hP 2 0 rfl rfl (q_ix 0 (by decide) (by decide) (by decide)) dX6_face_67 ?_
        refine q_vi (v := (-1)) hk0 ?_
        have hP9 := hP.sub (ws' := []) [] rfl
        have hD9 := hD.sub (ws' := []) [] (by decide) rfl
        exact q_reti () hx hb hr hlocks hK hP9 hD9 hS (Nat.le_of_ble_eq_true rfl) (Nat.le_of_ble_eq_true rfl) ((by first | decide | exact fac_n (by assumption) | exact fac_o (by assumption) (by assumption))) dX6_face_68
      by_cases w_7 : y = 3
      · subst w_7
        refine lv_tableIn (tgt := 69) hx hb dX6_face_16 (by decide) (by decide) rfl (by decide) ?_
        refine lv_aload_n hx hb dX6_face_69 rfl (lv_at hl 0 rfl) ?_
        refine va_get (D := D) (ci := 0) (v := .ref kt) (C := RX0) (T := TX0) (N := 11) hx hb hts n_X6_face_X0 hown hK hP 5 rfl rfl 7 (by decide) (hts (.fieldLink RX6 152 "FaceMap$Faces" "keyTo" "[I") (List.mem_of_getElem? (i := 4) rfl)) (fun _ h9 => h9) rfl dX6_face_70 ?_
        refine lv_iload_n hx hb dX6_face_73 rfl (lv_at hl 2 rfl) ?_
        refine va_iald hx hb hK hP 3 0 rfl rfl (q_ix 0 (by decide) (by decide) (by decide)) dX6_face_74 ?_
        refine q_vi (v := (-1)) ht0 ?_
        have hP9 := hP.sub (ws' := []) [] rfl
        have hD9 := hD.sub (ws' := []) [] (by decide) rfl
        exact q_reti () hx hb hr hlocks hK hP9 hD9 hS (Nat.le_of_ble_eq_true rfl) (Nat.le_of_ble_eq_true rfl) ((by first | decide | exact fac_n (by assumption) | exact fac_o (by assumption) (by assumption))) dX6_face_75
      refine lv_tableOut (tgt := 76) hx hb dX6_face_16 (q_sw3 w_4 w_5 w_6 w_7) (by decide) ?_
      refine lv_iconst (v := (-1)) hx hb dX6_face_76 (by decide) ?_
      have hP9 := hP.sub (ws' := []) [] rfl
      have hD9 := hD.sub (ws' := []) [] (by decide) rfl
      exact q_reti () hx hb hr hlocks hK hP9 hD9 hS (Nat.le_of_ble_eq_true rfl) (Nat.le_of_ble_eq_true rfl) ((by first | decide | exact fac_n (by assumption) | exact fac_o (by assumption) (by assumption))) dX6_face_77
    · exact absurd c_3 (by decide)
  · have hP : va_P D q_cl [(ri, .inl (aI, 9, .inl fr)), (wa, .inl (aI, 9, .inl fw)), (kf, .inl (aI, 9, .inl fk)), (kt, .inl (aI, 9, .inl ft)), (h0, .inr (4, [.ref ph, .ref nh, .ref sh, .ref fh, .int 0])), (fh, .inr (0, [.ref p1, .ref p2, .ref p3, .ref le, .ref ri, .ref wa, .ref kf, .ref kt, .ref ar, .int 1, .int 0]))] H := hP
    have hD : va_D A [(ri, .inl (aI, 9, .inl fr)), (wa, .inl (aI, 9, .inl fw)), (kf, .inl (aI, 9, .inl fk)), (kt, .inl (aI, 9, .inl ft)), (h0, .inr (4, [.ref ph, .ref nh, .ref sh, .ref fh, .int 0])), (fh, .inr (0, [.ref p1, .ref p2, .ref p3, .ref le, .ref ri, .ref wa, .ref kf, .ref kt, .ref ar, .int 1, .int 0]))] := hD
    refine lv_if_ne (tgt := 15) hx hb dX6_face_10 (by decide) (fun c_8 => ?_) (fun c_8 => ?_)
    · exact absurd c_8 (by decide)
    · refine lv_iconst (v := (-1)) hx hb dX6_face_13 (by decide) ?_
      have hP9 := hP.sub (ws' := []) [] rfl
      have hD9 := hD.sub (ws' := []) [] (by decide) rfl
      exact q_reti () hx hb hr hlocks hK hP9 hD9 hS (Nat.le_of_ble_eq_true rfl) (Nat.le_of_ble_eq_true rfl) ((by first | decide | exact fac_n (by assumption) | exact fac_o (by assumption) (by assumption))) dX6_face_14
def vsX6_area2 : List Cond := .code yX6_area2 cX6_area2 3 (some .long) :: ([.methodLink RX6 102 yX6_freshFaces, .instanceMethod yX6_freshFaces, .selects RX6 yX6_freshFaces yX6_freshFaces, .initialized RX6, .code yX6_freshFaces cX6_freshFaces 1 (some (.object "FaceMap$Faces")), .fieldLink RX6 41 "FaceMap" "facesAreOld" "Z", .fieldLink RX6 37 "FaceMap" "faces" "LFaceMap$Faces;", .methodLink RX6 140 yX0_has, .instanceMethod yX0_has, .selects RX0 yX0_has yX0_has, .initialized RX0, .code yX0_has cX0_has 2 (some .boolean), .fieldLink RX0 60 "FaceMap$Faces" "size" "I"] ++ wsX60 ++ wsX00)
set_option maxRecDepth 20000 in
theorem g_X6_area2_X6_freshFaces_102 : GoodIn vsX6_area2 (wsV RX6 102 RX6 yX6_freshFaces vsX6_freshFaces) := goodIn_r _ [1, 2, 3, 4, 5, 6, 7, 14, 15, 16, 17, 18] rfl (by decide +kernel)
set_option maxRecDepth 20000 in
theorem g_X6_area2_X0_has_140 : GoodIn vsX6_area2 (wsV RX6 140 RX0 yX0_has vsX0_has) := goodIn_r _ [8, 9, 10, 11, 12, 13, 19, 20, 21, 22, 23, 24, 25, 26, 27, 28, 29] rfl (by decide +kernel)
set_option maxHeartbeats 4000000 in
set_option maxRecDepth 100000 in
/-- FaceMap.area2 -/
theorem c_X6_area2 (l : Launch) (D : va_G) (aI aL aZ : ClassId) (h0 : Nat) (ph : Nat) (nh : Nat) (sh : Nat) (fh : Nat) (p1 : Nat) (p2 : Nat) (p3 : Nat) (le : Nat) (ri : Nat) (wa : Nat) (kf : Nat) (kt : Nat) (ar : Nat) (x : Int32) (sz : Nat) : ML l D q_cl (q_ty aI aL aZ) yX6_area2 vsX6_area2 1 0 0 [.ref h0, .int x] [(h0, .inr (4, [.ref ph, .ref nh, .ref sh, .ref fh, .int 0])), (fh, .inr (0, [.ref p1, .ref p2, .ref p3, .ref le, .ref ri, .ref wa, .ref kf, .ref kt, .ref ar, .int 1, .int 0]))] sz (fun (r : Int64) (u : Unit) => r = 0) (fun (u : Unit) => ([] : va_W)) := by
  refine q_in cX6_area2 3 (some .long) (qQl D q_cl (q_ty aI aL aZ) _ _) (by decide) rfl (Nat.le_of_ble_eq_true rfl) ?_
  intro p e s m args below meth c A ls hat hP hD hS hl
  obtain ⟨hx, hb, hr, hts, hown, hlocks, hml, hin, hK, hN, hA⟩ := hat
  have hown : s.vm.findClass RX6 = some m.cls := hown
  have hl : lv_has ls 3 [(0, .ref h0), (1, .int x)] := hl
  refine lv_aload_n hx hb dX6_area2_0 rfl (lv_at hl 0 rfl) ?_
  refine q_r (wr := [(fh, .inr (0, [.ref p1, .ref p2, .ref p3, .ref le, .ref ri, .ref wa, .ref kf, .ref kt, .ref ar, .int 1, .int 0]))]) (q_runV (As := []) (rest := []) ⟨hx, hb, hml, hown, hts⟩ (c_X6_freshFaces l D aI aL aZ h0 ph nh sh fh _) (cwV 0 hts g_X6_area2_X6_freshFaces_102 rfl rfl rfl (by decide +kernel) ⟨Nat.le_of_ble_eq_true rfl, Nat.le_of_ble_eq_true rfl⟩) hK hN hP hD [0] rfl (by decide) rfl rfl rfl hl.1 rfl (Nat.le_of_ble_eq_true rfl) dX6_area2_1 ⟨Nat.le_of_ble_eq_true rfl, Nat.le_of_ble_eq_true rfl⟩) hP hD hS hA [0] [1] rfl rfl (by decide) (by decide) (fun u_1 H locs hw hP hD hS => ?_)
  have hP : va_P D q_cl [(fh, .inr (0, [.ref p1, .ref p2, .ref p3, .ref le, .ref ri, .ref wa, .ref kf, .ref kt, .ref ar, .int 1, .int 0])), (h0, .inr (4, [.ref ph, .ref nh, .ref sh, .ref fh, .int 0]))] H := hP
  have hD : va_D A [(fh, .inr (0, [.ref p1, .ref p2, .ref p3, .ref le, .ref ri, .ref wa, .ref kf, .ref kt, .ref ar, .int 1, .int 0])), (h0, .inr (4, [.ref ph, .ref nh, .ref sh, .ref fh, .int 0]))] := hD
  refine lv_astore_n (lv' := [(2, .ref fh), (0, .ref h0), (1, .int x)]) hx hb dX6_area2_4 rfl hl (by decide) rfl (fun ls hl => ?_)
  refine lv_iload_n hx hb dX6_area2_5 rfl (lv_at hl 2 rfl) ?_
  refine lv_if_eq (tgt := 26) hx hb dX6_area2_6 (by decide) (fun c_2 => ?_) (fun c_2 => ?_)
  · refine lv_lconst (v := 0) hx hb dX6_area2_26 (by decide) ?_
    have hP9 := hP.sub (ws' := []) [] rfl
    have hD9 := hD.sub (ws' := []) [] (by decide) rfl
    exact q_retl () hx hb hr hlocks hK hP9 hD9 hS (Nat.le_of_ble_eq_true rfl) (Nat.le_of_ble_eq_true rfl) (rfl) dX6_area2_27
  · refine lv_aload_n hx hb dX6_area2_9 rfl (lv_at hl 0 rfl) ?_
    refine lv_iload_n hx hb dX6_area2_10 rfl (lv_at hl 2 rfl) ?_
    refine q_i (wr := [(h0, .inr (4, [.ref ph, .ref nh, .ref sh, .ref fh, .int 0]))]) (q_runV (As := [.int x]) (rest := []) ⟨hx, hb, hml, hown, hts⟩ (c_X0_has l D aI aL aZ fh p1 p2 p3 le ri wa kf kt ar x _) (cwV 1 hts g_X6_area2_X0_has_140 rfl rfl rfl (by decide +kernel) ⟨Nat.le_of_ble_eq_true rfl, Nat.le_of_ble_eq_true rfl⟩) hK hN hP hD [0] rfl (by decide) rfl rfl rfl hl.1 rfl (Nat.le_of_ble_eq_true rfl) dX6_area2_11 ⟨Nat.le_of_ble_eq_true rfl, Nat.le_of_ble_eq_true rfl⟩) hP hD hS hA [0] [1] rfl rfl (by decide) (by decide) (fun r_3 u_3 H locs hw hP hD hS => ?_)
    rcases hw with ⟨rfl, f3_0⟩ | ⟨rfl, f3_0⟩
    · exact absurd f3_0 (by assumption)
    · have hP : va_P D q_cl [(h0, .inr (4, [.ref ph, .ref nh, .ref sh, .ref fh, .int 0])), (fh, .inr (0, [.ref p1, .ref p2, .ref p3, .ref le, .ref ri, .ref wa, .ref kf, .ref kt, .ref ar, .int 1, .int 0]))] H := hP
      have hD : va_D A [(h0, .inr (4, [.ref ph, .ref nh, .ref sh, .ref fh, .int 0])), (fh, .inr (0, [.ref p1, .ref p2, .ref p3, .ref le, .ref ri, .ref wa, .ref kf, .ref kt, .ref ar, .int 1, .int 0]))] := hD
      refine lv_if_eq (tgt := 26) hx hb dX6_area2_14 (by decide) (fun c_4 => ?_) (fun c_4 => ?_)
      · refine lv_lconst (v := 0) hx hb dX6_area2_26 (by decide) ?_
        have hP9 := hP.sub (ws' := []) [] rfl
        have hD9 := hD.sub (ws' := []) [] (by decide) rfl
        exact q_retl () hx hb hr hlocks hK hP9 hD9 hS (Nat.le_of_ble_eq_true rfl) (Nat.le_of_ble_eq_true rfl) (rfl) dX6_area2_27
      · exact absurd c_4 (by decide)
def vsX6_locate : List Cond := .code yX6_locate cX6_locate 6 (some .int) :: ([.fieldLink RX6 10 "FaceMap" "pieces" "LFaceMap$Pieces;", .methodLink RX6 45 yX3_inBounds, .static yX3_inBounds, .initialized RX3, .code yX3_inBounds cX3_inBounds 2 (some .boolean), .constant RX3 9 (-500000), .constant RX3 10 (500000), .methodLink RX6 51 yX3_of, .static yX3_of, .code yX3_of cX3_of 2 (some .long), .methodLink RX6 158 yX2_firstOn, .instanceMethod yX2_firstOn, .selects RX2 yX2_firstOn yX2_firstOn, .initialized RX2, .code yX2_firstOn cX2_firstOn 4 (some .int), .fieldLink RX2 16 "FaceMap$Pieces" "size" "I", .methodLink RX6 102 yX6_freshFaces, .instanceMethod yX6_freshFaces, .selects RX6 yX6_freshFaces yX6_freshFaces, .initialized RX6, .code yX6_freshFaces cX6_freshFaces 1 (some (.object "FaceMap$Faces")), .fieldLink RX6 41 "FaceMap" "facesAreOld" "Z", .fieldLink RX6 37 "FaceMap" "faces" "LFaceMap$Faces;", .methodLink RX6 161 yX2_nextBelow, .instanceMethod yX2_nextBelow, .selects RX2 yX2_nextBelow yX2_nextBelow, .code yX2_nextBelow cX2_nextBelow 6 (some .int), .methodLink RX6 164 yX0_above, .instanceMethod yX0_above, .selects RX0 yX0_above yX0_above, .initialized RX0, .code yX0_above cX0_above 2 (some .int)] ++ wsX60 ++ wsX20)
set_option maxRecDepth 20000 in
theorem g_X6_locate_X3_inBounds_45 : GoodIn vsX6_locate (va_wsS RX6 45 yX3_inBounds vsX3_inBounds) := goodIn_r _ [2, 3, 4, 5, 6, 7] rfl (by decide +kernel)
set_option maxRecDepth 20000 in
theorem g_X6_locate_X3_of_51 : GoodIn vsX6_locate (va_wsS RX6 51 yX3_of vsX3_of) := goodIn_r _ [8, 9, 4, 10, 7] rfl (by decide +kernel)
set_option maxRecDepth 20000 in
theorem n_X6_locate_X6 : ∀ w ∈ wsX60, w ∈ vsX6_locate := fun _ h => List.mem_cons_of_mem _ (List.mem_append_left _ (List.mem_append_right _ h))
set_option maxRecDepth 20000 in
theorem g_X6_locate_X2_firstOn_158 : GoodIn vsX6_locate (wsV RX6 158 RX2 yX2_firstOn vsX2_firstOn) := goodIn_r _ [11, 12, 13, 14, 15, 16, 38, 39, 40] rfl (by decide +kernel)
set_option maxRecDepth 20000 in
theorem g_X6_locate_X6_freshFaces_102 : GoodIn vsX6_locate (wsV RX6 102 RX6 yX6_freshFaces vsX6_freshFaces) := goodIn_r _ [17, 18, 19, 20, 21, 22, 23, 33, 34, 35, 36, 37] rfl (by decide +kernel)
set_option maxRecDepth 20000 in
theorem g_X6_locate_X2_nextBelow_161 : GoodIn vsX6_locate (wsV RX6 161 RX2 yX2_nextBelow vsX2_nextBelow) := goodIn_r _ [24, 25, 26, 14, 27, 16, 38, 39, 40] rfl (by decide +kernel)
set_option maxRecDepth 20000 in
theorem g_X6_locate_X0_above_164 : GoodIn vsX6_locate (wsV RX6 164 RX0 yX0_above vsX0_above) := goodIn_r _ [28, 29, 30, 31, 32] rfl (by decide +kernel)
set_option maxHeartbeats 4000000 in
set_option maxRecDepth 100000 in
/-- FaceMap.locate -/
theorem c_X6_locate (l : Launch) (D : va_G) (aI aL aZ : ClassId) (h0 : Nat) (ph : Nat) (nh : Nat) (sh : Nat) (fh : Nat) (lo : Nat) (hi : Nat) (p1 : Nat) (p2 : Nat) (p3 : Nat) (le : Nat) (ri : Nat) (wa : Nat) (kf : Nat) (kt : Nat) (ar : Nat) (x : Int32) (y : Int32) (sz : Nat) : MI l D q_cl (q_ty aI aL aZ) yX6_locate vsX6_locate 1 0 0 [.ref h0, .int x, .int y] [(h0, .inr (4, [.ref ph, .ref nh, .ref sh, .ref fh, .int 0])), (ph, .inr (2, [.ref lo, .ref hi, .int 0])), (fh, .inr (0, [.ref p1, .ref p2, .ref p3, .ref le, .ref ri, .ref wa, .ref kf, .ref kt, .ref ar, .int 1, .int 0]))] sz (fun (r : Int32) (u : Unit) => r = 0) (fun (u : Unit) => ([] : va_W)) := by
  refine q_in cX6_locate 6 (some .int) (qQi D q_cl (q_ty aI aL aZ) _ _) (by decide) rfl (Nat.le_of_ble_eq_true rfl) ?_
  intro p e s m args below meth c A ls hat hP hD hS hl
  obtain ⟨hx, hb, hr, hts, hown, hlocks, hml, hin, hK, hN, hA⟩ := hat
  have hown : s.vm.findClass RX6 = some m.cls := hown
  have hl : lv_has ls 6 [(0, .ref h0), (1, .int x), (2, .int y)] := hl
  refine lv_iload_n hx hb dX6_locate_0 rfl (lv_at hl 1 rfl) ?_
  refine lv_iload_n hx hb dX6_locate_1 rfl (lv_at hl 2 rfl) ?_
  refine q_i (wr := [(h0, .inr (4, [.ref ph, .ref nh, .ref sh, .ref fh, .int 0])), (ph, .inr (2, [.ref lo, .ref hi, .int 0])), (fh, .inr (0, [.ref p1, .ref p2, .ref p3, .ref le, .ref ri, .ref wa, .ref kf, .ref kt, .ref ar, .int 1, .int 0]))]) (q_runS (As := [.int x, .int y]) (rest := []) ⟨hx, hb, hml, hown, hts⟩ (c_X3_inBounds l D aI aL aZ x y _) (va_cwS 2 hts g_X6_locate_X3_inBounds_45 rfl rfl rfl (by decide +kernel) ⟨Nat.le_of_ble_eq_true rfl, Nat.le_of_ble_eq_true rfl⟩) hK hN hP hD [] rfl (by decide) rfl hl.1 rfl (Nat.le_of_ble_eq_true rfl) dX6_locate_2 ⟨Nat.le_of_ble_eq_true rfl, Nat.le_of_ble_eq_true rfl⟩) hP hD hS hA [] [0, 1, 2] rfl rfl (by decide) (by decide) (fun r_1 u_1 H locs hw hP hD hS => ?_)
  rcases hw with ⟨rfl, f1_0⟩ | ⟨rfl, f1_0⟩
  · have hP : va_P D q_cl [(h0, .inr (4, [.ref ph, .ref nh, .ref sh, .ref fh, .int 0])), (ph, .inr (2, [.ref lo, .ref hi, .int 0])), (fh, .inr (0, [.ref p1, .ref p2, .ref p3, .ref le, .ref ri, .ref wa, .ref kf, .ref kt, .ref ar, .int 1, .int 0]))] H := hP
    have hD : va_D A [(h0, .inr (4, [.ref ph, .ref nh, .ref sh, .ref fh, .int 0])), (ph, .inr (2, [.ref lo, .ref hi, .int 0])), (fh, .inr (0, [.ref p1, .ref p2, .ref p3, .ref le, .ref ri, .ref wa, .ref kf, .ref kt, .ref ar, .int 1, .int 0]))] := hD
    refine lv_if_ne (tgt := 10) hx hb dX6_locate_5 (by decide) (fun c_2 => ?_) (fun c_2 => ?_)
    · refine lv_iload_n hx hb dX6_locate_10 rfl (lv_at hl 1 rfl) ?_
      refine lv_iload_n hx hb dX6_locate_11 rfl (lv_at hl 2 rfl) ?_
      refine q_l (wr := [(h0, .inr (4, [.ref ph, .ref nh, .ref sh, .ref fh, .int 0])), (ph, .inr (2, [.ref lo, .ref hi, .int 0])), (fh, .inr (0, [.ref p1, .ref p2, .ref p3, .ref le, .ref ri, .ref wa, .ref kf, .ref kt, .ref ar, .int 1, .int 0]))]) (q_runS (As := [.int x, .int y]) (rest := []) ⟨hx, hb, hml, hown, hts⟩ (c_X3_of l D aI aL aZ x y _) (va_cwS 2 hts g_X6_locate_X3_of_51 rfl rfl rfl (by decide +kernel) ⟨Nat.le_of_ble_eq_true rfl, Nat.le_of_ble_eq_true rfl⟩) hK hN hP hD [] rfl (by decide) rfl hl.1 rfl (Nat.le_of_ble_eq_true rfl) dX6_locate_12 ⟨Nat.le_of_ble_eq_true rfl, Nat.le_of_ble_eq_true rfl⟩) hP hD hS hA [] [0, 1, 2] rfl rfl (by decide) (by decide) (fun r_3 u_3 H locs hw hP hD hS => ?_)
      subst hw
      have hP : va_P D q_cl [(h0, .inr (4, [.ref ph, .ref nh, .ref sh, .ref fh, .int 0])), (ph, .inr (2, [.ref lo, .ref hi, .int 0])), (fh, .inr (0, [.ref p1, .ref p2, .ref p3, .ref le, .ref ri, .ref wa, .ref kf, .ref kt, .ref ar, .int 1, .int 0]))] H := hP
      have hD : va_D A [(h0, .inr (4, [.ref ph, .ref nh, .ref sh, .ref fh, .int 0])), (ph, .inr (2, [.ref lo, .ref hi, .int 0])), (fh, .inr (0, [.ref p1, .ref p2, .ref p3, .ref le, .ref ri, .ref wa, .ref kf, .ref kt, .ref ar, .int 1, .int 0]))] := hD
      refine lv_lstore_n (lv' := [(3, .long (plc x y)), (0, .ref h0), (1, .int x), (2, .int y)]) hx hb dX6_locate_15 rfl hl (by decide) rfl (fun ls hl => ?_)
      refine lv_aload_n hx hb dX6_locate_16 rfl (lv_at hl 1 rfl) ?_
      refine va_get (D := D) (ci := 4) (v := .ref ph) (C := RX6) (T := TX6) (N := 5) hx hb hts n_X6_locate_X6 hown hK hP 0 rfl rfl 0 (by decide) (hts (.fieldLink RX6 10 "FaceMap" "pieces" "LFaceMap$Pieces;") (List.mem_of_getElem? (i := 1) rfl)) (fun _ h9 => h9) rfl dX6_locate_17 ?_
      refine lv_lload_n hx hb dX6_locate_20 rfl (lv_at hl 0 rfl) ?_
      refine q_i (wr := [(h0, .inr (4, [.ref ph, .ref nh, .ref sh, .ref fh, .int 0])), (fh, .inr (0, [.ref p1, .ref p2, .ref p3, .ref le, .ref ri, .ref wa, .ref kf, .ref kt, .ref ar, .int 1, .int 0]))]) (q_runV (As := [.long (plc x y)]) (rest := []) ⟨hx, hb, hml, hown, hts⟩ (c_X2_firstOn_0 l D aI aL aZ ph lo hi (plc x y) _) (cwV 1 hts g_X6_locate_X2_firstOn_158 rfl rfl rfl (by decide +kernel) ⟨Nat.le_of_ble_eq_true rfl, Nat.le_of_ble_eq_true rfl⟩) hK hN hP hD [1] rfl (by decide) rfl rfl rfl hl.1 rfl (Nat.le_of_ble_eq_true rfl) dX6_locate_21 ⟨Nat.le_of_ble_eq_true rfl, Nat.le_of_ble_eq_true rfl⟩) hP hD hS hA [1] [0, 2] rfl rfl (by decide) (by decide) (fun r_4 u_4 H locs hw hP hD hS => ?_)
      subst hw
      have hP : va_P D q_cl [(h0, .inr (4, [.ref ph, .ref nh, .ref sh, .ref fh, .int 0])), (fh, .inr (0, [.ref p1, .ref p2, .ref p3, .ref le, .ref ri, .ref wa, .ref kf, .ref kt, .ref ar, .int 1, .int 0])), (ph, .inr (2, [.ref lo, .ref hi, .int 0]))] H := hP
      have hD : va_D A [(h0, .inr (4, [.ref ph, .ref nh, .ref sh, .ref fh, .int 0])), (fh, .inr (0, [.ref p1, .ref p2, .ref p3, .ref le, .ref ri, .ref wa, .ref kf, .ref kt, .ref ar, .int 1, .int 0])), (ph, .inr (2, [.ref lo, .ref hi, .int 0]))] := hD
      refine lv_istore (lv' := [(5, .int (-1)), (3, .long (plc x y)), (0, .ref h0), (1, .int x), (2, .int y)]) hx hb dX6_locate_24 hl (by decide) rfl (fun ls hl => ?_)
      refine lv_iload hx hb dX6_locate_26 (lv_at hl 0 rfl) ?_
      refine lv_if_lt (tgt := 36) hx hb dX6_locate_28 (by decide) (fun c_5 => ?_) (fun c_5 => ?_)
      · refine lv_aload_n hx hb dX6_locate_36 rfl (lv_at hl 2 rfl) ?_
        refine q_r (wr := [(fh, .inr (0, [.ref p1, .ref p2, .ref p3, .ref le, .ref ri, .ref wa, .ref kf, .ref kt, .ref ar, .int 1, .int 0])), (ph, .inr (2, [.ref lo, .ref hi, .int 0]))]) (q_runV (As := []) (rest := []) ⟨hx, hb, hml, hown, hts⟩ (c_X6_freshFaces l D aI aL aZ h0 ph nh sh fh _) (cwV 0 hts g_X6_locate_X6_freshFaces_102 rfl rfl rfl (by decide +kernel) ⟨Nat.le_of_ble_eq_true rfl, Nat.le_of_ble_eq_true rfl⟩) hK hN hP hD [0] rfl (by decide) rfl rfl rfl hl.1 rfl (Nat.le_of_ble_eq_true rfl) dX6_locate_37 ⟨Nat.le_of_ble_eq_true rfl, Nat.le_of_ble_eq_true rfl⟩) hP hD hS hA [0] [1, 2] rfl rfl (by decide) (by decide) (fun u_6 H locs hw hP hD hS => ?_)
        have hP : va_P D q_cl [(fh, .inr (0, [.ref p1, .ref p2, .ref p3, .ref le, .ref ri, .ref wa, .ref kf, .ref kt, .ref ar, .int 1, .int 0])), (ph, .inr (2, [.ref lo, .ref hi, .int 0])), (h0, .inr (4, [.ref ph, .ref nh, .ref sh, .ref fh, .int 0]))] H := hP
        have hD : va_D A [(fh, .inr (0, [.ref p1, .ref p2, .ref p3, .ref le, .ref ri, .ref wa, .ref kf, .ref kt, .ref ar, .int 1, .int 0])), (ph, .inr (2, [.ref lo, .ref hi, .int 0])), (h0, .inr (4, [.ref ph, .ref nh, .ref sh, .ref fh, .int 0]))] := hD
        refine lv_aload_n hx hb dX6_locate_40 rfl (lv_at hl 2 rfl) ?_
        refine va_get (D := D) (ci := 4) (v := .ref ph) (C := RX6) (T := TX6) (N := 5) hx hb hts n_X6_locate_X6 hown hK hP 2 rfl rfl 0 (by decide) (hts (.fieldLink RX6 10 "FaceMap" "pieces" "LFaceMap$Pieces;") (List.mem_of_getElem? (i := 1) rfl)) (fun _ h9 => h9) rfl dX6_locate_41 ?_
        refine lv_lload_n hx hb dX6_locate_44 rfl (lv_at hl 1 rfl) ?_
        refine q_i (wr := [(fh, .inr (0, [.ref p1, .ref p2, .ref p3, .ref le, .ref ri, .ref wa, .ref kf, .ref kt, .ref ar, .int 1, .int 0])), (h0, .inr (4, [.ref ph, .ref nh, .ref sh, .ref fh, .int 0]))]) (q_runV (As := [.long (plc x y)]) (rest := [.ref fh]) ⟨hx, hb, hml, hown, hts⟩ (c_X2_nextBelow_0 l D aI aL aZ ph lo hi (plc x y) _) (cwV 1 hts g_X6_locate_X2_nextBelow_161 rfl rfl rfl (by decide +kernel) ⟨Nat.le_of_ble_eq_true rfl, Nat.le_of_ble_eq_true rfl⟩) hK hN hP hD [1] rfl (by decide) rfl rfl rfl hl.1 rfl (Nat.le_of_ble_eq_true rfl) dX6_locate_45 ⟨Nat.le_of_ble_eq_true rfl, Nat.le_of_ble_eq_true rfl⟩) hP hD hS hA [1] [0, 2] rfl rfl (by decide) (by decide) (fun r_7 u_7 H locs hw hP hD hS => ?_)
        subst hw
        have hP : va_P D q_cl [(fh, .inr (0, [.ref p1, .ref p2, .ref p3, .ref le, .ref ri, .ref wa, .ref kf, .ref kt, .ref ar, .int 1, .int 0])), (h0, .inr (4, [.ref ph, .ref nh, .ref sh, .ref fh, .int 0])), (ph, .inr (2, [.ref lo, .ref hi, .int 0]))] H := hP
        have hD : va_D A [(fh, .inr (0, [.ref p1, .ref p2, .ref p3, .ref le, .ref ri, .ref wa, .ref kf, .ref kt, .ref ar, .int 1, .int 0])), (h0, .inr (4, [.ref ph, .ref nh, .ref sh, .ref fh, .int 0])), (ph, .inr (2, [.ref lo, .ref hi, .int 0]))] := hD
        refine q_i (wr := [(h0, .inr (4, [.ref ph, .ref nh, .ref sh, .ref fh, .int 0])), (ph, .inr (2, [.ref lo, .ref hi, .int 0]))]) (q_runV (As := [.int (-1)]) (rest := []) ⟨hx, hb, hml, hown, hts⟩ (c_X0_above l D aI aL aZ fh p1 p2 p3 le ri wa kf kt ar _) (cwV 1 hts g_X6_locate_X0_above_164 rfl rfl rfl (by decide +kernel) ⟨Nat.le_of_ble_eq_true rfl, Nat.le_of_ble_eq_true rfl⟩) hK hN hP hD [0] rfl (by decide) rfl rfl rfl hl.1 rfl (Nat.le_of_ble_eq_true rfl) dX6_locate_48 ⟨Nat.le_of_ble_eq_true rfl, Nat.le_of_ble_eq_true rfl⟩) hP hD hS hA [0] [1, 2] rfl rfl (by decide) (by decide) (fun r_8 u_8 H locs hw hP hD hS => ?_)
        subst hw
        have hP : va_P D q_cl [(h0, .inr (4, [.ref ph, .ref nh, .ref sh, .ref fh, .int 0])), (ph, .inr (2, [.ref lo, .ref hi, .int 0])), (fh, .inr (0, [.ref p1, .ref p2, .ref p3, .ref le, .ref ri, .ref wa, .ref kf, .ref kt, .ref ar, .int 1, .int 0]))] H := hP
        have hD : va_D A [(h0, .inr (4, [.ref ph, .ref nh, .ref sh, .ref fh, .int 0])), (ph, .inr (2, [.ref lo, .ref hi, .int 0])), (fh, .inr (0, [.ref p1, .ref p2, .ref p3, .ref le, .ref ri, .ref wa, .ref kf, .ref kt, .ref ar, .int 1, .int 0]))] := hD
        have hP9 := hP.sub (ws' := []) [] rfl
        have hD9 := hD.sub (ws' := []) [] (by decide) rfl
        exact q_reti () hx hb hr hlocks hK hP9 hD9 hS (Nat.le_of_ble_eq_true rfl) (Nat.le_of_ble_eq_true rfl) (rfl) dX6_locate_51
      · exact absurd c_5 (by decide)
    · exact absurd c_2 (by decide)
  · have hP : va_P D q_cl [(h0, .inr (4, [.ref ph, .ref nh, .ref sh, .ref fh, .int 0])), (ph, .inr (2, [.ref lo, .ref hi, .int 0])), (fh, .inr (0, [.ref p1, .ref p2, .ref p3, .ref le, .ref ri, .ref wa, .ref kf, .ref kt, .ref ar, .int 1, .int 0]))] H := hP
    have hD : va_D A [(h0, .inr (4, [.ref ph, .ref nh, .ref sh, .ref fh, .int 0])), (ph, .inr (2, [.ref lo, .ref hi, .int 0])), (fh, .inr (0, [.ref p1, .ref p2, .ref p3, .ref le, .ref ri, .ref wa, .ref kf, .ref kt, .ref ar, .int 1, .int 0]))] := hD
    refine lv_if_ne (tgt := 10) hx hb dX6_locate_5 (by decide) (fun c_9 => ?_) (fun c_9 => ?_)
    · exact absurd c_9 (by decide)
    · refine lv_iconst (v := 0) hx hb dX6_locate_8 (by decide) ?_
      have hP9 := hP.sub (ws' := []) [] rfl
      have hD9 := hD.sub (ws' := []) [] (by decide) rfl
      exact q_reti () hx hb hr hlocks hK hP9 hD9 hS (Nat.le_of_ble_eq_true rfl) (Nat.le_of_ble_eq_true rfl) (rfl) dX6_locate_9
def vsX6_between : List Cond := .code yX6_between cX6_between 4 (some .int) :: ([.methodLink RX6 102 yX6_freshFaces, .instanceMethod yX6_freshFaces, .selects RX6 yX6_freshFaces yX6_freshFaces, .initialized RX6, .code yX6_freshFaces cX6_freshFaces 1 (some (.object "FaceMap$Faces")), .fieldLink RX6 41 "FaceMap" "facesAreOld" "Z", .fieldLink RX6 37 "FaceMap" "faces" "LFaceMap$Faces;", .methodLink RX6 140 yX0_has, .instanceMethod yX0_has, .selects RX0 yX0_has yX0_has, .initialized RX0, .code yX0_has cX0_has 2 (some .boolean), .fieldLink RX0 60 "FaceMap$Faces" "size" "I", .methodLink RX6 167 yX0_piecesBetween, .instanceMethod yX0_piecesBetween, .selects RX0 yX0_piecesBetween yX0_piecesBetween, .code yX0_piecesBetween cX0_piecesBetween 7 (some .int), .fieldLink RX0 7 "FaceMap$Faces" "pieces" "LFaceMap$Pieces;", .fieldLink RX0 71 "FaceMap$Pieces" "size" "I"] ++ wsX60 ++ wsX00 ++ wsX20)
set_option maxRecDepth 20000 in
theorem g_X6_between_X6_freshFaces_102 : GoodIn vsX6_between (wsV RX6 102 RX6 yX6_freshFaces vsX6_freshFaces) := goodIn_r _ [1, 2, 3, 4, 5, 6, 7, 20, 21, 22, 23, 24] rfl (by decide +kernel)
set_option maxRecDepth 20000 in
theorem g_X6_between_X0_has_140 : GoodIn vsX6_between (wsV RX6 140 RX0 yX0_has vsX0_has) := goodIn_r _ [8, 9, 10, 11, 12, 13, 25, 26, 27, 28, 29, 30, 31, 32, 33, 34, 35] rfl (by decide +kernel)
set_option maxRecDepth 20000 in
theorem g_X6_between_X0_piecesBetween_167 : GoodIn vsX6_between (wsV RX6 167 RX0 yX0_piecesBetween vsX0_piecesBetween) := goodIn_r _ [14, 15, 16, 11, 17, 18, 19, 25, 26, 27, 28, 29, 30, 31, 32, 33, 34, 35, 36, 37, 38] rfl (by decide +kernel)
set_option maxHeartbeats 4000000 in
set_option maxRecDepth 100000 in
/-- FaceMap.between -/
theorem c_X6_between (l : Launch) (D : va_G) (aI aL aZ : ClassId) (h0 : Nat) (ph : Nat) (nh : Nat) (sh : Nat) (fh : Nat) (lo : Nat) (hi : Nat) (p2 : Nat) (p3 : Nat) (le : Nat) (ri : Nat) (wa : Nat) (kf : Nat) (kt : Nat) (ar : Nat) (x : Int32) (y : Int32) (sz : Nat) : MI l D q_cl (q_ty aI aL aZ) yX6_between vsX6_between 1 0 0 [.ref h0, .int x, .int y] [(h0, .inr (4, [.ref ph, .ref nh, .ref sh, .ref fh, .int 0])), (fh, .inr (0, [.ref ph, .ref p2, .ref p3, .ref le, .ref ri, .ref wa, .ref kf, .ref kt, .ref ar, .int 1, .int 0])), (ph, .inr (2, [.ref lo, .ref hi, .int 0]))] sz (fun (r : Int32) (u : Unit) => r = (btw x y)) (fun (u : Unit) => ([] : va_W)) := by
  refine q_in cX6_between 4 (some .int) (qQi D q_cl (q_ty aI aL aZ) _ _) (by decide) rfl (Nat.le_of_ble_eq_true rfl) ?_
  intro p e s m args below meth c A ls hat hP hD hS hl
  obtain ⟨hx, hb, hr, hts, hown, hlocks, hml, hin, hK, hN, hA⟩ := hat
  have hown : s.vm.findClass RX6 = some m.cls := hown
  have hl : lv_has ls 4 [(0, .ref h0), (1, .int x), (2, .int y)] := hl
  refine lv_aload_n hx hb dX6_between_0 rfl (lv_at hl 0 rfl) ?_
  refine q_r (wr := [(fh, .inr (0, [.ref ph, .ref p2, .ref p3, .ref le, .ref ri, .ref wa, .ref kf, .ref kt, .ref ar, .int 1, .int 0])), (ph, .inr (2, [.ref lo, .ref hi, .int 0]))]) (q_runV (As := []) (rest := []) ⟨hx, hb, hml, hown, hts⟩ (c_X6_freshFaces l D aI aL aZ h0 ph nh sh fh _) (cwV 0 hts g_X6_between_X6_freshFaces_102 rfl rfl rfl (by decide +kernel) ⟨Nat.le_of_ble_eq_true rfl, Nat.le_of_ble_eq_true rfl⟩) hK hN hP hD [0] rfl (by decide) rfl rfl rfl hl.1 rfl (Nat.le_of_ble_eq_true rfl) dX6_between_1 ⟨Nat.le_of_ble_eq_true rfl, Nat.le_of_ble_eq_true rfl⟩) hP hD hS hA [0] [1, 2] rfl rfl (by decide) (by decide) (fun u_1 H locs hw hP hD hS => ?_)
  have hP : va_P D q_cl [(fh, .inr (0, [.ref ph, .ref p2, .ref p3, .ref le, .ref ri, .ref wa, .ref kf, .ref kt, .ref ar, .int 1, .int 0])), (ph, .inr (2, [.ref lo, .ref hi, .int 0])), (h0, .inr (4, [.ref ph, .ref nh, .ref sh, .ref fh, .int 0]))] H := hP
  have hD : va_D A [(fh, .inr (0, [.ref ph, .ref p2, .ref p3, .ref le, .ref ri, .ref wa, .ref kf, .ref kt, .ref ar, .int 1, .int 0])), (ph, .inr (2, [.ref lo, .ref hi, .int 0])), (h0, .inr (4, [.ref ph, .ref nh, .ref sh, .ref fh, .int 0]))] := hD
  refine lv_astore_n (lv' := [(3, .ref fh), (0, .ref h0), (1, .int x), (2, .int y)]) hx hb dX6_between_4 rfl hl (by decide) rfl (fun ls hl => ?_)
  refine lv_aload_n hx hb dX6_between_5 rfl (lv_at hl 0 rfl) ?_
  refine lv_iload_n hx hb dX6_between_6 rfl (lv_at hl 2 rfl) ?_
  refine q_i (wr := [(ph, .inr (2, [.ref lo, .ref hi, .int 0])), (h0, .inr (4, [.ref ph, .ref nh, .ref sh, .ref fh, .int 0]))]) (q_runV (As := [.int x]) (rest := []) ⟨hx, hb, hml, hown, hts⟩ (c_X0_has l D aI aL aZ fh ph p2 p3 le ri wa kf kt ar x _) (cwV 1 hts g_X6_between_X0_has_140 rfl rfl rfl (by decide +kernel) ⟨Nat.le_of_ble_eq_true rfl, Nat.le_of_ble_eq_true rfl⟩) hK hN hP hD [0] rfl (by decide) rfl rfl rfl hl.1 rfl (Nat.le_of_ble_eq_true rfl) dX6_between_7 ⟨Nat.le_of_ble_eq_true rfl, Nat.le_of_ble_eq_true rfl⟩) hP hD hS hA [0] [1, 2] rfl rfl (by decide) (by decide) (fun r_2 u_2 H locs hw hP hD hS => ?_)
  rcases hw with ⟨rfl, f2_0⟩ | ⟨rfl, f2_0⟩
  · subst f2_0
    have hP : va_P D q_cl [(ph, .inr (2, [.ref lo, .ref hi, .int 0])), (h0, .inr (4, [.ref ph, .ref nh, .ref sh, .ref fh, .int 0])), (fh, .inr (0, [.ref ph, .ref p2, .ref p3, .ref le, .ref ri, .ref wa, .ref kf, .ref kt, .ref ar, .int 1, .int 0]))] H := hP
    have hD : va_D A [(ph, .inr (2, [.ref lo, .ref hi, .int 0])), (h0, .inr (4, [.ref ph, .ref nh, .ref sh, .ref fh, .int 0])), (fh, .inr (0, [.ref ph, .ref p2, .ref p3, .ref le, .ref ri, .ref wa, .ref kf, .ref kt, .ref ar, .int 1, .int 0]))] := hD
    refine lv_if_eq (tgt := 30) hx hb dX6_between_10 (by decide) (fun c_3 => ?_) (fun c_3 => ?_)
    · exact absurd c_3 (by decide)
    · refine lv_aload_n hx hb dX6_between_13 rfl (lv_at hl 0 rfl) ?_
      refine lv_iload_n hx hb dX6_between_14 rfl (lv_at hl 3 rfl) ?_
      refine q_i (wr := [(ph, .inr (2, [.ref lo, .ref hi, .int 0])), (h0, .inr (4, [.ref ph, .ref nh, .ref sh, .ref fh, .int 0]))]) (q_runV (As := [.int y]) (rest := []) ⟨hx, hb, hml, hown, hts⟩ (c_X0_has l D aI aL aZ fh ph p2 p3 le ri wa kf kt ar y _) (cwV 1 hts g_X6_between_X0_has_140 rfl rfl rfl (by decide +kernel) ⟨Nat.le_of_ble_eq_true rfl, Nat.le_of_ble_eq_true rfl⟩) hK hN hP hD [2] rfl (by decide) rfl rfl rfl hl.1 rfl (Nat.le_of_ble_eq_true rfl) dX6_between_15 ⟨Nat.le_of_ble_eq_true rfl, Nat.le_of_ble_eq_true rfl⟩) hP hD hS hA [2] [0, 1] rfl rfl (by decide) (by decide) (fun r_4 u_4 H locs hw hP hD hS => ?_)
      rcases hw with ⟨rfl, f4_0⟩ | ⟨rfl, f4_0⟩
      · subst f4_0
        have hP : va_P D q_cl [(ph, .inr (2, [.ref lo, .ref hi, .int 0])), (h0, .inr (4, [.ref ph, .ref nh, .ref sh, .ref fh, .int 0])), (fh, .inr (0, [.ref ph, .ref p2, .ref p3, .ref le, .ref ri, .ref wa, .ref kf, .ref kt, .ref ar, .int 1, .int 0]))] H := hP
        have hD : va_D A [(ph, .inr (2, [.ref lo, .ref hi, .int 0])), (h0, .inr (4, [.ref ph, .ref nh, .ref sh, .ref fh, .int 0])), (fh, .inr (0, [.ref ph, .ref p2, .ref p3, .ref le, .ref ri, .ref wa, .ref kf, .ref kt, .ref ar, .int 1, .int 0]))] := hD
        refine lv_if_eq (tgt := 30) hx hb dX6_between_18 (by decide) (fun c_5 => ?_) (fun c_5 => ?_)
        · exact absurd c_5 (by decide)
        · refine lv_aload_n hx hb dX6_between_21 rfl (lv_at hl 0 rfl) ?_
          refine lv_iload_n hx hb dX6_between_22 rfl (lv_at hl 2 rfl) ?_
          refine lv_iload_n hx hb dX6_between_23 rfl (lv_at hl 3 rfl) ?_
          refine q_i (wr := [(h0, .inr (4, [.ref ph, .ref nh, .ref sh, .ref fh, .int 0]))]) (q_runV (As := [.int 0, .int 0]) (rest := []) ⟨hx, hb, hml, hown, hts⟩ (c_X0_piecesBetween l D aI aL aZ fh ph p2 p3 le ri wa kf kt ar lo hi 0 0 _) (cwV 2 hts g_X6_between_X0_piecesBetween_167 rfl rfl rfl (by decide +kernel) ⟨Nat.le_of_ble_eq_true rfl, Nat.le_of_ble_eq_true rfl⟩) hK hN hP hD [2, 0] rfl (by decide) rfl rfl rfl hl.1 rfl (Nat.le_of_ble_eq_true rfl) dX6_between_24 ⟨Nat.le_of_ble_eq_true rfl, Nat.le_of_ble_eq_true rfl⟩) hP hD hS hA [2, 0] [1] rfl rfl (by decide) (by decide) (fun r_6 u_6 H locs hw hP hD hS => ?_)
          subst hw
          have hP : va_P D q_cl [(h0, .inr (4, [.ref ph, .ref nh, .ref sh, .ref fh, .int 0]))] H := hP
          have hD : va_D A [(h0, .inr (4, [.ref ph, .ref nh, .ref sh, .ref fh, .int 0]))] := hD
          refine lv_goto (tgt := 31) hx hb dX6_between_27 (by decide) ?_
          have hP9 := hP.sub (ws' := []) [] rfl
          have hD9 := hD.sub (ws' := []) [] (by decide) rfl
          exact q_reti () hx hb hr hlocks hK hP9 hD9 hS (Nat.le_of_ble_eq_true rfl) (Nat.le_of_ble_eq_true rfl) ((by first | decide | exact btw_n1 (by assumption) | exact btw_n2 (by assumption))) dX6_between_31
      · have hP : va_P D q_cl [(ph, .inr (2, [.ref lo, .ref hi, .int 0])), (h0, .inr (4, [.ref ph, .ref nh, .ref sh, .ref fh, .int 0])), (fh, .inr (0, [.ref ph, .ref p2, .ref p3, .ref le, .ref ri, .ref wa, .ref kf, .ref kt, .ref ar, .int 1, .int 0]))] H := hP
        have hD : va_D A [(ph, .inr (2, [.ref lo, .ref hi, .int 0])), (h0, .inr (4, [.ref ph, .ref nh, .ref sh, .ref fh, .int 0])), (fh, .inr (0, [.ref ph, .ref p2, .ref p3, .ref le, .ref ri, .ref wa, .ref kf, .ref kt, .ref ar, .int 1, .int 0]))] := hD
        refine lv_if_eq (tgt := 30) hx hb dX6_between_18 (by decide) (fun c_7 => ?_) (fun c_7 => ?_)
        · refine lv_iconst (v := (-1)) hx hb dX6_between_30 (by decide) ?_
          have hP9 := hP.sub (ws' := []) [] rfl
          have hD9 := hD.sub (ws' := []) [] (by decide) rfl
          exact q_reti () hx hb hr hlocks hK hP9 hD9 hS (Nat.le_of_ble_eq_true rfl) (Nat.le_of_ble_eq_true rfl) ((by first | decide | exact btw_n1 (by assumption) | exact btw_n2 (by assumption))) dX6_between_31
        · exact absurd c_7 (by decide)
  · have hP : va_P D q_cl [(ph, .inr (2, [.ref lo, .ref hi, .int 0])), (h0, .inr (4, [.ref ph, .ref nh, .ref sh, .ref fh, .int 0])), (fh, .inr (0, [.ref ph, .ref p2, .ref p3, .ref le, .ref ri, .ref wa, .ref kf, .ref kt, .ref ar, .int 1, .int 0]))] H := hP
    have hD : va_D A [(ph, .inr (2, [.ref lo, .ref hi, .int 0])), (h0, .inr (4, [.ref ph, .ref nh, .ref sh, .ref fh, .int 0])), (fh, .inr (0, [.ref ph, .ref p2, .ref p3, .ref le, .ref ri, .ref wa, .ref kf, .ref kt, .ref ar, .int 1, .int 0]))] := hD
    refine lv_if_eq (tgt := 30) hx hb dX6_between_10 (by decide) (fun c_8 => ?_) (fun c_8 => ?_)
    · refine lv_iconst (v := (-1)) hx hb dX6_between_30 (by decide) ?_
      have hP9 := hP.sub (ws' := []) [] rfl
      have hD9 := hD.sub (ws' := []) [] (by decide) rfl
      exact q_reti () hx hb hr hlocks hK hP9 hD9 hS (Nat.le_of_ble_eq_true rfl) (Nat.le_of_ble_eq_true rfl) ((by first | decide | exact btw_n1 (by assumption) | exact btw_n2 (by assumption))) dX6_between_31
    · exact absurd c_8 (by decide)
