def vsX9_count : List Cond := .code yX9_count cX9_count 2 (some .int) :: ([.fieldLink RX9 41 "FaceMapModel" "net" "LFaceMapModel$Net;", .fieldLink RX9 136 "FaceMapModel$Net" "faces" "I", .fieldLink RX9 54 "FaceMapModel" "count" "I", .fieldLink RX9 106 "FaceMapModel$Net" "nodes" "I", .methodLink RX9 135 yX9_build, .instanceMethod yX9_build, .selects RX9 yX9_build yX9_build, .initialized RX9, .code yX9_build cX9_build 2 none, .fieldLink RX9 82 "FaceMapModel" "isBuilt" "Z", .fieldLink RX9 48 "FaceMapModel" "nodes" "LFaceMapModel$Places;", .fieldLink RX9 103 "FaceMapModel$Places" "size" "I", .fieldLink RX9 108 "FaceMapModel$Net" "pieces" "I", .methodLink RX9 90 yX8_clear, .instanceMethod yX8_clear, .selects RX8 yX8_clear yX8_clear, .initialized RX8, .code yX8_clear cX8_clear 1 none, .fieldLink RX8 13 "FaceMapModel$Places" "size" "I", .methodLink RX9 97 yX8_sort, .instanceMethod yX8_sort, .selects RX8 yX8_sort yX8_sort, .code yX8_sort cX8_sort 4 none, .methodLink RX9 100 yX7_room, .instanceMethod yX7_room, .selects RX7 yX7_room yX7_room, .initialized RX7, .code yX7_room cX7_room 3 none, .fieldLink RX7 7 "FaceMapModel$Net" "x" "[I", .arrayClass .int, .fieldLink RX7 13 "FaceMapModel$Net" "y" "[I", .fieldLink RX7 22 "FaceMapModel$Net" "begins" "[I", .fieldLink RX7 44 "FaceMapModel$Net" "part" "[I", .fieldLink RX7 16 "FaceMapModel$Net" "low" "[I", .fieldLink RX7 19 "FaceMapModel$Net" "high" "[I", .fieldLink RX7 25 "FaceMapModel$Net" "out" "[I", .fieldLink RX7 28 "FaceMapModel$Net" "rank" "[I", .fieldLink RX7 31 "FaceMapModel$Net" "round" "[I", .arrayClass .long, .fieldLink RX7 34 "FaceMapModel$Net" "area" "[J", .fieldLink RX7 38 "FaceMapModel$Net" "least" "[I", .fieldLink RX7 41 "FaceMapModel$Net" "faceOf" "[I", .arrayClass .boolean, .fieldLink RX7 47 "FaceMapModel$Net" "odd" "[Z", .methodLink RX9 132 yX7_build, .instanceMethod yX7_build, .selects RX7 yX7_build yX7_build, .code yX7_build cX7_build 2 none, .fieldLink RX7 67 "FaceMapModel$Net" "nodes" "I", .fieldLink RX7 71 "FaceMapModel$Net" "pieces" "I", .fieldLink RX7 87 "FaceMapModel$Net" "rounds" "I", .methodLink RX7 81 yX7_sortOut, .instanceMethod yX7_sortOut, .selects RX7 yX7_sortOut yX7_sortOut, .code yX7_sortOut cX7_sortOut 6 none, .methodLink RX7 94 yX7_number, .instanceMethod yX7_number, .selects RX7 yX7_number yX7_number, .code yX7_number cX7_number 5 none, .fieldLink RX7 107 "FaceMapModel$Net" "faces" "I", .methodLink RX9 139 yX7_parts, .instanceMethod yX7_parts, .selects RX7 yX7_parts yX7_parts, .code yX7_parts cX7_parts 3 (some .int)] ++ wsX90 ++ wsX70 ++ wsX80)
set_option maxRecDepth 20000 in
theorem g_X9_count_X9_build_135 : GoodIn vsX9_count (wsV RX9 135 RX9 yX9_build vsX9_build) := goodIn_r _ [5, 6, 7, 8, 9, 10, 11, 3, 1, 12, 4, 13, 14, 15, 16, 17, 18, 19, 20, 21, 22, 23, 24, 25, 26, 27, 28, 29, 30, 31, 32, 33, 34, 35, 36, 37, 38, 39, 40, 41, 42, 43, 44, 45, 46, 47, 48, 49, 50, 51, 52, 53, 54, 55, 56, 57, 58, 59, 60, 65, 66, 67, 68, 69, 87, 88, 70, 71, 72, 73, 74, 75, 76, 77, 78, 79, 80, 81, 82, 83, 84, 85, 86] rfl (by decide +kernel)
set_option maxRecDepth 20000 in
theorem n_X9_count_X9 : ∀ w ∈ wsX90, w ∈ vsX9_count := fun _ h => List.mem_cons_of_mem _ (List.mem_append_left _ (List.mem_append_left _ (List.mem_append_right _ h)))
set_option maxRecDepth 20000 in
theorem g_X9_count_X7_parts_139 : GoodIn vsX9_count (wsV RX9 139 RX7 yX7_parts vsX7_parts) := goodIn_r _ [61, 62, 63, 27, 64, 49, 70, 71, 72, 73, 74, 75, 76, 77, 78, 79, 80, 81, 82, 83, 84, 85, 86] rfl (by decide +kernel)
set_option maxRecDepth 20000 in
theorem n_X9_count_X7 : ∀ w ∈ wsX70, w ∈ vsX9_count := fun _ h => List.mem_cons_of_mem _ (List.mem_append_left _ (List.mem_append_right _ h))
set_option maxHeartbeats 4000000 in
set_option maxRecDepth 100000 in
/-- FaceMapModel.count -/
theorem c_X9_count (l : Launch) (D : va_G) (aI aL aZ : ClassId) (h0 : Nat) (en : Nat) (nt : Nat) (pl : Nat) (row : Nat) (nx : Nat) (ny : Nat) (nl : Nat) (nh : Nat) (nb : Nat) (no : Nat) (nr : Nat) (nd : Nat) (na : Nat) (ns : Nat) (nf : Nat) (np : Nat) (nq : Nat) (fx : Nat → Int32) (fl : Nat → Int32) (x : Int32) (sz : Nat) : MI l D q_cl (q_ty aI aL aZ) yX9_count vsX9_count 3 13 36005 [.ref h0, .int x] [(h0, .inr (7, [.ref en, .int 0, .ref nt, .ref pl, .int 0])), (nt, .inr (5, [.ref nx, .ref ny, .int 0, .ref nl, .ref nh, .int 0, .ref nb, .ref no, .ref nr, .ref nd, .ref na, .ref ns, .ref nf, .int 0, .ref np, .int 0, .ref nq])), (nx, .inl (aI, 0, .inl fx)), (nl, .inl (aI, 0, .inl fl)), (pl, .inr (6, [.ref row, .int 0]))] sz (fun (r : Int32) (u : Unit) => r = (cnt x)) (fun (u : Unit) => ([] : va_W)) := by
  refine q_in cX9_count 2 (some .int) (qQi D q_cl (q_ty aI aL aZ) _ _) (by decide) rfl (Nat.le_of_ble_eq_true rfl) ?_
  intro p e s m args below meth c A ls hat hP hD hS hl
  obtain ⟨hx, hb, hr, hts, hown, hlocks, hml, hin, hK, hN, hA⟩ := hat
  have hown : s.vm.findClass RX9 = some m.cls := hown
  have hl : lv_has ls 2 [(0, .ref h0), (1, .int x)] := hl
  refine lv_aload_n hx hb dX9_count_0 rfl (lv_at hl 0 rfl) ?_
  refine q_v (wr := []) (q_runV (As := []) (rest := []) ⟨hx, hb, hml, hown, hts⟩ (c_X9_build l D aI aL aZ h0 en nt pl row nx ny nl nh nb no nr nd na ns nf np nq fx fl _) (cwV 0 hts g_X9_count_X9_build_135 rfl rfl rfl (by decide +kernel) ⟨Nat.le_of_ble_eq_true rfl, Nat.le_of_ble_eq_true rfl⟩) hK hN hP hD [0, 1, 2, 3, 4] rfl (by decide) rfl rfl rfl hl.1 rfl (Nat.le_of_ble_eq_true rfl) dX9_count_1 ⟨Nat.le_of_ble_eq_true rfl, Nat.le_of_ble_eq_true rfl⟩) hP hD hS hA [0, 1, 2, 3, 4] [] rfl rfl (by decide) (by decide) (fun u_1 H locs hw hP hD hS => ?_)
  obtain ⟨knx_1, kny_1, knl_1, knh_1, knb_1, kno_1, knr_1, knd_1, kna_1, kns_1, knf_1, knp_1, knq_1⟩ := u_1
  have hP : va_P D q_cl [(h0, .inr (7, [.ref en, .int 0, .ref nt, .ref pl, .int 1])), (nt, .inr (5, [.ref knx_1, .ref kny_1, .int 0, .ref knl_1, .ref knh_1, .int 0, .ref knb_1, .ref kno_1, .ref knr_1, .ref knd_1, .ref kna_1, .ref kns_1, .ref knf_1, .int 0, .ref knp_1, .int 1, .ref knq_1]))] H := hP
  have hD : va_D A [(h0, .inr (7, [.ref en, .int 0, .ref nt, .ref pl, .int 1])), (nt, .inr (5, [.ref knx_1, .ref kny_1, .int 0, .ref knl_1, .ref knh_1, .int 0, .ref knb_1, .ref kno_1, .ref knr_1, .ref knd_1, .ref kna_1, .ref kns_1, .ref knf_1, .int 0, .ref knp_1, .int 1, .ref knq_1]))] := hD
  refine lv_iload_n hx hb dX9_count_4 rfl (lv_at hl 1 rfl) ?_
  refine lv_if_lt (tgt := 13) hx hb dX9_count_5 (by decide) (fun c_2 => ?_) (fun c_2 => ?_)
  · refine lv_iconst (v := (-1)) hx hb dX9_count_13 (by decide) ?_
    have hP9 := hP.sub (ws' := []) [] rfl
    have hD9 := hD.sub (ws' := []) [] (by decide) rfl
    exact q_reti () hx hb hr hlocks hK hP9 hD9 hS (Nat.le_of_ble_eq_true rfl) (Nat.le_of_ble_eq_true rfl) ((by first | exact cnt_lt (by assumption) | exact cnt_gt (by assumption) | exact cnt_0 (by assumption) | exact cnt_1 (by assumption) | exact cnt_2 (by assumption) | exact cnt_3 (by assumption) (by assumption) (by assumption) (by assumption) (by assumption))) dX9_count_14
  · refine lv_iload_n hx hb dX9_count_8 rfl (lv_at hl 1 rfl) ?_
    refine lv_iconst (v := 3) hx hb dX9_count_9 (by decide) ?_
    refine lv_icmp_le (tgt := 15) hx hb dX9_count_10 (by decide) (fun c_3 => ?_) (fun c_3 => ?_)
    · refine lv_iload_n hx hb dX9_count_15 rfl (lv_at hl 1 rfl) ?_
      refine lv_if_ne (tgt := 27) hx hb dX9_count_16 (by decide) (fun c_4 => ?_) (fun c_4 => ?_)
      · refine lv_iload_n hx hb dX9_count_27 rfl (lv_at hl 1 rfl) ?_
        refine lv_iconst (v := 1) hx hb dX9_count_28 (by decide) ?_
        refine lv_icmp_ne (tgt := 39) hx hb dX9_count_29 (by decide) (fun c_5 => ?_) (fun c_5 => ?_)
        · refine lv_iload_n hx hb dX9_count_39 rfl (lv_at hl 1 rfl) ?_
          refine lv_iconst (v := 2) hx hb dX9_count_40 (by decide) ?_
          refine lv_icmp_ne (tgt := 54) hx hb dX9_count_41 (by decide) (fun c_6 => ?_) (fun c_6 => ?_)
          · refine lv_aload_n hx hb dX9_count_54 rfl (lv_at hl 0 rfl) ?_
            refine va_get (D := D) (ci := 7) (v := .ref nt) (C := RX9) (T := TX9) (N := 5) hx hb hts n_X9_count_X9 hown hK hP 0 rfl rfl 2 (by decide) (hts (.fieldLink RX9 41 "FaceMapModel" "net" "LFaceMapModel$Net;") (List.mem_of_getElem? (i := 1) rfl)) (fun _ h9 => h9) rfl dX9_count_55 ?_
            refine q_i (wr := [(h0, .inr (7, [.ref en, .int 0, .ref nt, .ref pl, .int 1]))]) (q_runV (As := []) (rest := []) ⟨hx, hb, hml, hown, hts⟩ (c_X7_parts l D aI aL aZ nt knx_1 kny_1 knl_1 knh_1 knb_1 kno_1 knr_1 knd_1 kna_1 kns_1 knf_1 knp_1 knq_1 _) (cwV 0 hts g_X9_count_X7_parts_139 rfl rfl rfl (by decide +kernel) ⟨Nat.le_of_ble_eq_true rfl, Nat.le_of_ble_eq_true rfl⟩) hK hN hP hD [1] rfl (by decide) rfl rfl rfl hl.1 rfl (Nat.le_of_ble_eq_true rfl) dX9_count_58 ⟨Nat.le_of_ble_eq_true rfl, Nat.le_of_ble_eq_true rfl⟩) hP hD hS hA [1] [0] rfl rfl (by decide) (by decide) (fun r_7 u_7 H locs hw hP hD hS => ?_)
            subst hw
            have hP : va_P D q_cl [(h0, .inr (7, [.ref en, .int 0, .ref nt, .ref pl, .int 1])), (nt, .inr (5, [.ref knx_1, .ref kny_1, .int 0, .ref knl_1, .ref knh_1, .int 0, .ref knb_1, .ref kno_1, .ref knr_1, .ref knd_1, .ref kna_1, .ref kns_1, .ref knf_1, .int 0, .ref knp_1, .int 1, .ref knq_1]))] H := hP
            have hD : va_D A [(h0, .inr (7, [.ref en, .int 0, .ref nt, .ref pl, .int 1])), (nt, .inr (5, [.ref knx_1, .ref kny_1, .int 0, .ref knl_1, .ref knh_1, .int 0, .ref knb_1, .ref kno_1, .ref knr_1, .ref knd_1, .ref kna_1, .ref kns_1, .ref knf_1, .int 0, .ref knp_1, .int 1, .ref knq_1]))] := hD
            have hP9 := hP.sub (ws' := []) [] rfl
            have hD9 := hD.sub (ws' := []) [] (by decide) rfl
            exact q_reti () hx hb hr hlocks hK hP9 hD9 hS (Nat.le_of_ble_eq_true rfl) (Nat.le_of_ble_eq_true rfl) ((by first | exact cnt_lt (by assumption) | exact cnt_gt (by assumption) | exact cnt_0 (by assumption) | exact cnt_1 (by assumption) | exact cnt_2 (by assumption) | exact cnt_3 (by assumption) (by assumption) (by assumption) (by assumption) (by assumption))) dX9_count_61
          · refine lv_aload_n hx hb dX9_count_44 rfl (lv_at hl 0 rfl) ?_
            refine va_get (D := D) (ci := 7) (v := .ref nt) (C := RX9) (T := TX9) (N := 5) hx hb hts n_X9_count_X9 hown hK hP 0 rfl rfl 2 (by decide) (hts (.fieldLink RX9 41 "FaceMapModel" "net" "LFaceMapModel$Net;") (List.mem_of_getElem? (i := 1) rfl)) (fun _ h9 => h9) rfl dX9_count_45 ?_
            refine va_get (D := D) (ci := 5) (v := .int 1) (C := RX7) (T := TX7) (N := 17) hx hb hts n_X9_count_X7 hown hK hP 1 rfl rfl 15 (by decide) (hts (.fieldLink RX9 136 "FaceMapModel$Net" "faces" "I") (List.mem_of_getElem? (i := 2) rfl)) (fun _ h9 => h9) rfl dX9_count_48 ?_
            refine lv_goto (tgt := 61) hx hb dX9_count_51 (by decide) ?_
            have hP9 := hP.sub (ws' := []) [] rfl
            have hD9 := hD.sub (ws' := []) [] (by decide) rfl
            exact q_reti () hx hb hr hlocks hK hP9 hD9 hS (Nat.le_of_ble_eq_true rfl) (Nat.le_of_ble_eq_true rfl) ((by first | exact cnt_lt (by assumption) | exact cnt_gt (by assumption) | exact cnt_0 (by assumption) | exact cnt_1 (by assumption) | exact cnt_2 (by assumption) | exact cnt_3 (by assumption) (by assumption) (by assumption) (by assumption) (by assumption))) dX9_count_61
        · refine lv_aload_n hx hb dX9_count_32 rfl (lv_at hl 0 rfl) ?_
          refine va_get (D := D) (ci := 7) (v := .int 0) (C := RX9) (T := TX9) (N := 5) hx hb hts n_X9_count_X9 hown hK hP 0 rfl rfl 1 (by decide) (hts (.fieldLink RX9 54 "FaceMapModel" "count" "I") (List.mem_of_getElem? (i := 3) rfl)) (fun _ h9 => h9) rfl dX9_count_33 ?_
          refine lv_goto (tgt := 61) hx hb dX9_count_36 (by decide) ?_
          have hP9 := hP.sub (ws' := []) [] rfl
          have hD9 := hD.sub (ws' := []) [] (by decide) rfl
          exact q_reti () hx hb hr hlocks hK hP9 hD9 hS (Nat.le_of_ble_eq_true rfl) (Nat.le_of_ble_eq_true rfl) ((by first | exact cnt_lt (by assumption) | exact cnt_gt (by assumption) | exact cnt_0 (by assumption) | exact cnt_1 (by assumption) | exact cnt_2 (by assumption) | exact cnt_3 (by assumption) (by assumption) (by assumption) (by assumption) (by assumption))) dX9_count_61
      · refine lv_aload_n hx hb dX9_count_19 rfl (lv_at hl 0 rfl) ?_
        refine va_get (D := D) (ci := 7) (v := .ref nt) (C := RX9) (T := TX9) (N := 5) hx hb hts n_X9_count_X9 hown hK hP 0 rfl rfl 2 (by decide) (hts (.fieldLink RX9 41 "FaceMapModel" "net" "LFaceMapModel$Net;") (List.mem_of_getElem? (i := 1) rfl)) (fun _ h9 => h9) rfl dX9_count_20 ?_
        refine va_get (D := D) (ci := 5) (v := .int 0) (C := RX7) (T := TX7) (N := 17) hx hb hts n_X9_count_X7 hown hK hP 1 rfl rfl 2 (by decide) (hts (.fieldLink RX9 106 "FaceMapModel$Net" "nodes" "I") (List.mem_of_getElem? (i := 4) rfl)) (fun _ h9 => h9) rfl dX9_count_23 ?_
        have hP9 := hP.sub (ws' := []) [] rfl
        have hD9 := hD.sub (ws' := []) [] (by decide) rfl
        exact q_reti () hx hb hr hlocks hK hP9 hD9 hS (Nat.le_of_ble_eq_true rfl) (Nat.le_of_ble_eq_true rfl) ((by first | exact cnt_lt (by assumption) | exact cnt_gt (by assumption) | exact cnt_0 (by assumption) | exact cnt_1 (by assumption) | exact cnt_2 (by assumption) | exact cnt_3 (by assumption) (by assumption) (by assumption) (by assumption) (by assumption))) dX9_count_26
    · refine lv_iconst (v := (-1)) hx hb dX9_count_13 (by decide) ?_
      have hP9 := hP.sub (ws' := []) [] rfl
      have hD9 := hD.sub (ws' := []) [] (by decide) rfl
      exact q_reti () hx hb hr hlocks hK hP9 hD9 hS (Nat.le_of_ble_eq_true rfl) (Nat.le_of_ble_eq_true rfl) ((by first | exact cnt_lt (by assumption) | exact cnt_gt (by assumption) | exact cnt_0 (by assumption) | exact cnt_1 (by assumption) | exact cnt_2 (by assumption) | exact cnt_3 (by assumption) (by assumption) (by assumption) (by assumption) (by assumption))) dX9_count_14
def vsX9_node : List Cond := .code yX9_node cX9_node 3 (some .int) :: ([.constant RX9 143 (1000000), .fieldLink RX9 41 "FaceMapModel" "net" "LFaceMapModel$Net;", .fieldLink RX9 106 "FaceMapModel$Net" "nodes" "I", .methodLink RX9 135 yX9_build, .instanceMethod yX9_build, .selects RX9 yX9_build yX9_build, .initialized RX9, .code yX9_build cX9_build 2 none, .fieldLink RX9 82 "FaceMapModel" "isBuilt" "Z", .fieldLink RX9 48 "FaceMapModel" "nodes" "LFaceMapModel$Places;", .fieldLink RX9 54 "FaceMapModel" "count" "I", .fieldLink RX9 103 "FaceMapModel$Places" "size" "I", .fieldLink RX9 108 "FaceMapModel$Net" "pieces" "I", .methodLink RX9 90 yX8_clear, .instanceMethod yX8_clear, .selects RX8 yX8_clear yX8_clear, .initialized RX8, .code yX8_clear cX8_clear 1 none, .fieldLink RX8 13 "FaceMapModel$Places" "size" "I", .methodLink RX9 97 yX8_sort, .instanceMethod yX8_sort, .selects RX8 yX8_sort yX8_sort, .code yX8_sort cX8_sort 4 none, .methodLink RX9 100 yX7_room, .instanceMethod yX7_room, .selects RX7 yX7_room yX7_room, .initialized RX7, .code yX7_room cX7_room 3 none, .fieldLink RX7 7 "FaceMapModel$Net" "x" "[I", .arrayClass .int, .fieldLink RX7 13 "FaceMapModel$Net" "y" "[I", .fieldLink RX7 22 "FaceMapModel$Net" "begins" "[I", .fieldLink RX7 44 "FaceMapModel$Net" "part" "[I", .fieldLink RX7 16 "FaceMapModel$Net" "low" "[I", .fieldLink RX7 19 "FaceMapModel$Net" "high" "[I", .fieldLink RX7 25 "FaceMapModel$Net" "out" "[I", .fieldLink RX7 28 "FaceMapModel$Net" "rank" "[I", .fieldLink RX7 31 "FaceMapModel$Net" "round" "[I", .arrayClass .long, .fieldLink RX7 34 "FaceMapModel$Net" "area" "[J", .fieldLink RX7 38 "FaceMapModel$Net" "least" "[I", .fieldLink RX7 41 "FaceMapModel$Net" "faceOf" "[I", .arrayClass .boolean, .fieldLink RX7 47 "FaceMapModel$Net" "odd" "[Z", .methodLink RX9 132 yX7_build, .instanceMethod yX7_build, .selects RX7 yX7_build yX7_build, .code yX7_build cX7_build 2 none, .fieldLink RX7 67 "FaceMapModel$Net" "nodes" "I", .fieldLink RX7 71 "FaceMapModel$Net" "pieces" "I", .fieldLink RX7 87 "FaceMapModel$Net" "rounds" "I", .methodLink RX7 81 yX7_sortOut, .instanceMethod yX7_sortOut, .selects RX7 yX7_sortOut yX7_sortOut, .code yX7_sortOut cX7_sortOut 6 none, .methodLink RX7 94 yX7_number, .instanceMethod yX7_number, .selects RX7 yX7_number yX7_number, .code yX7_number cX7_number 5 none, .fieldLink RX7 107 "FaceMapModel$Net" "faces" "I"] ++ wsX90 ++ wsX70 ++ wsX80)
set_option maxRecDepth 20000 in
theorem g_X9_node_X9_build_135 : GoodIn vsX9_node (wsV RX9 135 RX9 yX9_build vsX9_build) := goodIn_r _ [4, 5, 6, 7, 8, 9, 10, 11, 2, 12, 3, 13, 14, 15, 16, 17, 18, 19, 20, 21, 22, 23, 24, 25, 26, 27, 28, 29, 30, 31, 32, 33, 34, 35, 36, 37, 38, 39, 40, 41, 42, 43, 44, 45, 46, 47, 48, 49, 50, 51, 52, 53, 54, 55, 56, 57, 58, 59, 60, 61, 62, 63, 64, 65, 83, 84, 66, 67, 68, 69, 70, 71, 72, 73, 74, 75, 76, 77, 78, 79, 80, 81, 82] rfl (by decide +kernel)
set_option maxRecDepth 20000 in
theorem n_X9_node_X9 : ∀ w ∈ wsX90, w ∈ vsX9_node := fun _ h => List.mem_cons_of_mem _ (List.mem_append_left _ (List.mem_append_left _ (List.mem_append_right _ h)))
set_option maxRecDepth 20000 in
theorem n_X9_node_X7 : ∀ w ∈ wsX70, w ∈ vsX9_node := fun _ h => List.mem_cons_of_mem _ (List.mem_append_left _ (List.mem_append_right _ h))
set_option maxHeartbeats 4000000 in
set_option maxRecDepth 100000 in
/-- FaceMapModel.node -/
theorem c_X9_node (l : Launch) (D : va_G) (aI aL aZ : ClassId) (h0 : Nat) (en : Nat) (nt : Nat) (pl : Nat) (row : Nat) (nx : Nat) (ny : Nat) (nl : Nat) (nh : Nat) (nb : Nat) (no : Nat) (nr : Nat) (nd : Nat) (na : Nat) (ns : Nat) (nf : Nat) (np : Nat) (nq : Nat) (fx : Nat → Int32) (fl : Nat → Int32) (x : Int32) (y : Int32) (sz : Nat) : MI l D q_cl (q_ty aI aL aZ) yX9_node vsX9_node 3 13 36005 [.ref h0, .int x, .int y] [(h0, .inr (7, [.ref en, .int 0, .ref nt, .ref pl, .int 0])), (nt, .inr (5, [.ref nx, .ref ny, .int 0, .ref nl, .ref nh, .int 0, .ref nb, .ref no, .ref nr, .ref nd, .ref na, .ref ns, .ref nf, .int 0, .ref np, .int 0, .ref nq])), (nx, .inl (aI, 0, .inl fx)), (nl, .inl (aI, 0, .inl fl)), (pl, .inr (6, [.ref row, .int 0]))] sz (fun (r : Int32) (u : Unit) => r = 1000000) (fun (u : Unit) => ([] : va_W)) := by
  refine q_in cX9_node 3 (some .int) (qQi D q_cl (q_ty aI aL aZ) _ _) (by decide) rfl (Nat.le_of_ble_eq_true rfl) ?_
  intro p e s m args below meth c A ls hat hP hD hS hl
  obtain ⟨hx, hb, hr, hts, hown, hlocks, hml, hin, hK, hN, hA⟩ := hat
  have hown : s.vm.findClass RX9 = some m.cls := hown
  have hl : lv_has ls 3 [(0, .ref h0), (1, .int x), (2, .int y)] := hl
  refine lv_aload_n hx hb dX9_node_0 rfl (lv_at hl 0 rfl) ?_
  refine q_v (wr := []) (q_runV (As := []) (rest := []) ⟨hx, hb, hml, hown, hts⟩ (c_X9_build l D aI aL aZ h0 en nt pl row nx ny nl nh nb no nr nd na ns nf np nq fx fl _) (cwV 0 hts g_X9_node_X9_build_135 rfl rfl rfl (by decide +kernel) ⟨Nat.le_of_ble_eq_true rfl, Nat.le_of_ble_eq_true rfl⟩) hK hN hP hD [0, 1, 2, 3, 4] rfl (by decide) rfl rfl rfl hl.1 rfl (Nat.le_of_ble_eq_true rfl) dX9_node_1 ⟨Nat.le_of_ble_eq_true rfl, Nat.le_of_ble_eq_true rfl⟩) hP hD hS hA [0, 1, 2, 3, 4] [] rfl rfl (by decide) (by decide) (fun u_1 H locs hw hP hD hS => ?_)
  obtain ⟨knx_1, kny_1, knl_1, knh_1, knb_1, kno_1, knr_1, knd_1, kna_1, kns_1, knf_1, knp_1, knq_1⟩ := u_1
  have hP : va_P D q_cl [(h0, .inr (7, [.ref en, .int 0, .ref nt, .ref pl, .int 1])), (nt, .inr (5, [.ref knx_1, .ref kny_1, .int 0, .ref knl_1, .ref knh_1, .int 0, .ref knb_1, .ref kno_1, .ref knr_1, .ref knd_1, .ref kna_1, .ref kns_1, .ref knf_1, .int 0, .ref knp_1, .int 1, .ref knq_1]))] H := hP
  have hD : va_D A [(h0, .inr (7, [.ref en, .int 0, .ref nt, .ref pl, .int 1])), (nt, .inr (5, [.ref knx_1, .ref kny_1, .int 0, .ref knl_1, .ref knh_1, .int 0, .ref knb_1, .ref kno_1, .ref knr_1, .ref knd_1, .ref kna_1, .ref kns_1, .ref knf_1, .int 0, .ref knp_1, .int 1, .ref knq_1]))] := hD
  refine lv_iload_n hx hb dX9_node_4 rfl (lv_at hl 1 rfl) ?_
  refine lv_if_lt (tgt := 28) hx hb dX9_node_5 (by decide) (fun c_2 => ?_) (fun c_2 => ?_)
  · refine lv_ldc (v := 1000000) hx hb hown (hts (.constant RX9 143 (1000000)) (List.mem_of_getElem? (i := 1) rfl)) dX9_node_28 ?_
    have hP9 := hP.sub (ws' := []) [] rfl
    have hD9 := hD.sub (ws' := []) [] (by decide) rfl
    exact q_reti () hx hb hr hlocks hK hP9 hD9 hS (Nat.le_of_ble_eq_true rfl) (Nat.le_of_ble_eq_true rfl) (rfl) dX9_node_30
  · refine lv_iload_n hx hb dX9_node_8 rfl (lv_at hl 1 rfl) ?_
    refine lv_aload_n hx hb dX9_node_9 rfl (lv_at hl 0 rfl) ?_
    refine va_get (D := D) (ci := 7) (v := .ref nt) (C := RX9) (T := TX9) (N := 5) hx hb hts n_X9_node_X9 hown hK hP 0 rfl rfl 2 (by decide) (hts (.fieldLink RX9 41 "FaceMapModel" "net" "LFaceMapModel$Net;") (List.mem_of_getElem? (i := 2) rfl)) (fun _ h9 => h9) rfl dX9_node_10 ?_
    refine va_get (D := D) (ci := 5) (v := .int 0) (C := RX7) (T := TX7) (N := 17) hx hb hts n_X9_node_X7 hown hK hP 1 rfl rfl 2 (by decide) (hts (.fieldLink RX9 106 "FaceMapModel$Net" "nodes" "I") (List.mem_of_getElem? (i := 3) rfl)) (fun _ h9 => h9) rfl dX9_node_13 ?_
    refine lv_icmp_ge (tgt := 28) hx hb dX9_node_16 (by decide) (fun c_3 => ?_) (fun c_3 => ?_)
    · refine lv_ldc (v := 1000000) hx hb hown (hts (.constant RX9 143 (1000000)) (List.mem_of_getElem? (i := 1) rfl)) dX9_node_28 ?_
      have hP9 := hP.sub (ws' := []) [] rfl
      have hD9 := hD.sub (ws' := []) [] (by decide) rfl
      exact q_reti () hx hb hr hlocks hK hP9 hD9 hS (Nat.le_of_ble_eq_true rfl) (Nat.le_of_ble_eq_true rfl) (rfl) dX9_node_30
    · exact absurd (Int32.not_lt.mp (by assumption)) c_3
def vsX9_piece : List Cond := .code yX9_piece cX9_piece 3 (some .int) :: ([.fieldLink RX9 54 "FaceMapModel" "count" "I", .methodLink RX9 135 yX9_build, .instanceMethod yX9_build, .selects RX9 yX9_build yX9_build, .initialized RX9, .code yX9_build cX9_build 2 none, .fieldLink RX9 82 "FaceMapModel" "isBuilt" "Z", .fieldLink RX9 48 "FaceMapModel" "nodes" "LFaceMapModel$Places;", .fieldLink RX9 41 "FaceMapModel" "net" "LFaceMapModel$Net;", .fieldLink RX9 103 "FaceMapModel$Places" "size" "I", .fieldLink RX9 106 "FaceMapModel$Net" "nodes" "I", .fieldLink RX9 108 "FaceMapModel$Net" "pieces" "I", .methodLink RX9 90 yX8_clear, .instanceMethod yX8_clear, .selects RX8 yX8_clear yX8_clear, .initialized RX8, .code yX8_clear cX8_clear 1 none, .fieldLink RX8 13 "FaceMapModel$Places" "size" "I", .methodLink RX9 97 yX8_sort, .instanceMethod yX8_sort, .selects RX8 yX8_sort yX8_sort, .code yX8_sort cX8_sort 4 none, .methodLink RX9 100 yX7_room, .instanceMethod yX7_room, .selects RX7 yX7_room yX7_room, .initialized RX7, .code yX7_room cX7_room 3 none, .fieldLink RX7 7 "FaceMapModel$Net" "x" "[I", .arrayClass .int, .fieldLink RX7 13 "FaceMapModel$Net" "y" "[I", .fieldLink RX7 22 "FaceMapModel$Net" "begins" "[I", .fieldLink RX7 44 "FaceMapModel$Net" "part" "[I", .fieldLink RX7 16 "FaceMapModel$Net" "low" "[I", .fieldLink RX7 19 "FaceMapModel$Net" "high" "[I", .fieldLink RX7 25 "FaceMapModel$Net" "out" "[I", .fieldLink RX7 28 "FaceMapModel$Net" "rank" "[I", .fieldLink RX7 31 "FaceMapModel$Net" "round" "[I", .arrayClass .long, .fieldLink RX7 34 "FaceMapModel$Net" "area" "[J", .fieldLink RX7 38 "FaceMapModel$Net" "least" "[I", .fieldLink RX7 41 "FaceMapModel$Net" "faceOf" "[I", .arrayClass .boolean, .fieldLink RX7 47 "FaceMapModel$Net" "odd" "[Z", .methodLink RX9 132 yX7_build, .instanceMethod yX7_build, .selects RX7 yX7_build yX7_build, .code yX7_build cX7_build 2 none, .fieldLink RX7 67 "FaceMapModel$Net" "nodes" "I", .fieldLink RX7 71 "FaceMapModel$Net" "pieces" "I", .fieldLink RX7 87 "FaceMapModel$Net" "rounds" "I", .methodLink RX7 81 yX7_sortOut, .instanceMethod yX7_sortOut, .selects RX7 yX7_sortOut yX7_sortOut, .code yX7_sortOut cX7_sortOut 6 none, .methodLink RX7 94 yX7_number, .instanceMethod yX7_number, .selects RX7 yX7_number yX7_number, .code yX7_number cX7_number 5 none, .fieldLink RX7 107 "FaceMapModel$Net" "faces" "I"] ++ wsX90 ++ wsX80 ++ wsX70)
set_option maxRecDepth 20000 in
theorem g_X9_piece_X9_build_135 : GoodIn vsX9_piece (wsV RX9 135 RX9 yX9_build vsX9_build) := goodIn_r _ [2, 3, 4, 5, 6, 7, 8, 1, 9, 10, 11, 12, 13, 14, 15, 16, 17, 18, 19, 20, 21, 22, 23, 24, 25, 26, 27, 28, 29, 30, 31, 32, 33, 34, 35, 36, 37, 38, 39, 40, 41, 42, 43, 44, 45, 46, 47, 48, 49, 50, 51, 52, 53, 54, 55, 56, 57, 58, 59, 60, 61, 62, 63, 64, 65, 66, 67, 68, 69, 70, 71, 72, 73, 74, 75, 76, 77, 78, 79, 80, 81, 82, 83] rfl (by decide +kernel)
set_option maxRecDepth 20000 in
theorem n_X9_piece_X9 : ∀ w ∈ wsX90, w ∈ vsX9_piece := fun _ h => List.mem_cons_of_mem _ (List.mem_append_left _ (List.mem_append_left _ (List.mem_append_right _ h)))
set_option maxHeartbeats 4000000 in
set_option maxRecDepth 100000 in
/-- FaceMapModel.piece -/
theorem c_X9_piece (l : Launch) (D : va_G) (aI aL aZ : ClassId) (h0 : Nat) (en : Nat) (nt : Nat) (pl : Nat) (row : Nat) (nx : Nat) (ny : Nat) (nl : Nat) (nh : Nat) (nb : Nat) (no : Nat) (nr : Nat) (nd : Nat) (na : Nat) (ns : Nat) (nf : Nat) (np : Nat) (nq : Nat) (fx : Nat → Int32) (fl : Nat → Int32) (x : Int32) (y : Int32) (sz : Nat) : MI l D q_cl (q_ty aI aL aZ) yX9_piece vsX9_piece 3 13 36005 [.ref h0, .int x, .int y] [(h0, .inr (7, [.ref en, .int 0, .ref nt, .ref pl, .int 0])), (nt, .inr (5, [.ref nx, .ref ny, .int 0, .ref nl, .ref nh, .int 0, .ref nb, .ref no, .ref nr, .ref nd, .ref na, .ref ns, .ref nf, .int 0, .ref np, .int 0, .ref nq])), (nx, .inl (aI, 0, .inl fx)), (nl, .inl (aI, 0, .inl fl)), (pl, .inr (6, [.ref row, .int 0]))] sz (fun (r : Int32) (u : Unit) => r = (-1)) (fun (u : Unit) => ([] : va_W)) := by
  refine q_in cX9_piece 3 (some .int) (qQi D q_cl (q_ty aI aL aZ) _ _) (by decide) rfl (Nat.le_of_ble_eq_true rfl) ?_
  intro p e s m args below meth c A ls hat hP hD hS hl
  obtain ⟨hx, hb, hr, hts, hown, hlocks, hml, hin, hK, hN, hA⟩ := hat
  have hown : s.vm.findClass RX9 = some m.cls := hown
  have hl : lv_has ls 3 [(0, .ref h0), (1, .int x), (2, .int y)] := hl
  refine lv_aload_n hx hb dX9_piece_0 rfl (lv_at hl 0 rfl) ?_
  refine q_v (wr := []) (q_runV (As := []) (rest := []) ⟨hx, hb, hml, hown, hts⟩ (c_X9_build l D aI aL aZ h0 en nt pl row nx ny nl nh nb no nr nd na ns nf np nq fx fl _) (cwV 0 hts g_X9_piece_X9_build_135 rfl rfl rfl (by decide +kernel) ⟨Nat.le_of_ble_eq_true rfl, Nat.le_of_ble_eq_true rfl⟩) hK hN hP hD [0, 1, 2, 3, 4] rfl (by decide) rfl rfl rfl hl.1 rfl (Nat.le_of_ble_eq_true rfl) dX9_piece_1 ⟨Nat.le_of_ble_eq_true rfl, Nat.le_of_ble_eq_true rfl⟩) hP hD hS hA [0, 1, 2, 3, 4] [] rfl rfl (by decide) (by decide) (fun u_1 H locs hw hP hD hS => ?_)
  obtain ⟨knx_1, kny_1, knl_1, knh_1, knb_1, kno_1, knr_1, knd_1, kna_1, kns_1, knf_1, knp_1, knq_1⟩ := u_1
  have hP : va_P D q_cl [(h0, .inr (7, [.ref en, .int 0, .ref nt, .ref pl, .int 1])), (nt, .inr (5, [.ref knx_1, .ref kny_1, .int 0, .ref knl_1, .ref knh_1, .int 0, .ref knb_1, .ref kno_1, .ref knr_1, .ref knd_1, .ref kna_1, .ref kns_1, .ref knf_1, .int 0, .ref knp_1, .int 1, .ref knq_1]))] H := hP
  have hD : va_D A [(h0, .inr (7, [.ref en, .int 0, .ref nt, .ref pl, .int 1])), (nt, .inr (5, [.ref knx_1, .ref kny_1, .int 0, .ref knl_1, .ref knh_1, .int 0, .ref knb_1, .ref kno_1, .ref knr_1, .ref knd_1, .ref kna_1, .ref kns_1, .ref knf_1, .int 0, .ref knp_1, .int 1, .ref knq_1]))] := hD
  refine lv_iload_n hx hb dX9_piece_4 rfl (lv_at hl 1 rfl) ?_
  refine lv_if_lt (tgt := 25) hx hb dX9_piece_5 (by decide) (fun c_2 => ?_) (fun c_2 => ?_)
  · refine lv_iconst (v := (-1)) hx hb dX9_piece_25 (by decide) ?_
    have hP9 := hP.sub (ws' := []) [] rfl
    have hD9 := hD.sub (ws' := []) [] (by decide) rfl
    exact q_reti () hx hb hr hlocks hK hP9 hD9 hS (Nat.le_of_ble_eq_true rfl) (Nat.le_of_ble_eq_true rfl) (rfl) dX9_piece_26
  · refine lv_iload_n hx hb dX9_piece_8 rfl (lv_at hl 1 rfl) ?_
    refine lv_aload_n hx hb dX9_piece_9 rfl (lv_at hl 0 rfl) ?_
    refine va_get (D := D) (ci := 7) (v := .int 0) (C := RX9) (T := TX9) (N := 5) hx hb hts n_X9_piece_X9 hown hK hP 0 rfl rfl 1 (by decide) (hts (.fieldLink RX9 54 "FaceMapModel" "count" "I") (List.mem_of_getElem? (i := 1) rfl)) (fun _ h9 => h9) rfl dX9_piece_10 ?_
    refine lv_icmp_ge (tgt := 25) hx hb dX9_piece_13 (by decide) (fun c_3 => ?_) (fun c_3 => ?_)
    · refine lv_iconst (v := (-1)) hx hb dX9_piece_25 (by decide) ?_
      have hP9 := hP.sub (ws' := []) [] rfl
      have hD9 := hD.sub (ws' := []) [] (by decide) rfl
      exact q_reti () hx hb hr hlocks hK hP9 hD9 hS (Nat.le_of_ble_eq_true rfl) (Nat.le_of_ble_eq_true rfl) (rfl) dX9_piece_26
    · exact absurd (Int32.not_lt.mp (by assumption)) c_3
def vsX9_left : List Cond := .code yX9_left cX9_left 8 (some .int) :: ([.methodLink RX9 135 yX9_build, .instanceMethod yX9_build, .selects RX9 yX9_build yX9_build, .initialized RX9, .code yX9_build cX9_build 2 none, .fieldLink RX9 82 "FaceMapModel" "isBuilt" "Z", .fieldLink RX9 48 "FaceMapModel" "nodes" "LFaceMapModel$Places;", .fieldLink RX9 54 "FaceMapModel" "count" "I", .fieldLink RX9 41 "FaceMapModel" "net" "LFaceMapModel$Net;", .fieldLink RX9 103 "FaceMapModel$Places" "size" "I", .fieldLink RX9 106 "FaceMapModel$Net" "nodes" "I", .fieldLink RX9 108 "FaceMapModel$Net" "pieces" "I", .methodLink RX9 90 yX8_clear, .instanceMethod yX8_clear, .selects RX8 yX8_clear yX8_clear, .initialized RX8, .code yX8_clear cX8_clear 1 none, .fieldLink RX8 13 "FaceMapModel$Places" "size" "I", .methodLink RX9 97 yX8_sort, .instanceMethod yX8_sort, .selects RX8 yX8_sort yX8_sort, .code yX8_sort cX8_sort 4 none, .methodLink RX9 100 yX7_room, .instanceMethod yX7_room, .selects RX7 yX7_room yX7_room, .initialized RX7, .code yX7_room cX7_room 3 none, .fieldLink RX7 7 "FaceMapModel$Net" "x" "[I", .arrayClass .int, .fieldLink RX7 13 "FaceMapModel$Net" "y" "[I", .fieldLink RX7 22 "FaceMapModel$Net" "begins" "[I", .fieldLink RX7 44 "FaceMapModel$Net" "part" "[I", .fieldLink RX7 16 "FaceMapModel$Net" "low" "[I", .fieldLink RX7 19 "FaceMapModel$Net" "high" "[I", .fieldLink RX7 25 "FaceMapModel$Net" "out" "[I", .fieldLink RX7 28 "FaceMapModel$Net" "rank" "[I", .fieldLink RX7 31 "FaceMapModel$Net" "round" "[I", .arrayClass .long, .fieldLink RX7 34 "FaceMapModel$Net" "area" "[J", .fieldLink RX7 38 "FaceMapModel$Net" "least" "[I", .fieldLink RX7 41 "FaceMapModel$Net" "faceOf" "[I", .arrayClass .boolean, .fieldLink RX7 47 "FaceMapModel$Net" "odd" "[Z", .methodLink RX9 132 yX7_build, .instanceMethod yX7_build, .selects RX7 yX7_build yX7_build, .code yX7_build cX7_build 2 none, .fieldLink RX7 67 "FaceMapModel$Net" "nodes" "I", .fieldLink RX7 71 "FaceMapModel$Net" "pieces" "I", .fieldLink RX7 87 "FaceMapModel$Net" "rounds" "I", .methodLink RX7 81 yX7_sortOut, .instanceMethod yX7_sortOut, .selects RX7 yX7_sortOut yX7_sortOut, .code yX7_sortOut cX7_sortOut 6 none, .methodLink RX7 94 yX7_number, .instanceMethod yX7_number, .selects RX7 yX7_number yX7_number, .code yX7_number cX7_number 5 none, .fieldLink RX7 107 "FaceMapModel$Net" "faces" "I", .methodLink RX9 58 yX9_compare, .static yX9_compare, .code yX9_compare cX9_compare 4 (some .int), .methodLink RX9 72 yX9_from, .instanceMethod yX9_from, .selects RX9 yX9_from yX9_from, .code yX9_from cX9_from 7 (some .int), .methodLink RX9 75 yX9_isAt, .instanceMethod yX9_isAt, .selects RX9 yX9_isAt yX9_isAt, .code yX9_isAt cX9_isAt 6 (some .boolean)] ++ wsX90 ++ wsX80 ++ wsX70)
set_option maxRecDepth 20000 in
theorem g_X9_left_X9_build_135 : GoodIn vsX9_left (wsV RX9 135 RX9 yX9_build vsX9_build) := goodIn_r _ [1, 2, 3, 4, 5, 6, 7, 8, 9, 10, 11, 12, 13, 14, 15, 16, 17, 18, 19, 20, 21, 22, 23, 24, 25, 26, 27, 28, 29, 30, 31, 32, 33, 34, 35, 36, 37, 38, 39, 40, 41, 42, 43, 44, 45, 46, 47, 48, 49, 50, 51, 52, 53, 54, 55, 56, 57, 58, 59, 71, 72, 73, 74, 75, 76, 77, 78, 79, 80, 81, 82, 83, 84, 85, 86, 87, 88, 89, 90, 91, 92, 93, 94] rfl (by decide +kernel)
set_option maxRecDepth 20000 in
theorem g_X9_left_X9_compare_58 : GoodIn vsX9_left (va_wsS RX9 58 yX9_compare vsX9_compare) := goodIn_r _ [60, 61, 4, 62] rfl (by decide +kernel)
set_option maxRecDepth 20000 in
theorem g_X9_left_X9_from_72 : GoodIn vsX9_left (wsV RX9 72 RX9 yX9_from vsX9_from) := goodIn_r _ [63, 64, 65, 4, 66, 8, 71, 72, 73, 74, 75] rfl (by decide +kernel)
set_option maxRecDepth 20000 in
theorem g_X9_left_X9_isAt_75 : GoodIn vsX9_left (wsV RX9 75 RX9 yX9_isAt vsX9_isAt) := goodIn_r _ [67, 68, 69, 4, 70, 8, 71, 72, 73, 74, 75] rfl (by decide +kernel)
set_option maxHeartbeats 4000000 in
set_option maxRecDepth 100000 in
/-- FaceMapModel.left -/
theorem c_X9_left (l : Launch) (D : va_G) (aI aL aZ : ClassId) (h0 : Nat) (en : Nat) (nt : Nat) (pl : Nat) (row : Nat) (nx : Nat) (ny : Nat) (nl : Nat) (nh : Nat) (nb : Nat) (no : Nat) (nr : Nat) (nd : Nat) (na : Nat) (ns : Nat) (nf : Nat) (np : Nat) (nq : Nat) (fx : Nat → Int32) (fl : Nat → Int32) (x1 : Int32) (y1 : Int32) (x2 : Int32) (y2 : Int32) (sz : Nat) : MI l D q_cl (q_ty aI aL aZ) yX9_left vsX9_left 3 13 36005 [.ref h0, .int x1, .int y1, .int x2, .int y2] [(h0, .inr (7, [.ref en, .int 0, .ref nt, .ref pl, .int 0])), (nt, .inr (5, [.ref nx, .ref ny, .int 0, .ref nl, .ref nh, .int 0, .ref nb, .ref no, .ref nr, .ref nd, .ref na, .ref ns, .ref nf, .int 0, .ref np, .int 0, .ref nq])), (nx, .inl (aI, 0, .inl fx)), (nl, .inl (aI, 0, .inl fl)), (pl, .inr (6, [.ref row, .int 0]))] sz (fun (r : Int32) (u : Unit) => r = (-1)) (fun (u : Unit) => ([] : va_W)) := by
  refine q_in cX9_left 8 (some .int) (qQi D q_cl (q_ty aI aL aZ) _ _) (by decide) rfl (Nat.le_of_ble_eq_true rfl) ?_
  intro p e s m args below meth c A ls hat hP hD hS hl
  obtain ⟨hx, hb, hr, hts, hown, hlocks, hml, hin, hK, hN, hA⟩ := hat
  have hown : s.vm.findClass RX9 = some m.cls := hown
  have hl : lv_has ls 8 [(0, .ref h0), (1, .int x1), (2, .int y1), (3, .int x2), (4, .int y2)] := hl
  refine lv_aload_n hx hb dX9_left_0 rfl (lv_at hl 0 rfl) ?_
  refine q_v (wr := []) (q_runV (As := []) (rest := []) ⟨hx, hb, hml, hown, hts⟩ (c_X9_build l D aI aL aZ h0 en nt pl row nx ny nl nh nb no nr nd na ns nf np nq fx fl _) (cwV 0 hts g_X9_left_X9_build_135 rfl rfl rfl (by decide +kernel) ⟨Nat.le_of_ble_eq_true rfl, Nat.le_of_ble_eq_true rfl⟩) hK hN hP hD [0, 1, 2, 3, 4] rfl (by decide) rfl rfl rfl hl.1 rfl (Nat.le_of_ble_eq_true rfl) dX9_left_1 ⟨Nat.le_of_ble_eq_true rfl, Nat.le_of_ble_eq_true rfl⟩) hP hD hS hA [0, 1, 2, 3, 4] [] rfl rfl (by decide) (by decide) (fun u_1 H locs hw hP hD hS => ?_)
  obtain ⟨knx_1, kny_1, knl_1, knh_1, knb_1, kno_1, knr_1, knd_1, kna_1, kns_1, knf_1, knp_1, knq_1⟩ := u_1
  have hP : va_P D q_cl [(h0, .inr (7, [.ref en, .int 0, .ref nt, .ref pl, .int 1])), (nt, .inr (5, [.ref knx_1, .ref kny_1, .int 0, .ref knl_1, .ref knh_1, .int 0, .ref knb_1, .ref kno_1, .ref knr_1, .ref knd_1, .ref kna_1, .ref kns_1, .ref knf_1, .int 0, .ref knp_1, .int 1, .ref knq_1]))] H := hP
  have hD : va_D A [(h0, .inr (7, [.ref en, .int 0, .ref nt, .ref pl, .int 1])), (nt, .inr (5, [.ref knx_1, .ref kny_1, .int 0, .ref knl_1, .ref knh_1, .int 0, .ref knb_1, .ref kno_1, .ref knr_1, .ref knd_1, .ref kna_1, .ref kns_1, .ref knf_1, .int 0, .ref knp_1, .int 1, .ref knq_1]))] := hD
  refine lv_iload_n hx hb dX9_left_4 rfl (lv_at hl 1 rfl) ?_
  refine lv_iload_n hx hb dX9_left_5 rfl (lv_at hl 2 rfl) ?_
  refine lv_iload_n hx hb dX9_left_6 rfl (lv_at hl 3 rfl) ?_
  refine lv_iload hx hb dX9_left_7 (lv_at hl 4 rfl) ?_
  refine q_i (wr := [(h0, .inr (7, [.ref en, .int 0, .ref nt, .ref pl, .int 1])), (nt, .inr (5, [.ref knx_1, .ref kny_1, .int 0, .ref knl_1, .ref knh_1, .int 0, .ref knb_1, .ref kno_1, .ref knr_1, .ref knd_1, .ref kna_1, .ref kns_1, .ref knf_1, .int 0, .ref knp_1, .int 1, .ref knq_1]))]) (q_runS (As := [.int x1, .int y1, .int x2, .int y2]) (rest := []) ⟨hx, hb, hml, hown, hts⟩ (c_X9_compare l D aI aL aZ x1 y1 x2 y2 _) (va_cwS 4 hts g_X9_left_X9_compare_58 rfl rfl rfl (by decide +kernel) ⟨Nat.le_of_ble_eq_true rfl, Nat.le_of_ble_eq_true rfl⟩) hK hN hP hD [] rfl (by decide) rfl hl.1 rfl (Nat.le_of_ble_eq_true rfl) dX9_left_9 ⟨Nat.le_of_ble_eq_true rfl, Nat.le_of_ble_eq_true rfl⟩) hP hD hS hA [] [0, 1] rfl rfl (by decide) (by decide) (fun r_2 u_2 H locs hw hP hD hS => ?_)
  subst hw
  have hP : va_P D q_cl [(h0, .inr (7, [.ref en, .int 0, .ref nt, .ref pl, .int 1])), (nt, .inr (5, [.ref knx_1, .ref kny_1, .int 0, .ref knl_1, .ref knh_1, .int 0, .ref knb_1, .ref kno_1, .ref knr_1, .ref knd_1, .ref kna_1, .ref kns_1, .ref knf_1, .int 0, .ref knp_1, .int 1, .ref knq_1]))] H := hP
  have hD : va_D A [(h0, .inr (7, [.ref en, .int 0, .ref nt, .ref pl, .int 1])), (nt, .inr (5, [.ref knx_1, .ref kny_1, .int 0, .ref knl_1, .ref knh_1, .int 0, .ref knb_1, .ref kno_1, .ref knr_1, .ref knd_1, .ref kna_1, .ref kns_1, .ref knf_1, .int 0, .ref knp_1, .int 1, .ref knq_1]))] := hD
  refine lv_if_le (tgt := 19) hx hb dX9_left_12 (by decide) (fun c_3 => ?_) (fun c_3 => ?_)
  · refine lv_iconst (v := 0) hx hb dX9_left_19 (by decide) ?_
    refine lv_istore (lv' := [(5, .int 0), (0, .ref h0), (1, .int x1), (2, .int y1), (3, .int x2), (4, .int y2)]) hx hb dX9_left_20 hl (by decide) rfl (fun ls hl => ?_)
    refine lv_iload hx hb dX9_left_22 (lv_at hl 0 rfl) ?_
    refine lv_if_eq (tgt := 39) hx hb dX9_left_24 (by decide) (fun c_4 => ?_) (fun c_4 => ?_)
    · refine lv_aload_n hx hb dX9_left_39 rfl (lv_at hl 1 rfl) ?_
      refine lv_iload_n hx hb dX9_left_40 rfl (lv_at hl 2 rfl) ?_
      refine lv_iload_n hx hb dX9_left_41 rfl (lv_at hl 3 rfl) ?_
      refine lv_iload_n hx hb dX9_left_42 rfl (lv_at hl 4 rfl) ?_
      refine lv_iload hx hb dX9_left_43 (lv_at hl 5 rfl) ?_
      refine q_i (wr := [(nt, .inr (5, [.ref knx_1, .ref kny_1, .int 0, .ref knl_1, .ref knh_1, .int 0, .ref knb_1, .ref kno_1, .ref knr_1, .ref knd_1, .ref kna_1, .ref kns_1, .ref knf_1, .int 0, .ref knp_1, .int 1, .ref knq_1]))]) (q_runV (As := [.int x1, .int y1, .int x2, .int y2]) (rest := []) ⟨hx, hb, hml, hown, hts⟩ (c_X9_from l D aI aL aZ h0 en nt pl 1 x1 y1 x2 y2 _) (cwV 4 hts g_X9_left_X9_from_72 rfl rfl rfl (by decide +kernel) ⟨Nat.le_of_ble_eq_true rfl, Nat.le_of_ble_eq_true rfl⟩) hK hN hP hD [0] rfl (by decide) rfl rfl rfl hl.1 rfl (Nat.le_of_ble_eq_true rfl) dX9_left_45 ⟨Nat.le_of_ble_eq_true rfl, Nat.le_of_ble_eq_true rfl⟩) hP hD hS hA [0] [1] rfl rfl (by decide) (by decide) (fun r_5 u_5 H locs hw hP hD hS => ?_)
      subst hw
      have hP : va_P D q_cl [(nt, .inr (5, [.ref knx_1, .ref kny_1, .int 0, .ref knl_1, .ref knh_1, .int 0, .ref knb_1, .ref kno_1, .ref knr_1, .ref knd_1, .ref kna_1, .ref kns_1, .ref knf_1, .int 0, .ref knp_1, .int 1, .ref knq_1])), (h0, .inr (7, [.ref en, .int 0, .ref nt, .ref pl, .int 1]))] H := hP
      have hD : va_D A [(nt, .inr (5, [.ref knx_1, .ref kny_1, .int 0, .ref knl_1, .ref knh_1, .int 0, .ref knb_1, .ref kno_1, .ref knr_1, .ref knd_1, .ref kna_1, .ref kns_1, .ref knf_1, .int 0, .ref knp_1, .int 1, .ref knq_1])), (h0, .inr (7, [.ref en, .int 0, .ref nt, .ref pl, .int 1]))] := hD
      refine lv_istore (lv' := [(6, .int 0), (5, .int 0), (0, .ref h0), (1, .int x1), (2, .int y1), (3, .int x2), (4, .int y2)]) hx hb dX9_left_48 hl (by decide) rfl (fun ls hl => ?_)
      refine lv_iload hx hb dX9_left_50 (lv_at hl 1 rfl) ?_
      refine lv_if_eq (tgt := 69) hx hb dX9_left_52 (by decide) (fun c_6 => ?_) (fun c_6 => ?_)
      · refine lv_aload_n hx hb dX9_left_69 rfl (lv_at hl 2 rfl) ?_
        refine lv_iload hx hb dX9_left_70 (lv_at hl 0 rfl) ?_
        refine lv_iload_n hx hb dX9_left_72 rfl (lv_at hl 3 rfl) ?_
        refine lv_iload_n hx hb dX9_left_73 rfl (lv_at hl 4 rfl) ?_
        refine lv_iload_n hx hb dX9_left_74 rfl (lv_at hl 5 rfl) ?_
        refine lv_iload hx hb dX9_left_75 (lv_at hl 6 rfl) ?_
        refine q_i (wr := [(nt, .inr (5, [.ref knx_1, .ref kny_1, .int 0, .ref knl_1, .ref knh_1, .int 0, .ref knb_1, .ref kno_1, .ref knr_1, .ref knd_1, .ref kna_1, .ref kns_1, .ref knf_1, .int 0, .ref knp_1, .int 1, .ref knq_1]))]) (q_runV (As := [.int 0, .int x1, .int y1, .int x2, .int y2]) (rest := []) ⟨hx, hb, hml, hown, hts⟩ (c_X9_isAt l D aI aL aZ h0 en nt pl 1 x1 y1 x2 y2 _) (cwV 5 hts g_X9_left_X9_isAt_75 rfl rfl rfl (by decide +kernel) ⟨Nat.le_of_ble_eq_true rfl, Nat.le_of_ble_eq_true rfl⟩) hK hN hP hD [1] rfl (by decide) rfl rfl rfl hl.1 rfl (Nat.le_of_ble_eq_true rfl) dX9_left_77 ⟨Nat.le_of_ble_eq_true rfl, Nat.le_of_ble_eq_true rfl⟩) hP hD hS hA [1] [0] rfl rfl (by decide) (by decide) (fun r_7 u_7 H locs hw hP hD hS => ?_)
        subst hw
        have hP : va_P D q_cl [(nt, .inr (5, [.ref knx_1, .ref kny_1, .int 0, .ref knl_1, .ref knh_1, .int 0, .ref knb_1, .ref kno_1, .ref knr_1, .ref knd_1, .ref kna_1, .ref kns_1, .ref knf_1, .int 0, .ref knp_1, .int 1, .ref knq_1])), (h0, .inr (7, [.ref en, .int 0, .ref nt, .ref pl, .int 1]))] H := hP
        have hD : va_D A [(nt, .inr (5, [.ref knx_1, .ref kny_1, .int 0, .ref knl_1, .ref knh_1, .int 0, .ref knb_1, .ref kno_1, .ref knr_1, .ref knd_1, .ref kna_1, .ref kns_1, .ref knf_1, .int 0, .ref knp_1, .int 1, .ref knq_1])), (h0, .inr (7, [.ref en, .int 0, .ref nt, .ref pl, .int 1]))] := hD
        refine lv_istore (lv' := [(7, .int 0), (6, .int 0), (5, .int 0), (0, .ref h0), (1, .int x1), (2, .int y1), (3, .int x2), (4, .int y2)]) hx hb dX9_left_80 hl (by decide) rfl (fun ls hl => ?_)
        refine lv_iload hx hb dX9_left_82 (lv_at hl 0 rfl) ?_
        refine lv_if_eq (tgt := 112) hx hb dX9_left_84 (by decide) (fun c_8 => ?_) (fun c_8 => ?_)
        · refine lv_iconst (v := (-1)) hx hb dX9_left_112 (by decide) ?_
          have hP9 := hP.sub (ws' := []) [] rfl
          have hD9 := hD.sub (ws' := []) [] (by decide) rfl
          exact q_reti () hx hb hr hlocks hK hP9 hD9 hS (Nat.le_of_ble_eq_true rfl) (Nat.le_of_ble_eq_true rfl) (rfl) dX9_left_113
        · exact absurd c_8 (by decide)
      · exact absurd c_6 (by decide)
    · exact absurd c_4 (by decide)
  · refine lv_iconst (v := 1) hx hb dX9_left_15 (by decide) ?_
    refine lv_goto (tgt := 20) hx hb dX9_left_16 (by decide) ?_
    refine lv_istore (lv' := [(5, .int 1), (0, .ref h0), (1, .int x1), (2, .int y1), (3, .int x2), (4, .int y2)]) hx hb dX9_left_20 hl (by decide) rfl (fun ls hl => ?_)
    refine lv_iload hx hb dX9_left_22 (lv_at hl 0 rfl) ?_
    refine lv_if_eq (tgt := 39) hx hb dX9_left_24 (by decide) (fun c_9 => ?_) (fun c_9 => ?_)
    · exact absurd c_9 (by decide)
    · refine lv_aload_n hx hb dX9_left_27 rfl (lv_at hl 1 rfl) ?_
      refine lv_iload_n hx hb dX9_left_28 rfl (lv_at hl 4 rfl) ?_
      refine lv_iload hx hb dX9_left_29 (lv_at hl 5 rfl) ?_
      refine lv_iload_n hx hb dX9_left_31 rfl (lv_at hl 2 rfl) ?_
      refine lv_iload_n hx hb dX9_left_32 rfl (lv_at hl 3 rfl) ?_
      refine q_i (wr := [(nt, .inr (5, [.ref knx_1, .ref kny_1, .int 0, .ref knl_1, .ref knh_1, .int 0, .ref knb_1, .ref kno_1, .ref knr_1, .ref knd_1, .ref kna_1, .ref kns_1, .ref knf_1, .int 0, .ref knp_1, .int 1, .ref knq_1]))]) (q_runV (As := [.int x2, .int y2, .int x1, .int y1]) (rest := []) ⟨hx, hb, hml, hown, hts⟩ (c_X9_from l D aI aL aZ h0 en nt pl 1 x2 y2 x1 y1 _) (cwV 4 hts g_X9_left_X9_from_72 rfl rfl rfl (by decide +kernel) ⟨Nat.le_of_ble_eq_true rfl, Nat.le_of_ble_eq_true rfl⟩) hK hN hP hD [0] rfl (by decide) rfl rfl rfl hl.1 rfl (Nat.le_of_ble_eq_true rfl) dX9_left_33 ⟨Nat.le_of_ble_eq_true rfl, Nat.le_of_ble_eq_true rfl⟩) hP hD hS hA [0] [1] rfl rfl (by decide) (by decide) (fun r_10 u_10 H locs hw hP hD hS => ?_)
      subst hw
      have hP : va_P D q_cl [(nt, .inr (5, [.ref knx_1, .ref kny_1, .int 0, .ref knl_1, .ref knh_1, .int 0, .ref knb_1, .ref kno_1, .ref knr_1, .ref knd_1, .ref kna_1, .ref kns_1, .ref knf_1, .int 0, .ref knp_1, .int 1, .ref knq_1])), (h0, .inr (7, [.ref en, .int 0, .ref nt, .ref pl, .int 1]))] H := hP
      have hD : va_D A [(nt, .inr (5, [.ref knx_1, .ref kny_1, .int 0, .ref knl_1, .ref knh_1, .int 0, .ref knb_1, .ref kno_1, .ref knr_1, .ref knd_1, .ref kna_1, .ref kns_1, .ref knf_1, .int 0, .ref knp_1, .int 1, .ref knq_1])), (h0, .inr (7, [.ref en, .int 0, .ref nt, .ref pl, .int 1]))] := hD
      refine lv_goto (tgt := 48) hx hb dX9_left_36 (by decide) ?_
      refine lv_istore (lv' := [(6, .int 0), (5, .int 1), (0, .ref h0), (1, .int x1), (2, .int y1), (3, .int x2), (4, .int y2)]) hx hb dX9_left_48 hl (by decide) rfl (fun ls hl => ?_)
      refine lv_iload hx hb dX9_left_50 (lv_at hl 1 rfl) ?_
      refine lv_if_eq (tgt := 69) hx hb dX9_left_52 (by decide) (fun c_11 => ?_) (fun c_11 => ?_)
      · exact absurd c_11 (by decide)
      · refine lv_aload_n hx hb dX9_left_55 rfl (lv_at hl 2 rfl) ?_
        refine lv_iload hx hb dX9_left_56 (lv_at hl 0 rfl) ?_
        refine lv_iload_n hx hb dX9_left_58 rfl (lv_at hl 5 rfl) ?_
        refine lv_iload hx hb dX9_left_59 (lv_at hl 6 rfl) ?_
        refine lv_iload_n hx hb dX9_left_61 rfl (lv_at hl 3 rfl) ?_
        refine lv_iload_n hx hb dX9_left_62 rfl (lv_at hl 4 rfl) ?_
        refine q_i (wr := [(nt, .inr (5, [.ref knx_1, .ref kny_1, .int 0, .ref knl_1, .ref knh_1, .int 0, .ref knb_1, .ref kno_1, .ref knr_1, .ref knd_1, .ref kna_1, .ref kns_1, .ref knf_1, .int 0, .ref knp_1, .int 1, .ref knq_1]))]) (q_runV (As := [.int 0, .int x2, .int y2, .int x1, .int y1]) (rest := []) ⟨hx, hb, hml, hown, hts⟩ (c_X9_isAt l D aI aL aZ h0 en nt pl 1 x2 y2 x1 y1 _) (cwV 5 hts g_X9_left_X9_isAt_75 rfl rfl rfl (by decide +kernel) ⟨Nat.le_of_ble_eq_true rfl, Nat.le_of_ble_eq_true rfl⟩) hK hN hP hD [1] rfl (by decide) rfl rfl rfl hl.1 rfl (Nat.le_of_ble_eq_true rfl) dX9_left_63 ⟨Nat.le_of_ble_eq_true rfl, Nat.le_of_ble_eq_true rfl⟩) hP hD hS hA [1] [0] rfl rfl (by decide) (by decide) (fun r_12 u_12 H locs hw hP hD hS => ?_)
        subst hw
        have hP : va_P D q_cl [(nt, .inr (5, [.ref knx_1, .ref kny_1, .int 0, .ref knl_1, .ref knh_1, .int 0, .ref knb_1, .ref kno_1, .ref knr_1, .ref knd_1, .ref kna_1, .ref kns_1, .ref knf_1, .int 0, .ref knp_1, .int 1, .ref knq_1])), (h0, .inr (7, [.ref en, .int 0, .ref nt, .ref pl, .int 1]))] H := hP
        have hD : va_D A [(nt, .inr (5, [.ref knx_1, .ref kny_1, .int 0, .ref knl_1, .ref knh_1, .int 0, .ref knb_1, .ref kno_1, .ref knr_1, .ref knd_1, .ref kna_1, .ref kns_1, .ref knf_1, .int 0, .ref knp_1, .int 1, .ref knq_1])), (h0, .inr (7, [.ref en, .int 0, .ref nt, .ref pl, .int 1]))] := hD
        refine lv_goto (tgt := 80) hx hb dX9_left_66 (by decide) ?_
        refine lv_istore (lv' := [(7, .int 0), (6, .int 0), (5, .int 1), (0, .ref h0), (1, .int x1), (2, .int y1), (3, .int x2), (4, .int y2)]) hx hb dX9_left_80 hl (by decide) rfl (fun ls hl => ?_)
        refine lv_iload hx hb dX9_left_82 (lv_at hl 0 rfl) ?_
        refine lv_if_eq (tgt := 112) hx hb dX9_left_84 (by decide) (fun c_13 => ?_) (fun c_13 => ?_)
        · refine lv_iconst (v := (-1)) hx hb dX9_left_112 (by decide) ?_
          have hP9 := hP.sub (ws' := []) [] rfl
          have hD9 := hD.sub (ws' := []) [] (by decide) rfl
          exact q_reti () hx hb hr hlocks hK hP9 hD9 hS (Nat.le_of_ble_eq_true rfl) (Nat.le_of_ble_eq_true rfl) (rfl) dX9_left_113
        · exact absurd c_13 (by decide)
def vsX9_face : List Cond := .code yX9_face cX9_face 4 (some .int) :: ([.fieldLink RX9 41 "FaceMapModel" "net" "LFaceMapModel$Net;", .methodLink RX9 135 yX9_build, .instanceMethod yX9_build, .selects RX9 yX9_build yX9_build, .initialized RX9, .code yX9_build cX9_build 2 none, .fieldLink RX9 82 "FaceMapModel" "isBuilt" "Z", .fieldLink RX9 48 "FaceMapModel" "nodes" "LFaceMapModel$Places;", .fieldLink RX9 54 "FaceMapModel" "count" "I", .fieldLink RX9 103 "FaceMapModel$Places" "size" "I", .fieldLink RX9 106 "FaceMapModel$Net" "nodes" "I", .fieldLink RX9 108 "FaceMapModel$Net" "pieces" "I", .methodLink RX9 90 yX8_clear, .instanceMethod yX8_clear, .selects RX8 yX8_clear yX8_clear, .initialized RX8, .code yX8_clear cX8_clear 1 none, .fieldLink RX8 13 "FaceMapModel$Places" "size" "I", .methodLink RX9 97 yX8_sort, .instanceMethod yX8_sort, .selects RX8 yX8_sort yX8_sort, .code yX8_sort cX8_sort 4 none, .methodLink RX9 100 yX7_room, .instanceMethod yX7_room, .selects RX7 yX7_room yX7_room, .initialized RX7, .code yX7_room cX7_room 3 none, .fieldLink RX7 7 "FaceMapModel$Net" "x" "[I", .arrayClass .int, .fieldLink RX7 13 "FaceMapModel$Net" "y" "[I", .fieldLink RX7 22 "FaceMapModel$Net" "begins" "[I", .fieldLink RX7 44 "FaceMapModel$Net" "part" "[I", .fieldLink RX7 16 "FaceMapModel$Net" "low" "[I", .fieldLink RX7 19 "FaceMapModel$Net" "high" "[I", .fieldLink RX7 25 "FaceMapModel$Net" "out" "[I", .fieldLink RX7 28 "FaceMapModel$Net" "rank" "[I", .fieldLink RX7 31 "FaceMapModel$Net" "round" "[I", .arrayClass .long, .fieldLink RX7 34 "FaceMapModel$Net" "area" "[J", .fieldLink RX7 38 "FaceMapModel$Net" "least" "[I", .fieldLink RX7 41 "FaceMapModel$Net" "faceOf" "[I", .arrayClass .boolean, .fieldLink RX7 47 "FaceMapModel$Net" "odd" "[Z", .methodLink RX9 132 yX7_build, .instanceMethod yX7_build, .selects RX7 yX7_build yX7_build, .code yX7_build cX7_build 2 none, .fieldLink RX7 67 "FaceMapModel$Net" "nodes" "I", .fieldLink RX7 71 "FaceMapModel$Net" "pieces" "I", .fieldLink RX7 87 "FaceMapModel$Net" "rounds" "I", .methodLink RX7 81 yX7_sortOut, .instanceMethod yX7_sortOut, .selects RX7 yX7_sortOut yX7_sortOut, .code yX7_sortOut cX7_sortOut 6 none, .methodLink RX7 94 yX7_number, .instanceMethod yX7_number, .selects RX7 yX7_number yX7_number, .code yX7_number cX7_number 5 none, .fieldLink RX7 107 "FaceMapModel$Net" "faces" "I", .methodLink RX9 150 yX9_isFace, .instanceMethod yX9_isFace, .selects RX9 yX9_isFace yX9_isFace, .code yX9_isFace cX9_isFace 2 (some .boolean), .fieldLink RX9 136 "FaceMapModel$Net" "faces" "I", .methodLink RX9 160 yX7_keyOf, .instanceMethod yX7_keyOf, .selects RX7 yX7_keyOf yX7_keyOf, .code yX7_keyOf cX7_keyOf 3 (some .int), .methodLink RX9 157 yX7_waysOf, .instanceMethod yX7_waysOf, .selects RX7 yX7_waysOf yX7_waysOf, .code yX7_waysOf cX7_waysOf 4 (some .int), .methodLink RX9 154 yX7_ringsOf, .instanceMethod yX7_ringsOf, .selects RX7 yX7_ringsOf yX7_ringsOf, .code yX7_ringsOf cX7_ringsOf 4 (some .int)] ++ wsX90 ++ wsX80 ++ wsX70)
set_option maxRecDepth 20000 in
theorem g_X9_face_X9_build_135 : GoodIn vsX9_face (wsV RX9 135 RX9 yX9_build vsX9_build) := goodIn_r _ [2, 3, 4, 5, 6, 7, 8, 9, 1, 10, 11, 12, 13, 14, 15, 16, 17, 18, 19, 20, 21, 22, 23, 24, 25, 26, 27, 28, 29, 30, 31, 32, 33, 34, 35, 36, 37, 38, 39, 40, 41, 42, 43, 44, 45, 46, 47, 48, 49, 50, 51, 52, 53, 54, 55, 56, 57, 58, 59, 77, 78, 79, 80, 81, 82, 83, 84, 85, 86, 87, 88, 89, 90, 91, 92, 93, 94, 95, 96, 97, 98, 99, 100] rfl (by decide +kernel)
set_option maxRecDepth 20000 in
theorem g_X9_face_X9_isFace_150 : GoodIn vsX9_face (wsV RX9 150 RX9 yX9_isFace vsX9_isFace) := goodIn_r _ [60, 61, 62, 5, 63, 1, 64, 77, 78, 79, 80, 81, 84, 85, 86, 87, 88, 89, 90, 91, 92, 93, 94, 95, 96, 97, 98, 99, 100] rfl (by decide +kernel)
set_option maxRecDepth 20000 in
theorem n_X9_face_X9 : ∀ w ∈ wsX90, w ∈ vsX9_face := fun _ h => List.mem_cons_of_mem _ (List.mem_append_left _ (List.mem_append_left _ (List.mem_append_right _ h)))
set_option maxRecDepth 20000 in
theorem g_X9_face_X7_keyOf_160 : GoodIn vsX9_face (wsV RX9 160 RX7 yX7_keyOf vsX7_keyOf) := goodIn_r _ [65, 66, 67, 26, 68, 50, 84, 85, 86, 87, 88, 89, 90, 91, 92, 93, 94, 95, 96, 97, 98, 99, 100] rfl (by decide +kernel)
set_option maxRecDepth 20000 in
theorem g_X9_face_X7_waysOf_157 : GoodIn vsX9_face (wsV RX9 157 RX7 yX7_waysOf vsX7_waysOf) := goodIn_r _ [69, 70, 71, 26, 72, 49, 84, 85, 86, 87, 88, 89, 90, 91, 92, 93, 94, 95, 96, 97, 98, 99, 100] rfl (by decide +kernel)
set_option maxRecDepth 20000 in
theorem g_X9_face_X7_ringsOf_154 : GoodIn vsX9_face (wsV RX9 154 RX7 yX7_ringsOf vsX7_ringsOf) := goodIn_r _ [73, 74, 75, 26, 76, 50, 84, 85, 86, 87, 88, 89, 90, 91, 92, 93, 94, 95, 96, 97, 98, 99, 100] rfl (by decide +kernel)
set_option maxHeartbeats 4000000 in
set_option maxRecDepth 100000 in
/-- FaceMapModel.face -/
theorem c_X9_face (l : Launch) (D : va_G) (aI aL aZ : ClassId) (h0 : Nat) (en : Nat) (nt : Nat) (pl : Nat) (row : Nat) (nx : Nat) (ny : Nat) (nl : Nat) (nh : Nat) (nb : Nat) (no : Nat) (nr : Nat) (nd : Nat) (na : Nat) (ns : Nat) (nf : Nat) (np : Nat) (nq : Nat) (fx : Nat → Int32) (fl : Nat → Int32) (x : Int32) (y : Int32) (sz : Nat) : MI l D q_cl (q_ty aI aL aZ) yX9_face vsX9_face 3 13 36005 [.ref h0, .int x, .int y] [(h0, .inr (7, [.ref en, .int 0, .ref nt, .ref pl, .int 0])), (nt, .inr (5, [.ref nx, .ref ny, .int 0, .ref nl, .ref nh, .int 0, .ref nb, .ref no, .ref nr, .ref nd, .ref na, .ref ns, .ref nf, .int 0, .ref np, .int 0, .ref nq])), (nx, .inl (aI, 0, .inl fx)), (nl, .inl (aI, 0, .inl fl)), (pl, .inr (6, [.ref row, .int 0]))] sz (fun (r : Int32) (u : Unit) => r = (fac x y)) (fun (u : Unit) => ([] : va_W)) := by
  refine q_in cX9_face 4 (some .int) (qQi D q_cl (q_ty aI aL aZ) _ _) (by decide) rfl (Nat.le_of_ble_eq_true rfl) ?_
  intro p e s m args below meth c A ls hat hP hD hS hl
  obtain ⟨hx, hb, hr, hts, hown, hlocks, hml, hin, hK, hN, hA⟩ := hat
  have hown : s.vm.findClass RX9 = some m.cls := hown
  have hl : lv_has ls 4 [(0, .ref h0), (1, .int x), (2, .int y)] := hl
  refine lv_aload_n hx hb dX9_face_0 rfl (lv_at hl 0 rfl) ?_
  refine q_v (wr := []) (q_runV (As := []) (rest := []) ⟨hx, hb, hml, hown, hts⟩ (c_X9_build l D aI aL aZ h0 en nt pl row nx ny nl nh nb no nr nd na ns nf np nq fx fl _) (cwV 0 hts g_X9_face_X9_build_135 rfl rfl rfl (by decide +kernel) ⟨Nat.le_of_ble_eq_true rfl, Nat.le_of_ble_eq_true rfl⟩) hK hN hP hD [0, 1, 2, 3, 4] rfl (by decide) rfl rfl rfl hl.1 rfl (Nat.le_of_ble_eq_true rfl) dX9_face_1 ⟨Nat.le_of_ble_eq_true rfl, Nat.le_of_ble_eq_true rfl⟩) hP hD hS hA [0, 1, 2, 3, 4] [] rfl rfl (by decide) (by decide) (fun u_1 H locs hw hP hD hS => ?_)
  obtain ⟨knx_1, kny_1, knl_1, knh_1, knb_1, kno_1, knr_1, knd_1, kna_1, kns_1, knf_1, knp_1, knq_1⟩ := u_1
  have hP : va_P D q_cl [(h0, .inr (7, [.ref en, .int 0, .ref nt, .ref pl, .int 1])), (nt, .inr (5, [.ref knx_1, .ref kny_1, .int 0, .ref knl_1, .ref knh_1, .int 0, .ref knb_1, .ref kno_1, .ref knr_1, .ref knd_1, .ref kna_1, .ref kns_1, .ref knf_1, .int 0, .ref knp_1, .int 1, .ref knq_1]))] H := hP
  have hD : va_D A [(h0, .inr (7, [.ref en, .int 0, .ref nt, .ref pl, .int 1])), (nt, .inr (5, [.ref knx_1, .ref kny_1, .int 0, .ref knl_1, .ref knh_1, .int 0, .ref knb_1, .ref kno_1, .ref knr_1, .ref knd_1, .ref kna_1, .ref kns_1, .ref knf_1, .int 0, .ref knp_1, .int 1, .ref knq_1]))] := hD
  refine lv_aload_n hx hb dX9_face_4 rfl (lv_at hl 0 rfl) ?_
  refine lv_iload_n hx hb dX9_face_5 rfl (lv_at hl 1 rfl) ?_
  refine q_i (wr := []) (q_runV (As := [.int x]) (rest := []) ⟨hx, hb, hml, hown, hts⟩ (c_X9_isFace l D aI aL aZ h0 en nt pl 1 knx_1 kny_1 knl_1 knh_1 knb_1 kno_1 knr_1 knd_1 kna_1 kns_1 knf_1 knp_1 knq_1 x _) (cwV 1 hts g_X9_face_X9_isFace_150 rfl rfl rfl (by decide +kernel) ⟨Nat.le_of_ble_eq_true rfl, Nat.le_of_ble_eq_true rfl⟩) hK hN hP hD [0, 1] rfl (by decide) rfl rfl rfl hl.1 rfl (Nat.le_of_ble_eq_true rfl) dX9_face_6 ⟨Nat.le_of_ble_eq_true rfl, Nat.le_of_ble_eq_true rfl⟩) hP hD hS hA [0, 1] [] rfl rfl (by decide) (by decide) (fun r_2 u_2 H locs hw hP hD hS => ?_)
  rcases hw with ⟨rfl, f2_0⟩ | ⟨rfl, f2_0⟩
  · subst f2_0
    have hP : va_P D q_cl [(h0, .inr (7, [.ref en, .int 0, .ref nt, .ref pl, .int 1])), (nt, .inr (5, [.ref knx_1, .ref kny_1, .int 0, .ref knl_1, .ref knh_1, .int 0, .ref knb_1, .ref kno_1, .ref knr_1, .ref knd_1, .ref kna_1, .ref kns_1, .ref knf_1, .int 0, .ref knp_1, .int 1, .ref knq_1]))] H := hP
    have hD : va_D A [(h0, .inr (7, [.ref en, .int 0, .ref nt, .ref pl, .int 1])), (nt, .inr (5, [.ref knx_1, .ref kny_1, .int 0, .ref knl_1, .ref knh_1, .int 0, .ref knb_1, .ref kno_1, .ref knr_1, .ref knd_1, .ref kna_1, .ref kns_1, .ref knf_1, .int 0, .ref knp_1, .int 1, .ref knq_1]))] := hD
    refine lv_if_eq (tgt := 21) hx hb dX9_face_9 (by decide) (fun c_3 => ?_) (fun c_3 => ?_)
    · exact absurd c_3 (by decide)
    · refine lv_iload_n hx hb dX9_face_12 rfl (lv_at hl 2 rfl) ?_
      refine lv_if_lt (tgt := 21) hx hb dX9_face_13 (by decide) (fun c_4 => ?_) (fun c_4 => ?_)
      · refine lv_iconst (v := (-1)) hx hb dX9_face_21 (by decide) ?_
        have hP9 := hP.sub (ws' := []) [] rfl
        have hD9 := hD.sub (ws' := []) [] (by decide) rfl
        exact q_reti () hx hb hr hlocks hK hP9 hD9 hS (Nat.le_of_ble_eq_true rfl) (Nat.le_of_ble_eq_true rfl) ((by first | exact fac_n (by assumption) | exact fac_lt (by assumption) | exact fac_gt (by assumption) | exact fac_0 (by assumption) | exact fac_1 (by assumption) | exact fac_o (by assumption) (by assumption))) dX9_face_22
      · refine lv_iload_n hx hb dX9_face_16 rfl (lv_at hl 2 rfl) ?_
        refine lv_iconst (v := 3) hx hb dX9_face_17 (by decide) ?_
        refine lv_icmp_le (tgt := 23) hx hb dX9_face_18 (by decide) (fun c_5 => ?_) (fun c_5 => ?_)
        · refine lv_iload_n hx hb dX9_face_23 rfl (lv_at hl 2 rfl) ?_
          refine lv_if_ne (tgt := 36) hx hb dX9_face_24 (by decide) (fun c_6 => ?_) (fun c_6 => ?_)
          · refine lv_iload_n hx hb dX9_face_36 rfl (lv_at hl 2 rfl) ?_
            refine lv_iconst (v := 1) hx hb dX9_face_37 (by decide) ?_
            refine lv_icmp_ne (tgt := 50) hx hb dX9_face_38 (by decide) (fun c_7 => ?_) (fun c_7 => ?_)
            · refine lv_aload_n hx hb dX9_face_50 rfl (lv_at hl 0 rfl) ?_
              refine va_get (D := D) (ci := 7) (v := .ref nt) (C := RX9) (T := TX9) (N := 5) hx hb hts n_X9_face_X9 hown hK hP 0 rfl rfl 2 (by decide) (hts (.fieldLink RX9 41 "FaceMapModel" "net" "LFaceMapModel$Net;") (List.mem_of_getElem? (i := 1) rfl)) (fun _ h9 => h9) rfl dX9_face_51 ?_
              refine lv_iload_n hx hb dX9_face_54 rfl (lv_at hl 1 rfl) ?_
              refine q_i (wr := [(h0, .inr (7, [.ref en, .int 0, .ref nt, .ref pl, .int 1]))]) (q_runV (As := [.int 0]) (rest := []) ⟨hx, hb, hml, hown, hts⟩ (c_X7_keyOf l D aI aL aZ nt knx_1 kny_1 knl_1 knh_1 knb_1 kno_1 knr_1 knd_1 kna_1 kns_1 knf_1 knp_1 knq_1 0 _) (cwV 1 hts g_X9_face_X7_keyOf_160 rfl rfl rfl (by decide +kernel) ⟨Nat.le_of_ble_eq_true rfl, Nat.le_of_ble_eq_true rfl⟩) hK hN hP hD [1] rfl (by decide) rfl rfl rfl hl.1 rfl (Nat.le_of_ble_eq_true rfl) dX9_face_55 ⟨Nat.le_of_ble_eq_true rfl, Nat.le_of_ble_eq_true rfl⟩) hP hD hS hA [1] [0] rfl rfl (by decide) (by decide) (fun r_8 u_8 H locs hw hP hD hS => ?_)
              subst hw
              have hP : va_P D q_cl [(h0, .inr (7, [.ref en, .int 0, .ref nt, .ref pl, .int 1])), (nt, .inr (5, [.ref knx_1, .ref kny_1, .int 0, .ref knl_1, .ref knh_1, .int 0, .ref knb_1, .ref kno_1, .ref knr_1, .ref knd_1, .ref kna_1, .ref kns_1, .ref knf_1, .int 0, .ref knp_1, .int 1, .ref knq_1]))] H := hP
              have hD : va_D A [(h0, .inr (7, [.ref en, .int 0, .ref nt, .ref pl, .int 1])), (nt, .inr (5, [.ref knx_1, .ref kny_1, .int 0, .ref knl_1, .ref knh_1, .int 0, .ref knb_1, .ref kno_1, .ref knr_1, .ref knd_1, .ref kna_1, .ref kns_1, .ref knf_1, .int 0, .ref knp_1, .int 1, .ref knq_1]))] := hD
              refine lv_istore_n (lv' := [(3, .int (-1)), (0, .ref h0), (1, .int 0), (2, .int y)]) hx hb dX9_face_58 rfl hl (by decide) rfl (fun ls hl => ?_)
              refine lv_iload_n hx hb dX9_face_59 rfl (lv_at hl 0 rfl) ?_
              refine lv_if_ge (tgt := 67) hx hb dX9_face_60 (by decide) (fun c_9 => ?_) (fun c_9 => ?_)
              · exact absurd c_9 (by decide)
              · refine lv_iconst (v := (-1)) hx hb dX9_face_63 (by decide) ?_
                refine lv_goto (tgt := 91) hx hb dX9_face_64 (by decide) ?_
                have hP9 := hP.sub (ws' := []) [] rfl
                have hD9 := hD.sub (ws' := []) [] (by decide) rfl
                exact q_reti () hx hb hr hlocks hK hP9 hD9 hS (Nat.le_of_ble_eq_true rfl) (Nat.le_of_ble_eq_true rfl) ((by first | exact fac_n (by assumption) | exact fac_lt (by assumption) | exact fac_gt (by assumption) | exact fac_0 (by assumption) | exact fac_1 (by assumption) | exact fac_o (by assumption) (by assumption))) dX9_face_91
            · refine lv_aload_n hx hb dX9_face_41 rfl (lv_at hl 0 rfl) ?_
              refine va_get (D := D) (ci := 7) (v := .ref nt) (C := RX9) (T := TX9) (N := 5) hx hb hts n_X9_face_X9 hown hK hP 0 rfl rfl 2 (by decide) (hts (.fieldLink RX9 41 "FaceMapModel" "net" "LFaceMapModel$Net;") (List.mem_of_getElem? (i := 1) rfl)) (fun _ h9 => h9) rfl dX9_face_42 ?_
              refine lv_iload_n hx hb dX9_face_45 rfl (lv_at hl 1 rfl) ?_
              refine q_i (wr := [(h0, .inr (7, [.ref en, .int 0, .ref nt, .ref pl, .int 1]))]) (q_runV (As := [.int 0]) (rest := []) ⟨hx, hb, hml, hown, hts⟩ (c_X7_waysOf l D aI aL aZ nt knx_1 kny_1 knl_1 knh_1 knb_1 kno_1 knr_1 knd_1 kna_1 kns_1 knf_1 knp_1 knq_1 0 _) (cwV 1 hts g_X9_face_X7_waysOf_157 rfl rfl rfl (by decide +kernel) ⟨Nat.le_of_ble_eq_true rfl, Nat.le_of_ble_eq_true rfl⟩) hK hN hP hD [1] rfl (by decide) rfl rfl rfl hl.1 rfl (Nat.le_of_ble_eq_true rfl) dX9_face_46 ⟨Nat.le_of_ble_eq_true rfl, Nat.le_of_ble_eq_true rfl⟩) hP hD hS hA [1] [0] rfl rfl (by decide) (by decide) (fun r_10 u_10 H locs hw hP hD hS => ?_)
              subst hw
              have hP : va_P D q_cl [(h0, .inr (7, [.ref en, .int 0, .ref nt, .ref pl, .int 1])), (nt, .inr (5, [.ref knx_1, .ref kny_1, .int 0, .ref knl_1, .ref knh_1, .int 0, .ref knb_1, .ref kno_1, .ref knr_1, .ref knd_1, .ref kna_1, .ref kns_1, .ref knf_1, .int 0, .ref knp_1, .int 1, .ref knq_1]))] H := hP
              have hD : va_D A [(h0, .inr (7, [.ref en, .int 0, .ref nt, .ref pl, .int 1])), (nt, .inr (5, [.ref knx_1, .ref kny_1, .int 0, .ref knl_1, .ref knh_1, .int 0, .ref knb_1, .ref kno_1, .ref knr_1, .ref knd_1, .ref kna_1, .ref kns_1, .ref knf_1, .int 0, .ref knp_1, .int 1, .ref knq_1]))] := hD
              have hP9 := hP.sub (ws' := []) [] rfl
              have hD9 := hD.sub (ws' := []) [] (by decide) rfl
              exact q_reti () hx hb hr hlocks hK hP9 hD9 hS (Nat.le_of_ble_eq_true rfl) (Nat.le_of_ble_eq_true rfl) ((by first | exact fac_n (by assumption) | exact fac_lt (by assumption) | exact fac_gt (by assumption) | exact fac_0 (by assumption) | exact fac_1 (by assumption) | exact fac_o (by assumption) (by assumption))) dX9_face_49
          · refine lv_aload_n hx hb dX9_face_27 rfl (lv_at hl 0 rfl) ?_
            refine va_get (D := D) (ci := 7) (v := .ref nt) (C := RX9) (T := TX9) (N := 5) hx hb hts n_X9_face_X9 hown hK hP 0 rfl rfl 2 (by decide) (hts (.fieldLink RX9 41 "FaceMapModel" "net" "LFaceMapModel$Net;") (List.mem_of_getElem? (i := 1) rfl)) (fun _ h9 => h9) rfl dX9_face_28 ?_
            refine lv_iload_n hx hb dX9_face_31 rfl (lv_at hl 1 rfl) ?_
            refine q_i (wr := [(h0, .inr (7, [.ref en, .int 0, .ref nt, .ref pl, .int 1]))]) (q_runV (As := [.int 0]) (rest := []) ⟨hx, hb, hml, hown, hts⟩ (c_X7_ringsOf l D aI aL aZ nt knx_1 kny_1 knl_1 knh_1 knb_1 kno_1 knr_1 knd_1 kna_1 kns_1 knf_1 knp_1 knq_1 0 _) (cwV 1 hts g_X9_face_X7_ringsOf_154 rfl rfl rfl (by decide +kernel) ⟨Nat.le_of_ble_eq_true rfl, Nat.le_of_ble_eq_true rfl⟩) hK hN hP hD [1] rfl (by decide) rfl rfl rfl hl.1 rfl (Nat.le_of_ble_eq_true rfl) dX9_face_32 ⟨Nat.le_of_ble_eq_true rfl, Nat.le_of_ble_eq_true rfl⟩) hP hD hS hA [1] [0] rfl rfl (by decide) (by decide) (fun r_11 u_11 H locs hw hP hD hS => ?_)
            subst hw
            have hP : va_P D q_cl [(h0, .inr (7, [.ref en, .int 0, .ref nt, .ref pl, .int 1])), (nt, .inr (5, [.ref knx_1, .ref kny_1, .int 0, .ref knl_1, .ref knh_1, .int 0, .ref knb_1, .ref kno_1, .ref knr_1, .ref knd_1, .ref kna_1, .ref kns_1, .ref knf_1, .int 0, .ref knp_1, .int 1, .ref knq_1]))] H := hP
            have hD : va_D A [(h0, .inr (7, [.ref en, .int 0, .ref nt, .ref pl, .int 1])), (nt, .inr (5, [.ref knx_1, .ref kny_1, .int 0, .ref knl_1, .ref knh_1, .int 0, .ref knb_1, .ref kno_1, .ref knr_1, .ref knd_1, .ref kna_1, .ref kns_1, .ref knf_1, .int 0, .ref knp_1, .int 1, .ref knq_1]))] := hD
            have hP9 := hP.sub (ws' := []) [] rfl
            have hD9 := hD.sub (ws' := []) [] (by decide) rfl
            exact q_reti () hx hb hr hlocks hK hP9 hD9 hS (Nat.le_of_ble_eq_true rfl) (Nat.le_of_ble_eq_true rfl) ((by first | exact fac_n (by assumption) | exact fac_lt (by assumption) | exact fac_gt (by assumption) | exact fac_0 (by assumption) | exact fac_1 (by assumption) | exact fac_o (by assumption) (by assumption))) dX9_face_35
        · refine lv_iconst (v := (-1)) hx hb dX9_face_21 (by decide) ?_
          have hP9 := hP.sub (ws' := []) [] rfl
          have hD9 := hD.sub (ws' := []) [] (by decide) rfl
          exact q_reti () hx hb hr hlocks hK hP9 hD9 hS (Nat.le_of_ble_eq_true rfl) (Nat.le_of_ble_eq_true rfl) ((by first | exact fac_n (by assumption) | exact fac_lt (by assumption) | exact fac_gt (by assumption) | exact fac_0 (by assumption) | exact fac_1 (by assumption) | exact fac_o (by assumption) (by assumption))) dX9_face_22
  · have hP : va_P D q_cl [(h0, .inr (7, [.ref en, .int 0, .ref nt, .ref pl, .int 1])), (nt, .inr (5, [.ref knx_1, .ref kny_1, .int 0, .ref knl_1, .ref knh_1, .int 0, .ref knb_1, .ref kno_1, .ref knr_1, .ref knd_1, .ref kna_1, .ref kns_1, .ref knf_1, .int 0, .ref knp_1, .int 1, .ref knq_1]))] H := hP
    have hD : va_D A [(h0, .inr (7, [.ref en, .int 0, .ref nt, .ref pl, .int 1])), (nt, .inr (5, [.ref knx_1, .ref kny_1, .int 0, .ref knl_1, .ref knh_1, .int 0, .ref knb_1, .ref kno_1, .ref knr_1, .ref knd_1, .ref kna_1, .ref kns_1, .ref knf_1, .int 0, .ref knp_1, .int 1, .ref knq_1]))] := hD
    refine lv_if_eq (tgt := 21) hx hb dX9_face_9 (by decide) (fun c_12 => ?_) (fun c_12 => ?_)
    · refine lv_iconst (v := (-1)) hx hb dX9_face_21 (by decide) ?_
      have hP9 := hP.sub (ws' := []) [] rfl
      have hD9 := hD.sub (ws' := []) [] (by decide) rfl
      exact q_reti () hx hb hr hlocks hK hP9 hD9 hS (Nat.le_of_ble_eq_true rfl) (Nat.le_of_ble_eq_true rfl) ((by first | exact fac_n (by assumption) | exact fac_lt (by assumption) | exact fac_gt (by assumption) | exact fac_0 (by assumption) | exact fac_1 (by assumption) | exact fac_o (by assumption) (by assumption))) dX9_face_22
    · exact absurd c_12 (by decide)
def vsX9_area2 : List Cond := .code yX9_area2 cX9_area2 2 (some .long) :: ([.methodLink RX9 135 yX9_build, .instanceMethod yX9_build, .selects RX9 yX9_build yX9_build, .initialized RX9, .code yX9_build cX9_build 2 none, .fieldLink RX9 82 "FaceMapModel" "isBuilt" "Z", .fieldLink RX9 48 "FaceMapModel" "nodes" "LFaceMapModel$Places;", .fieldLink RX9 54 "FaceMapModel" "count" "I", .fieldLink RX9 41 "FaceMapModel" "net" "LFaceMapModel$Net;", .fieldLink RX9 103 "FaceMapModel$Places" "size" "I", .fieldLink RX9 106 "FaceMapModel$Net" "nodes" "I", .fieldLink RX9 108 "FaceMapModel$Net" "pieces" "I", .methodLink RX9 90 yX8_clear, .instanceMethod yX8_clear, .selects RX8 yX8_clear yX8_clear, .initialized RX8, .code yX8_clear cX8_clear 1 none, .fieldLink RX8 13 "FaceMapModel$Places" "size" "I", .methodLink RX9 97 yX8_sort, .instanceMethod yX8_sort, .selects RX8 yX8_sort yX8_sort, .code yX8_sort cX8_sort 4 none, .methodLink RX9 100 yX7_room, .instanceMethod yX7_room, .selects RX7 yX7_room yX7_room, .initialized RX7, .code yX7_room cX7_room 3 none, .fieldLink RX7 7 "FaceMapModel$Net" "x" "[I", .arrayClass .int, .fieldLink RX7 13 "FaceMapModel$Net" "y" "[I", .fieldLink RX7 22 "FaceMapModel$Net" "begins" "[I", .fieldLink RX7 44 "FaceMapModel$Net" "part" "[I", .fieldLink RX7 16 "FaceMapModel$Net" "low" "[I", .fieldLink RX7 19 "FaceMapModel$Net" "high" "[I", .fieldLink RX7 25 "FaceMapModel$Net" "out" "[I", .fieldLink RX7 28 "FaceMapModel$Net" "rank" "[I", .fieldLink RX7 31 "FaceMapModel$Net" "round" "[I", .arrayClass .long, .fieldLink RX7 34 "FaceMapModel$Net" "area" "[J", .fieldLink RX7 38 "FaceMapModel$Net" "least" "[I", .fieldLink RX7 41 "FaceMapModel$Net" "faceOf" "[I", .arrayClass .boolean, .fieldLink RX7 47 "FaceMapModel$Net" "odd" "[Z", .methodLink RX9 132 yX7_build, .instanceMethod yX7_build, .selects RX7 yX7_build yX7_build, .code yX7_build cX7_build 2 none, .fieldLink RX7 67 "FaceMapModel$Net" "nodes" "I", .fieldLink RX7 71 "FaceMapModel$Net" "pieces" "I", .fieldLink RX7 87 "FaceMapModel$Net" "rounds" "I", .methodLink RX7 81 yX7_sortOut, .instanceMethod yX7_sortOut, .selects RX7 yX7_sortOut yX7_sortOut, .code yX7_sortOut cX7_sortOut 6 none, .methodLink RX7 94 yX7_number, .instanceMethod yX7_number, .selects RX7 yX7_number yX7_number, .code yX7_number cX7_number 5 none, .fieldLink RX7 107 "FaceMapModel$Net" "faces" "I", .methodLink RX9 150 yX9_isFace, .instanceMethod yX9_isFace, .selects RX9 yX9_isFace yX9_isFace, .code yX9_isFace cX9_isFace 2 (some .boolean), .fieldLink RX9 136 "FaceMapModel$Net" "faces" "I"] ++ wsX90 ++ wsX80 ++ wsX70)
set_option maxRecDepth 20000 in
theorem g_X9_area2_X9_build_135 : GoodIn vsX9_area2 (wsV RX9 135 RX9 yX9_build vsX9_build) := goodIn_r _ [1, 2, 3, 4, 5, 6, 7, 8, 9, 10, 11, 12, 13, 14, 15, 16, 17, 18, 19, 20, 21, 22, 23, 24, 25, 26, 27, 28, 29, 30, 31, 32, 33, 34, 35, 36, 37, 38, 39, 40, 41, 42, 43, 44, 45, 46, 47, 48, 49, 50, 51, 52, 53, 54, 55, 56, 57, 58, 59, 65, 66, 67, 68, 69, 70, 71, 72, 73, 74, 75, 76, 77, 78, 79, 80, 81, 82, 83, 84, 85, 86, 87, 88] rfl (by decide +kernel)
set_option maxRecDepth 20000 in
theorem g_X9_area2_X9_isFace_150 : GoodIn vsX9_area2 (wsV RX9 150 RX9 yX9_isFace vsX9_isFace) := goodIn_r _ [60, 61, 62, 4, 63, 9, 64, 65, 66, 67, 68, 69, 72, 73, 74, 75, 76, 77, 78, 79, 80, 81, 82, 83, 84, 85, 86, 87, 88] rfl (by decide +kernel)
set_option maxHeartbeats 4000000 in
set_option maxRecDepth 100000 in
/-- FaceMapModel.area2 -/
theorem c_X9_area2 (l : Launch) (D : va_G) (aI aL aZ : ClassId) (h0 : Nat) (en : Nat) (nt : Nat) (pl : Nat) (row : Nat) (nx : Nat) (ny : Nat) (nl : Nat) (nh : Nat) (nb : Nat) (no : Nat) (nr : Nat) (nd : Nat) (na : Nat) (ns : Nat) (nf : Nat) (np : Nat) (nq : Nat) (fx : Nat → Int32) (fl : Nat → Int32) (x : Int32) (sz : Nat) : ML l D q_cl (q_ty aI aL aZ) yX9_area2 vsX9_area2 3 13 36005 [.ref h0, .int x] [(h0, .inr (7, [.ref en, .int 0, .ref nt, .ref pl, .int 0])), (nt, .inr (5, [.ref nx, .ref ny, .int 0, .ref nl, .ref nh, .int 0, .ref nb, .ref no, .ref nr, .ref nd, .ref na, .ref ns, .ref nf, .int 0, .ref np, .int 0, .ref nq])), (nx, .inl (aI, 0, .inl fx)), (nl, .inl (aI, 0, .inl fl)), (pl, .inr (6, [.ref row, .int 0]))] sz (fun (r : Int64) (u : Unit) => r = 0) (fun (u : Unit) => ([] : va_W)) := by
  refine q_in cX9_area2 2 (some .long) (qQl D q_cl (q_ty aI aL aZ) _ _) (by decide) rfl (Nat.le_of_ble_eq_true rfl) ?_
  intro p e s m args below meth c A ls hat hP hD hS hl
  obtain ⟨hx, hb, hr, hts, hown, hlocks, hml, hin, hK, hN, hA⟩ := hat
  have hown : s.vm.findClass RX9 = some m.cls := hown
  have hl : lv_has ls 2 [(0, .ref h0), (1, .int x)] := hl
  refine lv_aload_n hx hb dX9_area2_0 rfl (lv_at hl 0 rfl) ?_
  refine q_v (wr := []) (q_runV (As := []) (rest := []) ⟨hx, hb, hml, hown, hts⟩ (c_X9_build l D aI aL aZ h0 en nt pl row nx ny nl nh nb no nr nd na ns nf np nq fx fl _) (cwV 0 hts g_X9_area2_X9_build_135 rfl rfl rfl (by decide +kernel) ⟨Nat.le_of_ble_eq_true rfl, Nat.le_of_ble_eq_true rfl⟩) hK hN hP hD [0, 1, 2, 3, 4] rfl (by decide) rfl rfl rfl hl.1 rfl (Nat.le_of_ble_eq_true rfl) dX9_area2_1 ⟨Nat.le_of_ble_eq_true rfl, Nat.le_of_ble_eq_true rfl⟩) hP hD hS hA [0, 1, 2, 3, 4] [] rfl rfl (by decide) (by decide) (fun u_1 H locs hw hP hD hS => ?_)
  obtain ⟨knx_1, kny_1, knl_1, knh_1, knb_1, kno_1, knr_1, knd_1, kna_1, kns_1, knf_1, knp_1, knq_1⟩ := u_1
  have hP : va_P D q_cl [(h0, .inr (7, [.ref en, .int 0, .ref nt, .ref pl, .int 1])), (nt, .inr (5, [.ref knx_1, .ref kny_1, .int 0, .ref knl_1, .ref knh_1, .int 0, .ref knb_1, .ref kno_1, .ref knr_1, .ref knd_1, .ref kna_1, .ref kns_1, .ref knf_1, .int 0, .ref knp_1, .int 1, .ref knq_1]))] H := hP
  have hD : va_D A [(h0, .inr (7, [.ref en, .int 0, .ref nt, .ref pl, .int 1])), (nt, .inr (5, [.ref knx_1, .ref kny_1, .int 0, .ref knl_1, .ref knh_1, .int 0, .ref knb_1, .ref kno_1, .ref knr_1, .ref knd_1, .ref kna_1, .ref kns_1, .ref knf_1, .int 0, .ref knp_1, .int 1, .ref knq_1]))] := hD
  refine lv_iload_n hx hb dX9_area2_4 rfl (lv_at hl 1 rfl) ?_
  refine lv_if_le (tgt := 27) hx hb dX9_area2_5 (by decide) (fun c_2 => ?_) (fun c_2 => ?_)
  · refine lv_lconst (v := 0) hx hb dX9_area2_27 (by decide) ?_
    have hP9 := hP.sub (ws' := []) [] rfl
    have hD9 := hD.sub (ws' := []) [] (by decide) rfl
    exact q_retl () hx hb hr hlocks hK hP9 hD9 hS (Nat.le_of_ble_eq_true rfl) (Nat.le_of_ble_eq_true rfl) (rfl) dX9_area2_28
  · refine lv_aload_n hx hb dX9_area2_8 rfl (lv_at hl 0 rfl) ?_
    refine lv_iload_n hx hb dX9_area2_9 rfl (lv_at hl 1 rfl) ?_
    refine q_i (wr := []) (q_runV (As := [.int x]) (rest := []) ⟨hx, hb, hml, hown, hts⟩ (c_X9_isFace l D aI aL aZ h0 en nt pl 1 knx_1 kny_1 knl_1 knh_1 knb_1 kno_1 knr_1 knd_1 kna_1 kns_1 knf_1 knp_1 knq_1 x _) (cwV 1 hts g_X9_area2_X9_isFace_150 rfl rfl rfl (by decide +kernel) ⟨Nat.le_of_ble_eq_true rfl, Nat.le_of_ble_eq_true rfl⟩) hK hN hP hD [0, 1] rfl (by decide) rfl rfl rfl hl.1 rfl (Nat.le_of_ble_eq_true rfl) dX9_area2_10 ⟨Nat.le_of_ble_eq_true rfl, Nat.le_of_ble_eq_true rfl⟩) hP hD hS hA [0, 1] [] rfl rfl (by decide) (by decide) (fun r_3 u_3 H locs hw hP hD hS => ?_)
    rcases hw with ⟨rfl, f3_0⟩ | ⟨rfl, f3_0⟩
    · exact absurd f3_0 (q_npos (by assumption))
    · have hP : va_P D q_cl [(h0, .inr (7, [.ref en, .int 0, .ref nt, .ref pl, .int 1])), (nt, .inr (5, [.ref knx_1, .ref kny_1, .int 0, .ref knl_1, .ref knh_1, .int 0, .ref knb_1, .ref kno_1, .ref knr_1, .ref knd_1, .ref kna_1, .ref kns_1, .ref knf_1, .int 0, .ref knp_1, .int 1, .ref knq_1]))] H := hP
      have hD : va_D A [(h0, .inr (7, [.ref en, .int 0, .ref nt, .ref pl, .int 1])), (nt, .inr (5, [.ref knx_1, .ref kny_1, .int 0, .ref knl_1, .ref knh_1, .int 0, .ref knb_1, .ref kno_1, .ref knr_1, .ref knd_1, .ref kna_1, .ref kns_1, .ref knf_1, .int 0, .ref knp_1, .int 1, .ref knq_1]))] := hD
      refine lv_if_eq (tgt := 27) hx hb dX9_area2_13 (by decide) (fun c_4 => ?_) (fun c_4 => ?_)
      · refine lv_lconst (v := 0) hx hb dX9_area2_27 (by decide) ?_
        have hP9 := hP.sub (ws' := []) [] rfl
        have hD9 := hD.sub (ws' := []) [] (by decide) rfl
        exact q_retl () hx hb hr hlocks hK hP9 hD9 hS (Nat.le_of_ble_eq_true rfl) (Nat.le_of_ble_eq_true rfl) (rfl) dX9_area2_28
      · exact absurd c_4 (by decide)
def vsX9_locate : List Cond := .code yX9_locate cX9_locate 4 (some .int) :: ([.fieldLink RX9 54 "FaceMapModel" "count" "I", .fieldLink RX9 41 "FaceMapModel" "net" "LFaceMapModel$Net;", .methodLink RX9 135 yX9_build, .instanceMethod yX9_build, .selects RX9 yX9_build yX9_build, .initialized RX9, .code yX9_build cX9_build 2 none, .fieldLink RX9 82 "FaceMapModel" "isBuilt" "Z", .fieldLink RX9 48 "FaceMapModel" "nodes" "LFaceMapModel$Places;", .fieldLink RX9 103 "FaceMapModel$Places" "size" "I", .fieldLink RX9 106 "FaceMapModel$Net" "nodes" "I", .fieldLink RX9 108 "FaceMapModel$Net" "pieces" "I", .methodLink RX9 90 yX8_clear, .instanceMethod yX8_clear, .selects RX8 yX8_clear yX8_clear, .initialized RX8, .code yX8_clear cX8_clear 1 none, .fieldLink RX8 13 "FaceMapModel$Places" "size" "I", .methodLink RX9 97 yX8_sort, .instanceMethod yX8_sort, .selects RX8 yX8_sort yX8_sort, .code yX8_sort cX8_sort 4 none, .methodLink RX9 100 yX7_room, .instanceMethod yX7_room, .selects RX7 yX7_room yX7_room, .initialized RX7, .code yX7_room cX7_room 3 none, .fieldLink RX7 7 "FaceMapModel$Net" "x" "[I", .arrayClass .int, .fieldLink RX7 13 "FaceMapModel$Net" "y" "[I", .fieldLink RX7 22 "FaceMapModel$Net" "begins" "[I", .fieldLink RX7 44 "FaceMapModel$Net" "part" "[I", .fieldLink RX7 16 "FaceMapModel$Net" "low" "[I", .fieldLink RX7 19 "FaceMapModel$Net" "high" "[I", .fieldLink RX7 25 "FaceMapModel$Net" "out" "[I", .fieldLink RX7 28 "FaceMapModel$Net" "rank" "[I", .fieldLink RX7 31 "FaceMapModel$Net" "round" "[I", .arrayClass .long, .fieldLink RX7 34 "FaceMapModel$Net" "area" "[J", .fieldLink RX7 38 "FaceMapModel$Net" "least" "[I", .fieldLink RX7 41 "FaceMapModel$Net" "faceOf" "[I", .arrayClass .boolean, .fieldLink RX7 47 "FaceMapModel$Net" "odd" "[Z", .methodLink RX9 132 yX7_build, .instanceMethod yX7_build, .selects RX7 yX7_build yX7_build, .code yX7_build cX7_build 2 none, .fieldLink RX7 67 "FaceMapModel$Net" "nodes" "I", .fieldLink RX7 71 "FaceMapModel$Net" "pieces" "I", .fieldLink RX7 87 "FaceMapModel$Net" "rounds" "I", .methodLink RX7 81 yX7_sortOut, .instanceMethod yX7_sortOut, .selects RX7 yX7_sortOut yX7_sortOut, .code yX7_sortOut cX7_sortOut 6 none, .methodLink RX7 94 yX7_number, .instanceMethod yX7_number, .selects RX7 yX7_number yX7_number, .code yX7_number cX7_number 5 none, .fieldLink RX7 107 "FaceMapModel$Net" "faces" "I", .methodLink RX9 176 yX7_inside, .instanceMethod yX7_inside, .selects RX7 yX7_inside yX7_inside, .code yX7_inside cX7_inside 9 (some .int)] ++ wsX90 ++ wsX80 ++ wsX70)
set_option maxRecDepth 20000 in
theorem g_X9_locate_X9_build_135 : GoodIn vsX9_locate (wsV RX9 135 RX9 yX9_build vsX9_build) := goodIn_r _ [3, 4, 5, 6, 7, 8, 9, 1, 2, 10, 11, 12, 13, 14, 15, 16, 17, 18, 19, 20, 21, 22, 23, 24, 25, 26, 27, 28, 29, 30, 31, 32, 33, 34, 35, 36, 37, 38, 39, 40, 41, 42, 43, 44, 45, 46, 47, 48, 49, 50, 51, 52, 53, 54, 55, 56, 57, 58, 59, 64, 65, 66, 67, 68, 69, 70, 71, 72, 73, 74, 75, 76, 77, 78, 79, 80, 81, 82, 83, 84, 85, 86, 87] rfl (by decide +kernel)
set_option maxRecDepth 20000 in
theorem n_X9_locate_X9 : ∀ w ∈ wsX90, w ∈ vsX9_locate := fun _ h => List.mem_cons_of_mem _ (List.mem_append_left _ (List.mem_append_left _ (List.mem_append_right _ h)))
set_option maxRecDepth 20000 in
theorem g_X9_locate_X7_inside_176 : GoodIn vsX9_locate (wsV RX9 176 RX7 yX7_inside vsX7_inside) := goodIn_r _ [60, 61, 62, 26, 63, 50, 49, 71, 72, 73, 74, 75, 76, 77, 78, 79, 80, 81, 82, 83, 84, 85, 86, 87] rfl (by decide +kernel)
set_option maxHeartbeats 4000000 in
set_option maxRecDepth 100000 in
/-- FaceMapModel.locate -/
theorem c_X9_locate (l : Launch) (D : va_G) (aI aL aZ : ClassId) (h0 : Nat) (en : Nat) (nt : Nat) (pl : Nat) (row : Nat) (nx : Nat) (ny : Nat) (nl : Nat) (nh : Nat) (nb : Nat) (no : Nat) (nr : Nat) (nd : Nat) (na : Nat) (ns : Nat) (nf : Nat) (np : Nat) (nq : Nat) (fx : Nat → Int32) (fl : Nat → Int32) (x : Int32) (y : Int32) (sz : Nat) : MI l D q_cl (q_ty aI aL aZ) yX9_locate vsX9_locate 3 13 36005 [.ref h0, .int x, .int y] [(h0, .inr (7, [.ref en, .int 0, .ref nt, .ref pl, .int 0])), (nt, .inr (5, [.ref nx, .ref ny, .int 0, .ref nl, .ref nh, .int 0, .ref nb, .ref no, .ref nr, .ref nd, .ref na, .ref ns, .ref nf, .int 0, .ref np, .int 0, .ref nq])), (nx, .inl (aI, 0, .inl fx)), (nl, .inl (aI, 0, .inl fl)), (pl, .inr (6, [.ref row, .int 0]))] sz (fun (r : Int32) (u : Unit) => r = 0) (fun (u : Unit) => ([] : va_W)) := by
  refine q_in cX9_locate 4 (some .int) (qQi D q_cl (q_ty aI aL aZ) _ _) (by decide) rfl (Nat.le_of_ble_eq_true rfl) ?_
  intro p e s m args below meth c A ls hat hP hD hS hl
  obtain ⟨hx, hb, hr, hts, hown, hlocks, hml, hin, hK, hN, hA⟩ := hat
  have hown : s.vm.findClass RX9 = some m.cls := hown
  have hl : lv_has ls 4 [(0, .ref h0), (1, .int x), (2, .int y)] := hl
  refine lv_aload_n hx hb dX9_locate_0 rfl (lv_at hl 0 rfl) ?_
  refine q_v (wr := []) (q_runV (As := []) (rest := []) ⟨hx, hb, hml, hown, hts⟩ (c_X9_build l D aI aL aZ h0 en nt pl row nx ny nl nh nb no nr nd na ns nf np nq fx fl _) (cwV 0 hts g_X9_locate_X9_build_135 rfl rfl rfl (by decide +kernel) ⟨Nat.le_of_ble_eq_true rfl, Nat.le_of_ble_eq_true rfl⟩) hK hN hP hD [0, 1, 2, 3, 4] rfl (by decide) rfl rfl rfl hl.1 rfl (Nat.le_of_ble_eq_true rfl) dX9_locate_1 ⟨Nat.le_of_ble_eq_true rfl, Nat.le_of_ble_eq_true rfl⟩) hP hD hS hA [0, 1, 2, 3, 4] [] rfl rfl (by decide) (by decide) (fun u_1 H locs hw hP hD hS => ?_)
  obtain ⟨knx_1, kny_1, knl_1, knh_1, knb_1, kno_1, knr_1, knd_1, kna_1, kns_1, knf_1, knp_1, knq_1⟩ := u_1
  have hP : va_P D q_cl [(h0, .inr (7, [.ref en, .int 0, .ref nt, .ref pl, .int 1])), (nt, .inr (5, [.ref knx_1, .ref kny_1, .int 0, .ref knl_1, .ref knh_1, .int 0, .ref knb_1, .ref kno_1, .ref knr_1, .ref knd_1, .ref kna_1, .ref kns_1, .ref knf_1, .int 0, .ref knp_1, .int 1, .ref knq_1]))] H := hP
  have hD : va_D A [(h0, .inr (7, [.ref en, .int 0, .ref nt, .ref pl, .int 1])), (nt, .inr (5, [.ref knx_1, .ref kny_1, .int 0, .ref knl_1, .ref knh_1, .int 0, .ref knb_1, .ref kno_1, .ref knr_1, .ref knd_1, .ref kna_1, .ref kns_1, .ref knf_1, .int 0, .ref knp_1, .int 1, .ref knq_1]))] := hD
  refine lv_iconst (v := 0) hx hb dX9_locate_4 (by decide) ?_
  refine lv_istore_n (lv' := [(3, .int 0), (0, .ref h0), (1, .int x), (2, .int y)]) hx hb dX9_locate_5 rfl hl (by decide) rfl (fun ls hl => ?_)
  refine lv_iload_n hx hb dX9_locate_6 rfl (lv_at hl 0 rfl) ?_
  refine lv_aload_n hx hb dX9_locate_7 rfl (lv_at hl 1 rfl) ?_
  refine va_get (D := D) (ci := 7) (v := .int 0) (C := RX9) (T := TX9) (N := 5) hx hb hts n_X9_locate_X9 hown hK hP 0 rfl rfl 1 (by decide) (hts (.fieldLink RX9 54 "FaceMapModel" "count" "I") (List.mem_of_getElem? (i := 1) rfl)) (fun _ h9 => h9) rfl dX9_locate_8 ?_
  refine lv_icmp_ge (tgt := 76) hx hb dX9_locate_11 (by decide) (fun c_2 => ?_) (fun c_2 => ?_)
  · refine lv_aload_n hx hb dX9_locate_76 rfl (lv_at hl 1 rfl) ?_
    refine va_get (D := D) (ci := 7) (v := .ref nt) (C := RX9) (T := TX9) (N := 5) hx hb hts n_X9_locate_X9 hown hK hP 0 rfl rfl 2 (by decide) (hts (.fieldLink RX9 41 "FaceMapModel" "net" "LFaceMapModel$Net;") (List.mem_of_getElem? (i := 2) rfl)) (fun _ h9 => h9) rfl dX9_locate_77 ?_
    refine lv_iload_n hx hb dX9_locate_80 rfl (lv_at hl 2 rfl) ?_
    refine lv_i2l (v := x.toInt64) hx hb dX9_locate_81 rfl ?_
    refine lv_iload_n hx hb dX9_locate_82 rfl (lv_at hl 3 rfl) ?_
    refine lv_i2l (v := y.toInt64) hx hb dX9_locate_83 rfl ?_
    refine lv_iconst (v := (-1)) hx hb dX9_locate_84 (by decide) ?_
    refine q_i (wr := [(h0, .inr (7, [.ref en, .int 0, .ref nt, .ref pl, .int 1]))]) (q_runV (As := [.long x.toInt64, .long y.toInt64, .int (-1)]) (rest := []) ⟨hx, hb, hml, hown, hts⟩ (c_X7_inside l D aI aL aZ nt knx_1 kny_1 knl_1 knh_1 knb_1 kno_1 knr_1 knd_1 kna_1 kns_1 knf_1 knp_1 knq_1 x.toInt64 y.toInt64 _) (cwV 3 hts g_X9_locate_X7_inside_176 rfl rfl rfl (by decide +kernel) ⟨Nat.le_of_ble_eq_true rfl, Nat.le_of_ble_eq_true rfl⟩) hK hN hP hD [1] rfl (by decide) rfl rfl rfl hl.1 rfl (Nat.le_of_ble_eq_true rfl) dX9_locate_85 ⟨Nat.le_of_ble_eq_true rfl, Nat.le_of_ble_eq_true rfl⟩) hP hD hS hA [1] [0] rfl rfl (by decide) (by decide) (fun r_3 u_3 H locs hw hP hD hS => ?_)
    subst hw
    have hP : va_P D q_cl [(h0, .inr (7, [.ref en, .int 0, .ref nt, .ref pl, .int 1])), (nt, .inr (5, [.ref knx_1, .ref kny_1, .int 0, .ref knl_1, .ref knh_1, .int 0, .ref knb_1, .ref kno_1, .ref knr_1, .ref knd_1, .ref kna_1, .ref kns_1, .ref knf_1, .int 0, .ref knp_1, .int 1, .ref knq_1]))] H := hP
    have hD : va_D A [(h0, .inr (7, [.ref en, .int 0, .ref nt, .ref pl, .int 1])), (nt, .inr (5, [.ref knx_1, .ref kny_1, .int 0, .ref knl_1, .ref knh_1, .int 0, .ref knb_1, .ref kno_1, .ref knr_1, .ref knd_1, .ref kna_1, .ref kns_1, .ref knf_1, .int 0, .ref knp_1, .int 1, .ref knq_1]))] := hD
    have hP9 := hP.sub (ws' := []) [] rfl
    have hD9 := hD.sub (ws' := []) [] (by decide) rfl
    exact q_reti () hx hb hr hlocks hK hP9 hD9 hS (Nat.le_of_ble_eq_true rfl) (Nat.le_of_ble_eq_true rfl) (rfl) dX9_locate_88
  · exact absurd c_2 (by decide)
def vsX9_between : List Cond := .code yX9_between cX9_between 7 (some .int) :: ([.fieldLink RX9 54 "FaceMapModel" "count" "I", .methodLink RX9 135 yX9_build, .instanceMethod yX9_build, .selects RX9 yX9_build yX9_build, .initialized RX9, .code yX9_build cX9_build 2 none, .fieldLink RX9 82 "FaceMapModel" "isBuilt" "Z", .fieldLink RX9 48 "FaceMapModel" "nodes" "LFaceMapModel$Places;", .fieldLink RX9 41 "FaceMapModel" "net" "LFaceMapModel$Net;", .fieldLink RX9 103 "FaceMapModel$Places" "size" "I", .fieldLink RX9 106 "FaceMapModel$Net" "nodes" "I", .fieldLink RX9 108 "FaceMapModel$Net" "pieces" "I", .methodLink RX9 90 yX8_clear, .instanceMethod yX8_clear, .selects RX8 yX8_clear yX8_clear, .initialized RX8, .code yX8_clear cX8_clear 1 none, .fieldLink RX8 13 "FaceMapModel$Places" "size" "I", .methodLink RX9 97 yX8_sort, .instanceMethod yX8_sort, .selects RX8 yX8_sort yX8_sort, .code yX8_sort cX8_sort 4 none, .methodLink RX9 100 yX7_room, .instanceMethod yX7_room, .selects RX7 yX7_room yX7_room, .initialized RX7, .code yX7_room cX7_room 3 none, .fieldLink RX7 7 "FaceMapModel$Net" "x" "[I", .arrayClass .int, .fieldLink RX7 13 "FaceMapModel$Net" "y" "[I", .fieldLink RX7 22 "FaceMapModel$Net" "begins" "[I", .fieldLink RX7 44 "FaceMapModel$Net" "part" "[I", .fieldLink RX7 16 "FaceMapModel$Net" "low" "[I", .fieldLink RX7 19 "FaceMapModel$Net" "high" "[I", .fieldLink RX7 25 "FaceMapModel$Net" "out" "[I", .fieldLink RX7 28 "FaceMapModel$Net" "rank" "[I", .fieldLink RX7 31 "FaceMapModel$Net" "round" "[I", .arrayClass .long, .fieldLink RX7 34 "FaceMapModel$Net" "area" "[J", .fieldLink RX7 38 "FaceMapModel$Net" "least" "[I", .fieldLink RX7 41 "FaceMapModel$Net" "faceOf" "[I", .arrayClass .boolean, .fieldLink RX7 47 "FaceMapModel$Net" "odd" "[Z", .methodLink RX9 132 yX7_build, .instanceMethod yX7_build, .selects RX7 yX7_build yX7_build, .code yX7_build cX7_build 2 none, .fieldLink RX7 67 "FaceMapModel$Net" "nodes" "I", .fieldLink RX7 71 "FaceMapModel$Net" "pieces" "I", .fieldLink RX7 87 "FaceMapModel$Net" "rounds" "I", .methodLink RX7 81 yX7_sortOut, .instanceMethod yX7_sortOut, .selects RX7 yX7_sortOut yX7_sortOut, .code yX7_sortOut cX7_sortOut 6 none, .methodLink RX7 94 yX7_number, .instanceMethod yX7_number, .selects RX7 yX7_number yX7_number, .code yX7_number cX7_number 5 none, .fieldLink RX7 107 "FaceMapModel$Net" "faces" "I", .methodLink RX9 150 yX9_isFace, .instanceMethod yX9_isFace, .selects RX9 yX9_isFace yX9_isFace, .code yX9_isFace cX9_isFace 2 (some .boolean), .fieldLink RX9 136 "FaceMapModel$Net" "faces" "I"] ++ wsX90 ++ wsX80 ++ wsX70)
set_option maxRecDepth 20000 in
theorem g_X9_between_X9_build_135 : GoodIn vsX9_between (wsV RX9 135 RX9 yX9_build vsX9_build) := goodIn_r _ [2, 3, 4, 5, 6, 7, 8, 1, 9, 10, 11, 12, 13, 14, 15, 16, 17, 18, 19, 20, 21, 22, 23, 24, 25, 26, 27, 28, 29, 30, 31, 32, 33, 34, 35, 36, 37, 38, 39, 40, 41, 42, 43, 44, 45, 46, 47, 48, 49, 50, 51, 52, 53, 54, 55, 56, 57, 58, 59, 65, 66, 67, 68, 69, 70, 71, 72, 73, 74, 75, 76, 77, 78, 79, 80, 81, 82, 83, 84, 85, 86, 87, 88] rfl (by decide +kernel)
set_option maxRecDepth 20000 in
theorem g_X9_between_X9_isFace_150 : GoodIn vsX9_between (wsV RX9 150 RX9 yX9_isFace vsX9_isFace) := goodIn_r _ [60, 61, 62, 5, 63, 9, 64, 65, 66, 67, 68, 69, 72, 73, 74, 75, 76, 77, 78, 79, 80, 81, 82, 83, 84, 85, 86, 87, 88] rfl (by decide +kernel)
set_option maxRecDepth 20000 in
theorem n_X9_between_X9 : ∀ w ∈ wsX90, w ∈ vsX9_between := fun _ h => List.mem_cons_of_mem _ (List.mem_append_left _ (List.mem_append_left _ (List.mem_append_right _ h)))
set_option maxHeartbeats 4000000 in
set_option maxRecDepth 100000 in
/-- FaceMapModel.between -/
theorem c_X9_between (l : Launch) (D : va_G) (aI aL aZ : ClassId) (h0 : Nat) (en : Nat) (nt : Nat) (pl : Nat) (row : Nat) (nx : Nat) (ny : Nat) (nl : Nat) (nh : Nat) (nb : Nat) (no : Nat) (nr : Nat) (nd : Nat) (na : Nat) (ns : Nat) (nf : Nat) (np : Nat) (nq : Nat) (fx : Nat → Int32) (fl : Nat → Int32) (x : Int32) (y : Int32) (sz : Nat) : MI l D q_cl (q_ty aI aL aZ) yX9_between vsX9_between 3 13 36005 [.ref h0, .int x, .int y] [(h0, .inr (7, [.ref en, .int 0, .ref nt, .ref pl, .int 0])), (nt, .inr (5, [.ref nx, .ref ny, .int 0, .ref nl, .ref nh, .int 0, .ref nb, .ref no, .ref nr, .ref nd, .ref na, .ref ns, .ref nf, .int 0, .ref np, .int 0, .ref nq])), (nx, .inl (aI, 0, .inl fx)), (nl, .inl (aI, 0, .inl fl)), (pl, .inr (6, [.ref row, .int 0]))] sz (fun (r : Int32) (u : Unit) => r = (btw x y)) (fun (u : Unit) => ([] : va_W)) := by
  refine q_in cX9_between 7 (some .int) (qQi D q_cl (q_ty aI aL aZ) _ _) (by decide) rfl (Nat.le_of_ble_eq_true rfl) ?_
  intro p e s m args below meth c A ls hat hP hD hS hl
  obtain ⟨hx, hb, hr, hts, hown, hlocks, hml, hin, hK, hN, hA⟩ := hat
  have hown : s.vm.findClass RX9 = some m.cls := hown
  have hl : lv_has ls 7 [(0, .ref h0), (1, .int x), (2, .int y)] := hl
  refine lv_aload_n hx hb dX9_between_0 rfl (lv_at hl 0 rfl) ?_
  refine q_v (wr := []) (q_runV (As := []) (rest := []) ⟨hx, hb, hml, hown, hts⟩ (c_X9_build l D aI aL aZ h0 en nt pl row nx ny nl nh nb no nr nd na ns nf np nq fx fl _) (cwV 0 hts g_X9_between_X9_build_135 rfl rfl rfl (by decide +kernel) ⟨Nat.le_of_ble_eq_true rfl, Nat.le_of_ble_eq_true rfl⟩) hK hN hP hD [0, 1, 2, 3, 4] rfl (by decide) rfl rfl rfl hl.1 rfl (Nat.le_of_ble_eq_true rfl) dX9_between_1 ⟨Nat.le_of_ble_eq_true rfl, Nat.le_of_ble_eq_true rfl⟩) hP hD hS hA [0, 1, 2, 3, 4] [] rfl rfl (by decide) (by decide) (fun u_1 H locs hw hP hD hS => ?_)
  obtain ⟨knx_1, kny_1, knl_1, knh_1, knb_1, kno_1, knr_1, knd_1, kna_1, kns_1, knf_1, knp_1, knq_1⟩ := u_1
  have hP : va_P D q_cl [(h0, .inr (7, [.ref en, .int 0, .ref nt, .ref pl, .int 1])), (nt, .inr (5, [.ref knx_1, .ref kny_1, .int 0, .ref knl_1, .ref knh_1, .int 0, .ref knb_1, .ref kno_1, .ref knr_1, .ref knd_1, .ref kna_1, .ref kns_1, .ref knf_1, .int 0, .ref knp_1, .int 1, .ref knq_1]))] H := hP
  have hD : va_D A [(h0, .inr (7, [.ref en, .int 0, .ref nt, .ref pl, .int 1])), (nt, .inr (5, [.ref knx_1, .ref kny_1, .int 0, .ref knl_1, .ref knh_1, .int 0, .ref knb_1, .ref kno_1, .ref knr_1, .ref knd_1, .ref kna_1, .ref kns_1, .ref knf_1, .int 0, .ref knp_1, .int 1, .ref knq_1]))] := hD
  refine lv_aload_n hx hb dX9_between_4 rfl (lv_at hl 0 rfl) ?_
  refine lv_iload_n hx hb dX9_between_5 rfl (lv_at hl 1 rfl) ?_
  refine q_i (wr := []) (q_runV (As := [.int x]) (rest := []) ⟨hx, hb, hml, hown, hts⟩ (c_X9_isFace l D aI aL aZ h0 en nt pl 1 knx_1 kny_1 knl_1 knh_1 knb_1 kno_1 knr_1 knd_1 kna_1 kns_1 knf_1 knp_1 knq_1 x _) (cwV 1 hts g_X9_between_X9_isFace_150 rfl rfl rfl (by decide +kernel) ⟨Nat.le_of_ble_eq_true rfl, Nat.le_of_ble_eq_true rfl⟩) hK hN hP hD [0, 1] rfl (by decide) rfl rfl rfl hl.1 rfl (Nat.le_of_ble_eq_true rfl) dX9_between_6 ⟨Nat.le_of_ble_eq_true rfl, Nat.le_of_ble_eq_true rfl⟩) hP hD hS hA [0, 1] [] rfl rfl (by decide) (by decide) (fun r_2 u_2 H locs hw hP hD hS => ?_)
  rcases hw with ⟨rfl, f2_0⟩ | ⟨rfl, f2_0⟩
  · subst f2_0
    have hP : va_P D q_cl [(h0, .inr (7, [.ref en, .int 0, .ref nt, .ref pl, .int 1])), (nt, .inr (5, [.ref knx_1, .ref kny_1, .int 0, .ref knl_1, .ref knh_1, .int 0, .ref knb_1, .ref kno_1, .ref knr_1, .ref knd_1, .ref kna_1, .ref kns_1, .ref knf_1, .int 0, .ref knp_1, .int 1, .ref knq_1]))] H := hP
    have hD : va_D A [(h0, .inr (7, [.ref en, .int 0, .ref nt, .ref pl, .int 1])), (nt, .inr (5, [.ref knx_1, .ref kny_1, .int 0, .ref knl_1, .ref knh_1, .int 0, .ref knb_1, .ref kno_1, .ref knr_1, .ref knd_1, .ref kna_1, .ref kns_1, .ref knf_1, .int 0, .ref knp_1, .int 1, .ref knq_1]))] := hD
    refine lv_if_eq (tgt := 20) hx hb dX9_between_9 (by decide) (fun c_3 => ?_) (fun c_3 => ?_)
    · exact absurd c_3 (by decide)
    · refine lv_aload_n hx hb dX9_between_12 rfl (lv_at hl 0 rfl) ?_
      refine lv_iload_n hx hb dX9_between_13 rfl (lv_at hl 2 rfl) ?_
      refine q_i (wr := []) (q_runV (As := [.int y]) (rest := []) ⟨hx, hb, hml, hown, hts⟩ (c_X9_isFace l D aI aL aZ h0 en nt pl 1 knx_1 kny_1 knl_1 knh_1 knb_1 kno_1 knr_1 knd_1 kna_1 kns_1 knf_1 knp_1 knq_1 y _) (cwV 1 hts g_X9_between_X9_isFace_150 rfl rfl rfl (by decide +kernel) ⟨Nat.le_of_ble_eq_true rfl, Nat.le_of_ble_eq_true rfl⟩) hK hN hP hD [0, 1] rfl (by decide) rfl rfl rfl hl.1 rfl (Nat.le_of_ble_eq_true rfl) dX9_between_14 ⟨Nat.le_of_ble_eq_true rfl, Nat.le_of_ble_eq_true rfl⟩) hP hD hS hA [0, 1] [] rfl rfl (by decide) (by decide) (fun r_4 u_4 H locs hw hP hD hS => ?_)
      rcases hw with ⟨rfl, f4_0⟩ | ⟨rfl, f4_0⟩
      · subst f4_0
        have hP : va_P D q_cl [(h0, .inr (7, [.ref en, .int 0, .ref nt, .ref pl, .int 1])), (nt, .inr (5, [.ref knx_1, .ref kny_1, .int 0, .ref knl_1, .ref knh_1, .int 0, .ref knb_1, .ref kno_1, .ref knr_1, .ref knd_1, .ref kna_1, .ref kns_1, .ref knf_1, .int 0, .ref knp_1, .int 1, .ref knq_1]))] H := hP
        have hD : va_D A [(h0, .inr (7, [.ref en, .int 0, .ref nt, .ref pl, .int 1])), (nt, .inr (5, [.ref knx_1, .ref kny_1, .int 0, .ref knl_1, .ref knh_1, .int 0, .ref knb_1, .ref kno_1, .ref knr_1, .ref knd_1, .ref kna_1, .ref kns_1, .ref knf_1, .int 0, .ref knp_1, .int 1, .ref knq_1]))] := hD
        refine lv_if_ne (tgt := 22) hx hb dX9_between_17 (by decide) (fun c_5 => ?_) (fun c_5 => ?_)
        · refine lv_iconst (v := 0) hx hb dX9_between_22 (by decide) ?_
          refine lv_istore_n (lv' := [(3, .int 0), (0, .ref h0), (1, .int 0), (2, .int 0)]) hx hb dX9_between_23 rfl hl (by decide) rfl (fun ls hl => ?_)
          refine lv_iconst (v := 0) hx hb dX9_between_24 (by decide) ?_
          refine lv_istore (lv' := [(4, .int 0), (3, .int 0), (0, .ref h0), (1, .int 0), (2, .int 0)]) hx hb dX9_between_25 hl (by decide) rfl (fun ls hl => ?_)
          refine lv_iload hx hb dX9_between_27 (lv_at hl 0 rfl) ?_
          refine lv_aload_n hx hb dX9_between_29 rfl (lv_at hl 2 rfl) ?_
          refine va_get (D := D) (ci := 7) (v := .int 0) (C := RX9) (T := TX9) (N := 5) hx hb hts n_X9_between_X9 hown hK hP 0 rfl rfl 1 (by decide) (hts (.fieldLink RX9 54 "FaceMapModel" "count" "I") (List.mem_of_getElem? (i := 1) rfl)) (fun _ h9 => h9) rfl dX9_between_30 ?_
          refine lv_icmp_ge (tgt := 97) hx hb dX9_between_33 (by decide) (fun c_6 => ?_) (fun c_6 => ?_)
          · refine lv_iload_n hx hb dX9_between_97 rfl (lv_at hl 1 rfl) ?_
            have hP9 := hP.sub (ws' := []) [] rfl
            have hD9 := hD.sub (ws' := []) [] (by decide) rfl
            exact q_reti () hx hb hr hlocks hK hP9 hD9 hS (Nat.le_of_ble_eq_true rfl) (Nat.le_of_ble_eq_true rfl) ((by first | decide | exact btw_n1 (by assumption) | exact btw_n2 (by assumption))) dX9_between_98
          · exact absurd c_6 (by decide)
        · exact absurd c_5 (by decide)
      · have hP : va_P D q_cl [(h0, .inr (7, [.ref en, .int 0, .ref nt, .ref pl, .int 1])), (nt, .inr (5, [.ref knx_1, .ref kny_1, .int 0, .ref knl_1, .ref knh_1, .int 0, .ref knb_1, .ref kno_1, .ref knr_1, .ref knd_1, .ref kna_1, .ref kns_1, .ref knf_1, .int 0, .ref knp_1, .int 1, .ref knq_1]))] H := hP
        have hD : va_D A [(h0, .inr (7, [.ref en, .int 0, .ref nt, .ref pl, .int 1])), (nt, .inr (5, [.ref knx_1, .ref kny_1, .int 0, .ref knl_1, .ref knh_1, .int 0, .ref knb_1, .ref kno_1, .ref knr_1, .ref knd_1, .ref kna_1, .ref kns_1, .ref knf_1, .int 0, .ref knp_1, .int 1, .ref knq_1]))] := hD
        refine lv_if_ne (tgt := 22) hx hb dX9_between_17 (by decide) (fun c_7 => ?_) (fun c_7 => ?_)
        · exact absurd c_7 (by decide)
        · refine lv_iconst (v := (-1)) hx hb dX9_between_20 (by decide) ?_
          have hP9 := hP.sub (ws' := []) [] rfl
          have hD9 := hD.sub (ws' := []) [] (by decide) rfl
          exact q_reti () hx hb hr hlocks hK hP9 hD9 hS (Nat.le_of_ble_eq_true rfl) (Nat.le_of_ble_eq_true rfl) ((by first | decide | exact btw_n1 (by assumption) | exact btw_n2 (by assumption))) dX9_between_21
  · have hP : va_P D q_cl [(h0, .inr (7, [.ref en, .int 0, .ref nt, .ref pl, .int 1])), (nt, .inr (5, [.ref knx_1, .ref kny_1, .int 0, .ref knl_1, .ref knh_1, .int 0, .ref knb_1, .ref kno_1, .ref knr_1, .ref knd_1, .ref kna_1, .ref kns_1, .ref knf_1, .int 0, .ref knp_1, .int 1, .ref knq_1]))] H := hP
    have hD : va_D A [(h0, .inr (7, [.ref en, .int 0, .ref nt, .ref pl, .int 1])), (nt, .inr (5, [.ref knx_1, .ref kny_1, .int 0, .ref knl_1, .ref knh_1, .int 0, .ref knb_1, .ref kno_1, .ref knr_1, .ref knd_1, .ref kna_1, .ref kns_1, .ref knf_1, .int 0, .ref knp_1, .int 1, .ref knq_1]))] := hD
    refine lv_if_eq (tgt := 20) hx hb dX9_between_9 (by decide) (fun c_8 => ?_) (fun c_8 => ?_)
    · refine lv_iconst (v := (-1)) hx hb dX9_between_20 (by decide) ?_
      have hP9 := hP.sub (ws' := []) [] rfl
      have hD9 := hD.sub (ws' := []) [] (by decide) rfl
      exact q_reti () hx hb hr hlocks hK hP9 hD9 hS (Nat.le_of_ble_eq_true rfl) (Nat.le_of_ble_eq_true rfl) ((by first | decide | exact btw_n1 (by assumption) | exact btw_n2 (by assumption))) dX9_between_21
    · exact absurd c_8 (by decide)
