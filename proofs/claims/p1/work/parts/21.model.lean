def vsX9_isIn : List Cond := .code yX9_isIn cX9_isIn 2 (some .boolean) :: ([.constant RX9 52 (-500000), .constant RX9 53 (500000)])
set_option maxHeartbeats 4000000 in
set_option maxRecDepth 100000 in
/-- isIn -/
theorem c_X9_isIn (l : Launch) (D : va_G) (aI aL aZ : ClassId) (x : Int32) (y : Int32) (sz : Nat) : MI l D q_cl (q_ty aI aL aZ) yX9_isIn vsX9_isIn 0 0 0 [.int x, .int y] ([] : va_W) sz (fun (r : Int32) (u : Unit) => (r = 1 ∧ inB x y) ∨ (r = 0 ∧ ¬ inB x y)) (fun (u : Unit) => ([] : va_W)) := by
  refine q_in cX9_isIn 2 (some .boolean) (qQi D q_cl (q_ty aI aL aZ) _ _) (by decide) rfl (Nat.le_of_ble_eq_true rfl) ?_
  intro p e s m args below meth c A ls hat hP hD hS hl
  obtain ⟨hx, hb, hr, hts, hown, hlocks, hml, hin, hK, hN, hA⟩ := hat
  have hown : s.vm.findClass RX9 = some m.cls := hown
  have hl : lv_has ls 2 [(0, .int x), (1, .int y)] := hl
  refine lv_iload_n hx hb dX9_isIn_0 rfl (lv_at hl 0 rfl) ?_
  refine lv_ldc (v := (-500000)) hx hb hown (hts (.constant RX9 52 (-500000)) (List.mem_of_getElem? (i := 1) rfl)) dX9_isIn_1 ?_
  refine lv_icmp_lt (tgt := 28) hx hb dX9_isIn_3 (by decide) (fun c_1 => ?_) (fun c_1 => ?_)
  · refine lv_iconst (v := 0) hx hb dX9_isIn_28 (by decide) ?_
    have hP9 := hP.sub (ws' := []) [] rfl
    have hD9 := hD.sub (ws' := []) [] (by decide) rfl
    exact q_retz () hx hb hr (by decide) hlocks hK hP9 hD9 hS (Nat.le_of_ble_eq_true rfl) (Nat.le_of_ble_eq_true rfl) (Or.inr (⟨rfl, (by unfold inB; simp_all)⟩)) dX9_isIn_29
  · refine lv_iload_n hx hb dX9_isIn_6 rfl (lv_at hl 0 rfl) ?_
    refine lv_ldc (v := 500000) hx hb hown (hts (.constant RX9 53 (500000)) (List.mem_of_getElem? (i := 2) rfl)) dX9_isIn_7 ?_
    refine lv_icmp_gt (tgt := 28) hx hb dX9_isIn_9 (by decide) (fun c_2 => ?_) (fun c_2 => ?_)
    · refine lv_iconst (v := 0) hx hb dX9_isIn_28 (by decide) ?_
      have hP9 := hP.sub (ws' := []) [] rfl
      have hD9 := hD.sub (ws' := []) [] (by decide) rfl
      exact q_retz () hx hb hr (by decide) hlocks hK hP9 hD9 hS (Nat.le_of_ble_eq_true rfl) (Nat.le_of_ble_eq_true rfl) (Or.inr (⟨rfl, (by unfold inB; simp_all)⟩)) dX9_isIn_29
    · refine lv_iload_n hx hb dX9_isIn_12 rfl (lv_at hl 1 rfl) ?_
      refine lv_ldc (v := (-500000)) hx hb hown (hts (.constant RX9 52 (-500000)) (List.mem_of_getElem? (i := 1) rfl)) dX9_isIn_13 ?_
      refine lv_icmp_lt (tgt := 28) hx hb dX9_isIn_15 (by decide) (fun c_3 => ?_) (fun c_3 => ?_)
      · refine lv_iconst (v := 0) hx hb dX9_isIn_28 (by decide) ?_
        have hP9 := hP.sub (ws' := []) [] rfl
        have hD9 := hD.sub (ws' := []) [] (by decide) rfl
        exact q_retz () hx hb hr (by decide) hlocks hK hP9 hD9 hS (Nat.le_of_ble_eq_true rfl) (Nat.le_of_ble_eq_true rfl) (Or.inr (⟨rfl, (by unfold inB; simp_all)⟩)) dX9_isIn_29
      · refine lv_iload_n hx hb dX9_isIn_18 rfl (lv_at hl 1 rfl) ?_
        refine lv_ldc (v := 500000) hx hb hown (hts (.constant RX9 53 (500000)) (List.mem_of_getElem? (i := 2) rfl)) dX9_isIn_19 ?_
        refine lv_icmp_gt (tgt := 28) hx hb dX9_isIn_21 (by decide) (fun c_4 => ?_) (fun c_4 => ?_)
        · refine lv_iconst (v := 0) hx hb dX9_isIn_28 (by decide) ?_
          have hP9 := hP.sub (ws' := []) [] rfl
          have hD9 := hD.sub (ws' := []) [] (by decide) rfl
          exact q_retz () hx hb hr (by decide) hlocks hK hP9 hD9 hS (Nat.le_of_ble_eq_true rfl) (Nat.le_of_ble_eq_true rfl) (Or.inr (⟨rfl, (by unfold inB; simp_all)⟩)) dX9_isIn_29
        · refine lv_iconst (v := 1) hx hb dX9_isIn_24 (by decide) ?_
          refine lv_goto (tgt := 29) hx hb dX9_isIn_25 (by decide) ?_
          have hP9 := hP.sub (ws' := []) [] rfl
          have hD9 := hD.sub (ws' := []) [] (by decide) rfl
          exact q_retz () hx hb hr (by decide) hlocks hK hP9 hD9 hS (Nat.le_of_ble_eq_true rfl) (Nat.le_of_ble_eq_true rfl) (Or.inl (⟨rfl, (by unfold inB; exact ⟨by assumption, by assumption, by assumption, by assumption⟩)⟩)) dX9_isIn_29
def vsX9_compare : List Cond := .code yX9_compare cX9_compare 4 (some .int) :: ([])
set_option maxHeartbeats 4000000 in
set_option maxRecDepth 100000 in
/-- compare -/
theorem c_X9_compare (l : Launch) (D : va_G) (aI aL aZ : ClassId) (x1 : Int32) (y1 : Int32) (x2 : Int32) (y2 : Int32) (sz : Nat) : MI l D q_cl (q_ty aI aL aZ) yX9_compare vsX9_compare 0 0 0 [.int x1, .int y1, .int x2, .int y2] ([] : va_W) sz (fun (r : Int32) (u : Unit) => r = (cmp4 x1 y1 x2 y2)) (fun (u : Unit) => ([] : va_W)) := by
  refine q_in cX9_compare 4 (some .int) (qQi D q_cl (q_ty aI aL aZ) _ _) (by decide) rfl (Nat.le_of_ble_eq_true rfl) ?_
  intro p e s m args below meth c A ls hat hP hD hS hl
  obtain ⟨hx, hb, hr, hts, hown, hlocks, hml, hin, hK, hN, hA⟩ := hat
  have hown : s.vm.findClass RX9 = some m.cls := hown
  have hl : lv_has ls 4 [(0, .int x1), (1, .int y1), (2, .int x2), (3, .int y2)] := hl
  refine lv_iload_n hx hb dX9_compare_0 rfl (lv_at hl 0 rfl) ?_
  refine lv_iload_n hx hb dX9_compare_1 rfl (lv_at hl 2 rfl) ?_
  refine lv_icmp_eq (tgt := 18) hx hb dX9_compare_2 (by decide) (fun c_1 => ?_) (fun c_1 => ?_)
  · refine lv_iload_n hx hb dX9_compare_18 rfl (lv_at hl 1 rfl) ?_
    refine lv_iload_n hx hb dX9_compare_19 rfl (lv_at hl 3 rfl) ?_
    refine lv_icmp_eq (tgt := 36) hx hb dX9_compare_20 (by decide) (fun c_2 => ?_) (fun c_2 => ?_)
    · refine lv_iconst (v := 0) hx hb dX9_compare_36 (by decide) ?_
      have hP9 := hP.sub (ws' := []) [] rfl
      have hD9 := hD.sub (ws' := []) [] (by decide) rfl
      exact q_reti () hx hb hr hlocks hK hP9 hD9 hS (Nat.le_of_ble_eq_true rfl) (Nat.le_of_ble_eq_true rfl) ((by first | exact cmp_xl (by assumption) (by assumption) | exact cmp_xg (by assumption) (by assumption) | exact cmp_yl (by assumption) (by assumption) (by assumption) | exact cmp_yg (by assumption) (by assumption) (by assumption) | exact cmp_e (by assumption) (by assumption))) dX9_compare_37
    · refine lv_iload_n hx hb dX9_compare_23 rfl (lv_at hl 1 rfl) ?_
      refine lv_iload_n hx hb dX9_compare_24 rfl (lv_at hl 3 rfl) ?_
      refine lv_icmp_ge (tgt := 32) hx hb dX9_compare_25 (by decide) (fun c_3 => ?_) (fun c_3 => ?_)
      · refine lv_iconst (v := 1) hx hb dX9_compare_32 (by decide) ?_
        refine lv_goto (tgt := 37) hx hb dX9_compare_33 (by decide) ?_
        have hP9 := hP.sub (ws' := []) [] rfl
        have hD9 := hD.sub (ws' := []) [] (by decide) rfl
        exact q_reti () hx hb hr hlocks hK hP9 hD9 hS (Nat.le_of_ble_eq_true rfl) (Nat.le_of_ble_eq_true rfl) ((by first | exact cmp_xl (by assumption) (by assumption) | exact cmp_xg (by assumption) (by assumption) | exact cmp_yl (by assumption) (by assumption) (by assumption) | exact cmp_yg (by assumption) (by assumption) (by assumption) | exact cmp_e (by assumption) (by assumption))) dX9_compare_37
      · refine lv_iconst (v := (-1)) hx hb dX9_compare_28 (by decide) ?_
        refine lv_goto (tgt := 37) hx hb dX9_compare_29 (by decide) ?_
        have hP9 := hP.sub (ws' := []) [] rfl
        have hD9 := hD.sub (ws' := []) [] (by decide) rfl
        exact q_reti () hx hb hr hlocks hK hP9 hD9 hS (Nat.le_of_ble_eq_true rfl) (Nat.le_of_ble_eq_true rfl) ((by first | exact cmp_xl (by assumption) (by assumption) | exact cmp_xg (by assumption) (by assumption) | exact cmp_yl (by assumption) (by assumption) (by assumption) | exact cmp_yg (by assumption) (by assumption) (by assumption) | exact cmp_e (by assumption) (by assumption))) dX9_compare_37
  · refine lv_iload_n hx hb dX9_compare_5 rfl (lv_at hl 0 rfl) ?_
    refine lv_iload_n hx hb dX9_compare_6 rfl (lv_at hl 2 rfl) ?_
    refine lv_icmp_ge (tgt := 14) hx hb dX9_compare_7 (by decide) (fun c_4 => ?_) (fun c_4 => ?_)
    · refine lv_iconst (v := 1) hx hb dX9_compare_14 (by decide) ?_
      refine lv_goto (tgt := 37) hx hb dX9_compare_15 (by decide) ?_
      have hP9 := hP.sub (ws' := []) [] rfl
      have hD9 := hD.sub (ws' := []) [] (by decide) rfl
      exact q_reti () hx hb hr hlocks hK hP9 hD9 hS (Nat.le_of_ble_eq_true rfl) (Nat.le_of_ble_eq_true rfl) ((by first | exact cmp_xl (by assumption) (by assumption) | exact cmp_xg (by assumption) (by assumption) | exact cmp_yl (by assumption) (by assumption) (by assumption) | exact cmp_yg (by assumption) (by assumption) (by assumption) | exact cmp_e (by assumption) (by assumption))) dX9_compare_37
    · refine lv_iconst (v := (-1)) hx hb dX9_compare_10 (by decide) ?_
      refine lv_goto (tgt := 37) hx hb dX9_compare_11 (by decide) ?_
      have hP9 := hP.sub (ws' := []) [] rfl
      have hD9 := hD.sub (ws' := []) [] (by decide) rfl
      exact q_reti () hx hb hr hlocks hK hP9 hD9 hS (Nat.le_of_ble_eq_true rfl) (Nat.le_of_ble_eq_true rfl) ((by first | exact cmp_xl (by assumption) (by assumption) | exact cmp_xg (by assumption) (by assumption) | exact cmp_yl (by assumption) (by assumption) (by assumption) | exact cmp_yg (by assumption) (by assumption) (by assumption) | exact cmp_e (by assumption) (by assumption))) dX9_compare_37
def vsX9_from : List Cond := .code yX9_from cX9_from 7 (some .int) :: ([.fieldLink RX9 54 "FaceMapModel" "count" "I"] ++ wsX90)
set_option maxRecDepth 20000 in
theorem n_X9_from_X9 : ∀ w ∈ wsX90, w ∈ vsX9_from := fun _ h => List.mem_cons_of_mem _ (List.mem_append_right _ h)
set_option maxHeartbeats 4000000 in
set_option maxRecDepth 100000 in
/-- from, with no piece -/
theorem c_X9_from (l : Launch) (D : va_G) (aI aL aZ : ClassId) (h0 : Nat) (en : Nat) (nt : Nat) (pl : Nat) (q : Int32) (x1 : Int32) (y1 : Int32) (x2 : Int32) (y2 : Int32) (sz : Nat) : MI l D q_cl (q_ty aI aL aZ) yX9_from vsX9_from 0 0 0 [.ref h0, .int x1, .int y1, .int x2, .int y2] [(h0, .inr (7, [.ref en, .int 0, .ref nt, .ref pl, .int q]))] sz (fun (r : Int32) (u : Unit) => r = 0) (fun (u : Unit) => [(h0, .inr (7, [.ref en, .int 0, .ref nt, .ref pl, .int q]))]) := by
  refine q_in cX9_from 7 (some .int) (qQi D q_cl (q_ty aI aL aZ) _ _) (by decide) rfl (Nat.le_of_ble_eq_true rfl) ?_
  intro p e s m args below meth c A ls hat hP hD hS hl
  obtain ⟨hx, hb, hr, hts, hown, hlocks, hml, hin, hK, hN, hA⟩ := hat
  have hown : s.vm.findClass RX9 = some m.cls := hown
  have hl : lv_has ls 7 [(0, .ref h0), (1, .int x1), (2, .int y1), (3, .int x2), (4, .int y2)] := hl
  refine lv_iconst (v := 0) hx hb dX9_from_0 (by decide) ?_
  refine lv_istore (lv' := [(5, .int 0), (0, .ref h0), (1, .int x1), (2, .int y1), (3, .int x2), (4, .int y2)]) hx hb dX9_from_1 hl (by decide) rfl (fun ls hl => ?_)
  refine lv_iload hx hb dX9_from_3 (lv_at hl 0 rfl) ?_
  refine lv_aload_n hx hb dX9_from_5 rfl (lv_at hl 1 rfl) ?_
  refine va_get (D := D) (ci := 7) (v := .int 0) (C := RX9) (T := TX9) (N := 5) hx hb hts n_X9_from_X9 hown hK hP 0 rfl rfl 1 (by decide) (hts (.fieldLink RX9 54 "FaceMapModel" "count" "I") (List.mem_of_getElem? (i := 1) rfl)) (fun _ h9 => h9) rfl dX9_from_6 ?_
  refine lv_icmp_ge (tgt := 88) hx hb dX9_from_9 (by decide) (fun c_1 => ?_) (fun c_1 => ?_)
  · refine lv_iload hx hb dX9_from_88 (lv_at hl 0 rfl) ?_
    have hP9 := hP.sub (ws' := [(h0, .inr (7, [.ref en, .int 0, .ref nt, .ref pl, .int q]))]) [0] rfl
    have hD9 := hD.sub (ws' := [(h0, .inr (7, [.ref en, .int 0, .ref nt, .ref pl, .int q]))]) [0] (by decide) rfl
    exact q_reti () hx hb hr hlocks hK hP9 hD9 hS (Nat.le_of_ble_eq_true rfl) (Nat.le_of_ble_eq_true rfl) (rfl) dX9_from_90
  · exact absurd c_1 (by decide)
def vsX9_isAt : List Cond := .code yX9_isAt cX9_isAt 6 (some .boolean) :: ([.fieldLink RX9 54 "FaceMapModel" "count" "I"] ++ wsX90)
set_option maxRecDepth 20000 in
theorem n_X9_isAt_X9 : ∀ w ∈ wsX90, w ∈ vsX9_isAt := fun _ h => List.mem_cons_of_mem _ (List.mem_append_right _ h)
set_option maxHeartbeats 4000000 in
set_option maxRecDepth 100000 in
/-- isAt, with no piece -/
theorem c_X9_isAt (l : Launch) (D : va_G) (aI aL aZ : ClassId) (h0 : Nat) (en : Nat) (nt : Nat) (pl : Nat) (q : Int32) (x1 : Int32) (y1 : Int32) (x2 : Int32) (y2 : Int32) (sz : Nat) : MI l D q_cl (q_ty aI aL aZ) yX9_isAt vsX9_isAt 0 0 0 [.ref h0, .int 0, .int x1, .int y1, .int x2, .int y2] [(h0, .inr (7, [.ref en, .int 0, .ref nt, .ref pl, .int q]))] sz (fun (r : Int32) (u : Unit) => r = 0) (fun (u : Unit) => [(h0, .inr (7, [.ref en, .int 0, .ref nt, .ref pl, .int q]))]) := by
  refine q_in cX9_isAt 6 (some .boolean) (qQi D q_cl (q_ty aI aL aZ) _ _) (by decide) rfl (Nat.le_of_ble_eq_true rfl) ?_
  intro p e s m args below meth c A ls hat hP hD hS hl
  obtain ⟨hx, hb, hr, hts, hown, hlocks, hml, hin, hK, hN, hA⟩ := hat
  have hown : s.vm.findClass RX9 = some m.cls := hown
  have hl : lv_has ls 6 [(0, .ref h0), (1, .int 0), (2, .int x1), (3, .int y1), (4, .int x2), (5, .int y2)] := hl
  refine lv_iload_n hx hb dX9_isAt_0 rfl (lv_at hl 1 rfl) ?_
  refine lv_aload_n hx hb dX9_isAt_1 rfl (lv_at hl 0 rfl) ?_
  refine va_get (D := D) (ci := 7) (v := .int 0) (C := RX9) (T := TX9) (N := 5) hx hb hts n_X9_isAt_X9 hown hK hP 0 rfl rfl 1 (by decide) (hts (.fieldLink RX9 54 "FaceMapModel" "count" "I") (List.mem_of_getElem? (i := 1) rfl)) (fun _ h9 => h9) rfl dX9_isAt_2 ?_
  refine lv_icmp_ge (tgt := 68) hx hb dX9_isAt_5 (by decide) (fun c_1 => ?_) (fun c_1 => ?_)
  · refine lv_iconst (v := 0) hx hb dX9_isAt_68 (by decide) ?_
    have hP9 := hP.sub (ws' := [(h0, .inr (7, [.ref en, .int 0, .ref nt, .ref pl, .int q]))]) [0] rfl
    have hD9 := hD.sub (ws' := [(h0, .inr (7, [.ref en, .int 0, .ref nt, .ref pl, .int q]))]) [0] (by decide) rfl
    exact q_retz () hx hb hr (by decide) hlocks hK hP9 hD9 hS (Nat.le_of_ble_eq_true rfl) (Nat.le_of_ble_eq_true rfl) (rfl) dX9_isAt_69
  · exact absurd c_1 (by decide)
def vsX9_join : List Cond := .code yX9_join cX9_join 7 (some .int) :: ([.fieldLink RX9 54 "FaceMapModel" "count" "I", .fieldLink RX9 34 "FaceMapModel" "ends" "[I", .fieldLink RX9 82 "FaceMapModel" "isBuilt" "Z", .methodLink RX9 65 yX9_isIn, .static yX9_isIn, .initialized RX9, .code yX9_isIn cX9_isIn 2 (some .boolean), .constant RX9 52 (-500000), .constant RX9 53 (500000), .methodLink RX9 58 yX9_compare, .static yX9_compare, .code yX9_compare cX9_compare 4 (some .int), .methodLink RX9 72 yX9_from, .instanceMethod yX9_from, .selects RX9 yX9_from yX9_from, .code yX9_from cX9_from 7 (some .int), .methodLink RX9 75 yX9_isAt, .instanceMethod yX9_isAt, .selects RX9 yX9_isAt yX9_isAt, .code yX9_isAt cX9_isAt 6 (some .boolean), .methodLink RX9 69 yX9_join, .instanceMethod yX9_join, .selects RX9 yX9_join yX9_join] ++ wsX90)
set_option maxRecDepth 20000 in
theorem g_X9_join_X9_isIn_65 : GoodIn vsX9_join (va_wsS RX9 65 yX9_isIn vsX9_isIn) := goodIn_r _ [4, 5, 6, 7, 8, 9] rfl (by decide +kernel)
set_option maxRecDepth 20000 in
theorem g_X9_join_X9_compare_58 : GoodIn vsX9_join (va_wsS RX9 58 yX9_compare vsX9_compare) := goodIn_r _ [10, 11, 6, 12] rfl (by decide +kernel)
set_option maxRecDepth 20000 in
theorem g_X9_join_X9_from_72 : GoodIn vsX9_join (wsV RX9 72 RX9 yX9_from vsX9_from) := goodIn_r _ [13, 14, 15, 6, 16, 1, 24, 25, 26, 27, 28] rfl (by decide +kernel)
set_option maxRecDepth 20000 in
theorem g_X9_join_X9_isAt_75 : GoodIn vsX9_join (wsV RX9 75 RX9 yX9_isAt vsX9_isAt) := goodIn_r _ [17, 18, 19, 6, 20, 1, 24, 25, 26, 27, 28] rfl (by decide +kernel)
set_option maxRecDepth 20000 in
theorem n_X9_join_X9 : ∀ w ∈ wsX90, w ∈ vsX9_join := fun _ h => List.mem_cons_of_mem _ (List.mem_append_right _ h)
set_option maxHeartbeats 4000000 in
set_option maxRecDepth 100000 in
/-- join, the lesser place first -/
theorem c_X9_join_low (l : Launch) (D : va_G) (aI aL aZ : ClassId) (h0 : Nat) (en : Nat) (nt : Nat) (pl : Nat) (fe : Nat → Int32) (x1 : Int32) (y1 : Int32) (x2 : Int32) (y2 : Int32) (hc : cmp4 x1 y1 x2 y2 ≤ 0) (sz : Nat) : MI l D q_cl (q_ty aI aL aZ) yX9_join vsX9_join 1 0 0 [.ref h0, .int x1, .int y1, .int x2, .int y2] [(h0, .inr (7, [.ref en, .int 0, .ref nt, .ref pl, .int 0])), (en, .inl (aI, 6000, .inl fe))] sz (fun (r : Int32) (u : Unit) => r = (joi x1 y1 x2 y2)) (fun (u : Unit) => ([] : va_W)) := by
  refine q_in cX9_join 7 (some .int) (qQi D q_cl (q_ty aI aL aZ) _ _) (by decide) rfl (Nat.le_of_ble_eq_true rfl) ?_
  intro p e s m args below meth c A ls hat hP hD hS hl
  obtain ⟨hx, hb, hr, hts, hown, hlocks, hml, hin, hK, hN, hA⟩ := hat
  have hown : s.vm.findClass RX9 = some m.cls := hown
  have hl : lv_has ls 7 [(0, .ref h0), (1, .int x1), (2, .int y1), (3, .int x2), (4, .int y2)] := hl
  refine lv_iload_n hx hb dX9_join_0 rfl (lv_at hl 1 rfl) ?_
  refine lv_iload_n hx hb dX9_join_1 rfl (lv_at hl 2 rfl) ?_
  refine q_i (wr := [(h0, .inr (7, [.ref en, .int 0, .ref nt, .ref pl, .int 0])), (en, .inl (aI, 6000, .inl fe))]) (q_runS (As := [.int x1, .int y1]) (rest := []) ⟨hx, hb, hml, hown, hts⟩ (c_X9_isIn l D aI aL aZ x1 y1 _) (va_cwS 2 hts g_X9_join_X9_isIn_65 rfl rfl rfl (by decide +kernel) ⟨Nat.le_of_ble_eq_true rfl, Nat.le_of_ble_eq_true rfl⟩) hK hN hP hD [] rfl (by decide) rfl hl.1 rfl (Nat.le_of_ble_eq_true rfl) dX9_join_2 ⟨Nat.le_of_ble_eq_true rfl, Nat.le_of_ble_eq_true rfl⟩) hP hD hS hA [] [0, 1] rfl rfl (by decide) (by decide) (fun r_1 u_1 H locs hw hP hD hS => ?_)
  rcases hw with ⟨rfl, f1_0⟩ | ⟨rfl, f1_0⟩
  · have hP : va_P D q_cl [(h0, .inr (7, [.ref en, .int 0, .ref nt, .ref pl, .int 0])), (en, .inl (aI, 6000, .inl fe))] H := hP
    have hD : va_D A [(h0, .inr (7, [.ref en, .int 0, .ref nt, .ref pl, .int 0])), (en, .inl (aI, 6000, .inl fe))] := hD
    refine lv_if_eq (tgt := 28) hx hb dX9_join_5 (by decide) (fun c_2 => ?_) (fun c_2 => ?_)
    · exact absurd c_2 (by decide)
    · refine lv_iload_n hx hb dX9_join_8 rfl (lv_at hl 3 rfl) ?_
      refine lv_iload hx hb dX9_join_9 (lv_at hl 4 rfl) ?_
      refine q_i (wr := [(h0, .inr (7, [.ref en, .int 0, .ref nt, .ref pl, .int 0])), (en, .inl (aI, 6000, .inl fe))]) (q_runS (As := [.int x2, .int y2]) (rest := []) ⟨hx, hb, hml, hown, hts⟩ (c_X9_isIn l D aI aL aZ x2 y2 _) (va_cwS 2 hts g_X9_join_X9_isIn_65 rfl rfl rfl (by decide +kernel) ⟨Nat.le_of_ble_eq_true rfl, Nat.le_of_ble_eq_true rfl⟩) hK hN hP hD [] rfl (by decide) rfl hl.1 rfl (Nat.le_of_ble_eq_true rfl) dX9_join_11 ⟨Nat.le_of_ble_eq_true rfl, Nat.le_of_ble_eq_true rfl⟩) hP hD hS hA [] [0, 1] rfl rfl (by decide) (by decide) (fun r_3 u_3 H locs hw hP hD hS => ?_)
      rcases hw with ⟨rfl, f3_0⟩ | ⟨rfl, f3_0⟩
      · have hP : va_P D q_cl [(h0, .inr (7, [.ref en, .int 0, .ref nt, .ref pl, .int 0])), (en, .inl (aI, 6000, .inl fe))] H := hP
        have hD : va_D A [(h0, .inr (7, [.ref en, .int 0, .ref nt, .ref pl, .int 0])), (en, .inl (aI, 6000, .inl fe))] := hD
        refine lv_if_eq (tgt := 28) hx hb dX9_join_14 (by decide) (fun c_4 => ?_) (fun c_4 => ?_)
        · exact absurd c_4 (by decide)
        · refine lv_iload_n hx hb dX9_join_17 rfl (lv_at hl 1 rfl) ?_
          refine lv_iload_n hx hb dX9_join_18 rfl (lv_at hl 3 rfl) ?_
          refine lv_icmp_ne (tgt := 30) hx hb dX9_join_19 (by decide) (fun c_5 => ?_) (fun c_5 => ?_)
          · refine lv_iload_n hx hb dX9_join_30 rfl (lv_at hl 1 rfl) ?_
            refine lv_iload_n hx hb dX9_join_31 rfl (lv_at hl 2 rfl) ?_
            refine lv_iload_n hx hb dX9_join_32 rfl (lv_at hl 3 rfl) ?_
            refine lv_iload hx hb dX9_join_33 (lv_at hl 4 rfl) ?_
            refine q_i (wr := [(h0, .inr (7, [.ref en, .int 0, .ref nt, .ref pl, .int 0])), (en, .inl (aI, 6000, .inl fe))]) (q_runS (As := [.int x1, .int y1, .int x2, .int y2]) (rest := []) ⟨hx, hb, hml, hown, hts⟩ (c_X9_compare l D aI aL aZ x1 y1 x2 y2 _) (va_cwS 4 hts g_X9_join_X9_compare_58 rfl rfl rfl (by decide +kernel) ⟨Nat.le_of_ble_eq_true rfl, Nat.le_of_ble_eq_true rfl⟩) hK hN hP hD [] rfl (by decide) rfl hl.1 rfl (Nat.le_of_ble_eq_true rfl) dX9_join_35 ⟨Nat.le_of_ble_eq_true rfl, Nat.le_of_ble_eq_true rfl⟩) hP hD hS hA [] [0, 1] rfl rfl (by decide) (by decide) (fun r_6 u_6 H locs hw hP hD hS => ?_)
            subst hw
            have hP : va_P D q_cl [(h0, .inr (7, [.ref en, .int 0, .ref nt, .ref pl, .int 0])), (en, .inl (aI, 6000, .inl fe))] H := hP
            have hD : va_D A [(h0, .inr (7, [.ref en, .int 0, .ref nt, .ref pl, .int 0])), (en, .inl (aI, 6000, .inl fe))] := hD
            refine lv_if_le (tgt := 51) hx hb dX9_join_38 (by decide) (fun c_7 => ?_) (fun c_7 => ?_)
            · refine lv_aload_n hx hb dX9_join_51 rfl (lv_at hl 0 rfl) ?_
              refine lv_iload_n hx hb dX9_join_52 rfl (lv_at hl 1 rfl) ?_
              refine lv_iload_n hx hb dX9_join_53 rfl (lv_at hl 2 rfl) ?_
              refine lv_iload_n hx hb dX9_join_54 rfl (lv_at hl 3 rfl) ?_
              refine lv_iload hx hb dX9_join_55 (lv_at hl 4 rfl) ?_
              refine q_i (wr := [(en, .inl (aI, 6000, .inl fe))]) (q_runV (As := [.int x1, .int y1, .int x2, .int y2]) (rest := []) ⟨hx, hb, hml, hown, hts⟩ (c_X9_from l D aI aL aZ h0 en nt pl 0 x1 y1 x2 y2 _) (cwV 4 hts g_X9_join_X9_from_72 rfl rfl rfl (by decide +kernel) ⟨Nat.le_of_ble_eq_true rfl, Nat.le_of_ble_eq_true rfl⟩) hK hN hP hD [0] rfl (by decide) rfl rfl rfl hl.1 rfl (Nat.le_of_ble_eq_true rfl) dX9_join_57 ⟨Nat.le_of_ble_eq_true rfl, Nat.le_of_ble_eq_true rfl⟩) hP hD hS hA [0] [1] rfl rfl (by decide) (by decide) (fun r_8 u_8 H locs hw hP hD hS => ?_)
              subst hw
              have hP : va_P D q_cl [(en, .inl (aI, 6000, .inl fe)), (h0, .inr (7, [.ref en, .int 0, .ref nt, .ref pl, .int 0]))] H := hP
              have hD : va_D A [(en, .inl (aI, 6000, .inl fe)), (h0, .inr (7, [.ref en, .int 0, .ref nt, .ref pl, .int 0]))] := hD
              refine lv_istore (lv' := [(5, .int 0), (0, .ref h0), (1, .int x1), (2, .int y1), (3, .int x2), (4, .int y2)]) hx hb dX9_join_60 hl (by decide) rfl (fun ls hl => ?_)
              refine lv_aload_n hx hb dX9_join_62 rfl (lv_at hl 1 rfl) ?_
              refine lv_iload hx hb dX9_join_63 (lv_at hl 0 rfl) ?_
              refine lv_iload_n hx hb dX9_join_65 rfl (lv_at hl 2 rfl) ?_
              refine lv_iload_n hx hb dX9_join_66 rfl (lv_at hl 3 rfl) ?_
              refine lv_iload_n hx hb dX9_join_67 rfl (lv_at hl 4 rfl) ?_
              refine lv_iload hx hb dX9_join_68 (lv_at hl 5 rfl) ?_
              refine q_i (wr := [(en, .inl (aI, 6000, .inl fe))]) (q_runV (As := [.int 0, .int x1, .int y1, .int x2, .int y2]) (rest := []) ⟨hx, hb, hml, hown, hts⟩ (c_X9_isAt l D aI aL aZ h0 en nt pl 0 x1 y1 x2 y2 _) (cwV 5 hts g_X9_join_X9_isAt_75 rfl rfl rfl (by decide +kernel) ⟨Nat.le_of_ble_eq_true rfl, Nat.le_of_ble_eq_true rfl⟩) hK hN hP hD [1] rfl (by decide) rfl rfl rfl hl.1 rfl (Nat.le_of_ble_eq_true rfl) dX9_join_70 ⟨Nat.le_of_ble_eq_true rfl, Nat.le_of_ble_eq_true rfl⟩) hP hD hS hA [1] [0] rfl rfl (by decide) (by decide) (fun r_9 u_9 H locs hw hP hD hS => ?_)
              subst hw
              have hP : va_P D q_cl [(en, .inl (aI, 6000, .inl fe)), (h0, .inr (7, [.ref en, .int 0, .ref nt, .ref pl, .int 0]))] H := hP
              have hD : va_D A [(en, .inl (aI, 6000, .inl fe)), (h0, .inr (7, [.ref en, .int 0, .ref nt, .ref pl, .int 0]))] := hD
              refine lv_if_eq (tgt := 79) hx hb dX9_join_73 (by decide) (fun c_10 => ?_) (fun c_10 => ?_)
              · refine lv_iconst (v := 0) hx hb dX9_join_79 (by decide) ?_
                refine lv_istore (lv' := [(6, .int 0), (5, .int 0), (0, .ref h0), (1, .int x1), (2, .int y1), (3, .int x2), (4, .int y2)]) hx hb dX9_join_80 hl (by decide) rfl (fun ls hl => ?_)
                refine lv_iload hx hb dX9_join_82 (lv_at hl 0 rfl) ?_
                refine lv_aload_n hx hb dX9_join_84 rfl (lv_at hl 2 rfl) ?_
                refine va_get (D := D) (ci := 7) (v := .int 0) (C := RX9) (T := TX9) (N := 5) hx hb hts n_X9_join_X9 hown hK hP 1 rfl rfl 1 (by decide) (hts (.fieldLink RX9 54 "FaceMapModel" "count" "I") (List.mem_of_getElem? (i := 1) rfl)) (fun _ h9 => h9) rfl dX9_join_85 ?_
                refine lv_icmp_ge (tgt := 114) hx hb dX9_join_88 (by decide) (fun c_11 => ?_) (fun c_11 => ?_)
                · refine lv_aload_n hx hb dX9_join_114 rfl (lv_at hl 2 rfl) ?_
                  refine va_get (D := D) (ci := 7) (v := .int 0) (C := RX9) (T := TX9) (N := 5) hx hb hts n_X9_join_X9 hown hK hP 1 rfl rfl 1 (by decide) (hts (.fieldLink RX9 54 "FaceMapModel" "count" "I") (List.mem_of_getElem? (i := 1) rfl)) (fun _ h9 => h9) rfl dX9_join_115 ?_
                  refine lv_sipush (v := 1500) hx hb dX9_join_118 (by decide) ?_
                  refine lv_icmp_ne (tgt := 127) hx hb dX9_join_121 (by decide) (fun c_12 => ?_) (fun c_12 => ?_)
                  · refine lv_iconst (v := 4) hx hb dX9_join_127 (by decide) ?_
                    refine lv_aload_n hx hb dX9_join_128 rfl (lv_at hl 2 rfl) ?_
                    refine va_get (D := D) (ci := 7) (v := .int 0) (C := RX9) (T := TX9) (N := 5) hx hb hts n_X9_join_X9 hown hK hP 1 rfl rfl 1 (by decide) (hts (.fieldLink RX9 54 "FaceMapModel" "count" "I") (List.mem_of_getElem? (i := 1) rfl)) (fun _ h9 => h9) rfl dX9_join_129 ?_
                    refine lv_imul hx hb dX9_join_132 ?_
                    refine q_vi (v := 0) (by decide) ?_
                    refine lv_iconst (v := 1) hx hb dX9_join_133 (by decide) ?_
                    refine lv_isub hx hb dX9_join_134 ?_
                    refine q_vi (v := (-1)) (by decide) ?_
                    refine lv_istore (lv' := [(6, .int (-1)), (5, .int 0), (0, .ref h0), (1, .int x1), (2, .int y1), (3, .int x2), (4, .int y2)]) hx hb dX9_join_135 hl (by decide) rfl (fun ls hl => ?_)
                    refine lv_iload hx hb dX9_join_137 (lv_at hl 0 rfl) ?_
                    refine lv_iconst (v := 4) hx hb dX9_join_139 (by decide) ?_
                    refine lv_iload hx hb dX9_join_140 (lv_at hl 1 rfl) ?_
                    refine lv_imul hx hb dX9_join_142 ?_
                    refine q_vi (v := 0) (by decide) ?_
                    refine lv_icmp_lt (tgt := 168) hx hb dX9_join_143 (by decide) (fun c_13 => ?_) (fun c_13 => ?_)
                    · refine lv_aload_n hx hb dX9_join_168 rfl (lv_at hl 2 rfl) ?_
                      refine va_get (D := D) (ci := 7) (v := .ref en) (C := RX9) (T := TX9) (N := 5) hx hb hts n_X9_join_X9 hown hK hP 1 rfl rfl 0 (by decide) (hts (.fieldLink RX9 34 "FaceMapModel" "ends" "[I") (List.mem_of_getElem? (i := 2) rfl)) (fun _ h9 => h9) rfl dX9_join_169 ?_
                      refine lv_iconst (v := 4) hx hb dX9_join_172 (by decide) ?_
                      refine lv_iload hx hb dX9_join_173 (lv_at hl 1 rfl) ?_
                      refine lv_imul hx hb dX9_join_175 ?_
                      refine q_vi (v := 0) (by decide) ?_
                      refine lv_iload_n hx hb dX9_join_176 rfl (lv_at hl 3 rfl) ?_
                      refine va_iast hx hb hK hP hD hS 0 0 rfl rfl (q_ix 0 (by decide) (by decide) (by decide)) dX9_join_177 (fun H locs hP hD hS => ?_)
                      have hP : va_P D q_cl [(en, .inl (aI, 6000, .inl (upd fe 0 x1))), (h0, .inr (7, [.ref en, .int 0, .ref nt, .ref pl, .int 0]))] H := hP
                      have hD : va_D A [(en, .inl (aI, 6000, .inl (upd fe 0 x1))), (h0, .inr (7, [.ref en, .int 0, .ref nt, .ref pl, .int 0]))] := hD
                      refine lv_aload_n hx hb dX9_join_178 rfl (lv_at hl 2 rfl) ?_
                      refine va_get (D := D) (ci := 7) (v := .ref en) (C := RX9) (T := TX9) (N := 5) hx hb hts n_X9_join_X9 hown hK hP 1 rfl rfl 0 (by decide) (hts (.fieldLink RX9 34 "FaceMapModel" "ends" "[I") (List.mem_of_getElem? (i := 2) rfl)) (fun _ h9 => h9) rfl dX9_join_179 ?_
                      refine lv_iconst (v := 4) hx hb dX9_join_182 (by decide) ?_
                      refine lv_iload hx hb dX9_join_183 (lv_at hl 1 rfl) ?_
                      refine lv_imul hx hb dX9_join_185 ?_
                      refine q_vi (v := 0) (by decide) ?_
                      refine lv_iconst (v := 1) hx hb dX9_join_186 (by decide) ?_
                      refine lv_iadd hx hb dX9_join_187 ?_
                      refine q_vi (v := 1) (by decide) ?_
                      refine lv_iload_n hx hb dX9_join_188 rfl (lv_at hl 4 rfl) ?_
                      refine va_iast hx hb hK hP hD hS 0 0 rfl rfl (q_ix 1 (by decide) (by decide) (by decide)) dX9_join_189 (fun H locs hP hD hS => ?_)
                      have hP : va_P D q_cl [(en, .inl (aI, 6000, .inl (upd (upd fe 0 x1) 1 y1))), (h0, .inr (7, [.ref en, .int 0, .ref nt, .ref pl, .int 0]))] H := hP
                      have hD : va_D A [(en, .inl (aI, 6000, .inl (upd (upd fe 0 x1) 1 y1))), (h0, .inr (7, [.ref en, .int 0, .ref nt, .ref pl, .int 0]))] := hD
                      refine lv_aload_n hx hb dX9_join_190 rfl (lv_at hl 2 rfl) ?_
                      refine va_get (D := D) (ci := 7) (v := .ref en) (C := RX9) (T := TX9) (N := 5) hx hb hts n_X9_join_X9 hown hK hP 1 rfl rfl 0 (by decide) (hts (.fieldLink RX9 34 "FaceMapModel" "ends" "[I") (List.mem_of_getElem? (i := 2) rfl)) (fun _ h9 => h9) rfl dX9_join_191 ?_
                      refine lv_iconst (v := 4) hx hb dX9_join_194 (by decide) ?_
                      refine lv_iload hx hb dX9_join_195 (lv_at hl 1 rfl) ?_
                      refine lv_imul hx hb dX9_join_197 ?_
                      refine q_vi (v := 0) (by decide) ?_
                      refine lv_iconst (v := 2) hx hb dX9_join_198 (by decide) ?_
                      refine lv_iadd hx hb dX9_join_199 ?_
                      refine q_vi (v := 2) (by decide) ?_
                      refine lv_iload_n hx hb dX9_join_200 rfl (lv_at hl 5 rfl) ?_
                      refine va_iast hx hb hK hP hD hS 0 0 rfl rfl (q_ix 2 (by decide) (by decide) (by decide)) dX9_join_201 (fun H locs hP hD hS => ?_)
                      have hP : va_P D q_cl [(en, .inl (aI, 6000, .inl (upd (upd (upd fe 0 x1) 1 y1) 2 x2))), (h0, .inr (7, [.ref en, .int 0, .ref nt, .ref pl, .int 0]))] H := hP
                      have hD : va_D A [(en, .inl (aI, 6000, .inl (upd (upd (upd fe 0 x1) 1 y1) 2 x2))), (h0, .inr (7, [.ref en, .int 0, .ref nt, .ref pl, .int 0]))] := hD
                      refine lv_aload_n hx hb dX9_join_202 rfl (lv_at hl 2 rfl) ?_
                      refine va_get (D := D) (ci := 7) (v := .ref en) (C := RX9) (T := TX9) (N := 5) hx hb hts n_X9_join_X9 hown hK hP 1 rfl rfl 0 (by decide) (hts (.fieldLink RX9 34 "FaceMapModel" "ends" "[I") (List.mem_of_getElem? (i := 2) rfl)) (fun _ h9 => h9) rfl dX9_join_203 ?_
                      refine lv_iconst (v := 4) hx hb dX9_join_206 (by decide) ?_
                      refine lv_iload hx hb dX9_join_207 (lv_at hl 1 rfl) ?_
                      refine lv_imul hx hb dX9_join_209 ?_
                      refine q_vi (v := 0) (by decide) ?_
                      refine lv_iconst (v := 3) hx hb dX9_join_210 (by decide) ?_
                      refine lv_iadd hx hb dX9_join_211 ?_
                      refine q_vi (v := 3) (by decide) ?_
                      refine lv_iload hx hb dX9_join_212 (lv_at hl 6 rfl) ?_
                      refine va_iast hx hb hK hP hD hS 0 0 rfl rfl (q_ix 3 (by decide) (by decide) (by decide)) dX9_join_214 (fun H locs hP hD hS => ?_)
                      have hP : va_P D q_cl [(en, .inl (aI, 6000, .inl (upd (upd (upd (upd fe 0 x1) 1 y1) 2 x2) 3 y2))), (h0, .inr (7, [.ref en, .int 0, .ref nt, .ref pl, .int 0]))] H := hP
                      have hD : va_D A [(en, .inl (aI, 6000, .inl (upd (upd (upd (upd fe 0 x1) 1 y1) 2 x2) 3 y2))), (h0, .inr (7, [.ref en, .int 0, .ref nt, .ref pl, .int 0]))] := hD
                      refine lv_aload_n hx hb dX9_join_215 rfl (lv_at hl 2 rfl) ?_
                      refine lv_dup hx hb dX9_join_216 rfl ?_
                      refine va_get (D := D) (ci := 7) (v := .int 0) (C := RX9) (T := TX9) (N := 5) hx hb hts n_X9_join_X9 hown hK hP 1 rfl rfl 1 (by decide) (hts (.fieldLink RX9 54 "FaceMapModel" "count" "I") (List.mem_of_getElem? (i := 1) rfl)) (fun _ h9 => h9) rfl dX9_join_217 ?_
                      refine lv_iconst (v := 1) hx hb dX9_join_220 (by decide) ?_
                      refine lv_iadd hx hb dX9_join_221 ?_
                      refine q_vi (v := 1) (by decide) ?_
                      refine va_put (D := D) (ci := 7) (v := .int 1) (ty := .int) (C := RX9) (T := TX9) (N := 5) hx hb hts n_X9_join_X9 tyX9 tyX9_ok nmX9 hown hK hP hD hS 1 rfl rfl 1 (by decide) (hts (.fieldLink RX9 54 "FaceMapModel" "count" "I") (List.mem_of_getElem? (i := 1) rfl)) (fun _ h9 => h9) rfl (by decide +kernel) rfl rfl (Nat.le_of_ble_eq_true rfl) dX9_join_222 (fun H locs hP hD hS => ?_)
                      have hP : va_P D q_cl [(en, .inl (aI, 6000, .inl (upd (upd (upd (upd fe 0 x1) 1 y1) 2 x2) 3 y2))), (h0, .inr (7, [.ref en, .int 1, .ref nt, .ref pl, .int 0]))] H := hP
                      have hD : va_D A [(en, .inl (aI, 6000, .inl (upd (upd (upd (upd fe 0 x1) 1 y1) 2 x2) 3 y2))), (h0, .inr (7, [.ref en, .int 1, .ref nt, .ref pl, .int 0]))] := hD
                      refine lv_aload_n hx hb dX9_join_225 rfl (lv_at hl 2 rfl) ?_
                      refine lv_iconst (v := 0) hx hb dX9_join_226 (by decide) ?_
                      refine va_put (D := D) (ci := 7) (v := .int 0) (ty := .boolean) (C := RX9) (T := TX9) (N := 5) hx hb hts n_X9_join_X9 tyX9 tyX9_ok nmX9 hown hK hP hD hS 1 rfl rfl 4 (by decide) (hts (.fieldLink RX9 82 "FaceMapModel" "isBuilt" "Z") (List.mem_of_getElem? (i := 3) rfl)) (fun _ h9 => h9) rfl (by decide +kernel) rfl rfl (Nat.le_of_ble_eq_true rfl) dX9_join_227 (fun H locs hP hD hS => ?_)
                      have hP : va_P D q_cl [(en, .inl (aI, 6000, .inl (upd (upd (upd (upd fe 0 x1) 1 y1) 2 x2) 3 y2))), (h0, .inr (7, [.ref en, .int 1, .ref nt, .ref pl, .int 0]))] H := hP
                      have hD : va_D A [(en, .inl (aI, 6000, .inl (upd (upd (upd (upd fe 0 x1) 1 y1) 2 x2) 3 y2))), (h0, .inr (7, [.ref en, .int 1, .ref nt, .ref pl, .int 0]))] := hD
                      refine lv_aload_n hx hb dX9_join_230 rfl (lv_at hl 2 rfl) ?_
                      refine va_get (D := D) (ci := 7) (v := .int 1) (C := RX9) (T := TX9) (N := 5) hx hb hts n_X9_join_X9 hown hK hP 1 rfl rfl 1 (by decide) (hts (.fieldLink RX9 54 "FaceMapModel" "count" "I") (List.mem_of_getElem? (i := 1) rfl)) (fun _ h9 => h9) rfl dX9_join_231 ?_
                      have hP9 := hP.sub (ws' := []) [] rfl
                      have hD9 := hD.sub (ws' := []) [] (by decide) rfl
                      exact q_reti () hx hb hr hlocks hK hP9 hD9 hS (Nat.le_of_ble_eq_true rfl) (Nat.le_of_ble_eq_true rfl) ((by first | exact joi_n1 (by assumption) | exact joi_n2 (by assumption) | exact joi_e (by assumption) (by assumption) | exact joi_x (by assumption) (by assumption) (by assumption) | exact joi_y (by assumption) (by assumption) (by assumption) | exact joi_c _ _ _ _)) dX9_join_234
                    · exact absurd c_13 (by decide)
                  · exact absurd c_12 (by decide)
                · exact absurd c_11 (by decide)
              · exact absurd c_10 (by decide)
            · exact absurd hc c_7
          · refine lv_iload_n hx hb dX9_join_22 rfl (lv_at hl 2 rfl) ?_
            refine lv_iload hx hb dX9_join_23 (lv_at hl 4 rfl) ?_
            refine lv_icmp_ne (tgt := 30) hx hb dX9_join_25 (by decide) (fun c_14 => ?_) (fun c_14 => ?_)
            · refine lv_iload_n hx hb dX9_join_30 rfl (lv_at hl 1 rfl) ?_
              refine lv_iload_n hx hb dX9_join_31 rfl (lv_at hl 2 rfl) ?_
              refine lv_iload_n hx hb dX9_join_32 rfl (lv_at hl 3 rfl) ?_
              refine lv_iload hx hb dX9_join_33 (lv_at hl 4 rfl) ?_
              refine q_i (wr := [(h0, .inr (7, [.ref en, .int 0, .ref nt, .ref pl, .int 0])), (en, .inl (aI, 6000, .inl fe))]) (q_runS (As := [.int x1, .int y1, .int x2, .int y2]) (rest := []) ⟨hx, hb, hml, hown, hts⟩ (c_X9_compare l D aI aL aZ x1 y1 x2 y2 _) (va_cwS 4 hts g_X9_join_X9_compare_58 rfl rfl rfl (by decide +kernel) ⟨Nat.le_of_ble_eq_true rfl, Nat.le_of_ble_eq_true rfl⟩) hK hN hP hD [] rfl (by decide) rfl hl.1 rfl (Nat.le_of_ble_eq_true rfl) dX9_join_35 ⟨Nat.le_of_ble_eq_true rfl, Nat.le_of_ble_eq_true rfl⟩) hP hD hS hA [] [0, 1] rfl rfl (by decide) (by decide) (fun r_15 u_15 H locs hw hP hD hS => ?_)
              subst hw
              have hP : va_P D q_cl [(h0, .inr (7, [.ref en, .int 0, .ref nt, .ref pl, .int 0])), (en, .inl (aI, 6000, .inl fe))] H := hP
              have hD : va_D A [(h0, .inr (7, [.ref en, .int 0, .ref nt, .ref pl, .int 0])), (en, .inl (aI, 6000, .inl fe))] := hD
              refine lv_if_le (tgt := 51) hx hb dX9_join_38 (by decide) (fun c_16 => ?_) (fun c_16 => ?_)
              · refine lv_aload_n hx hb dX9_join_51 rfl (lv_at hl 0 rfl) ?_
                refine lv_iload_n hx hb dX9_join_52 rfl (lv_at hl 1 rfl) ?_
                refine lv_iload_n hx hb dX9_join_53 rfl (lv_at hl 2 rfl) ?_
                refine lv_iload_n hx hb dX9_join_54 rfl (lv_at hl 3 rfl) ?_
                refine lv_iload hx hb dX9_join_55 (lv_at hl 4 rfl) ?_
                refine q_i (wr := [(en, .inl (aI, 6000, .inl fe))]) (q_runV (As := [.int x1, .int y1, .int x2, .int y2]) (rest := []) ⟨hx, hb, hml, hown, hts⟩ (c_X9_from l D aI aL aZ h0 en nt pl 0 x1 y1 x2 y2 _) (cwV 4 hts g_X9_join_X9_from_72 rfl rfl rfl (by decide +kernel) ⟨Nat.le_of_ble_eq_true rfl, Nat.le_of_ble_eq_true rfl⟩) hK hN hP hD [0] rfl (by decide) rfl rfl rfl hl.1 rfl (Nat.le_of_ble_eq_true rfl) dX9_join_57 ⟨Nat.le_of_ble_eq_true rfl, Nat.le_of_ble_eq_true rfl⟩) hP hD hS hA [0] [1] rfl rfl (by decide) (by decide) (fun r_17 u_17 H locs hw hP hD hS => ?_)
                subst hw
                have hP : va_P D q_cl [(en, .inl (aI, 6000, .inl fe)), (h0, .inr (7, [.ref en, .int 0, .ref nt, .ref pl, .int 0]))] H := hP
                have hD : va_D A [(en, .inl (aI, 6000, .inl fe)), (h0, .inr (7, [.ref en, .int 0, .ref nt, .ref pl, .int 0]))] := hD
                refine lv_istore (lv' := [(5, .int 0), (0, .ref h0), (1, .int x1), (2, .int y1), (3, .int x2), (4, .int y2)]) hx hb dX9_join_60 hl (by decide) rfl (fun ls hl => ?_)
                refine lv_aload_n hx hb dX9_join_62 rfl (lv_at hl 1 rfl) ?_
                refine lv_iload hx hb dX9_join_63 (lv_at hl 0 rfl) ?_
                refine lv_iload_n hx hb dX9_join_65 rfl (lv_at hl 2 rfl) ?_
                refine lv_iload_n hx hb dX9_join_66 rfl (lv_at hl 3 rfl) ?_
                refine lv_iload_n hx hb dX9_join_67 rfl (lv_at hl 4 rfl) ?_
                refine lv_iload hx hb dX9_join_68 (lv_at hl 5 rfl) ?_
                refine q_i (wr := [(en, .inl (aI, 6000, .inl fe))]) (q_runV (As := [.int 0, .int x1, .int y1, .int x2, .int y2]) (rest := []) ⟨hx, hb, hml, hown, hts⟩ (c_X9_isAt l D aI aL aZ h0 en nt pl 0 x1 y1 x2 y2 _) (cwV 5 hts g_X9_join_X9_isAt_75 rfl rfl rfl (by decide +kernel) ⟨Nat.le_of_ble_eq_true rfl, Nat.le_of_ble_eq_true rfl⟩) hK hN hP hD [1] rfl (by decide) rfl rfl rfl hl.1 rfl (Nat.le_of_ble_eq_true rfl) dX9_join_70 ⟨Nat.le_of_ble_eq_true rfl, Nat.le_of_ble_eq_true rfl⟩) hP hD hS hA [1] [0] rfl rfl (by decide) (by decide) (fun r_18 u_18 H locs hw hP hD hS => ?_)
                subst hw
                have hP : va_P D q_cl [(en, .inl (aI, 6000, .inl fe)), (h0, .inr (7, [.ref en, .int 0, .ref nt, .ref pl, .int 0]))] H := hP
                have hD : va_D A [(en, .inl (aI, 6000, .inl fe)), (h0, .inr (7, [.ref en, .int 0, .ref nt, .ref pl, .int 0]))] := hD
                refine lv_if_eq (tgt := 79) hx hb dX9_join_73 (by decide) (fun c_19 => ?_) (fun c_19 => ?_)
                · refine lv_iconst (v := 0) hx hb dX9_join_79 (by decide) ?_
                  refine lv_istore (lv' := [(6, .int 0), (5, .int 0), (0, .ref h0), (1, .int x1), (2, .int y1), (3, .int x2), (4, .int y2)]) hx hb dX9_join_80 hl (by decide) rfl (fun ls hl => ?_)
                  refine lv_iload hx hb dX9_join_82 (lv_at hl 0 rfl) ?_
                  refine lv_aload_n hx hb dX9_join_84 rfl (lv_at hl 2 rfl) ?_
                  refine va_get (D := D) (ci := 7) (v := .int 0) (C := RX9) (T := TX9) (N := 5) hx hb hts n_X9_join_X9 hown hK hP 1 rfl rfl 1 (by decide) (hts (.fieldLink RX9 54 "FaceMapModel" "count" "I") (List.mem_of_getElem? (i := 1) rfl)) (fun _ h9 => h9) rfl dX9_join_85 ?_
                  refine lv_icmp_ge (tgt := 114) hx hb dX9_join_88 (by decide) (fun c_20 => ?_) (fun c_20 => ?_)
                  · refine lv_aload_n hx hb dX9_join_114 rfl (lv_at hl 2 rfl) ?_
                    refine va_get (D := D) (ci := 7) (v := .int 0) (C := RX9) (T := TX9) (N := 5) hx hb hts n_X9_join_X9 hown hK hP 1 rfl rfl 1 (by decide) (hts (.fieldLink RX9 54 "FaceMapModel" "count" "I") (List.mem_of_getElem? (i := 1) rfl)) (fun _ h9 => h9) rfl dX9_join_115 ?_
                    refine lv_sipush (v := 1500) hx hb dX9_join_118 (by decide) ?_
                    refine lv_icmp_ne (tgt := 127) hx hb dX9_join_121 (by decide) (fun c_21 => ?_) (fun c_21 => ?_)
                    · refine lv_iconst (v := 4) hx hb dX9_join_127 (by decide) ?_
                      refine lv_aload_n hx hb dX9_join_128 rfl (lv_at hl 2 rfl) ?_
                      refine va_get (D := D) (ci := 7) (v := .int 0) (C := RX9) (T := TX9) (N := 5) hx hb hts n_X9_join_X9 hown hK hP 1 rfl rfl 1 (by decide) (hts (.fieldLink RX9 54 "FaceMapModel" "count" "I") (List.mem_of_getElem? (i := 1) rfl)) (fun _ h9 => h9) rfl dX9_join_129 ?_
                      refine lv_imul hx hb dX9_join_132 ?_
                      refine q_vi (v := 0) (by decide) ?_
                      refine lv_iconst (v := 1) hx hb dX9_join_133 (by decide) ?_
                      refine lv_isub hx hb dX9_join_134 ?_
                      refine q_vi (v := (-1)) (by decide) ?_
                      refine lv_istore (lv' := [(6, .int (-1)), (5, .int 0), (0, .ref h0), (1, .int x1), (2, .int y1), (3, .int x2), (4, .int y2)]) hx hb dX9_join_135 hl (by decide) rfl (fun ls hl => ?_)
                      refine lv_iload hx hb dX9_join_137 (lv_at hl 0 rfl) ?_
                      refine lv_iconst (v := 4) hx hb dX9_join_139 (by decide) ?_
                      refine lv_iload hx hb dX9_join_140 (lv_at hl 1 rfl) ?_
                      refine lv_imul hx hb dX9_join_142 ?_
                      refine q_vi (v := 0) (by decide) ?_
                      refine lv_icmp_lt (tgt := 168) hx hb dX9_join_143 (by decide) (fun c_22 => ?_) (fun c_22 => ?_)
                      · refine lv_aload_n hx hb dX9_join_168 rfl (lv_at hl 2 rfl) ?_
                        refine va_get (D := D) (ci := 7) (v := .ref en) (C := RX9) (T := TX9) (N := 5) hx hb hts n_X9_join_X9 hown hK hP 1 rfl rfl 0 (by decide) (hts (.fieldLink RX9 34 "FaceMapModel" "ends" "[I") (List.mem_of_getElem? (i := 2) rfl)) (fun _ h9 => h9) rfl dX9_join_169 ?_
                        refine lv_iconst (v := 4) hx hb dX9_join_172 (by decide) ?_
                        refine lv_iload hx hb dX9_join_173 (lv_at hl 1 rfl) ?_
                        refine lv_imul hx hb dX9_join_175 ?_
                        refine q_vi (v := 0) (by decide) ?_
                        refine lv_iload_n hx hb dX9_join_176 rfl (lv_at hl 3 rfl) ?_
                        refine va_iast hx hb hK hP hD hS 0 0 rfl rfl (q_ix 0 (by decide) (by decide) (by decide)) dX9_join_177 (fun H locs hP hD hS => ?_)
                        have hP : va_P D q_cl [(en, .inl (aI, 6000, .inl (upd fe 0 x1))), (h0, .inr (7, [.ref en, .int 0, .ref nt, .ref pl, .int 0]))] H := hP
                        have hD : va_D A [(en, .inl (aI, 6000, .inl (upd fe 0 x1))), (h0, .inr (7, [.ref en, .int 0, .ref nt, .ref pl, .int 0]))] := hD
                        refine lv_aload_n hx hb dX9_join_178 rfl (lv_at hl 2 rfl) ?_
                        refine va_get (D := D) (ci := 7) (v := .ref en) (C := RX9) (T := TX9) (N := 5) hx hb hts n_X9_join_X9 hown hK hP 1 rfl rfl 0 (by decide) (hts (.fieldLink RX9 34 "FaceMapModel" "ends" "[I") (List.mem_of_getElem? (i := 2) rfl)) (fun _ h9 => h9) rfl dX9_join_179 ?_
                        refine lv_iconst (v := 4) hx hb dX9_join_182 (by decide) ?_
                        refine lv_iload hx hb dX9_join_183 (lv_at hl 1 rfl) ?_
                        refine lv_imul hx hb dX9_join_185 ?_
                        refine q_vi (v := 0) (by decide) ?_
                        refine lv_iconst (v := 1) hx hb dX9_join_186 (by decide) ?_
                        refine lv_iadd hx hb dX9_join_187 ?_
                        refine q_vi (v := 1) (by decide) ?_
                        refine lv_iload_n hx hb dX9_join_188 rfl (lv_at hl 4 rfl) ?_
                        refine va_iast hx hb hK hP hD hS 0 0 rfl rfl (q_ix 1 (by decide) (by decide) (by decide)) dX9_join_189 (fun H locs hP hD hS => ?_)
                        have hP : va_P D q_cl [(en, .inl (aI, 6000, .inl (upd (upd fe 0 x1) 1 y1))), (h0, .inr (7, [.ref en, .int 0, .ref nt, .ref pl, .int 0]))] H := hP
                        have hD : va_D A [(en, .inl (aI, 6000, .inl (upd (upd fe 0 x1) 1 y1))), (h0, .inr (7, [.ref en, .int 0, .ref nt, .ref pl, .int 0]))] := hD
                        refine lv_aload_n hx hb dX9_join_190 rfl (lv_at hl 2 rfl) ?_
                        refine va_get (D := D) (ci := 7) (v := .ref en) (C := RX9) (T := TX9) (N := 5) hx hb hts n_X9_join_X9 hown hK hP 1 rfl rfl 0 (by decide) (hts (.fieldLink RX9 34 "FaceMapModel" "ends" "[I") (List.mem_of_getElem? (i := 2) rfl)) (fun _ h9 => h9) rfl dX9_join_191 ?_
                        refine lv_iconst (v := 4) hx hb dX9_join_194 (by decide) ?_
                        refine lv_iload hx hb dX9_join_195 (lv_at hl 1 rfl) ?_
                        refine lv_imul hx hb dX9_join_197 ?_
                        refine q_vi (v := 0) (by decide) ?_
                        refine lv_iconst (v := 2) hx hb dX9_join_198 (by decide) ?_
                        refine lv_iadd hx hb dX9_join_199 ?_
                        refine q_vi (v := 2) (by decide) ?_
                        refine lv_iload_n hx hb dX9_join_200 rfl (lv_at hl 5 rfl) ?_
                        refine va_iast hx hb hK hP hD hS 0 0 rfl rfl (q_ix 2 (by decide) (by decide) (by decide)) dX9_join_201 (fun H locs hP hD hS => ?_)
                        have hP : va_P D q_cl [(en, .inl (aI, 6000, .inl (upd (upd (upd fe 0 x1) 1 y1) 2 x2))), (h0, .inr (7, [.ref en, .int 0, .ref nt, .ref pl, .int 0]))] H := hP
                        have hD : va_D A [(en, .inl (aI, 6000, .inl (upd (upd (upd fe 0 x1) 1 y1) 2 x2))), (h0, .inr (7, [.ref en, .int 0, .ref nt, .ref pl, .int 0]))] := hD
                        refine lv_aload_n hx hb dX9_join_202 rfl (lv_at hl 2 rfl) ?_
                        refine va_get (D := D) (ci := 7) (v := .ref en) (C := RX9) (T := TX9) (N := 5) hx hb hts n_X9_join_X9 hown hK hP 1 rfl rfl 0 (by decide) (hts (.fieldLink RX9 34 "FaceMapModel" "ends" "[I") (List.mem_of_getElem? (i := 2) rfl)) (fun _ h9 => h9) rfl dX9_join_203 ?_
                        refine lv_iconst (v := 4) hx hb dX9_join_206 (by decide) ?_
                        refine lv_iload hx hb dX9_join_207 (lv_at hl 1 rfl) ?_
                        refine lv_imul hx hb dX9_join_209 ?_
                        refine q_vi (v := 0) (by decide) ?_
                        refine lv_iconst (v := 3) hx hb dX9_join_210 (by decide) ?_
                        refine lv_iadd hx hb dX9_join_211 ?_
                        refine q_vi (v := 3) (by decide) ?_
                        refine lv_iload hx hb dX9_join_212 (lv_at hl 6 rfl) ?_
                        refine va_iast hx hb hK hP hD hS 0 0 rfl rfl (q_ix 3 (by decide) (by decide) (by decide)) dX9_join_214 (fun H locs hP hD hS => ?_)
                        have hP : va_P D q_cl [(en, .inl (aI, 6000, .inl (upd (upd (upd (upd fe 0 x1) 1 y1) 2 x2) 3 y2))), (h0, .inr (7, [.ref en, .int 0, .ref nt, .ref pl, .int 0]))] H := hP
                        have hD : va_D A [(en, .inl (aI, 6000, .inl (upd (upd (upd (upd fe 0 x1) 1 y1) 2 x2) 3 y2))), (h0, .inr (7, [.ref en, .int 0, .ref nt, .ref pl, .int 0]))] := hD
                        refine lv_aload_n hx hb dX9_join_215 rfl (lv_at hl 2 rfl) ?_
                        refine lv_dup hx hb dX9_join_216 rfl ?_
                        refine va_get (D := D) (ci := 7) (v := .int 0) (C := RX9) (T := TX9) (N := 5) hx hb hts n_X9_join_X9 hown hK hP 1 rfl rfl 1 (by decide) (hts (.fieldLink RX9 54 "FaceMapModel" "count" "I") (List.mem_of_getElem? (i := 1) rfl)) (fun _ h9 => h9) rfl dX9_join_217 ?_
                        refine lv_iconst (v := 1) hx hb dX9_join_220 (by decide) ?_
                        refine lv_iadd hx hb dX9_join_221 ?_
                        refine q_vi (v := 1) (by decide) ?_
                        refine va_put (D := D) (ci := 7) (v := .int 1) (ty := .int) (C := RX9) (T := TX9) (N := 5) hx hb hts n_X9_join_X9 tyX9 tyX9_ok nmX9 hown hK hP hD hS 1 rfl rfl 1 (by decide) (hts (.fieldLink RX9 54 "FaceMapModel" "count" "I") (List.mem_of_getElem? (i := 1) rfl)) (fun _ h9 => h9) rfl (by decide +kernel) rfl rfl (Nat.le_of_ble_eq_true rfl) dX9_join_222 (fun H locs hP hD hS => ?_)
                        have hP : va_P D q_cl [(en, .inl (aI, 6000, .inl (upd (upd (upd (upd fe 0 x1) 1 y1) 2 x2) 3 y2))), (h0, .inr (7, [.ref en, .int 1, .ref nt, .ref pl, .int 0]))] H := hP
                        have hD : va_D A [(en, .inl (aI, 6000, .inl (upd (upd (upd (upd fe 0 x1) 1 y1) 2 x2) 3 y2))), (h0, .inr (7, [.ref en, .int 1, .ref nt, .ref pl, .int 0]))] := hD
                        refine lv_aload_n hx hb dX9_join_225 rfl (lv_at hl 2 rfl) ?_
                        refine lv_iconst (v := 0) hx hb dX9_join_226 (by decide) ?_
                        refine va_put (D := D) (ci := 7) (v := .int 0) (ty := .boolean) (C := RX9) (T := TX9) (N := 5) hx hb hts n_X9_join_X9 tyX9 tyX9_ok nmX9 hown hK hP hD hS 1 rfl rfl 4 (by decide) (hts (.fieldLink RX9 82 "FaceMapModel" "isBuilt" "Z") (List.mem_of_getElem? (i := 3) rfl)) (fun _ h9 => h9) rfl (by decide +kernel) rfl rfl (Nat.le_of_ble_eq_true rfl) dX9_join_227 (fun H locs hP hD hS => ?_)
                        have hP : va_P D q_cl [(en, .inl (aI, 6000, .inl (upd (upd (upd (upd fe 0 x1) 1 y1) 2 x2) 3 y2))), (h0, .inr (7, [.ref en, .int 1, .ref nt, .ref pl, .int 0]))] H := hP
                        have hD : va_D A [(en, .inl (aI, 6000, .inl (upd (upd (upd (upd fe 0 x1) 1 y1) 2 x2) 3 y2))), (h0, .inr (7, [.ref en, .int 1, .ref nt, .ref pl, .int 0]))] := hD
                        refine lv_aload_n hx hb dX9_join_230 rfl (lv_at hl 2 rfl) ?_
                        refine va_get (D := D) (ci := 7) (v := .int 1) (C := RX9) (T := TX9) (N := 5) hx hb hts n_X9_join_X9 hown hK hP 1 rfl rfl 1 (by decide) (hts (.fieldLink RX9 54 "FaceMapModel" "count" "I") (List.mem_of_getElem? (i := 1) rfl)) (fun _ h9 => h9) rfl dX9_join_231 ?_
                        have hP9 := hP.sub (ws' := []) [] rfl
                        have hD9 := hD.sub (ws' := []) [] (by decide) rfl
                        exact q_reti () hx hb hr hlocks hK hP9 hD9 hS (Nat.le_of_ble_eq_true rfl) (Nat.le_of_ble_eq_true rfl) ((by first | exact joi_n1 (by assumption) | exact joi_n2 (by assumption) | exact joi_e (by assumption) (by assumption) | exact joi_x (by assumption) (by assumption) (by assumption) | exact joi_y (by assumption) (by assumption) (by assumption) | exact joi_c _ _ _ _)) dX9_join_234
                      · exact absurd c_22 (by decide)
                    · exact absurd c_21 (by decide)
                  · exact absurd c_20 (by decide)
                · exact absurd c_19 (by decide)
              · exact absurd hc c_16
            · refine lv_iconst (v := (-1)) hx hb dX9_join_28 (by decide) ?_
              have hP9 := hP.sub (ws' := []) [] rfl
              have hD9 := hD.sub (ws' := []) [] (by decide) rfl
              exact q_reti () hx hb hr hlocks hK hP9 hD9 hS (Nat.le_of_ble_eq_true rfl) (Nat.le_of_ble_eq_true rfl) ((by first | exact joi_n1 (by assumption) | exact joi_n2 (by assumption) | exact joi_e (by assumption) (by assumption) | exact joi_x (by assumption) (by assumption) (by assumption) | exact joi_y (by assumption) (by assumption) (by assumption) | exact joi_c _ _ _ _)) dX9_join_29
      · have hP : va_P D q_cl [(h0, .inr (7, [.ref en, .int 0, .ref nt, .ref pl, .int 0])), (en, .inl (aI, 6000, .inl fe))] H := hP
        have hD : va_D A [(h0, .inr (7, [.ref en, .int 0, .ref nt, .ref pl, .int 0])), (en, .inl (aI, 6000, .inl fe))] := hD
        refine lv_if_eq (tgt := 28) hx hb dX9_join_14 (by decide) (fun c_23 => ?_) (fun c_23 => ?_)
        · refine lv_iconst (v := (-1)) hx hb dX9_join_28 (by decide) ?_
          have hP9 := hP.sub (ws' := []) [] rfl
          have hD9 := hD.sub (ws' := []) [] (by decide) rfl
          exact q_reti () hx hb hr hlocks hK hP9 hD9 hS (Nat.le_of_ble_eq_true rfl) (Nat.le_of_ble_eq_true rfl) ((by first | exact joi_n1 (by assumption) | exact joi_n2 (by assumption) | exact joi_e (by assumption) (by assumption) | exact joi_x (by assumption) (by assumption) (by assumption) | exact joi_y (by assumption) (by assumption) (by assumption) | exact joi_c _ _ _ _)) dX9_join_29
        · exact absurd c_23 (by decide)
  · have hP : va_P D q_cl [(h0, .inr (7, [.ref en, .int 0, .ref nt, .ref pl, .int 0])), (en, .inl (aI, 6000, .inl fe))] H := hP
    have hD : va_D A [(h0, .inr (7, [.ref en, .int 0, .ref nt, .ref pl, .int 0])), (en, .inl (aI, 6000, .inl fe))] := hD
    refine lv_if_eq (tgt := 28) hx hb dX9_join_5 (by decide) (fun c_24 => ?_) (fun c_24 => ?_)
    · refine lv_iconst (v := (-1)) hx hb dX9_join_28 (by decide) ?_
      have hP9 := hP.sub (ws' := []) [] rfl
      have hD9 := hD.sub (ws' := []) [] (by decide) rfl
      exact q_reti () hx hb hr hlocks hK hP9 hD9 hS (Nat.le_of_ble_eq_true rfl) (Nat.le_of_ble_eq_true rfl) ((by first | exact joi_n1 (by assumption) | exact joi_n2 (by assumption) | exact joi_e (by assumption) (by assumption) | exact joi_x (by assumption) (by assumption) (by assumption) | exact joi_y (by assumption) (by assumption) (by assumption) | exact joi_c _ _ _ _)) dX9_join_29
    · exact absurd c_24 (by decide)
set_option maxRecDepth 20000 in
theorem g_X9_join_X9_join_69 : GoodIn vsX9_join (wsV RX9 69 RX9 yX9_join vsX9_join) := goodIn_r _ [21, 22, 23, 6, 0, 1, 2, 3, 4, 5, 6, 7, 8, 9, 10, 11, 12, 13, 14, 15, 16, 17, 18, 19, 20, 21, 22, 23, 24, 25, 26, 27, 28] rfl (by decide +kernel)
set_option maxHeartbeats 4000000 in
set_option maxRecDepth 100000 in
/-- FaceMapModel.join -/
theorem c_X9_join (l : Launch) (D : va_G) (aI aL aZ : ClassId) (h0 : Nat) (en : Nat) (nt : Nat) (pl : Nat) (fe : Nat → Int32) (x1 : Int32) (y1 : Int32) (x2 : Int32) (y2 : Int32) (sz : Nat) : MI l D q_cl (q_ty aI aL aZ) yX9_join vsX9_join 2 0 0 [.ref h0, .int x1, .int y1, .int x2, .int y2] [(h0, .inr (7, [.ref en, .int 0, .ref nt, .ref pl, .int 0])), (en, .inl (aI, 6000, .inl fe))] sz (fun (r : Int32) (u : Unit) => r = (joi x1 y1 x2 y2)) (fun (u : Unit) => ([] : va_W)) := by
  refine q_in cX9_join 7 (some .int) (qQi D q_cl (q_ty aI aL aZ) _ _) (by decide) rfl (Nat.le_of_ble_eq_true rfl) ?_
  intro p e s m args below meth c A ls hat hP hD hS hl
  obtain ⟨hx, hb, hr, hts, hown, hlocks, hml, hin, hK, hN, hA⟩ := hat
  have hown : s.vm.findClass RX9 = some m.cls := hown
  have hl : lv_has ls 7 [(0, .ref h0), (1, .int x1), (2, .int y1), (3, .int x2), (4, .int y2)] := hl
  refine lv_iload_n hx hb dX9_join_0 rfl (lv_at hl 1 rfl) ?_
  refine lv_iload_n hx hb dX9_join_1 rfl (lv_at hl 2 rfl) ?_
  refine q_i (wr := [(h0, .inr (7, [.ref en, .int 0, .ref nt, .ref pl, .int 0])), (en, .inl (aI, 6000, .inl fe))]) (q_runS (As := [.int x1, .int y1]) (rest := []) ⟨hx, hb, hml, hown, hts⟩ (c_X9_isIn l D aI aL aZ x1 y1 _) (va_cwS 2 hts g_X9_join_X9_isIn_65 rfl rfl rfl (by decide +kernel) ⟨Nat.le_of_ble_eq_true rfl, Nat.le_of_ble_eq_true rfl⟩) hK hN hP hD [] rfl (by decide) rfl hl.1 rfl (Nat.le_of_ble_eq_true rfl) dX9_join_2 ⟨Nat.le_of_ble_eq_true rfl, Nat.le_of_ble_eq_true rfl⟩) hP hD hS hA [] [0, 1] rfl rfl (by decide) (by decide) (fun r_1 u_1 H locs hw hP hD hS => ?_)
  rcases hw with ⟨rfl, f1_0⟩ | ⟨rfl, f1_0⟩
  · have hP : va_P D q_cl [(h0, .inr (7, [.ref en, .int 0, .ref nt, .ref pl, .int 0])), (en, .inl (aI, 6000, .inl fe))] H := hP
    have hD : va_D A [(h0, .inr (7, [.ref en, .int 0, .ref nt, .ref pl, .int 0])), (en, .inl (aI, 6000, .inl fe))] := hD
    refine lv_if_eq (tgt := 28) hx hb dX9_join_5 (by decide) (fun c_2 => ?_) (fun c_2 => ?_)
    · exact absurd c_2 (by decide)
    · refine lv_iload_n hx hb dX9_join_8 rfl (lv_at hl 3 rfl) ?_
      refine lv_iload hx hb dX9_join_9 (lv_at hl 4 rfl) ?_
      refine q_i (wr := [(h0, .inr (7, [.ref en, .int 0, .ref nt, .ref pl, .int 0])), (en, .inl (aI, 6000, .inl fe))]) (q_runS (As := [.int x2, .int y2]) (rest := []) ⟨hx, hb, hml, hown, hts⟩ (c_X9_isIn l D aI aL aZ x2 y2 _) (va_cwS 2 hts g_X9_join_X9_isIn_65 rfl rfl rfl (by decide +kernel) ⟨Nat.le_of_ble_eq_true rfl, Nat.le_of_ble_eq_true rfl⟩) hK hN hP hD [] rfl (by decide) rfl hl.1 rfl (Nat.le_of_ble_eq_true rfl) dX9_join_11 ⟨Nat.le_of_ble_eq_true rfl, Nat.le_of_ble_eq_true rfl⟩) hP hD hS hA [] [0, 1] rfl rfl (by decide) (by decide) (fun r_3 u_3 H locs hw hP hD hS => ?_)
      rcases hw with ⟨rfl, f3_0⟩ | ⟨rfl, f3_0⟩
      · have hP : va_P D q_cl [(h0, .inr (7, [.ref en, .int 0, .ref nt, .ref pl, .int 0])), (en, .inl (aI, 6000, .inl fe))] H := hP
        have hD : va_D A [(h0, .inr (7, [.ref en, .int 0, .ref nt, .ref pl, .int 0])), (en, .inl (aI, 6000, .inl fe))] := hD
        refine lv_if_eq (tgt := 28) hx hb dX9_join_14 (by decide) (fun c_4 => ?_) (fun c_4 => ?_)
        · exact absurd c_4 (by decide)
        · refine lv_iload_n hx hb dX9_join_17 rfl (lv_at hl 1 rfl) ?_
          refine lv_iload_n hx hb dX9_join_18 rfl (lv_at hl 3 rfl) ?_
          refine lv_icmp_ne (tgt := 30) hx hb dX9_join_19 (by decide) (fun c_5 => ?_) (fun c_5 => ?_)
          · refine lv_iload_n hx hb dX9_join_30 rfl (lv_at hl 1 rfl) ?_
            refine lv_iload_n hx hb dX9_join_31 rfl (lv_at hl 2 rfl) ?_
            refine lv_iload_n hx hb dX9_join_32 rfl (lv_at hl 3 rfl) ?_
            refine lv_iload hx hb dX9_join_33 (lv_at hl 4 rfl) ?_
            refine q_i (wr := [(h0, .inr (7, [.ref en, .int 0, .ref nt, .ref pl, .int 0])), (en, .inl (aI, 6000, .inl fe))]) (q_runS (As := [.int x1, .int y1, .int x2, .int y2]) (rest := []) ⟨hx, hb, hml, hown, hts⟩ (c_X9_compare l D aI aL aZ x1 y1 x2 y2 _) (va_cwS 4 hts g_X9_join_X9_compare_58 rfl rfl rfl (by decide +kernel) ⟨Nat.le_of_ble_eq_true rfl, Nat.le_of_ble_eq_true rfl⟩) hK hN hP hD [] rfl (by decide) rfl hl.1 rfl (Nat.le_of_ble_eq_true rfl) dX9_join_35 ⟨Nat.le_of_ble_eq_true rfl, Nat.le_of_ble_eq_true rfl⟩) hP hD hS hA [] [0, 1] rfl rfl (by decide) (by decide) (fun r_6 u_6 H locs hw hP hD hS => ?_)
            subst hw
            have hP : va_P D q_cl [(h0, .inr (7, [.ref en, .int 0, .ref nt, .ref pl, .int 0])), (en, .inl (aI, 6000, .inl fe))] H := hP
            have hD : va_D A [(h0, .inr (7, [.ref en, .int 0, .ref nt, .ref pl, .int 0])), (en, .inl (aI, 6000, .inl fe))] := hD
            refine lv_if_le (tgt := 51) hx hb dX9_join_38 (by decide) (fun c_7 => ?_) (fun c_7 => ?_)
            · refine lv_aload_n hx hb dX9_join_51 rfl (lv_at hl 0 rfl) ?_
              refine lv_iload_n hx hb dX9_join_52 rfl (lv_at hl 1 rfl) ?_
              refine lv_iload_n hx hb dX9_join_53 rfl (lv_at hl 2 rfl) ?_
              refine lv_iload_n hx hb dX9_join_54 rfl (lv_at hl 3 rfl) ?_
              refine lv_iload hx hb dX9_join_55 (lv_at hl 4 rfl) ?_
              refine q_i (wr := [(en, .inl (aI, 6000, .inl fe))]) (q_runV (As := [.int x1, .int y1, .int x2, .int y2]) (rest := []) ⟨hx, hb, hml, hown, hts⟩ (c_X9_from l D aI aL aZ h0 en nt pl 0 x1 y1 x2 y2 _) (cwV 4 hts g_X9_join_X9_from_72 rfl rfl rfl (by decide +kernel) ⟨Nat.le_of_ble_eq_true rfl, Nat.le_of_ble_eq_true rfl⟩) hK hN hP hD [0] rfl (by decide) rfl rfl rfl hl.1 rfl (Nat.le_of_ble_eq_true rfl) dX9_join_57 ⟨Nat.le_of_ble_eq_true rfl, Nat.le_of_ble_eq_true rfl⟩) hP hD hS hA [0] [1] rfl rfl (by decide) (by decide) (fun r_8 u_8 H locs hw hP hD hS => ?_)
              subst hw
              have hP : va_P D q_cl [(en, .inl (aI, 6000, .inl fe)), (h0, .inr (7, [.ref en, .int 0, .ref nt, .ref pl, .int 0]))] H := hP
              have hD : va_D A [(en, .inl (aI, 6000, .inl fe)), (h0, .inr (7, [.ref en, .int 0, .ref nt, .ref pl, .int 0]))] := hD
              refine lv_istore (lv' := [(5, .int 0), (0, .ref h0), (1, .int x1), (2, .int y1), (3, .int x2), (4, .int y2)]) hx hb dX9_join_60 hl (by decide) rfl (fun ls hl => ?_)
              refine lv_aload_n hx hb dX9_join_62 rfl (lv_at hl 1 rfl) ?_
              refine lv_iload hx hb dX9_join_63 (lv_at hl 0 rfl) ?_
              refine lv_iload_n hx hb dX9_join_65 rfl (lv_at hl 2 rfl) ?_
              refine lv_iload_n hx hb dX9_join_66 rfl (lv_at hl 3 rfl) ?_
              refine lv_iload_n hx hb dX9_join_67 rfl (lv_at hl 4 rfl) ?_
              refine lv_iload hx hb dX9_join_68 (lv_at hl 5 rfl) ?_
              refine q_i (wr := [(en, .inl (aI, 6000, .inl fe))]) (q_runV (As := [.int 0, .int x1, .int y1, .int x2, .int y2]) (rest := []) ⟨hx, hb, hml, hown, hts⟩ (c_X9_isAt l D aI aL aZ h0 en nt pl 0 x1 y1 x2 y2 _) (cwV 5 hts g_X9_join_X9_isAt_75 rfl rfl rfl (by decide +kernel) ⟨Nat.le_of_ble_eq_true rfl, Nat.le_of_ble_eq_true rfl⟩) hK hN hP hD [1] rfl (by decide) rfl rfl rfl hl.1 rfl (Nat.le_of_ble_eq_true rfl) dX9_join_70 ⟨Nat.le_of_ble_eq_true rfl, Nat.le_of_ble_eq_true rfl⟩) hP hD hS hA [1] [0] rfl rfl (by decide) (by decide) (fun r_9 u_9 H locs hw hP hD hS => ?_)
              subst hw
              have hP : va_P D q_cl [(en, .inl (aI, 6000, .inl fe)), (h0, .inr (7, [.ref en, .int 0, .ref nt, .ref pl, .int 0]))] H := hP
              have hD : va_D A [(en, .inl (aI, 6000, .inl fe)), (h0, .inr (7, [.ref en, .int 0, .ref nt, .ref pl, .int 0]))] := hD
              refine lv_if_eq (tgt := 79) hx hb dX9_join_73 (by decide) (fun c_10 => ?_) (fun c_10 => ?_)
              · refine lv_iconst (v := 0) hx hb dX9_join_79 (by decide) ?_
                refine lv_istore (lv' := [(6, .int 0), (5, .int 0), (0, .ref h0), (1, .int x1), (2, .int y1), (3, .int x2), (4, .int y2)]) hx hb dX9_join_80 hl (by decide) rfl (fun ls hl => ?_)
                refine lv_iload hx hb dX9_join_82 (lv_at hl 0 rfl) ?_
                refine lv_aload_n hx hb dX9_join_84 rfl (lv_at hl 2 rfl) ?_
                refine va_get (D := D) (ci := 7) (v := .int 0) (C := RX9) (T := TX9) (N := 5) hx hb hts n_X9_join_X9 hown hK hP 1 rfl rfl 1 (by decide) (hts (.fieldLink RX9 54 "FaceMapModel" "count" "I") (List.mem_of_getElem? (i := 1) rfl)) (fun _ h9 => h9) rfl dX9_join_85 ?_
                refine lv_icmp_ge (tgt := 114) hx hb dX9_join_88 (by decide) (fun c_11 => ?_) (fun c_11 => ?_)
                · refine lv_aload_n hx hb dX9_join_114 rfl (lv_at hl 2 rfl) ?_
                  refine va_get (D := D) (ci := 7) (v := .int 0) (C := RX9) (T := TX9) (N := 5) hx hb hts n_X9_join_X9 hown hK hP 1 rfl rfl 1 (by decide) (hts (.fieldLink RX9 54 "FaceMapModel" "count" "I") (List.mem_of_getElem? (i := 1) rfl)) (fun _ h9 => h9) rfl dX9_join_115 ?_
                  refine lv_sipush (v := 1500) hx hb dX9_join_118 (by decide) ?_
                  refine lv_icmp_ne (tgt := 127) hx hb dX9_join_121 (by decide) (fun c_12 => ?_) (fun c_12 => ?_)
                  · refine lv_iconst (v := 4) hx hb dX9_join_127 (by decide) ?_
                    refine lv_aload_n hx hb dX9_join_128 rfl (lv_at hl 2 rfl) ?_
                    refine va_get (D := D) (ci := 7) (v := .int 0) (C := RX9) (T := TX9) (N := 5) hx hb hts n_X9_join_X9 hown hK hP 1 rfl rfl 1 (by decide) (hts (.fieldLink RX9 54 "FaceMapModel" "count" "I") (List.mem_of_getElem? (i := 1) rfl)) (fun _ h9 => h9) rfl dX9_join_129 ?_
                    refine lv_imul hx hb dX9_join_132 ?_
                    refine q_vi (v := 0) (by decide) ?_
                    refine lv_iconst (v := 1) hx hb dX9_join_133 (by decide) ?_
                    refine lv_isub hx hb dX9_join_134 ?_
                    refine q_vi (v := (-1)) (by decide) ?_
                    refine lv_istore (lv' := [(6, .int (-1)), (5, .int 0), (0, .ref h0), (1, .int x1), (2, .int y1), (3, .int x2), (4, .int y2)]) hx hb dX9_join_135 hl (by decide) rfl (fun ls hl => ?_)
                    refine lv_iload hx hb dX9_join_137 (lv_at hl 0 rfl) ?_
                    refine lv_iconst (v := 4) hx hb dX9_join_139 (by decide) ?_
                    refine lv_iload hx hb dX9_join_140 (lv_at hl 1 rfl) ?_
                    refine lv_imul hx hb dX9_join_142 ?_
                    refine q_vi (v := 0) (by decide) ?_
                    refine lv_icmp_lt (tgt := 168) hx hb dX9_join_143 (by decide) (fun c_13 => ?_) (fun c_13 => ?_)
                    · refine lv_aload_n hx hb dX9_join_168 rfl (lv_at hl 2 rfl) ?_
                      refine va_get (D := D) (ci := 7) (v := .ref en) (C := RX9) (T := TX9) (N := 5) hx hb hts n_X9_join_X9 hown hK hP 1 rfl rfl 0 (by decide) (hts (.fieldLink RX9 34 "FaceMapModel" "ends" "[I") (List.mem_of_getElem? (i := 2) rfl)) (fun _ h9 => h9) rfl dX9_join_169 ?_
                      refine lv_iconst (v := 4) hx hb dX9_join_172 (by decide) ?_
                      refine lv_iload hx hb dX9_join_173 (lv_at hl 1 rfl) ?_
                      refine lv_imul hx hb dX9_join_175 ?_
                      refine q_vi (v := 0) (by decide) ?_
                      refine lv_iload_n hx hb dX9_join_176 rfl (lv_at hl 3 rfl) ?_
                      refine va_iast hx hb hK hP hD hS 0 0 rfl rfl (q_ix 0 (by decide) (by decide) (by decide)) dX9_join_177 (fun H locs hP hD hS => ?_)
                      have hP : va_P D q_cl [(en, .inl (aI, 6000, .inl (upd fe 0 x1))), (h0, .inr (7, [.ref en, .int 0, .ref nt, .ref pl, .int 0]))] H := hP
                      have hD : va_D A [(en, .inl (aI, 6000, .inl (upd fe 0 x1))), (h0, .inr (7, [.ref en, .int 0, .ref nt, .ref pl, .int 0]))] := hD
                      refine lv_aload_n hx hb dX9_join_178 rfl (lv_at hl 2 rfl) ?_
                      refine va_get (D := D) (ci := 7) (v := .ref en) (C := RX9) (T := TX9) (N := 5) hx hb hts n_X9_join_X9 hown hK hP 1 rfl rfl 0 (by decide) (hts (.fieldLink RX9 34 "FaceMapModel" "ends" "[I") (List.mem_of_getElem? (i := 2) rfl)) (fun _ h9 => h9) rfl dX9_join_179 ?_
                      refine lv_iconst (v := 4) hx hb dX9_join_182 (by decide) ?_
                      refine lv_iload hx hb dX9_join_183 (lv_at hl 1 rfl) ?_
                      refine lv_imul hx hb dX9_join_185 ?_
                      refine q_vi (v := 0) (by decide) ?_
                      refine lv_iconst (v := 1) hx hb dX9_join_186 (by decide) ?_
                      refine lv_iadd hx hb dX9_join_187 ?_
                      refine q_vi (v := 1) (by decide) ?_
                      refine lv_iload_n hx hb dX9_join_188 rfl (lv_at hl 4 rfl) ?_
                      refine va_iast hx hb hK hP hD hS 0 0 rfl rfl (q_ix 1 (by decide) (by decide) (by decide)) dX9_join_189 (fun H locs hP hD hS => ?_)
                      have hP : va_P D q_cl [(en, .inl (aI, 6000, .inl (upd (upd fe 0 x1) 1 y1))), (h0, .inr (7, [.ref en, .int 0, .ref nt, .ref pl, .int 0]))] H := hP
                      have hD : va_D A [(en, .inl (aI, 6000, .inl (upd (upd fe 0 x1) 1 y1))), (h0, .inr (7, [.ref en, .int 0, .ref nt, .ref pl, .int 0]))] := hD
                      refine lv_aload_n hx hb dX9_join_190 rfl (lv_at hl 2 rfl) ?_
                      refine va_get (D := D) (ci := 7) (v := .ref en) (C := RX9) (T := TX9) (N := 5) hx hb hts n_X9_join_X9 hown hK hP 1 rfl rfl 0 (by decide) (hts (.fieldLink RX9 34 "FaceMapModel" "ends" "[I") (List.mem_of_getElem? (i := 2) rfl)) (fun _ h9 => h9) rfl dX9_join_191 ?_
                      refine lv_iconst (v := 4) hx hb dX9_join_194 (by decide) ?_
                      refine lv_iload hx hb dX9_join_195 (lv_at hl 1 rfl) ?_
                      refine lv_imul hx hb dX9_join_197 ?_
                      refine q_vi (v := 0) (by decide) ?_
                      refine lv_iconst (v := 2) hx hb dX9_join_198 (by decide) ?_
                      refine lv_iadd hx hb dX9_join_199 ?_
                      refine q_vi (v := 2) (by decide) ?_
                      refine lv_iload_n hx hb dX9_join_200 rfl (lv_at hl 5 rfl) ?_
                      refine va_iast hx hb hK hP hD hS 0 0 rfl rfl (q_ix 2 (by decide) (by decide) (by decide)) dX9_join_201 (fun H locs hP hD hS => ?_)
                      have hP : va_P D q_cl [(en, .inl (aI, 6000, .inl (upd (upd (upd fe 0 x1) 1 y1) 2 x2))), (h0, .inr (7, [.ref en, .int 0, .ref nt, .ref pl, .int 0]))] H := hP
                      have hD : va_D A [(en, .inl (aI, 6000, .inl (upd (upd (upd fe 0 x1) 1 y1) 2 x2))), (h0, .inr (7, [.ref en, .int 0, .ref nt, .ref pl, .int 0]))] := hD
                      refine lv_aload_n hx hb dX9_join_202 rfl (lv_at hl 2 rfl) ?_
                      refine va_get (D := D) (ci := 7) (v := .ref en) (C := RX9) (T := TX9) (N := 5) hx hb hts n_X9_join_X9 hown hK hP 1 rfl rfl 0 (by decide) (hts (.fieldLink RX9 34 "FaceMapModel" "ends" "[I") (List.mem_of_getElem? (i := 2) rfl)) (fun _ h9 => h9) rfl dX9_join_203 ?_
                      refine lv_iconst (v := 4) hx hb dX9_join_206 (by decide) ?_
                      refine lv_iload hx hb dX9_join_207 (lv_at hl 1 rfl) ?_
                      refine lv_imul hx hb dX9_join_209 ?_
                      refine q_vi (v := 0) (by decide) ?_
                      refine lv_iconst (v := 3) hx hb dX9_join_210 (by decide) ?_
                      refine lv_iadd hx hb dX9_join_211 ?_
                      refine q_vi (v := 3) (by decide) ?_
                      refine lv_iload hx hb dX9_join_212 (lv_at hl 6 rfl) ?_
                      refine va_iast hx hb hK hP hD hS 0 0 rfl rfl (q_ix 3 (by decide) (by decide) (by decide)) dX9_join_214 (fun H locs hP hD hS => ?_)
                      have hP : va_P D q_cl [(en, .inl (aI, 6000, .inl (upd (upd (upd (upd fe 0 x1) 1 y1) 2 x2) 3 y2))), (h0, .inr (7, [.ref en, .int 0, .ref nt, .ref pl, .int 0]))] H := hP
                      have hD : va_D A [(en, .inl (aI, 6000, .inl (upd (upd (upd (upd fe 0 x1) 1 y1) 2 x2) 3 y2))), (h0, .inr (7, [.ref en, .int 0, .ref nt, .ref pl, .int 0]))] := hD
                      refine lv_aload_n hx hb dX9_join_215 rfl (lv_at hl 2 rfl) ?_
                      refine lv_dup hx hb dX9_join_216 rfl ?_
                      refine va_get (D := D) (ci := 7) (v := .int 0) (C := RX9) (T := TX9) (N := 5) hx hb hts n_X9_join_X9 hown hK hP 1 rfl rfl 1 (by decide) (hts (.fieldLink RX9 54 "FaceMapModel" "count" "I") (List.mem_of_getElem? (i := 1) rfl)) (fun _ h9 => h9) rfl dX9_join_217 ?_
                      refine lv_iconst (v := 1) hx hb dX9_join_220 (by decide) ?_
                      refine lv_iadd hx hb dX9_join_221 ?_
                      refine q_vi (v := 1) (by decide) ?_
                      refine va_put (D := D) (ci := 7) (v := .int 1) (ty := .int) (C := RX9) (T := TX9) (N := 5) hx hb hts n_X9_join_X9 tyX9 tyX9_ok nmX9 hown hK hP hD hS 1 rfl rfl 1 (by decide) (hts (.fieldLink RX9 54 "FaceMapModel" "count" "I") (List.mem_of_getElem? (i := 1) rfl)) (fun _ h9 => h9) rfl (by decide +kernel) rfl rfl (Nat.le_of_ble_eq_true rfl) dX9_join_222 (fun H locs hP hD hS => ?_)
                      have hP : va_P D q_cl [(en, .inl (aI, 6000, .inl (upd (upd (upd (upd fe 0 x1) 1 y1) 2 x2) 3 y2))), (h0, .inr (7, [.ref en, .int 1, .ref nt, .ref pl, .int 0]))] H := hP
                      have hD : va_D A [(en, .inl (aI, 6000, .inl (upd (upd (upd (upd fe 0 x1) 1 y1) 2 x2) 3 y2))), (h0, .inr (7, [.ref en, .int 1, .ref nt, .ref pl, .int 0]))] := hD
                      refine lv_aload_n hx hb dX9_join_225 rfl (lv_at hl 2 rfl) ?_
                      refine lv_iconst (v := 0) hx hb dX9_join_226 (by decide) ?_
                      refine va_put (D := D) (ci := 7) (v := .int 0) (ty := .boolean) (C := RX9) (T := TX9) (N := 5) hx hb hts n_X9_join_X9 tyX9 tyX9_ok nmX9 hown hK hP hD hS 1 rfl rfl 4 (by decide) (hts (.fieldLink RX9 82 "FaceMapModel" "isBuilt" "Z") (List.mem_of_getElem? (i := 3) rfl)) (fun _ h9 => h9) rfl (by decide +kernel) rfl rfl (Nat.le_of_ble_eq_true rfl) dX9_join_227 (fun H locs hP hD hS => ?_)
                      have hP : va_P D q_cl [(en, .inl (aI, 6000, .inl (upd (upd (upd (upd fe 0 x1) 1 y1) 2 x2) 3 y2))), (h0, .inr (7, [.ref en, .int 1, .ref nt, .ref pl, .int 0]))] H := hP
                      have hD : va_D A [(en, .inl (aI, 6000, .inl (upd (upd (upd (upd fe 0 x1) 1 y1) 2 x2) 3 y2))), (h0, .inr (7, [.ref en, .int 1, .ref nt, .ref pl, .int 0]))] := hD
                      refine lv_aload_n hx hb dX9_join_230 rfl (lv_at hl 2 rfl) ?_
                      refine va_get (D := D) (ci := 7) (v := .int 1) (C := RX9) (T := TX9) (N := 5) hx hb hts n_X9_join_X9 hown hK hP 1 rfl rfl 1 (by decide) (hts (.fieldLink RX9 54 "FaceMapModel" "count" "I") (List.mem_of_getElem? (i := 1) rfl)) (fun _ h9 => h9) rfl dX9_join_231 ?_
                      have hP9 := hP.sub (ws' := []) [] rfl
                      have hD9 := hD.sub (ws' := []) [] (by decide) rfl
                      exact q_reti () hx hb hr hlocks hK hP9 hD9 hS (Nat.le_of_ble_eq_true rfl) (Nat.le_of_ble_eq_true rfl) ((by first | exact joi_n1 (by assumption) | exact joi_n2 (by assumption) | exact joi_e (by assumption) (by assumption) | exact joi_x (by assumption) (by assumption) (by assumption) | exact joi_y (by assumption) (by assumption) (by assumption) | exact joi_c _ _ _ _)) dX9_join_234
                    · exact absurd c_13 (by decide)
                  · exact absurd c_12 (by decide)
                · exact absurd c_11 (by decide)
              · exact absurd c_10 (by decide)
            · refine lv_aload_n hx hb dX9_join_41 rfl (lv_at hl 0 rfl) ?_
              refine lv_iload_n hx hb dX9_join_42 rfl (lv_at hl 3 rfl) ?_
              refine lv_iload hx hb dX9_join_43 (lv_at hl 4 rfl) ?_
              refine lv_iload_n hx hb dX9_join_45 rfl (lv_at hl 1 rfl) ?_
              refine lv_iload_n hx hb dX9_join_46 rfl (lv_at hl 2 rfl) ?_
              refine q_i (wr := []) (q_runV (As := [.int x2, .int y2, .int x1, .int y1]) (rest := []) ⟨hx, hb, hml, hown, hts⟩ (c_X9_join_low l D aI aL aZ h0 en nt pl fe x2 y2 x1 y1 (cmp_swap (by assumption)) _) (cwV 4 hts g_X9_join_X9_join_69 rfl rfl rfl (by decide +kernel) ⟨Nat.le_of_ble_eq_true rfl, Nat.le_of_ble_eq_true rfl⟩) hK hN hP hD [0, 1] rfl (by decide) rfl rfl rfl hl.1 rfl (Nat.le_of_ble_eq_true rfl) dX9_join_47 ⟨Nat.le_of_ble_eq_true rfl, Nat.le_of_ble_eq_true rfl⟩) hP hD hS hA [0, 1] [] rfl rfl (by decide) (by decide) (fun r_14 u_14 H locs hw hP hD hS => ?_)
              subst hw
              have hP : va_P D q_cl [] H := hP
              have hD : va_D A [] := hD
              have hP9 := hP.sub (ws' := []) [] rfl
              have hD9 := hD.sub (ws' := []) [] (by decide) rfl
              exact q_reti () hx hb hr hlocks hK hP9 hD9 hS (Nat.le_of_ble_eq_true rfl) (Nat.le_of_ble_eq_true rfl) ((by first | exact joi_n1 (by assumption) | exact joi_n2 (by assumption) | exact joi_e (by assumption) (by assumption) | exact joi_x (by assumption) (by assumption) (by assumption) | exact joi_y (by assumption) (by assumption) (by assumption) | exact joi_c _ _ _ _)) dX9_join_50
          · refine lv_iload_n hx hb dX9_join_22 rfl (lv_at hl 2 rfl) ?_
            refine lv_iload hx hb dX9_join_23 (lv_at hl 4 rfl) ?_
            refine lv_icmp_ne (tgt := 30) hx hb dX9_join_25 (by decide) (fun c_15 => ?_) (fun c_15 => ?_)
            · refine lv_iload_n hx hb dX9_join_30 rfl (lv_at hl 1 rfl) ?_
              refine lv_iload_n hx hb dX9_join_31 rfl (lv_at hl 2 rfl) ?_
              refine lv_iload_n hx hb dX9_join_32 rfl (lv_at hl 3 rfl) ?_
              refine lv_iload hx hb dX9_join_33 (lv_at hl 4 rfl) ?_
              refine q_i (wr := [(h0, .inr (7, [.ref en, .int 0, .ref nt, .ref pl, .int 0])), (en, .inl (aI, 6000, .inl fe))]) (q_runS (As := [.int x1, .int y1, .int x2, .int y2]) (rest := []) ⟨hx, hb, hml, hown, hts⟩ (c_X9_compare l D aI aL aZ x1 y1 x2 y2 _) (va_cwS 4 hts g_X9_join_X9_compare_58 rfl rfl rfl (by decide +kernel) ⟨Nat.le_of_ble_eq_true rfl, Nat.le_of_ble_eq_true rfl⟩) hK hN hP hD [] rfl (by decide) rfl hl.1 rfl (Nat.le_of_ble_eq_true rfl) dX9_join_35 ⟨Nat.le_of_ble_eq_true rfl, Nat.le_of_ble_eq_true rfl⟩) hP hD hS hA [] [0, 1] rfl rfl (by decide) (by decide) (fun r_16 u_16 H locs hw hP hD hS => ?_)
              subst hw
              have hP : va_P D q_cl [(h0, .inr (7, [.ref en, .int 0, .ref nt, .ref pl, .int 0])), (en, .inl (aI, 6000, .inl fe))] H := hP
              have hD : va_D A [(h0, .inr (7, [.ref en, .int 0, .ref nt, .ref pl, .int 0])), (en, .inl (aI, 6000, .inl fe))] := hD
              refine lv_if_le (tgt := 51) hx hb dX9_join_38 (by decide) (fun c_17 => ?_) (fun c_17 => ?_)
              · refine lv_aload_n hx hb dX9_join_51 rfl (lv_at hl 0 rfl) ?_
                refine lv_iload_n hx hb dX9_join_52 rfl (lv_at hl 1 rfl) ?_
                refine lv_iload_n hx hb dX9_join_53 rfl (lv_at hl 2 rfl) ?_
                refine lv_iload_n hx hb dX9_join_54 rfl (lv_at hl 3 rfl) ?_
                refine lv_iload hx hb dX9_join_55 (lv_at hl 4 rfl) ?_
                refine q_i (wr := [(en, .inl (aI, 6000, .inl fe))]) (q_runV (As := [.int x1, .int y1, .int x2, .int y2]) (rest := []) ⟨hx, hb, hml, hown, hts⟩ (c_X9_from l D aI aL aZ h0 en nt pl 0 x1 y1 x2 y2 _) (cwV 4 hts g_X9_join_X9_from_72 rfl rfl rfl (by decide +kernel) ⟨Nat.le_of_ble_eq_true rfl, Nat.le_of_ble_eq_true rfl⟩) hK hN hP hD [0] rfl (by decide) rfl rfl rfl hl.1 rfl (Nat.le_of_ble_eq_true rfl) dX9_join_57 ⟨Nat.le_of_ble_eq_true rfl, Nat.le_of_ble_eq_true rfl⟩) hP hD hS hA [0] [1] rfl rfl (by decide) (by decide) (fun r_18 u_18 H locs hw hP hD hS => ?_)
                subst hw
                have hP : va_P D q_cl [(en, .inl (aI, 6000, .inl fe)), (h0, .inr (7, [.ref en, .int 0, .ref nt, .ref pl, .int 0]))] H := hP
                have hD : va_D A [(en, .inl (aI, 6000, .inl fe)), (h0, .inr (7, [.ref en, .int 0, .ref nt, .ref pl, .int 0]))] := hD
                refine lv_istore (lv' := [(5, .int 0), (0, .ref h0), (1, .int x1), (2, .int y1), (3, .int x2), (4, .int y2)]) hx hb dX9_join_60 hl (by decide) rfl (fun ls hl => ?_)
                refine lv_aload_n hx hb dX9_join_62 rfl (lv_at hl 1 rfl) ?_
                refine lv_iload hx hb dX9_join_63 (lv_at hl 0 rfl) ?_
                refine lv_iload_n hx hb dX9_join_65 rfl (lv_at hl 2 rfl) ?_
                refine lv_iload_n hx hb dX9_join_66 rfl (lv_at hl 3 rfl) ?_
                refine lv_iload_n hx hb dX9_join_67 rfl (lv_at hl 4 rfl) ?_
                refine lv_iload hx hb dX9_join_68 (lv_at hl 5 rfl) ?_
                refine q_i (wr := [(en, .inl (aI, 6000, .inl fe))]) (q_runV (As := [.int 0, .int x1, .int y1, .int x2, .int y2]) (rest := []) ⟨hx, hb, hml, hown, hts⟩ (c_X9_isAt l D aI aL aZ h0 en nt pl 0 x1 y1 x2 y2 _) (cwV 5 hts g_X9_join_X9_isAt_75 rfl rfl rfl (by decide +kernel) ⟨Nat.le_of_ble_eq_true rfl, Nat.le_of_ble_eq_true rfl⟩) hK hN hP hD [1] rfl (by decide) rfl rfl rfl hl.1 rfl (Nat.le_of_ble_eq_true rfl) dX9_join_70 ⟨Nat.le_of_ble_eq_true rfl, Nat.le_of_ble_eq_true rfl⟩) hP hD hS hA [1] [0] rfl rfl (by decide) (by decide) (fun r_19 u_19 H locs hw hP hD hS => ?_)
                subst hw
                have hP : va_P D q_cl [(en, .inl (aI, 6000, .inl fe)), (h0, .inr (7, [.ref en, .int 0, .ref nt, .ref pl, .int 0]))] H := hP
                have hD : va_D A [(en, .inl (aI, 6000, .inl fe)), (h0, .inr (7, [.ref en, .int 0, .ref nt, .ref pl, .int 0]))] := hD
                refine lv_if_eq (tgt := 79) hx hb dX9_join_73 (by decide) (fun c_20 => ?_) (fun c_20 => ?_)
                · refine lv_iconst (v := 0) hx hb dX9_join_79 (by decide) ?_
                  refine lv_istore (lv' := [(6, .int 0), (5, .int 0), (0, .ref h0), (1, .int x1), (2, .int y1), (3, .int x2), (4, .int y2)]) hx hb dX9_join_80 hl (by decide) rfl (fun ls hl => ?_)
                  refine lv_iload hx hb dX9_join_82 (lv_at hl 0 rfl) ?_
                  refine lv_aload_n hx hb dX9_join_84 rfl (lv_at hl 2 rfl) ?_
                  refine va_get (D := D) (ci := 7) (v := .int 0) (C := RX9) (T := TX9) (N := 5) hx hb hts n_X9_join_X9 hown hK hP 1 rfl rfl 1 (by decide) (hts (.fieldLink RX9 54 "FaceMapModel" "count" "I") (List.mem_of_getElem? (i := 1) rfl)) (fun _ h9 => h9) rfl dX9_join_85 ?_
                  refine lv_icmp_ge (tgt := 114) hx hb dX9_join_88 (by decide) (fun c_21 => ?_) (fun c_21 => ?_)
                  · refine lv_aload_n hx hb dX9_join_114 rfl (lv_at hl 2 rfl) ?_
                    refine va_get (D := D) (ci := 7) (v := .int 0) (C := RX9) (T := TX9) (N := 5) hx hb hts n_X9_join_X9 hown hK hP 1 rfl rfl 1 (by decide) (hts (.fieldLink RX9 54 "FaceMapModel" "count" "I") (List.mem_of_getElem? (i := 1) rfl)) (fun _ h9 => h9) rfl dX9_join_115 ?_
                    refine lv_sipush (v := 1500) hx hb dX9_join_118 (by decide) ?_
                    refine lv_icmp_ne (tgt := 127) hx hb dX9_join_121 (by decide) (fun c_22 => ?_) (fun c_22 => ?_)
                    · refine lv_iconst (v := 4) hx hb dX9_join_127 (by decide) ?_
                      refine lv_aload_n hx hb dX9_join_128 rfl (lv_at hl 2 rfl) ?_
                      refine va_get (D := D) (ci := 7) (v := .int 0) (C := RX9) (T := TX9) (N := 5) hx hb hts n_X9_join_X9 hown hK hP 1 rfl rfl 1 (by decide) (hts (.fieldLink RX9 54 "FaceMapModel" "count" "I") (List.mem_of_getElem? (i := 1) rfl)) (fun _ h9 => h9) rfl dX9_join_129 ?_
                      refine lv_imul hx hb dX9_join_132 ?_
                      refine q_vi (v := 0) (by decide) ?_
                      refine lv_iconst (v := 1) hx hb dX9_join_133 (by decide) ?_
                      refine lv_isub hx hb dX9_join_134 ?_
                      refine q_vi (v := (-1)) (by decide) ?_
                      refine lv_istore (lv' := [(6, .int (-1)), (5, .int 0), (0, .ref h0), (1, .int x1), (2, .int y1), (3, .int x2), (4, .int y2)]) hx hb dX9_join_135 hl (by decide) rfl (fun ls hl => ?_)
                      refine lv_iload hx hb dX9_join_137 (lv_at hl 0 rfl) ?_
                      refine lv_iconst (v := 4) hx hb dX9_join_139 (by decide) ?_
                      refine lv_iload hx hb dX9_join_140 (lv_at hl 1 rfl) ?_
                      refine lv_imul hx hb dX9_join_142 ?_
                      refine q_vi (v := 0) (by decide) ?_
                      refine lv_icmp_lt (tgt := 168) hx hb dX9_join_143 (by decide) (fun c_23 => ?_) (fun c_23 => ?_)
                      · refine lv_aload_n hx hb dX9_join_168 rfl (lv_at hl 2 rfl) ?_
                        refine va_get (D := D) (ci := 7) (v := .ref en) (C := RX9) (T := TX9) (N := 5) hx hb hts n_X9_join_X9 hown hK hP 1 rfl rfl 0 (by decide) (hts (.fieldLink RX9 34 "FaceMapModel" "ends" "[I") (List.mem_of_getElem? (i := 2) rfl)) (fun _ h9 => h9) rfl dX9_join_169 ?_
                        refine lv_iconst (v := 4) hx hb dX9_join_172 (by decide) ?_
                        refine lv_iload hx hb dX9_join_173 (lv_at hl 1 rfl) ?_
                        refine lv_imul hx hb dX9_join_175 ?_
                        refine q_vi (v := 0) (by decide) ?_
                        refine lv_iload_n hx hb dX9_join_176 rfl (lv_at hl 3 rfl) ?_
                        refine va_iast hx hb hK hP hD hS 0 0 rfl rfl (q_ix 0 (by decide) (by decide) (by decide)) dX9_join_177 (fun H locs hP hD hS => ?_)
                        have hP : va_P D q_cl [(en, .inl (aI, 6000, .inl (upd fe 0 x1))), (h0, .inr (7, [.ref en, .int 0, .ref nt, .ref pl, .int 0]))] H := hP
                        have hD : va_D A [(en, .inl (aI, 6000, .inl (upd fe 0 x1))), (h0, .inr (7, [.ref en, .int 0, .ref nt, .ref pl, .int 0]))] := hD
                        refine lv_aload_n hx hb dX9_join_178 rfl (lv_at hl 2 rfl) ?_
                        refine va_get (D := D) (ci := 7) (v := .ref en) (C := RX9) (T := TX9) (N := 5) hx hb hts n_X9_join_X9 hown hK hP 1 rfl rfl 0 (by decide) (hts (.fieldLink RX9 34 "FaceMapModel" "ends" "[I") (List.mem_of_getElem? (i := 2) rfl)) (fun _ h9 => h9) rfl dX9_join_179 ?_
                        refine lv_iconst (v := 4) hx hb dX9_join_182 (by decide) ?_
                        refine lv_iload hx hb dX9_join_183 (lv_at hl 1 rfl) ?_
                        refine lv_imul hx hb dX9_join_185 ?_
                        refine q_vi (v := 0) (by decide) ?_
                        refine lv_iconst (v := 1) hx hb dX9_join_186 (by decide) ?_
                        refine lv_iadd hx hb dX9_join_187 ?_
                        refine q_vi (v := 1) (by decide) ?_
                        refine lv_iload_n hx hb dX9_join_188 rfl (lv_at hl 4 rfl) ?_
                        refine va_iast hx hb hK hP hD hS 0 0 rfl rfl (q_ix 1 (by decide) (by decide) (by decide)) dX9_join_189 (fun H locs hP hD hS => ?_)
                        have hP : va_P D q_cl [(en, .inl (aI, 6000, .inl (upd (upd fe 0 x1) 1 y1))), (h0, .inr (7, [.ref en, .int 0, .ref nt, .ref pl, .int 0]))] H := hP
                        have hD : va_D A [(en, .inl (aI, 6000, .inl (upd (upd fe 0 x1) 1 y1))), (h0, .inr (7, [.ref en, .int 0, .ref nt, .ref pl, .int 0]))] := hD
                        refine lv_aload_n hx hb dX9_join_190 rfl (lv_at hl 2 rfl) ?_
                        refine va_get (D := D) (ci := 7) (v := .ref en) (C := RX9) (T := TX9) (N := 5) hx hb hts n_X9_join_X9 hown hK hP 1 rfl rfl 0 (by decide) (hts (.fieldLink RX9 34 "FaceMapModel" "ends" "[I") (List.mem_of_getElem? (i := 2) rfl)) (fun _ h9 => h9) rfl dX9_join_191 ?_
                        refine lv_iconst (v := 4) hx hb dX9_join_194 (by decide) ?_
                        refine lv_iload hx hb dX9_join_195 (lv_at hl 1 rfl) ?_
                        refine lv_imul hx hb dX9_join_197 ?_
                        refine q_vi (v := 0) (by decide) ?_
                        refine lv_iconst (v := 2) hx hb dX9_join_198 (by decide) ?_
                        refine lv_iadd hx hb dX9_join_199 ?_
                        refine q_vi (v := 2) (by decide) ?_
                        refine lv_iload_n hx hb dX9_join_200 rfl (lv_at hl 5 rfl) ?_
                        refine va_iast hx hb hK hP hD hS 0 0 rfl rfl (q_ix 2 (by decide) (by decide) (by decide)) dX9_join_201 (fun H locs hP hD hS => ?_)
                        have hP : va_P D q_cl [(en, .inl (aI, 6000, .inl (upd (upd (upd fe 0 x1) 1 y1) 2 x2))), (h0, .inr (7, [.ref en, .int 0, .ref nt, .ref pl, .int 0]))] H := hP
                        have hD : va_D A [(en, .inl (aI, 6000, .inl (upd (upd (upd fe 0 x1) 1 y1) 2 x2))), (h0, .inr (7, [.ref en, .int 0, .ref nt, .ref pl, .int 0]))] := hD
                        refine lv_aload_n hx hb dX9_join_202 rfl (lv_at hl 2 rfl) ?_
                        refine va_get (D := D) (ci := 7) (v := .ref en) (C := RX9) (T := TX9) (N := 5) hx hb hts n_X9_join_X9 hown hK hP 1 rfl rfl 0 (by decide) (hts (.fieldLink RX9 34 "FaceMapModel" "ends" "[I") (List.mem_of_getElem? (i := 2) rfl)) (fun _ h9 => h9) rfl dX9_join_203 ?_
                        refine lv_iconst (v := 4) hx hb dX9_join_206 (by decide) ?_
                        refine lv_iload hx hb dX9_join_207 (lv_at hl 1 rfl) ?_
                        refine lv_imul hx hb dX9_join_209 ?_
                        refine q_vi (v := 0) (by decide) ?_
                        refine lv_iconst (v := 3) hx hb dX9_join_210 (by decide) ?_
                        refine lv_iadd hx hb dX9_join_211 ?_
                        refine q_vi (v := 3) (by decide) ?_
                        refine lv_iload hx hb dX9_join_212 (lv_at hl 6 rfl) ?_
                        refine va_iast hx hb hK hP hD hS 0 0 rfl rfl (q_ix 3 (by decide) (by decide) (by decide)) dX9_join_214 (fun H locs hP hD hS => ?_)
                        have hP : va_P D q_cl [(en, .inl (aI, 6000, .inl (upd (upd (upd (upd fe 0 x1) 1 y1) 2 x2) 3 y2))), (h0, .inr (7, [.ref en, .int 0, .ref nt, .ref pl, .int 0]))] H := hP
                        have hD : va_D A [(en, .inl (aI, 6000, .inl (upd (upd (upd (upd fe 0 x1) 1 y1) 2 x2) 3 y2))), (h0, .inr (7, [.ref en, .int 0, .ref nt, .ref pl, .int 0]))] := hD
                        refine lv_aload_n hx hb dX9_join_215 rfl (lv_at hl 2 rfl) ?_
                        refine lv_dup hx hb dX9_join_216 rfl ?_
                        refine va_get (D := D) (ci := 7) (v := .int 0) (C := RX9) (T := TX9) (N := 5) hx hb hts n_X9_join_X9 hown hK hP 1 rfl rfl 1 (by decide) (hts (.fieldLink RX9 54 "FaceMapModel" "count" "I") (List.mem_of_getElem? (i := 1) rfl)) (fun _ h9 => h9) rfl dX9_join_217 ?_
                        refine lv_iconst (v := 1) hx hb dX9_join_220 (by decide) ?_
                        refine lv_iadd hx hb dX9_join_221 ?_
                        refine q_vi (v := 1) (by decide) ?_
                        refine va_put (D := D) (ci := 7) (v := .int 1) (ty := .int) (C := RX9) (T := TX9) (N := 5) hx hb hts n_X9_join_X9 tyX9 tyX9_ok nmX9 hown hK hP hD hS 1 rfl rfl 1 (by decide) (hts (.fieldLink RX9 54 "FaceMapModel" "count" "I") (List.mem_of_getElem? (i := 1) rfl)) (fun _ h9 => h9) rfl (by decide +kernel) rfl rfl (Nat.le_of_ble_eq_true rfl) dX9_join_222 (fun H locs hP hD hS => ?_)
                        have hP : va_P D q_cl [(en, .inl (aI, 6000, .inl (upd (upd (upd (upd fe 0 x1) 1 y1) 2 x2) 3 y2))), (h0, .inr (7, [.ref en, .int 1, .ref nt, .ref pl, .int 0]))] H := hP
                        have hD : va_D A [(en, .inl (aI, 6000, .inl (upd (upd (upd (upd fe 0 x1) 1 y1) 2 x2) 3 y2))), (h0, .inr (7, [.ref en, .int 1, .ref nt, .ref pl, .int 0]))] := hD
                        refine lv_aload_n hx hb dX9_join_225 rfl (lv_at hl 2 rfl) ?_
                        refine lv_iconst (v := 0) hx hb dX9_join_226 (by decide) ?_
                        refine va_put (D := D) (ci := 7) (v := .int 0) (ty := .boolean) (C := RX9) (T := TX9) (N := 5) hx hb hts n_X9_join_X9 tyX9 tyX9_ok nmX9 hown hK hP hD hS 1 rfl rfl 4 (by decide) (hts (.fieldLink RX9 82 "FaceMapModel" "isBuilt" "Z") (List.mem_of_getElem? (i := 3) rfl)) (fun _ h9 => h9) rfl (by decide +kernel) rfl rfl (Nat.le_of_ble_eq_true rfl) dX9_join_227 (fun H locs hP hD hS => ?_)
                        have hP : va_P D q_cl [(en, .inl (aI, 6000, .inl (upd (upd (upd (upd fe 0 x1) 1 y1) 2 x2) 3 y2))), (h0, .inr (7, [.ref en, .int 1, .ref nt, .ref pl, .int 0]))] H := hP
                        have hD : va_D A [(en, .inl (aI, 6000, .inl (upd (upd (upd (upd fe 0 x1) 1 y1) 2 x2) 3 y2))), (h0, .inr (7, [.ref en, .int 1, .ref nt, .ref pl, .int 0]))] := hD
                        refine lv_aload_n hx hb dX9_join_230 rfl (lv_at hl 2 rfl) ?_
                        refine va_get (D := D) (ci := 7) (v := .int 1) (C := RX9) (T := TX9) (N := 5) hx hb hts n_X9_join_X9 hown hK hP 1 rfl rfl 1 (by decide) (hts (.fieldLink RX9 54 "FaceMapModel" "count" "I") (List.mem_of_getElem? (i := 1) rfl)) (fun _ h9 => h9) rfl dX9_join_231 ?_
                        have hP9 := hP.sub (ws' := []) [] rfl
                        have hD9 := hD.sub (ws' := []) [] (by decide) rfl
                        exact q_reti () hx hb hr hlocks hK hP9 hD9 hS (Nat.le_of_ble_eq_true rfl) (Nat.le_of_ble_eq_true rfl) ((by first | exact joi_n1 (by assumption) | exact joi_n2 (by assumption) | exact joi_e (by assumption) (by assumption) | exact joi_x (by assumption) (by assumption) (by assumption) | exact joi_y (by assumption) (by assumption) (by assumption) | exact joi_c _ _ _ _)) dX9_join_234
                      · exact absurd c_23 (by decide)
                    · exact absurd c_22 (by decide)
                  · exact absurd c_21 (by decide)
                · exact absurd c_20 (by decide)
              · refine lv_aload_n hx hb dX9_join_41 rfl (lv_at hl 0 rfl) ?_
                refine lv_iload_n hx hb dX9_join_42 rfl (lv_at hl 3 rfl) ?_
                refine lv_iload hx hb dX9_join_43 (lv_at hl 4 rfl) ?_
                refine lv_iload_n hx hb dX9_join_45 rfl (lv_at hl 1 rfl) ?_
                refine lv_iload_n hx hb dX9_join_46 rfl (lv_at hl 2 rfl) ?_
                refine q_i (wr := []) (q_runV (As := [.int x2, .int y2, .int x1, .int y1]) (rest := []) ⟨hx, hb, hml, hown, hts⟩ (c_X9_join_low l D aI aL aZ h0 en nt pl fe x2 y2 x1 y1 (cmp_swap (by assumption)) _) (cwV 4 hts g_X9_join_X9_join_69 rfl rfl rfl (by decide +kernel) ⟨Nat.le_of_ble_eq_true rfl, Nat.le_of_ble_eq_true rfl⟩) hK hN hP hD [0, 1] rfl (by decide) rfl rfl rfl hl.1 rfl (Nat.le_of_ble_eq_true rfl) dX9_join_47 ⟨Nat.le_of_ble_eq_true rfl, Nat.le_of_ble_eq_true rfl⟩) hP hD hS hA [0, 1] [] rfl rfl (by decide) (by decide) (fun r_24 u_24 H locs hw hP hD hS => ?_)
                subst hw
                have hP : va_P D q_cl [] H := hP
                have hD : va_D A [] := hD
                have hP9 := hP.sub (ws' := []) [] rfl
                have hD9 := hD.sub (ws' := []) [] (by decide) rfl
                exact q_reti () hx hb hr hlocks hK hP9 hD9 hS (Nat.le_of_ble_eq_true rfl) (Nat.le_of_ble_eq_true rfl) ((by first | exact joi_n1 (by assumption) | exact joi_n2 (by assumption) | exact joi_e (by assumption) (by assumption) | exact joi_x (by assumption) (by assumption) (by assumption) | exact joi_y (by assumption) (by assumption) (by assumption) | exact joi_c _ _ _ _)) dX9_join_50
            · refine lv_iconst (v := (-1)) hx hb dX9_join_28 (by decide) ?_
              have hP9 := hP.sub (ws' := []) [] rfl
              have hD9 := hD.sub (ws' := []) [] (by decide) rfl
              exact q_reti () hx hb hr hlocks hK hP9 hD9 hS (Nat.le_of_ble_eq_true rfl) (Nat.le_of_ble_eq_true rfl) ((by first | exact joi_n1 (by assumption) | exact joi_n2 (by assumption) | exact joi_e (by assumption) (by assumption) | exact joi_x (by assumption) (by assumption) (by assumption) | exact joi_y (by assumption) (by assumption) (by assumption) | exact joi_c _ _ _ _)) dX9_join_29
      · have hP : va_P D q_cl [(h0, .inr (7, [.ref en, .int 0, .ref nt, .ref pl, .int 0])), (en, .inl (aI, 6000, .inl fe))] H := hP
        have hD : va_D A [(h0, .inr (7, [.ref en, .int 0, .ref nt, .ref pl, .int 0])), (en, .inl (aI, 6000, .inl fe))] := hD
        refine lv_if_eq (tgt := 28) hx hb dX9_join_14 (by decide) (fun c_25 => ?_) (fun c_25 => ?_)
        · refine lv_iconst (v := (-1)) hx hb dX9_join_28 (by decide) ?_
          have hP9 := hP.sub (ws' := []) [] rfl
          have hD9 := hD.sub (ws' := []) [] (by decide) rfl
          exact q_reti () hx hb hr hlocks hK hP9 hD9 hS (Nat.le_of_ble_eq_true rfl) (Nat.le_of_ble_eq_true rfl) ((by first | exact joi_n1 (by assumption) | exact joi_n2 (by assumption) | exact joi_e (by assumption) (by assumption) | exact joi_x (by assumption) (by assumption) (by assumption) | exact joi_y (by assumption) (by assumption) (by assumption) | exact joi_c _ _ _ _)) dX9_join_29
        · exact absurd c_25 (by decide)
  · have hP : va_P D q_cl [(h0, .inr (7, [.ref en, .int 0, .ref nt, .ref pl, .int 0])), (en, .inl (aI, 6000, .inl fe))] H := hP
    have hD : va_D A [(h0, .inr (7, [.ref en, .int 0, .ref nt, .ref pl, .int 0])), (en, .inl (aI, 6000, .inl fe))] := hD
    refine lv_if_eq (tgt := 28) hx hb dX9_join_5 (by decide) (fun c_26 => ?_) (fun c_26 => ?_)
    · refine lv_iconst (v := (-1)) hx hb dX9_join_28 (by decide) ?_
      have hP9 := hP.sub (ws' := []) [] rfl
      have hD9 := hD.sub (ws' := []) [] (by decide) rfl
      exact q_reti () hx hb hr hlocks hK hP9 hD9 hS (Nat.le_of_ble_eq_true rfl) (Nat.le_of_ble_eq_true rfl) ((by first | exact joi_n1 (by assumption) | exact joi_n2 (by assumption) | exact joi_e (by assumption) (by assumption) | exact joi_x (by assumption) (by assumption) (by assumption) | exact joi_y (by assumption) (by assumption) (by assumption) | exact joi_c _ _ _ _)) dX9_join_29
    · exact absurd c_26 (by decide)
def vsX9_cut : List Cond := .code yX9_cut cX9_cut 7 (some .boolean) :: ([.methodLink RX9 58 yX9_compare, .static yX9_compare, .initialized RX9, .code yX9_compare cX9_compare 4 (some .int), .methodLink RX9 72 yX9_from, .instanceMethod yX9_from, .selects RX9 yX9_from yX9_from, .code yX9_from cX9_from 7 (some .int), .fieldLink RX9 54 "FaceMapModel" "count" "I", .methodLink RX9 75 yX9_isAt, .instanceMethod yX9_isAt, .selects RX9 yX9_isAt yX9_isAt, .code yX9_isAt cX9_isAt 6 (some .boolean), .methodLink RX9 86 yX9_cut, .instanceMethod yX9_cut, .selects RX9 yX9_cut yX9_cut] ++ wsX90)
set_option maxRecDepth 20000 in
theorem g_X9_cut_X9_compare_58 : GoodIn vsX9_cut (va_wsS RX9 58 yX9_compare vsX9_compare) := goodIn_r _ [1, 2, 3, 4] rfl (by decide +kernel)
set_option maxRecDepth 20000 in
theorem g_X9_cut_X9_from_72 : GoodIn vsX9_cut (wsV RX9 72 RX9 yX9_from vsX9_from) := goodIn_r _ [5, 6, 7, 3, 8, 9, 17, 18, 19, 20, 21] rfl (by decide +kernel)
set_option maxRecDepth 20000 in
theorem g_X9_cut_X9_isAt_75 : GoodIn vsX9_cut (wsV RX9 75 RX9 yX9_isAt vsX9_isAt) := goodIn_r _ [10, 11, 12, 3, 13, 9, 17, 18, 19, 20, 21] rfl (by decide +kernel)
set_option maxHeartbeats 4000000 in
set_option maxRecDepth 100000 in
/-- cut, the lesser place first -/
theorem c_X9_cut_low (l : Launch) (D : va_G) (aI aL aZ : ClassId) (h0 : Nat) (en : Nat) (nt : Nat) (pl : Nat) (x1 : Int32) (y1 : Int32) (x2 : Int32) (y2 : Int32) (hc : cmp4 x1 y1 x2 y2 ≤ 0) (sz : Nat) : MI l D q_cl (q_ty aI aL aZ) yX9_cut vsX9_cut 1 0 0 [.ref h0, .int x1, .int y1, .int x2, .int y2] [(h0, .inr (7, [.ref en, .int 0, .ref nt, .ref pl, .int 0]))] sz (fun (r : Int32) (u : Unit) => r = 0) (fun (u : Unit) => ([] : va_W)) := by
  refine q_in cX9_cut 7 (some .boolean) (qQi D q_cl (q_ty aI aL aZ) _ _) (by decide) rfl (Nat.le_of_ble_eq_true rfl) ?_
  intro p e s m args below meth c A ls hat hP hD hS hl
  obtain ⟨hx, hb, hr, hts, hown, hlocks, hml, hin, hK, hN, hA⟩ := hat
  have hown : s.vm.findClass RX9 = some m.cls := hown
  have hl : lv_has ls 7 [(0, .ref h0), (1, .int x1), (2, .int y1), (3, .int x2), (4, .int y2)] := hl
  refine lv_iload_n hx hb dX9_cut_0 rfl (lv_at hl 1 rfl) ?_
  refine lv_iload_n hx hb dX9_cut_1 rfl (lv_at hl 2 rfl) ?_
  refine lv_iload_n hx hb dX9_cut_2 rfl (lv_at hl 3 rfl) ?_
  refine lv_iload hx hb dX9_cut_3 (lv_at hl 4 rfl) ?_
  refine q_i (wr := [(h0, .inr (7, [.ref en, .int 0, .ref nt, .ref pl, .int 0]))]) (q_runS (As := [.int x1, .int y1, .int x2, .int y2]) (rest := []) ⟨hx, hb, hml, hown, hts⟩ (c_X9_compare l D aI aL aZ x1 y1 x2 y2 _) (va_cwS 4 hts g_X9_cut_X9_compare_58 rfl rfl rfl (by decide +kernel) ⟨Nat.le_of_ble_eq_true rfl, Nat.le_of_ble_eq_true rfl⟩) hK hN hP hD [] rfl (by decide) rfl hl.1 rfl (Nat.le_of_ble_eq_true rfl) dX9_cut_5 ⟨Nat.le_of_ble_eq_true rfl, Nat.le_of_ble_eq_true rfl⟩) hP hD hS hA [] [0] rfl rfl (by decide) (by decide) (fun r_1 u_1 H locs hw hP hD hS => ?_)
  subst hw
  have hP : va_P D q_cl [(h0, .inr (7, [.ref en, .int 0, .ref nt, .ref pl, .int 0]))] H := hP
  have hD : va_D A [(h0, .inr (7, [.ref en, .int 0, .ref nt, .ref pl, .int 0]))] := hD
  refine lv_if_le (tgt := 21) hx hb dX9_cut_8 (by decide) (fun c_2 => ?_) (fun c_2 => ?_)
  · refine lv_aload_n hx hb dX9_cut_21 rfl (lv_at hl 0 rfl) ?_
    refine lv_iload_n hx hb dX9_cut_22 rfl (lv_at hl 1 rfl) ?_
    refine lv_iload_n hx hb dX9_cut_23 rfl (lv_at hl 2 rfl) ?_
    refine lv_iload_n hx hb dX9_cut_24 rfl (lv_at hl 3 rfl) ?_
    refine lv_iload hx hb dX9_cut_25 (lv_at hl 4 rfl) ?_
    refine q_i (wr := []) (q_runV (As := [.int x1, .int y1, .int x2, .int y2]) (rest := []) ⟨hx, hb, hml, hown, hts⟩ (c_X9_from l D aI aL aZ h0 en nt pl 0 x1 y1 x2 y2 _) (cwV 4 hts g_X9_cut_X9_from_72 rfl rfl rfl (by decide +kernel) ⟨Nat.le_of_ble_eq_true rfl, Nat.le_of_ble_eq_true rfl⟩) hK hN hP hD [0] rfl (by decide) rfl rfl rfl hl.1 rfl (Nat.le_of_ble_eq_true rfl) dX9_cut_27 ⟨Nat.le_of_ble_eq_true rfl, Nat.le_of_ble_eq_true rfl⟩) hP hD hS hA [0] [] rfl rfl (by decide) (by decide) (fun r_3 u_3 H locs hw hP hD hS => ?_)
    subst hw
    have hP : va_P D q_cl [(h0, .inr (7, [.ref en, .int 0, .ref nt, .ref pl, .int 0]))] H := hP
    have hD : va_D A [(h0, .inr (7, [.ref en, .int 0, .ref nt, .ref pl, .int 0]))] := hD
    refine lv_istore (lv' := [(5, .int 0), (0, .ref h0), (1, .int x1), (2, .int y1), (3, .int x2), (4, .int y2)]) hx hb dX9_cut_30 hl (by decide) rfl (fun ls hl => ?_)
    refine lv_aload_n hx hb dX9_cut_32 rfl (lv_at hl 1 rfl) ?_
    refine lv_iload hx hb dX9_cut_33 (lv_at hl 0 rfl) ?_
    refine lv_iload_n hx hb dX9_cut_35 rfl (lv_at hl 2 rfl) ?_
    refine lv_iload_n hx hb dX9_cut_36 rfl (lv_at hl 3 rfl) ?_
    refine lv_iload_n hx hb dX9_cut_37 rfl (lv_at hl 4 rfl) ?_
    refine lv_iload hx hb dX9_cut_38 (lv_at hl 5 rfl) ?_
    refine q_i (wr := []) (q_runV (As := [.int 0, .int x1, .int y1, .int x2, .int y2]) (rest := []) ⟨hx, hb, hml, hown, hts⟩ (c_X9_isAt l D aI aL aZ h0 en nt pl 0 x1 y1 x2 y2 _) (cwV 5 hts g_X9_cut_X9_isAt_75 rfl rfl rfl (by decide +kernel) ⟨Nat.le_of_ble_eq_true rfl, Nat.le_of_ble_eq_true rfl⟩) hK hN hP hD [0] rfl (by decide) rfl rfl rfl hl.1 rfl (Nat.le_of_ble_eq_true rfl) dX9_cut_40 ⟨Nat.le_of_ble_eq_true rfl, Nat.le_of_ble_eq_true rfl⟩) hP hD hS hA [0] [] rfl rfl (by decide) (by decide) (fun r_4 u_4 H locs hw hP hD hS => ?_)
    subst hw
    have hP : va_P D q_cl [(h0, .inr (7, [.ref en, .int 0, .ref nt, .ref pl, .int 0]))] H := hP
    have hD : va_D A [(h0, .inr (7, [.ref en, .int 0, .ref nt, .ref pl, .int 0]))] := hD
    refine lv_if_ne (tgt := 48) hx hb dX9_cut_43 (by decide) (fun c_5 => ?_) (fun c_5 => ?_)
    · exact absurd c_5 (by decide)
    · refine lv_iconst (v := 0) hx hb dX9_cut_46 (by decide) ?_
      have hP9 := hP.sub (ws' := []) [] rfl
      have hD9 := hD.sub (ws' := []) [] (by decide) rfl
      exact q_retz () hx hb hr (by decide) hlocks hK hP9 hD9 hS (Nat.le_of_ble_eq_true rfl) (Nat.le_of_ble_eq_true rfl) (rfl) dX9_cut_47
  · exact absurd hc c_2
set_option maxRecDepth 20000 in
theorem g_X9_cut_X9_cut_86 : GoodIn vsX9_cut (wsV RX9 86 RX9 yX9_cut vsX9_cut) := goodIn_r _ [14, 15, 16, 3, 0, 1, 2, 3, 4, 5, 6, 7, 8, 9, 10, 11, 12, 13, 14, 15, 16, 17, 18, 19, 20, 21] rfl (by decide +kernel)
set_option maxHeartbeats 4000000 in
set_option maxRecDepth 100000 in
/-- FaceMapModel.cut -/
theorem c_X9_cut (l : Launch) (D : va_G) (aI aL aZ : ClassId) (h0 : Nat) (en : Nat) (nt : Nat) (pl : Nat) (x1 : Int32) (y1 : Int32) (x2 : Int32) (y2 : Int32) (sz : Nat) : MI l D q_cl (q_ty aI aL aZ) yX9_cut vsX9_cut 2 0 0 [.ref h0, .int x1, .int y1, .int x2, .int y2] [(h0, .inr (7, [.ref en, .int 0, .ref nt, .ref pl, .int 0]))] sz (fun (r : Int32) (u : Unit) => r = 0) (fun (u : Unit) => ([] : va_W)) := by
  refine q_in cX9_cut 7 (some .boolean) (qQi D q_cl (q_ty aI aL aZ) _ _) (by decide) rfl (Nat.le_of_ble_eq_true rfl) ?_
  intro p e s m args below meth c A ls hat hP hD hS hl
  obtain ⟨hx, hb, hr, hts, hown, hlocks, hml, hin, hK, hN, hA⟩ := hat
  have hown : s.vm.findClass RX9 = some m.cls := hown
  have hl : lv_has ls 7 [(0, .ref h0), (1, .int x1), (2, .int y1), (3, .int x2), (4, .int y2)] := hl
  refine lv_iload_n hx hb dX9_cut_0 rfl (lv_at hl 1 rfl) ?_
  refine lv_iload_n hx hb dX9_cut_1 rfl (lv_at hl 2 rfl) ?_
  refine lv_iload_n hx hb dX9_cut_2 rfl (lv_at hl 3 rfl) ?_
  refine lv_iload hx hb dX9_cut_3 (lv_at hl 4 rfl) ?_
  refine q_i (wr := [(h0, .inr (7, [.ref en, .int 0, .ref nt, .ref pl, .int 0]))]) (q_runS (As := [.int x1, .int y1, .int x2, .int y2]) (rest := []) ⟨hx, hb, hml, hown, hts⟩ (c_X9_compare l D aI aL aZ x1 y1 x2 y2 _) (va_cwS 4 hts g_X9_cut_X9_compare_58 rfl rfl rfl (by decide +kernel) ⟨Nat.le_of_ble_eq_true rfl, Nat.le_of_ble_eq_true rfl⟩) hK hN hP hD [] rfl (by decide) rfl hl.1 rfl (Nat.le_of_ble_eq_true rfl) dX9_cut_5 ⟨Nat.le_of_ble_eq_true rfl, Nat.le_of_ble_eq_true rfl⟩) hP hD hS hA [] [0] rfl rfl (by decide) (by decide) (fun r_1 u_1 H locs hw hP hD hS => ?_)
  subst hw
  have hP : va_P D q_cl [(h0, .inr (7, [.ref en, .int 0, .ref nt, .ref pl, .int 0]))] H := hP
  have hD : va_D A [(h0, .inr (7, [.ref en, .int 0, .ref nt, .ref pl, .int 0]))] := hD
  refine lv_if_le (tgt := 21) hx hb dX9_cut_8 (by decide) (fun c_2 => ?_) (fun c_2 => ?_)
  · refine lv_aload_n hx hb dX9_cut_21 rfl (lv_at hl 0 rfl) ?_
    refine lv_iload_n hx hb dX9_cut_22 rfl (lv_at hl 1 rfl) ?_
    refine lv_iload_n hx hb dX9_cut_23 rfl (lv_at hl 2 rfl) ?_
    refine lv_iload_n hx hb dX9_cut_24 rfl (lv_at hl 3 rfl) ?_
    refine lv_iload hx hb dX9_cut_25 (lv_at hl 4 rfl) ?_
    refine q_i (wr := []) (q_runV (As := [.int x1, .int y1, .int x2, .int y2]) (rest := []) ⟨hx, hb, hml, hown, hts⟩ (c_X9_from l D aI aL aZ h0 en nt pl 0 x1 y1 x2 y2 _) (cwV 4 hts g_X9_cut_X9_from_72 rfl rfl rfl (by decide +kernel) ⟨Nat.le_of_ble_eq_true rfl, Nat.le_of_ble_eq_true rfl⟩) hK hN hP hD [0] rfl (by decide) rfl rfl rfl hl.1 rfl (Nat.le_of_ble_eq_true rfl) dX9_cut_27 ⟨Nat.le_of_ble_eq_true rfl, Nat.le_of_ble_eq_true rfl⟩) hP hD hS hA [0] [] rfl rfl (by decide) (by decide) (fun r_3 u_3 H locs hw hP hD hS => ?_)
    subst hw
    have hP : va_P D q_cl [(h0, .inr (7, [.ref en, .int 0, .ref nt, .ref pl, .int 0]))] H := hP
    have hD : va_D A [(h0, .inr (7, [.ref en, .int 0, .ref nt, .ref pl, .int 0]))] := hD
    refine lv_istore (lv' := [(5, .int 0), (0, .ref h0), (1, .int x1), (2, .int y1), (3, .int x2), (4, .int y2)]) hx hb dX9_cut_30 hl (by decide) rfl (fun ls hl => ?_)
    refine lv_aload_n hx hb dX9_cut_32 rfl (lv_at hl 1 rfl) ?_
    refine lv_iload hx hb dX9_cut_33 (lv_at hl 0 rfl) ?_
    refine lv_iload_n hx hb dX9_cut_35 rfl (lv_at hl 2 rfl) ?_
    refine lv_iload_n hx hb dX9_cut_36 rfl (lv_at hl 3 rfl) ?_
    refine lv_iload_n hx hb dX9_cut_37 rfl (lv_at hl 4 rfl) ?_
    refine lv_iload hx hb dX9_cut_38 (lv_at hl 5 rfl) ?_
    refine q_i (wr := []) (q_runV (As := [.int 0, .int x1, .int y1, .int x2, .int y2]) (rest := []) ⟨hx, hb, hml, hown, hts⟩ (c_X9_isAt l D aI aL aZ h0 en nt pl 0 x1 y1 x2 y2 _) (cwV 5 hts g_X9_cut_X9_isAt_75 rfl rfl rfl (by decide +kernel) ⟨Nat.le_of_ble_eq_true rfl, Nat.le_of_ble_eq_true rfl⟩) hK hN hP hD [0] rfl (by decide) rfl rfl rfl hl.1 rfl (Nat.le_of_ble_eq_true rfl) dX9_cut_40 ⟨Nat.le_of_ble_eq_true rfl, Nat.le_of_ble_eq_true rfl⟩) hP hD hS hA [0] [] rfl rfl (by decide) (by decide) (fun r_4 u_4 H locs hw hP hD hS => ?_)
    subst hw
    have hP : va_P D q_cl [(h0, .inr (7, [.ref en, .int 0, .ref nt, .ref pl, .int 0]))] H := hP
    have hD : va_D A [(h0, .inr (7, [.ref en, .int 0, .ref nt, .ref pl, .int 0]))] := hD
    refine lv_if_ne (tgt := 48) hx hb dX9_cut_43 (by decide) (fun c_5 => ?_) (fun c_5 => ?_)
    · exact absurd c_5 (by decide)
    · refine lv_iconst (v := 0) hx hb dX9_cut_46 (by decide) ?_
      have hP9 := hP.sub (ws' := []) [] rfl
      have hD9 := hD.sub (ws' := []) [] (by decide) rfl
      exact q_retz () hx hb hr (by decide) hlocks hK hP9 hD9 hS (Nat.le_of_ble_eq_true rfl) (Nat.le_of_ble_eq_true rfl) (rfl) dX9_cut_47
  · refine lv_aload_n hx hb dX9_cut_11 rfl (lv_at hl 0 rfl) ?_
    refine lv_iload_n hx hb dX9_cut_12 rfl (lv_at hl 3 rfl) ?_
    refine lv_iload hx hb dX9_cut_13 (lv_at hl 4 rfl) ?_
    refine lv_iload_n hx hb dX9_cut_15 rfl (lv_at hl 1 rfl) ?_
    refine lv_iload_n hx hb dX9_cut_16 rfl (lv_at hl 2 rfl) ?_
    refine q_i (wr := []) (q_runV (As := [.int x2, .int y2, .int x1, .int y1]) (rest := []) ⟨hx, hb, hml, hown, hts⟩ (c_X9_cut_low l D aI aL aZ h0 en nt pl x2 y2 x1 y1 (cmp_swap (by assumption)) _) (cwV 4 hts g_X9_cut_X9_cut_86 rfl rfl rfl (by decide +kernel) ⟨Nat.le_of_ble_eq_true rfl, Nat.le_of_ble_eq_true rfl⟩) hK hN hP hD [0] rfl (by decide) rfl rfl rfl hl.1 rfl (Nat.le_of_ble_eq_true rfl) dX9_cut_17 ⟨Nat.le_of_ble_eq_true rfl, Nat.le_of_ble_eq_true rfl⟩) hP hD hS hA [0] [] rfl rfl (by decide) (by decide) (fun r_6 u_6 H locs hw hP hD hS => ?_)
    subst hw
    have hP : va_P D q_cl [] H := hP
    have hD : va_D A [] := hD
    have hP9 := hP.sub (ws' := []) [] rfl
    have hD9 := hD.sub (ws' := []) [] (by decide) rfl
    exact q_retz () hx hb hr (by decide) hlocks hK hP9 hD9 hS (Nat.le_of_ble_eq_true rfl) (Nat.le_of_ble_eq_true rfl) (rfl) dX9_cut_20
def vsX9_build : List Cond := .code yX9_build cX9_build 2 none :: ([.fieldLink RX9 82 "FaceMapModel" "isBuilt" "Z", .fieldLink RX9 48 "FaceMapModel" "nodes" "LFaceMapModel$Places;", .fieldLink RX9 54 "FaceMapModel" "count" "I", .fieldLink RX9 41 "FaceMapModel" "net" "LFaceMapModel$Net;", .fieldLink RX9 103 "FaceMapModel$Places" "size" "I", .fieldLink RX9 106 "FaceMapModel$Net" "nodes" "I", .fieldLink RX9 108 "FaceMapModel$Net" "pieces" "I", .methodLink RX9 90 yX8_clear, .instanceMethod yX8_clear, .selects RX8 yX8_clear yX8_clear, .initialized RX8, .code yX8_clear cX8_clear 1 none, .fieldLink RX8 13 "FaceMapModel$Places" "size" "I", .methodLink RX9 97 yX8_sort, .instanceMethod yX8_sort, .selects RX8 yX8_sort yX8_sort, .code yX8_sort cX8_sort 4 none, .methodLink RX9 100 yX7_room, .instanceMethod yX7_room, .selects RX7 yX7_room yX7_room, .initialized RX7, .code yX7_room cX7_room 3 none, .fieldLink RX7 7 "FaceMapModel$Net" "x" "[I", .arrayClass .int, .fieldLink RX7 13 "FaceMapModel$Net" "y" "[I", .fieldLink RX7 22 "FaceMapModel$Net" "begins" "[I", .fieldLink RX7 44 "FaceMapModel$Net" "part" "[I", .fieldLink RX7 16 "FaceMapModel$Net" "low" "[I", .fieldLink RX7 19 "FaceMapModel$Net" "high" "[I", .fieldLink RX7 25 "FaceMapModel$Net" "out" "[I", .fieldLink RX7 28 "FaceMapModel$Net" "rank" "[I", .fieldLink RX7 31 "FaceMapModel$Net" "round" "[I", .arrayClass .long, .fieldLink RX7 34 "FaceMapModel$Net" "area" "[J", .fieldLink RX7 38 "FaceMapModel$Net" "least" "[I", .fieldLink RX7 41 "FaceMapModel$Net" "faceOf" "[I", .arrayClass .boolean, .fieldLink RX7 47 "FaceMapModel$Net" "odd" "[Z", .methodLink RX9 132 yX7_build, .instanceMethod yX7_build, .selects RX7 yX7_build yX7_build, .code yX7_build cX7_build 2 none, .fieldLink RX7 67 "FaceMapModel$Net" "nodes" "I", .fieldLink RX7 71 "FaceMapModel$Net" "pieces" "I", .fieldLink RX7 87 "FaceMapModel$Net" "rounds" "I", .methodLink RX7 81 yX7_sortOut, .instanceMethod yX7_sortOut, .selects RX7 yX7_sortOut yX7_sortOut, .code yX7_sortOut cX7_sortOut 6 none, .methodLink RX7 94 yX7_number, .instanceMethod yX7_number, .selects RX7 yX7_number yX7_number, .code yX7_number cX7_number 5 none, .fieldLink RX7 107 "FaceMapModel$Net" "faces" "I"] ++ wsX90 ++ wsX80 ++ wsX70)
set_option maxRecDepth 20000 in
theorem n_X9_build_X9 : ∀ w ∈ wsX90, w ∈ vsX9_build := fun _ h => List.mem_cons_of_mem _ (List.mem_append_left _ (List.mem_append_left _ (List.mem_append_right _ h)))
set_option maxRecDepth 20000 in
theorem g_X9_build_X8_clear_90 : GoodIn vsX9_build (wsV RX9 90 RX8 yX8_clear vsX8_clear) := goodIn_r _ [8, 9, 10, 11, 12, 13, 60, 61] rfl (by decide +kernel)
set_option maxRecDepth 20000 in
theorem g_X9_build_X8_sort_97 : GoodIn vsX9_build (wsV RX9 97 RX8 yX8_sort vsX8_sort) := goodIn_r _ [14, 15, 16, 11, 17, 13, 60, 61] rfl (by decide +kernel)
set_option maxRecDepth 20000 in
theorem g_X9_build_X7_room_100 : GoodIn vsX9_build (wsV RX9 100 RX7 yX7_room vsX7_room) := goodIn_r _ [18, 19, 20, 21, 22, 23, 24, 25, 26, 27, 28, 29, 30, 31, 32, 33, 34, 35, 36, 37, 38, 62, 63, 64, 65, 66, 67, 68, 69, 70, 71, 72, 73, 74, 75, 76, 77, 78] rfl (by decide +kernel)
set_option maxRecDepth 20000 in
theorem n_X9_build_X8 : ∀ w ∈ wsX80, w ∈ vsX9_build := fun _ h => List.mem_cons_of_mem _ (List.mem_append_left _ (List.mem_append_right _ h))
set_option maxRecDepth 20000 in
theorem n_X9_build_X7 : ∀ w ∈ wsX70, w ∈ vsX9_build := fun _ h => List.mem_cons_of_mem _ (List.mem_append_right _ h)
set_option maxRecDepth 20000 in
theorem g_X9_build_X7_build_132 : GoodIn vsX9_build (wsV RX9 132 RX7 yX7_build vsX7_build) := goodIn_r _ [39, 40, 41, 21, 42, 43, 44, 45, 46, 47, 48, 21, 49, 26, 50, 51, 52, 53, 54, 62, 63, 64, 65, 66, 67, 68, 69, 70, 71, 72, 73, 74, 75, 76, 77, 78] rfl (by decide +kernel)
set_option maxHeartbeats 4000000 in
set_option maxRecDepth 100000 in
/-- build of none -/
theorem c_X9_build (l : Launch) (D : va_G) (aI aL aZ : ClassId) (h0 : Nat) (en : Nat) (nt : Nat) (pl : Nat) (row : Nat) (nx : Nat) (ny : Nat) (nl : Nat) (nh : Nat) (nb : Nat) (no : Nat) (nr : Nat) (nd : Nat) (na : Nat) (ns : Nat) (nf : Nat) (np : Nat) (nq : Nat) (fx : Nat → Int32) (fl : Nat → Int32) (sz : Nat) : MV l D q_cl (q_ty aI aL aZ) yX9_build vsX9_build 2 13 36005 [.ref h0] [(h0, .inr (7, [.ref en, .int 0, .ref nt, .ref pl, .int 0])), (nt, .inr (5, [.ref nx, .ref ny, .int 0, .ref nl, .ref nh, .int 0, .ref nb, .ref no, .ref nr, .ref nd, .ref na, .ref ns, .ref nf, .int 0, .ref np, .int 0, .ref nq])), (nx, .inl (aI, 0, .inl fx)), (nl, .inl (aI, 0, .inl fl)), (pl, .inr (6, [.ref row, .int 0]))] sz (fun (u : Nat × Nat × Nat × Nat × Nat × Nat × Nat × Nat × Nat × Nat × Nat × Nat × Nat) => True) (fun (u : Nat × Nat × Nat × Nat × Nat × Nat × Nat × Nat × Nat × Nat × Nat × Nat × Nat) => [(h0, .inr (7, [.ref en, .int 0, .ref nt, .ref pl, .int 1])), (nt, .inr (5, [.ref u.1, .ref u.2.1, .int 0, .ref u.2.2.1, .ref u.2.2.2.1, .int 0, .ref u.2.2.2.2.1, .ref u.2.2.2.2.2.1, .ref u.2.2.2.2.2.2.1, .ref u.2.2.2.2.2.2.2.1, .ref u.2.2.2.2.2.2.2.2.1, .ref u.2.2.2.2.2.2.2.2.2.1, .ref u.2.2.2.2.2.2.2.2.2.2.1, .int 0, .ref u.2.2.2.2.2.2.2.2.2.2.2.1, .int 1, .ref u.2.2.2.2.2.2.2.2.2.2.2.2]))]) := by
  refine q_in cX9_build 2 none (qQv D q_cl (q_ty aI aL aZ) _ _) (by decide) rfl (Nat.le_of_ble_eq_true rfl) ?_
  intro p e s m args below meth c A ls hat hP hD hS hl
  obtain ⟨hx, hb, hr, hts, hown, hlocks, hml, hin, hK, hN, hA⟩ := hat
  have hown : s.vm.findClass RX9 = some m.cls := hown
  have hl : lv_has ls 2 [(0, .ref h0)] := hl
  refine lv_aload_n hx hb dX9_build_0 rfl (lv_at hl 0 rfl) ?_
  refine va_get (D := D) (ci := 7) (v := .int 0) (C := RX9) (T := TX9) (N := 5) hx hb hts n_X9_build_X9 hown hK hP 0 rfl rfl 4 (by decide) (hts (.fieldLink RX9 82 "FaceMapModel" "isBuilt" "Z") (List.mem_of_getElem? (i := 1) rfl)) (fun _ h9 => h9) rfl dX9_build_1 ?_
  refine lv_if_eq (tgt := 8) hx hb dX9_build_4 (by decide) (fun c_1 => ?_) (fun c_1 => ?_)
  · refine lv_aload_n hx hb dX9_build_8 rfl (lv_at hl 0 rfl) ?_
    refine lv_iconst (v := 1) hx hb dX9_build_9 (by decide) ?_
    refine va_put (D := D) (ci := 7) (v := .int 1) (ty := .boolean) (C := RX9) (T := TX9) (N := 5) hx hb hts n_X9_build_X9 tyX9 tyX9_ok nmX9 hown hK hP hD hS 0 rfl rfl 4 (by decide) (hts (.fieldLink RX9 82 "FaceMapModel" "isBuilt" "Z") (List.mem_of_getElem? (i := 1) rfl)) (fun _ h9 => h9) rfl (by decide +kernel) rfl rfl (Nat.le_of_ble_eq_true rfl) dX9_build_10 (fun H locs hP hD hS => ?_)
    have hP : va_P D q_cl [(h0, .inr (7, [.ref en, .int 0, .ref nt, .ref pl, .int 1])), (nt, .inr (5, [.ref nx, .ref ny, .int 0, .ref nl, .ref nh, .int 0, .ref nb, .ref no, .ref nr, .ref nd, .ref na, .ref ns, .ref nf, .int 0, .ref np, .int 0, .ref nq])), (nx, .inl (aI, 0, .inl fx)), (nl, .inl (aI, 0, .inl fl)), (pl, .inr (6, [.ref row, .int 0]))] H := hP
    have hD : va_D A [(h0, .inr (7, [.ref en, .int 0, .ref nt, .ref pl, .int 1])), (nt, .inr (5, [.ref nx, .ref ny, .int 0, .ref nl, .ref nh, .int 0, .ref nb, .ref no, .ref nr, .ref nd, .ref na, .ref ns, .ref nf, .int 0, .ref np, .int 0, .ref nq])), (nx, .inl (aI, 0, .inl fx)), (nl, .inl (aI, 0, .inl fl)), (pl, .inr (6, [.ref row, .int 0]))] := hD
    refine lv_aload_n hx hb dX9_build_13 rfl (lv_at hl 0 rfl) ?_
    refine va_get (D := D) (ci := 7) (v := .ref pl) (C := RX9) (T := TX9) (N := 5) hx hb hts n_X9_build_X9 hown hK hP 0 rfl rfl 3 (by decide) (hts (.fieldLink RX9 48 "FaceMapModel" "nodes" "LFaceMapModel$Places;") (List.mem_of_getElem? (i := 2) rfl)) (fun _ h9 => h9) rfl dX9_build_14 ?_
    refine q_v (wr := [(h0, .inr (7, [.ref en, .int 0, .ref nt, .ref pl, .int 1])), (nt, .inr (5, [.ref nx, .ref ny, .int 0, .ref nl, .ref nh, .int 0, .ref nb, .ref no, .ref nr, .ref nd, .ref na, .ref ns, .ref nf, .int 0, .ref np, .int 0, .ref nq])), (nx, .inl (aI, 0, .inl fx)), (nl, .inl (aI, 0, .inl fl))]) (q_runV (As := []) (rest := []) ⟨hx, hb, hml, hown, hts⟩ (c_X8_clear l D aI aL aZ pl row _) (cwV 0 hts g_X9_build_X8_clear_90 rfl rfl rfl (by decide +kernel) ⟨Nat.le_of_ble_eq_true rfl, Nat.le_of_ble_eq_true rfl⟩) hK hN hP hD [4] rfl (by decide) rfl rfl rfl hl.1 rfl (Nat.le_of_ble_eq_true rfl) dX9_build_17 ⟨Nat.le_of_ble_eq_true rfl, Nat.le_of_ble_eq_true rfl⟩) hP hD hS hA [4] [0, 1, 2, 3] rfl rfl (by decide) (by decide) (fun u_2 H locs hw hP hD hS => ?_)
    have hP : va_P D q_cl [(h0, .inr (7, [.ref en, .int 0, .ref nt, .ref pl, .int 1])), (nt, .inr (5, [.ref nx, .ref ny, .int 0, .ref nl, .ref nh, .int 0, .ref nb, .ref no, .ref nr, .ref nd, .ref na, .ref ns, .ref nf, .int 0, .ref np, .int 0, .ref nq])), (nx, .inl (aI, 0, .inl fx)), (nl, .inl (aI, 0, .inl fl)), (pl, .inr (6, [.ref row, .int 0]))] H := hP
    have hD : va_D A [(h0, .inr (7, [.ref en, .int 0, .ref nt, .ref pl, .int 1])), (nt, .inr (5, [.ref nx, .ref ny, .int 0, .ref nl, .ref nh, .int 0, .ref nb, .ref no, .ref nr, .ref nd, .ref na, .ref ns, .ref nf, .int 0, .ref np, .int 0, .ref nq])), (nx, .inl (aI, 0, .inl fx)), (nl, .inl (aI, 0, .inl fl)), (pl, .inr (6, [.ref row, .int 0]))] := hD
    refine lv_iconst (v := 0) hx hb dX9_build_20 (by decide) ?_
    refine lv_istore_n (lv' := [(1, .int 0), (0, .ref h0)]) hx hb dX9_build_21 rfl hl (by decide) rfl (fun ls hl => ?_)
    refine lv_iload_n hx hb dX9_build_22 rfl (lv_at hl 0 rfl) ?_
    refine lv_iconst (v := 2) hx hb dX9_build_23 (by decide) ?_
    refine lv_aload_n hx hb dX9_build_24 rfl (lv_at hl 1 rfl) ?_
    refine va_get (D := D) (ci := 7) (v := .int 0) (C := RX9) (T := TX9) (N := 5) hx hb hts n_X9_build_X9 hown hK hP 0 rfl rfl 1 (by decide) (hts (.fieldLink RX9 54 "FaceMapModel" "count" "I") (List.mem_of_getElem? (i := 3) rfl)) (fun _ h9 => h9) rfl dX9_build_25 ?_
    refine lv_imul hx hb dX9_build_28 ?_
    refine q_vi (v := 0) (by decide) ?_
    refine lv_icmp_ge (tgt := 63) hx hb dX9_build_29 (by decide) (fun c_3 => ?_) (fun c_3 => ?_)
    · refine lv_aload_n hx hb dX9_build_63 rfl (lv_at hl 1 rfl) ?_
      refine va_get (D := D) (ci := 7) (v := .ref pl) (C := RX9) (T := TX9) (N := 5) hx hb hts n_X9_build_X9 hown hK hP 0 rfl rfl 3 (by decide) (hts (.fieldLink RX9 48 "FaceMapModel" "nodes" "LFaceMapModel$Places;") (List.mem_of_getElem? (i := 2) rfl)) (fun _ h9 => h9) rfl dX9_build_64 ?_
      refine q_v (wr := [(h0, .inr (7, [.ref en, .int 0, .ref nt, .ref pl, .int 1])), (nt, .inr (5, [.ref nx, .ref ny, .int 0, .ref nl, .ref nh, .int 0, .ref nb, .ref no, .ref nr, .ref nd, .ref na, .ref ns, .ref nf, .int 0, .ref np, .int 0, .ref nq])), (nx, .inl (aI, 0, .inl fx)), (nl, .inl (aI, 0, .inl fl))]) (q_runV (As := []) (rest := []) ⟨hx, hb, hml, hown, hts⟩ (c_X8_sort l D aI aL aZ pl row _) (cwV 0 hts g_X9_build_X8_sort_97 rfl rfl rfl (by decide +kernel) ⟨Nat.le_of_ble_eq_true rfl, Nat.le_of_ble_eq_true rfl⟩) hK hN hP hD [4] rfl (by decide) rfl rfl rfl hl.1 rfl (Nat.le_of_ble_eq_true rfl) dX9_build_67 ⟨Nat.le_of_ble_eq_true rfl, Nat.le_of_ble_eq_true rfl⟩) hP hD hS hA [4] [0, 1, 2, 3] rfl rfl (by decide) (by decide) (fun u_4 H locs hw hP hD hS => ?_)
      have hP : va_P D q_cl [(h0, .inr (7, [.ref en, .int 0, .ref nt, .ref pl, .int 1])), (nt, .inr (5, [.ref nx, .ref ny, .int 0, .ref nl, .ref nh, .int 0, .ref nb, .ref no, .ref nr, .ref nd, .ref na, .ref ns, .ref nf, .int 0, .ref np, .int 0, .ref nq])), (nx, .inl (aI, 0, .inl fx)), (nl, .inl (aI, 0, .inl fl)), (pl, .inr (6, [.ref row, .int 0]))] H := hP
      have hD : va_D A [(h0, .inr (7, [.ref en, .int 0, .ref nt, .ref pl, .int 1])), (nt, .inr (5, [.ref nx, .ref ny, .int 0, .ref nl, .ref nh, .int 0, .ref nb, .ref no, .ref nr, .ref nd, .ref na, .ref ns, .ref nf, .int 0, .ref np, .int 0, .ref nq])), (nx, .inl (aI, 0, .inl fx)), (nl, .inl (aI, 0, .inl fl)), (pl, .inr (6, [.ref row, .int 0]))] := hD
      refine lv_aload_n hx hb dX9_build_70 rfl (lv_at hl 1 rfl) ?_
      refine va_get (D := D) (ci := 7) (v := .ref nt) (C := RX9) (T := TX9) (N := 5) hx hb hts n_X9_build_X9 hown hK hP 0 rfl rfl 2 (by decide) (hts (.fieldLink RX9 41 "FaceMapModel" "net" "LFaceMapModel$Net;") (List.mem_of_getElem? (i := 4) rfl)) (fun _ h9 => h9) rfl dX9_build_71 ?_
      refine lv_sipush (v := 3000) hx hb dX9_build_74 (by decide) ?_
      refine lv_sipush (v := 1500) hx hb dX9_build_77 (by decide) ?_
      refine q_v (wr := [(h0, .inr (7, [.ref en, .int 0, .ref nt, .ref pl, .int 1])), (pl, .inr (6, [.ref row, .int 0]))]) (q_runV (As := [.int 3000, .int 1500]) (rest := []) ⟨hx, hb, hml, hown, hts⟩ (c_X7_room l D aI aL aZ nt nx ny nl nh nb no nr nd na ns nf np nq fx fl _) (cwV 2 hts g_X9_build_X7_room_100 rfl rfl rfl (by decide +kernel) ⟨Nat.le_of_ble_eq_true rfl, Nat.le_of_ble_eq_true rfl⟩) hK hN hP hD [1, 2, 3] rfl (by decide) rfl rfl rfl hl.1 rfl (Nat.le_of_ble_eq_true rfl) dX9_build_80 ⟨Nat.le_of_ble_eq_true rfl, Nat.le_of_ble_eq_true rfl⟩) hP hD hS hA [1, 2, 3] [0, 4] rfl rfl (by decide) (by decide) (fun u_5 H locs hw hP hD hS => ?_)
      obtain ⟨knx_5, kny_5, knl_5, knh_5, knb_5, kno_5, knr_5, knd_5, kna_5, kns_5, knf_5, knp_5, knq_5⟩ := u_5
      have hP : va_P D q_cl [(h0, .inr (7, [.ref en, .int 0, .ref nt, .ref pl, .int 1])), (pl, .inr (6, [.ref row, .int 0])), (nt, .inr (5, [.ref knx_5, .ref kny_5, .int 0, .ref knl_5, .ref knh_5, .int 0, .ref knb_5, .ref kno_5, .ref knr_5, .ref knd_5, .ref kna_5, .ref kns_5, .ref knf_5, .int 0, .ref knp_5, .int 0, .ref knq_5])), (knb_5, .inl (aI, 3001, .inl (fun _ => 0)))] H := hP
      have hD : va_D A [(h0, .inr (7, [.ref en, .int 0, .ref nt, .ref pl, .int 1])), (pl, .inr (6, [.ref row, .int 0])), (nt, .inr (5, [.ref knx_5, .ref kny_5, .int 0, .ref knl_5, .ref knh_5, .int 0, .ref knb_5, .ref kno_5, .ref knr_5, .ref knd_5, .ref kna_5, .ref kns_5, .ref knf_5, .int 0, .ref knp_5, .int 0, .ref knq_5])), (knb_5, .inl (aI, 3001, .inl (fun _ => 0)))] := hD
      refine lv_aload_n hx hb dX9_build_83 rfl (lv_at hl 1 rfl) ?_
      refine va_get (D := D) (ci := 7) (v := .ref nt) (C := RX9) (T := TX9) (N := 5) hx hb hts n_X9_build_X9 hown hK hP 0 rfl rfl 2 (by decide) (hts (.fieldLink RX9 41 "FaceMapModel" "net" "LFaceMapModel$Net;") (List.mem_of_getElem? (i := 4) rfl)) (fun _ h9 => h9) rfl dX9_build_84 ?_
      refine lv_aload_n hx hb dX9_build_87 rfl (lv_at hl 1 rfl) ?_
      refine va_get (D := D) (ci := 7) (v := .ref pl) (C := RX9) (T := TX9) (N := 5) hx hb hts n_X9_build_X9 hown hK hP 0 rfl rfl 3 (by decide) (hts (.fieldLink RX9 48 "FaceMapModel" "nodes" "LFaceMapModel$Places;") (List.mem_of_getElem? (i := 2) rfl)) (fun _ h9 => h9) rfl dX9_build_88 ?_
      refine va_get (D := D) (ci := 6) (v := .int 0) (C := RX8) (T := TX8) (N := 2) hx hb hts n_X9_build_X8 hown hK hP 1 rfl rfl 1 (by decide) (hts (.fieldLink RX9 103 "FaceMapModel$Places" "size" "I") (List.mem_of_getElem? (i := 5) rfl)) (fun _ h9 => h9) rfl dX9_build_91 ?_
      refine va_put (D := D) (ci := 5) (v := .int 0) (ty := .int) (C := RX7) (T := TX7) (N := 17) hx hb hts n_X9_build_X7 tyX7 tyX7_ok nmX7 hown hK hP hD hS 2 rfl rfl 2 (by decide) (hts (.fieldLink RX9 106 "FaceMapModel$Net" "nodes" "I") (List.mem_of_getElem? (i := 6) rfl)) (fun _ h9 => h9) rfl (by decide +kernel) rfl rfl (Nat.le_of_ble_eq_true rfl) dX9_build_94 (fun H locs hP hD hS => ?_)
      have hP : va_P D q_cl [(h0, .inr (7, [.ref en, .int 0, .ref nt, .ref pl, .int 1])), (pl, .inr (6, [.ref row, .int 0])), (nt, .inr (5, [.ref knx_5, .ref kny_5, .int 0, .ref knl_5, .ref knh_5, .int 0, .ref knb_5, .ref kno_5, .ref knr_5, .ref knd_5, .ref kna_5, .ref kns_5, .ref knf_5, .int 0, .ref knp_5, .int 0, .ref knq_5])), (knb_5, .inl (aI, 3001, .inl (fun _ => 0)))] H := hP
      have hD : va_D A [(h0, .inr (7, [.ref en, .int 0, .ref nt, .ref pl, .int 1])), (pl, .inr (6, [.ref row, .int 0])), (nt, .inr (5, [.ref knx_5, .ref kny_5, .int 0, .ref knl_5, .ref knh_5, .int 0, .ref knb_5, .ref kno_5, .ref knr_5, .ref knd_5, .ref kna_5, .ref kns_5, .ref knf_5, .int 0, .ref knp_5, .int 0, .ref knq_5])), (knb_5, .inl (aI, 3001, .inl (fun _ => 0)))] := hD
      refine lv_aload_n hx hb dX9_build_97 rfl (lv_at hl 1 rfl) ?_
      refine va_get (D := D) (ci := 7) (v := .ref nt) (C := RX9) (T := TX9) (N := 5) hx hb hts n_X9_build_X9 hown hK hP 0 rfl rfl 2 (by decide) (hts (.fieldLink RX9 41 "FaceMapModel" "net" "LFaceMapModel$Net;") (List.mem_of_getElem? (i := 4) rfl)) (fun _ h9 => h9) rfl dX9_build_98 ?_
      refine lv_aload_n hx hb dX9_build_101 rfl (lv_at hl 1 rfl) ?_
      refine va_get (D := D) (ci := 7) (v := .int 0) (C := RX9) (T := TX9) (N := 5) hx hb hts n_X9_build_X9 hown hK hP 0 rfl rfl 1 (by decide) (hts (.fieldLink RX9 54 "FaceMapModel" "count" "I") (List.mem_of_getElem? (i := 3) rfl)) (fun _ h9 => h9) rfl dX9_build_102 ?_
      refine va_put (D := D) (ci := 5) (v := .int 0) (ty := .int) (C := RX7) (T := TX7) (N := 17) hx hb hts n_X9_build_X7 tyX7 tyX7_ok nmX7 hown hK hP hD hS 2 rfl rfl 5 (by decide) (hts (.fieldLink RX9 108 "FaceMapModel$Net" "pieces" "I") (List.mem_of_getElem? (i := 7) rfl)) (fun _ h9 => h9) rfl (by decide +kernel) rfl rfl (Nat.le_of_ble_eq_true rfl) dX9_build_105 (fun H locs hP hD hS => ?_)
      have hP : va_P D q_cl [(h0, .inr (7, [.ref en, .int 0, .ref nt, .ref pl, .int 1])), (pl, .inr (6, [.ref row, .int 0])), (nt, .inr (5, [.ref knx_5, .ref kny_5, .int 0, .ref knl_5, .ref knh_5, .int 0, .ref knb_5, .ref kno_5, .ref knr_5, .ref knd_5, .ref kna_5, .ref kns_5, .ref knf_5, .int 0, .ref knp_5, .int 0, .ref knq_5])), (knb_5, .inl (aI, 3001, .inl (fun _ => 0)))] H := hP
      have hD : va_D A [(h0, .inr (7, [.ref en, .int 0, .ref nt, .ref pl, .int 1])), (pl, .inr (6, [.ref row, .int 0])), (nt, .inr (5, [.ref knx_5, .ref kny_5, .int 0, .ref knl_5, .ref knh_5, .int 0, .ref knb_5, .ref kno_5, .ref knr_5, .ref knd_5, .ref kna_5, .ref kns_5, .ref knf_5, .int 0, .ref knp_5, .int 0, .ref knq_5])), (knb_5, .inl (aI, 3001, .inl (fun _ => 0)))] := hD
      refine lv_iconst (v := 0) hx hb dX9_build_108 (by decide) ?_
      refine lv_istore_n (lv' := [(1, .int 0), (0, .ref h0)]) hx hb dX9_build_109 rfl hl (by decide) rfl (fun ls hl => ?_)
      refine lv_iload_n hx hb dX9_build_110 rfl (lv_at hl 0 rfl) ?_
      refine lv_aload_n hx hb dX9_build_111 rfl (lv_at hl 1 rfl) ?_
      refine va_get (D := D) (ci := 7) (v := .ref pl) (C := RX9) (T := TX9) (N := 5) hx hb hts n_X9_build_X9 hown hK hP 0 rfl rfl 3 (by decide) (hts (.fieldLink RX9 48 "FaceMapModel" "nodes" "LFaceMapModel$Places;") (List.mem_of_getElem? (i := 2) rfl)) (fun _ h9 => h9) rfl dX9_build_112 ?_
      refine va_get (D := D) (ci := 6) (v := .int 0) (C := RX8) (T := TX8) (N := 2) hx hb hts n_X9_build_X8 hown hK hP 1 rfl rfl 1 (by decide) (hts (.fieldLink RX9 103 "FaceMapModel$Places" "size" "I") (List.mem_of_getElem? (i := 5) rfl)) (fun _ h9 => h9) rfl dX9_build_115 ?_
      refine lv_icmp_ge (tgt := 161) hx hb dX9_build_118 (by decide) (fun c_6 => ?_) (fun c_6 => ?_)
      · refine lv_iconst (v := 0) hx hb dX9_build_161 (by decide) ?_
        refine lv_istore_n (lv' := [(1, .int 0), (0, .ref h0)]) hx hb dX9_build_162 rfl hl (by decide) rfl (fun ls hl => ?_)
        refine lv_iload_n hx hb dX9_build_163 rfl (lv_at hl 0 rfl) ?_
        refine lv_aload_n hx hb dX9_build_164 rfl (lv_at hl 1 rfl) ?_
        refine va_get (D := D) (ci := 7) (v := .int 0) (C := RX9) (T := TX9) (N := 5) hx hb hts n_X9_build_X9 hown hK hP 0 rfl rfl 1 (by decide) (hts (.fieldLink RX9 54 "FaceMapModel" "count" "I") (List.mem_of_getElem? (i := 3) rfl)) (fun _ h9 => h9) rfl dX9_build_165 ?_
        refine lv_icmp_ge (tgt := 247) hx hb dX9_build_168 (by decide) (fun c_7 => ?_) (fun c_7 => ?_)
        · refine lv_aload_n hx hb dX9_build_247 rfl (lv_at hl 1 rfl) ?_
          refine va_get (D := D) (ci := 7) (v := .ref nt) (C := RX9) (T := TX9) (N := 5) hx hb hts n_X9_build_X9 hown hK hP 0 rfl rfl 2 (by decide) (hts (.fieldLink RX9 41 "FaceMapModel" "net" "LFaceMapModel$Net;") (List.mem_of_getElem? (i := 4) rfl)) (fun _ h9 => h9) rfl dX9_build_248 ?_
          refine q_v (wr := [(h0, .inr (7, [.ref en, .int 0, .ref nt, .ref pl, .int 1])), (pl, .inr (6, [.ref row, .int 0]))]) (q_runV (As := []) (rest := []) ⟨hx, hb, hml, hown, hts⟩ (c_X7_build l D aI aL aZ nt knx_5 kny_5 knl_5 knh_5 knb_5 kno_5 knr_5 knd_5 kna_5 kns_5 knf_5 knp_5 knq_5 (fun _ => 0) _) (cwV 0 hts g_X9_build_X7_build_132 rfl rfl rfl (by decide +kernel) ⟨Nat.le_of_ble_eq_true rfl, Nat.le_of_ble_eq_true rfl⟩) hK hN hP hD [2, 3] rfl (by decide) rfl rfl rfl hl.1 rfl (Nat.le_of_ble_eq_true rfl) dX9_build_251 ⟨Nat.le_of_ble_eq_true rfl, Nat.le_of_ble_eq_true rfl⟩) hP hD hS hA [2, 3] [0, 1] rfl rfl (by decide) (by decide) (fun u_8 H locs hw hP hD hS => ?_)
          have hP : va_P D q_cl [(h0, .inr (7, [.ref en, .int 0, .ref nt, .ref pl, .int 1])), (pl, .inr (6, [.ref row, .int 0])), (nt, .inr (5, [.ref knx_5, .ref kny_5, .int 0, .ref knl_5, .ref knh_5, .int 0, .ref knb_5, .ref kno_5, .ref knr_5, .ref knd_5, .ref kna_5, .ref kns_5, .ref knf_5, .int 0, .ref knp_5, .int 1, .ref knq_5]))] H := hP
          have hD : va_D A [(h0, .inr (7, [.ref en, .int 0, .ref nt, .ref pl, .int 1])), (pl, .inr (6, [.ref row, .int 0])), (nt, .inr (5, [.ref knx_5, .ref kny_5, .int 0, .ref knl_5, .ref knh_5, .int 0, .ref knb_5, .ref kno_5, .ref knr_5, .ref knd_5, .ref kna_5, .ref kns_5, .ref knf_5, .int 0, .ref knp_5, .int 1, .ref knq_5]))] := hD
          have hP9 := hP.sub (ws' := [(h0, .inr (7, [.ref en, .int 0, .ref nt, .ref pl, .int 1])), (nt, .inr (5, [.ref knx_5, .ref kny_5, .int 0, .ref knl_5, .ref knh_5, .int 0, .ref knb_5, .ref kno_5, .ref knr_5, .ref knd_5, .ref kna_5, .ref kns_5, .ref knf_5, .int 0, .ref knp_5, .int 1, .ref knq_5]))]) [0, 2] rfl
          have hD9 := hD.sub (ws' := [(h0, .inr (7, [.ref en, .int 0, .ref nt, .ref pl, .int 1])), (nt, .inr (5, [.ref knx_5, .ref kny_5, .int 0, .ref knl_5, .ref knh_5, .int 0, .ref knb_5, .ref kno_5, .ref knr_5, .ref knd_5, .ref kna_5, .ref kns_5, .ref knf_5, .int 0, .ref knp_5, .int 1, .ref knq_5]))]) [0, 2] (by decide) rfl
          exact q_retv (knx_5, kny_5, knl_5, knh_5, knb_5, kno_5, knr_5, knd_5, kna_5, kns_5, knf_5, knp_5, knq_5) hx hb hr hlocks hK hP9 hD9 hS (Nat.le_of_ble_eq_true rfl) (Nat.le_of_ble_eq_true rfl) (trivial) dX9_build_254
        · exact absurd c_7 (by decide)
      · exact absurd c_6 (by decide)
    · exact absurd c_3 (by decide)
  · exact absurd c_1 (by decide)
def vsX9_isFace : List Cond := .code yX9_isFace cX9_isFace 2 (some .boolean) :: ([.fieldLink RX9 41 "FaceMapModel" "net" "LFaceMapModel$Net;", .fieldLink RX9 136 "FaceMapModel$Net" "faces" "I"] ++ wsX90 ++ wsX70)
set_option maxRecDepth 20000 in
theorem n_X9_isFace_X9 : ∀ w ∈ wsX90, w ∈ vsX9_isFace := fun _ h => List.mem_cons_of_mem _ (List.mem_append_left _ (List.mem_append_right _ h))
set_option maxRecDepth 20000 in
theorem n_X9_isFace_X7 : ∀ w ∈ wsX70, w ∈ vsX9_isFace := fun _ h => List.mem_cons_of_mem _ (List.mem_append_right _ h)
set_option maxHeartbeats 4000000 in
set_option maxRecDepth 100000 in
/-- isFace, with the outside alone -/
theorem c_X9_isFace (l : Launch) (D : va_G) (aI aL aZ : ClassId) (h0 : Nat) (en : Nat) (nt : Nat) (pl : Nat) (q : Int32) (nx : Nat) (ny : Nat) (nl : Nat) (nh : Nat) (nb : Nat) (no : Nat) (nr : Nat) (nd : Nat) (na : Nat) (ns : Nat) (nf : Nat) (np : Nat) (nq : Nat) (x : Int32) (sz : Nat) : MI l D q_cl (q_ty aI aL aZ) yX9_isFace vsX9_isFace 0 0 0 [.ref h0, .int x] [(h0, .inr (7, [.ref en, .int 0, .ref nt, .ref pl, .int q])), (nt, .inr (5, [.ref nx, .ref ny, .int 0, .ref nl, .ref nh, .int 0, .ref nb, .ref no, .ref nr, .ref nd, .ref na, .ref ns, .ref nf, .int 0, .ref np, .int 1, .ref nq]))] sz (fun (r : Int32) (u : Unit) => (r = 1 ∧ x = 0) ∨ (r = 0 ∧ ¬ x = 0)) (fun (u : Unit) => [(h0, .inr (7, [.ref en, .int 0, .ref nt, .ref pl, .int q])), (nt, .inr (5, [.ref nx, .ref ny, .int 0, .ref nl, .ref nh, .int 0, .ref nb, .ref no, .ref nr, .ref nd, .ref na, .ref ns, .ref nf, .int 0, .ref np, .int 1, .ref nq]))]) := by
  refine q_in cX9_isFace 2 (some .boolean) (qQi D q_cl (q_ty aI aL aZ) _ _) (by decide) rfl (Nat.le_of_ble_eq_true rfl) ?_
  intro p e s m args below meth c A ls hat hP hD hS hl
  obtain ⟨hx, hb, hr, hts, hown, hlocks, hml, hin, hK, hN, hA⟩ := hat
  have hown : s.vm.findClass RX9 = some m.cls := hown
  have hl : lv_has ls 2 [(0, .ref h0), (1, .int x)] := hl
  refine lv_iload_n hx hb dX9_isFace_0 rfl (lv_at hl 1 rfl) ?_
  refine lv_if_lt (tgt := 19) hx hb dX9_isFace_1 (by decide) (fun c_1 => ?_) (fun c_1 => ?_)
  · refine lv_iconst (v := 0) hx hb dX9_isFace_19 (by decide) ?_
    have hP9 := hP.sub (ws' := [(h0, .inr (7, [.ref en, .int 0, .ref nt, .ref pl, .int q])), (nt, .inr (5, [.ref nx, .ref ny, .int 0, .ref nl, .ref nh, .int 0, .ref nb, .ref no, .ref nr, .ref nd, .ref na, .ref ns, .ref nf, .int 0, .ref np, .int 1, .ref nq]))]) [0, 1] rfl
    have hD9 := hD.sub (ws' := [(h0, .inr (7, [.ref en, .int 0, .ref nt, .ref pl, .int q])), (nt, .inr (5, [.ref nx, .ref ny, .int 0, .ref nl, .ref nh, .int 0, .ref nb, .ref no, .ref nr, .ref nd, .ref na, .ref ns, .ref nf, .int 0, .ref np, .int 1, .ref nq]))]) [0, 1] (by decide) rfl
    exact q_retz () hx hb hr (by decide) hlocks hK hP9 hD9 hS (Nat.le_of_ble_eq_true rfl) (Nat.le_of_ble_eq_true rfl) (Or.inr (⟨rfl, (q_hasn (by first | exact Or.inl (by assumption) | exact Or.inr (by assumption)))⟩)) dX9_isFace_20
  · refine lv_iload_n hx hb dX9_isFace_4 rfl (lv_at hl 1 rfl) ?_
    refine lv_aload_n hx hb dX9_isFace_5 rfl (lv_at hl 0 rfl) ?_
    refine va_get (D := D) (ci := 7) (v := .ref nt) (C := RX9) (T := TX9) (N := 5) hx hb hts n_X9_isFace_X9 hown hK hP 0 rfl rfl 2 (by decide) (hts (.fieldLink RX9 41 "FaceMapModel" "net" "LFaceMapModel$Net;") (List.mem_of_getElem? (i := 1) rfl)) (fun _ h9 => h9) rfl dX9_isFace_6 ?_
    refine va_get (D := D) (ci := 5) (v := .int 1) (C := RX7) (T := TX7) (N := 17) hx hb hts n_X9_isFace_X7 hown hK hP 1 rfl rfl 15 (by decide) (hts (.fieldLink RX9 136 "FaceMapModel$Net" "faces" "I") (List.mem_of_getElem? (i := 2) rfl)) (fun _ h9 => h9) rfl dX9_isFace_9 ?_
    refine lv_icmp_ge (tgt := 19) hx hb dX9_isFace_12 (by decide) (fun c_2 => ?_) (fun c_2 => ?_)
    · refine lv_iconst (v := 0) hx hb dX9_isFace_19 (by decide) ?_
      have hP9 := hP.sub (ws' := [(h0, .inr (7, [.ref en, .int 0, .ref nt, .ref pl, .int q])), (nt, .inr (5, [.ref nx, .ref ny, .int 0, .ref nl, .ref nh, .int 0, .ref nb, .ref no, .ref nr, .ref nd, .ref na, .ref ns, .ref nf, .int 0, .ref np, .int 1, .ref nq]))]) [0, 1] rfl
      have hD9 := hD.sub (ws' := [(h0, .inr (7, [.ref en, .int 0, .ref nt, .ref pl, .int q])), (nt, .inr (5, [.ref nx, .ref ny, .int 0, .ref nl, .ref nh, .int 0, .ref nb, .ref no, .ref nr, .ref nd, .ref na, .ref ns, .ref nf, .int 0, .ref np, .int 1, .ref nq]))]) [0, 1] (by decide) rfl
      exact q_retz () hx hb hr (by decide) hlocks hK hP9 hD9 hS (Nat.le_of_ble_eq_true rfl) (Nat.le_of_ble_eq_true rfl) (Or.inr (⟨rfl, (q_hasn (by first | exact Or.inl (by assumption) | exact Or.inr (by assumption)))⟩)) dX9_isFace_20
    · refine lv_iconst (v := 1) hx hb dX9_isFace_15 (by decide) ?_
      refine lv_goto (tgt := 20) hx hb dX9_isFace_16 (by decide) ?_
      have hP9 := hP.sub (ws' := [(h0, .inr (7, [.ref en, .int 0, .ref nt, .ref pl, .int q])), (nt, .inr (5, [.ref nx, .ref ny, .int 0, .ref nl, .ref nh, .int 0, .ref nb, .ref no, .ref nr, .ref nd, .ref na, .ref ns, .ref nf, .int 0, .ref np, .int 1, .ref nq]))]) [0, 1] rfl
      have hD9 := hD.sub (ws' := [(h0, .inr (7, [.ref en, .int 0, .ref nt, .ref pl, .int q])), (nt, .inr (5, [.ref nx, .ref ny, .int 0, .ref nl, .ref nh, .int 0, .ref nb, .ref no, .ref nr, .ref nd, .ref na, .ref ns, .ref nf, .int 0, .ref np, .int 1, .ref nq]))]) [0, 1] (by decide) rfl
      exact q_retz () hx hb hr (by decide) hlocks hK hP9 hD9 hS (Nat.le_of_ble_eq_true rfl) (Nat.le_of_ble_eq_true rfl) (Or.inl (⟨rfl, (q_has (by assumption) (by assumption))⟩)) dX9_isFace_20
