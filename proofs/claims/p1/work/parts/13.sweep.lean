def vsX4_makeRows : List Cond := .code yX4_makeRows cX4_makeRows 2 none :: ([.arrayClass .int, .fieldLink RX4 27 "FaceMap$Sweep" "crossed" "[I", .fieldLink RX4 31 "FaceMap$Sweep" "around" "[I", .fieldLink RX4 34 "FaceMap$Sweep" "next" "[I", .fieldLink RX4 37 "FaceMap$Sweep" "below" "[I"] ++ wsX40)
set_option maxRecDepth 20000 in
theorem n_X4_makeRows_X4 : ∀ w ∈ wsX40, w ∈ vsX4_makeRows := fun _ h => List.mem_cons_of_mem _ (List.mem_append_right _ h)
set_option maxHeartbeats 4000000 in
set_option maxRecDepth 100000 in
/-- Sweep.makeRows -/
theorem c_X4_makeRows (l : Launch) (D : va_G) (aI aL aZ : ClassId) (h0 : Nat) (p1 : Nat) (p2 : Nat) (sz : Nat) : MV l D q_cl (q_ty aI aL aZ) yX4_makeRows vsX4_makeRows 0 4 48 [.ref h0, .int 8] [(h0, .inr (3, [.ref p1, .ref p2, .int 0, .null, .int 0, .null, .null, .null]))] sz (fun (u : Unit) => True) (fun (u : Unit) => ([] : va_W)) := by
  refine q_in cX4_makeRows 2 none (qQv D q_cl (q_ty aI aL aZ) _ _) (by decide) rfl (Nat.le_of_ble_eq_true rfl) ?_
  intro p e s m args below meth c A ls hat hP hD hS hl
  obtain ⟨hx, hb, hr, hts, hown, hlocks, hml, hin, hK, hN, hA⟩ := hat
  have hown : s.vm.findClass RX4 = some m.cls := hown
  have hl : lv_has ls 2 [(0, .ref h0), (1, .int 8)] := hl
  refine lv_aload_n hx hb dX4_makeRows_0 rfl (lv_at hl 0 rfl) ?_
  refine lv_iload_n hx hb dX4_makeRows_1 rfl (lv_at hl 1 rfl) ?_
  refine q_newI 8 hx hb (hts (.arrayClass .int) (List.mem_of_getElem? (i := 1) rfl)) hK hP hD hS hA 0 rfl (by decide) (by decide) (by decide) (Nat.le_of_ble_eq_true rfl) (Nat.le_of_ble_eq_true rfl) dX4_makeRows_2 (fun q1 H hP hD hS => ?_)
  have hP : va_P D q_cl [(h0, .inr (3, [.ref p1, .ref p2, .int 0, .null, .int 0, .null, .null, .null])), (q1, .inl (aI, 8, .inl (fun _ => 0)))] H := hP
  have hD : va_D A [(h0, .inr (3, [.ref p1, .ref p2, .int 0, .null, .int 0, .null, .null, .null])), (q1, .inl (aI, 8, .inl (fun _ => 0)))] := hD
  refine va_put (D := D) (ci := 3) (v := .ref q1) (ty := (.array .int)) (C := RX4) (T := TX4) (N := 8) hx hb hts n_X4_makeRows_X4 tyX4 tyX4_ok nmX4 hown hK hP hD hS 0 rfl rfl 3 (by decide) (hts (.fieldLink RX4 27 "FaceMap$Sweep" "crossed" "[I") (List.mem_of_getElem? (i := 2) rfl)) (fun _ h9 => h9) rfl (by decide +kernel) rfl rfl (Nat.le_of_ble_eq_true rfl) dX4_makeRows_4 (fun H locs hP hD hS => ?_)
  have hP : va_P D q_cl [(h0, .inr (3, [.ref p1, .ref p2, .int 0, .ref q1, .int 0, .null, .null, .null])), (q1, .inl (aI, 8, .inl (fun _ => 0)))] H := hP
  have hD : va_D A [(h0, .inr (3, [.ref p1, .ref p2, .int 0, .ref q1, .int 0, .null, .null, .null])), (q1, .inl (aI, 8, .inl (fun _ => 0)))] := hD
  refine lv_aload_n hx hb dX4_makeRows_7 rfl (lv_at hl 0 rfl) ?_
  refine lv_iload_n hx hb dX4_makeRows_8 rfl (lv_at hl 1 rfl) ?_
  refine q_newI 8 hx hb (hts (.arrayClass .int) (List.mem_of_getElem? (i := 1) rfl)) hK hP hD hS hA 0 rfl (by decide) (by decide) (by decide) (Nat.le_of_ble_eq_true rfl) (Nat.le_of_ble_eq_true rfl) dX4_makeRows_9 (fun q2 H hP hD hS => ?_)
  have hP : va_P D q_cl [(h0, .inr (3, [.ref p1, .ref p2, .int 0, .ref q1, .int 0, .null, .null, .null])), (q1, .inl (aI, 8, .inl (fun _ => 0))), (q2, .inl (aI, 8, .inl (fun _ => 0)))] H := hP
  have hD : va_D A [(h0, .inr (3, [.ref p1, .ref p2, .int 0, .ref q1, .int 0, .null, .null, .null])), (q1, .inl (aI, 8, .inl (fun _ => 0))), (q2, .inl (aI, 8, .inl (fun _ => 0)))] := hD
  refine va_put (D := D) (ci := 3) (v := .ref q2) (ty := (.array .int)) (C := RX4) (T := TX4) (N := 8) hx hb hts n_X4_makeRows_X4 tyX4 tyX4_ok nmX4 hown hK hP hD hS 0 rfl rfl 5 (by decide) (hts (.fieldLink RX4 31 "FaceMap$Sweep" "around" "[I") (List.mem_of_getElem? (i := 3) rfl)) (fun _ h9 => h9) rfl (by decide +kernel) rfl rfl (Nat.le_of_ble_eq_true rfl) dX4_makeRows_11 (fun H locs hP hD hS => ?_)
  have hP : va_P D q_cl [(h0, .inr (3, [.ref p1, .ref p2, .int 0, .ref q1, .int 0, .ref q2, .null, .null])), (q1, .inl (aI, 8, .inl (fun _ => 0))), (q2, .inl (aI, 8, .inl (fun _ => 0)))] H := hP
  have hD : va_D A [(h0, .inr (3, [.ref p1, .ref p2, .int 0, .ref q1, .int 0, .ref q2, .null, .null])), (q1, .inl (aI, 8, .inl (fun _ => 0))), (q2, .inl (aI, 8, .inl (fun _ => 0)))] := hD
  refine lv_aload_n hx hb dX4_makeRows_14 rfl (lv_at hl 0 rfl) ?_
  refine lv_iconst (v := 2) hx hb dX4_makeRows_15 (by decide) ?_
  refine lv_iload_n hx hb dX4_makeRows_16 rfl (lv_at hl 1 rfl) ?_
  refine lv_imul hx hb dX4_makeRows_17 ?_
  refine q_vi (v := 16) (by decide) ?_
  refine q_newI 16 hx hb (hts (.arrayClass .int) (List.mem_of_getElem? (i := 1) rfl)) hK hP hD hS hA 0 rfl (by decide) (by decide) (by decide) (Nat.le_of_ble_eq_true rfl) (Nat.le_of_ble_eq_true rfl) dX4_makeRows_18 (fun q3 H hP hD hS => ?_)
  have hP : va_P D q_cl [(h0, .inr (3, [.ref p1, .ref p2, .int 0, .ref q1, .int 0, .ref q2, .null, .null])), (q1, .inl (aI, 8, .inl (fun _ => 0))), (q2, .inl (aI, 8, .inl (fun _ => 0))), (q3, .inl (aI, 16, .inl (fun _ => 0)))] H := hP
  have hD : va_D A [(h0, .inr (3, [.ref p1, .ref p2, .int 0, .ref q1, .int 0, .ref q2, .null, .null])), (q1, .inl (aI, 8, .inl (fun _ => 0))), (q2, .inl (aI, 8, .inl (fun _ => 0))), (q3, .inl (aI, 16, .inl (fun _ => 0)))] := hD
  refine va_put (D := D) (ci := 3) (v := .ref q3) (ty := (.array .int)) (C := RX4) (T := TX4) (N := 8) hx hb hts n_X4_makeRows_X4 tyX4 tyX4_ok nmX4 hown hK hP hD hS 0 rfl rfl 6 (by decide) (hts (.fieldLink RX4 34 "FaceMap$Sweep" "next" "[I") (List.mem_of_getElem? (i := 4) rfl)) (fun _ h9 => h9) rfl (by decide +kernel) rfl rfl (Nat.le_of_ble_eq_true rfl) dX4_makeRows_20 (fun H locs hP hD hS => ?_)
  have hP : va_P D q_cl [(h0, .inr (3, [.ref p1, .ref p2, .int 0, .ref q1, .int 0, .ref q2, .ref q3, .null])), (q1, .inl (aI, 8, .inl (fun _ => 0))), (q2, .inl (aI, 8, .inl (fun _ => 0))), (q3, .inl (aI, 16, .inl (fun _ => 0)))] H := hP
  have hD : va_D A [(h0, .inr (3, [.ref p1, .ref p2, .int 0, .ref q1, .int 0, .ref q2, .ref q3, .null])), (q1, .inl (aI, 8, .inl (fun _ => 0))), (q2, .inl (aI, 8, .inl (fun _ => 0))), (q3, .inl (aI, 16, .inl (fun _ => 0)))] := hD
  refine lv_aload_n hx hb dX4_makeRows_23 rfl (lv_at hl 0 rfl) ?_
  refine lv_iconst (v := 2) hx hb dX4_makeRows_24 (by decide) ?_
  refine lv_iload_n hx hb dX4_makeRows_25 rfl (lv_at hl 1 rfl) ?_
  refine lv_imul hx hb dX4_makeRows_26 ?_
  refine q_vi (v := 16) (by decide) ?_
  refine q_newI 16 hx hb (hts (.arrayClass .int) (List.mem_of_getElem? (i := 1) rfl)) hK hP hD hS hA 0 rfl (by decide) (by decide) (by decide) (Nat.le_of_ble_eq_true rfl) (Nat.le_of_ble_eq_true rfl) dX4_makeRows_27 (fun q4 H hP hD hS => ?_)
  have hP : va_P D q_cl [(h0, .inr (3, [.ref p1, .ref p2, .int 0, .ref q1, .int 0, .ref q2, .ref q3, .null])), (q1, .inl (aI, 8, .inl (fun _ => 0))), (q2, .inl (aI, 8, .inl (fun _ => 0))), (q3, .inl (aI, 16, .inl (fun _ => 0))), (q4, .inl (aI, 16, .inl (fun _ => 0)))] H := hP
  have hD : va_D A [(h0, .inr (3, [.ref p1, .ref p2, .int 0, .ref q1, .int 0, .ref q2, .ref q3, .null])), (q1, .inl (aI, 8, .inl (fun _ => 0))), (q2, .inl (aI, 8, .inl (fun _ => 0))), (q3, .inl (aI, 16, .inl (fun _ => 0))), (q4, .inl (aI, 16, .inl (fun _ => 0)))] := hD
  refine va_put (D := D) (ci := 3) (v := .ref q4) (ty := (.array .int)) (C := RX4) (T := TX4) (N := 8) hx hb hts n_X4_makeRows_X4 tyX4 tyX4_ok nmX4 hown hK hP hD hS 0 rfl rfl 7 (by decide) (hts (.fieldLink RX4 37 "FaceMap$Sweep" "below" "[I") (List.mem_of_getElem? (i := 5) rfl)) (fun _ h9 => h9) rfl (by decide +kernel) rfl rfl (Nat.le_of_ble_eq_true rfl) dX4_makeRows_29 (fun H locs hP hD hS => ?_)
  have hP : va_P D q_cl [(h0, .inr (3, [.ref p1, .ref p2, .int 0, .ref q1, .int 0, .ref q2, .ref q3, .ref q4])), (q1, .inl (aI, 8, .inl (fun _ => 0))), (q2, .inl (aI, 8, .inl (fun _ => 0))), (q3, .inl (aI, 16, .inl (fun _ => 0))), (q4, .inl (aI, 16, .inl (fun _ => 0)))] H := hP
  have hD : va_D A [(h0, .inr (3, [.ref p1, .ref p2, .int 0, .ref q1, .int 0, .ref q2, .ref q3, .ref q4])), (q1, .inl (aI, 8, .inl (fun _ => 0))), (q2, .inl (aI, 8, .inl (fun _ => 0))), (q3, .inl (aI, 16, .inl (fun _ => 0))), (q4, .inl (aI, 16, .inl (fun _ => 0)))] := hD
  have hP9 := hP.sub (ws' := []) [] rfl
  have hD9 := hD.sub (ws' := []) [] (by decide) rfl
  exact q_retv () hx hb hr hlocks hK hP9 hD9 hS (Nat.le_of_ble_eq_true rfl) (Nat.le_of_ble_eq_true rfl) (trivial) dX4_makeRows_32
def vsX4_init : List Cond := .code yX4_init cX4_init 3 none :: ([.methodLink RX4 1 objectInit, .instanceMethod objectInit, .code objectInit ⟨#[0xb1]⟩ 1 none, .fieldLink RX4 7 "FaceMap$Sweep" "pieces" "LFaceMap$Pieces;", .fieldLink RX4 13 "FaceMap$Sweep" "nodes" "LFaceMap$Nodes;", .methodLink RX4 17 yX2_room, .instanceMethod yX2_room, .selects RX2 yX2_room yX2_room, .initialized RX2, .code yX2_room cX2_room 1 (some .int), .fieldLink RX2 9 "FaceMap$Pieces" "low" "[J", .methodLink RX4 23 yX4_makeRows, .instanceMethod yX4_makeRows, .selects RX4 yX4_makeRows yX4_makeRows, .initialized RX4, .code yX4_makeRows cX4_makeRows 2 none, .arrayClass .int, .fieldLink RX4 27 "FaceMap$Sweep" "crossed" "[I", .fieldLink RX4 31 "FaceMap$Sweep" "around" "[I", .fieldLink RX4 34 "FaceMap$Sweep" "next" "[I", .fieldLink RX4 37 "FaceMap$Sweep" "below" "[I"] ++ wsX40 ++ wsX20)
set_option maxRecDepth 20000 in
theorem n_X4_init_X4 : ∀ w ∈ wsX40, w ∈ vsX4_init := fun _ h => List.mem_cons_of_mem _ (List.mem_append_left _ (List.mem_append_right _ h))
set_option maxRecDepth 20000 in
theorem g_X4_init_X2_room_17 : GoodIn vsX4_init (wsV RX4 17 RX2 yX2_room vsX2_room) := goodIn_r _ [6, 7, 8, 9, 10, 11, 30, 31, 32] rfl (by decide +kernel)
set_option maxRecDepth 20000 in
theorem g_X4_init_X4_makeRows_23 : GoodIn vsX4_init (wsV RX4 23 RX4 yX4_makeRows vsX4_makeRows) := goodIn_r _ [12, 13, 14, 15, 16, 17, 18, 19, 20, 21, 22, 23, 24, 25, 26, 27, 28, 29] rfl (by decide +kernel)
set_option maxHeartbeats 4000000 in
set_option maxRecDepth 100000 in
/-- Sweep() -/
theorem c_X4_init (l : Launch) (D : va_G) (aI aL aZ : ClassId) (h0 : Nat) (p1 : Nat) (p2 : Nat) (lo : Nat) (hi : Nat) (f : Nat → Int64) (sz : Nat) : MV l D q_cl (q_ty aI aL aZ) yX4_init vsX4_init 1 4 48 [.ref h0, .ref p1, .ref p2] [(h0, .inr (3, [.null, .null, .int 0, .null, .int 0, .null, .null, .null])), (p1, .inr (2, [.ref lo, .ref hi, .int 0])), (lo, .inl (aL, 8, .inr (.inl f)))] sz (fun (u : Unit) => True) (fun (u : Unit) => [(p1, .inr (2, [.ref lo, .ref hi, .int 0])), (lo, .inl (aL, 8, .inr (.inl f)))]) := by
  refine q_in cX4_init 3 none (qQv D q_cl (q_ty aI aL aZ) _ _) (by decide) rfl (Nat.le_of_ble_eq_true rfl) ?_
  intro p e s m args below meth c A ls hat hP hD hS hl
  obtain ⟨hx, hb, hr, hts, hown, hlocks, hml, hin, hK, hN, hA⟩ := hat
  have hown : s.vm.findClass RX4 = some m.cls := hown
  have hl : lv_has ls 3 [(0, .ref h0), (1, .ref p1), (2, .ref p2)] := hl
  refine lv_aload_n hx hb dX4_init_0 rfl (lv_at hl 0 rfl) ?_
  refine W.objInit hx hb hown (hts (.methodLink RX4 1 objectInit) (List.mem_of_getElem? (i := 1) rfl)) (hts (.instanceMethod objectInit) (List.mem_of_getElem? (i := 2) rfl)) (hts (.code objectInit ⟨#[0xb1]⟩ 1 none) (List.mem_of_getElem? (i := 3) rfl)) rfl (by rw [hml]; exact hl.1) rfl dX4_init_1 (Nat.le_of_ble_eq_true rfl) (Nat.le_of_ble_eq_true rfl) ?_
  refine W.eq (g2 := F0 m 4 ls []) rfl ?_
  refine lv_aload_n hx hb dX4_init_4 rfl (lv_at hl 0 rfl) ?_
  refine lv_aload_n hx hb dX4_init_5 rfl (lv_at hl 1 rfl) ?_
  refine va_putF (D := D) (ci := 3) (v := .ref p1) (ty := (.object "FaceMap$Pieces")) (C := RX4) (T := TX4) (N := 8) hx hb hts n_X4_init_X4 tyX4 tyX4_ok nmX4 hown hK hP hD hS 0 rfl rfl 0 (by decide) (hts (.fieldLink RX4 7 "FaceMap$Sweep" "pieces" "LFaceMap$Pieces;") (List.mem_of_getElem? (i := 4) rfl)) (fun _ h9 => h9) rfl hin rfl (by decide +kernel) rfl rfl (Nat.le_of_ble_eq_true rfl) dX4_init_6 (fun H locs hP hD hS => ?_)
  have hP : va_P D q_cl [(h0, .inr (3, [.ref p1, .null, .int 0, .null, .int 0, .null, .null, .null])), (p1, .inr (2, [.ref lo, .ref hi, .int 0])), (lo, .inl (aL, 8, .inr (.inl f)))] H := hP
  have hD : va_D A [(h0, .inr (3, [.ref p1, .null, .int 0, .null, .int 0, .null, .null, .null])), (p1, .inr (2, [.ref lo, .ref hi, .int 0])), (lo, .inl (aL, 8, .inr (.inl f)))] := hD
  refine lv_aload_n hx hb dX4_init_9 rfl (lv_at hl 0 rfl) ?_
  refine lv_aload_n hx hb dX4_init_10 rfl (lv_at hl 2 rfl) ?_
  refine va_putF (D := D) (ci := 3) (v := .ref p2) (ty := (.object "FaceMap$Nodes")) (C := RX4) (T := TX4) (N := 8) hx hb hts n_X4_init_X4 tyX4 tyX4_ok nmX4 hown hK hP hD hS 0 rfl rfl 1 (by decide) (hts (.fieldLink RX4 13 "FaceMap$Sweep" "nodes" "LFaceMap$Nodes;") (List.mem_of_getElem? (i := 5) rfl)) (fun _ h9 => h9) rfl hin rfl (by decide +kernel) rfl rfl (Nat.le_of_ble_eq_true rfl) dX4_init_11 (fun H locs hP hD hS => ?_)
  have hP : va_P D q_cl [(h0, .inr (3, [.ref p1, .ref p2, .int 0, .null, .int 0, .null, .null, .null])), (p1, .inr (2, [.ref lo, .ref hi, .int 0])), (lo, .inl (aL, 8, .inr (.inl f)))] H := hP
  have hD : va_D A [(h0, .inr (3, [.ref p1, .ref p2, .int 0, .null, .int 0, .null, .null, .null])), (p1, .inr (2, [.ref lo, .ref hi, .int 0])), (lo, .inl (aL, 8, .inr (.inl f)))] := hD
  refine lv_aload_n hx hb dX4_init_14 rfl (lv_at hl 0 rfl) ?_
  refine lv_aload_n hx hb dX4_init_15 rfl (lv_at hl 1 rfl) ?_
  refine q_i (wr := [(h0, .inr (3, [.ref p1, .ref p2, .int 0, .null, .int 0, .null, .null, .null]))]) (q_runV (As := []) (rest := [.ref h0]) ⟨hx, hb, hml, hown, hts⟩ (c_X2_room l D aI aL aZ p1 lo hi f _) (cwV 0 hts g_X4_init_X2_room_17 rfl rfl rfl (by decide +kernel) ⟨Nat.le_of_ble_eq_true rfl, Nat.le_of_ble_eq_true rfl⟩) hK hN hP hD [1, 2] rfl (by decide) rfl rfl rfl hl.1 rfl (Nat.le_of_ble_eq_true rfl) dX4_init_16 ⟨Nat.le_of_ble_eq_true rfl, Nat.le_of_ble_eq_true rfl⟩) hP hD hS hA [1, 2] [0] rfl rfl (by decide) (by decide) (fun r_1 u_1 H locs hw hP hD hS => ?_)
  subst hw
  have hP : va_P D q_cl [(h0, .inr (3, [.ref p1, .ref p2, .int 0, .null, .int 0, .null, .null, .null])), (p1, .inr (2, [.ref lo, .ref hi, .int 0])), (lo, .inl (aL, 8, .inr (.inl f)))] H := hP
  have hD : va_D A [(h0, .inr (3, [.ref p1, .ref p2, .int 0, .null, .int 0, .null, .null, .null])), (p1, .inr (2, [.ref lo, .ref hi, .int 0])), (lo, .inl (aL, 8, .inr (.inl f)))] := hD
  refine q_v (wr := [(p1, .inr (2, [.ref lo, .ref hi, .int 0])), (lo, .inl (aL, 8, .inr (.inl f)))]) (q_runV (As := [.int 8]) (rest := []) ⟨hx, hb, hml, hown, hts⟩ (c_X4_makeRows l D aI aL aZ h0 p1 p2 _) (cwV 1 hts g_X4_init_X4_makeRows_23 rfl rfl rfl (by decide +kernel) ⟨Nat.le_of_ble_eq_true rfl, Nat.le_of_ble_eq_true rfl⟩) hK hN hP hD [0] rfl (by decide) rfl rfl rfl hl.1 rfl (Nat.le_of_ble_eq_true rfl) dX4_init_19 ⟨Nat.le_of_ble_eq_true rfl, Nat.le_of_ble_eq_true rfl⟩) hP hD hS hA [0] [1, 2] rfl rfl (by decide) (by decide) (fun u_2 H locs hw hP hD hS => ?_)
  have hP : va_P D q_cl [(p1, .inr (2, [.ref lo, .ref hi, .int 0])), (lo, .inl (aL, 8, .inr (.inl f)))] H := hP
  have hD : va_D A [(p1, .inr (2, [.ref lo, .ref hi, .int 0])), (lo, .inl (aL, 8, .inr (.inl f)))] := hD
  have hP9 := hP.sub (ws' := [(p1, .inr (2, [.ref lo, .ref hi, .int 0])), (lo, .inl (aL, 8, .inr (.inl f)))]) [0, 1] rfl
  have hD9 := hD.sub (ws' := [(p1, .inr (2, [.ref lo, .ref hi, .int 0])), (lo, .inl (aL, 8, .inr (.inl f)))]) [0, 1] (by decide) rfl
  exact q_retv () hx hb hr hlocks hK hP9 hD9 hS (Nat.le_of_ble_eq_true rfl) (Nat.le_of_ble_eq_true rfl) (trivial) dX4_init_22
