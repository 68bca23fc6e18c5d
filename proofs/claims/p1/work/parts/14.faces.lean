def vsX0_makeRows : List Cond := .code yX0_makeRows cX0_makeRows 2 none :: ([.arrayClass .int, .fieldLink RX0 34 "FaceMap$Faces" "leftOf" "[I", .fieldLink RX0 38 "FaceMap$Faces" "rings" "[I", .fieldLink RX0 41 "FaceMap$Faces" "ways" "[I", .fieldLink RX0 44 "FaceMap$Faces" "keyFrom" "[I", .fieldLink RX0 47 "FaceMap$Faces" "keyTo" "[I", .arrayClass .long, .fieldLink RX0 50 "FaceMap$Faces" "area" "[J"] ++ wsX00)
set_option maxRecDepth 20000 in
theorem n_X0_makeRows_X0 : ∀ w ∈ wsX00, w ∈ vsX0_makeRows := fun _ h => List.mem_cons_of_mem _ (List.mem_append_right _ h)
set_option maxHeartbeats 4000000 in
set_option maxRecDepth 100000 in
/-- Faces.makeRows -/
theorem c_X0_makeRows (l : Launch) (D : va_G) (aI aL aZ : ClassId) (h0 : Nat) (p1 : Nat) (p2 : Nat) (p3 : Nat) (sz : Nat) : MV l D q_cl (q_ty aI aL aZ) yX0_makeRows vsX0_makeRows 0 6 61 [.ref h0, .int 8] [(h0, .inr (0, [.ref p1, .ref p2, .ref p3, .null, .null, .null, .null, .null, .null, .int 0, .int 0]))] sz (fun (u : Nat × Nat × Nat × Nat × Nat × Nat) => True) (fun (u : Nat × Nat × Nat × Nat × Nat × Nat) => [(h0, .inr (0, [.ref p1, .ref p2, .ref p3, .ref u.1, .ref u.2.1, .ref u.2.2.1, .ref u.2.2.2.1, .ref u.2.2.2.2.1, .ref u.2.2.2.2.2, .int 0, .int 0])), (u.1, .inl (aI, 16, .inl (fun _ => 0))), (u.2.1, .inl (aI, 9, .inl (fun _ => 0))), (u.2.2.1, .inl (aI, 9, .inl (fun _ => 0))), (u.2.2.2.1, .inl (aI, 9, .inl (fun _ => 0))), (u.2.2.2.2.1, .inl (aI, 9, .inl (fun _ => 0))), (u.2.2.2.2.2, .inl (aL, 9, .inr (.inl (fun _ => 0))))]) := by
  refine q_in cX0_makeRows 2 none (qQv D q_cl (q_ty aI aL aZ) _ _) (by decide) rfl (Nat.le_of_ble_eq_true rfl) ?_
  intro p e s m args below meth c A ls hat hP hD hS hl
  obtain ⟨hx, hb, hr, hts, hown, hlocks, hml, hin, hK, hN, hA⟩ := hat
  have hown : s.vm.findClass RX0 = some m.cls := hown
  have hl : lv_has ls 2 [(0, .ref h0), (1, .int 8)] := hl
  refine lv_aload_n hx hb dX0_makeRows_0 rfl (lv_at hl 0 rfl) ?_
  refine lv_iconst (v := 2) hx hb dX0_makeRows_1 (by decide) ?_
  refine lv_iload_n hx hb dX0_makeRows_2 rfl (lv_at hl 1 rfl) ?_
  refine lv_imul hx hb dX0_makeRows_3 ?_
  refine q_vi (v := 16) (by decide) ?_
  refine q_newI 16 hx hb (hts (.arrayClass .int) (List.mem_of_getElem? (i := 1) rfl)) hK hP hD hS hA 0 rfl (by decide) (by decide) (by decide) (Nat.le_of_ble_eq_true rfl) (Nat.le_of_ble_eq_true rfl) dX0_makeRows_4 (fun q1 H hP hD hS => ?_)
  have hP : va_P D q_cl [(h0, .inr (0, [.ref p1, .ref p2, .ref p3, .null, .null, .null, .null, .null, .null, .int 0, .int 0])), (q1, .inl (aI, 16, .inl (fun _ => 0)))] H := hP
  have hD : va_D A [(h0, .inr (0, [.ref p1, .ref p2, .ref p3, .null, .null, .null, .null, .null, .null, .int 0, .int 0])), (q1, .inl (aI, 16, .inl (fun _ => 0)))] := hD
  refine va_put (D := D) (ci := 0) (v := .ref q1) (ty := (.array .int)) (C := RX0) (T := TX0) (N := 11) hx hb hts n_X0_makeRows_X0 tyX0 tyX0_ok nmX0 hown hK hP hD hS 0 rfl rfl 3 (by decide) (hts (.fieldLink RX0 34 "FaceMap$Faces" "leftOf" "[I") (List.mem_of_getElem? (i := 2) rfl)) (fun _ h9 => h9) rfl (by decide +kernel) rfl rfl (Nat.le_of_ble_eq_true rfl) dX0_makeRows_6 (fun H locs hP hD hS => ?_)
  have hP : va_P D q_cl [(h0, .inr (0, [.ref p1, .ref p2, .ref p3, .ref q1, .null, .null, .null, .null, .null, .int 0, .int 0])), (q1, .inl (aI, 16, .inl (fun _ => 0)))] H := hP
  have hD : va_D A [(h0, .inr (0, [.ref p1, .ref p2, .ref p3, .ref q1, .null, .null, .null, .null, .null, .int 0, .int 0])), (q1, .inl (aI, 16, .inl (fun _ => 0)))] := hD
  refine lv_aload_n hx hb dX0_makeRows_9 rfl (lv_at hl 0 rfl) ?_
  refine lv_iload_n hx hb dX0_makeRows_10 rfl (lv_at hl 1 rfl) ?_
  refine lv_iconst (v := 1) hx hb dX0_makeRows_11 (by decide) ?_
  refine lv_iadd hx hb dX0_makeRows_12 ?_
  refine q_vi (v := 9) (by decide) ?_
  refine q_newI 9 hx hb (hts (.arrayClass .int) (List.mem_of_getElem? (i := 1) rfl)) hK hP hD hS hA 0 rfl (by decide) (by decide) (by decide) (Nat.le_of_ble_eq_true rfl) (Nat.le_of_ble_eq_true rfl) dX0_makeRows_13 (fun q2 H hP hD hS => ?_)
  have hP : va_P D q_cl [(h0, .inr (0, [.ref p1, .ref p2, .ref p3, .ref q1, .null, .null, .null, .null, .null, .int 0, .int 0])), (q1, .inl (aI, 16, .inl (fun _ => 0))), (q2, .inl (aI, 9, .inl (fun _ => 0)))] H := hP
  have hD : va_D A [(h0, .inr (0, [.ref p1, .ref p2, .ref p3, .ref q1, .null, .null, .null, .null, .null, .int 0, .int 0])), (q1, .inl (aI, 16, .inl (fun _ => 0))), (q2, .inl (aI, 9, .inl (fun _ => 0)))] := hD
  refine va_put (D := D) (ci := 0) (v := .ref q2) (ty := (.array .int)) (C := RX0) (T := TX0) (N := 11) hx hb hts n_X0_makeRows_X0 tyX0 tyX0_ok nmX0 hown hK hP hD hS 0 rfl rfl 4 (by decide) (hts (.fieldLink RX0 38 "FaceMap$Faces" "rings" "[I") (List.mem_of_getElem? (i := 3) rfl)) (fun _ h9 => h9) rfl (by decide +kernel) rfl rfl (Nat.le_of_ble_eq_true rfl) dX0_makeRows_15 (fun H locs hP hD hS => ?_)
  have hP : va_P D q_cl [(h0, .inr (0, [.ref p1, .ref p2, .ref p3, .ref q1, .ref q2, .null, .null, .null, .null, .int 0, .int 0])), (q1, .inl (aI, 16, .inl (fun _ => 0))), (q2, .inl (aI, 9, .inl (fun _ => 0)))] H := hP
  have hD : va_D A [(h0, .inr (0, [.ref p1, .ref p2, .ref p3, .ref q1, .ref q2, .null, .null, .null, .null, .int 0, .int 0])), (q1, .inl (aI, 16, .inl (fun _ => 0))), (q2, .inl (aI, 9, .inl (fun _ => 0)))] := hD
  refine lv_aload_n hx hb dX0_makeRows_18 rfl (lv_at hl 0 rfl) ?_
  refine lv_iload_n hx hb dX0_makeRows_19 rfl (lv_at hl 1 rfl) ?_
  refine lv_iconst (v := 1) hx hb dX0_makeRows_20 (by decide) ?_
  refine lv_iadd hx hb dX0_makeRows_21 ?_
  refine q_vi (v := 9) (by decide) ?_
  refine q_newI 9 hx hb (hts (.arrayClass .int) (List.mem_of_getElem? (i := 1) rfl)) hK hP hD hS hA 0 rfl (by decide) (by decide) (by decide) (Nat.le_of_ble_eq_true rfl) (Nat.le_of_ble_eq_true rfl) dX0_makeRows_22 (fun q3 H hP hD hS => ?_)
  have hP : va_P D q_cl [(h0, .inr (0, [.ref p1, .ref p2, .ref p3, .ref q1, .ref q2, .null, .null, .null, .null, .int 0, .int 0])), (q1, .inl (aI, 16, .inl (fun _ => 0))), (q2, .inl (aI, 9, .inl (fun _ => 0))), (q3, .inl (aI, 9, .inl (fun _ => 0)))] H := hP
  have hD : va_D A [(h0, .inr (0, [.ref p1, .ref p2, .ref p3, .ref q1, .ref q2, .null, .null, .null, .null, .int 0, .int 0])), (q1, .inl (aI, 16, .inl (fun _ => 0))), (q2, .inl (aI, 9, .inl (fun _ => 0))), (q3, .inl (aI, 9, .inl (fun _ => 0)))] := hD
  refine va_put (D := D) (ci := 0) (v := .ref q3) (ty := (.array .int)) (C := RX0) (T := TX0) (N := 11) hx hb hts n_X0_makeRows_X0 tyX0 tyX0_ok nmX0 hown hK hP hD hS 0 rfl rfl 5 (by decide) (hts (.fieldLink RX0 41 "FaceMap$Faces" "ways" "[I") (List.mem_of_getElem? (i := 4) rfl)) (fun _ h9 => h9) rfl (by decide +kernel) rfl rfl (Nat.le_of_ble_eq_true rfl) dX0_makeRows_24 (fun H locs hP hD hS => ?_)
  have hP : va_P D q_cl [(h0, .inr (0, [.ref p1, .ref p2, .ref p3, .ref q1, .ref q2, .ref q3, .null, .null, .null, .int 0, .int 0])), (q1, .inl (aI, 16, .inl (fun _ => 0))), (q2, .inl (aI, 9, .inl (fun _ => 0))), (q3, .inl (aI, 9, .inl (fun _ => 0)))] H := hP
  have hD : va_D A [(h0, .inr (0, [.ref p1, .ref p2, .ref p3, .ref q1, .ref q2, .ref q3, .null, .null, .null, .int 0, .int 0])), (q1, .inl (aI, 16, .inl (fun _ => 0))), (q2, .inl (aI, 9, .inl (fun _ => 0))), (q3, .inl (aI, 9, .inl (fun _ => 0)))] := hD
  refine lv_aload_n hx hb dX0_makeRows_27 rfl (lv_at hl 0 rfl) ?_
  refine lv_iload_n hx hb dX0_makeRows_28 rfl (lv_at hl 1 rfl) ?_
  refine lv_iconst (v := 1) hx hb dX0_makeRows_29 (by decide) ?_
  refine lv_iadd hx hb dX0_makeRows_30 ?_
  refine q_vi (v := 9) (by decide) ?_
  refine q_newI 9 hx hb (hts (.arrayClass .int) (List.mem_of_getElem? (i := 1) rfl)) hK hP hD hS hA 0 rfl (by decide) (by decide) (by decide) (Nat.le_of_ble_eq_true rfl) (Nat.le_of_ble_eq_true rfl) dX0_makeRows_31 (fun q4 H hP hD hS => ?_)
  have hP : va_P D q_cl [(h0, .inr (0, [.ref p1, .ref p2, .ref p3, .ref q1, .ref q2, .ref q3, .null, .null, .null, .int 0, .int 0])), (q1, .inl (aI, 16, .inl (fun _ => 0))), (q2, .inl (aI, 9, .inl (fun _ => 0))), (q3, .inl (aI, 9, .inl (fun _ => 0))), (q4, .inl (aI, 9, .inl (fun _ => 0)))] H := hP
  have hD : va_D A [(h0, .inr (0, [.ref p1, .ref p2, .ref p3, .ref q1, .ref q2, .ref q3, .null, .null, .null, .int 0, .int 0])), (q1, .inl (aI, 16, .inl (fun _ => 0))), (q2, .inl (aI, 9, .inl (fun _ => 0))), (q3, .inl (aI, 9, .inl (fun _ => 0))), (q4, .inl (aI, 9, .inl (fun _ => 0)))] := hD
  refine va_put (D := D) (ci := 0) (v := .ref q4) (ty := (.array .int)) (C := RX0) (T := TX0) (N := 11) hx hb hts n_X0_makeRows_X0 tyX0 tyX0_ok nmX0 hown hK hP hD hS 0 rfl rfl 6 (by decide) (hts (.fieldLink RX0 44 "FaceMap$Faces" "keyFrom" "[I") (List.mem_of_getElem? (i := 5) rfl)) (fun _ h9 => h9) rfl (by decide +kernel) rfl rfl (Nat.le_of_ble_eq_true rfl) dX0_makeRows_33 (fun H locs hP hD hS => ?_)
  have hP : va_P D q_cl [(h0, .inr (0, [.ref p1, .ref p2, .ref p3, .ref q1, .ref q2, .ref q3, .ref q4, .null, .null, .int 0, .int 0])), (q1, .inl (aI, 16, .inl (fun _ => 0))), (q2, .inl (aI, 9, .inl (fun _ => 0))), (q3, .inl (aI, 9, .inl (fun _ => 0))), (q4, .inl (aI, 9, .inl (fun _ => 0)))] H := hP
  have hD : va_D A [(h0, .inr (0, [.ref p1, .ref p2, .ref p3, .ref q1, .ref q2, .ref q3, .ref q4, .null, .null, .int 0, .int 0])), (q1, .inl (aI, 16, .inl (fun _ => 0))), (q2, .inl (aI, 9, .inl (fun _ => 0))), (q3, .inl (aI, 9, .inl (fun _ => 0))), (q4, .inl (aI, 9, .inl (fun _ => 0)))] := hD
  refine lv_aload_n hx hb dX0_makeRows_36 rfl (lv_at hl 0 rfl) ?_
  refine lv_iload_n hx hb dX0_makeRows_37 rfl (lv_at hl 1 rfl) ?_
  refine lv_iconst (v := 1) hx hb dX0_makeRows_38 (by decide) ?_
  refine lv_iadd hx hb dX0_makeRows_39 ?_
  refine q_vi (v := 9) (by decide) ?_
  refine q_newI 9 hx hb (hts (.arrayClass .int) (List.mem_of_getElem? (i := 1) rfl)) hK hP hD hS hA 0 rfl (by decide) (by decide) (by decide) (Nat.le_of_ble_eq_true rfl) (Nat.le_of_ble_eq_true rfl) dX0_makeRows_40 (fun q5 H hP hD hS => ?_)
  have hP : va_P D q_cl [(h0, .inr (0, [.ref p1, .ref p2, .ref p3, .ref q1, .ref q2, .ref q3, .ref q4, .null, .null, .int 0, .int 0])), (q1, .inl (aI, 16, .inl (fun _ => 0))), (q2, .inl (aI, 9, .inl (fun _ => 0))), (q3, .inl (aI, 9, .inl (fun _ => 0))), (q4, .inl (aI, 9, .inl (fun _ => 0))), (q5, .inl (aI, 9, .inl (fun _ => 0)))] H := hP
  have hD : va_D A [(h0, .inr (0, [.ref p1, .ref p2, .ref p3, .ref q1, .ref q2, .ref q3, .ref q4, .null, .null, .int 0, .int 0])), (q1, .inl (aI, 16, .inl (fun _ => 0))), (q2, .inl (aI, 9, .inl (fun _ => 0))), (q3, .inl (aI, 9, .inl (fun _ => 0))), (q4, .inl (aI, 9, .inl (fun _ => 0))), (q5, .inl (aI, 9, .inl (fun _ => 0)))] := hD
  refine va_put (D := D) (ci := 0) (v := .ref q5) (ty := (.array .int)) (C := RX0) (T := TX0) (N := 11) hx hb hts n_X0_makeRows_X0 tyX0 tyX0_ok nmX0 hown hK hP hD hS 0 rfl rfl 7 (by decide) (hts (.fieldLink RX0 47 "FaceMap$Faces" "keyTo" "[I") (List.mem_of_getElem? (i := 6) rfl)) (fun _ h9 => h9) rfl (by decide +kernel) rfl rfl (Nat.le_of_ble_eq_true rfl) dX0_makeRows_42 (fun H locs hP hD hS => ?_)
  have hP : va_P D q_cl [(h0, .inr (0, [.ref p1, .ref p2, .ref p3, .ref q1, .ref q2, .ref q3, .ref q4, .ref q5, .null, .int 0, .int 0])), (q1, .inl (aI, 16, .inl (fun _ => 0))), (q2, .inl (aI, 9, .inl (fun _ => 0))), (q3, .inl (aI, 9, .inl (fun _ => 0))), (q4, .inl (aI, 9, .inl (fun _ => 0))), (q5, .inl (aI, 9, .inl (fun _ => 0)))] H := hP
  have hD : va_D A [(h0, .inr (0, [.ref p1, .ref p2, .ref p3, .ref q1, .ref q2, .ref q3, .ref q4, .ref q5, .null, .int 0, .int 0])), (q1, .inl (aI, 16, .inl (fun _ => 0))), (q2, .inl (aI, 9, .inl (fun _ => 0))), (q3, .inl (aI, 9, .inl (fun _ => 0))), (q4, .inl (aI, 9, .inl (fun _ => 0))), (q5, .inl (aI, 9, .inl (fun _ => 0)))] := hD
  refine lv_aload_n hx hb dX0_makeRows_45 rfl (lv_at hl 0 rfl) ?_
  refine lv_iload_n hx hb dX0_makeRows_46 rfl (lv_at hl 1 rfl) ?_
  refine lv_iconst (v := 1) hx hb dX0_makeRows_47 (by decide) ?_
  refine lv_iadd hx hb dX0_makeRows_48 ?_
  refine q_vi (v := 9) (by decide) ?_
  refine q_newL 9 hx hb (hts (.arrayClass .long) (List.mem_of_getElem? (i := 7) rfl)) hK hP hD hS hA 1 rfl (by decide) (by decide) (by decide) (Nat.le_of_ble_eq_true rfl) (Nat.le_of_ble_eq_true rfl) dX0_makeRows_49 (fun q6 H hP hD hS => ?_)
  have hP : va_P D q_cl [(h0, .inr (0, [.ref p1, .ref p2, .ref p3, .ref q1, .ref q2, .ref q3, .ref q4, .ref q5, .null, .int 0, .int 0])), (q1, .inl (aI, 16, .inl (fun _ => 0))), (q2, .inl (aI, 9, .inl (fun _ => 0))), (q3, .inl (aI, 9, .inl (fun _ => 0))), (q4, .inl (aI, 9, .inl (fun _ => 0))), (q5, .inl (aI, 9, .inl (fun _ => 0))), (q6, .inl (aL, 9, .inr (.inl (fun _ => 0))))] H := hP
  have hD : va_D A [(h0, .inr (0, [.ref p1, .ref p2, .ref p3, .ref q1, .ref q2, .ref q3, .ref q4, .ref q5, .null, .int 0, .int 0])), (q1, .inl (aI, 16, .inl (fun _ => 0))), (q2, .inl (aI, 9, .inl (fun _ => 0))), (q3, .inl (aI, 9, .inl (fun _ => 0))), (q4, .inl (aI, 9, .inl (fun _ => 0))), (q5, .inl (aI, 9, .inl (fun _ => 0))), (q6, .inl (aL, 9, .inr (.inl (fun _ => 0))))] := hD
  refine va_put (D := D) (ci := 0) (v := .ref q6) (ty := (.array .long)) (C := RX0) (T := TX0) (N := 11) hx hb hts n_X0_makeRows_X0 tyX0 tyX0_ok nmX0 hown hK hP hD hS 0 rfl rfl 8 (by decide) (hts (.fieldLink RX0 50 "FaceMap$Faces" "area" "[J") (List.mem_of_getElem? (i := 8) rfl)) (fun _ h9 => h9) rfl (by decide +kernel) rfl rfl (Nat.le_of_ble_eq_true rfl) dX0_makeRows_51 (fun H locs hP hD hS => ?_)
  have hP : va_P D q_cl [(h0, .inr (0, [.ref p1, .ref p2, .ref p3, .ref q1, .ref q2, .ref q3, .ref q4, .ref q5, .ref q6, .int 0, .int 0])), (q1, .inl (aI, 16, .inl (fun _ => 0))), (q2, .inl (aI, 9, .inl (fun _ => 0))), (q3, .inl (aI, 9, .inl (fun _ => 0))), (q4, .inl (aI, 9, .inl (fun _ => 0))), (q5, .inl (aI, 9, .inl (fun _ => 0))), (q6, .inl (aL, 9, .inr (.inl (fun _ => 0))))] H := hP
  have hD : va_D A [(h0, .inr (0, [.ref p1, .ref p2, .ref p3, .ref q1, .ref q2, .ref q3, .ref q4, .ref q5, .ref q6, .int 0, .int 0])), (q1, .inl (aI, 16, .inl (fun _ => 0))), (q2, .inl (aI, 9, .inl (fun _ => 0))), (q3, .inl (aI, 9, .inl (fun _ => 0))), (q4, .inl (aI, 9, .inl (fun _ => 0))), (q5, .inl (aI, 9, .inl (fun _ => 0))), (q6, .inl (aL, 9, .inr (.inl (fun _ => 0))))] := hD
  have hP9 := hP.sub (ws' := [(h0, .inr (0, [.ref p1, .ref p2, .ref p3, .ref q1, .ref q2, .ref q3, .ref q4, .ref q5, .ref q6, .int 0, .int 0])), (q1, .inl (aI, 16, .inl (fun _ => 0))), (q2, .inl (aI, 9, .inl (fun _ => 0))), (q3, .inl (aI, 9, .inl (fun _ => 0))), (q4, .inl (aI, 9, .inl (fun _ => 0))), (q5, .inl (aI, 9, .inl (fun _ => 0))), (q6, .inl (aL, 9, .inr (.inl (fun _ => 0))))]) [0, 1, 2, 3, 4, 5, 6] rfl
  have hD9 := hD.sub (ws' := [(h0, .inr (0, [.ref p1, .ref p2, .ref p3, .ref q1, .ref q2, .ref q3, .ref q4, .ref q5, .ref q6, .int 0, .int 0])), (q1, .inl (aI, 16, .inl (fun _ => 0))), (q2, .inl (aI, 9, .inl (fun _ => 0))), (q3, .inl (aI, 9, .inl (fun _ => 0))), (q4, .inl (aI, 9, .inl (fun _ => 0))), (q5, .inl (aI, 9, .inl (fun _ => 0))), (q6, .inl (aL, 9, .inr (.inl (fun _ => 0))))]) [0, 1, 2, 3, 4, 5, 6] (by decide) rfl
  exact q_retv (q1, q2, q3, q4, q5, q6) hx hb hr hlocks hK hP9 hD9 hS (Nat.le_of_ble_eq_true rfl) (Nat.le_of_ble_eq_true rfl) (trivial) dX0_makeRows_54
def vsX0_addFace : List Cond := .code yX0_addFace cX0_addFace 4 (some .int) :: ([.fieldLink RX0 60 "FaceMap$Faces" "size" "I", .fieldLink RX0 38 "FaceMap$Faces" "rings" "[I", .fieldLink RX0 41 "FaceMap$Faces" "ways" "[I", .fieldLink RX0 50 "FaceMap$Faces" "area" "[J", .fieldLink RX0 44 "FaceMap$Faces" "keyFrom" "[I", .fieldLink RX0 47 "FaceMap$Faces" "keyTo" "[I"] ++ wsX00)
set_option maxRecDepth 20000 in
theorem n_X0_addFace_X0 : ∀ w ∈ wsX00, w ∈ vsX0_addFace := fun _ h => List.mem_cons_of_mem _ (List.mem_append_right _ h)
set_option maxHeartbeats 4000000 in
set_option maxRecDepth 100000 in
/-- Faces.addFace, the first -/
theorem c_X0_addFace (l : Launch) (D : va_G) (aI aL aZ : ClassId) (h0 : Nat) (p1 : Nat) (p2 : Nat) (p3 : Nat) (le : Nat) (ri : Nat) (wa : Nat) (kf : Nat) (kt : Nat) (ar : Nat) (fr : Nat → Int32) (fw : Nat → Int32) (fk : Nat → Int32) (ft : Nat → Int32) (fa : Nat → Int64) (x : Int32) (y : Int32) (sz : Nat) : MI l D q_cl (q_ty aI aL aZ) yX0_addFace vsX0_addFace 0 0 0 [.ref h0, .int x, .int y] [(h0, .inr (0, [.ref p1, .ref p2, .ref p3, .ref le, .ref ri, .ref wa, .ref kf, .ref kt, .ref ar, .int 0, .int 0])), (ri, .inl (aI, 9, .inl fr)), (wa, .inl (aI, 9, .inl fw)), (kf, .inl (aI, 9, .inl fk)), (kt, .inl (aI, 9, .inl ft)), (ar, .inl (aL, 9, .inr (.inl fa)))] sz (fun (r : Int32) (u : (Nat → Int32) × (Nat → Int32) × (Nat → Int32) × (Nat → Int32)) => r = 0 ∧ u.1 0 = 0 ∧ u.2.1 0 = 0 ∧ u.2.2.1 0 = x ∧ u.2.2.2 0 = y) (fun (u : (Nat → Int32) × (Nat → Int32) × (Nat → Int32) × (Nat → Int32)) => [(h0, .inr (0, [.ref p1, .ref p2, .ref p3, .ref le, .ref ri, .ref wa, .ref kf, .ref kt, .ref ar, .int 1, .int 0])), (ri, .inl (aI, 9, .inl u.1)), (wa, .inl (aI, 9, .inl u.2.1)), (kf, .inl (aI, 9, .inl u.2.2.1)), (kt, .inl (aI, 9, .inl u.2.2.2))]) := by
  refine q_in cX0_addFace 4 (some .int) (qQi D q_cl (q_ty aI aL aZ) _ _) (by decide) rfl (Nat.le_of_ble_eq_true rfl) ?_
  intro p e s m args below meth c A ls hat hP hD hS hl
  obtain ⟨hx, hb, hr, hts, hown, hlocks, hml, hin, hK, hN, hA⟩ := hat
  have hown : s.vm.findClass RX0 = some m.cls := hown
  have hl : lv_has ls 4 [(0, .ref h0), (1, .int x), (2, .int y)] := hl
  refine lv_aload_n hx hb dX0_addFace_0 rfl (lv_at hl 0 rfl) ?_
  refine va_get (D := D) (ci := 0) (v := .int 0) (C := RX0) (T := TX0) (N := 11) hx hb hts n_X0_addFace_X0 hown hK hP 0 rfl rfl 9 (by decide) (hts (.fieldLink RX0 60 "FaceMap$Faces" "size" "I") (List.mem_of_getElem? (i := 1) rfl)) (fun _ h9 => h9) rfl dX0_addFace_1 ?_
  refine lv_istore_n (lv' := [(3, .int 0), (0, .ref h0), (1, .int x), (2, .int y)]) hx hb dX0_addFace_4 rfl hl (by decide) rfl (fun ls hl => ?_)
  refine lv_aload_n hx hb dX0_addFace_5 rfl (lv_at hl 1 rfl) ?_
  refine va_get (D := D) (ci := 0) (v := .ref ri) (C := RX0) (T := TX0) (N := 11) hx hb hts n_X0_addFace_X0 hown hK hP 0 rfl rfl 4 (by decide) (hts (.fieldLink RX0 38 "FaceMap$Faces" "rings" "[I") (List.mem_of_getElem? (i := 2) rfl)) (fun _ h9 => h9) rfl dX0_addFace_6 ?_
  refine lv_iload_n hx hb dX0_addFace_9 rfl (lv_at hl 0 rfl) ?_
  refine lv_iconst (v := 0) hx hb dX0_addFace_10 (by decide) ?_
  refine va_iast hx hb hK hP hD hS 1 0 rfl rfl (q_ix 0 (by decide) (by decide) (by decide)) dX0_addFace_11 (fun H locs hP hD hS => ?_)
  have hP : va_P D q_cl [(h0, .inr (0, [.ref p1, .ref p2, .ref p3, .ref le, .ref ri, .ref wa, .ref kf, .ref kt, .ref ar, .int 0, .int 0])), (ri, .inl (aI, 9, .inl (upd fr 0 0))), (wa, .inl (aI, 9, .inl fw)), (kf, .inl (aI, 9, .inl fk)), (kt, .inl (aI, 9, .inl ft)), (ar, .inl (aL, 9, .inr (.inl fa)))] H := hP
  have hD : va_D A [(h0, .inr (0, [.ref p1, .ref p2, .ref p3, .ref le, .ref ri, .ref wa, .ref kf, .ref kt, .ref ar, .int 0, .int 0])), (ri, .inl (aI, 9, .inl (upd fr 0 0))), (wa, .inl (aI, 9, .inl fw)), (kf, .inl (aI, 9, .inl fk)), (kt, .inl (aI, 9, .inl ft)), (ar, .inl (aL, 9, .inr (.inl fa)))] := hD
  refine lv_aload_n hx hb dX0_addFace_12 rfl (lv_at hl 1 rfl) ?_
  refine va_get (D := D) (ci := 0) (v := .ref wa) (C := RX0) (T := TX0) (N := 11) hx hb hts n_X0_addFace_X0 hown hK hP 0 rfl rfl 5 (by decide) (hts (.fieldLink RX0 41 "FaceMap$Faces" "ways" "[I") (List.mem_of_getElem? (i := 3) rfl)) (fun _ h9 => h9) rfl dX0_addFace_13 ?_
  refine lv_iload_n hx hb dX0_addFace_16 rfl (lv_at hl 0 rfl) ?_
  refine lv_iconst (v := 0) hx hb dX0_addFace_17 (by decide) ?_
  refine va_iast hx hb hK hP hD hS 2 0 rfl rfl (q_ix 0 (by decide) (by decide) (by decide)) dX0_addFace_18 (fun H locs hP hD hS => ?_)
  have hP : va_P D q_cl [(h0, .inr (0, [.ref p1, .ref p2, .ref p3, .ref le, .ref ri, .ref wa, .ref kf, .ref kt, .ref ar, .int 0, .int 0])), (ri, .inl (aI, 9, .inl (upd fr 0 0))), (wa, .inl (aI, 9, .inl (upd fw 0 0))), (kf, .inl (aI, 9, .inl fk)), (kt, .inl (aI, 9, .inl ft)), (ar, .inl (aL, 9, .inr (.inl fa)))] H := hP
  have hD : va_D A [(h0, .inr (0, [.ref p1, .ref p2, .ref p3, .ref le, .ref ri, .ref wa, .ref kf, .ref kt, .ref ar, .int 0, .int 0])), (ri, .inl (aI, 9, .inl (upd fr 0 0))), (wa, .inl (aI, 9, .inl (upd fw 0 0))), (kf, .inl (aI, 9, .inl fk)), (kt, .inl (aI, 9, .inl ft)), (ar, .inl (aL, 9, .inr (.inl fa)))] := hD
  refine lv_aload_n hx hb dX0_addFace_19 rfl (lv_at hl 1 rfl) ?_
  refine va_get (D := D) (ci := 0) (v := .ref ar) (C := RX0) (T := TX0) (N := 11) hx hb hts n_X0_addFace_X0 hown hK hP 0 rfl rfl 8 (by decide) (hts (.fieldLink RX0 50 "FaceMap$Faces" "area" "[J") (List.mem_of_getElem? (i := 4) rfl)) (fun _ h9 => h9) rfl dX0_addFace_20 ?_
  refine lv_iload_n hx hb dX0_addFace_23 rfl (lv_at hl 0 rfl) ?_
  refine lv_lconst (v := 0) hx hb dX0_addFace_24 (by decide) ?_
  refine va_last hx hb hK hP hD hS 5 1 rfl rfl (q_ix 0 (by decide) (by decide) (by decide)) dX0_addFace_25 (fun H locs hP hD hS => ?_)
  have hP : va_P D q_cl [(h0, .inr (0, [.ref p1, .ref p2, .ref p3, .ref le, .ref ri, .ref wa, .ref kf, .ref kt, .ref ar, .int 0, .int 0])), (ri, .inl (aI, 9, .inl (upd fr 0 0))), (wa, .inl (aI, 9, .inl (upd fw 0 0))), (kf, .inl (aI, 9, .inl fk)), (kt, .inl (aI, 9, .inl ft)), (ar, .inl (aL, 9, .inr (.inl (vp_updL fa 0 0))))] H := hP
  have hD : va_D A [(h0, .inr (0, [.ref p1, .ref p2, .ref p3, .ref le, .ref ri, .ref wa, .ref kf, .ref kt, .ref ar, .int 0, .int 0])), (ri, .inl (aI, 9, .inl (upd fr 0 0))), (wa, .inl (aI, 9, .inl (upd fw 0 0))), (kf, .inl (aI, 9, .inl fk)), (kt, .inl (aI, 9, .inl ft)), (ar, .inl (aL, 9, .inr (.inl (vp_updL fa 0 0))))] := hD
  refine lv_aload_n hx hb dX0_addFace_26 rfl (lv_at hl 1 rfl) ?_
  refine va_get (D := D) (ci := 0) (v := .ref kf) (C := RX0) (T := TX0) (N := 11) hx hb hts n_X0_addFace_X0 hown hK hP 0 rfl rfl 6 (by decide) (hts (.fieldLink RX0 44 "FaceMap$Faces" "keyFrom" "[I") (List.mem_of_getElem? (i := 5) rfl)) (fun _ h9 => h9) rfl dX0_addFace_27 ?_
  refine lv_iload_n hx hb dX0_addFace_30 rfl (lv_at hl 0 rfl) ?_
  refine lv_iload_n hx hb dX0_addFace_31 rfl (lv_at hl 2 rfl) ?_
  refine va_iast hx hb hK hP hD hS 3 0 rfl rfl (q_ix 0 (by decide) (by decide) (by decide)) dX0_addFace_32 (fun H locs hP hD hS => ?_)
  have hP : va_P D q_cl [(h0, .inr (0, [.ref p1, .ref p2, .ref p3, .ref le, .ref ri, .ref wa, .ref kf, .ref kt, .ref ar, .int 0, .int 0])), (ri, .inl (aI, 9, .inl (upd fr 0 0))), (wa, .inl (aI, 9, .inl (upd fw 0 0))), (kf, .inl (aI, 9, .inl (upd fk 0 x))), (kt, .inl (aI, 9, .inl ft)), (ar, .inl (aL, 9, .inr (.inl (vp_updL fa 0 0))))] H := hP
  have hD : va_D A [(h0, .inr (0, [.ref p1, .ref p2, .ref p3, .ref le, .ref ri, .ref wa, .ref kf, .ref kt, .ref ar, .int 0, .int 0])), (ri, .inl (aI, 9, .inl (upd fr 0 0))), (wa, .inl (aI, 9, .inl (upd fw 0 0))), (kf, .inl (aI, 9, .inl (upd fk 0 x))), (kt, .inl (aI, 9, .inl ft)), (ar, .inl (aL, 9, .inr (.inl (vp_updL fa 0 0))))] := hD
  refine lv_aload_n hx hb dX0_addFace_33 rfl (lv_at hl 1 rfl) ?_
  refine va_get (D := D) (ci := 0) (v := .ref kt) (C := RX0) (T := TX0) (N := 11) hx hb hts n_X0_addFace_X0 hown hK hP 0 rfl rfl 7 (by decide) (hts (.fieldLink RX0 47 "FaceMap$Faces" "keyTo" "[I") (List.mem_of_getElem? (i := 6) rfl)) (fun _ h9 => h9) rfl dX0_addFace_34 ?_
  refine lv_iload_n hx hb dX0_addFace_37 rfl (lv_at hl 0 rfl) ?_
  refine lv_iload_n hx hb dX0_addFace_38 rfl (lv_at hl 3 rfl) ?_
  refine va_iast hx hb hK hP hD hS 4 0 rfl rfl (q_ix 0 (by decide) (by decide) (by decide)) dX0_addFace_39 (fun H locs hP hD hS => ?_)
  have hP : va_P D q_cl [(h0, .inr (0, [.ref p1, .ref p2, .ref p3, .ref le, .ref ri, .ref wa, .ref kf, .ref kt, .ref ar, .int 0, .int 0])), (ri, .inl (aI, 9, .inl (upd fr 0 0))), (wa, .inl (aI, 9, .inl (upd fw 0 0))), (kf, .inl (aI, 9, .inl (upd fk 0 x))), (kt, .inl (aI, 9, .inl (upd ft 0 y))), (ar, .inl (aL, 9, .inr (.inl (vp_updL fa 0 0))))] H := hP
  have hD : va_D A [(h0, .inr (0, [.ref p1, .ref p2, .ref p3, .ref le, .ref ri, .ref wa, .ref kf, .ref kt, .ref ar, .int 0, .int 0])), (ri, .inl (aI, 9, .inl (upd fr 0 0))), (wa, .inl (aI, 9, .inl (upd fw 0 0))), (kf, .inl (aI, 9, .inl (upd fk 0 x))), (kt, .inl (aI, 9, .inl (upd ft 0 y))), (ar, .inl (aL, 9, .inr (.inl (vp_updL fa 0 0))))] := hD
  refine lv_aload_n hx hb dX0_addFace_40 rfl (lv_at hl 1 rfl) ?_
  refine lv_dup hx hb dX0_addFace_41 rfl ?_
  refine va_get (D := D) (ci := 0) (v := .int 0) (C := RX0) (T := TX0) (N := 11) hx hb hts n_X0_addFace_X0 hown hK hP 0 rfl rfl 9 (by decide) (hts (.fieldLink RX0 60 "FaceMap$Faces" "size" "I") (List.mem_of_getElem? (i := 1) rfl)) (fun _ h9 => h9) rfl dX0_addFace_42 ?_
  refine lv_iconst (v := 1) hx hb dX0_addFace_45 (by decide) ?_
  refine lv_iadd hx hb dX0_addFace_46 ?_
  refine q_vi (v := 1) (by decide) ?_
  refine va_put (D := D) (ci := 0) (v := .int 1) (ty := .int) (C := RX0) (T := TX0) (N := 11) hx hb hts n_X0_addFace_X0 tyX0 tyX0_ok nmX0 hown hK hP hD hS 0 rfl rfl 9 (by decide) (hts (.fieldLink RX0 60 "FaceMap$Faces" "size" "I") (List.mem_of_getElem? (i := 1) rfl)) (fun _ h9 => h9) rfl (by decide +kernel) rfl rfl (Nat.le_of_ble_eq_true rfl) dX0_addFace_47 (fun H locs hP hD hS => ?_)
  have hP : va_P D q_cl [(h0, .inr (0, [.ref p1, .ref p2, .ref p3, .ref le, .ref ri, .ref wa, .ref kf, .ref kt, .ref ar, .int 1, .int 0])), (ri, .inl (aI, 9, .inl (upd fr 0 0))), (wa, .inl (aI, 9, .inl (upd fw 0 0))), (kf, .inl (aI, 9, .inl (upd fk 0 x))), (kt, .inl (aI, 9, .inl (upd ft 0 y))), (ar, .inl (aL, 9, .inr (.inl (vp_updL fa 0 0))))] H := hP
  have hD : va_D A [(h0, .inr (0, [.ref p1, .ref p2, .ref p3, .ref le, .ref ri, .ref wa, .ref kf, .ref kt, .ref ar, .int 1, .int 0])), (ri, .inl (aI, 9, .inl (upd fr 0 0))), (wa, .inl (aI, 9, .inl (upd fw 0 0))), (kf, .inl (aI, 9, .inl (upd fk 0 x))), (kt, .inl (aI, 9, .inl (upd ft 0 y))), (ar, .inl (aL, 9, .inr (.inl (vp_updL fa 0 0))))] := hD
  refine lv_iload_n hx hb dX0_addFace_50 rfl (lv_at hl 0 rfl) ?_
  have hP9 := hP.sub (ws' := [(h0, .inr (0, [.ref p1, .ref p2, .ref p3, .ref le, .ref ri, .ref wa, .ref kf, .ref kt, .ref ar, .int 1, .int 0])), (ri, .inl (aI, 9, .inl (upd fr 0 0))), (wa, .inl (aI, 9, .inl (upd fw 0 0))), (kf, .inl (aI, 9, .inl (upd fk 0 x))), (kt, .inl (aI, 9, .inl (upd ft 0 y)))]) [0, 1, 2, 3, 4] rfl
  have hD9 := hD.sub (ws' := [(h0, .inr (0, [.ref p1, .ref p2, .ref p3, .ref le, .ref ri, .ref wa, .ref kf, .ref kt, .ref ar, .int 1, .int 0])), (ri, .inl (aI, 9, .inl (upd fr 0 0))), (wa, .inl (aI, 9, .inl (upd fw 0 0))), (kf, .inl (aI, 9, .inl (upd fk 0 x))), (kt, .inl (aI, 9, .inl (upd ft 0 y)))]) [0, 1, 2, 3, 4] (by decide) rfl
  exact q_reti ((upd fr 0 0), (upd fw 0 0), (upd fk 0 x), (upd ft 0 y)) hx hb hr hlocks hK hP9 hD9 hS (Nat.le_of_ble_eq_true rfl) (Nat.le_of_ble_eq_true rfl) (⟨rfl, (by dsimp only; exact pk_us), (by dsimp only; exact pk_us), (by dsimp only; exact pk_us), (by dsimp only; exact pk_us)⟩) dX0_addFace_51
