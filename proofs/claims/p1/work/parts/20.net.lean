def vsX7_init : List Cond := .code yX7_init cX7_init 1 none :: ([.methodLink RX7 1 objectInit, .instanceMethod objectInit, .code objectInit ⟨#[0xb1]⟩ 1 none, .arrayClass .int, .fieldLink RX7 7 "FaceMapModel$Net" "x" "[I", .fieldLink RX7 13 "FaceMapModel$Net" "y" "[I", .fieldLink RX7 16 "FaceMapModel$Net" "low" "[I", .fieldLink RX7 19 "FaceMapModel$Net" "high" "[I", .fieldLink RX7 22 "FaceMapModel$Net" "begins" "[I", .fieldLink RX7 25 "FaceMapModel$Net" "out" "[I", .fieldLink RX7 28 "FaceMapModel$Net" "rank" "[I", .fieldLink RX7 31 "FaceMapModel$Net" "round" "[I", .arrayClass .long, .fieldLink RX7 34 "FaceMapModel$Net" "area" "[J", .fieldLink RX7 38 "FaceMapModel$Net" "least" "[I", .fieldLink RX7 41 "FaceMapModel$Net" "faceOf" "[I", .fieldLink RX7 44 "FaceMapModel$Net" "part" "[I", .arrayClass .boolean, .fieldLink RX7 47 "FaceMapModel$Net" "odd" "[Z"] ++ wsX70)
set_option maxRecDepth 20000 in
theorem n_X7_init_X7 : ∀ w ∈ wsX70, w ∈ vsX7_init := fun _ h => List.mem_cons_of_mem _ (List.mem_append_right _ h)
set_option maxHeartbeats 4000000 in
set_option maxRecDepth 100000 in
/-- Net() -/
theorem c_X7_init (l : Launch) (D : va_G) (aI aL aZ : ClassId) (h0 : Nat) (sz : Nat) : MV l D q_cl (q_ty aI aL aZ) yX7_init vsX7_init 1 13 0 [.ref h0] [(h0, .inr (5, [.null, .null, .int 0, .null, .null, .int 0, .null, .null, .null, .null, .null, .null, .null, .int 0, .null, .int 0, .null]))] sz (fun (u : Nat × Nat × Nat × Nat × Nat × Nat × Nat × Nat × Nat × Nat × Nat × Nat × Nat) => True) (fun (u : Nat × Nat × Nat × Nat × Nat × Nat × Nat × Nat × Nat × Nat × Nat × Nat × Nat) => [(h0, .inr (5, [.ref u.1, .ref u.2.1, .int 0, .ref u.2.2.1, .ref u.2.2.2.1, .int 0, .ref u.2.2.2.2.1, .ref u.2.2.2.2.2.1, .ref u.2.2.2.2.2.2.1, .ref u.2.2.2.2.2.2.2.1, .ref u.2.2.2.2.2.2.2.2.1, .ref u.2.2.2.2.2.2.2.2.2.1, .ref u.2.2.2.2.2.2.2.2.2.2.1, .int 0, .ref u.2.2.2.2.2.2.2.2.2.2.2.1, .int 0, .ref u.2.2.2.2.2.2.2.2.2.2.2.2])), (u.1, .inl (aI, 0, .inl (fun _ => 0))), (u.2.2.1, .inl (aI, 0, .inl (fun _ => 0)))]) := by
  refine q_in cX7_init 1 none (qQv D q_cl (q_ty aI aL aZ) _ _) (by decide) rfl (Nat.le_of_ble_eq_true rfl) ?_
  intro p e s m args below meth c A ls hat hP hD hS hl
  obtain ⟨hx, hb, hr, hts, hown, hlocks, hml, hin, hK, hN, hA⟩ := hat
  have hown : s.vm.findClass RX7 = some m.cls := hown
  have hl : lv_has ls 1 [(0, .ref h0)] := hl
  refine lv_aload_n hx hb dX7_init_0 rfl (lv_at hl 0 rfl) ?_
  refine W.objInit hx hb hown (hts (.methodLink RX7 1 objectInit) (List.mem_of_getElem? (i := 1) rfl)) (hts (.instanceMethod objectInit) (List.mem_of_getElem? (i := 2) rfl)) (hts (.code objectInit ⟨#[0xb1]⟩ 1 none) (List.mem_of_getElem? (i := 3) rfl)) rfl (by rw [hml]; exact hl.1) rfl dX7_init_1 (Nat.le_of_ble_eq_true rfl) (Nat.le_of_ble_eq_true rfl) ?_
  refine W.eq (g2 := F0 m 4 ls []) rfl ?_
  refine lv_aload_n hx hb dX7_init_4 rfl (lv_at hl 0 rfl) ?_
  refine lv_iconst (v := 0) hx hb dX7_init_5 (by decide) ?_
  refine q_newI 0 hx hb (hts (.arrayClass .int) (List.mem_of_getElem? (i := 4) rfl)) hK hP hD hS hA 0 rfl (by decide) (by decide) (by decide) (Nat.le_of_ble_eq_true rfl) (Nat.le_of_ble_eq_true rfl) dX7_init_6 (fun q1 H hP hD hS => ?_)
  have hP : va_P D q_cl [(h0, .inr (5, [.null, .null, .int 0, .null, .null, .int 0, .null, .null, .null, .null, .null, .null, .null, .int 0, .null, .int 0, .null])), (q1, .inl (aI, 0, .inl (fun _ => 0)))] H := hP
  have hD : va_D A [(h0, .inr (5, [.null, .null, .int 0, .null, .null, .int 0, .null, .null, .null, .null, .null, .null, .null, .int 0, .null, .int 0, .null])), (q1, .inl (aI, 0, .inl (fun _ => 0)))] := hD
  refine va_put (D := D) (ci := 5) (v := .ref q1) (ty := (.array .int)) (C := RX7) (T := TX7) (N := 17) hx hb hts n_X7_init_X7 tyX7 tyX7_ok nmX7 hown hK hP hD hS 0 rfl rfl 0 (by decide) (hts (.fieldLink RX7 7 "FaceMapModel$Net" "x" "[I") (List.mem_of_getElem? (i := 5) rfl)) (fun _ h9 => h9) rfl (by decide +kernel) rfl rfl (Nat.le_of_ble_eq_true rfl) dX7_init_8 (fun H locs hP hD hS => ?_)
  have hP : va_P D q_cl [(h0, .inr (5, [.ref q1, .null, .int 0, .null, .null, .int 0, .null, .null, .null, .null, .null, .null, .null, .int 0, .null, .int 0, .null])), (q1, .inl (aI, 0, .inl (fun _ => 0)))] H := hP
  have hD : va_D A [(h0, .inr (5, [.ref q1, .null, .int 0, .null, .null, .int 0, .null, .null, .null, .null, .null, .null, .null, .int 0, .null, .int 0, .null])), (q1, .inl (aI, 0, .inl (fun _ => 0)))] := hD
  refine lv_aload_n hx hb dX7_init_11 rfl (lv_at hl 0 rfl) ?_
  refine lv_iconst (v := 0) hx hb dX7_init_12 (by decide) ?_
  refine q_newI 0 hx hb (hts (.arrayClass .int) (List.mem_of_getElem? (i := 4) rfl)) hK hP hD hS hA 0 rfl (by decide) (by decide) (by decide) (Nat.le_of_ble_eq_true rfl) (Nat.le_of_ble_eq_true rfl) dX7_init_13 (fun q2 H hP hD hS => ?_)
  have hP : va_P D q_cl [(h0, .inr (5, [.ref q1, .null, .int 0, .null, .null, .int 0, .null, .null, .null, .null, .null, .null, .null, .int 0, .null, .int 0, .null])), (q1, .inl (aI, 0, .inl (fun _ => 0))), (q2, .inl (aI, 0, .inl (fun _ => 0)))] H := hP
  have hD : va_D A [(h0, .inr (5, [.ref q1, .null, .int 0, .null, .null, .int 0, .null, .null, .null, .null, .null, .null, .null, .int 0, .null, .int 0, .null])), (q1, .inl (aI, 0, .inl (fun _ => 0))), (q2, .inl (aI, 0, .inl (fun _ => 0)))] := hD
  refine va_put (D := D) (ci := 5) (v := .ref q2) (ty := (.array .int)) (C := RX7) (T := TX7) (N := 17) hx hb hts n_X7_init_X7 tyX7 tyX7_ok nmX7 hown hK hP hD hS 0 rfl rfl 1 (by decide) (hts (.fieldLink RX7 13 "FaceMapModel$Net" "y" "[I") (List.mem_of_getElem? (i := 6) rfl)) (fun _ h9 => h9) rfl (by decide +kernel) rfl rfl (Nat.le_of_ble_eq_true rfl) dX7_init_15 (fun H locs hP hD hS => ?_)
  have hP : va_P D q_cl [(h0, .inr (5, [.ref q1, .ref q2, .int 0, .null, .null, .int 0, .null, .null, .null, .null, .null, .null, .null, .int 0, .null, .int 0, .null])), (q1, .inl (aI, 0, .inl (fun _ => 0))), (q2, .inl (aI, 0, .inl (fun _ => 0)))] H := hP
  have hD : va_D A [(h0, .inr (5, [.ref q1, .ref q2, .int 0, .null, .null, .int 0, .null, .null, .null, .null, .null, .null, .null, .int 0, .null, .int 0, .null])), (q1, .inl (aI, 0, .inl (fun _ => 0))), (q2, .inl (aI, 0, .inl (fun _ => 0)))] := hD
  refine lv_aload_n hx hb dX7_init_18 rfl (lv_at hl 0 rfl) ?_
  refine lv_iconst (v := 0) hx hb dX7_init_19 (by decide) ?_
  refine q_newI 0 hx hb (hts (.arrayClass .int) (List.mem_of_getElem? (i := 4) rfl)) hK hP hD hS hA 0 rfl (by decide) (by decide) (by decide) (Nat.le_of_ble_eq_true rfl) (Nat.le_of_ble_eq_true rfl) dX7_init_20 (fun q3 H hP hD hS => ?_)
  have hP : va_P D q_cl [(h0, .inr (5, [.ref q1, .ref q2, .int 0, .null, .null, .int 0, .null, .null, .null, .null, .null, .null, .null, .int 0, .null, .int 0, .null])), (q1, .inl (aI, 0, .inl (fun _ => 0))), (q2, .inl (aI, 0, .inl (fun _ => 0))), (q3, .inl (aI, 0, .inl (fun _ => 0)))] H := hP
  have hD : va_D A [(h0, .inr (5, [.ref q1, .ref q2, .int 0, .null, .null, .int 0, .null, .null, .null, .null, .null, .null, .null, .int 0, .null, .int 0, .null])), (q1, .inl (aI, 0, .inl (fun _ => 0))), (q2, .inl (aI, 0, .inl (fun _ => 0))), (q3, .inl (aI, 0, .inl (fun _ => 0)))] := hD
  refine va_put (D := D) (ci := 5) (v := .ref q3) (ty := (.array .int)) (C := RX7) (T := TX7) (N := 17) hx hb hts n_X7_init_X7 tyX7 tyX7_ok nmX7 hown hK hP hD hS 0 rfl rfl 3 (by decide) (hts (.fieldLink RX7 16 "FaceMapModel$Net" "low" "[I") (List.mem_of_getElem? (i := 7) rfl)) (fun _ h9 => h9) rfl (by decide +kernel) rfl rfl (Nat.le_of_ble_eq_true rfl) dX7_init_22 (fun H locs hP hD hS => ?_)
  have hP : va_P D q_cl [(h0, .inr (5, [.ref q1, .ref q2, .int 0, .ref q3, .null, .int 0, .null, .null, .null, .null, .null, .null, .null, .int 0, .null, .int 0, .null])), (q1, .inl (aI, 0, .inl (fun _ => 0))), (q2, .inl (aI, 0, .inl (fun _ => 0))), (q3, .inl (aI, 0, .inl (fun _ => 0)))] H := hP
  have hD : va_D A [(h0, .inr (5, [.ref q1, .ref q2, .int 0, .ref q3, .null, .int 0, .null, .null, .null, .null, .null, .null, .null, .int 0, .null, .int 0, .null])), (q1, .inl (aI, 0, .inl (fun _ => 0))), (q2, .inl (aI, 0, .inl (fun _ => 0))), (q3, .inl (aI, 0, .inl (fun _ => 0)))] := hD
  refine lv_aload_n hx hb dX7_init_25 rfl (lv_at hl 0 rfl) ?_
  refine lv_iconst (v := 0) hx hb dX7_init_26 (by decide) ?_
  refine q_newI 0 hx hb (hts (.arrayClass .int) (List.mem_of_getElem? (i := 4) rfl)) hK hP hD hS hA 0 rfl (by decide) (by decide) (by decide) (Nat.le_of_ble_eq_true rfl) (Nat.le_of_ble_eq_true rfl) dX7_init_27 (fun q4 H hP hD hS => ?_)
  have hP : va_P D q_cl [(h0, .inr (5, [.ref q1, .ref q2, .int 0, .ref q3, .null, .int 0, .null, .null, .null, .null, .null, .null, .null, .int 0, .null, .int 0, .null])), (q1, .inl (aI, 0, .inl (fun _ => 0))), (q2, .inl (aI, 0, .inl (fun _ => 0))), (q3, .inl (aI, 0, .inl (fun _ => 0))), (q4, .inl (aI, 0, .inl (fun _ => 0)))] H := hP
  have hD : va_D A [(h0, .inr (5, [.ref q1, .ref q2, .int 0, .ref q3, .null, .int 0, .null, .null, .null, .null, .null, .null, .null, .int 0, .null, .int 0, .null])), (q1, .inl (aI, 0, .inl (fun _ => 0))), (q2, .inl (aI, 0, .inl (fun _ => 0))), (q3, .inl (aI, 0, .inl (fun _ => 0))), (q4, .inl (aI, 0, .inl (fun _ => 0)))] := hD
  refine va_put (D := D) (ci := 5) (v := .ref q4) (ty := (.array .int)) (C := RX7) (T := TX7) (N := 17) hx hb hts n_X7_init_X7 tyX7 tyX7_ok nmX7 hown hK hP hD hS 0 rfl rfl 4 (by decide) (hts (.fieldLink RX7 19 "FaceMapModel$Net" "high" "[I") (List.mem_of_getElem? (i := 8) rfl)) (fun _ h9 => h9) rfl (by decide +kernel) rfl rfl (Nat.le_of_ble_eq_true rfl) dX7_init_29 (fun H locs hP hD hS => ?_)
  have hP : va_P D q_cl [(h0, .inr (5, [.ref q1, .ref q2, .int 0, .ref q3, .ref q4, .int 0, .null, .null, .null, .null, .null, .null, .null, .int 0, .null, .int 0, .null])), (q1, .inl (aI, 0, .inl (fun _ => 0))), (q2, .inl (aI, 0, .inl (fun _ => 0))), (q3, .inl (aI, 0, .inl (fun _ => 0))), (q4, .inl (aI, 0, .inl (fun _ => 0)))] H := hP
  have hD : va_D A [(h0, .inr (5, [.ref q1, .ref q2, .int 0, .ref q3, .ref q4, .int 0, .null, .null, .null, .null, .null, .null, .null, .int 0, .null, .int 0, .null])), (q1, .inl (aI, 0, .inl (fun _ => 0))), (q2, .inl (aI, 0, .inl (fun _ => 0))), (q3, .inl (aI, 0, .inl (fun _ => 0))), (q4, .inl (aI, 0, .inl (fun _ => 0)))] := hD
  refine lv_aload_n hx hb dX7_init_32 rfl (lv_at hl 0 rfl) ?_
  refine lv_iconst (v := 0) hx hb dX7_init_33 (by decide) ?_
  refine q_newI 0 hx hb (hts (.arrayClass .int) (List.mem_of_getElem? (i := 4) rfl)) hK hP hD hS hA 0 rfl (by decide) (by decide) (by decide) (Nat.le_of_ble_eq_true rfl) (Nat.le_of_ble_eq_true rfl) dX7_init_34 (fun q5 H hP hD hS => ?_)
  have hP : va_P D q_cl [(h0, .inr (5, [.ref q1, .ref q2, .int 0, .ref q3, .ref q4, .int 0, .null, .null, .null, .null, .null, .null, .null, .int 0, .null, .int 0, .null])), (q1, .inl (aI, 0, .inl (fun _ => 0))), (q2, .inl (aI, 0, .inl (fun _ => 0))), (q3, .inl (aI, 0, .inl (fun _ => 0))), (q4, .inl (aI, 0, .inl (fun _ => 0))), (q5, .inl (aI, 0, .inl (fun _ => 0)))] H := hP
  have hD : va_D A [(h0, .inr (5, [.ref q1, .ref q2, .int 0, .ref q3, .ref q4, .int 0, .null, .null, .null, .null, .null, .null, .null, .int 0, .null, .int 0, .null])), (q1, .inl (aI, 0, .inl (fun _ => 0))), (q2, .inl (aI, 0, .inl (fun _ => 0))), (q3, .inl (aI, 0, .inl (fun _ => 0))), (q4, .inl (aI, 0, .inl (fun _ => 0))), (q5, .inl (aI, 0, .inl (fun _ => 0)))] := hD
  refine va_put (D := D) (ci := 5) (v := .ref q5) (ty := (.array .int)) (C := RX7) (T := TX7) (N := 17) hx hb hts n_X7_init_X7 tyX7 tyX7_ok nmX7 hown hK hP hD hS 0 rfl rfl 6 (by decide) (hts (.fieldLink RX7 22 "FaceMapModel$Net" "begins" "[I") (List.mem_of_getElem? (i := 9) rfl)) (fun _ h9 => h9) rfl (by decide +kernel) rfl rfl (Nat.le_of_ble_eq_true rfl) dX7_init_36 (fun H locs hP hD hS => ?_)
  have hP : va_P D q_cl [(h0, .inr (5, [.ref q1, .ref q2, .int 0, .ref q3, .ref q4, .int 0, .ref q5, .null, .null, .null, .null, .null, .null, .int 0, .null, .int 0, .null])), (q1, .inl (aI, 0, .inl (fun _ => 0))), (q2, .inl (aI, 0, .inl (fun _ => 0))), (q3, .inl (aI, 0, .inl (fun _ => 0))), (q4, .inl (aI, 0, .inl (fun _ => 0))), (q5, .inl (aI, 0, .inl (fun _ => 0)))] H := hP
  have hD : va_D A [(h0, .inr (5, [.ref q1, .ref q2, .int 0, .ref q3, .ref q4, .int 0, .ref q5, .null, .null, .null, .null, .null, .null, .int 0, .null, .int 0, .null])), (q1, .inl (aI, 0, .inl (fun _ => 0))), (q2, .inl (aI, 0, .inl (fun _ => 0))), (q3, .inl (aI, 0, .inl (fun _ => 0))), (q4, .inl (aI, 0, .inl (fun _ => 0))), (q5, .inl (aI, 0, .inl (fun _ => 0)))] := hD
  refine lv_aload_n hx hb dX7_init_39 rfl (lv_at hl 0 rfl) ?_
  refine lv_iconst (v := 0) hx hb dX7_init_40 (by decide) ?_
  refine q_newI 0 hx hb (hts (.arrayClass .int) (List.mem_of_getElem? (i := 4) rfl)) hK hP hD hS hA 0 rfl (by decide) (by decide) (by decide) (Nat.le_of_ble_eq_true rfl) (Nat.le_of_ble_eq_true rfl) dX7_init_41 (fun q6 H hP hD hS => ?_)
  have hP : va_P D q_cl [(h0, .inr (5, [.ref q1, .ref q2, .int 0, .ref q3, .ref q4, .int 0, .ref q5, .null, .null, .null, .null, .null, .null, .int 0, .null, .int 0, .null])), (q1, .inl (aI, 0, .inl (fun _ => 0))), (q2, .inl (aI, 0, .inl (fun _ => 0))), (q3, .inl (aI, 0, .inl (fun _ => 0))), (q4, .inl (aI, 0, .inl (fun _ => 0))), (q5, .inl (aI, 0, .inl (fun _ => 0))), (q6, .inl (aI, 0, .inl (fun _ => 0)))] H := hP
  have hD : va_D A [(h0, .inr (5, [.ref q1, .ref q2, .int 0, .ref q3, .ref q4, .int 0, .ref q5, .null, .null, .null, .null, .null, .null, .int 0, .null, .int 0, .null])), (q1, .inl (aI, 0, .inl (fun _ => 0))), (q2, .inl (aI, 0, .inl (fun _ => 0))), (q3, .inl (aI, 0, .inl (fun _ => 0))), (q4, .inl (aI, 0, .inl (fun _ => 0))), (q5, .inl (aI, 0, .inl (fun _ => 0))), (q6, .inl (aI, 0, .inl (fun _ => 0)))] := hD
  refine va_put (D := D) (ci := 5) (v := .ref q6) (ty := (.array .int)) (C := RX7) (T := TX7) (N := 17) hx hb hts n_X7_init_X7 tyX7 tyX7_ok nmX7 hown hK hP hD hS 0 rfl rfl 7 (by decide) (hts (.fieldLink RX7 25 "FaceMapModel$Net" "out" "[I") (List.mem_of_getElem? (i := 10) rfl)) (fun _ h9 => h9) rfl (by decide +kernel) rfl rfl (Nat.le_of_ble_eq_true rfl) dX7_init_43 (fun H locs hP hD hS => ?_)
  have hP : va_P D q_cl [(h0, .inr (5, [.ref q1, .ref q2, .int 0, .ref q3, .ref q4, .int 0, .ref q5, .ref q6, .null, .null, .null, .null, .null, .int 0, .null, .int 0, .null])), (q1, .inl (aI, 0, .inl (fun _ => 0))), (q2, .inl (aI, 0, .inl (fun _ => 0))), (q3, .inl (aI, 0, .inl (fun _ => 0))), (q4, .inl (aI, 0, .inl (fun _ => 0))), (q5, .inl (aI, 0, .inl (fun _ => 0))), (q6, .inl (aI, 0, .inl (fun _ => 0)))] H := hP
  have hD : va_D A [(h0, .inr (5, [.ref q1, .ref q2, .int 0, .ref q3, .ref q4, .int 0, .ref q5, .ref q6, .null, .null, .null, .null, .null, .int 0, .null, .int 0, .null])), (q1, .inl (aI, 0, .inl (fun _ => 0))), (q2, .inl (aI, 0, .inl (fun _ => 0))), (q3, .inl (aI, 0, .inl (fun _ => 0))), (q4, .inl (aI, 0, .inl (fun _ => 0))), (q5, .inl (aI, 0, .inl (fun _ => 0))), (q6, .inl (aI, 0, .inl (fun _ => 0)))] := hD
  refine lv_aload_n hx hb dX7_init_46 rfl (lv_at hl 0 rfl) ?_
  refine lv_iconst (v := 0) hx hb dX7_init_47 (by decide) ?_
  refine q_newI 0 hx hb (hts (.arrayClass .int) (List.mem_of_getElem? (i := 4) rfl)) hK hP hD hS hA 0 rfl (by decide) (by decide) (by decide) (Nat.le_of_ble_eq_true rfl) (Nat.le_of_ble_eq_true rfl) dX7_init_48 (fun q7 H hP hD hS => ?_)
  have hP : va_P D q_cl [(h0, .inr (5, [.ref q1, .ref q2, .int 0, .ref q3, .ref q4, .int 0, .ref q5, .ref q6, .null, .null, .null, .null, .null, .int 0, .null, .int 0, .null])), (q1, .inl (aI, 0, .inl (fun _ => 0))), (q2, .inl (aI, 0, .inl (fun _ => 0))), (q3, .inl (aI, 0, .inl (fun _ => 0))), (q4, .inl (aI, 0, .inl (fun _ => 0))), (q5, .inl (aI, 0, .inl (fun _ => 0))), (q6, .inl (aI, 0, .inl (fun _ => 0))), (q7, .inl (aI, 0, .inl (fun _ => 0)))] H := hP
  have hD : va_D A [(h0, .inr (5, [.ref q1, .ref q2, .int 0, .ref q3, .ref q4, .int 0, .ref q5, .ref q6, .null, .null, .null, .null, .null, .int 0, .null, .int 0, .null])), (q1, .inl (aI, 0, .inl (fun _ => 0))), (q2, .inl (aI, 0, .inl (fun _ => 0))), (q3, .inl (aI, 0, .inl (fun _ => 0))), (q4, .inl (aI, 0, .inl (fun _ => 0))), (q5, .inl (aI, 0, .inl (fun _ => 0))), (q6, .inl (aI, 0, .inl (fun _ => 0))), (q7, .inl (aI, 0, .inl (fun _ => 0)))] := hD
  refine va_put (D := D) (ci := 5) (v := .ref q7) (ty := (.array .int)) (C := RX7) (T := TX7) (N := 17) hx hb hts n_X7_init_X7 tyX7 tyX7_ok nmX7 hown hK hP hD hS 0 rfl rfl 8 (by decide) (hts (.fieldLink RX7 28 "FaceMapModel$Net" "rank" "[I") (List.mem_of_getElem? (i := 11) rfl)) (fun _ h9 => h9) rfl (by decide +kernel) rfl rfl (Nat.le_of_ble_eq_true rfl) dX7_init_50 (fun H locs hP hD hS => ?_)
  have hP : va_P D q_cl [(h0, .inr (5, [.ref q1, .ref q2, .int 0, .ref q3, .ref q4, .int 0, .ref q5, .ref q6, .ref q7, .null, .null, .null, .null, .int 0, .null, .int 0, .null])), (q1, .inl (aI, 0, .inl (fun _ => 0))), (q2, .inl (aI, 0, .inl (fun _ => 0))), (q3, .inl (aI, 0, .inl (fun _ => 0))), (q4, .inl (aI, 0, .inl (fun _ => 0))), (q5, .inl (aI, 0, .inl (fun _ => 0))), (q6, .inl (aI, 0, .inl (fun _ => 0))), (q7, .inl (aI, 0, .inl (fun _ => 0)))] H := hP
  have hD : va_D A [(h0, .inr (5, [.ref q1, .ref q2, .int 0, .ref q3, .ref q4, .int 0, .ref q5, .ref q6, .ref q7, .null, .null, .null, .null, .int 0, .null, .int 0, .null])), (q1, .inl (aI, 0, .inl (fun _ => 0))), (q2, .inl (aI, 0, .inl (fun _ => 0))), (q3, .inl (aI, 0, .inl (fun _ => 0))), (q4, .inl (aI, 0, .inl (fun _ => 0))), (q5, .inl (aI, 0, .inl (fun _ => 0))), (q6, .inl (aI, 0, .inl (fun _ => 0))), (q7, .inl (aI, 0, .inl (fun _ => 0)))] := hD
  refine lv_aload_n hx hb dX7_init_53 rfl (lv_at hl 0 rfl) ?_
  refine lv_iconst (v := 0) hx hb dX7_init_54 (by decide) ?_
  refine q_newI 0 hx hb (hts (.arrayClass .int) (List.mem_of_getElem? (i := 4) rfl)) hK hP hD hS hA 0 rfl (by decide) (by decide) (by decide) (Nat.le_of_ble_eq_true rfl) (Nat.le_of_ble_eq_true rfl) dX7_init_55 (fun q8 H hP hD hS => ?_)
  have hP : va_P D q_cl [(h0, .inr (5, [.ref q1, .ref q2, .int 0, .ref q3, .ref q4, .int 0, .ref q5, .ref q6, .ref q7, .null, .null, .null, .null, .int 0, .null, .int 0, .null])), (q1, .inl (aI, 0, .inl (fun _ => 0))), (q2, .inl (aI, 0, .inl (fun _ => 0))), (q3, .inl (aI, 0, .inl (fun _ => 0))), (q4, .inl (aI, 0, .inl (fun _ => 0))), (q5, .inl (aI, 0, .inl (fun _ => 0))), (q6, .inl (aI, 0, .inl (fun _ => 0))), (q7, .inl (aI, 0, .inl (fun _ => 0))), (q8, .inl (aI, 0, .inl (fun _ => 0)))] H := hP
  have hD : va_D A [(h0, .inr (5, [.ref q1, .ref q2, .int 0, .ref q3, .ref q4, .int 0, .ref q5, .ref q6, .ref q7, .null, .null, .null, .null, .int 0, .null, .int 0, .null])), (q1, .inl (aI, 0, .inl (fun _ => 0))), (q2, .inl (aI, 0, .inl (fun _ => 0))), (q3, .inl (aI, 0, .inl (fun _ => 0))), (q4, .inl (aI, 0, .inl (fun _ => 0))), (q5, .inl (aI, 0, .inl (fun _ => 0))), (q6, .inl (aI, 0, .inl (fun _ => 0))), (q7, .inl (aI, 0, .inl (fun _ => 0))), (q8, .inl (aI, 0, .inl (fun _ => 0)))] := hD
  refine va_put (D := D) (ci := 5) (v := .ref q8) (ty := (.array .int)) (C := RX7) (T := TX7) (N := 17) hx hb hts n_X7_init_X7 tyX7 tyX7_ok nmX7 hown hK hP hD hS 0 rfl rfl 9 (by decide) (hts (.fieldLink RX7 31 "FaceMapModel$Net" "round" "[I") (List.mem_of_getElem? (i := 12) rfl)) (fun _ h9 => h9) rfl (by decide +kernel) rfl rfl (Nat.le_of_ble_eq_true rfl) dX7_init_57 (fun H locs hP hD hS => ?_)
  have hP : va_P D q_cl [(h0, .inr (5, [.ref q1, .ref q2, .int 0, .ref q3, .ref q4, .int 0, .ref q5, .ref q6, .ref q7, .ref q8, .null, .null, .null, .int 0, .null, .int 0, .null])), (q1, .inl (aI, 0, .inl (fun _ => 0))), (q2, .inl (aI, 0, .inl (fun _ => 0))), (q3, .inl (aI, 0, .inl (fun _ => 0))), (q4, .inl (aI, 0, .inl (fun _ => 0))), (q5, .inl (aI, 0, .inl (fun _ => 0))), (q6, .inl (aI, 0, .inl (fun _ => 0))), (q7, .inl (aI, 0, .inl (fun _ => 0))), (q8, .inl (aI, 0, .inl (fun _ => 0)))] H := hP
  have hD : va_D A [(h0, .inr (5, [.ref q1, .ref q2, .int 0, .ref q3, .ref q4, .int 0, .ref q5, .ref q6, .ref q7, .ref q8, .null, .null, .null, .int 0, .null, .int 0, .null])), (q1, .inl (aI, 0, .inl (fun _ => 0))), (q2, .inl (aI, 0, .inl (fun _ => 0))), (q3, .inl (aI, 0, .inl (fun _ => 0))), (q4, .inl (aI, 0, .inl (fun _ => 0))), (q5, .inl (aI, 0, .inl (fun _ => 0))), (q6, .inl (aI, 0, .inl (fun _ => 0))), (q7, .inl (aI, 0, .inl (fun _ => 0))), (q8, .inl (aI, 0, .inl (fun _ => 0)))] := hD
  refine lv_aload_n hx hb dX7_init_60 rfl (lv_at hl 0 rfl) ?_
  refine lv_iconst (v := 0) hx hb dX7_init_61 (by decide) ?_
  refine q_newL 0 hx hb (hts (.arrayClass .long) (List.mem_of_getElem? (i := 13) rfl)) hK hP hD hS hA 1 rfl (by decide) (by decide) (by decide) (Nat.le_of_ble_eq_true rfl) (Nat.le_of_ble_eq_true rfl) dX7_init_62 (fun q9 H hP hD hS => ?_)
  have hP : va_P D q_cl [(h0, .inr (5, [.ref q1, .ref q2, .int 0, .ref q3, .ref q4, .int 0, .ref q5, .ref q6, .ref q7, .ref q8, .null, .null, .null, .int 0, .null, .int 0, .null])), (q1, .inl (aI, 0, .inl (fun _ => 0))), (q2, .inl (aI, 0, .inl (fun _ => 0))), (q3, .inl (aI, 0, .inl (fun _ => 0))), (q4, .inl (aI, 0, .inl (fun _ => 0))), (q5, .inl (aI, 0, .inl (fun _ => 0))), (q6, .inl (aI, 0, .inl (fun _ => 0))), (q7, .inl (aI, 0, .inl (fun _ => 0))), (q8, .inl (aI, 0, .inl (fun _ => 0))), (q9, .inl (aL, 0, .inr (.inl (fun _ => 0))))] H := hP
  have hD : va_D A [(h0, .inr (5, [.ref q1, .ref q2, .int 0, .ref q3, .ref q4, .int 0, .ref q5, .ref q6, .ref q7, .ref q8, .null, .null, .null, .int 0, .null, .int 0, .null])), (q1, .inl (aI, 0, .inl (fun _ => 0))), (q2, .inl (aI, 0, .inl (fun _ => 0))), (q3, .inl (aI, 0, .inl (fun _ => 0))), (q4, .inl (aI, 0, .inl (fun _ => 0))), (q5, .inl (aI, 0, .inl (fun _ => 0))), (q6, .inl (aI, 0, .inl (fun _ => 0))), (q7, .inl (aI, 0, .inl (fun _ => 0))), (q8, .inl (aI, 0, .inl (fun _ => 0))), (q9, .inl (aL, 0, .inr (.inl (fun _ => 0))))] := hD
  refine va_put (D := D) (ci := 5) (v := .ref q9) (ty := (.array .long)) (C := RX7) (T := TX7) (N := 17) hx hb hts n_X7_init_X7 tyX7 tyX7_ok nmX7 hown hK hP hD hS 0 rfl rfl 10 (by decide) (hts (.fieldLink RX7 34 "FaceMapModel$Net" "area" "[J") (List.mem_of_getElem? (i := 14) rfl)) (fun _ h9 => h9) rfl (by decide +kernel) rfl rfl (Nat.le_of_ble_eq_true rfl) dX7_init_64 (fun H locs hP hD hS => ?_)
  have hP : va_P D q_cl [(h0, .inr (5, [.ref q1, .ref q2, .int 0, .ref q3, .ref q4, .int 0, .ref q5, .ref q6, .ref q7, .ref q8, .ref q9, .null, .null, .int 0, .null, .int 0, .null])), (q1, .inl (aI, 0, .inl (fun _ => 0))), (q2, .inl (aI, 0, .inl (fun _ => 0))), (q3, .inl (aI, 0, .inl (fun _ => 0))), (q4, .inl (aI, 0, .inl (fun _ => 0))), (q5, .inl (aI, 0, .inl (fun _ => 0))), (q6, .inl (aI, 0, .inl (fun _ => 0))), (q7, .inl (aI, 0, .inl (fun _ => 0))), (q8, .inl (aI, 0, .inl (fun _ => 0))), (q9, .inl (aL, 0, .inr (.inl (fun _ => 0))))] H := hP
  have hD : va_D A [(h0, .inr (5, [.ref q1, .ref q2, .int 0, .ref q3, .ref q4, .int 0, .ref q5, .ref q6, .ref q7, .ref q8, .ref q9, .null, .null, .int 0, .null, .int 0, .null])), (q1, .inl (aI, 0, .inl (fun _ => 0))), (q2, .inl (aI, 0, .inl (fun _ => 0))), (q3, .inl (aI, 0, .inl (fun _ => 0))), (q4, .inl (aI, 0, .inl (fun _ => 0))), (q5, .inl (aI, 0, .inl (fun _ => 0))), (q6, .inl (aI, 0, .inl (fun _ => 0))), (q7, .inl (aI, 0, .inl (fun _ => 0))), (q8, .inl (aI, 0, .inl (fun _ => 0))), (q9, .inl (aL, 0, .inr (.inl (fun _ => 0))))] := hD
  refine lv_aload_n hx hb dX7_init_67 rfl (lv_at hl 0 rfl) ?_
  refine lv_iconst (v := 0) hx hb dX7_init_68 (by decide) ?_
  refine q_newI 0 hx hb (hts (.arrayClass .int) (List.mem_of_getElem? (i := 4) rfl)) hK hP hD hS hA 0 rfl (by decide) (by decide) (by decide) (Nat.le_of_ble_eq_true rfl) (Nat.le_of_ble_eq_true rfl) dX7_init_69 (fun q10 H hP hD hS => ?_)
  have hP : va_P D q_cl [(h0, .inr (5, [.ref q1, .ref q2, .int 0, .ref q3, .ref q4, .int 0, .ref q5, .ref q6, .ref q7, .ref q8, .ref q9, .null, .null, .int 0, .null, .int 0, .null])), (q1, .inl (aI, 0, .inl (fun _ => 0))), (q2, .inl (aI, 0, .inl (fun _ => 0))), (q3, .inl (aI, 0, .inl (fun _ => 0))), (q4, .inl (aI, 0, .inl (fun _ => 0))), (q5, .inl (aI, 0, .inl (fun _ => 0))), (q6, .inl (aI, 0, .inl (fun _ => 0))), (q7, .inl (aI, 0, .inl (fun _ => 0))), (q8, .inl (aI, 0, .inl (fun _ => 0))), (q9, .inl (aL, 0, .inr (.inl (fun _ => 0)))), (q10, .inl (aI, 0, .inl (fun _ => 0)))] H := hP
  have hD : va_D A [(h0, .inr (5, [.ref q1, .ref q2, .int 0, .ref q3, .ref q4, .int 0, .ref q5, .ref q6, .ref q7, .ref q8, .ref q9, .null, .null, .int 0, .null, .int 0, .null])), (q1, .inl (aI, 0, .inl (fun _ => 0))), (q2, .inl (aI, 0, .inl (fun _ => 0))), (q3, .inl (aI, 0, .inl (fun _ => 0))), (q4, .inl (aI, 0, .inl (fun _ => 0))), (q5, .inl (aI, 0, .inl (fun _ => 0))), (q6, .inl (aI, 0, .inl (fun _ => 0))), (q7, .inl (aI, 0, .inl (fun _ => 0))), (q8, .inl (aI, 0, .inl (fun _ => 0))), (q9, .inl (aL, 0, .inr (.inl (fun _ => 0)))), (q10, .inl (aI, 0, .inl (fun _ => 0)))] := hD
  refine va_put (D := D) (ci := 5) (v := .ref q10) (ty := (.array .int)) (C := RX7) (T := TX7) (N := 17) hx hb hts n_X7_init_X7 tyX7 tyX7_ok nmX7 hown hK hP hD hS 0 rfl rfl 11 (by decide) (hts (.fieldLink RX7 38 "FaceMapModel$Net" "least" "[I") (List.mem_of_getElem? (i := 15) rfl)) (fun _ h9 => h9) rfl (by decide +kernel) rfl rfl (Nat.le_of_ble_eq_true rfl) dX7_init_71 (fun H locs hP hD hS => ?_)
  have hP : va_P D q_cl [(h0, .inr (5, [.ref q1, .ref q2, .int 0, .ref q3, .ref q4, .int 0, .ref q5, .ref q6, .ref q7, .ref q8, .ref q9, .ref q10, .null, .int 0, .null, .int 0, .null])), (q1, .inl (aI, 0, .inl (fun _ => 0))), (q2, .inl (aI, 0, .inl (fun _ => 0))), (q3, .inl (aI, 0, .inl (fun _ => 0))), (q4, .inl (aI, 0, .inl (fun _ => 0))), (q5, .inl (aI, 0, .inl (fun _ => 0))), (q6, .inl (aI, 0, .inl (fun _ => 0))), (q7, .inl (aI, 0, .inl (fun _ => 0))), (q8, .inl (aI, 0, .inl (fun _ => 0))), (q9, .inl (aL, 0, .inr (.inl (fun _ => 0)))), (q10, .inl (aI, 0, .inl (fun _ => 0)))] H := hP
  have hD : va_D A [(h0, .inr (5, [.ref q1, .ref q2, .int 0, .ref q3, .ref q4, .int 0, .ref q5, .ref q6, .ref q7, .ref q8, .ref q9, .ref q10, .null, .int 0, .null, .int 0, .null])), (q1, .inl (aI, 0, .inl (fun _ => 0))), (q2, .inl (aI, 0, .inl (fun _ => 0))), (q3, .inl (aI, 0, .inl (fun _ => 0))), (q4, .inl (aI, 0, .inl (fun _ => 0))), (q5, .inl (aI, 0, .inl (fun _ => 0))), (q6, .inl (aI, 0, .inl (fun _ => 0))), (q7, .inl (aI, 0, .inl (fun _ => 0))), (q8, .inl (aI, 0, .inl (fun _ => 0))), (q9, .inl (aL, 0, .inr (.inl (fun _ => 0)))), (q10, .inl (aI, 0, .inl (fun _ => 0)))] := hD
  refine lv_aload_n hx hb dX7_init_74 rfl (lv_at hl 0 rfl) ?_
  refine lv_iconst (v := 0) hx hb dX7_init_75 (by decide) ?_
  refine q_newI 0 hx hb (hts (.arrayClass .int) (List.mem_of_getElem? (i := 4) rfl)) hK hP hD hS hA 0 rfl (by decide) (by decide) (by decide) (Nat.le_of_ble_eq_true rfl) (Nat.le_of_ble_eq_true rfl) dX7_init_76 (fun q11 H hP hD hS => ?_)
  have hP : va_P D q_cl [(h0, .inr (5, [.ref q1, .ref q2, .int 0, .ref q3, .ref q4, .int 0, .ref q5, .ref q6, .ref q7, .ref q8, .ref q9, .ref q10, .null, .int 0, .null, .int 0, .null])), (q1, .inl (aI, 0, .inl (fun _ => 0))), (q2, .inl (aI, 0, .inl (fun _ => 0))), (q3, .inl (aI, 0, .inl (fun _ => 0))), (q4, .inl (aI, 0, .inl (fun _ => 0))), (q5, .inl (aI, 0, .inl (fun _ => 0))), (q6, .inl (aI, 0, .inl (fun _ => 0))), (q7, .inl (aI, 0, .inl (fun _ => 0))), (q8, .inl (aI, 0, .inl (fun _ => 0))), (q9, .inl (aL, 0, .inr (.inl (fun _ => 0)))), (q10, .inl (aI, 0, .inl (fun _ => 0))), (q11, .inl (aI, 0, .inl (fun _ => 0)))] H := hP
  have hD : va_D A [(h0, .inr (5, [.ref q1, .ref q2, .int 0, .ref q3, .ref q4, .int 0, .ref q5, .ref q6, .ref q7, .ref q8, .ref q9, .ref q10, .null, .int 0, .null, .int 0, .null])), (q1, .inl (aI, 0, .inl (fun _ => 0))), (q2, .inl (aI, 0, .inl (fun _ => 0))), (q3, .inl (aI, 0, .inl (fun _ => 0))), (q4, .inl (aI, 0, .inl (fun _ => 0))), (q5, .inl (aI, 0, .inl (fun _ => 0))), (q6, .inl (aI, 0, .inl (fun _ => 0))), (q7, .inl (aI, 0, .inl (fun _ => 0))), (q8, .inl (aI, 0, .inl (fun _ => 0))), (q9, .inl (aL, 0, .inr (.inl (fun _ => 0)))), (q10, .inl (aI, 0, .inl (fun _ => 0))), (q11, .inl (aI, 0, .inl (fun _ => 0)))] := hD
  refine va_put (D := D) (ci := 5) (v := .ref q11) (ty := (.array .int)) (C := RX7) (T := TX7) (N := 17) hx hb hts n_X7_init_X7 tyX7 tyX7_ok nmX7 hown hK hP hD hS 0 rfl rfl 12 (by decide) (hts (.fieldLink RX7 41 "FaceMapModel$Net" "faceOf" "[I") (List.mem_of_getElem? (i := 16) rfl)) (fun _ h9 => h9) rfl (by decide +kernel) rfl rfl (Nat.le_of_ble_eq_true rfl) dX7_init_78 (fun H locs hP hD hS => ?_)
  have hP : va_P D q_cl [(h0, .inr (5, [.ref q1, .ref q2, .int 0, .ref q3, .ref q4, .int 0, .ref q5, .ref q6, .ref q7, .ref q8, .ref q9, .ref q10, .ref q11, .int 0, .null, .int 0, .null])), (q1, .inl (aI, 0, .inl (fun _ => 0))), (q2, .inl (aI, 0, .inl (fun _ => 0))), (q3, .inl (aI, 0, .inl (fun _ => 0))), (q4, .inl (aI, 0, .inl (fun _ => 0))), (q5, .inl (aI, 0, .inl (fun _ => 0))), (q6, .inl (aI, 0, .inl (fun _ => 0))), (q7, .inl (aI, 0, .inl (fun _ => 0))), (q8, .inl (aI, 0, .inl (fun _ => 0))), (q9, .inl (aL, 0, .inr (.inl (fun _ => 0)))), (q10, .inl (aI, 0, .inl (fun _ => 0))), (q11, .inl (aI, 0, .inl (fun _ => 0)))] H := hP
  have hD : va_D A [(h0, .inr (5, [.ref q1, .ref q2, .int 0, .ref q3, .ref q4, .int 0, .ref q5, .ref q6, .ref q7, .ref q8, .ref q9, .ref q10, .ref q11, .int 0, .null, .int 0, .null])), (q1, .inl (aI, 0, .inl (fun _ => 0))), (q2, .inl (aI, 0, .inl (fun _ => 0))), (q3, .inl (aI, 0, .inl (fun _ => 0))), (q4, .inl (aI, 0, .inl (fun _ => 0))), (q5, .inl (aI, 0, .inl (fun _ => 0))), (q6, .inl (aI, 0, .inl (fun _ => 0))), (q7, .inl (aI, 0, .inl (fun _ => 0))), (q8, .inl (aI, 0, .inl (fun _ => 0))), (q9, .inl (aL, 0, .inr (.inl (fun _ => 0)))), (q10, .inl (aI, 0, .inl (fun _ => 0))), (q11, .inl (aI, 0, .inl (fun _ => 0)))] := hD
  refine lv_aload_n hx hb dX7_init_81 rfl (lv_at hl 0 rfl) ?_
  refine lv_iconst (v := 0) hx hb dX7_init_82 (by decide) ?_
  refine q_newI 0 hx hb (hts (.arrayClass .int) (List.mem_of_getElem? (i := 4) rfl)) hK hP hD hS hA 0 rfl (by decide) (by decide) (by decide) (Nat.le_of_ble_eq_true rfl) (Nat.le_of_ble_eq_true rfl) dX7_init_83 (fun q12 H hP hD hS => ?_)
  have hP : va_P D q_cl [(h0, .inr (5, [.ref q1, .ref q2, .int 0, .ref q3, .ref q4, .int 0, .ref q5, .ref q6, .ref q7, .ref q8, .ref q9, .ref q10, .ref q11, .int 0, .null, .int 0, .null])), (q1, .inl (aI, 0, .inl (fun _ => 0))), (q2, .inl (aI, 0, .inl (fun _ => 0))), (q3, .inl (aI, 0, .inl (fun _ => 0))), (q4, .inl (aI, 0, .inl (fun _ => 0))), (q5, .inl (aI, 0, .inl (fun _ => 0))), (q6, .inl (aI, 0, .inl (fun _ => 0))), (q7, .inl (aI, 0, .inl (fun _ => 0))), (q8, .inl (aI, 0, .inl (fun _ => 0))), (q9, .inl (aL, 0, .inr (.inl (fun _ => 0)))), (q10, .inl (aI, 0, .inl (fun _ => 0))), (q11, .inl (aI, 0, .inl (fun _ => 0))), (q12, .inl (aI, 0, .inl (fun _ => 0)))] H := hP
  have hD : va_D A [(h0, .inr (5, [.ref q1, .ref q2, .int 0, .ref q3, .ref q4, .int 0, .ref q5, .ref q6, .ref q7, .ref q8, .ref q9, .ref q10, .ref q11, .int 0, .null, .int 0, .null])), (q1, .inl (aI, 0, .inl (fun _ => 0))), (q2, .inl (aI, 0, .inl (fun _ => 0))), (q3, .inl (aI, 0, .inl (fun _ => 0))), (q4, .inl (aI, 0, .inl (fun _ => 0))), (q5, .inl (aI, 0, .inl (fun _ => 0))), (q6, .inl (aI, 0, .inl (fun _ => 0))), (q7, .inl (aI, 0, .inl (fun _ => 0))), (q8, .inl (aI, 0, .inl (fun _ => 0))), (q9, .inl (aL, 0, .inr (.inl (fun _ => 0)))), (q10, .inl (aI, 0, .inl (fun _ => 0))), (q11, .inl (aI, 0, .inl (fun _ => 0))), (q12, .inl (aI, 0, .inl (fun _ => 0)))] := hD
  refine va_put (D := D) (ci := 5) (v := .ref q12) (ty := (.array .int)) (C := RX7) (T := TX7) (N := 17) hx hb hts n_X7_init_X7 tyX7 tyX7_ok nmX7 hown hK hP hD hS 0 rfl rfl 14 (by decide) (hts (.fieldLink RX7 44 "FaceMapModel$Net" "part" "[I") (List.mem_of_getElem? (i := 17) rfl)) (fun _ h9 => h9) rfl (by decide +kernel) rfl rfl (Nat.le_of_ble_eq_true rfl) dX7_init_85 (fun H locs hP hD hS => ?_)
  have hP : va_P D q_cl [(h0, .inr (5, [.ref q1, .ref q2, .int 0, .ref q3, .ref q4, .int 0, .ref q5, .ref q6, .ref q7, .ref q8, .ref q9, .ref q10, .ref q11, .int 0, .ref q12, .int 0, .null])), (q1, .inl (aI, 0, .inl (fun _ => 0))), (q2, .inl (aI, 0, .inl (fun _ => 0))), (q3, .inl (aI, 0, .inl (fun _ => 0))), (q4, .inl (aI, 0, .inl (fun _ => 0))), (q5, .inl (aI, 0, .inl (fun _ => 0))), (q6, .inl (aI, 0, .inl (fun _ => 0))), (q7, .inl (aI, 0, .inl (fun _ => 0))), (q8, .inl (aI, 0, .inl (fun _ => 0))), (q9, .inl (aL, 0, .inr (.inl (fun _ => 0)))), (q10, .inl (aI, 0, .inl (fun _ => 0))), (q11, .inl (aI, 0, .inl (fun _ => 0))), (q12, .inl (aI, 0, .inl (fun _ => 0)))] H := hP
  have hD : va_D A [(h0, .inr (5, [.ref q1, .ref q2, .int 0, .ref q3, .ref q4, .int 0, .ref q5, .ref q6, .ref q7, .ref q8, .ref q9, .ref q10, .ref q11, .int 0, .ref q12, .int 0, .null])), (q1, .inl (aI, 0, .inl (fun _ => 0))), (q2, .inl (aI, 0, .inl (fun _ => 0))), (q3, .inl (aI, 0, .inl (fun _ => 0))), (q4, .inl (aI, 0, .inl (fun _ => 0))), (q5, .inl (aI, 0, .inl (fun _ => 0))), (q6, .inl (aI, 0, .inl (fun _ => 0))), (q7, .inl (aI, 0, .inl (fun _ => 0))), (q8, .inl (aI, 0, .inl (fun _ => 0))), (q9, .inl (aL, 0, .inr (.inl (fun _ => 0)))), (q10, .inl (aI, 0, .inl (fun _ => 0))), (q11, .inl (aI, 0, .inl (fun _ => 0))), (q12, .inl (aI, 0, .inl (fun _ => 0)))] := hD
  refine lv_aload_n hx hb dX7_init_88 rfl (lv_at hl 0 rfl) ?_
  refine lv_iconst (v := 0) hx hb dX7_init_89 (by decide) ?_
  refine q_newZ 0 hx hb (hts (.arrayClass .boolean) (List.mem_of_getElem? (i := 18) rfl)) hK hP hD hS hA 2 rfl (by decide) (by decide) (by decide) (Nat.le_of_ble_eq_true rfl) (Nat.le_of_ble_eq_true rfl) dX7_init_90 (fun q13 H hP hD hS => ?_)
  have hP : va_P D q_cl [(h0, .inr (5, [.ref q1, .ref q2, .int 0, .ref q3, .ref q4, .int 0, .ref q5, .ref q6, .ref q7, .ref q8, .ref q9, .ref q10, .ref q11, .int 0, .ref q12, .int 0, .null])), (q1, .inl (aI, 0, .inl (fun _ => 0))), (q2, .inl (aI, 0, .inl (fun _ => 0))), (q3, .inl (aI, 0, .inl (fun _ => 0))), (q4, .inl (aI, 0, .inl (fun _ => 0))), (q5, .inl (aI, 0, .inl (fun _ => 0))), (q6, .inl (aI, 0, .inl (fun _ => 0))), (q7, .inl (aI, 0, .inl (fun _ => 0))), (q8, .inl (aI, 0, .inl (fun _ => 0))), (q9, .inl (aL, 0, .inr (.inl (fun _ => 0)))), (q10, .inl (aI, 0, .inl (fun _ => 0))), (q11, .inl (aI, 0, .inl (fun _ => 0))), (q12, .inl (aI, 0, .inl (fun _ => 0))), (q13, .inl (aZ, 0, .inl (fun _ => 0)))] H := hP
  have hD : va_D A [(h0, .inr (5, [.ref q1, .ref q2, .int 0, .ref q3, .ref q4, .int 0, .ref q5, .ref q6, .ref q7, .ref q8, .ref q9, .ref q10, .ref q11, .int 0, .ref q12, .int 0, .null])), (q1, .inl (aI, 0, .inl (fun _ => 0))), (q2, .inl (aI, 0, .inl (fun _ => 0))), (q3, .inl (aI, 0, .inl (fun _ => 0))), (q4, .inl (aI, 0, .inl (fun _ => 0))), (q5, .inl (aI, 0, .inl (fun _ => 0))), (q6, .inl (aI, 0, .inl (fun _ => 0))), (q7, .inl (aI, 0, .inl (fun _ => 0))), (q8, .inl (aI, 0, .inl (fun _ => 0))), (q9, .inl (aL, 0, .inr (.inl (fun _ => 0)))), (q10, .inl (aI, 0, .inl (fun _ => 0))), (q11, .inl (aI, 0, .inl (fun _ => 0))), (q12, .inl (aI, 0, .inl (fun _ => 0))), (q13, .inl (aZ, 0, .inl (fun _ => 0)))] := hD
  refine va_put (D := D) (ci := 5) (v := .ref q13) (ty := (.array .boolean)) (C := RX7) (T := TX7) (N := 17) hx hb hts n_X7_init_X7 tyX7 tyX7_ok nmX7 hown hK hP hD hS 0 rfl rfl 16 (by decide) (hts (.fieldLink RX7 47 "FaceMapModel$Net" "odd" "[Z") (List.mem_of_getElem? (i := 19) rfl)) (fun _ h9 => h9) rfl (by decide +kernel) rfl rfl (Nat.le_of_ble_eq_true rfl) dX7_init_92 (fun H locs hP hD hS => ?_)
  have hP : va_P D q_cl [(h0, .inr (5, [.ref q1, .ref q2, .int 0, .ref q3, .ref q4, .int 0, .ref q5, .ref q6, .ref q7, .ref q8, .ref q9, .ref q10, .ref q11, .int 0, .ref q12, .int 0, .ref q13])), (q1, .inl (aI, 0, .inl (fun _ => 0))), (q2, .inl (aI, 0, .inl (fun _ => 0))), (q3, .inl (aI, 0, .inl (fun _ => 0))), (q4, .inl (aI, 0, .inl (fun _ => 0))), (q5, .inl (aI, 0, .inl (fun _ => 0))), (q6, .inl (aI, 0, .inl (fun _ => 0))), (q7, .inl (aI, 0, .inl (fun _ => 0))), (q8, .inl (aI, 0, .inl (fun _ => 0))), (q9, .inl (aL, 0, .inr (.inl (fun _ => 0)))), (q10, .inl (aI, 0, .inl (fun _ => 0))), (q11, .inl (aI, 0, .inl (fun _ => 0))), (q12, .inl (aI, 0, .inl (fun _ => 0))), (q13, .inl (aZ, 0, .inl (fun _ => 0)))] H := hP
  have hD : va_D A [(h0, .inr (5, [.ref q1, .ref q2, .int 0, .ref q3, .ref q4, .int 0, .ref q5, .ref q6, .ref q7, .ref q8, .ref q9, .ref q10, .ref q11, .int 0, .ref q12, .int 0, .ref q13])), (q1, .inl (aI, 0, .inl (fun _ => 0))), (q2, .inl (aI, 0, .inl (fun _ => 0))), (q3, .inl (aI, 0, .inl (fun _ => 0))), (q4, .inl (aI, 0, .inl (fun _ => 0))), (q5, .inl (aI, 0, .inl (fun _ => 0))), (q6, .inl (aI, 0, .inl (fun _ => 0))), (q7, .inl (aI, 0, .inl (fun _ => 0))), (q8, .inl (aI, 0, .inl (fun _ => 0))), (q9, .inl (aL, 0, .inr (.inl (fun _ => 0)))), (q10, .inl (aI, 0, .inl (fun _ => 0))), (q11, .inl (aI, 0, .inl (fun _ => 0))), (q12, .inl (aI, 0, .inl (fun _ => 0))), (q13, .inl (aZ, 0, .inl (fun _ => 0)))] := hD
  have hP9 := hP.sub (ws' := [(h0, .inr (5, [.ref q1, .ref q2, .int 0, .ref q3, .ref q4, .int 0, .ref q5, .ref q6, .ref q7, .ref q8, .ref q9, .ref q10, .ref q11, .int 0, .ref q12, .int 0, .ref q13])), (q1, .inl (aI, 0, .inl (fun _ => 0))), (q3, .inl (aI, 0, .inl (fun _ => 0)))]) [0, 1, 3] rfl
  have hD9 := hD.sub (ws' := [(h0, .inr (5, [.ref q1, .ref q2, .int 0, .ref q3, .ref q4, .int 0, .ref q5, .ref q6, .ref q7, .ref q8, .ref q9, .ref q10, .ref q11, .int 0, .ref q12, .int 0, .ref q13])), (q1, .inl (aI, 0, .inl (fun _ => 0))), (q3, .inl (aI, 0, .inl (fun _ => 0)))]) [0, 1, 3] (by decide) rfl
  exact q_retv (q1, q2, q3, q4, q5, q6, q7, q8, q9, q10, q11, q12, q13) hx hb hr hlocks hK hP9 hD9 hS (Nat.le_of_ble_eq_true rfl) (Nat.le_of_ble_eq_true rfl) (trivial) dX7_init_95
def vsX8_init : List Cond := .code yX8_init cX8_init 1 none :: ([.methodLink RX8 1 objectInit, .instanceMethod objectInit, .code objectInit ⟨#[0xb1]⟩ 1 none, .arrayClass .long, .fieldLink RX8 7 "FaceMapModel$Places" "row" "[J"] ++ wsX80)
set_option maxRecDepth 20000 in
theorem n_X8_init_X8 : ∀ w ∈ wsX80, w ∈ vsX8_init := fun _ h => List.mem_cons_of_mem _ (List.mem_append_right _ h)
set_option maxHeartbeats 4000000 in
set_option maxRecDepth 100000 in
/-- Places() -/
theorem c_X8_init (l : Launch) (D : va_G) (aI aL aZ : ClassId) (h0 : Nat) (sz : Nat) : MV l D q_cl (q_ty aI aL aZ) yX8_init vsX8_init 1 1 64 [.ref h0] [(h0, .inr (6, [.null, .int 0]))] sz (fun (u : Nat) => True) (fun (u : Nat) => [(h0, .inr (6, [.ref u, .int 0]))]) := by
  refine q_in cX8_init 1 none (qQv D q_cl (q_ty aI aL aZ) _ _) (by decide) rfl (Nat.le_of_ble_eq_true rfl) ?_
  intro p e s m args below meth c A ls hat hP hD hS hl
  obtain ⟨hx, hb, hr, hts, hown, hlocks, hml, hin, hK, hN, hA⟩ := hat
  have hown : s.vm.findClass RX8 = some m.cls := hown
  have hl : lv_has ls 1 [(0, .ref h0)] := hl
  refine lv_aload_n hx hb dX8_init_0 rfl (lv_at hl 0 rfl) ?_
  refine W.objInit hx hb hown (hts (.methodLink RX8 1 objectInit) (List.mem_of_getElem? (i := 1) rfl)) (hts (.instanceMethod objectInit) (List.mem_of_getElem? (i := 2) rfl)) (hts (.code objectInit ⟨#[0xb1]⟩ 1 none) (List.mem_of_getElem? (i := 3) rfl)) rfl (by rw [hml]; exact hl.1) rfl dX8_init_1 (Nat.le_of_ble_eq_true rfl) (Nat.le_of_ble_eq_true rfl) ?_
  refine W.eq (g2 := F0 m 4 ls []) rfl ?_
  refine lv_aload_n hx hb dX8_init_4 rfl (lv_at hl 0 rfl) ?_
  refine lv_bipush (v := 64) hx hb dX8_init_5 (by decide) ?_
  refine q_newL 64 hx hb (hts (.arrayClass .long) (List.mem_of_getElem? (i := 4) rfl)) hK hP hD hS hA 1 rfl (by decide) (by decide) (by decide) (Nat.le_of_ble_eq_true rfl) (Nat.le_of_ble_eq_true rfl) dX8_init_7 (fun q1 H hP hD hS => ?_)
  have hP : va_P D q_cl [(h0, .inr (6, [.null, .int 0])), (q1, .inl (aL, 64, .inr (.inl (fun _ => 0))))] H := hP
  have hD : va_D A [(h0, .inr (6, [.null, .int 0])), (q1, .inl (aL, 64, .inr (.inl (fun _ => 0))))] := hD
  refine va_put (D := D) (ci := 6) (v := .ref q1) (ty := (.array .long)) (C := RX8) (T := TX8) (N := 2) hx hb hts n_X8_init_X8 tyX8 tyX8_ok nmX8 hown hK hP hD hS 0 rfl rfl 0 (by decide) (hts (.fieldLink RX8 7 "FaceMapModel$Places" "row" "[J") (List.mem_of_getElem? (i := 5) rfl)) (fun _ h9 => h9) rfl (by decide +kernel) rfl rfl (Nat.le_of_ble_eq_true rfl) dX8_init_9 (fun H locs hP hD hS => ?_)
  have hP : va_P D q_cl [(h0, .inr (6, [.ref q1, .int 0])), (q1, .inl (aL, 64, .inr (.inl (fun _ => 0))))] H := hP
  have hD : va_D A [(h0, .inr (6, [.ref q1, .int 0])), (q1, .inl (aL, 64, .inr (.inl (fun _ => 0))))] := hD
  have hP9 := hP.sub (ws' := [(h0, .inr (6, [.ref q1, .int 0]))]) [0] rfl
  have hD9 := hD.sub (ws' := [(h0, .inr (6, [.ref q1, .int 0]))]) [0] (by decide) rfl
  exact q_retv (q1) hx hb hr hlocks hK hP9 hD9 hS (Nat.le_of_ble_eq_true rfl) (Nat.le_of_ble_eq_true rfl) (trivial) dX8_init_12
def vsX9_init : List Cond := .code yX9_init cX9_init 1 none :: ([.methodLink RX9 28 objectInit, .instanceMethod objectInit, .code objectInit ⟨#[0xb1]⟩ 1 none, .arrayClass .int, .fieldLink RX9 34 "FaceMapModel" "ends" "[I", .classLink RX9 38 RX7, .instantiable RX7 17, .initialized RX7, .instanceMethod yX7_init, .fieldLink RX9 41 "FaceMapModel" "net" "LFaceMapModel$Net;", .classLink RX9 45 RX8, .instantiable RX8 2, .initialized RX8, .instanceMethod yX8_init, .fieldLink RX9 48 "FaceMapModel" "nodes" "LFaceMapModel$Places;", .code yX7_init cX7_init 1 none, .methodLink RX7 1 objectInit, .fieldLink RX7 7 "FaceMapModel$Net" "x" "[I", .fieldLink RX7 13 "FaceMapModel$Net" "y" "[I", .fieldLink RX7 16 "FaceMapModel$Net" "low" "[I", .fieldLink RX7 19 "FaceMapModel$Net" "high" "[I", .fieldLink RX7 22 "FaceMapModel$Net" "begins" "[I", .fieldLink RX7 25 "FaceMapModel$Net" "out" "[I", .fieldLink RX7 28 "FaceMapModel$Net" "rank" "[I", .fieldLink RX7 31 "FaceMapModel$Net" "round" "[I", .arrayClass .long, .fieldLink RX7 34 "FaceMapModel$Net" "area" "[J", .fieldLink RX7 38 "FaceMapModel$Net" "least" "[I", .fieldLink RX7 41 "FaceMapModel$Net" "faceOf" "[I", .fieldLink RX7 44 "FaceMapModel$Net" "part" "[I", .arrayClass .boolean, .fieldLink RX7 47 "FaceMapModel$Net" "odd" "[Z", .code yX8_init cX8_init 1 none, .methodLink RX8 1 objectInit, .fieldLink RX8 7 "FaceMapModel$Places" "row" "[J"] ++ wsX90 ++ wsX70 ++ wsX80)
set_option maxRecDepth 20000 in
theorem n_X9_init_X9 : ∀ w ∈ wsX90, w ∈ vsX9_init := fun _ h => List.mem_cons_of_mem _ (List.mem_append_left _ (List.mem_append_left _ (List.mem_append_right _ h)))
set_option maxRecDepth 20000 in
theorem n_X9_init_X7 : ∀ w ∈ wsX70, w ∈ vsX9_init := fun _ h => List.mem_cons_of_mem _ (List.mem_append_left _ (List.mem_append_right _ h))
set_option maxRecDepth 20000 in
theorem g_X9_init_X7_init_40 : GoodIn vsX9_init vsX7_init := goodIn_r _ [16, 17, 2, 3, 4, 18, 19, 20, 21, 22, 23, 24, 25, 26, 27, 28, 29, 30, 31, 32, 41, 42, 43, 44, 45, 46, 47, 48, 49, 50, 51, 52, 53, 54, 55, 56, 57] rfl (by decide +kernel)
set_option maxRecDepth 20000 in
theorem n_X9_init_X8 : ∀ w ∈ wsX80, w ∈ vsX9_init := fun _ h => List.mem_cons_of_mem _ (List.mem_append_right _ h)
set_option maxRecDepth 20000 in
theorem g_X9_init_X8_init_47 : GoodIn vsX9_init vsX8_init := goodIn_r _ [33, 34, 2, 3, 26, 35, 58, 59] rfl (by decide +kernel)
set_option maxHeartbeats 4000000 in
set_option maxRecDepth 100000 in
/-- FaceMapModel() -/
theorem c_X9_init (l : Launch) (D : va_G) (aI aL aZ : ClassId) (h0 : Nat) (sz : Nat) : MV l D q_cl (q_ty aI aL aZ) yX9_init vsX9_init 2 17 6083 [.ref h0] [(h0, .inr (7, [.null, .int 0, .null, .null, .int 0]))] sz (fun (u : Nat × Nat × Nat × Nat × Nat × Nat × Nat × Nat × Nat × Nat × Nat × Nat × Nat × Nat × Nat × Nat × Nat) => True) (fun (u : Nat × Nat × Nat × Nat × Nat × Nat × Nat × Nat × Nat × Nat × Nat × Nat × Nat × Nat × Nat × Nat × Nat) => [(h0, .inr (7, [.ref u.1, .int 0, .ref u.2.1, .ref u.2.2.1, .int 0])), (u.1, .inl (aI, 6000, .inl (fun _ => 0))), (u.2.1, .inr (5, [.ref u.2.2.2.2.1, .ref u.2.2.2.2.2.1, .int 0, .ref u.2.2.2.2.2.2.1, .ref u.2.2.2.2.2.2.2.1, .int 0, .ref u.2.2.2.2.2.2.2.2.1, .ref u.2.2.2.2.2.2.2.2.2.1, .ref u.2.2.2.2.2.2.2.2.2.2.1, .ref u.2.2.2.2.2.2.2.2.2.2.2.1, .ref u.2.2.2.2.2.2.2.2.2.2.2.2.1, .ref u.2.2.2.2.2.2.2.2.2.2.2.2.2.1, .ref u.2.2.2.2.2.2.2.2.2.2.2.2.2.2.1, .int 0, .ref u.2.2.2.2.2.2.2.2.2.2.2.2.2.2.2.1, .int 0, .ref u.2.2.2.2.2.2.2.2.2.2.2.2.2.2.2.2])), (u.2.2.2.2.1, .inl (aI, 0, .inl (fun _ => 0))), (u.2.2.2.2.2.2.1, .inl (aI, 0, .inl (fun _ => 0))), (u.2.2.1, .inr (6, [.ref u.2.2.2.1, .int 0]))]) := by
  refine q_in cX9_init 1 none (qQv D q_cl (q_ty aI aL aZ) _ _) (by decide) rfl (Nat.le_of_ble_eq_true rfl) ?_
  intro p e s m args below meth c A ls hat hP hD hS hl
  obtain ⟨hx, hb, hr, hts, hown, hlocks, hml, hin, hK, hN, hA⟩ := hat
  have hown : s.vm.findClass RX9 = some m.cls := hown
  have hl : lv_has ls 1 [(0, .ref h0)] := hl
  refine lv_aload_n hx hb dX9_init_0 rfl (lv_at hl 0 rfl) ?_
  refine W.objInit hx hb hown (hts (.methodLink RX9 28 objectInit) (List.mem_of_getElem? (i := 1) rfl)) (hts (.instanceMethod objectInit) (List.mem_of_getElem? (i := 2) rfl)) (hts (.code objectInit ⟨#[0xb1]⟩ 1 none) (List.mem_of_getElem? (i := 3) rfl)) rfl (by rw [hml]; exact hl.1) rfl dX9_init_1 (Nat.le_of_ble_eq_true rfl) (Nat.le_of_ble_eq_true rfl) ?_
  refine W.eq (g2 := F0 m 4 ls []) rfl ?_
  refine lv_aload_n hx hb dX9_init_4 rfl (lv_at hl 0 rfl) ?_
  refine lv_sipush (v := 6000) hx hb dX9_init_5 (by decide) ?_
  refine q_newI 6000 hx hb (hts (.arrayClass .int) (List.mem_of_getElem? (i := 4) rfl)) hK hP hD hS hA 0 rfl (by decide) (by decide) (by decide) (Nat.le_of_ble_eq_true rfl) (Nat.le_of_ble_eq_true rfl) dX9_init_8 (fun q1 H hP hD hS => ?_)
  have hP : va_P D q_cl [(h0, .inr (7, [.null, .int 0, .null, .null, .int 0])), (q1, .inl (aI, 6000, .inl (fun _ => 0)))] H := hP
  have hD : va_D A [(h0, .inr (7, [.null, .int 0, .null, .null, .int 0])), (q1, .inl (aI, 6000, .inl (fun _ => 0)))] := hD
  refine va_putF (D := D) (ci := 7) (v := .ref q1) (ty := (.array .int)) (C := RX9) (T := TX9) (N := 5) hx hb hts n_X9_init_X9 tyX9 tyX9_ok nmX9 hown hK hP hD hS 0 rfl rfl 0 (by decide) (hts (.fieldLink RX9 34 "FaceMapModel" "ends" "[I") (List.mem_of_getElem? (i := 5) rfl)) (fun _ h9 => h9) rfl hin rfl (by decide +kernel) rfl rfl (Nat.le_of_ble_eq_true rfl) dX9_init_10 (fun H locs hP hD hS => ?_)
  have hP : va_P D q_cl [(h0, .inr (7, [.ref q1, .int 0, .null, .null, .int 0])), (q1, .inl (aI, 6000, .inl (fun _ => 0)))] H := hP
  have hD : va_D A [(h0, .inr (7, [.ref q1, .int 0, .null, .null, .int 0])), (q1, .inl (aI, 6000, .inl (fun _ => 0)))] := hD
  refine lv_aload_n hx hb dX9_init_13 rfl (lv_at hl 0 rfl) ?_
  refine va_new (ci := 5) (fs := [.null, .null, .int 0, .null, .null, .int 0, .null, .null, .null, .null, .null, .null, .null, .int 0, .null, .int 0, .null]) (C := RX7) (T := TX7) (N := 17) hx hb hts n_X9_init_X7 tyX7 tyX7_ok hown (hts (.classLink RX9 38 RX7) (List.mem_of_getElem? (i := 6) rfl)) (hts (.instantiable RX7 17) (List.mem_of_getElem? (i := 7) rfl)) (hts (.initialized RX7) (List.mem_of_getElem? (i := 8) rfl)) hK hP hD hS hA rfl (by decide +kernel) (Nat.le_of_ble_eq_true rfl) (Nat.le_of_ble_eq_true rfl) dX9_init_14 (fun q2 H hP hD hS => ?_)
  have hP : va_P D q_cl [(h0, .inr (7, [.ref q1, .int 0, .null, .null, .int 0])), (q1, .inl (aI, 6000, .inl (fun _ => 0))), (q2, .inr (5, [.null, .null, .int 0, .null, .null, .int 0, .null, .null, .null, .null, .null, .null, .null, .int 0, .null, .int 0, .null]))] H := hP
  have hD : va_D A [(h0, .inr (7, [.ref q1, .int 0, .null, .null, .int 0])), (q1, .inl (aI, 6000, .inl (fun _ => 0))), (q2, .inr (5, [.null, .null, .int 0, .null, .null, .int 0, .null, .null, .null, .null, .null, .null, .null, .int 0, .null, .int 0, .null]))] := hD
  refine lv_dup hx hb dX9_init_17 rfl ?_
  refine q_v (wr := [(h0, .inr (7, [.ref q1, .int 0, .null, .null, .int 0])), (q1, .inl (aI, 6000, .inl (fun _ => 0)))]) (q_runIN (As := []) (rest := [.ref q2, .ref h0]) ⟨hx, hb, hml, hown, hts⟩ (c_X7_init l D aI aL aZ q2 _) ⟨va_cnB 0 hts g_X9_init_X7_init_40 rfl rfl rfl hN.1 (hts (.initialized RX7) (List.mem_of_getElem? (i := 8) rfl)) (by decide +kernel) ⟨Nat.le_of_ble_eq_true rfl, Nat.le_of_ble_eq_true rfl⟩, rfl, (hts (.instanceMethod yX7_init) (List.mem_of_getElem? (i := 9) rfl))⟩ hK hN hP hD [2] rfl (by decide) rfl hl.1 rfl (Nat.le_of_ble_eq_true rfl) dX9_init_18 ⟨Nat.le_of_ble_eq_true rfl, Nat.le_of_ble_eq_true rfl⟩) hP hD hS hA [2] [0, 1] rfl rfl (by decide) (by decide) (fun u_3 H locs hw hP hD hS => ?_)
  obtain ⟨nx_3, ny_3, nl_3, nh_3, nb_3, no_3, nr_3, nd_3, na_3, ns_3, nf_3, np_3, nq_3⟩ := u_3
  have hP : va_P D q_cl [(h0, .inr (7, [.ref q1, .int 0, .null, .null, .int 0])), (q1, .inl (aI, 6000, .inl (fun _ => 0))), (q2, .inr (5, [.ref nx_3, .ref ny_3, .int 0, .ref nl_3, .ref nh_3, .int 0, .ref nb_3, .ref no_3, .ref nr_3, .ref nd_3, .ref na_3, .ref ns_3, .ref nf_3, .int 0, .ref np_3, .int 0, .ref nq_3])), (nx_3, .inl (aI, 0, .inl (fun _ => 0))), (nl_3, .inl (aI, 0, .inl (fun _ => 0)))] H := hP
  have hD : va_D A [(h0, .inr (7, [.ref q1, .int 0, .null, .null, .int 0])), (q1, .inl (aI, 6000, .inl (fun _ => 0))), (q2, .inr (5, [.ref nx_3, .ref ny_3, .int 0, .ref nl_3, .ref nh_3, .int 0, .ref nb_3, .ref no_3, .ref nr_3, .ref nd_3, .ref na_3, .ref ns_3, .ref nf_3, .int 0, .ref np_3, .int 0, .ref nq_3])), (nx_3, .inl (aI, 0, .inl (fun _ => 0))), (nl_3, .inl (aI, 0, .inl (fun _ => 0)))] := hD
  refine va_putF (D := D) (ci := 7) (v := .ref q2) (ty := (.object "FaceMapModel$Net")) (C := RX9) (T := TX9) (N := 5) hx hb hts n_X9_init_X9 tyX9 tyX9_ok nmX9 hown hK hP hD hS 0 rfl rfl 2 (by decide) (hts (.fieldLink RX9 41 "FaceMapModel" "net" "LFaceMapModel$Net;") (List.mem_of_getElem? (i := 10) rfl)) (fun _ h9 => h9) rfl hin rfl (by decide +kernel) rfl rfl (Nat.le_of_ble_eq_true rfl) dX9_init_21 (fun H locs hP hD hS => ?_)
  have hP : va_P D q_cl [(h0, .inr (7, [.ref q1, .int 0, .ref q2, .null, .int 0])), (q1, .inl (aI, 6000, .inl (fun _ => 0))), (q2, .inr (5, [.ref nx_3, .ref ny_3, .int 0, .ref nl_3, .ref nh_3, .int 0, .ref nb_3, .ref no_3, .ref nr_3, .ref nd_3, .ref na_3, .ref ns_3, .ref nf_3, .int 0, .ref np_3, .int 0, .ref nq_3])), (nx_3, .inl (aI, 0, .inl (fun _ => 0))), (nl_3, .inl (aI, 0, .inl (fun _ => 0)))] H := hP
  have hD : va_D A [(h0, .inr (7, [.ref q1, .int 0, .ref q2, .null, .int 0])), (q1, .inl (aI, 6000, .inl (fun _ => 0))), (q2, .inr (5, [.ref nx_3, .ref ny_3, .int 0, .ref nl_3, .ref nh_3, .int 0, .ref nb_3, .ref no_3, .ref nr_3, .ref nd_3, .ref na_3, .ref ns_3, .ref nf_3, .int 0, .ref np_3, .int 0, .ref nq_3])), (nx_3, .inl (aI, 0, .inl (fun _ => 0))), (nl_3, .inl (aI, 0, .inl (fun _ => 0)))] := hD
  refine lv_aload_n hx hb dX9_init_24 rfl (lv_at hl 0 rfl) ?_
  refine va_new (ci := 6) (fs := [.null, .int 0]) (C := RX8) (T := TX8) (N := 2) hx hb hts n_X9_init_X8 tyX8 tyX8_ok hown (hts (.classLink RX9 45 RX8) (List.mem_of_getElem? (i := 11) rfl)) (hts (.instantiable RX8 2) (List.mem_of_getElem? (i := 12) rfl)) (hts (.initialized RX8) (List.mem_of_getElem? (i := 13) rfl)) hK hP hD hS hA rfl (by decide +kernel) (Nat.le_of_ble_eq_true rfl) (Nat.le_of_ble_eq_true rfl) dX9_init_25 (fun q4 H hP hD hS => ?_)
  have hP : va_P D q_cl [(h0, .inr (7, [.ref q1, .int 0, .ref q2, .null, .int 0])), (q1, .inl (aI, 6000, .inl (fun _ => 0))), (q2, .inr (5, [.ref nx_3, .ref ny_3, .int 0, .ref nl_3, .ref nh_3, .int 0, .ref nb_3, .ref no_3, .ref nr_3, .ref nd_3, .ref na_3, .ref ns_3, .ref nf_3, .int 0, .ref np_3, .int 0, .ref nq_3])), (nx_3, .inl (aI, 0, .inl (fun _ => 0))), (nl_3, .inl (aI, 0, .inl (fun _ => 0))), (q4, .inr (6, [.null, .int 0]))] H := hP
  have hD : va_D A [(h0, .inr (7, [.ref q1, .int 0, .ref q2, .null, .int 0])), (q1, .inl (aI, 6000, .inl (fun _ => 0))), (q2, .inr (5, [.ref nx_3, .ref ny_3, .int 0, .ref nl_3, .ref nh_3, .int 0, .ref nb_3, .ref no_3, .ref nr_3, .ref nd_3, .ref na_3, .ref ns_3, .ref nf_3, .int 0, .ref np_3, .int 0, .ref nq_3])), (nx_3, .inl (aI, 0, .inl (fun _ => 0))), (nl_3, .inl (aI, 0, .inl (fun _ => 0))), (q4, .inr (6, [.null, .int 0]))] := hD
  refine lv_dup hx hb dX9_init_28 rfl ?_
  refine q_v (wr := [(h0, .inr (7, [.ref q1, .int 0, .ref q2, .null, .int 0])), (q1, .inl (aI, 6000, .inl (fun _ => 0))), (q2, .inr (5, [.ref nx_3, .ref ny_3, .int 0, .ref nl_3, .ref nh_3, .int 0, .ref nb_3, .ref no_3, .ref nr_3, .ref nd_3, .ref na_3, .ref ns_3, .ref nf_3, .int 0, .ref np_3, .int 0, .ref nq_3])), (nx_3, .inl (aI, 0, .inl (fun _ => 0))), (nl_3, .inl (aI, 0, .inl (fun _ => 0)))]) (q_runIN (As := []) (rest := [.ref q4, .ref h0]) ⟨hx, hb, hml, hown, hts⟩ (c_X8_init l D aI aL aZ q4 _) ⟨va_cnB 0 hts g_X9_init_X8_init_47 rfl rfl rfl hN.2 (hts (.initialized RX8) (List.mem_of_getElem? (i := 13) rfl)) (by decide +kernel) ⟨Nat.le_of_ble_eq_true rfl, Nat.le_of_ble_eq_true rfl⟩, rfl, (hts (.instanceMethod yX8_init) (List.mem_of_getElem? (i := 14) rfl))⟩ hK hN hP hD [5] rfl (by decide) rfl hl.1 rfl (Nat.le_of_ble_eq_true rfl) dX9_init_29 ⟨Nat.le_of_ble_eq_true rfl, Nat.le_of_ble_eq_true rfl⟩) hP hD hS hA [5] [0, 1, 2, 3, 4] rfl rfl (by decide) (by decide) (fun u_5 H locs hw hP hD hS => ?_)
  have hP : va_P D q_cl [(h0, .inr (7, [.ref q1, .int 0, .ref q2, .null, .int 0])), (q1, .inl (aI, 6000, .inl (fun _ => 0))), (q2, .inr (5, [.ref nx_3, .ref ny_3, .int 0, .ref nl_3, .ref nh_3, .int 0, .ref nb_3, .ref no_3, .ref nr_3, .ref nd_3, .ref na_3, .ref ns_3, .ref nf_3, .int 0, .ref np_3, .int 0, .ref nq_3])), (nx_3, .inl (aI, 0, .inl (fun _ => 0))), (nl_3, .inl (aI, 0, .inl (fun _ => 0))), (q4, .inr (6, [.ref u_5, .int 0]))] H := hP
  have hD : va_D A [(h0, .inr (7, [.ref q1, .int 0, .ref q2, .null, .int 0])), (q1, .inl (aI, 6000, .inl (fun _ => 0))), (q2, .inr (5, [.ref nx_3, .ref ny_3, .int 0, .ref nl_3, .ref nh_3, .int 0, .ref nb_3, .ref no_3, .ref nr_3, .ref nd_3, .ref na_3, .ref ns_3, .ref nf_3, .int 0, .ref np_3, .int 0, .ref nq_3])), (nx_3, .inl (aI, 0, .inl (fun _ => 0))), (nl_3, .inl (aI, 0, .inl (fun _ => 0))), (q4, .inr (6, [.ref u_5, .int 0]))] := hD
  refine va_putF (D := D) (ci := 7) (v := .ref q4) (ty := (.object "FaceMapModel$Places")) (C := RX9) (T := TX9) (N := 5) hx hb hts n_X9_init_X9 tyX9 tyX9_ok nmX9 hown hK hP hD hS 0 rfl rfl 3 (by decide) (hts (.fieldLink RX9 48 "FaceMapModel" "nodes" "LFaceMapModel$Places;") (List.mem_of_getElem? (i := 15) rfl)) (fun _ h9 => h9) rfl hin rfl (by decide +kernel) rfl rfl (Nat.le_of_ble_eq_true rfl) dX9_init_32 (fun H locs hP hD hS => ?_)
  have hP : va_P D q_cl [(h0, .inr (7, [.ref q1, .int 0, .ref q2, .ref q4, .int 0])), (q1, .inl (aI, 6000, .inl (fun _ => 0))), (q2, .inr (5, [.ref nx_3, .ref ny_3, .int 0, .ref nl_3, .ref nh_3, .int 0, .ref nb_3, .ref no_3, .ref nr_3, .ref nd_3, .ref na_3, .ref ns_3, .ref nf_3, .int 0, .ref np_3, .int 0, .ref nq_3])), (nx_3, .inl (aI, 0, .inl (fun _ => 0))), (nl_3, .inl (aI, 0, .inl (fun _ => 0))), (q4, .inr (6, [.ref u_5, .int 0]))] H := hP
  have hD : va_D A [(h0, .inr (7, [.ref q1, .int 0, .ref q2, .ref q4, .int 0])), (q1, .inl (aI, 6000, .inl (fun _ => 0))), (q2, .inr (5, [.ref nx_3, .ref ny_3, .int 0, .ref nl_3, .ref nh_3, .int 0, .ref nb_3, .ref no_3, .ref nr_3, .ref nd_3, .ref na_3, .ref ns_3, .ref nf_3, .int 0, .ref np_3, .int 0, .ref nq_3])), (nx_3, .inl (aI, 0, .inl (fun _ => 0))), (nl_3, .inl (aI, 0, .inl (fun _ => 0))), (q4, .inr (6, [.ref u_5, .int 0]))] := hD
  have hP9 := hP.sub (ws' := [(h0, .inr (7, [.ref q1, .int 0, .ref q2, .ref q4, .int 0])), (q1, .inl (aI, 6000, .inl (fun _ => 0))), (q2, .inr (5, [.ref nx_3, .ref ny_3, .int 0, .ref nl_3, .ref nh_3, .int 0, .ref nb_3, .ref no_3, .ref nr_3, .ref nd_3, .ref na_3, .ref ns_3, .ref nf_3, .int 0, .ref np_3, .int 0, .ref nq_3])), (nx_3, .inl (aI, 0, .inl (fun _ => 0))), (nl_3, .inl (aI, 0, .inl (fun _ => 0))), (q4, .inr (6, [.ref u_5, .int 0]))]) [0, 1, 2, 3, 4, 5] rfl
  have hD9 := hD.sub (ws' := [(h0, .inr (7, [.ref q1, .int 0, .ref q2, .ref q4, .int 0])), (q1, .inl (aI, 6000, .inl (fun _ => 0))), (q2, .inr (5, [.ref nx_3, .ref ny_3, .int 0, .ref nl_3, .ref nh_3, .int 0, .ref nb_3, .ref no_3, .ref nr_3, .ref nd_3, .ref na_3, .ref ns_3, .ref nf_3, .int 0, .ref np_3, .int 0, .ref nq_3])), (nx_3, .inl (aI, 0, .inl (fun _ => 0))), (nl_3, .inl (aI, 0, .inl (fun _ => 0))), (q4, .inr (6, [.ref u_5, .int 0]))]) [0, 1, 2, 3, 4, 5] (by decide) rfl
  exact q_retv (q1, q2, q4, u_5, nx_3, ny_3, nl_3, nh_3, nb_3, no_3, nr_3, nd_3, na_3, ns_3, nf_3, np_3, nq_3) hx hb hr hlocks hK hP9 hD9 hS (Nat.le_of_ble_eq_true rfl) (Nat.le_of_ble_eq_true rfl) (trivial) dX9_init_35
def vsX8_clear : List Cond := .code yX8_clear cX8_clear 1 none :: ([.fieldLink RX8 13 "FaceMapModel$Places" "size" "I"] ++ wsX80)
set_option maxRecDepth 20000 in
theorem n_X8_clear_X8 : ∀ w ∈ wsX80, w ∈ vsX8_clear := fun _ h => List.mem_cons_of_mem _ (List.mem_append_right _ h)
set_option maxHeartbeats 4000000 in
set_option maxRecDepth 100000 in
/-- Places.clear -/
theorem c_X8_clear (l : Launch) (D : va_G) (aI aL aZ : ClassId) (h0 : Nat) (row : Nat) (sz : Nat) : MV l D q_cl (q_ty aI aL aZ) yX8_clear vsX8_clear 0 0 0 [.ref h0] [(h0, .inr (6, [.ref row, .int 0]))] sz (fun (u : Unit) => True) (fun (u : Unit) => [(h0, .inr (6, [.ref row, .int 0]))]) := by
  refine q_in cX8_clear 1 none (qQv D q_cl (q_ty aI aL aZ) _ _) (by decide) rfl (Nat.le_of_ble_eq_true rfl) ?_
  intro p e s m args below meth c A ls hat hP hD hS hl
  obtain ⟨hx, hb, hr, hts, hown, hlocks, hml, hin, hK, hN, hA⟩ := hat
  have hown : s.vm.findClass RX8 = some m.cls := hown
  have hl : lv_has ls 1 [(0, .ref h0)] := hl
  refine lv_aload_n hx hb dX8_clear_0 rfl (lv_at hl 0 rfl) ?_
  refine lv_iconst (v := 0) hx hb dX8_clear_1 (by decide) ?_
  refine va_put (D := D) (ci := 6) (v := .int 0) (ty := .int) (C := RX8) (T := TX8) (N := 2) hx hb hts n_X8_clear_X8 tyX8 tyX8_ok nmX8 hown hK hP hD hS 0 rfl rfl 1 (by decide) (hts (.fieldLink RX8 13 "FaceMapModel$Places" "size" "I") (List.mem_of_getElem? (i := 1) rfl)) (fun _ h9 => h9) rfl (by decide +kernel) rfl rfl (Nat.le_of_ble_eq_true rfl) dX8_clear_2 (fun H locs hP hD hS => ?_)
  have hP : va_P D q_cl [(h0, .inr (6, [.ref row, .int 0]))] H := hP
  have hD : va_D A [(h0, .inr (6, [.ref row, .int 0]))] := hD
  have hP9 := hP.sub (ws' := [(h0, .inr (6, [.ref row, .int 0]))]) [0] rfl
  have hD9 := hD.sub (ws' := [(h0, .inr (6, [.ref row, .int 0]))]) [0] (by decide) rfl
  exact q_retv () hx hb hr hlocks hK hP9 hD9 hS (Nat.le_of_ble_eq_true rfl) (Nat.le_of_ble_eq_true rfl) (trivial) dX8_clear_5
def vsX8_sort : List Cond := .code yX8_sort cX8_sort 4 none :: ([.fieldLink RX8 13 "FaceMapModel$Places" "size" "I"] ++ wsX80)
set_option maxRecDepth 20000 in
theorem n_X8_sort_X8 : ∀ w ∈ wsX80, w ∈ vsX8_sort := fun _ h => List.mem_cons_of_mem _ (List.mem_append_right _ h)
set_option maxHeartbeats 4000000 in
set_option maxRecDepth 100000 in
/-- Places.sort of none -/
theorem c_X8_sort (l : Launch) (D : va_G) (aI aL aZ : ClassId) (h0 : Nat) (row : Nat) (sz : Nat) : MV l D q_cl (q_ty aI aL aZ) yX8_sort vsX8_sort 0 0 0 [.ref h0] [(h0, .inr (6, [.ref row, .int 0]))] sz (fun (u : Unit) => True) (fun (u : Unit) => [(h0, .inr (6, [.ref row, .int 0]))]) := by
  refine q_in cX8_sort 4 none (qQv D q_cl (q_ty aI aL aZ) _ _) (by decide) rfl (Nat.le_of_ble_eq_true rfl) ?_
  intro p e s m args below meth c A ls hat hP hD hS hl
  obtain ⟨hx, hb, hr, hts, hown, hlocks, hml, hin, hK, hN, hA⟩ := hat
  have hown : s.vm.findClass RX8 = some m.cls := hown
  have hl : lv_has ls 4 [(0, .ref h0)] := hl
  refine lv_aload_n hx hb dX8_sort_0 rfl (lv_at hl 0 rfl) ?_
  refine va_get (D := D) (ci := 6) (v := .int 0) (C := RX8) (T := TX8) (N := 2) hx hb hts n_X8_sort_X8 hown hK hP 0 rfl rfl 1 (by decide) (hts (.fieldLink RX8 13 "FaceMapModel$Places" "size" "I") (List.mem_of_getElem? (i := 1) rfl)) (fun _ h9 => h9) rfl dX8_sort_1 ?_
  refine lv_iconst (v := 2) hx hb dX8_sort_4 (by decide) ?_
  refine lv_idiv hx hb dX8_sort_5 (by decide) ?_
  refine q_vi (v := 0) (by decide) ?_
  refine lv_iconst (v := 1) hx hb dX8_sort_6 (by decide) ?_
  refine lv_isub hx hb dX8_sort_7 ?_
  refine q_vi (v := (-1)) (by decide) ?_
  refine lv_istore_n (lv' := [(1, .int (-1)), (0, .ref h0)]) hx hb dX8_sort_8 rfl hl (by decide) rfl (fun ls hl => ?_)
  refine lv_iload_n hx hb dX8_sort_9 rfl (lv_at hl 0 rfl) ?_
  refine lv_if_lt (tgt := 28) hx hb dX8_sort_10 (by decide) (fun c_1 => ?_) (fun c_1 => ?_)
  · refine lv_aload_n hx hb dX8_sort_28 rfl (lv_at hl 1 rfl) ?_
    refine va_get (D := D) (ci := 6) (v := .int 0) (C := RX8) (T := TX8) (N := 2) hx hb hts n_X8_sort_X8 hown hK hP 0 rfl rfl 1 (by decide) (hts (.fieldLink RX8 13 "FaceMapModel$Places" "size" "I") (List.mem_of_getElem? (i := 1) rfl)) (fun _ h9 => h9) rfl dX8_sort_29 ?_
    refine lv_iconst (v := 1) hx hb dX8_sort_32 (by decide) ?_
    refine lv_isub hx hb dX8_sort_33 ?_
    refine q_vi (v := (-1)) (by decide) ?_
    refine lv_istore_n (lv' := [(1, .int (-1)), (0, .ref h0)]) hx hb dX8_sort_34 rfl hl (by decide) rfl (fun ls hl => ?_)
    refine lv_iload_n hx hb dX8_sort_35 rfl (lv_at hl 0 rfl) ?_
    refine lv_if_le (tgt := 77) hx hb dX8_sort_36 (by decide) (fun c_2 => ?_) (fun c_2 => ?_)
    · refine lv_iconst (v := 0) hx hb dX8_sort_77 (by decide) ?_
      refine lv_istore_n (lv' := [(1, .int 0), (0, .ref h0)]) hx hb dX8_sort_78 rfl hl (by decide) rfl (fun ls hl => ?_)
      refine lv_iconst (v := 0) hx hb dX8_sort_79 (by decide) ?_
      refine lv_istore_n (lv' := [(2, .int 0), (1, .int 0), (0, .ref h0)]) hx hb dX8_sort_80 rfl hl (by decide) rfl (fun ls hl => ?_)
      refine lv_iload_n hx hb dX8_sort_81 rfl (lv_at hl 0 rfl) ?_
      refine lv_aload_n hx hb dX8_sort_82 rfl (lv_at hl 2 rfl) ?_
      refine va_get (D := D) (ci := 6) (v := .int 0) (C := RX8) (T := TX8) (N := 2) hx hb hts n_X8_sort_X8 hown hK hP 0 rfl rfl 1 (by decide) (hts (.fieldLink RX8 13 "FaceMapModel$Places" "size" "I") (List.mem_of_getElem? (i := 1) rfl)) (fun _ h9 => h9) rfl dX8_sort_83 ?_
      refine lv_icmp_ge (tgt := 135) hx hb dX8_sort_86 (by decide) (fun c_3 => ?_) (fun c_3 => ?_)
      · refine lv_aload_n hx hb dX8_sort_135 rfl (lv_at hl 2 rfl) ?_
        refine lv_iload_n hx hb dX8_sort_136 rfl (lv_at hl 1 rfl) ?_
        refine va_put (D := D) (ci := 6) (v := .int 0) (ty := .int) (C := RX8) (T := TX8) (N := 2) hx hb hts n_X8_sort_X8 tyX8 tyX8_ok nmX8 hown hK hP hD hS 0 rfl rfl 1 (by decide) (hts (.fieldLink RX8 13 "FaceMapModel$Places" "size" "I") (List.mem_of_getElem? (i := 1) rfl)) (fun _ h9 => h9) rfl (by decide +kernel) rfl rfl (Nat.le_of_ble_eq_true rfl) dX8_sort_137 (fun H locs hP hD hS => ?_)
        have hP : va_P D q_cl [(h0, .inr (6, [.ref row, .int 0]))] H := hP
        have hD : va_D A [(h0, .inr (6, [.ref row, .int 0]))] := hD
        have hP9 := hP.sub (ws' := [(h0, .inr (6, [.ref row, .int 0]))]) [0] rfl
        have hD9 := hD.sub (ws' := [(h0, .inr (6, [.ref row, .int 0]))]) [0] (by decide) rfl
        exact q_retv () hx hb hr hlocks hK hP9 hD9 hS (Nat.le_of_ble_eq_true rfl) (Nat.le_of_ble_eq_true rfl) (trivial) dX8_sort_140
      · exact absurd c_3 (by decide)
    · exact absurd c_2 (by decide)
  · exact absurd c_1 (by decide)
def vsX7_room : List Cond := .code yX7_room cX7_room 3 none :: ([.fieldLink RX7 7 "FaceMapModel$Net" "x" "[I", .arrayClass .int, .fieldLink RX7 13 "FaceMapModel$Net" "y" "[I", .fieldLink RX7 22 "FaceMapModel$Net" "begins" "[I", .fieldLink RX7 44 "FaceMapModel$Net" "part" "[I", .fieldLink RX7 16 "FaceMapModel$Net" "low" "[I", .fieldLink RX7 19 "FaceMapModel$Net" "high" "[I", .fieldLink RX7 25 "FaceMapModel$Net" "out" "[I", .fieldLink RX7 28 "FaceMapModel$Net" "rank" "[I", .fieldLink RX7 31 "FaceMapModel$Net" "round" "[I", .arrayClass .long, .fieldLink RX7 34 "FaceMapModel$Net" "area" "[J", .fieldLink RX7 38 "FaceMapModel$Net" "least" "[I", .fieldLink RX7 41 "FaceMapModel$Net" "faceOf" "[I", .arrayClass .boolean, .fieldLink RX7 47 "FaceMapModel$Net" "odd" "[Z"] ++ wsX70)
set_option maxRecDepth 20000 in
theorem n_X7_room_X7 : ∀ w ∈ wsX70, w ∈ vsX7_room := fun _ h => List.mem_cons_of_mem _ (List.mem_append_right _ h)
set_option maxHeartbeats 4000000 in
set_option maxRecDepth 100000 in
/-- Net.room -/
theorem c_X7_room (l : Launch) (D : va_G) (aI aL aZ : ClassId) (h0 : Nat) (nx : Nat) (ny : Nat) (nl : Nat) (nh : Nat) (nb : Nat) (no : Nat) (nr : Nat) (nd : Nat) (na : Nat) (ns : Nat) (nf : Nat) (np : Nat) (nq : Nat) (fx : Nat → Int32) (fl : Nat → Int32) (sz : Nat) : MV l D q_cl (q_ty aI aL aZ) yX7_room vsX7_room 0 13 36005 [.ref h0, .int 3000, .int 1500] [(h0, .inr (5, [.ref nx, .ref ny, .int 0, .ref nl, .ref nh, .int 0, .ref nb, .ref no, .ref nr, .ref nd, .ref na, .ref ns, .ref nf, .int 0, .ref np, .int 0, .ref nq])), (nx, .inl (aI, 0, .inl fx)), (nl, .inl (aI, 0, .inl fl))] sz (fun (u : Nat × Nat × Nat × Nat × Nat × Nat × Nat × Nat × Nat × Nat × Nat × Nat × Nat) => True) (fun (u : Nat × Nat × Nat × Nat × Nat × Nat × Nat × Nat × Nat × Nat × Nat × Nat × Nat) => [(h0, .inr (5, [.ref u.1, .ref u.2.1, .int 0, .ref u.2.2.1, .ref u.2.2.2.1, .int 0, .ref u.2.2.2.2.1, .ref u.2.2.2.2.2.1, .ref u.2.2.2.2.2.2.1, .ref u.2.2.2.2.2.2.2.1, .ref u.2.2.2.2.2.2.2.2.1, .ref u.2.2.2.2.2.2.2.2.2.1, .ref u.2.2.2.2.2.2.2.2.2.2.1, .int 0, .ref u.2.2.2.2.2.2.2.2.2.2.2.1, .int 0, .ref u.2.2.2.2.2.2.2.2.2.2.2.2])), (u.2.2.2.2.1, .inl (aI, 3001, .inl (fun _ => 0)))]) := by
  refine q_in cX7_room 3 none (qQv D q_cl (q_ty aI aL aZ) _ _) (by decide) rfl (Nat.le_of_ble_eq_true rfl) ?_
  intro p e s m args below meth c A ls hat hP hD hS hl
  obtain ⟨hx, hb, hr, hts, hown, hlocks, hml, hin, hK, hN, hA⟩ := hat
  have hown : s.vm.findClass RX7 = some m.cls := hown
  have hl : lv_has ls 3 [(0, .ref h0), (1, .int 3000), (2, .int 1500)] := hl
  refine lv_aload_n hx hb dX7_room_0 rfl (lv_at hl 0 rfl) ?_
  refine va_get (D := D) (ci := 5) (v := .ref nx) (C := RX7) (T := TX7) (N := 17) hx hb hts n_X7_room_X7 hown hK hP 0 rfl rfl 0 (by decide) (hts (.fieldLink RX7 7 "FaceMapModel$Net" "x" "[I") (List.mem_of_getElem? (i := 1) rfl)) (fun _ h9 => h9) rfl dX7_room_1 ?_
  refine va_alen (v := 0) hx hb hK hP 1 0 rfl rfl rfl dX7_room_4 ?_
  refine lv_iload_n hx hb dX7_room_5 rfl (lv_at hl 1 rfl) ?_
  refine lv_icmp_ge (tgt := 39) hx hb dX7_room_6 (by decide) (fun c_1 => ?_) (fun c_1 => ?_)
  · exact absurd c_1 (by decide)
  · refine lv_aload_n hx hb dX7_room_9 rfl (lv_at hl 0 rfl) ?_
    refine lv_iload_n hx hb dX7_room_10 rfl (lv_at hl 1 rfl) ?_
    refine q_newI 3000 hx hb (hts (.arrayClass .int) (List.mem_of_getElem? (i := 2) rfl)) hK hP hD hS hA 0 rfl (by decide) (by decide) (by decide) (Nat.le_of_ble_eq_true rfl) (Nat.le_of_ble_eq_true rfl) dX7_room_11 (fun q2 H hP hD hS => ?_)
    have hP : va_P D q_cl [(h0, .inr (5, [.ref nx, .ref ny, .int 0, .ref nl, .ref nh, .int 0, .ref nb, .ref no, .ref nr, .ref nd, .ref na, .ref ns, .ref nf, .int 0, .ref np, .int 0, .ref nq])), (nx, .inl (aI, 0, .inl fx)), (nl, .inl (aI, 0, .inl fl)), (q2, .inl (aI, 3000, .inl (fun _ => 0)))] H := hP
    have hD : va_D A [(h0, .inr (5, [.ref nx, .ref ny, .int 0, .ref nl, .ref nh, .int 0, .ref nb, .ref no, .ref nr, .ref nd, .ref na, .ref ns, .ref nf, .int 0, .ref np, .int 0, .ref nq])), (nx, .inl (aI, 0, .inl fx)), (nl, .inl (aI, 0, .inl fl)), (q2, .inl (aI, 3000, .inl (fun _ => 0)))] := hD
    refine va_put (D := D) (ci := 5) (v := .ref q2) (ty := (.array .int)) (C := RX7) (T := TX7) (N := 17) hx hb hts n_X7_room_X7 tyX7 tyX7_ok nmX7 hown hK hP hD hS 0 rfl rfl 0 (by decide) (hts (.fieldLink RX7 7 "FaceMapModel$Net" "x" "[I") (List.mem_of_getElem? (i := 1) rfl)) (fun _ h9 => h9) rfl (by decide +kernel) rfl rfl (Nat.le_of_ble_eq_true rfl) dX7_room_13 (fun H locs hP hD hS => ?_)
    have hP : va_P D q_cl [(h0, .inr (5, [.ref q2, .ref ny, .int 0, .ref nl, .ref nh, .int 0, .ref nb, .ref no, .ref nr, .ref nd, .ref na, .ref ns, .ref nf, .int 0, .ref np, .int 0, .ref nq])), (nx, .inl (aI, 0, .inl fx)), (nl, .inl (aI, 0, .inl fl)), (q2, .inl (aI, 3000, .inl (fun _ => 0)))] H := hP
    have hD : va_D A [(h0, .inr (5, [.ref q2, .ref ny, .int 0, .ref nl, .ref nh, .int 0, .ref nb, .ref no, .ref nr, .ref nd, .ref na, .ref ns, .ref nf, .int 0, .ref np, .int 0, .ref nq])), (nx, .inl (aI, 0, .inl fx)), (nl, .inl (aI, 0, .inl fl)), (q2, .inl (aI, 3000, .inl (fun _ => 0)))] := hD
    refine lv_aload_n hx hb dX7_room_16 rfl (lv_at hl 0 rfl) ?_
    refine lv_iload_n hx hb dX7_room_17 rfl (lv_at hl 1 rfl) ?_
    refine q_newI 3000 hx hb (hts (.arrayClass .int) (List.mem_of_getElem? (i := 2) rfl)) hK hP hD hS hA 0 rfl (by decide) (by decide) (by decide) (Nat.le_of_ble_eq_true rfl) (Nat.le_of_ble_eq_true rfl) dX7_room_18 (fun q3 H hP hD hS => ?_)
    have hP : va_P D q_cl [(h0, .inr (5, [.ref q2, .ref ny, .int 0, .ref nl, .ref nh, .int 0, .ref nb, .ref no, .ref nr, .ref nd, .ref na, .ref ns, .ref nf, .int 0, .ref np, .int 0, .ref nq])), (nx, .inl (aI, 0, .inl fx)), (nl, .inl (aI, 0, .inl fl)), (q2, .inl (aI, 3000, .inl (fun _ => 0))), (q3, .inl (aI, 3000, .inl (fun _ => 0)))] H := hP
    have hD : va_D A [(h0, .inr (5, [.ref q2, .ref ny, .int 0, .ref nl, .ref nh, .int 0, .ref nb, .ref no, .ref nr, .ref nd, .ref na, .ref ns, .ref nf, .int 0, .ref np, .int 0, .ref nq])), (nx, .inl (aI, 0, .inl fx)), (nl, .inl (aI, 0, .inl fl)), (q2, .inl (aI, 3000, .inl (fun _ => 0))), (q3, .inl (aI, 3000, .inl (fun _ => 0)))] := hD
    refine va_put (D := D) (ci := 5) (v := .ref q3) (ty := (.array .int)) (C := RX7) (T := TX7) (N := 17) hx hb hts n_X7_room_X7 tyX7 tyX7_ok nmX7 hown hK hP hD hS 0 rfl rfl 1 (by decide) (hts (.fieldLink RX7 13 "FaceMapModel$Net" "y" "[I") (List.mem_of_getElem? (i := 3) rfl)) (fun _ h9 => h9) rfl (by decide +kernel) rfl rfl (Nat.le_of_ble_eq_true rfl) dX7_room_20 (fun H locs hP hD hS => ?_)
    have hP : va_P D q_cl [(h0, .inr (5, [.ref q2, .ref q3, .int 0, .ref nl, .ref nh, .int 0, .ref nb, .ref no, .ref nr, .ref nd, .ref na, .ref ns, .ref nf, .int 0, .ref np, .int 0, .ref nq])), (nx, .inl (aI, 0, .inl fx)), (nl, .inl (aI, 0, .inl fl)), (q2, .inl (aI, 3000, .inl (fun _ => 0))), (q3, .inl (aI, 3000, .inl (fun _ => 0)))] H := hP
    have hD : va_D A [(h0, .inr (5, [.ref q2, .ref q3, .int 0, .ref nl, .ref nh, .int 0, .ref nb, .ref no, .ref nr, .ref nd, .ref na, .ref ns, .ref nf, .int 0, .ref np, .int 0, .ref nq])), (nx, .inl (aI, 0, .inl fx)), (nl, .inl (aI, 0, .inl fl)), (q2, .inl (aI, 3000, .inl (fun _ => 0))), (q3, .inl (aI, 3000, .inl (fun _ => 0)))] := hD
    refine lv_aload_n hx hb dX7_room_23 rfl (lv_at hl 0 rfl) ?_
    refine lv_iload_n hx hb dX7_room_24 rfl (lv_at hl 1 rfl) ?_
    refine lv_iconst (v := 1) hx hb dX7_room_25 (by decide) ?_
    refine lv_iadd hx hb dX7_room_26 ?_
    refine q_vi (v := 3001) (by decide) ?_
    refine q_newI 3001 hx hb (hts (.arrayClass .int) (List.mem_of_getElem? (i := 2) rfl)) hK hP hD hS hA 0 rfl (by decide) (by decide) (by decide) (Nat.le_of_ble_eq_true rfl) (Nat.le_of_ble_eq_true rfl) dX7_room_27 (fun q4 H hP hD hS => ?_)
    have hP : va_P D q_cl [(h0, .inr (5, [.ref q2, .ref q3, .int 0, .ref nl, .ref nh, .int 0, .ref nb, .ref no, .ref nr, .ref nd, .ref na, .ref ns, .ref nf, .int 0, .ref np, .int 0, .ref nq])), (nx, .inl (aI, 0, .inl fx)), (nl, .inl (aI, 0, .inl fl)), (q2, .inl (aI, 3000, .inl (fun _ => 0))), (q3, .inl (aI, 3000, .inl (fun _ => 0))), (q4, .inl (aI, 3001, .inl (fun _ => 0)))] H := hP
    have hD : va_D A [(h0, .inr (5, [.ref q2, .ref q3, .int 0, .ref nl, .ref nh, .int 0, .ref nb, .ref no, .ref nr, .ref nd, .ref na, .ref ns, .ref nf, .int 0, .ref np, .int 0, .ref nq])), (nx, .inl (aI, 0, .inl fx)), (nl, .inl (aI, 0, .inl fl)), (q2, .inl (aI, 3000, .inl (fun _ => 0))), (q3, .inl (aI, 3000, .inl (fun _ => 0))), (q4, .inl (aI, 3001, .inl (fun _ => 0)))] := hD
    refine va_put (D := D) (ci := 5) (v := .ref q4) (ty := (.array .int)) (C := RX7) (T := TX7) (N := 17) hx hb hts n_X7_room_X7 tyX7 tyX7_ok nmX7 hown hK hP hD hS 0 rfl rfl 6 (by decide) (hts (.fieldLink RX7 22 "FaceMapModel$Net" "begins" "[I") (List.mem_of_getElem? (i := 4) rfl)) (fun _ h9 => h9) rfl (by decide +kernel) rfl rfl (Nat.le_of_ble_eq_true rfl) dX7_room_29 (fun H locs hP hD hS => ?_)
    have hP : va_P D q_cl [(h0, .inr (5, [.ref q2, .ref q3, .int 0, .ref nl, .ref nh, .int 0, .ref q4, .ref no, .ref nr, .ref nd, .ref na, .ref ns, .ref nf, .int 0, .ref np, .int 0, .ref nq])), (nx, .inl (aI, 0, .inl fx)), (nl, .inl (aI, 0, .inl fl)), (q2, .inl (aI, 3000, .inl (fun _ => 0))), (q3, .inl (aI, 3000, .inl (fun _ => 0))), (q4, .inl (aI, 3001, .inl (fun _ => 0)))] H := hP
    have hD : va_D A [(h0, .inr (5, [.ref q2, .ref q3, .int 0, .ref nl, .ref nh, .int 0, .ref q4, .ref no, .ref nr, .ref nd, .ref na, .ref ns, .ref nf, .int 0, .ref np, .int 0, .ref nq])), (nx, .inl (aI, 0, .inl fx)), (nl, .inl (aI, 0, .inl fl)), (q2, .inl (aI, 3000, .inl (fun _ => 0))), (q3, .inl (aI, 3000, .inl (fun _ => 0))), (q4, .inl (aI, 3001, .inl (fun _ => 0)))] := hD
    refine lv_aload_n hx hb dX7_room_32 rfl (lv_at hl 0 rfl) ?_
    refine lv_iload_n hx hb dX7_room_33 rfl (lv_at hl 1 rfl) ?_
    refine q_newI 3000 hx hb (hts (.arrayClass .int) (List.mem_of_getElem? (i := 2) rfl)) hK hP hD hS hA 0 rfl (by decide) (by decide) (by decide) (Nat.le_of_ble_eq_true rfl) (Nat.le_of_ble_eq_true rfl) dX7_room_34 (fun q5 H hP hD hS => ?_)
    have hP : va_P D q_cl [(h0, .inr (5, [.ref q2, .ref q3, .int 0, .ref nl, .ref nh, .int 0, .ref q4, .ref no, .ref nr, .ref nd, .ref na, .ref ns, .ref nf, .int 0, .ref np, .int 0, .ref nq])), (nx, .inl (aI, 0, .inl fx)), (nl, .inl (aI, 0, .inl fl)), (q2, .inl (aI, 3000, .inl (fun _ => 0))), (q3, .inl (aI, 3000, .inl (fun _ => 0))), (q4, .inl (aI, 3001, .inl (fun _ => 0))), (q5, .inl (aI, 3000, .inl (fun _ => 0)))] H := hP
    have hD : va_D A [(h0, .inr (5, [.ref q2, .ref q3, .int 0, .ref nl, .ref nh, .int 0, .ref q4, .ref no, .ref nr, .ref nd, .ref na, .ref ns, .ref nf, .int 0, .ref np, .int 0, .ref nq])), (nx, .inl (aI, 0, .inl fx)), (nl, .inl (aI, 0, .inl fl)), (q2, .inl (aI, 3000, .inl (fun _ => 0))), (q3, .inl (aI, 3000, .inl (fun _ => 0))), (q4, .inl (aI, 3001, .inl (fun _ => 0))), (q5, .inl (aI, 3000, .inl (fun _ => 0)))] := hD
    refine va_put (D := D) (ci := 5) (v := .ref q5) (ty := (.array .int)) (C := RX7) (T := TX7) (N := 17) hx hb hts n_X7_room_X7 tyX7 tyX7_ok nmX7 hown hK hP hD hS 0 rfl rfl 14 (by decide) (hts (.fieldLink RX7 44 "FaceMapModel$Net" "part" "[I") (List.mem_of_getElem? (i := 5) rfl)) (fun _ h9 => h9) rfl (by decide +kernel) rfl rfl (Nat.le_of_ble_eq_true rfl) dX7_room_36 (fun H locs hP hD hS => ?_)
    have hP : va_P D q_cl [(h0, .inr (5, [.ref q2, .ref q3, .int 0, .ref nl, .ref nh, .int 0, .ref q4, .ref no, .ref nr, .ref nd, .ref na, .ref ns, .ref nf, .int 0, .ref q5, .int 0, .ref nq])), (nx, .inl (aI, 0, .inl fx)), (nl, .inl (aI, 0, .inl fl)), (q2, .inl (aI, 3000, .inl (fun _ => 0))), (q3, .inl (aI, 3000, .inl (fun _ => 0))), (q4, .inl (aI, 3001, .inl (fun _ => 0))), (q5, .inl (aI, 3000, .inl (fun _ => 0)))] H := hP
    have hD : va_D A [(h0, .inr (5, [.ref q2, .ref q3, .int 0, .ref nl, .ref nh, .int 0, .ref q4, .ref no, .ref nr, .ref nd, .ref na, .ref ns, .ref nf, .int 0, .ref q5, .int 0, .ref nq])), (nx, .inl (aI, 0, .inl fx)), (nl, .inl (aI, 0, .inl fl)), (q2, .inl (aI, 3000, .inl (fun _ => 0))), (q3, .inl (aI, 3000, .inl (fun _ => 0))), (q4, .inl (aI, 3001, .inl (fun _ => 0))), (q5, .inl (aI, 3000, .inl (fun _ => 0)))] := hD
    refine lv_aload_n hx hb dX7_room_39 rfl (lv_at hl 0 rfl) ?_
    refine va_get (D := D) (ci := 5) (v := .ref nl) (C := RX7) (T := TX7) (N := 17) hx hb hts n_X7_room_X7 hown hK hP 0 rfl rfl 3 (by decide) (hts (.fieldLink RX7 16 "FaceMapModel$Net" "low" "[I") (List.mem_of_getElem? (i := 6) rfl)) (fun _ h9 => h9) rfl dX7_room_40 ?_
    refine va_alen (v := 0) hx hb hK hP 2 0 rfl rfl rfl dX7_room_43 ?_
    refine lv_iload_n hx hb dX7_room_44 rfl (lv_at hl 2 rfl) ?_
    refine lv_icmp_ge (tgt := 133) hx hb dX7_room_45 (by decide) (fun c_6 => ?_) (fun c_6 => ?_)
    · exact absurd c_6 (by decide)
    · refine lv_aload_n hx hb dX7_room_48 rfl (lv_at hl 0 rfl) ?_
      refine lv_iload_n hx hb dX7_room_49 rfl (lv_at hl 2 rfl) ?_
      refine q_newI 1500 hx hb (hts (.arrayClass .int) (List.mem_of_getElem? (i := 2) rfl)) hK hP hD hS hA 0 rfl (by decide) (by decide) (by decide) (Nat.le_of_ble_eq_true rfl) (Nat.le_of_ble_eq_true rfl) dX7_room_50 (fun q7 H hP hD hS => ?_)
      have hP : va_P D q_cl [(h0, .inr (5, [.ref q2, .ref q3, .int 0, .ref nl, .ref nh, .int 0, .ref q4, .ref no, .ref nr, .ref nd, .ref na, .ref ns, .ref nf, .int 0, .ref q5, .int 0, .ref nq])), (nx, .inl (aI, 0, .inl fx)), (nl, .inl (aI, 0, .inl fl)), (q2, .inl (aI, 3000, .inl (fun _ => 0))), (q3, .inl (aI, 3000, .inl (fun _ => 0))), (q4, .inl (aI, 3001, .inl (fun _ => 0))), (q5, .inl (aI, 3000, .inl (fun _ => 0))), (q7, .inl (aI, 1500, .inl (fun _ => 0)))] H := hP
      have hD : va_D A [(h0, .inr (5, [.ref q2, .ref q3, .int 0, .ref nl, .ref nh, .int 0, .ref q4, .ref no, .ref nr, .ref nd, .ref na, .ref ns, .ref nf, .int 0, .ref q5, .int 0, .ref nq])), (nx, .inl (aI, 0, .inl fx)), (nl, .inl (aI, 0, .inl fl)), (q2, .inl (aI, 3000, .inl (fun _ => 0))), (q3, .inl (aI, 3000, .inl (fun _ => 0))), (q4, .inl (aI, 3001, .inl (fun _ => 0))), (q5, .inl (aI, 3000, .inl (fun _ => 0))), (q7, .inl (aI, 1500, .inl (fun _ => 0)))] := hD
      refine va_put (D := D) (ci := 5) (v := .ref q7) (ty := (.array .int)) (C := RX7) (T := TX7) (N := 17) hx hb hts n_X7_room_X7 tyX7 tyX7_ok nmX7 hown hK hP hD hS 0 rfl rfl 3 (by decide) (hts (.fieldLink RX7 16 "FaceMapModel$Net" "low" "[I") (List.mem_of_getElem? (i := 6) rfl)) (fun _ h9 => h9) rfl (by decide +kernel) rfl rfl (Nat.le_of_ble_eq_true rfl) dX7_room_52 (fun H locs hP hD hS => ?_)
      have hP : va_P D q_cl [(h0, .inr (5, [.ref q2, .ref q3, .int 0, .ref q7, .ref nh, .int 0, .ref q4, .ref no, .ref nr, .ref nd, .ref na, .ref ns, .ref nf, .int 0, .ref q5, .int 0, .ref nq])), (nx, .inl (aI, 0, .inl fx)), (nl, .inl (aI, 0, .inl fl)), (q2, .inl (aI, 3000, .inl (fun _ => 0))), (q3, .inl (aI, 3000, .inl (fun _ => 0))), (q4, .inl (aI, 3001, .inl (fun _ => 0))), (q5, .inl (aI, 3000, .inl (fun _ => 0))), (q7, .inl (aI, 1500, .inl (fun _ => 0)))] H := hP
      have hD : va_D A [(h0, .inr (5, [.ref q2, .ref q3, .int 0, .ref q7, .ref nh, .int 0, .ref q4, .ref no, .ref nr, .ref nd, .ref na, .ref ns, .ref nf, .int 0, .ref q5, .int 0, .ref nq])), (nx, .inl (aI, 0, .inl fx)), (nl, .inl (aI, 0, .inl fl)), (q2, .inl (aI, 3000, .inl (fun _ => 0))), (q3, .inl (aI, 3000, .inl (fun _ => 0))), (q4, .inl (aI, 3001, .inl (fun _ => 0))), (q5, .inl (aI, 3000, .inl (fun _ => 0))), (q7, .inl (aI, 1500, .inl (fun _ => 0)))] := hD
      refine lv_aload_n hx hb dX7_room_55 rfl (lv_at hl 0 rfl) ?_
      refine lv_iload_n hx hb dX7_room_56 rfl (lv_at hl 2 rfl) ?_
      refine q_newI 1500 hx hb (hts (.arrayClass .int) (List.mem_of_getElem? (i := 2) rfl)) hK hP hD hS hA 0 rfl (by decide) (by decide) (by decide) (Nat.le_of_ble_eq_true rfl) (Nat.le_of_ble_eq_true rfl) dX7_room_57 (fun q8 H hP hD hS => ?_)
      have hP : va_P D q_cl [(h0, .inr (5, [.ref q2, .ref q3, .int 0, .ref q7, .ref nh, .int 0, .ref q4, .ref no, .ref nr, .ref nd, .ref na, .ref ns, .ref nf, .int 0, .ref q5, .int 0, .ref nq])), (nx, .inl (aI, 0, .inl fx)), (nl, .inl (aI, 0, .inl fl)), (q2, .inl (aI, 3000, .inl (fun _ => 0))), (q3, .inl (aI, 3000, .inl (fun _ => 0))), (q4, .inl (aI, 3001, .inl (fun _ => 0))), (q5, .inl (aI, 3000, .inl (fun _ => 0))), (q7, .inl (aI, 1500, .inl (fun _ => 0))), (q8, .inl (aI, 1500, .inl (fun _ => 0)))] H := hP
      have hD : va_D A [(h0, .inr (5, [.ref q2, .ref q3, .int 0, .ref q7, .ref nh, .int 0, .ref q4, .ref no, .ref nr, .ref nd, .ref na, .ref ns, .ref nf, .int 0, .ref q5, .int 0, .ref nq])), (nx, .inl (aI, 0, .inl fx)), (nl, .inl (aI, 0, .inl fl)), (q2, .inl (aI, 3000, .inl (fun _ => 0))), (q3, .inl (aI, 3000, .inl (fun _ => 0))), (q4, .inl (aI, 3001, .inl (fun _ => 0))), (q5, .inl (aI, 3000, .inl (fun _ => 0))), (q7, .inl (aI, 1500, .inl (fun _ => 0))), (q8, .inl (aI, 1500, .inl (fun _ => 0)))] := hD
      refine va_put (D := D) (ci := 5) (v := .ref q8) (ty := (.array .int)) (C := RX7) (T := TX7) (N := 17) hx hb hts n_X7_room_X7 tyX7 tyX7_ok nmX7 hown hK hP hD hS 0 rfl rfl 4 (by decide) (hts (.fieldLink RX7 19 "FaceMapModel$Net" "high" "[I") (List.mem_of_getElem? (i := 7) rfl)) (fun _ h9 => h9) rfl (by decide +kernel) rfl rfl (Nat.le_of_ble_eq_true rfl) dX7_room_59 (fun H locs hP hD hS => ?_)
      have hP : va_P D q_cl [(h0, .inr (5, [.ref q2, .ref q3, .int 0, .ref q7, .ref q8, .int 0, .ref q4, .ref no, .ref nr, .ref nd, .ref na, .ref ns, .ref nf, .int 0, .ref q5, .int 0, .ref nq])), (nx, .inl (aI, 0, .inl fx)), (nl, .inl (aI, 0, .inl fl)), (q2, .inl (aI, 3000, .inl (fun _ => 0))), (q3, .inl (aI, 3000, .inl (fun _ => 0))), (q4, .inl (aI, 3001, .inl (fun _ => 0))), (q5, .inl (aI, 3000, .inl (fun _ => 0))), (q7, .inl (aI, 1500, .inl (fun _ => 0))), (q8, .inl (aI, 1500, .inl (fun _ => 0)))] H := hP
      have hD : va_D A [(h0, .inr (5, [.ref q2, .ref q3, .int 0, .ref q7, .ref q8, .int 0, .ref q4, .ref no, .ref nr, .ref nd, .ref na, .ref ns, .ref nf, .int 0, .ref q5, .int 0, .ref nq])), (nx, .inl (aI, 0, .inl fx)), (nl, .inl (aI, 0, .inl fl)), (q2, .inl (aI, 3000, .inl (fun _ => 0))), (q3, .inl (aI, 3000, .inl (fun _ => 0))), (q4, .inl (aI, 3001, .inl (fun _ => 0))), (q5, .inl (aI, 3000, .inl (fun _ => 0))), (q7, .inl (aI, 1500, .inl (fun _ => 0))), (q8, .inl (aI, 1500, .inl (fun _ => 0)))] := hD
      refine lv_aload_n hx hb dX7_room_62 rfl (lv_at hl 0 rfl) ?_
      refine lv_iconst (v := 2) hx hb dX7_room_63 (by decide) ?_
      refine lv_iload_n hx hb dX7_room_64 rfl (lv_at hl 2 rfl) ?_
      refine lv_imul hx hb dX7_room_65 ?_
      refine q_vi (v := 3000) (by decide) ?_
      refine q_newI 3000 hx hb (hts (.arrayClass .int) (List.mem_of_getElem? (i := 2) rfl)) hK hP hD hS hA 0 rfl (by decide) (by decide) (by decide) (Nat.le_of_ble_eq_true rfl) (Nat.le_of_ble_eq_true rfl) dX7_room_66 (fun q9 H hP hD hS => ?_)
      have hP : va_P D q_cl [(h0, .inr (5, [.ref q2, .ref q3, .int 0, .ref q7, .ref q8, .int 0, .ref q4, .ref no, .ref nr, .ref nd, .ref na, .ref ns, .ref nf, .int 0, .ref q5, .int 0, .ref nq])), (nx, .inl (aI, 0, .inl fx)), (nl, .inl (aI, 0, .inl fl)), (q2, .inl (aI, 3000, .inl (fun _ => 0))), (q3, .inl (aI, 3000, .inl (fun _ => 0))), (q4, .inl (aI, 3001, .inl (fun _ => 0))), (q5, .inl (aI, 3000, .inl (fun _ => 0))), (q7, .inl (aI, 1500, .inl (fun _ => 0))), (q8, .inl (aI, 1500, .inl (fun _ => 0))), (q9, .inl (aI, 3000, .inl (fun _ => 0)))] H := hP
      have hD : va_D A [(h0, .inr (5, [.ref q2, .ref q3, .int 0, .ref q7, .ref q8, .int 0, .ref q4, .ref no, .ref nr, .ref nd, .ref na, .ref ns, .ref nf, .int 0, .ref q5, .int 0, .ref nq])), (nx, .inl (aI, 0, .inl fx)), (nl, .inl (aI, 0, .inl fl)), (q2, .inl (aI, 3000, .inl (fun _ => 0))), (q3, .inl (aI, 3000, .inl (fun _ => 0))), (q4, .inl (aI, 3001, .inl (fun _ => 0))), (q5, .inl (aI, 3000, .inl (fun _ => 0))), (q7, .inl (aI, 1500, .inl (fun _ => 0))), (q8, .inl (aI, 1500, .inl (fun _ => 0))), (q9, .inl (aI, 3000, .inl (fun _ => 0)))] := hD
      refine va_put (D := D) (ci := 5) (v := .ref q9) (ty := (.array .int)) (C := RX7) (T := TX7) (N := 17) hx hb hts n_X7_room_X7 tyX7 tyX7_ok nmX7 hown hK hP hD hS 0 rfl rfl 7 (by decide) (hts (.fieldLink RX7 25 "FaceMapModel$Net" "out" "[I") (List.mem_of_getElem? (i := 8) rfl)) (fun _ h9 => h9) rfl (by decide +kernel) rfl rfl (Nat.le_of_ble_eq_true rfl) dX7_room_68 (fun H locs hP hD hS => ?_)
      have hP : va_P D q_cl [(h0, .inr (5, [.ref q2, .ref q3, .int 0, .ref q7, .ref q8, .int 0, .ref q4, .ref q9, .ref nr, .ref nd, .ref na, .ref ns, .ref nf, .int 0, .ref q5, .int 0, .ref nq])), (nx, .inl (aI, 0, .inl fx)), (nl, .inl (aI, 0, .inl fl)), (q2, .inl (aI, 3000, .inl (fun _ => 0))), (q3, .inl (aI, 3000, .inl (fun _ => 0))), (q4, .inl (aI, 3001, .inl (fun _ => 0))), (q5, .inl (aI, 3000, .inl (fun _ => 0))), (q7, .inl (aI, 1500, .inl (fun _ => 0))), (q8, .inl (aI, 1500, .inl (fun _ => 0))), (q9, .inl (aI, 3000, .inl (fun _ => 0)))] H := hP
      have hD : va_D A [(h0, .inr (5, [.ref q2, .ref q3, .int 0, .ref q7, .ref q8, .int 0, .ref q4, .ref q9, .ref nr, .ref nd, .ref na, .ref ns, .ref nf, .int 0, .ref q5, .int 0, .ref nq])), (nx, .inl (aI, 0, .inl fx)), (nl, .inl (aI, 0, .inl fl)), (q2, .inl (aI, 3000, .inl (fun _ => 0))), (q3, .inl (aI, 3000, .inl (fun _ => 0))), (q4, .inl (aI, 3001, .inl (fun _ => 0))), (q5, .inl (aI, 3000, .inl (fun _ => 0))), (q7, .inl (aI, 1500, .inl (fun _ => 0))), (q8, .inl (aI, 1500, .inl (fun _ => 0))), (q9, .inl (aI, 3000, .inl (fun _ => 0)))] := hD
      refine lv_aload_n hx hb dX7_room_71 rfl (lv_at hl 0 rfl) ?_
      refine lv_iconst (v := 2) hx hb dX7_room_72 (by decide) ?_
      refine lv_iload_n hx hb dX7_room_73 rfl (lv_at hl 2 rfl) ?_
      refine lv_imul hx hb dX7_room_74 ?_
      refine q_vi (v := 3000) (by decide) ?_
      refine q_newI 3000 hx hb (hts (.arrayClass .int) (List.mem_of_getElem? (i := 2) rfl)) hK hP hD hS hA 0 rfl (by decide) (by decide) (by decide) (Nat.le_of_ble_eq_true rfl) (Nat.le_of_ble_eq_true rfl) dX7_room_75 (fun q10 H hP hD hS => ?_)
      have hP : va_P D q_cl [(h0, .inr (5, [.ref q2, .ref q3, .int 0, .ref q7, .ref q8, .int 0, .ref q4, .ref q9, .ref nr, .ref nd, .ref na, .ref ns, .ref nf, .int 0, .ref q5, .int 0, .ref nq])), (nx, .inl (aI, 0, .inl fx)), (nl, .inl (aI, 0, .inl fl)), (q2, .inl (aI, 3000, .inl (fun _ => 0))), (q3, .inl (aI, 3000, .inl (fun _ => 0))), (q4, .inl (aI, 3001, .inl (fun _ => 0))), (q5, .inl (aI, 3000, .inl (fun _ => 0))), (q7, .inl (aI, 1500, .inl (fun _ => 0))), (q8, .inl (aI, 1500, .inl (fun _ => 0))), (q9, .inl (aI, 3000, .inl (fun _ => 0))), (q10, .inl (aI, 3000, .inl (fun _ => 0)))] H := hP
      have hD : va_D A [(h0, .inr (5, [.ref q2, .ref q3, .int 0, .ref q7, .ref q8, .int 0, .ref q4, .ref q9, .ref nr, .ref nd, .ref na, .ref ns, .ref nf, .int 0, .ref q5, .int 0, .ref nq])), (nx, .inl (aI, 0, .inl fx)), (nl, .inl (aI, 0, .inl fl)), (q2, .inl (aI, 3000, .inl (fun _ => 0))), (q3, .inl (aI, 3000, .inl (fun _ => 0))), (q4, .inl (aI, 3001, .inl (fun _ => 0))), (q5, .inl (aI, 3000, .inl (fun _ => 0))), (q7, .inl (aI, 1500, .inl (fun _ => 0))), (q8, .inl (aI, 1500, .inl (fun _ => 0))), (q9, .inl (aI, 3000, .inl (fun _ => 0))), (q10, .inl (aI, 3000, .inl (fun _ => 0)))] := hD
      refine va_put (D := D) (ci := 5) (v := .ref q10) (ty := (.array .int)) (C := RX7) (T := TX7) (N := 17) hx hb hts n_X7_room_X7 tyX7 tyX7_ok nmX7 hown hK hP hD hS 0 rfl rfl 8 (by decide) (hts (.fieldLink RX7 28 "FaceMapModel$Net" "rank" "[I") (List.mem_of_getElem? (i := 9) rfl)) (fun _ h9 => h9) rfl (by decide +kernel) rfl rfl (Nat.le_of_ble_eq_true rfl) dX7_room_77 (fun H locs hP hD hS => ?_)
      have hP : va_P D q_cl [(h0, .inr (5, [.ref q2, .ref q3, .int 0, .ref q7, .ref q8, .int 0, .ref q4, .ref q9, .ref q10, .ref nd, .ref na, .ref ns, .ref nf, .int 0, .ref q5, .int 0, .ref nq])), (nx, .inl (aI, 0, .inl fx)), (nl, .inl (aI, 0, .inl fl)), (q2, .inl (aI, 3000, .inl (fun _ => 0))), (q3, .inl (aI, 3000, .inl (fun _ => 0))), (q4, .inl (aI, 3001, .inl (fun _ => 0))), (q5, .inl (aI, 3000, .inl (fun _ => 0))), (q7, .inl (aI, 1500, .inl (fun _ => 0))), (q8, .inl (aI, 1500, .inl (fun _ => 0))), (q9, .inl (aI, 3000, .inl (fun _ => 0))), (q10, .inl (aI, 3000, .inl (fun _ => 0)))] H := hP
      have hD : va_D A [(h0, .inr (5, [.ref q2, .ref q3, .int 0, .ref q7, .ref q8, .int 0, .ref q4, .ref q9, .ref q10, .ref nd, .ref na, .ref ns, .ref nf, .int 0, .ref q5, .int 0, .ref nq])), (nx, .inl (aI, 0, .inl fx)), (nl, .inl (aI, 0, .inl fl)), (q2, .inl (aI, 3000, .inl (fun _ => 0))), (q3, .inl (aI, 3000, .inl (fun _ => 0))), (q4, .inl (aI, 3001, .inl (fun _ => 0))), (q5, .inl (aI, 3000, .inl (fun _ => 0))), (q7, .inl (aI, 1500, .inl (fun _ => 0))), (q8, .inl (aI, 1500, .inl (fun _ => 0))), (q9, .inl (aI, 3000, .inl (fun _ => 0))), (q10, .inl (aI, 3000, .inl (fun _ => 0)))] := hD
      refine lv_aload_n hx hb dX7_room_80 rfl (lv_at hl 0 rfl) ?_
      refine lv_iconst (v := 2) hx hb dX7_room_81 (by decide) ?_
      refine lv_iload_n hx hb dX7_room_82 rfl (lv_at hl 2 rfl) ?_
      refine lv_imul hx hb dX7_room_83 ?_
      refine q_vi (v := 3000) (by decide) ?_
      refine q_newI 3000 hx hb (hts (.arrayClass .int) (List.mem_of_getElem? (i := 2) rfl)) hK hP hD hS hA 0 rfl (by decide) (by decide) (by decide) (Nat.le_of_ble_eq_true rfl) (Nat.le_of_ble_eq_true rfl) dX7_room_84 (fun q11 H hP hD hS => ?_)
      have hP : va_P D q_cl [(h0, .inr (5, [.ref q2, .ref q3, .int 0, .ref q7, .ref q8, .int 0, .ref q4, .ref q9, .ref q10, .ref nd, .ref na, .ref ns, .ref nf, .int 0, .ref q5, .int 0, .ref nq])), (nx, .inl (aI, 0, .inl fx)), (nl, .inl (aI, 0, .inl fl)), (q2, .inl (aI, 3000, .inl (fun _ => 0))), (q3, .inl (aI, 3000, .inl (fun _ => 0))), (q4, .inl (aI, 3001, .inl (fun _ => 0))), (q5, .inl (aI, 3000, .inl (fun _ => 0))), (q7, .inl (aI, 1500, .inl (fun _ => 0))), (q8, .inl (aI, 1500, .inl (fun _ => 0))), (q9, .inl (aI, 3000, .inl (fun _ => 0))), (q10, .inl (aI, 3000, .inl (fun _ => 0))), (q11, .inl (aI, 3000, .inl (fun _ => 0)))] H := hP
      have hD : va_D A [(h0, .inr (5, [.ref q2, .ref q3, .int 0, .ref q7, .ref q8, .int 0, .ref q4, .ref q9, .ref q10, .ref nd, .ref na, .ref ns, .ref nf, .int 0, .ref q5, .int 0, .ref nq])), (nx, .inl (aI, 0, .inl fx)), (nl, .inl (aI, 0, .inl fl)), (q2, .inl (aI, 3000, .inl (fun _ => 0))), (q3, .inl (aI, 3000, .inl (fun _ => 0))), (q4, .inl (aI, 3001, .inl (fun _ => 0))), (q5, .inl (aI, 3000, .inl (fun _ => 0))), (q7, .inl (aI, 1500, .inl (fun _ => 0))), (q8, .inl (aI, 1500, .inl (fun _ => 0))), (q9, .inl (aI, 3000, .inl (fun _ => 0))), (q10, .inl (aI, 3000, .inl (fun _ => 0))), (q11, .inl (aI, 3000, .inl (fun _ => 0)))] := hD
      refine va_put (D := D) (ci := 5) (v := .ref q11) (ty := (.array .int)) (C := RX7) (T := TX7) (N := 17) hx hb hts n_X7_room_X7 tyX7 tyX7_ok nmX7 hown hK hP hD hS 0 rfl rfl 9 (by decide) (hts (.fieldLink RX7 31 "FaceMapModel$Net" "round" "[I") (List.mem_of_getElem? (i := 10) rfl)) (fun _ h9 => h9) rfl (by decide +kernel) rfl rfl (Nat.le_of_ble_eq_true rfl) dX7_room_86 (fun H locs hP hD hS => ?_)
      have hP : va_P D q_cl [(h0, .inr (5, [.ref q2, .ref q3, .int 0, .ref q7, .ref q8, .int 0, .ref q4, .ref q9, .ref q10, .ref q11, .ref na, .ref ns, .ref nf, .int 0, .ref q5, .int 0, .ref nq])), (nx, .inl (aI, 0, .inl fx)), (nl, .inl (aI, 0, .inl fl)), (q2, .inl (aI, 3000, .inl (fun _ => 0))), (q3, .inl (aI, 3000, .inl (fun _ => 0))), (q4, .inl (aI, 3001, .inl (fun _ => 0))), (q5, .inl (aI, 3000, .inl (fun _ => 0))), (q7, .inl (aI, 1500, .inl (fun _ => 0))), (q8, .inl (aI, 1500, .inl (fun _ => 0))), (q9, .inl (aI, 3000, .inl (fun _ => 0))), (q10, .inl (aI, 3000, .inl (fun _ => 0))), (q11, .inl (aI, 3000, .inl (fun _ => 0)))] H := hP
      have hD : va_D A [(h0, .inr (5, [.ref q2, .ref q3, .int 0, .ref q7, .ref q8, .int 0, .ref q4, .ref q9, .ref q10, .ref q11, .ref na, .ref ns, .ref nf, .int 0, .ref q5, .int 0, .ref nq])), (nx, .inl (aI, 0, .inl fx)), (nl, .inl (aI, 0, .inl fl)), (q2, .inl (aI, 3000, .inl (fun _ => 0))), (q3, .inl (aI, 3000, .inl (fun _ => 0))), (q4, .inl (aI, 3001, .inl (fun _ => 0))), (q5, .inl (aI, 3000, .inl (fun _ => 0))), (q7, .inl (aI, 1500, .inl (fun _ => 0))), (q8, .inl (aI, 1500, .inl (fun _ => 0))), (q9, .inl (aI, 3000, .inl (fun _ => 0))), (q10, .inl (aI, 3000, .inl (fun _ => 0))), (q11, .inl (aI, 3000, .inl (fun _ => 0)))] := hD
      refine lv_aload_n hx hb dX7_room_89 rfl (lv_at hl 0 rfl) ?_
      refine lv_iconst (v := 2) hx hb dX7_room_90 (by decide) ?_
      refine lv_iload_n hx hb dX7_room_91 rfl (lv_at hl 2 rfl) ?_
      refine lv_imul hx hb dX7_room_92 ?_
      refine q_vi (v := 3000) (by decide) ?_
      refine lv_iconst (v := 1) hx hb dX7_room_93 (by decide) ?_
      refine lv_iadd hx hb dX7_room_94 ?_
      refine q_vi (v := 3001) (by decide) ?_
      refine q_newL 3001 hx hb (hts (.arrayClass .long) (List.mem_of_getElem? (i := 11) rfl)) hK hP hD hS hA 1 rfl (by decide) (by decide) (by decide) (Nat.le_of_ble_eq_true rfl) (Nat.le_of_ble_eq_true rfl) dX7_room_95 (fun q12 H hP hD hS => ?_)
      have hP : va_P D q_cl [(h0, .inr (5, [.ref q2, .ref q3, .int 0, .ref q7, .ref q8, .int 0, .ref q4, .ref q9, .ref q10, .ref q11, .ref na, .ref ns, .ref nf, .int 0, .ref q5, .int 0, .ref nq])), (nx, .inl (aI, 0, .inl fx)), (nl, .inl (aI, 0, .inl fl)), (q2, .inl (aI, 3000, .inl (fun _ => 0))), (q3, .inl (aI, 3000, .inl (fun _ => 0))), (q4, .inl (aI, 3001, .inl (fun _ => 0))), (q5, .inl (aI, 3000, .inl (fun _ => 0))), (q7, .inl (aI, 1500, .inl (fun _ => 0))), (q8, .inl (aI, 1500, .inl (fun _ => 0))), (q9, .inl (aI, 3000, .inl (fun _ => 0))), (q10, .inl (aI, 3000, .inl (fun _ => 0))), (q11, .inl (aI, 3000, .inl (fun _ => 0))), (q12, .inl (aL, 3001, .inr (.inl (fun _ => 0))))] H := hP
      have hD : va_D A [(h0, .inr (5, [.ref q2, .ref q3, .int 0, .ref q7, .ref q8, .int 0, .ref q4, .ref q9, .ref q10, .ref q11, .ref na, .ref ns, .ref nf, .int 0, .ref q5, .int 0, .ref nq])), (nx, .inl (aI, 0, .inl fx)), (nl, .inl (aI, 0, .inl fl)), (q2, .inl (aI, 3000, .inl (fun _ => 0))), (q3, .inl (aI, 3000, .inl (fun _ => 0))), (q4, .inl (aI, 3001, .inl (fun _ => 0))), (q5, .inl (aI, 3000, .inl (fun _ => 0))), (q7, .inl (aI, 1500, .inl (fun _ => 0))), (q8, .inl (aI, 1500, .inl (fun _ => 0))), (q9, .inl (aI, 3000, .inl (fun _ => 0))), (q10, .inl (aI, 3000, .inl (fun _ => 0))), (q11, .inl (aI, 3000, .inl (fun _ => 0))), (q12, .inl (aL, 3001, .inr (.inl (fun _ => 0))))] := hD
      refine va_put (D := D) (ci := 5) (v := .ref q12) (ty := (.array .long)) (C := RX7) (T := TX7) (N := 17) hx hb hts n_X7_room_X7 tyX7 tyX7_ok nmX7 hown hK hP hD hS 0 rfl rfl 10 (by decide) (hts (.fieldLink RX7 34 "FaceMapModel$Net" "area" "[J") (List.mem_of_getElem? (i := 12) rfl)) (fun _ h9 => h9) rfl (by decide +kernel) rfl rfl (Nat.le_of_ble_eq_true rfl) dX7_room_97 (fun H locs hP hD hS => ?_)
      have hP : va_P D q_cl [(h0, .inr (5, [.ref q2, .ref q3, .int 0, .ref q7, .ref q8, .int 0, .ref q4, .ref q9, .ref q10, .ref q11, .ref q12, .ref ns, .ref nf, .int 0, .ref q5, .int 0, .ref nq])), (nx, .inl (aI, 0, .inl fx)), (nl, .inl (aI, 0, .inl fl)), (q2, .inl (aI, 3000, .inl (fun _ => 0))), (q3, .inl (aI, 3000, .inl (fun _ => 0))), (q4, .inl (aI, 3001, .inl (fun _ => 0))), (q5, .inl (aI, 3000, .inl (fun _ => 0))), (q7, .inl (aI, 1500, .inl (fun _ => 0))), (q8, .inl (aI, 1500, .inl (fun _ => 0))), (q9, .inl (aI, 3000, .inl (fun _ => 0))), (q10, .inl (aI, 3000, .inl (fun _ => 0))), (q11, .inl (aI, 3000, .inl (fun _ => 0))), (q12, .inl (aL, 3001, .inr (.inl (fun _ => 0))))] H := hP
      have hD : va_D A [(h0, .inr (5, [.ref q2, .ref q3, .int 0, .ref q7, .ref q8, .int 0, .ref q4, .ref q9, .ref q10, .ref q11, .ref q12, .ref ns, .ref nf, .int 0, .ref q5, .int 0, .ref nq])), (nx, .inl (aI, 0, .inl fx)), (nl, .inl (aI, 0, .inl fl)), (q2, .inl (aI, 3000, .inl (fun _ => 0))), (q3, .inl (aI, 3000, .inl (fun _ => 0))), (q4, .inl (aI, 3001, .inl (fun _ => 0))), (q5, .inl (aI, 3000, .inl (fun _ => 0))), (q7, .inl (aI, 1500, .inl (fun _ => 0))), (q8, .inl (aI, 1500, .inl (fun _ => 0))), (q9, .inl (aI, 3000, .inl (fun _ => 0))), (q10, .inl (aI, 3000, .inl (fun _ => 0))), (q11, .inl (aI, 3000, .inl (fun _ => 0))), (q12, .inl (aL, 3001, .inr (.inl (fun _ => 0))))] := hD
      refine lv_aload_n hx hb dX7_room_100 rfl (lv_at hl 0 rfl) ?_
      refine lv_iconst (v := 2) hx hb dX7_room_101 (by decide) ?_
      refine lv_iload_n hx hb dX7_room_102 rfl (lv_at hl 2 rfl) ?_
      refine lv_imul hx hb dX7_room_103 ?_
      refine q_vi (v := 3000) (by decide) ?_
      refine lv_iconst (v := 1) hx hb dX7_room_104 (by decide) ?_
      refine lv_iadd hx hb dX7_room_105 ?_
      refine q_vi (v := 3001) (by decide) ?_
      refine q_newI 3001 hx hb (hts (.arrayClass .int) (List.mem_of_getElem? (i := 2) rfl)) hK hP hD hS hA 0 rfl (by decide) (by decide) (by decide) (Nat.le_of_ble_eq_true rfl) (Nat.le_of_ble_eq_true rfl) dX7_room_106 (fun q13 H hP hD hS => ?_)
      have hP : va_P D q_cl [(h0, .inr (5, [.ref q2, .ref q3, .int 0, .ref q7, .ref q8, .int 0, .ref q4, .ref q9, .ref q10, .ref q11, .ref q12, .ref ns, .ref nf, .int 0, .ref q5, .int 0, .ref nq])), (nx, .inl (aI, 0, .inl fx)), (nl, .inl (aI, 0, .inl fl)), (q2, .inl (aI, 3000, .inl (fun _ => 0))), (q3, .inl (aI, 3000, .inl (fun _ => 0))), (q4, .inl (aI, 3001, .inl (fun _ => 0))), (q5, .inl (aI, 3000, .inl (fun _ => 0))), (q7, .inl (aI, 1500, .inl (fun _ => 0))), (q8, .inl (aI, 1500, .inl (fun _ => 0))), (q9, .inl (aI, 3000, .inl (fun _ => 0))), (q10, .inl (aI, 3000, .inl (fun _ => 0))), (q11, .inl (aI, 3000, .inl (fun _ => 0))), (q12, .inl (aL, 3001, .inr (.inl (fun _ => 0)))), (q13, .inl (aI, 3001, .inl (fun _ => 0)))] H := hP
      have hD : va_D A [(h0, .inr (5, [.ref q2, .ref q3, .int 0, .ref q7, .ref q8, .int 0, .ref q4, .ref q9, .ref q10, .ref q11, .ref q12, .ref ns, .ref nf, .int 0, .ref q5, .int 0, .ref nq])), (nx, .inl (aI, 0, .inl fx)), (nl, .inl (aI, 0, .inl fl)), (q2, .inl (aI, 3000, .inl (fun _ => 0))), (q3, .inl (aI, 3000, .inl (fun _ => 0))), (q4, .inl (aI, 3001, .inl (fun _ => 0))), (q5, .inl (aI, 3000, .inl (fun _ => 0))), (q7, .inl (aI, 1500, .inl (fun _ => 0))), (q8, .inl (aI, 1500, .inl (fun _ => 0))), (q9, .inl (aI, 3000, .inl (fun _ => 0))), (q10, .inl (aI, 3000, .inl (fun _ => 0))), (q11, .inl (aI, 3000, .inl (fun _ => 0))), (q12, .inl (aL, 3001, .inr (.inl (fun _ => 0)))), (q13, .inl (aI, 3001, .inl (fun _ => 0)))] := hD
      refine va_put (D := D) (ci := 5) (v := .ref q13) (ty := (.array .int)) (C := RX7) (T := TX7) (N := 17) hx hb hts n_X7_room_X7 tyX7 tyX7_ok nmX7 hown hK hP hD hS 0 rfl rfl 11 (by decide) (hts (.fieldLink RX7 38 "FaceMapModel$Net" "least" "[I") (List.mem_of_getElem? (i := 13) rfl)) (fun _ h9 => h9) rfl (by decide +kernel) rfl rfl (Nat.le_of_ble_eq_true rfl) dX7_room_108 (fun H locs hP hD hS => ?_)
      have hP : va_P D q_cl [(h0, .inr (5, [.ref q2, .ref q3, .int 0, .ref q7, .ref q8, .int 0, .ref q4, .ref q9, .ref q10, .ref q11, .ref q12, .ref q13, .ref nf, .int 0, .ref q5, .int 0, .ref nq])), (nx, .inl (aI, 0, .inl fx)), (nl, .inl (aI, 0, .inl fl)), (q2, .inl (aI, 3000, .inl (fun _ => 0))), (q3, .inl (aI, 3000, .inl (fun _ => 0))), (q4, .inl (aI, 3001, .inl (fun _ => 0))), (q5, .inl (aI, 3000, .inl (fun _ => 0))), (q7, .inl (aI, 1500, .inl (fun _ => 0))), (q8, .inl (aI, 1500, .inl (fun _ => 0))), (q9, .inl (aI, 3000, .inl (fun _ => 0))), (q10, .inl (aI, 3000, .inl (fun _ => 0))), (q11, .inl (aI, 3000, .inl (fun _ => 0))), (q12, .inl (aL, 3001, .inr (.inl (fun _ => 0)))), (q13, .inl (aI, 3001, .inl (fun _ => 0)))] H := hP
      have hD : va_D A [(h0, .inr (5, [.ref q2, .ref q3, .int 0, .ref q7, .ref q8, .int 0, .ref q4, .ref q9, .ref q10, .ref q11, .ref q12, .ref q13, .ref nf, .int 0, .ref q5, .int 0, .ref nq])), (nx, .inl (aI, 0, .inl fx)), (nl, .inl (aI, 0, .inl fl)), (q2, .inl (aI, 3000, .inl (fun _ => 0))), (q3, .inl (aI, 3000, .inl (fun _ => 0))), (q4, .inl (aI, 3001, .inl (fun _ => 0))), (q5, .inl (aI, 3000, .inl (fun _ => 0))), (q7, .inl (aI, 1500, .inl (fun _ => 0))), (q8, .inl (aI, 1500, .inl (fun _ => 0))), (q9, .inl (aI, 3000, .inl (fun _ => 0))), (q10, .inl (aI, 3000, .inl (fun _ => 0))), (q11, .inl (aI, 3000, .inl (fun _ => 0))), (q12, .inl (aL, 3001, .inr (.inl (fun _ => 0)))), (q13, .inl (aI, 3001, .inl (fun _ => 0)))] := hD
      refine lv_aload_n hx hb dX7_room_111 rfl (lv_at hl 0 rfl) ?_
      refine lv_iconst (v := 2) hx hb dX7_room_112 (by decide) ?_
      refine lv_iload_n hx hb dX7_room_113 rfl (lv_at hl 2 rfl) ?_
      refine lv_imul hx hb dX7_room_114 ?_
      refine q_vi (v := 3000) (by decide) ?_
      refine lv_iconst (v := 1) hx hb dX7_room_115 (by decide) ?_
      refine lv_iadd hx hb dX7_room_116 ?_
      refine q_vi (v := 3001) (by decide) ?_
      refine q_newI 3001 hx hb (hts (.arrayClass .int) (List.mem_of_getElem? (i := 2) rfl)) hK hP hD hS hA 0 rfl (by decide) (by decide) (by decide) (Nat.le_of_ble_eq_true rfl) (Nat.le_of_ble_eq_true rfl) dX7_room_117 (fun q14 H hP hD hS => ?_)
      have hP : va_P D q_cl [(h0, .inr (5, [.ref q2, .ref q3, .int 0, .ref q7, .ref q8, .int 0, .ref q4, .ref q9, .ref q10, .ref q11, .ref q12, .ref q13, .ref nf, .int 0, .ref q5, .int 0, .ref nq])), (nx, .inl (aI, 0, .inl fx)), (nl, .inl (aI, 0, .inl fl)), (q2, .inl (aI, 3000, .inl (fun _ => 0))), (q3, .inl (aI, 3000, .inl (fun _ => 0))), (q4, .inl (aI, 3001, .inl (fun _ => 0))), (q5, .inl (aI, 3000, .inl (fun _ => 0))), (q7, .inl (aI, 1500, .inl (fun _ => 0))), (q8, .inl (aI, 1500, .inl (fun _ => 0))), (q9, .inl (aI, 3000, .inl (fun _ => 0))), (q10, .inl (aI, 3000, .inl (fun _ => 0))), (q11, .inl (aI, 3000, .inl (fun _ => 0))), (q12, .inl (aL, 3001, .inr (.inl (fun _ => 0)))), (q13, .inl (aI, 3001, .inl (fun _ => 0))), (q14, .inl (aI, 3001, .inl (fun _ => 0)))] H := hP
      have hD : va_D A [(h0, .inr (5, [.ref q2, .ref q3, .int 0, .ref q7, .ref q8, .int 0, .ref q4, .ref q9, .ref q10, .ref q11, .ref q12, .ref q13, .ref nf, .int 0, .ref q5, .int 0, .ref nq])), (nx, .inl (aI, 0, .inl fx)), (nl, .inl (aI, 0, .inl fl)), (q2, .inl (aI, 3000, .inl (fun _ => 0))), (q3, .inl (aI, 3000, .inl (fun _ => 0))), (q4, .inl (aI, 3001, .inl (fun _ => 0))), (q5, .inl (aI, 3000, .inl (fun _ => 0))), (q7, .inl (aI, 1500, .inl (fun _ => 0))), (q8, .inl (aI, 1500, .inl (fun _ => 0))), (q9, .inl (aI, 3000, .inl (fun _ => 0))), (q10, .inl (aI, 3000, .inl (fun _ => 0))), (q11, .inl (aI, 3000, .inl (fun _ => 0))), (q12, .inl (aL, 3001, .inr (.inl (fun _ => 0)))), (q13, .inl (aI, 3001, .inl (fun _ => 0))), (q14, .inl (aI, 3001, .inl (fun _ => 0)))] := hD
      refine va_put (D := D) (ci := 5) (v := .ref q14) (ty := (.array .int)) (C := RX7) (T := TX7) (N := 17) hx hb hts n_X7_room_X7 tyX7 tyX7_ok nmX7 hown hK hP hD hS 0 rfl rfl 12 (by decide) (hts (.fieldLink RX7 41 "FaceMapModel$Net" "faceOf" "[I") (List.mem_of_getElem? (i := 14) rfl)) (fun _ h9 => h9) rfl (by decide +kernel) rfl rfl (Nat.le_of_ble_eq_true rfl) dX7_room_119 (fun H locs hP hD hS => ?_)
      have hP : va_P D q_cl [(h0, .inr (5, [.ref q2, .ref q3, .int 0, .ref q7, .ref q8, .int 0, .ref q4, .ref q9, .ref q10, .ref q11, .ref q12, .ref q13, .ref q14, .int 0, .ref q5, .int 0, .ref nq])), (nx, .inl (aI, 0, .inl fx)), (nl, .inl (aI, 0, .inl fl)), (q2, .inl (aI, 3000, .inl (fun _ => 0))), (q3, .inl (aI, 3000, .inl (fun _ => 0))), (q4, .inl (aI, 3001, .inl (fun _ => 0))), (q5, .inl (aI, 3000, .inl (fun _ => 0))), (q7, .inl (aI, 1500, .inl (fun _ => 0))), (q8, .inl (aI, 1500, .inl (fun _ => 0))), (q9, .inl (aI, 3000, .inl (fun _ => 0))), (q10, .inl (aI, 3000, .inl (fun _ => 0))), (q11, .inl (aI, 3000, .inl (fun _ => 0))), (q12, .inl (aL, 3001, .inr (.inl (fun _ => 0)))), (q13, .inl (aI, 3001, .inl (fun _ => 0))), (q14, .inl (aI, 3001, .inl (fun _ => 0)))] H := hP
      have hD : va_D A [(h0, .inr (5, [.ref q2, .ref q3, .int 0, .ref q7, .ref q8, .int 0, .ref q4, .ref q9, .ref q10, .ref q11, .ref q12, .ref q13, .ref q14, .int 0, .ref q5, .int 0, .ref nq])), (nx, .inl (aI, 0, .inl fx)), (nl, .inl (aI, 0, .inl fl)), (q2, .inl (aI, 3000, .inl (fun _ => 0))), (q3, .inl (aI, 3000, .inl (fun _ => 0))), (q4, .inl (aI, 3001, .inl (fun _ => 0))), (q5, .inl (aI, 3000, .inl (fun _ => 0))), (q7, .inl (aI, 1500, .inl (fun _ => 0))), (q8, .inl (aI, 1500, .inl (fun _ => 0))), (q9, .inl (aI, 3000, .inl (fun _ => 0))), (q10, .inl (aI, 3000, .inl (fun _ => 0))), (q11, .inl (aI, 3000, .inl (fun _ => 0))), (q12, .inl (aL, 3001, .inr (.inl (fun _ => 0)))), (q13, .inl (aI, 3001, .inl (fun _ => 0))), (q14, .inl (aI, 3001, .inl (fun _ => 0)))] := hD
      refine lv_aload_n hx hb dX7_room_122 rfl (lv_at hl 0 rfl) ?_
      refine lv_iconst (v := 2) hx hb dX7_room_123 (by decide) ?_
      refine lv_iload_n hx hb dX7_room_124 rfl (lv_at hl 2 rfl) ?_
      refine lv_imul hx hb dX7_room_125 ?_
      refine q_vi (v := 3000) (by decide) ?_
      refine lv_iconst (v := 1) hx hb dX7_room_126 (by decide) ?_
      refine lv_iadd hx hb dX7_room_127 ?_
      refine q_vi (v := 3001) (by decide) ?_
      refine q_newZ 3001 hx hb (hts (.arrayClass .boolean) (List.mem_of_getElem? (i := 15) rfl)) hK hP hD hS hA 2 rfl (by decide) (by decide) (by decide) (Nat.le_of_ble_eq_true rfl) (Nat.le_of_ble_eq_true rfl) dX7_room_128 (fun q15 H hP hD hS => ?_)
      have hP : va_P D q_cl [(h0, .inr (5, [.ref q2, .ref q3, .int 0, .ref q7, .ref q8, .int 0, .ref q4, .ref q9, .ref q10, .ref q11, .ref q12, .ref q13, .ref q14, .int 0, .ref q5, .int 0, .ref nq])), (nx, .inl (aI, 0, .inl fx)), (nl, .inl (aI, 0, .inl fl)), (q2, .inl (aI, 3000, .inl (fun _ => 0))), (q3, .inl (aI, 3000, .inl (fun _ => 0))), (q4, .inl (aI, 3001, .inl (fun _ => 0))), (q5, .inl (aI, 3000, .inl (fun _ => 0))), (q7, .inl (aI, 1500, .inl (fun _ => 0))), (q8, .inl (aI, 1500, .inl (fun _ => 0))), (q9, .inl (aI, 3000, .inl (fun _ => 0))), (q10, .inl (aI, 3000, .inl (fun _ => 0))), (q11, .inl (aI, 3000, .inl (fun _ => 0))), (q12, .inl (aL, 3001, .inr (.inl (fun _ => 0)))), (q13, .inl (aI, 3001, .inl (fun _ => 0))), (q14, .inl (aI, 3001, .inl (fun _ => 0))), (q15, .inl (aZ, 3001, .inl (fun _ => 0)))] H := hP
      have hD : va_D A [(h0, .inr (5, [.ref q2, .ref q3, .int 0, .ref q7, .ref q8, .int 0, .ref q4, .ref q9, .ref q10, .ref q11, .ref q12, .ref q13, .ref q14, .int 0, .ref q5, .int 0, .ref nq])), (nx, .inl (aI, 0, .inl fx)), (nl, .inl (aI, 0, .inl fl)), (q2, .inl (aI, 3000, .inl (fun _ => 0))), (q3, .inl (aI, 3000, .inl (fun _ => 0))), (q4, .inl (aI, 3001, .inl (fun _ => 0))), (q5, .inl (aI, 3000, .inl (fun _ => 0))), (q7, .inl (aI, 1500, .inl (fun _ => 0))), (q8, .inl (aI, 1500, .inl (fun _ => 0))), (q9, .inl (aI, 3000, .inl (fun _ => 0))), (q10, .inl (aI, 3000, .inl (fun _ => 0))), (q11, .inl (aI, 3000, .inl (fun _ => 0))), (q12, .inl (aL, 3001, .inr (.inl (fun _ => 0)))), (q13, .inl (aI, 3001, .inl (fun _ => 0))), (q14, .inl (aI, 3001, .inl (fun _ => 0))), (q15, .inl (aZ, 3001, .inl (fun _ => 0)))] := hD
      refine va_put (D := D) (ci := 5) (v := .ref q15) (ty := (.array .boolean)) (C := RX7) (T := TX7) (N := 17) hx hb hts n_X7_room_X7 tyX7 tyX7_ok nmX7 hown hK hP hD hS 0 rfl rfl 16 (by decide) (hts (.fieldLink RX7 47 "FaceMapModel$Net" "odd" "[Z") (List.mem_of_getElem? (i := 16) rfl)) (fun _ h9 => h9) rfl (by decide +kernel) rfl rfl (Nat.le_of_ble_eq_true rfl) dX7_room_130 (fun H locs hP hD hS => ?_)
      have hP : va_P D q_cl [(h0, .inr (5, [.ref q2, .ref q3, .int 0, .ref q7, .ref q8, .int 0, .ref q4, .ref q9, .ref q10, .ref q11, .ref q12, .ref q13, .ref q14, .int 0, .ref q5, .int 0, .ref q15])), (nx, .inl (aI, 0, .inl fx)), (nl, .inl (aI, 0, .inl fl)), (q2, .inl (aI, 3000, .inl (fun _ => 0))), (q3, .inl (aI, 3000, .inl (fun _ => 0))), (q4, .inl (aI, 3001, .inl (fun _ => 0))), (q5, .inl (aI, 3000, .inl (fun _ => 0))), (q7, .inl (aI, 1500, .inl (fun _ => 0))), (q8, .inl (aI, 1500, .inl (fun _ => 0))), (q9, .inl (aI, 3000, .inl (fun _ => 0))), (q10, .inl (aI, 3000, .inl (fun _ => 0))), (q11, .inl (aI, 3000, .inl (fun _ => 0))), (q12, .inl (aL, 3001, .inr (.inl (fun _ => 0)))), (q13, .inl (aI, 3001, .inl (fun _ => 0))), (q14, .inl (aI, 3001, .inl (fun _ => 0))), (q15, .inl (aZ, 3001, .inl (fun _ => 0)))] H := hP
      have hD : va_D A [(h0, .inr (5, [.ref q2, .ref q3, .int 0, .ref q7, .ref q8, .int 0, .ref q4, .ref q9, .ref q10, .ref q11, .ref q12, .ref q13, .ref q14, .int 0, .ref q5, .int 0, .ref q15])), (nx, .inl (aI, 0, .inl fx)), (nl, .inl (aI, 0, .inl fl)), (q2, .inl (aI, 3000, .inl (fun _ => 0))), (q3, .inl (aI, 3000, .inl (fun _ => 0))), (q4, .inl (aI, 3001, .inl (fun _ => 0))), (q5, .inl (aI, 3000, .inl (fun _ => 0))), (q7, .inl (aI, 1500, .inl (fun _ => 0))), (q8, .inl (aI, 1500, .inl (fun _ => 0))), (q9, .inl (aI, 3000, .inl (fun _ => 0))), (q10, .inl (aI, 3000, .inl (fun _ => 0))), (q11, .inl (aI, 3000, .inl (fun _ => 0))), (q12, .inl (aL, 3001, .inr (.inl (fun _ => 0)))), (q13, .inl (aI, 3001, .inl (fun _ => 0))), (q14, .inl (aI, 3001, .inl (fun _ => 0))), (q15, .inl (aZ, 3001, .inl (fun _ => 0)))] := hD
      have hP9 := hP.sub (ws' := [(h0, .inr (5, [.ref q2, .ref q3, .int 0, .ref q7, .ref q8, .int 0, .ref q4, .ref q9, .ref q10, .ref q11, .ref q12, .ref q13, .ref q14, .int 0, .ref q5, .int 0, .ref q15])), (q4, .inl (aI, 3001, .inl (fun _ => 0)))]) [0, 5] rfl
      have hD9 := hD.sub (ws' := [(h0, .inr (5, [.ref q2, .ref q3, .int 0, .ref q7, .ref q8, .int 0, .ref q4, .ref q9, .ref q10, .ref q11, .ref q12, .ref q13, .ref q14, .int 0, .ref q5, .int 0, .ref q15])), (q4, .inl (aI, 3001, .inl (fun _ => 0)))]) [0, 5] (by decide) rfl
      exact q_retv (q2, q3, q7, q8, q4, q9, q10, q11, q12, q13, q14, q5, q15) hx hb hr hlocks hK hP9 hD9 hS (Nat.le_of_ble_eq_true rfl) (Nat.le_of_ble_eq_true rfl) (trivial) dX7_room_133
def vsX7_sortOut : List Cond := .code yX7_sortOut cX7_sortOut 6 none :: ([.fieldLink RX7 67 "FaceMapModel$Net" "nodes" "I", .fieldLink RX7 22 "FaceMapModel$Net" "begins" "[I", .fieldLink RX7 71 "FaceMapModel$Net" "pieces" "I"] ++ wsX70)
set_option maxRecDepth 20000 in
theorem n_X7_sortOut_X7 : ∀ w ∈ wsX70, w ∈ vsX7_sortOut := fun _ h => List.mem_cons_of_mem _ (List.mem_append_right _ h)
set_option maxHeartbeats 4000000 in
set_option maxRecDepth 100000 in
/-- Net.sortOut of none -/
theorem c_X7_sortOut (l : Launch) (D : va_G) (aI aL aZ : ClassId) (h0 : Nat) (nx : Nat) (ny : Nat) (nl : Nat) (nh : Nat) (nb : Nat) (no : Nat) (nr : Nat) (nd : Nat) (na : Nat) (ns : Nat) (nf : Nat) (np : Nat) (nq : Nat) (fb : Nat → Int32) (sz : Nat) : MV l D q_cl (q_ty aI aL aZ) yX7_sortOut vsX7_sortOut 0 0 0 [.ref h0] [(h0, .inr (5, [.ref nx, .ref ny, .int 0, .ref nl, .ref nh, .int 0, .ref nb, .ref no, .ref nr, .ref nd, .ref na, .ref ns, .ref nf, .int 0, .ref np, .int 0, .ref nq])), (nb, .inl (aI, 3001, .inl fb))] sz (fun (u : Unit) => True) (fun (u : Unit) => [(h0, .inr (5, [.ref nx, .ref ny, .int 0, .ref nl, .ref nh, .int 0, .ref nb, .ref no, .ref nr, .ref nd, .ref na, .ref ns, .ref nf, .int 0, .ref np, .int 0, .ref nq]))]) := by
  refine q_in cX7_sortOut 6 none (qQv D q_cl (q_ty aI aL aZ) _ _) (by decide) rfl (Nat.le_of_ble_eq_true rfl) ?_
  intro p e s m args below meth c A ls hat hP hD hS hl
  obtain ⟨hx, hb, hr, hts, hown, hlocks, hml, hin, hK, hN, hA⟩ := hat
  have hown : s.vm.findClass RX7 = some m.cls := hown
  have hl : lv_has ls 6 [(0, .ref h0)] := hl
  refine lv_iconst (v := 0) hx hb dX7_sortOut_0 (by decide) ?_
  refine lv_istore_n (lv' := [(1, .int 0), (0, .ref h0)]) hx hb dX7_sortOut_1 rfl hl (by decide) rfl (fun ls hl => ?_)
  refine lv_iload_n hx hb dX7_sortOut_2 rfl (lv_at hl 0 rfl) ?_
  refine lv_aload_n hx hb dX7_sortOut_3 rfl (lv_at hl 1 rfl) ?_
  refine va_get (D := D) (ci := 5) (v := .int 0) (C := RX7) (T := TX7) (N := 17) hx hb hts n_X7_sortOut_X7 hown hK hP 0 rfl rfl 2 (by decide) (hts (.fieldLink RX7 67 "FaceMapModel$Net" "nodes" "I") (List.mem_of_getElem? (i := 1) rfl)) (fun _ h9 => h9) rfl dX7_sortOut_4 ?_
  refine lv_icmp_gt (tgt := 23) hx hb dX7_sortOut_7 (by decide) (fun c_1 => ?_) (fun c_1 => ?_)
  · exact absurd c_1 (by decide)
  · refine lv_aload_n hx hb dX7_sortOut_10 rfl (lv_at hl 1 rfl) ?_
    refine va_get (D := D) (ci := 5) (v := .ref nb) (C := RX7) (T := TX7) (N := 17) hx hb hts n_X7_sortOut_X7 hown hK hP 0 rfl rfl 6 (by decide) (hts (.fieldLink RX7 22 "FaceMapModel$Net" "begins" "[I") (List.mem_of_getElem? (i := 2) rfl)) (fun _ h9 => h9) rfl dX7_sortOut_11 ?_
    refine lv_iload_n hx hb dX7_sortOut_14 rfl (lv_at hl 0 rfl) ?_
    refine lv_iconst (v := 0) hx hb dX7_sortOut_15 (by decide) ?_
    refine va_iast hx hb hK hP hD hS 1 0 rfl rfl (q_ix 0 (by decide) (by decide) (by decide)) dX7_sortOut_16 (fun H locs hP hD hS => ?_)
    have hP : va_P D q_cl [(h0, .inr (5, [.ref nx, .ref ny, .int 0, .ref nl, .ref nh, .int 0, .ref nb, .ref no, .ref nr, .ref nd, .ref na, .ref ns, .ref nf, .int 0, .ref np, .int 0, .ref nq])), (nb, .inl (aI, 3001, .inl (upd fb 0 0)))] H := hP
    have hD : va_D A [(h0, .inr (5, [.ref nx, .ref ny, .int 0, .ref nl, .ref nh, .int 0, .ref nb, .ref no, .ref nr, .ref nd, .ref na, .ref ns, .ref nf, .int 0, .ref np, .int 0, .ref nq])), (nb, .inl (aI, 3001, .inl (upd fb 0 0)))] := hD
    refine lv_iinc (v := 1) (lv' := [(1, .int 1), (0, .ref h0)]) hx hb dX7_sortOut_17 hl (k := 0) rfl (by decide) (by decide) rfl (fun ls hl => ?_)
    refine lv_goto (tgt := 2) hx hb dX7_sortOut_20 (by decide) ?_
    refine lv_iload_n hx hb dX7_sortOut_2 rfl (lv_at hl 0 rfl) ?_
    refine lv_aload_n hx hb dX7_sortOut_3 rfl (lv_at hl 1 rfl) ?_
    refine va_get (D := D) (ci := 5) (v := .int 0) (C := RX7) (T := TX7) (N := 17) hx hb hts n_X7_sortOut_X7 hown hK hP 0 rfl rfl 2 (by decide) (hts (.fieldLink RX7 67 "FaceMapModel$Net" "nodes" "I") (List.mem_of_getElem? (i := 1) rfl)) (fun _ h9 => h9) rfl dX7_sortOut_4 ?_
    refine lv_icmp_gt (tgt := 23) hx hb dX7_sortOut_7 (by decide) (fun c_2 => ?_) (fun c_2 => ?_)
    · refine lv_iconst (v := 0) hx hb dX7_sortOut_23 (by decide) ?_
      refine lv_istore_n (lv' := [(1, .int 0), (0, .ref h0)]) hx hb dX7_sortOut_24 rfl hl (by decide) rfl (fun ls hl => ?_)
      refine lv_iload_n hx hb dX7_sortOut_25 rfl (lv_at hl 0 rfl) ?_
      refine lv_iconst (v := 2) hx hb dX7_sortOut_26 (by decide) ?_
      refine lv_aload_n hx hb dX7_sortOut_27 rfl (lv_at hl 1 rfl) ?_
      refine va_get (D := D) (ci := 5) (v := .int 0) (C := RX7) (T := TX7) (N := 17) hx hb hts n_X7_sortOut_X7 hown hK hP 0 rfl rfl 5 (by decide) (hts (.fieldLink RX7 71 "FaceMapModel$Net" "pieces" "I") (List.mem_of_getElem? (i := 3) rfl)) (fun _ h9 => h9) rfl dX7_sortOut_28 ?_
      refine lv_imul hx hb dX7_sortOut_31 ?_
      refine q_vi (v := 0) (by decide) ?_
      refine lv_icmp_ge (tgt := 55) hx hb dX7_sortOut_32 (by decide) (fun c_3 => ?_) (fun c_3 => ?_)
      · refine lv_iconst (v := 0) hx hb dX7_sortOut_55 (by decide) ?_
        refine lv_istore_n (lv' := [(1, .int 0), (0, .ref h0)]) hx hb dX7_sortOut_56 rfl hl (by decide) rfl (fun ls hl => ?_)
        refine lv_iconst (v := 0) hx hb dX7_sortOut_57 (by decide) ?_
        refine lv_istore_n (lv' := [(2, .int 0), (1, .int 0), (0, .ref h0)]) hx hb dX7_sortOut_58 rfl hl (by decide) rfl (fun ls hl => ?_)
        refine lv_iload_n hx hb dX7_sortOut_59 rfl (lv_at hl 0 rfl) ?_
        refine lv_aload_n hx hb dX7_sortOut_60 rfl (lv_at hl 2 rfl) ?_
        refine va_get (D := D) (ci := 5) (v := .int 0) (C := RX7) (T := TX7) (N := 17) hx hb hts n_X7_sortOut_X7 hown hK hP 0 rfl rfl 2 (by decide) (hts (.fieldLink RX7 67 "FaceMapModel$Net" "nodes" "I") (List.mem_of_getElem? (i := 1) rfl)) (fun _ h9 => h9) rfl dX7_sortOut_61 ?_
        refine lv_icmp_gt (tgt := 103) hx hb dX7_sortOut_64 (by decide) (fun c_4 => ?_) (fun c_4 => ?_)
        · exact absurd c_4 (by decide)
        · refine lv_iload_n hx hb dX7_sortOut_67 rfl (lv_at hl 0 rfl) ?_
          refine lv_aload_n hx hb dX7_sortOut_68 rfl (lv_at hl 2 rfl) ?_
          refine va_get (D := D) (ci := 5) (v := .int 0) (C := RX7) (T := TX7) (N := 17) hx hb hts n_X7_sortOut_X7 hown hK hP 0 rfl rfl 2 (by decide) (hts (.fieldLink RX7 67 "FaceMapModel$Net" "nodes" "I") (List.mem_of_getElem? (i := 1) rfl)) (fun _ h9 => h9) rfl dX7_sortOut_69 ?_
          refine lv_icmp_ge (tgt := 84) hx hb dX7_sortOut_72 (by decide) (fun c_5 => ?_) (fun c_5 => ?_)
          · refine lv_iconst (v := 0) hx hb dX7_sortOut_84 (by decide) ?_
            refine lv_istore_n (lv' := [(3, .int 0), (2, .int 0), (1, .int 0), (0, .ref h0)]) hx hb dX7_sortOut_85 rfl hl (by decide) rfl (fun ls hl => ?_)
            refine lv_aload_n hx hb dX7_sortOut_86 rfl (lv_at hl 3 rfl) ?_
            refine va_get (D := D) (ci := 5) (v := .ref nb) (C := RX7) (T := TX7) (N := 17) hx hb hts n_X7_sortOut_X7 hown hK hP 0 rfl rfl 6 (by decide) (hts (.fieldLink RX7 22 "FaceMapModel$Net" "begins" "[I") (List.mem_of_getElem? (i := 2) rfl)) (fun _ h9 => h9) rfl dX7_sortOut_87 ?_
            refine lv_iload_n hx hb dX7_sortOut_90 rfl (lv_at hl 1 rfl) ?_
            refine lv_iload_n hx hb dX7_sortOut_91 rfl (lv_at hl 2 rfl) ?_
            refine va_iast hx hb hK hP hD hS 1 0 rfl rfl (q_ix 0 (by decide) (by decide) (by decide)) dX7_sortOut_92 (fun H locs hP hD hS => ?_)
            have hP : va_P D q_cl [(h0, .inr (5, [.ref nx, .ref ny, .int 0, .ref nl, .ref nh, .int 0, .ref nb, .ref no, .ref nr, .ref nd, .ref na, .ref ns, .ref nf, .int 0, .ref np, .int 0, .ref nq])), (nb, .inl (aI, 3001, .inl (upd (upd fb 0 0) 0 0)))] H := hP
            have hD : va_D A [(h0, .inr (5, [.ref nx, .ref ny, .int 0, .ref nl, .ref nh, .int 0, .ref nb, .ref no, .ref nr, .ref nd, .ref na, .ref ns, .ref nf, .int 0, .ref np, .int 0, .ref nq])), (nb, .inl (aI, 3001, .inl (upd (upd fb 0 0) 0 0)))] := hD
            refine lv_iload_n hx hb dX7_sortOut_93 rfl (lv_at hl 2 rfl) ?_
            refine lv_iload_n hx hb dX7_sortOut_94 rfl (lv_at hl 0 rfl) ?_
            refine lv_iadd hx hb dX7_sortOut_95 ?_
            refine q_vi (v := 0) (by decide) ?_
            refine lv_istore_n (lv' := [(1, .int 0), (3, .int 0), (2, .int 0), (0, .ref h0)]) hx hb dX7_sortOut_96 rfl hl (by decide) rfl (fun ls hl => ?_)
            refine lv_iinc (v := 1) (lv' := [(2, .int 1), (1, .int 0), (3, .int 0), (0, .ref h0)]) hx hb dX7_sortOut_97 hl (k := 2) rfl (by decide) (by decide) rfl (fun ls hl => ?_)
            refine lv_goto (tgt := 59) hx hb dX7_sortOut_100 (by decide) ?_
            refine lv_iload_n hx hb dX7_sortOut_59 rfl (lv_at hl 0 rfl) ?_
            refine lv_aload_n hx hb dX7_sortOut_60 rfl (lv_at hl 3 rfl) ?_
            refine va_get (D := D) (ci := 5) (v := .int 0) (C := RX7) (T := TX7) (N := 17) hx hb hts n_X7_sortOut_X7 hown hK hP 0 rfl rfl 2 (by decide) (hts (.fieldLink RX7 67 "FaceMapModel$Net" "nodes" "I") (List.mem_of_getElem? (i := 1) rfl)) (fun _ h9 => h9) rfl dX7_sortOut_61 ?_
            refine lv_icmp_gt (tgt := 103) hx hb dX7_sortOut_64 (by decide) (fun c_6 => ?_) (fun c_6 => ?_)
            · refine lv_iconst (v := 0) hx hb dX7_sortOut_103 (by decide) ?_
              refine lv_istore_n (lv' := [(2, .int 0), (1, .int 0), (3, .int 0), (0, .ref h0)]) hx hb dX7_sortOut_104 rfl hl (by decide) rfl (fun ls hl => ?_)
              refine lv_iload_n hx hb dX7_sortOut_105 rfl (lv_at hl 0 rfl) ?_
              refine lv_iconst (v := 2) hx hb dX7_sortOut_106 (by decide) ?_
              refine lv_aload_n hx hb dX7_sortOut_107 rfl (lv_at hl 3 rfl) ?_
              refine va_get (D := D) (ci := 5) (v := .int 0) (C := RX7) (T := TX7) (N := 17) hx hb hts n_X7_sortOut_X7 hown hK hP 0 rfl rfl 5 (by decide) (hts (.fieldLink RX7 71 "FaceMapModel$Net" "pieces" "I") (List.mem_of_getElem? (i := 3) rfl)) (fun _ h9 => h9) rfl dX7_sortOut_108 ?_
              refine lv_imul hx hb dX7_sortOut_111 ?_
              refine q_vi (v := 0) (by decide) ?_
              refine lv_icmp_ge (tgt := 128) hx hb dX7_sortOut_112 (by decide) (fun c_7 => ?_) (fun c_7 => ?_)
              · refine lv_iconst (v := 0) hx hb dX7_sortOut_128 (by decide) ?_
                refine lv_istore_n (lv' := [(2, .int 0), (1, .int 0), (3, .int 0), (0, .ref h0)]) hx hb dX7_sortOut_129 rfl hl (by decide) rfl (fun ls hl => ?_)
                refine lv_iload_n hx hb dX7_sortOut_130 rfl (lv_at hl 0 rfl) ?_
                refine lv_iconst (v := 2) hx hb dX7_sortOut_131 (by decide) ?_
                refine lv_aload_n hx hb dX7_sortOut_132 rfl (lv_at hl 3 rfl) ?_
                refine va_get (D := D) (ci := 5) (v := .int 0) (C := RX7) (T := TX7) (N := 17) hx hb hts n_X7_sortOut_X7 hown hK hP 0 rfl rfl 5 (by decide) (hts (.fieldLink RX7 71 "FaceMapModel$Net" "pieces" "I") (List.mem_of_getElem? (i := 3) rfl)) (fun _ h9 => h9) rfl dX7_sortOut_133 ?_
                refine lv_imul hx hb dX7_sortOut_136 ?_
                refine q_vi (v := 0) (by decide) ?_
                refine lv_icmp_ge (tgt := 220) hx hb dX7_sortOut_137 (by decide) (fun c_8 => ?_) (fun c_8 => ?_)
                · refine lv_iconst (v := 0) hx hb dX7_sortOut_220 (by decide) ?_
                  refine lv_istore_n (lv' := [(2, .int 0), (1, .int 0), (3, .int 0), (0, .ref h0)]) hx hb dX7_sortOut_221 rfl hl (by decide) rfl (fun ls hl => ?_)
                  refine lv_iload_n hx hb dX7_sortOut_222 rfl (lv_at hl 0 rfl) ?_
                  refine lv_iconst (v := 2) hx hb dX7_sortOut_223 (by decide) ?_
                  refine lv_aload_n hx hb dX7_sortOut_224 rfl (lv_at hl 3 rfl) ?_
                  refine va_get (D := D) (ci := 5) (v := .int 0) (C := RX7) (T := TX7) (N := 17) hx hb hts n_X7_sortOut_X7 hown hK hP 0 rfl rfl 5 (by decide) (hts (.fieldLink RX7 71 "FaceMapModel$Net" "pieces" "I") (List.mem_of_getElem? (i := 3) rfl)) (fun _ h9 => h9) rfl dX7_sortOut_225 ?_
                  refine lv_imul hx hb dX7_sortOut_228 ?_
                  refine q_vi (v := 0) (by decide) ?_
                  refine lv_icmp_ge (tgt := 250) hx hb dX7_sortOut_229 (by decide) (fun c_9 => ?_) (fun c_9 => ?_)
                  · have hP9 := hP.sub (ws' := [(h0, .inr (5, [.ref nx, .ref ny, .int 0, .ref nl, .ref nh, .int 0, .ref nb, .ref no, .ref nr, .ref nd, .ref na, .ref ns, .ref nf, .int 0, .ref np, .int 0, .ref nq]))]) [0] rfl
                    have hD9 := hD.sub (ws' := [(h0, .inr (5, [.ref nx, .ref ny, .int 0, .ref nl, .ref nh, .int 0, .ref nb, .ref no, .ref nr, .ref nd, .ref na, .ref ns, .ref nf, .int 0, .ref np, .int 0, .ref nq]))]) [0] (by decide) rfl
                    exact q_retv () hx hb hr hlocks hK hP9 hD9 hS (Nat.le_of_ble_eq_true rfl) (Nat.le_of_ble_eq_true rfl) (trivial) dX7_sortOut_250
                  · exact absurd c_9 (by decide)
                · exact absurd c_8 (by decide)
              · exact absurd c_7 (by decide)
            · exact absurd c_6 (by decide)
          · exact absurd c_5 (by decide)
      · exact absurd c_3 (by decide)
    · exact absurd c_2 (by decide)
def vsX7_number : List Cond := .code yX7_number cX7_number 5 none :: ([.fieldLink RX7 107 "FaceMapModel$Net" "faces" "I", .fieldLink RX7 87 "FaceMapModel$Net" "rounds" "I"] ++ wsX70)
set_option maxRecDepth 20000 in
theorem n_X7_number_X7 : ∀ w ∈ wsX70, w ∈ vsX7_number := fun _ h => List.mem_cons_of_mem _ (List.mem_append_right _ h)
set_option maxHeartbeats 4000000 in
set_option maxRecDepth 100000 in
/-- Net.number of none -/
theorem c_X7_number (l : Launch) (D : va_G) (aI aL aZ : ClassId) (h0 : Nat) (nx : Nat) (ny : Nat) (nl : Nat) (nh : Nat) (nb : Nat) (no : Nat) (nr : Nat) (nd : Nat) (na : Nat) (ns : Nat) (nf : Nat) (np : Nat) (nq : Nat) (sz : Nat) : MV l D q_cl (q_ty aI aL aZ) yX7_number vsX7_number 0 0 0 [.ref h0] [(h0, .inr (5, [.ref nx, .ref ny, .int 0, .ref nl, .ref nh, .int 0, .ref nb, .ref no, .ref nr, .ref nd, .ref na, .ref ns, .ref nf, .int 0, .ref np, .int 0, .ref nq]))] sz (fun (u : Unit) => True) (fun (u : Unit) => [(h0, .inr (5, [.ref nx, .ref ny, .int 0, .ref nl, .ref nh, .int 0, .ref nb, .ref no, .ref nr, .ref nd, .ref na, .ref ns, .ref nf, .int 0, .ref np, .int 1, .ref nq]))]) := by
  refine q_in cX7_number 5 none (qQv D q_cl (q_ty aI aL aZ) _ _) (by decide) rfl (Nat.le_of_ble_eq_true rfl) ?_
  intro p e s m args below meth c A ls hat hP hD hS hl
  obtain ⟨hx, hb, hr, hts, hown, hlocks, hml, hin, hK, hN, hA⟩ := hat
  have hown : s.vm.findClass RX7 = some m.cls := hown
  have hl : lv_has ls 5 [(0, .ref h0)] := hl
  refine lv_aload_n hx hb dX7_number_0 rfl (lv_at hl 0 rfl) ?_
  refine lv_iconst (v := 1) hx hb dX7_number_1 (by decide) ?_
  refine va_put (D := D) (ci := 5) (v := .int 1) (ty := .int) (C := RX7) (T := TX7) (N := 17) hx hb hts n_X7_number_X7 tyX7 tyX7_ok nmX7 hown hK hP hD hS 0 rfl rfl 15 (by decide) (hts (.fieldLink RX7 107 "FaceMapModel$Net" "faces" "I") (List.mem_of_getElem? (i := 1) rfl)) (fun _ h9 => h9) rfl (by decide +kernel) rfl rfl (Nat.le_of_ble_eq_true rfl) dX7_number_2 (fun H locs hP hD hS => ?_)
  have hP : va_P D q_cl [(h0, .inr (5, [.ref nx, .ref ny, .int 0, .ref nl, .ref nh, .int 0, .ref nb, .ref no, .ref nr, .ref nd, .ref na, .ref ns, .ref nf, .int 0, .ref np, .int 1, .ref nq]))] H := hP
  have hD : va_D A [(h0, .inr (5, [.ref nx, .ref ny, .int 0, .ref nl, .ref nh, .int 0, .ref nb, .ref no, .ref nr, .ref nd, .ref na, .ref ns, .ref nf, .int 0, .ref np, .int 1, .ref nq]))] := hD
  refine lv_iconst (v := (-1)) hx hb dX7_number_5 (by decide) ?_
  refine lv_istore_n (lv' := [(1, .int (-1)), (0, .ref h0)]) hx hb dX7_number_6 rfl hl (by decide) rfl (fun ls hl => ?_)
  refine lv_iconst (v := 1) hx hb dX7_number_7 (by decide) ?_
  refine lv_istore_n (lv' := [(2, .int 1), (1, .int (-1)), (0, .ref h0)]) hx hb dX7_number_8 rfl hl (by decide) rfl (fun ls hl => ?_)
  refine lv_iload_n hx hb dX7_number_9 rfl (lv_at hl 0 rfl) ?_
  refine lv_if_eq (tgt := 141) hx hb dX7_number_10 (by decide) (fun c_1 => ?_) (fun c_1 => ?_)
  · exact absurd c_1 (by decide)
  · refine lv_iconst (v := (-1)) hx hb dX7_number_13 (by decide) ?_
    refine lv_istore_n (lv' := [(3, .int (-1)), (2, .int 1), (1, .int (-1)), (0, .ref h0)]) hx hb dX7_number_14 rfl hl (by decide) rfl (fun ls hl => ?_)
    refine lv_iconst (v := 0) hx hb dX7_number_15 (by decide) ?_
    refine lv_istore (lv' := [(4, .int 0), (3, .int (-1)), (2, .int 1), (1, .int (-1)), (0, .ref h0)]) hx hb dX7_number_16 hl (by decide) rfl (fun ls hl => ?_)
    refine lv_iload hx hb dX7_number_18 (lv_at hl 0 rfl) ?_
    refine lv_aload_n hx hb dX7_number_20 rfl (lv_at hl 4 rfl) ?_
    refine va_get (D := D) (ci := 5) (v := .int 0) (C := RX7) (T := TX7) (N := 17) hx hb hts n_X7_number_X7 hown hK hP 0 rfl rfl 13 (by decide) (hts (.fieldLink RX7 87 "FaceMapModel$Net" "rounds" "I") (List.mem_of_getElem? (i := 2) rfl)) (fun _ h9 => h9) rfl dX7_number_21 ?_
    refine lv_icmp_ge (tgt := 99) hx hb dX7_number_24 (by decide) (fun c_2 => ?_) (fun c_2 => ?_)
    · refine lv_iload_n hx hb dX7_number_99 rfl (lv_at hl 1 rfl) ?_
      refine lv_if_lt (tgt := 107) hx hb dX7_number_100 (by decide) (fun c_3 => ?_) (fun c_3 => ?_)
      · refine lv_iconst (v := 0) hx hb dX7_number_107 (by decide) ?_
        refine lv_istore_n (lv' := [(2, .int 0), (4, .int 0), (3, .int (-1)), (1, .int (-1)), (0, .ref h0)]) hx hb dX7_number_108 rfl hl (by decide) rfl (fun ls hl => ?_)
        refine lv_iload_n hx hb dX7_number_109 rfl (lv_at hl 0 rfl) ?_
        refine lv_if_ne (tgt := 116) hx hb dX7_number_110 (by decide) (fun c_4 => ?_) (fun c_4 => ?_)
        · exact absurd c_4 (by decide)
        · refine lv_goto (tgt := 9) hx hb dX7_number_113 (by decide) ?_
          refine lv_iload_n hx hb dX7_number_9 rfl (lv_at hl 0 rfl) ?_
          refine lv_if_eq (tgt := 141) hx hb dX7_number_10 (by decide) (fun c_5 => ?_) (fun c_5 => ?_)
          · have hP9 := hP.sub (ws' := [(h0, .inr (5, [.ref nx, .ref ny, .int 0, .ref nl, .ref nh, .int 0, .ref nb, .ref no, .ref nr, .ref nd, .ref na, .ref ns, .ref nf, .int 0, .ref np, .int 1, .ref nq]))]) [0] rfl
            have hD9 := hD.sub (ws' := [(h0, .inr (5, [.ref nx, .ref ny, .int 0, .ref nl, .ref nh, .int 0, .ref nb, .ref no, .ref nr, .ref nd, .ref na, .ref ns, .ref nf, .int 0, .ref np, .int 1, .ref nq]))]) [0] (by decide) rfl
            exact q_retv () hx hb hr hlocks hK hP9 hD9 hS (Nat.le_of_ble_eq_true rfl) (Nat.le_of_ble_eq_true rfl) (trivial) dX7_number_141
          · exact absurd c_5 (by decide)
      · exact absurd c_3 (by decide)
    · exact absurd c_2 (by decide)
def vsX7_build : List Cond := .code yX7_build cX7_build 2 none :: ([.fieldLink RX7 67 "FaceMapModel$Net" "nodes" "I", .fieldLink RX7 71 "FaceMapModel$Net" "pieces" "I", .fieldLink RX7 87 "FaceMapModel$Net" "rounds" "I", .methodLink RX7 81 yX7_sortOut, .instanceMethod yX7_sortOut, .selects RX7 yX7_sortOut yX7_sortOut, .initialized RX7, .code yX7_sortOut cX7_sortOut 6 none, .fieldLink RX7 22 "FaceMapModel$Net" "begins" "[I", .methodLink RX7 94 yX7_number, .instanceMethod yX7_number, .selects RX7 yX7_number yX7_number, .code yX7_number cX7_number 5 none, .fieldLink RX7 107 "FaceMapModel$Net" "faces" "I"] ++ wsX70)
set_option maxRecDepth 20000 in
theorem g_X7_build_X7_sortOut_81 : GoodIn vsX7_build (wsV RX7 81 RX7 yX7_sortOut vsX7_sortOut) := goodIn_r _ [4, 5, 6, 7, 8, 1, 9, 2, 15, 16, 17, 18, 19, 20, 21, 22, 23, 24, 25, 26, 27, 28, 29, 30, 31] rfl (by decide +kernel)
set_option maxRecDepth 20000 in
theorem n_X7_build_X7 : ∀ w ∈ wsX70, w ∈ vsX7_build := fun _ h => List.mem_cons_of_mem _ (List.mem_append_right _ h)
set_option maxRecDepth 20000 in
theorem g_X7_build_X7_number_94 : GoodIn vsX7_build (wsV RX7 94 RX7 yX7_number vsX7_number) := goodIn_r _ [10, 11, 12, 7, 13, 14, 3, 15, 16, 17, 18, 19, 20, 21, 22, 23, 24, 25, 26, 27, 28, 29, 30, 31] rfl (by decide +kernel)
set_option maxHeartbeats 4000000 in
set_option maxRecDepth 100000 in
/-- Net.build of none -/
theorem c_X7_build (l : Launch) (D : va_G) (aI aL aZ : ClassId) (h0 : Nat) (nx : Nat) (ny : Nat) (nl : Nat) (nh : Nat) (nb : Nat) (no : Nat) (nr : Nat) (nd : Nat) (na : Nat) (ns : Nat) (nf : Nat) (np : Nat) (nq : Nat) (fb : Nat → Int32) (sz : Nat) : MV l D q_cl (q_ty aI aL aZ) yX7_build vsX7_build 1 0 0 [.ref h0] [(h0, .inr (5, [.ref nx, .ref ny, .int 0, .ref nl, .ref nh, .int 0, .ref nb, .ref no, .ref nr, .ref nd, .ref na, .ref ns, .ref nf, .int 0, .ref np, .int 0, .ref nq])), (nb, .inl (aI, 3001, .inl fb))] sz (fun (u : Unit) => True) (fun (u : Unit) => [(h0, .inr (5, [.ref nx, .ref ny, .int 0, .ref nl, .ref nh, .int 0, .ref nb, .ref no, .ref nr, .ref nd, .ref na, .ref ns, .ref nf, .int 0, .ref np, .int 1, .ref nq]))]) := by
  refine q_in cX7_build 2 none (qQv D q_cl (q_ty aI aL aZ) _ _) (by decide) rfl (Nat.le_of_ble_eq_true rfl) ?_
  intro p e s m args below meth c A ls hat hP hD hS hl
  obtain ⟨hx, hb, hr, hts, hown, hlocks, hml, hin, hK, hN, hA⟩ := hat
  have hown : s.vm.findClass RX7 = some m.cls := hown
  have hl : lv_has ls 2 [(0, .ref h0)] := hl
  refine lv_aload_n hx hb dX7_build_0 rfl (lv_at hl 0 rfl) ?_
  refine q_v (wr := []) (q_runV (As := []) (rest := []) ⟨hx, hb, hml, hown, hts⟩ (c_X7_sortOut l D aI aL aZ h0 nx ny nl nh nb no nr nd na ns nf np nq fb _) (cwV 0 hts g_X7_build_X7_sortOut_81 rfl rfl rfl (by decide +kernel) ⟨Nat.le_of_ble_eq_true rfl, Nat.le_of_ble_eq_true rfl⟩) hK hN hP hD [0, 1] rfl (by decide) rfl rfl rfl hl.1 rfl (Nat.le_of_ble_eq_true rfl) dX7_build_1 ⟨Nat.le_of_ble_eq_true rfl, Nat.le_of_ble_eq_true rfl⟩) hP hD hS hA [0, 1] [] rfl rfl (by decide) (by decide) (fun u_1 H locs hw hP hD hS => ?_)
  have hP : va_P D q_cl [(h0, .inr (5, [.ref nx, .ref ny, .int 0, .ref nl, .ref nh, .int 0, .ref nb, .ref no, .ref nr, .ref nd, .ref na, .ref ns, .ref nf, .int 0, .ref np, .int 0, .ref nq]))] H := hP
  have hD : va_D A [(h0, .inr (5, [.ref nx, .ref ny, .int 0, .ref nl, .ref nh, .int 0, .ref nb, .ref no, .ref nr, .ref nd, .ref na, .ref ns, .ref nf, .int 0, .ref np, .int 0, .ref nq]))] := hD
  refine lv_iconst (v := 0) hx hb dX7_build_4 (by decide) ?_
  refine lv_istore_n (lv' := [(1, .int 0), (0, .ref h0)]) hx hb dX7_build_5 rfl hl (by decide) rfl (fun ls hl => ?_)
  refine lv_iload_n hx hb dX7_build_6 rfl (lv_at hl 0 rfl) ?_
  refine lv_aload_n hx hb dX7_build_7 rfl (lv_at hl 1 rfl) ?_
  refine va_get (D := D) (ci := 5) (v := .int 0) (C := RX7) (T := TX7) (N := 17) hx hb hts n_X7_build_X7 hown hK hP 0 rfl rfl 2 (by decide) (hts (.fieldLink RX7 67 "FaceMapModel$Net" "nodes" "I") (List.mem_of_getElem? (i := 1) rfl)) (fun _ h9 => h9) rfl dX7_build_8 ?_
  refine lv_icmp_ge (tgt := 27) hx hb dX7_build_11 (by decide) (fun c_2 => ?_) (fun c_2 => ?_)
  · refine lv_iconst (v := 0) hx hb dX7_build_27 (by decide) ?_
    refine lv_istore_n (lv' := [(1, .int 0), (0, .ref h0)]) hx hb dX7_build_28 rfl hl (by decide) rfl (fun ls hl => ?_)
    refine lv_iload_n hx hb dX7_build_29 rfl (lv_at hl 0 rfl) ?_
    refine lv_aload_n hx hb dX7_build_30 rfl (lv_at hl 1 rfl) ?_
    refine va_get (D := D) (ci := 5) (v := .int 0) (C := RX7) (T := TX7) (N := 17) hx hb hts n_X7_build_X7 hown hK hP 0 rfl rfl 5 (by decide) (hts (.fieldLink RX7 71 "FaceMapModel$Net" "pieces" "I") (List.mem_of_getElem? (i := 2) rfl)) (fun _ h9 => h9) rfl dX7_build_31 ?_
    refine lv_icmp_ge (tgt := 68) hx hb dX7_build_34 (by decide) (fun c_3 => ?_) (fun c_3 => ?_)
    · refine lv_iconst (v := 0) hx hb dX7_build_68 (by decide) ?_
      refine lv_istore_n (lv' := [(1, .int 0), (0, .ref h0)]) hx hb dX7_build_69 rfl hl (by decide) rfl (fun ls hl => ?_)
      refine lv_iload_n hx hb dX7_build_70 rfl (lv_at hl 0 rfl) ?_
      refine lv_aload_n hx hb dX7_build_71 rfl (lv_at hl 1 rfl) ?_
      refine va_get (D := D) (ci := 5) (v := .int 0) (C := RX7) (T := TX7) (N := 17) hx hb hts n_X7_build_X7 hown hK hP 0 rfl rfl 2 (by decide) (hts (.fieldLink RX7 67 "FaceMapModel$Net" "nodes" "I") (List.mem_of_getElem? (i := 1) rfl)) (fun _ h9 => h9) rfl dX7_build_72 ?_
      refine lv_icmp_ge (tgt := 95) hx hb dX7_build_75 (by decide) (fun c_4 => ?_) (fun c_4 => ?_)
      · refine lv_aload_n hx hb dX7_build_95 rfl (lv_at hl 1 rfl) ?_
        refine lv_iconst (v := 0) hx hb dX7_build_96 (by decide) ?_
        refine va_put (D := D) (ci := 5) (v := .int 0) (ty := .int) (C := RX7) (T := TX7) (N := 17) hx hb hts n_X7_build_X7 tyX7 tyX7_ok nmX7 hown hK hP hD hS 0 rfl rfl 13 (by decide) (hts (.fieldLink RX7 87 "FaceMapModel$Net" "rounds" "I") (List.mem_of_getElem? (i := 3) rfl)) (fun _ h9 => h9) rfl (by decide +kernel) rfl rfl (Nat.le_of_ble_eq_true rfl) dX7_build_97 (fun H locs hP hD hS => ?_)
        have hP : va_P D q_cl [(h0, .inr (5, [.ref nx, .ref ny, .int 0, .ref nl, .ref nh, .int 0, .ref nb, .ref no, .ref nr, .ref nd, .ref na, .ref ns, .ref nf, .int 0, .ref np, .int 0, .ref nq]))] H := hP
        have hD : va_D A [(h0, .inr (5, [.ref nx, .ref ny, .int 0, .ref nl, .ref nh, .int 0, .ref nb, .ref no, .ref nr, .ref nd, .ref na, .ref ns, .ref nf, .int 0, .ref np, .int 0, .ref nq]))] := hD
        refine lv_iconst (v := 0) hx hb dX7_build_100 (by decide) ?_
        refine lv_istore_n (lv' := [(1, .int 0), (0, .ref h0)]) hx hb dX7_build_101 rfl hl (by decide) rfl (fun ls hl => ?_)
        refine lv_iload_n hx hb dX7_build_102 rfl (lv_at hl 0 rfl) ?_
        refine lv_iconst (v := 2) hx hb dX7_build_103 (by decide) ?_
        refine lv_aload_n hx hb dX7_build_104 rfl (lv_at hl 1 rfl) ?_
        refine va_get (D := D) (ci := 5) (v := .int 0) (C := RX7) (T := TX7) (N := 17) hx hb hts n_X7_build_X7 hown hK hP 0 rfl rfl 5 (by decide) (hts (.fieldLink RX7 71 "FaceMapModel$Net" "pieces" "I") (List.mem_of_getElem? (i := 2) rfl)) (fun _ h9 => h9) rfl dX7_build_105 ?_
        refine lv_imul hx hb dX7_build_108 ?_
        refine q_vi (v := 0) (by decide) ?_
        refine lv_icmp_ge (tgt := 125) hx hb dX7_build_109 (by decide) (fun c_5 => ?_) (fun c_5 => ?_)
        · refine lv_iconst (v := 0) hx hb dX7_build_125 (by decide) ?_
          refine lv_istore_n (lv' := [(1, .int 0), (0, .ref h0)]) hx hb dX7_build_126 rfl hl (by decide) rfl (fun ls hl => ?_)
          refine lv_iload_n hx hb dX7_build_127 rfl (lv_at hl 0 rfl) ?_
          refine lv_iconst (v := 2) hx hb dX7_build_128 (by decide) ?_
          refine lv_aload_n hx hb dX7_build_129 rfl (lv_at hl 1 rfl) ?_
          refine va_get (D := D) (ci := 5) (v := .int 0) (C := RX7) (T := TX7) (N := 17) hx hb hts n_X7_build_X7 hown hK hP 0 rfl rfl 5 (by decide) (hts (.fieldLink RX7 71 "FaceMapModel$Net" "pieces" "I") (List.mem_of_getElem? (i := 2) rfl)) (fun _ h9 => h9) rfl dX7_build_130 ?_
          refine lv_imul hx hb dX7_build_133 ?_
          refine q_vi (v := 0) (by decide) ?_
          refine lv_icmp_ge (tgt := 157) hx hb dX7_build_134 (by decide) (fun c_6 => ?_) (fun c_6 => ?_)
          · refine lv_aload_n hx hb dX7_build_157 rfl (lv_at hl 1 rfl) ?_
            refine q_v (wr := []) (q_runV (As := []) (rest := []) ⟨hx, hb, hml, hown, hts⟩ (c_X7_number l D aI aL aZ h0 nx ny nl nh nb no nr nd na ns nf np nq _) (cwV 0 hts g_X7_build_X7_number_94 rfl rfl rfl (by decide +kernel) ⟨Nat.le_of_ble_eq_true rfl, Nat.le_of_ble_eq_true rfl⟩) hK hN hP hD [0] rfl (by decide) rfl rfl rfl hl.1 rfl (Nat.le_of_ble_eq_true rfl) dX7_build_158 ⟨Nat.le_of_ble_eq_true rfl, Nat.le_of_ble_eq_true rfl⟩) hP hD hS hA [0] [] rfl rfl (by decide) (by decide) (fun u_7 H locs hw hP hD hS => ?_)
            have hP : va_P D q_cl [(h0, .inr (5, [.ref nx, .ref ny, .int 0, .ref nl, .ref nh, .int 0, .ref nb, .ref no, .ref nr, .ref nd, .ref na, .ref ns, .ref nf, .int 0, .ref np, .int 1, .ref nq]))] H := hP
            have hD : va_D A [(h0, .inr (5, [.ref nx, .ref ny, .int 0, .ref nl, .ref nh, .int 0, .ref nb, .ref no, .ref nr, .ref nd, .ref na, .ref ns, .ref nf, .int 0, .ref np, .int 1, .ref nq]))] := hD
            refine lv_iconst (v := 0) hx hb dX7_build_161 (by decide) ?_
            refine lv_istore_n (lv' := [(1, .int 0), (0, .ref h0)]) hx hb dX7_build_162 rfl hl (by decide) rfl (fun ls hl => ?_)
            refine lv_iload_n hx hb dX7_build_163 rfl (lv_at hl 0 rfl) ?_
            refine lv_aload_n hx hb dX7_build_164 rfl (lv_at hl 1 rfl) ?_
            refine va_get (D := D) (ci := 5) (v := .int 0) (C := RX7) (T := TX7) (N := 17) hx hb hts n_X7_build_X7 hown hK hP 0 rfl rfl 13 (by decide) (hts (.fieldLink RX7 87 "FaceMapModel$Net" "rounds" "I") (List.mem_of_getElem? (i := 3) rfl)) (fun _ h9 => h9) rfl dX7_build_165 ?_
            refine lv_icmp_ge (tgt := 223) hx hb dX7_build_168 (by decide) (fun c_8 => ?_) (fun c_8 => ?_)
            · have hP9 := hP.sub (ws' := [(h0, .inr (5, [.ref nx, .ref ny, .int 0, .ref nl, .ref nh, .int 0, .ref nb, .ref no, .ref nr, .ref nd, .ref na, .ref ns, .ref nf, .int 0, .ref np, .int 1, .ref nq]))]) [0] rfl
              have hD9 := hD.sub (ws' := [(h0, .inr (5, [.ref nx, .ref ny, .int 0, .ref nl, .ref nh, .int 0, .ref nb, .ref no, .ref nr, .ref nd, .ref na, .ref ns, .ref nf, .int 0, .ref np, .int 1, .ref nq]))]) [0] (by decide) rfl
              exact q_retv () hx hb hr hlocks hK hP9 hD9 hS (Nat.le_of_ble_eq_true rfl) (Nat.le_of_ble_eq_true rfl) (trivial) dX7_build_223
            · exact absurd c_8 (by decide)
          · exact absurd c_6 (by decide)
        · exact absurd c_5 (by decide)
      · exact absurd c_4 (by decide)
    · exact absurd c_3 (by decide)
  · exact absurd c_2 (by decide)
def vsX7_parts : List Cond := .code yX7_parts cX7_parts 3 (some .int) :: ([.fieldLink RX7 67 "FaceMapModel$Net" "nodes" "I"] ++ wsX70)
set_option maxRecDepth 20000 in
theorem n_X7_parts_X7 : ∀ w ∈ wsX70, w ∈ vsX7_parts := fun _ h => List.mem_cons_of_mem _ (List.mem_append_right _ h)
set_option maxHeartbeats 4000000 in
set_option maxRecDepth 100000 in
/-- Net.parts of none -/
theorem c_X7_parts (l : Launch) (D : va_G) (aI aL aZ : ClassId) (h0 : Nat) (nx : Nat) (ny : Nat) (nl : Nat) (nh : Nat) (nb : Nat) (no : Nat) (nr : Nat) (nd : Nat) (na : Nat) (ns : Nat) (nf : Nat) (np : Nat) (nq : Nat) (sz : Nat) : MI l D q_cl (q_ty aI aL aZ) yX7_parts vsX7_parts 0 0 0 [.ref h0] [(h0, .inr (5, [.ref nx, .ref ny, .int 0, .ref nl, .ref nh, .int 0, .ref nb, .ref no, .ref nr, .ref nd, .ref na, .ref ns, .ref nf, .int 0, .ref np, .int 1, .ref nq]))] sz (fun (r : Int32) (u : Unit) => r = 0) (fun (u : Unit) => [(h0, .inr (5, [.ref nx, .ref ny, .int 0, .ref nl, .ref nh, .int 0, .ref nb, .ref no, .ref nr, .ref nd, .ref na, .ref ns, .ref nf, .int 0, .ref np, .int 1, .ref nq]))]) := by
  refine q_in cX7_parts 3 (some .int) (qQi D q_cl (q_ty aI aL aZ) _ _) (by decide) rfl (Nat.le_of_ble_eq_true rfl) ?_
  intro p e s m args below meth c A ls hat hP hD hS hl
  obtain ⟨hx, hb, hr, hts, hown, hlocks, hml, hin, hK, hN, hA⟩ := hat
  have hown : s.vm.findClass RX7 = some m.cls := hown
  have hl : lv_has ls 3 [(0, .ref h0)] := hl
  refine lv_iconst (v := 0) hx hb dX7_parts_0 (by decide) ?_
  refine lv_istore_n (lv' := [(1, .int 0), (0, .ref h0)]) hx hb dX7_parts_1 rfl hl (by decide) rfl (fun ls hl => ?_)
  refine lv_iconst (v := 0) hx hb dX7_parts_2 (by decide) ?_
  refine lv_istore_n (lv' := [(2, .int 0), (1, .int 0), (0, .ref h0)]) hx hb dX7_parts_3 rfl hl (by decide) rfl (fun ls hl => ?_)
  refine lv_iload_n hx hb dX7_parts_4 rfl (lv_at hl 0 rfl) ?_
  refine lv_aload_n hx hb dX7_parts_5 rfl (lv_at hl 2 rfl) ?_
  refine va_get (D := D) (ci := 5) (v := .int 0) (C := RX7) (T := TX7) (N := 17) hx hb hts n_X7_parts_X7 hown hK hP 0 rfl rfl 2 (by decide) (hts (.fieldLink RX7 67 "FaceMapModel$Net" "nodes" "I") (List.mem_of_getElem? (i := 1) rfl)) (fun _ h9 => h9) rfl dX7_parts_6 ?_
  refine lv_icmp_ge (tgt := 31) hx hb dX7_parts_9 (by decide) (fun c_1 => ?_) (fun c_1 => ?_)
  · refine lv_iload_n hx hb dX7_parts_31 rfl (lv_at hl 1 rfl) ?_
    have hP9 := hP.sub (ws' := [(h0, .inr (5, [.ref nx, .ref ny, .int 0, .ref nl, .ref nh, .int 0, .ref nb, .ref no, .ref nr, .ref nd, .ref na, .ref ns, .ref nf, .int 0, .ref np, .int 1, .ref nq]))]) [0] rfl
    have hD9 := hD.sub (ws' := [(h0, .inr (5, [.ref nx, .ref ny, .int 0, .ref nl, .ref nh, .int 0, .ref nb, .ref no, .ref nr, .ref nd, .ref na, .ref ns, .ref nf, .int 0, .ref np, .int 1, .ref nq]))]) [0] (by decide) rfl
    exact q_reti () hx hb hr hlocks hK hP9 hD9 hS (Nat.le_of_ble_eq_true rfl) (Nat.le_of_ble_eq_true rfl) (rfl) dX7_parts_32
  · exact absurd c_1 (by decide)
def vsX7_ringsOf : List Cond := .code yX7_ringsOf cX7_ringsOf 4 (some .int) :: ([.fieldLink RX7 87 "FaceMapModel$Net" "rounds" "I"] ++ wsX70)
set_option maxRecDepth 20000 in
theorem n_X7_ringsOf_X7 : ∀ w ∈ wsX70, w ∈ vsX7_ringsOf := fun _ h => List.mem_cons_of_mem _ (List.mem_append_right _ h)
set_option maxHeartbeats 4000000 in
set_option maxRecDepth 100000 in
/-- Net.ringsOf of none -/
theorem c_X7_ringsOf (l : Launch) (D : va_G) (aI aL aZ : ClassId) (h0 : Nat) (nx : Nat) (ny : Nat) (nl : Nat) (nh : Nat) (nb : Nat) (no : Nat) (nr : Nat) (nd : Nat) (na : Nat) (ns : Nat) (nf : Nat) (np : Nat) (nq : Nat) (x : Int32) (sz : Nat) : MI l D q_cl (q_ty aI aL aZ) yX7_ringsOf vsX7_ringsOf 0 0 0 [.ref h0, .int x] [(h0, .inr (5, [.ref nx, .ref ny, .int 0, .ref nl, .ref nh, .int 0, .ref nb, .ref no, .ref nr, .ref nd, .ref na, .ref ns, .ref nf, .int 0, .ref np, .int 1, .ref nq]))] sz (fun (r : Int32) (u : Unit) => r = 0) (fun (u : Unit) => [(h0, .inr (5, [.ref nx, .ref ny, .int 0, .ref nl, .ref nh, .int 0, .ref nb, .ref no, .ref nr, .ref nd, .ref na, .ref ns, .ref nf, .int 0, .ref np, .int 1, .ref nq]))]) := by
  refine q_in cX7_ringsOf 4 (some .int) (qQi D q_cl (q_ty aI aL aZ) _ _) (by decide) rfl (Nat.le_of_ble_eq_true rfl) ?_
  intro p e s m args below meth c A ls hat hP hD hS hl
  obtain ⟨hx, hb, hr, hts, hown, hlocks, hml, hin, hK, hN, hA⟩ := hat
  have hown : s.vm.findClass RX7 = some m.cls := hown
  have hl : lv_has ls 4 [(0, .ref h0), (1, .int x)] := hl
  refine lv_iconst (v := 0) hx hb dX7_ringsOf_0 (by decide) ?_
  refine lv_istore_n (lv' := [(2, .int 0), (0, .ref h0), (1, .int x)]) hx hb dX7_ringsOf_1 rfl hl (by decide) rfl (fun ls hl => ?_)
  refine lv_iconst (v := 0) hx hb dX7_ringsOf_2 (by decide) ?_
  refine lv_istore_n (lv' := [(3, .int 0), (2, .int 0), (0, .ref h0), (1, .int x)]) hx hb dX7_ringsOf_3 rfl hl (by decide) rfl (fun ls hl => ?_)
  refine lv_iload_n hx hb dX7_ringsOf_4 rfl (lv_at hl 0 rfl) ?_
  refine lv_aload_n hx hb dX7_ringsOf_5 rfl (lv_at hl 2 rfl) ?_
  refine va_get (D := D) (ci := 5) (v := .int 0) (C := RX7) (T := TX7) (N := 17) hx hb hts n_X7_ringsOf_X7 hown hK hP 0 rfl rfl 13 (by decide) (hts (.fieldLink RX7 87 "FaceMapModel$Net" "rounds" "I") (List.mem_of_getElem? (i := 1) rfl)) (fun _ h9 => h9) rfl dX7_ringsOf_6 ?_
  refine lv_icmp_ge (tgt := 31) hx hb dX7_ringsOf_9 (by decide) (fun c_1 => ?_) (fun c_1 => ?_)
  · refine lv_iload_n hx hb dX7_ringsOf_31 rfl (lv_at hl 1 rfl) ?_
    have hP9 := hP.sub (ws' := [(h0, .inr (5, [.ref nx, .ref ny, .int 0, .ref nl, .ref nh, .int 0, .ref nb, .ref no, .ref nr, .ref nd, .ref na, .ref ns, .ref nf, .int 0, .ref np, .int 1, .ref nq]))]) [0] rfl
    have hD9 := hD.sub (ws' := [(h0, .inr (5, [.ref nx, .ref ny, .int 0, .ref nl, .ref nh, .int 0, .ref nb, .ref no, .ref nr, .ref nd, .ref na, .ref ns, .ref nf, .int 0, .ref np, .int 1, .ref nq]))]) [0] (by decide) rfl
    exact q_reti () hx hb hr hlocks hK hP9 hD9 hS (Nat.le_of_ble_eq_true rfl) (Nat.le_of_ble_eq_true rfl) (rfl) dX7_ringsOf_32
  · exact absurd c_1 (by decide)
def vsX7_waysOf : List Cond := .code yX7_waysOf cX7_waysOf 4 (some .int) :: ([.fieldLink RX7 71 "FaceMapModel$Net" "pieces" "I"] ++ wsX70)
set_option maxRecDepth 20000 in
theorem n_X7_waysOf_X7 : ∀ w ∈ wsX70, w ∈ vsX7_waysOf := fun _ h => List.mem_cons_of_mem _ (List.mem_append_right _ h)
set_option maxHeartbeats 4000000 in
set_option maxRecDepth 100000 in
/-- Net.waysOf of none -/
theorem c_X7_waysOf (l : Launch) (D : va_G) (aI aL aZ : ClassId) (h0 : Nat) (nx : Nat) (ny : Nat) (nl : Nat) (nh : Nat) (nb : Nat) (no : Nat) (nr : Nat) (nd : Nat) (na : Nat) (ns : Nat) (nf : Nat) (np : Nat) (nq : Nat) (x : Int32) (sz : Nat) : MI l D q_cl (q_ty aI aL aZ) yX7_waysOf vsX7_waysOf 0 0 0 [.ref h0, .int x] [(h0, .inr (5, [.ref nx, .ref ny, .int 0, .ref nl, .ref nh, .int 0, .ref nb, .ref no, .ref nr, .ref nd, .ref na, .ref ns, .ref nf, .int 0, .ref np, .int 1, .ref nq]))] sz (fun (r : Int32) (u : Unit) => r = 0) (fun (u : Unit) => [(h0, .inr (5, [.ref nx, .ref ny, .int 0, .ref nl, .ref nh, .int 0, .ref nb, .ref no, .ref nr, .ref nd, .ref na, .ref ns, .ref nf, .int 0, .ref np, .int 1, .ref nq]))]) := by
  refine q_in cX7_waysOf 4 (some .int) (qQi D q_cl (q_ty aI aL aZ) _ _) (by decide) rfl (Nat.le_of_ble_eq_true rfl) ?_
  intro p e s m args below meth c A ls hat hP hD hS hl
  obtain ⟨hx, hb, hr, hts, hown, hlocks, hml, hin, hK, hN, hA⟩ := hat
  have hown : s.vm.findClass RX7 = some m.cls := hown
  have hl : lv_has ls 4 [(0, .ref h0), (1, .int x)] := hl
  refine lv_iconst (v := 0) hx hb dX7_waysOf_0 (by decide) ?_
  refine lv_istore_n (lv' := [(2, .int 0), (0, .ref h0), (1, .int x)]) hx hb dX7_waysOf_1 rfl hl (by decide) rfl (fun ls hl => ?_)
  refine lv_iconst (v := 0) hx hb dX7_waysOf_2 (by decide) ?_
  refine lv_istore_n (lv' := [(3, .int 0), (2, .int 0), (0, .ref h0), (1, .int x)]) hx hb dX7_waysOf_3 rfl hl (by decide) rfl (fun ls hl => ?_)
  refine lv_iload_n hx hb dX7_waysOf_4 rfl (lv_at hl 0 rfl) ?_
  refine lv_iconst (v := 2) hx hb dX7_waysOf_5 (by decide) ?_
  refine lv_aload_n hx hb dX7_waysOf_6 rfl (lv_at hl 2 rfl) ?_
  refine va_get (D := D) (ci := 5) (v := .int 0) (C := RX7) (T := TX7) (N := 17) hx hb hts n_X7_waysOf_X7 hown hK hP 0 rfl rfl 5 (by decide) (hts (.fieldLink RX7 71 "FaceMapModel$Net" "pieces" "I") (List.mem_of_getElem? (i := 1) rfl)) (fun _ h9 => h9) rfl dX7_waysOf_7 ?_
  refine lv_imul hx hb dX7_waysOf_10 ?_
  refine q_vi (v := 0) (by decide) ?_
  refine lv_icmp_ge (tgt := 32) hx hb dX7_waysOf_11 (by decide) (fun c_1 => ?_) (fun c_1 => ?_)
  · refine lv_iload_n hx hb dX7_waysOf_32 rfl (lv_at hl 1 rfl) ?_
    have hP9 := hP.sub (ws' := [(h0, .inr (5, [.ref nx, .ref ny, .int 0, .ref nl, .ref nh, .int 0, .ref nb, .ref no, .ref nr, .ref nd, .ref na, .ref ns, .ref nf, .int 0, .ref np, .int 1, .ref nq]))]) [0] rfl
    have hD9 := hD.sub (ws' := [(h0, .inr (5, [.ref nx, .ref ny, .int 0, .ref nl, .ref nh, .int 0, .ref nb, .ref no, .ref nr, .ref nd, .ref na, .ref ns, .ref nf, .int 0, .ref np, .int 1, .ref nq]))]) [0] (by decide) rfl
    exact q_reti () hx hb hr hlocks hK hP9 hD9 hS (Nat.le_of_ble_eq_true rfl) (Nat.le_of_ble_eq_true rfl) (rfl) dX7_waysOf_33
  · exact absurd c_1 (by decide)
def vsX7_keyOf : List Cond := .code yX7_keyOf cX7_keyOf 3 (some .int) :: ([.fieldLink RX7 87 "FaceMapModel$Net" "rounds" "I"] ++ wsX70)
set_option maxRecDepth 20000 in
theorem n_X7_keyOf_X7 : ∀ w ∈ wsX70, w ∈ vsX7_keyOf := fun _ h => List.mem_cons_of_mem _ (List.mem_append_right _ h)
set_option maxHeartbeats 4000000 in
set_option maxRecDepth 100000 in
/-- Net.keyOf of none -/
theorem c_X7_keyOf (l : Launch) (D : va_G) (aI aL aZ : ClassId) (h0 : Nat) (nx : Nat) (ny : Nat) (nl : Nat) (nh : Nat) (nb : Nat) (no : Nat) (nr : Nat) (nd : Nat) (na : Nat) (ns : Nat) (nf : Nat) (np : Nat) (nq : Nat) (x : Int32) (sz : Nat) : MI l D q_cl (q_ty aI aL aZ) yX7_keyOf vsX7_keyOf 0 0 0 [.ref h0, .int x] [(h0, .inr (5, [.ref nx, .ref ny, .int 0, .ref nl, .ref nh, .int 0, .ref nb, .ref no, .ref nr, .ref nd, .ref na, .ref ns, .ref nf, .int 0, .ref np, .int 1, .ref nq]))] sz (fun (r : Int32) (u : Unit) => r = (-1)) (fun (u : Unit) => [(h0, .inr (5, [.ref nx, .ref ny, .int 0, .ref nl, .ref nh, .int 0, .ref nb, .ref no, .ref nr, .ref nd, .ref na, .ref ns, .ref nf, .int 0, .ref np, .int 1, .ref nq]))]) := by
  refine q_in cX7_keyOf 3 (some .int) (qQi D q_cl (q_ty aI aL aZ) _ _) (by decide) rfl (Nat.le_of_ble_eq_true rfl) ?_
  intro p e s m args below meth c A ls hat hP hD hS hl
  obtain ⟨hx, hb, hr, hts, hown, hlocks, hml, hin, hK, hN, hA⟩ := hat
  have hown : s.vm.findClass RX7 = some m.cls := hown
  have hl : lv_has ls 3 [(0, .ref h0), (1, .int x)] := hl
  refine lv_iconst (v := 0) hx hb dX7_keyOf_0 (by decide) ?_
  refine lv_istore_n (lv' := [(2, .int 0), (0, .ref h0), (1, .int x)]) hx hb dX7_keyOf_1 rfl hl (by decide) rfl (fun ls hl => ?_)
  refine lv_iload_n hx hb dX7_keyOf_2 rfl (lv_at hl 0 rfl) ?_
  refine lv_aload_n hx hb dX7_keyOf_3 rfl (lv_at hl 1 rfl) ?_
  refine va_get (D := D) (ci := 5) (v := .int 0) (C := RX7) (T := TX7) (N := 17) hx hb hts n_X7_keyOf_X7 hown hK hP 0 rfl rfl 13 (by decide) (hts (.fieldLink RX7 87 "FaceMapModel$Net" "rounds" "I") (List.mem_of_getElem? (i := 1) rfl)) (fun _ h9 => h9) rfl dX7_keyOf_4 ?_
  refine lv_icmp_ge (tgt := 44) hx hb dX7_keyOf_7 (by decide) (fun c_1 => ?_) (fun c_1 => ?_)
  · refine lv_iconst (v := (-1)) hx hb dX7_keyOf_44 (by decide) ?_
    have hP9 := hP.sub (ws' := [(h0, .inr (5, [.ref nx, .ref ny, .int 0, .ref nl, .ref nh, .int 0, .ref nb, .ref no, .ref nr, .ref nd, .ref na, .ref ns, .ref nf, .int 0, .ref np, .int 1, .ref nq]))]) [0] rfl
    have hD9 := hD.sub (ws' := [(h0, .inr (5, [.ref nx, .ref ny, .int 0, .ref nl, .ref nh, .int 0, .ref nb, .ref no, .ref nr, .ref nd, .ref na, .ref ns, .ref nf, .int 0, .ref np, .int 1, .ref nq]))]) [0] (by decide) rfl
    exact q_reti () hx hb hr hlocks hK hP9 hD9 hS (Nat.le_of_ble_eq_true rfl) (Nat.le_of_ble_eq_true rfl) (rfl) dX7_keyOf_45
  · exact absurd c_1 (by decide)
def vsX7_inside : List Cond := .code yX7_inside cX7_inside 9 (some .int) :: ([.fieldLink RX7 87 "FaceMapModel$Net" "rounds" "I", .fieldLink RX7 71 "FaceMapModel$Net" "pieces" "I"] ++ wsX70)
set_option maxRecDepth 20000 in
theorem n_X7_inside_X7 : ∀ w ∈ wsX70, w ∈ vsX7_inside := fun _ h => List.mem_cons_of_mem _ (List.mem_append_right _ h)
set_option maxHeartbeats 4000000 in
set_option maxRecDepth 100000 in
/-- Net.inside of none -/
theorem c_X7_inside (l : Launch) (D : va_G) (aI aL aZ : ClassId) (h0 : Nat) (nx : Nat) (ny : Nat) (nl : Nat) (nh : Nat) (nb : Nat) (no : Nat) (nr : Nat) (nd : Nat) (na : Nat) (ns : Nat) (nf : Nat) (np : Nat) (nq : Nat) (x : Int64) (y : Int64) (sz : Nat) : MI l D q_cl (q_ty aI aL aZ) yX7_inside vsX7_inside 0 0 0 [.ref h0, .long x, .long y, .int (-1)] [(h0, .inr (5, [.ref nx, .ref ny, .int 0, .ref nl, .ref nh, .int 0, .ref nb, .ref no, .ref nr, .ref nd, .ref na, .ref ns, .ref nf, .int 0, .ref np, .int 1, .ref nq]))] sz (fun (r : Int32) (u : Unit) => r = 0) (fun (u : Unit) => [(h0, .inr (5, [.ref nx, .ref ny, .int 0, .ref nl, .ref nh, .int 0, .ref nb, .ref no, .ref nr, .ref nd, .ref na, .ref ns, .ref nf, .int 0, .ref np, .int 1, .ref nq]))]) := by
  refine q_in cX7_inside 9 (some .int) (qQi D q_cl (q_ty aI aL aZ) _ _) (by decide) rfl (Nat.le_of_ble_eq_true rfl) ?_
  intro p e s m args below meth c A ls hat hP hD hS hl
  obtain ⟨hx, hb, hr, hts, hown, hlocks, hml, hin, hK, hN, hA⟩ := hat
  have hown : s.vm.findClass RX7 = some m.cls := hown
  have hl : lv_has ls 9 [(0, .ref h0), (1, .long x), (3, .long y), (5, .int (-1))] := hl
  refine lv_iconst (v := 0) hx hb dX7_inside_0 (by decide) ?_
  refine lv_istore (lv' := [(6, .int 0), (0, .ref h0), (1, .long x), (3, .long y), (5, .int (-1))]) hx hb dX7_inside_1 hl (by decide) rfl (fun ls hl => ?_)
  refine lv_iload hx hb dX7_inside_3 (lv_at hl 0 rfl) ?_
  refine lv_aload_n hx hb dX7_inside_5 rfl (lv_at hl 1 rfl) ?_
  refine va_get (D := D) (ci := 5) (v := .int 0) (C := RX7) (T := TX7) (N := 17) hx hb hts n_X7_inside_X7 hown hK hP 0 rfl rfl 13 (by decide) (hts (.fieldLink RX7 87 "FaceMapModel$Net" "rounds" "I") (List.mem_of_getElem? (i := 1) rfl)) (fun _ h9 => h9) rfl dX7_inside_6 ?_
  refine lv_icmp_ge (tgt := 26) hx hb dX7_inside_9 (by decide) (fun c_1 => ?_) (fun c_1 => ?_)
  · refine lv_iconst (v := 0) hx hb dX7_inside_26 (by decide) ?_
    refine lv_istore (lv' := [(6, .int 0), (0, .ref h0), (1, .long x), (3, .long y), (5, .int (-1))]) hx hb dX7_inside_27 hl (by decide) rfl (fun ls hl => ?_)
    refine lv_iload hx hb dX7_inside_29 (lv_at hl 0 rfl) ?_
    refine lv_iconst (v := 2) hx hb dX7_inside_31 (by decide) ?_
    refine lv_aload_n hx hb dX7_inside_32 rfl (lv_at hl 1 rfl) ?_
    refine va_get (D := D) (ci := 5) (v := .int 0) (C := RX7) (T := TX7) (N := 17) hx hb hts n_X7_inside_X7 hown hK hP 0 rfl rfl 5 (by decide) (hts (.fieldLink RX7 71 "FaceMapModel$Net" "pieces" "I") (List.mem_of_getElem? (i := 2) rfl)) (fun _ h9 => h9) rfl dX7_inside_33 ?_
    refine lv_imul hx hb dX7_inside_36 ?_
    refine q_vi (v := 0) (by decide) ?_
    refine lv_icmp_ge (tgt := 252) hx hb dX7_inside_37 (by decide) (fun c_2 => ?_) (fun c_2 => ?_)
    · refine lv_iconst (v := (-1)) hx hb dX7_inside_252 (by decide) ?_
      refine lv_istore (lv' := [(6, .int (-1)), (0, .ref h0), (1, .long x), (3, .long y), (5, .int (-1))]) hx hb dX7_inside_253 hl (by decide) rfl (fun ls hl => ?_)
      refine lv_iconst (v := 0) hx hb dX7_inside_255 (by decide) ?_
      refine lv_istore (lv' := [(7, .int 0), (6, .int (-1)), (0, .ref h0), (1, .long x), (3, .long y), (5, .int (-1))]) hx hb dX7_inside_256 hl (by decide) rfl (fun ls hl => ?_)
      refine lv_iload hx hb dX7_inside_258 (lv_at hl 0 rfl) ?_
      refine lv_aload_n hx hb dX7_inside_260 rfl (lv_at hl 2 rfl) ?_
      refine va_get (D := D) (ci := 5) (v := .int 0) (C := RX7) (T := TX7) (N := 17) hx hb hts n_X7_inside_X7 hown hK hP 0 rfl rfl 13 (by decide) (hts (.fieldLink RX7 87 "FaceMapModel$Net" "rounds" "I") (List.mem_of_getElem? (i := 1) rfl)) (fun _ h9 => h9) rfl dX7_inside_261 ?_
      refine lv_icmp_ge (tgt := 310) hx hb dX7_inside_264 (by decide) (fun c_3 => ?_) (fun c_3 => ?_)
      · refine lv_iload hx hb dX7_inside_310 (lv_at hl 1 rfl) ?_
        refine lv_if_ge (tgt := 319) hx hb dX7_inside_312 (by decide) (fun c_4 => ?_) (fun c_4 => ?_)
        · exact absurd c_4 (by decide)
        · refine lv_iconst (v := 0) hx hb dX7_inside_315 (by decide) ?_
          refine lv_goto (tgt := 326) hx hb dX7_inside_316 (by decide) ?_
          have hP9 := hP.sub (ws' := [(h0, .inr (5, [.ref nx, .ref ny, .int 0, .ref nl, .ref nh, .int 0, .ref nb, .ref no, .ref nr, .ref nd, .ref na, .ref ns, .ref nf, .int 0, .ref np, .int 1, .ref nq]))]) [0] rfl
          have hD9 := hD.sub (ws' := [(h0, .inr (5, [.ref nx, .ref ny, .int 0, .ref nl, .ref nh, .int 0, .ref nb, .ref no, .ref nr, .ref nd, .ref na, .ref ns, .ref nf, .int 0, .ref np, .int 1, .ref nq]))]) [0] (by decide) rfl
          exact q_reti () hx hb hr hlocks hK hP9 hD9 hS (Nat.le_of_ble_eq_true rfl) (Nat.le_of_ble_eq_true rfl) (rfl) dX7_inside_326
      · exact absurd c_3 (by decide)
    · exact absurd c_2 (by decide)
  · exact absurd c_1 (by decide)
