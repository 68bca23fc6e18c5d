def vsX3_inBounds : List Cond := .code yX3_inBounds cX3_inBounds 2 (some .boolean) :: ([.constant RX3 9 (-500000), .constant RX3 10 (500000)])
set_option maxHeartbeats 4000000 in
set_option maxRecDepth 100000 in
/-- Place.inBounds -/
theorem c_X3_inBounds (l : Launch) (D : va_G) (aI aL aZ : ClassId) (x : Int32) (y : Int32) (sz : Nat) : MI l D q_cl (q_ty aI aL aZ) yX3_inBounds vsX3_inBounds 0 0 0 [.int x, .int y] ([] : va_W) sz (fun (r : Int32) (u : Unit) => (r = 1 ∧ inB x y) ∨ (r = 0 ∧ ¬ inB x y)) (fun (u : Unit) => ([] : va_W)) := by
  refine q_in cX3_inBounds 2 (some .boolean) (qQi D q_cl (q_ty aI aL aZ) _ _) (by decide) rfl (Nat.le_of_ble_eq_true rfl) ?_
  intro p e s m args below meth c A ls hat hP hD hS hl
  obtain ⟨hx, hb, hr, hts, hown, hlocks, hml, hin, hK, hN, hA⟩ := hat
  have hown : s.vm.findClass RX3 = some m.cls := hown
  have hl : lv_has ls 2 [(0, .int x), (1, .int y)] := hl
  refine lv_iload_n hx hb dX3_inBounds_0 rfl (lv_at hl 0 rfl) ?_
  refine lv_ldc (v := (-500000)) hx hb hown (hts (.constant RX3 9 (-500000)) (List.mem_of_getElem? (i := 1) rfl)) dX3_inBounds_1 ?_
  refine lv_icmp_lt (tgt := 28) hx hb dX3_inBounds_3 (by decide) (fun c_1 => ?_) (fun c_1 => ?_)
  · refine lv_iconst (v := 0) hx hb dX3_inBounds_28 (by decide) ?_
    have hP9 := hP.sub (ws' := []) [] rfl
    have hD9 := hD.sub (ws' := []) [] (by decide) rfl
    exact q_retz () hx hb hr (by decide) hlocks hK hP9 hD9 hS (Nat.le_of_ble_eq_true rfl) (Nat.le_of_ble_eq_true rfl) (Or.inr (⟨rfl, (by unfold inB; simp_all)⟩)) dX3_inBounds_29
  · refine lv_iload_n hx hb dX3_inBounds_6 rfl (lv_at hl 0 rfl) ?_
    refine lv_ldc (v := 500000) hx hb hown (hts (.constant RX3 10 (500000)) (List.mem_of_getElem? (i := 2) rfl)) dX3_inBounds_7 ?_
    refine lv_icmp_gt (tgt := 28) hx hb dX3_inBounds_9 (by decide) (fun c_2 => ?_) (fun c_2 => ?_)
    · refine lv_iconst (v := 0) hx hb dX3_inBounds_28 (by decide) ?_
      have hP9 := hP.sub (ws' := []) [] rfl
      have hD9 := hD.sub (ws' := []) [] (by decide) rfl
      exact q_retz () hx hb hr (by decide) hlocks hK hP9 hD9 hS (Nat.le_of_ble_eq_true rfl) (Nat.le_of_ble_eq_true rfl) (Or.inr (⟨rfl, (by unfold inB; simp_all)⟩)) dX3_inBounds_29
    · refine lv_iload_n hx hb dX3_inBounds_12 rfl (lv_at hl 1 rfl) ?_
      refine lv_ldc (v := (-500000)) hx hb hown (hts (.constant RX3 9 (-500000)) (List.mem_of_getElem? (i := 1) rfl)) dX3_inBounds_13 ?_
      refine lv_icmp_lt (tgt := 28) hx hb dX3_inBounds_15 (by decide) (fun c_3 => ?_) (fun c_3 => ?_)
      · refine lv_iconst (v := 0) hx hb dX3_inBounds_28 (by decide) ?_
        have hP9 := hP.sub (ws' := []) [] rfl
        have hD9 := hD.sub (ws' := []) [] (by decide) rfl
        exact q_retz () hx hb hr (by decide) hlocks hK hP9 hD9 hS (Nat.le_of_ble_eq_true rfl) (Nat.le_of_ble_eq_true rfl) (Or.inr (⟨rfl, (by unfold inB; simp_all)⟩)) dX3_inBounds_29
      · refine lv_iload_n hx hb dX3_inBounds_18 rfl (lv_at hl 1 rfl) ?_
        refine lv_ldc (v := 500000) hx hb hown (hts (.constant RX3 10 (500000)) (List.mem_of_getElem? (i := 2) rfl)) dX3_inBounds_19 ?_
        refine lv_icmp_gt (tgt := 28) hx hb dX3_inBounds_21 (by decide) (fun c_4 => ?_) (fun c_4 => ?_)
        · refine lv_iconst (v := 0) hx hb dX3_inBounds_28 (by decide) ?_
          have hP9 := hP.sub (ws' := []) [] rfl
          have hD9 := hD.sub (ws' := []) [] (by decide) rfl
          exact q_retz () hx hb hr (by decide) hlocks hK hP9 hD9 hS (Nat.le_of_ble_eq_true rfl) (Nat.le_of_ble_eq_true rfl) (Or.inr (⟨rfl, (by unfold inB; simp_all)⟩)) dX3_inBounds_29
        · refine lv_iconst (v := 1) hx hb dX3_inBounds_24 (by decide) ?_
          refine lv_goto (tgt := 29) hx hb dX3_inBounds_25 (by decide) ?_
          have hP9 := hP.sub (ws' := []) [] rfl
          have hD9 := hD.sub (ws' := []) [] (by decide) rfl
          exact q_retz () hx hb hr (by decide) hlocks hK hP9 hD9 hS (Nat.le_of_ble_eq_true rfl) (Nat.le_of_ble_eq_true rfl) (Or.inl (⟨rfl, (by unfold inB; exact ⟨by assumption, by assumption, by assumption, by assumption⟩)⟩)) dX3_inBounds_29
def vsX3_of : List Cond := .code yX3_of cX3_of 2 (some .long) :: ([.constant RX3 10 (500000)])
set_option maxHeartbeats 4000000 in
set_option maxRecDepth 100000 in
/-- Place.of -/
theorem c_X3_of (l : Launch) (D : va_G) (aI aL aZ : ClassId) (x : Int32) (y : Int32) (sz : Nat) : ML l D q_cl (q_ty aI aL aZ) yX3_of vsX3_of 0 0 0 [.int x, .int y] ([] : va_W) sz (fun (r : Int64) (u : Unit) => r = (plc x y)) (fun (u : Unit) => ([] : va_W)) := by
  refine q_in cX3_of 2 (some .long) (qQl D q_cl (q_ty aI aL aZ) _ _) (by decide) rfl (Nat.le_of_ble_eq_true rfl) ?_
  intro p e s m args below meth c A ls hat hP hD hS hl
  obtain ⟨hx, hb, hr, hts, hown, hlocks, hml, hin, hK, hN, hA⟩ := hat
  have hown : s.vm.findClass RX3 = some m.cls := hown
  have hl : lv_has ls 2 [(0, .int x), (1, .int y)] := hl
  refine lv_iload_n hx hb dX3_of_0 rfl (lv_at hl 0 rfl) ?_
  refine lv_ldc (v := 500000) hx hb hown (hts (.constant RX3 10 (500000)) (List.mem_of_getElem? (i := 1) rfl)) dX3_of_1 ?_
  refine lv_iadd hx hb dX3_of_3 ?_
  refine lv_i2l (v := (x + 500000).toInt64) hx hb dX3_of_4 rfl ?_
  refine lv_bipush (v := 20) hx hb dX3_of_5 (by decide) ?_
  refine lv_lshl (v := ((x + 500000).toInt64 <<< ((20 : Int32).toInt64 &&& 63))) hx hb dX3_of_7 rfl ?_
  refine lv_iload_n hx hb dX3_of_8 rfl (lv_at hl 1 rfl) ?_
  refine lv_ldc (v := 500000) hx hb hown (hts (.constant RX3 10 (500000)) (List.mem_of_getElem? (i := 1) rfl)) dX3_of_9 ?_
  refine lv_iadd hx hb dX3_of_11 ?_
  refine lv_i2l (v := (y + 500000).toInt64) hx hb dX3_of_12 rfl ?_
  refine lv_lor hx hb dX3_of_13 ?_
  have hP9 := hP.sub (ws' := []) [] rfl
  have hD9 := hD.sub (ws' := []) [] (by decide) rfl
  exact q_retl () hx hb hr hlocks hK hP9 hD9 hS (Nat.le_of_ble_eq_true rfl) (Nat.le_of_ble_eq_true rfl) (rfl) dX3_of_14
