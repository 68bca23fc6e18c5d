def vsX1_init : List Cond := .code yX1_init cX1_init 1 none :: ([.methodLink RX1 1 objectInit, .instanceMethod objectInit, .code objectInit ⟨#[0xb1]⟩ 1 none, .arrayClass .long, .fieldLink RX1 9 "FaceMap$Nodes" "at" "[J", .arrayClass .int, .fieldLink RX1 13 "FaceMap$Nodes" "degree" "[I", .fieldLink RX1 17 "FaceMap$Nodes" "size" "I"] ++ wsX10)
set_option maxRecDepth 20000 in
theorem n_X1_init_X1 : ∀ w ∈ wsX10, w ∈ vsX1_init := fun _ h => List.mem_cons_of_mem _ (List.mem_append_right _ h)
set_option maxHeartbeats 4000000 in
set_option maxRecDepth 100000 in
/-- Nodes() -/
theorem c_X1_init (l : Launch) (D : va_G) (aI aL aZ : ClassId) (h0 : Nat) (sz : Nat) : MV l D q_cl (q_ty aI aL aZ) yX1_init vsX1_init 1 2 32 [.ref h0] [(h0, .inr (1, [.null, .null, .int 0]))] sz (fun (u : Nat × Nat) => True) (fun (u : Nat × Nat) => [(h0, .inr (1, [.ref u.1, .ref u.2, .int 0])), (u.1, .inl (aL, 16, .inr (.inl (fun _ => 0)))), (u.2, .inl (aI, 16, .inl (fun _ => 0)))]) := by
  refine q_in cX1_init 1 none (qQv D q_cl (q_ty aI aL aZ) _ _) (by decide) rfl (Nat.le_of_ble_eq_true rfl) ?_
  intro p e s m args below meth c A ls hat hP hD hS hl
  obtain ⟨hx, hb, hr, hts, hown, hlocks, hml, hin, hK, hN, hA⟩ := hat
  have hown : s.vm.findClass RX1 = some m.cls := hown
  have hl : lv_has ls 1 [(0, .ref h0)] := hl
  refine lv_aload_n hx hb dX1_init_0 rfl (lv_at hl 0 rfl) ?_
  refine W.objInit hx hb hown (hts (.methodLink RX1 1 objectInit) (List.mem_of_getElem? (i := 1) rfl)) (hts (.instanceMethod objectInit) (List.mem_of_getElem? (i := 2) rfl)) (hts (.code objectInit ⟨#[0xb1]⟩ 1 none) (List.mem_of_getElem? (i := 3) rfl)) rfl (by rw [hml]; exact hl.1) rfl dX1_init_1 (Nat.le_of_ble_eq_true rfl) (Nat.le_of_ble_eq_true rfl) ?_
  refine W.eq (g2 := F0 m 4 ls []) rfl ?_
  refine lv_aload_n hx hb dX1_init_4 rfl (lv_at hl 0 rfl) ?_
  refine lv_bipush (v := 16) hx hb dX1_init_5 (by decide) ?_
  refine q_newL 16 hx hb (hts (.arrayClass .long) (List.mem_of_getElem? (i := 4) rfl)) hK hP hD hS hA 1 rfl (by decide) (by decide) (by decide) (Nat.le_of_ble_eq_true rfl) (Nat.le_of_ble_eq_true rfl) dX1_init_7 (fun q1 H hP hD hS => ?_)
  have hP : va_P D q_cl [(h0, .inr (1, [.null, .null, .int 0])), (q1, .inl (aL, 16, .inr (.inl (fun _ => 0))))] H := hP
  have hD : va_D A [(h0, .inr (1, [.null, .null, .int 0])), (q1, .inl (aL, 16, .inr (.inl (fun _ => 0))))] := hD
  refine va_put (D := D) (ci := 1) (v := .ref q1) (ty := (.array .long)) (C := RX1) (T := TX1) (N := 3) hx hb hts n_X1_init_X1 tyX1 tyX1_ok nmX1 hown hK hP hD hS 0 rfl rfl 0 (by decide) (hts (.fieldLink RX1 9 "FaceMap$Nodes" "at" "[J") (List.mem_of_getElem? (i := 5) rfl)) (fun _ h9 => h9) rfl (by decide +kernel) rfl rfl (Nat.le_of_ble_eq_true rfl) dX1_init_9 (fun H locs hP hD hS => ?_)
  have hP : va_P D q_cl [(h0, .inr (1, [.ref q1, .null, .int 0])), (q1, .inl (aL, 16, .inr (.inl (fun _ => 0))))] H := hP
  have hD : va_D A [(h0, .inr (1, [.ref q1, .null, .int 0])), (q1, .inl (aL, 16, .inr (.inl (fun _ => 0))))] := hD
  refine lv_aload_n hx hb dX1_init_12 rfl (lv_at hl 0 rfl) ?_
  refine lv_bipush (v := 16) hx hb dX1_init_13 (by decide) ?_
  refine q_newI 16 hx hb (hts (.arrayClass .int) (List.mem_of_getElem? (i := 6) rfl)) hK hP hD hS hA 0 rfl (by decide) (by decide) (by decide) (Nat.le_of_ble_eq_true rfl) (Nat.le_of_ble_eq_true rfl) dX1_init_15 (fun q2 H hP hD hS => ?_)
  have hP : va_P D q_cl [(h0, .inr (1, [.ref q1, .null, .int 0])), (q1, .inl (aL, 16, .inr (.inl (fun _ => 0)))), (q2, .inl (aI, 16, .inl (fun _ => 0)))] H := hP
  have hD : va_D A [(h0, .inr (1, [.ref q1, .null, .int 0])), (q1, .inl (aL, 16, .inr (.inl (fun _ => 0)))), (q2, .inl (aI, 16, .inl (fun _ => 0)))] := hD
  refine va_put (D := D) (ci := 1) (v := .ref q2) (ty := (.array .int)) (C := RX1) (T := TX1) (N := 3) hx hb hts n_X1_init_X1 tyX1 tyX1_ok nmX1 hown hK hP hD hS 0 rfl rfl 1 (by decide) (hts (.fieldLink RX1 13 "FaceMap$Nodes" "degree" "[I") (List.mem_of_getElem? (i := 7) rfl)) (fun _ h9 => h9) rfl (by decide +kernel) rfl rfl (Nat.le_of_ble_eq_true rfl) dX1_init_17 (fun H locs hP hD hS => ?_)
  have hP : va_P D q_cl [(h0, .inr (1, [.ref q1, .ref q2, .int 0])), (q1, .inl (aL, 16, .inr (.inl (fun _ => 0)))), (q2, .inl (aI, 16, .inl (fun _ => 0)))] H := hP
  have hD : va_D A [(h0, .inr (1, [.ref q1, .ref q2, .int 0])), (q1, .inl (aL, 16, .inr (.inl (fun _ => 0)))), (q2, .inl (aI, 16, .inl (fun _ => 0)))] := hD
  refine lv_aload_n hx hb dX1_init_20 rfl (lv_at hl 0 rfl) ?_
  refine lv_iconst (v := 0) hx hb dX1_init_21 (by decide) ?_
  refine va_put (D := D) (ci := 1) (v := .int 0) (ty := .int) (C := RX1) (T := TX1) (N := 3) hx hb hts n_X1_init_X1 tyX1 tyX1_ok nmX1 hown hK hP hD hS 0 rfl rfl 2 (by decide) (hts (.fieldLink RX1 17 "FaceMap$Nodes" "size" "I") (List.mem_of_getElem? (i := 8) rfl)) (fun _ h9 => h9) rfl (by decide +kernel) rfl rfl (Nat.le_of_ble_eq_true rfl) dX1_init_22 (fun H locs hP hD hS => ?_)
  have hP : va_P D q_cl [(h0, .inr (1, [.ref q1, .ref q2, .int 0])), (q1, .inl (aL, 16, .inr (.inl (fun _ => 0)))), (q2, .inl (aI, 16, .inl (fun _ => 0)))] H := hP
  have hD : va_D A [(h0, .inr (1, [.ref q1, .ref q2, .int 0])), (q1, .inl (aL, 16, .inr (.inl (fun _ => 0)))), (q2, .inl (aI, 16, .inl (fun _ => 0)))] := hD
  have hP9 := hP.sub (ws' := [(h0, .inr (1, [.ref q1, .ref q2, .int 0])), (q1, .inl (aL, 16, .inr (.inl (fun _ => 0)))), (q2, .inl (aI, 16, .inl (fun _ => 0)))]) [0, 1, 2] rfl
  have hD9 := hD.sub (ws' := [(h0, .inr (1, [.ref q1, .ref q2, .int 0])), (q1, .inl (aL, 16, .inr (.inl (fun _ => 0)))), (q2, .inl (aI, 16, .inl (fun _ => 0)))]) [0, 1, 2] (by decide) rfl
  exact q_retv (q1, q2) hx hb hr hlocks hK hP9 hD9 hS (Nat.le_of_ble_eq_true rfl) (Nat.le_of_ble_eq_true rfl) (trivial) dX1_init_25
def vsX1_rank : List Cond := .code yX1_rank cX1_rank 6 (some .int) :: ([.fieldLink RX1 17 "FaceMap$Nodes" "size" "I", .fieldLink RX1 9 "FaceMap$Nodes" "at" "[J"] ++ wsX10)
set_option maxRecDepth 20000 in
theorem n_X1_rank_X1 : ∀ w ∈ wsX10, w ∈ vsX1_rank := fun _ h => List.mem_cons_of_mem _ (List.mem_append_right _ h)
set_option maxHeartbeats 4000000 in
set_option maxRecDepth 100000 in
/-- Nodes.rank, with no node -/
theorem c_X1_rank_0 (l : Launch) (D : va_G) (aI aL aZ : ClassId) (h0 : Nat) (at_ : Nat) (dg : Nat) (a : Int64) (sz : Nat) : MI l D q_cl (q_ty aI aL aZ) yX1_rank vsX1_rank 0 0 0 [.ref h0, .long a] [(h0, .inr (1, [.ref at_, .ref dg, .int 0]))] sz (fun (r : Int32) (u : Unit) => r = 0) (fun (u : Unit) => [(h0, .inr (1, [.ref at_, .ref dg, .int 0]))]) := by
  refine q_in cX1_rank 6 (some .int) (qQi D q_cl (q_ty aI aL aZ) _ _) (by decide) rfl (Nat.le_of_ble_eq_true rfl) ?_
  intro p e s m args below meth c A ls hat hP hD hS hl
  obtain ⟨hx, hb, hr, hts, hown, hlocks, hml, hin, hK, hN, hA⟩ := hat
  have hown : s.vm.findClass RX1 = some m.cls := hown
  have hl : lv_has ls 6 [(0, .ref h0), (1, .long a)] := hl
  refine lv_iconst (v := 0) hx hb dX1_rank_0 (by decide) ?_
  refine lv_istore_n (lv' := [(3, .int 0), (0, .ref h0), (1, .long a)]) hx hb dX1_rank_1 rfl hl (by decide) rfl (fun ls hl => ?_)
  refine lv_aload_n hx hb dX1_rank_2 rfl (lv_at hl 1 rfl) ?_
  refine va_get (D := D) (ci := 1) (v := .int 0) (C := RX1) (T := TX1) (N := 3) hx hb hts n_X1_rank_X1 hown hK hP 0 rfl rfl 2 (by decide) (hts (.fieldLink RX1 17 "FaceMap$Nodes" "size" "I") (List.mem_of_getElem? (i := 1) rfl)) (fun _ h9 => h9) rfl dX1_rank_3 ?_
  refine lv_istore (lv' := [(4, .int 0), (3, .int 0), (0, .ref h0), (1, .long a)]) hx hb dX1_rank_6 hl (by decide) rfl (fun ls hl => ?_)
  refine lv_iload_n hx hb dX1_rank_8 rfl (lv_at hl 1 rfl) ?_
  refine lv_iload hx hb dX1_rank_9 (lv_at hl 0 rfl) ?_
  refine lv_icmp_ge (tgt := 49) hx hb dX1_rank_11 (by decide) (fun c_1 => ?_) (fun c_1 => ?_)
  · refine lv_iload_n hx hb dX1_rank_49 rfl (lv_at hl 1 rfl) ?_
    have hP9 := hP.sub (ws' := [(h0, .inr (1, [.ref at_, .ref dg, .int 0]))]) [0] rfl
    have hD9 := hD.sub (ws' := [(h0, .inr (1, [.ref at_, .ref dg, .int 0]))]) [0] (by decide) rfl
    exact q_reti () hx hb hr hlocks hK hP9 hD9 hS (Nat.le_of_ble_eq_true rfl) (Nat.le_of_ble_eq_true rfl) (rfl) dX1_rank_50
  · exact absurd c_1 (by decide)
set_option maxHeartbeats 4000000 in
set_option maxRecDepth 100000 in
/-- Nodes.rank of a place beyond the one node -/
theorem c_X1_rank_1 (l : Launch) (D : va_G) (aI aL aZ : ClassId) (h0 : Nat) (at_ : Nat) (dg : Nat) (f : Nat → Int64) (b : Int64) (a : Int64) (hf : f 0 = b) (hba : b < a) (sz : Nat) : MI l D q_cl (q_ty aI aL aZ) yX1_rank vsX1_rank 0 0 0 [.ref h0, .long a] [(h0, .inr (1, [.ref at_, .ref dg, .int 1])), (at_, .inl (aL, 16, .inr (.inl f)))] sz (fun (r : Int32) (u : Unit) => r = 1) (fun (u : Unit) => [(h0, .inr (1, [.ref at_, .ref dg, .int 1])), (at_, .inl (aL, 16, .inr (.inl f)))]) := by
  refine q_in cX1_rank 6 (some .int) (qQi D q_cl (q_ty aI aL aZ) _ _) (by decide) rfl (Nat.le_of_ble_eq_true rfl) ?_
  intro p e s m args below meth c A ls hat hP hD hS hl
  obtain ⟨hx, hb, hr, hts, hown, hlocks, hml, hin, hK, hN, hA⟩ := hat
  have hown : s.vm.findClass RX1 = some m.cls := hown
  have hl : lv_has ls 6 [(0, .ref h0), (1, .long a)] := hl
  refine lv_iconst (v := 0) hx hb dX1_rank_0 (by decide) ?_
  refine lv_istore_n (lv' := [(3, .int 0), (0, .ref h0), (1, .long a)]) hx hb dX1_rank_1 rfl hl (by decide) rfl (fun ls hl => ?_)
  refine lv_aload_n hx hb dX1_rank_2 rfl (lv_at hl 1 rfl) ?_
  refine va_get (D := D) (ci := 1) (v := .int 1) (C := RX1) (T := TX1) (N := 3) hx hb hts n_X1_rank_X1 hown hK hP 0 rfl rfl 2 (by decide) (hts (.fieldLink RX1 17 "FaceMap$Nodes" "size" "I") (List.mem_of_getElem? (i := 1) rfl)) (fun _ h9 => h9) rfl dX1_rank_3 ?_
  refine lv_istore (lv' := [(4, .int 1), (3, .int 0), (0, .ref h0), (1, .long a)]) hx hb dX1_rank_6 hl (by decide) rfl (fun ls hl => ?_)
  refine lv_iload_n hx hb dX1_rank_8 rfl (lv_at hl 1 rfl) ?_
  refine lv_iload hx hb dX1_rank_9 (lv_at hl 0 rfl) ?_
  refine lv_icmp_ge (tgt := 49) hx hb dX1_rank_11 (by decide) (fun c_1 => ?_) (fun c_1 => ?_)
  · exact absurd c_1 (by decide)
  · refine lv_iload_n hx hb dX1_rank_14 rfl (lv_at hl 1 rfl) ?_
    refine lv_iload hx hb dX1_rank_15 (lv_at hl 0 rfl) ?_
    refine lv_iadd hx hb dX1_rank_17 ?_
    refine q_vi (v := 1) (by decide) ?_
    refine lv_iconst (v := 1) hx hb dX1_rank_18 (by decide) ?_
    refine lv_iushr (v := 0) hx hb dX1_rank_19 (by decide) ?_
    refine lv_istore (lv' := [(5, .int 0), (4, .int 1), (3, .int 0), (0, .ref h0), (1, .long a)]) hx hb dX1_rank_20 hl (by decide) rfl (fun ls hl => ?_)
    refine lv_aload_n hx hb dX1_rank_22 rfl (lv_at hl 3 rfl) ?_
    refine va_get (D := D) (ci := 1) (v := .ref at_) (C := RX1) (T := TX1) (N := 3) hx hb hts n_X1_rank_X1 hown hK hP 0 rfl rfl 0 (by decide) (hts (.fieldLink RX1 9 "FaceMap$Nodes" "at" "[J") (List.mem_of_getElem? (i := 2) rfl)) (fun _ h9 => h9) rfl dX1_rank_23 ?_
    refine lv_iload hx hb dX1_rank_26 (lv_at hl 0 rfl) ?_
    refine va_lald hx hb hK hP 1 1 rfl rfl (q_ix 0 (by decide) (by decide) (by decide)) dX1_rank_28 ?_
    refine q_vl (v := b) hf ?_
    refine lv_lload_n hx hb dX1_rank_29 rfl (lv_at hl 4 rfl) ?_
    refine W.lcmp hx hb dX1_rank_30 ?_
    refine lv_if_ge (tgt := 42) hx hb dX1_rank_31 (by decide) (fun c_2 => ?_) (fun c_2 => ?_)
    · exact absurd ((lg_cmp_ge _ _).mp c_2) (q_nle hba)
    · refine lv_iload hx hb dX1_rank_34 (lv_at hl 0 rfl) ?_
      refine lv_iconst (v := 1) hx hb dX1_rank_36 (by decide) ?_
      refine lv_iadd hx hb dX1_rank_37 ?_
      refine q_vi (v := 1) (by decide) ?_
      refine lv_istore_n (lv' := [(3, .int 1), (5, .int 0), (4, .int 1), (0, .ref h0), (1, .long a)]) hx hb dX1_rank_38 rfl hl (by decide) rfl (fun ls hl => ?_)
      refine lv_goto (tgt := 46) hx hb dX1_rank_39 (by decide) ?_
      refine lv_goto (tgt := 8) hx hb dX1_rank_46 (by decide) ?_
      refine lv_iload_n hx hb dX1_rank_8 rfl (lv_at hl 0 rfl) ?_
      refine lv_iload hx hb dX1_rank_9 (lv_at hl 2 rfl) ?_
      refine lv_icmp_ge (tgt := 49) hx hb dX1_rank_11 (by decide) (fun c_3 => ?_) (fun c_3 => ?_)
      · refine lv_iload_n hx hb dX1_rank_49 rfl (lv_at hl 0 rfl) ?_
        have hP9 := hP.sub (ws' := [(h0, .inr (1, [.ref at_, .ref dg, .int 1])), (at_, .inl (aL, 16, .inr (.inl f)))]) [0, 1] rfl
        have hD9 := hD.sub (ws' := [(h0, .inr (1, [.ref at_, .ref dg, .int 1])), (at_, .inl (aL, 16, .inr (.inl f)))]) [0, 1] (by decide) rfl
        exact q_reti () hx hb hr hlocks hK hP9 hD9 hS (Nat.le_of_ble_eq_true rfl) (Nat.le_of_ble_eq_true rfl) (rfl) dX1_rank_50
      · exact absurd c_3 (by decide)
def vsX1_isAt : List Cond := .code yX1_isAt cX1_isAt 4 (some .boolean) :: ([.fieldLink RX1 17 "FaceMap$Nodes" "size" "I"] ++ wsX10)
set_option maxRecDepth 20000 in
theorem n_X1_isAt_X1 : ∀ w ∈ wsX10, w ∈ vsX1_isAt := fun _ h => List.mem_cons_of_mem _ (List.mem_append_right _ h)
set_option maxHeartbeats 4000000 in
set_option maxRecDepth 100000 in
/-- Nodes.isAt behind the last, none -/
theorem c_X1_isAt_0 (l : Launch) (D : va_G) (aI aL aZ : ClassId) (h0 : Nat) (at_ : Nat) (dg : Nat) (a : Int64) (sz : Nat) : MI l D q_cl (q_ty aI aL aZ) yX1_isAt vsX1_isAt 0 0 0 [.ref h0, .int 0, .long a] [(h0, .inr (1, [.ref at_, .ref dg, .int 0]))] sz (fun (r : Int32) (u : Unit) => r = 0) (fun (u : Unit) => [(h0, .inr (1, [.ref at_, .ref dg, .int 0]))]) := by
  refine q_in cX1_isAt 4 (some .boolean) (qQi D q_cl (q_ty aI aL aZ) _ _) (by decide) rfl (Nat.le_of_ble_eq_true rfl) ?_
  intro p e s m args below meth c A ls hat hP hD hS hl
  obtain ⟨hx, hb, hr, hts, hown, hlocks, hml, hin, hK, hN, hA⟩ := hat
  have hown : s.vm.findClass RX1 = some m.cls := hown
  have hl : lv_has ls 4 [(0, .ref h0), (1, .int 0), (2, .long a)] := hl
  refine lv_iload_n hx hb dX1_isAt_0 rfl (lv_at hl 1 rfl) ?_
  refine lv_aload_n hx hb dX1_isAt_1 rfl (lv_at hl 0 rfl) ?_
  refine va_get (D := D) (ci := 1) (v := .int 0) (C := RX1) (T := TX1) (N := 3) hx hb hts n_X1_isAt_X1 hown hK hP 0 rfl rfl 2 (by decide) (hts (.fieldLink RX1 17 "FaceMap$Nodes" "size" "I") (List.mem_of_getElem? (i := 1) rfl)) (fun _ h9 => h9) rfl dX1_isAt_2 ?_
  refine lv_icmp_ge (tgt := 23) hx hb dX1_isAt_5 (by decide) (fun c_1 => ?_) (fun c_1 => ?_)
  · refine lv_iconst (v := 0) hx hb dX1_isAt_23 (by decide) ?_
    have hP9 := hP.sub (ws' := [(h0, .inr (1, [.ref at_, .ref dg, .int 0]))]) [0] rfl
    have hD9 := hD.sub (ws' := [(h0, .inr (1, [.ref at_, .ref dg, .int 0]))]) [0] (by decide) rfl
    exact q_retz () hx hb hr (by decide) hlocks hK hP9 hD9 hS (Nat.le_of_ble_eq_true rfl) (Nat.le_of_ble_eq_true rfl) (rfl) dX1_isAt_24
  · exact absurd c_1 (by decide)
set_option maxHeartbeats 4000000 in
set_option maxRecDepth 100000 in
/-- Nodes.isAt behind the last, one -/
theorem c_X1_isAt_1 (l : Launch) (D : va_G) (aI aL aZ : ClassId) (h0 : Nat) (at_ : Nat) (dg : Nat) (a : Int64) (sz : Nat) : MI l D q_cl (q_ty aI aL aZ) yX1_isAt vsX1_isAt 0 0 0 [.ref h0, .int 1, .long a] [(h0, .inr (1, [.ref at_, .ref dg, .int 1]))] sz (fun (r : Int32) (u : Unit) => r = 0) (fun (u : Unit) => [(h0, .inr (1, [.ref at_, .ref dg, .int 1]))]) := by
  refine q_in cX1_isAt 4 (some .boolean) (qQi D q_cl (q_ty aI aL aZ) _ _) (by decide) rfl (Nat.le_of_ble_eq_true rfl) ?_
  intro p e s m args below meth c A ls hat hP hD hS hl
  obtain ⟨hx, hb, hr, hts, hown, hlocks, hml, hin, hK, hN, hA⟩ := hat
  have hown : s.vm.findClass RX1 = some m.cls := hown
  have hl : lv_has ls 4 [(0, .ref h0), (1, .int 1), (2, .long a)] := hl
  refine lv_iload_n hx hb dX1_isAt_0 rfl (lv_at hl 1 rfl) ?_
  refine lv_aload_n hx hb dX1_isAt_1 rfl (lv_at hl 0 rfl) ?_
  refine va_get (D := D) (ci := 1) (v := .int 1) (C := RX1) (T := TX1) (N := 3) hx hb hts n_X1_isAt_X1 hown hK hP 0 rfl rfl 2 (by decide) (hts (.fieldLink RX1 17 "FaceMap$Nodes" "size" "I") (List.mem_of_getElem? (i := 1) rfl)) (fun _ h9 => h9) rfl dX1_isAt_2 ?_
  refine lv_icmp_ge (tgt := 23) hx hb dX1_isAt_5 (by decide) (fun c_1 => ?_) (fun c_1 => ?_)
  · refine lv_iconst (v := 0) hx hb dX1_isAt_23 (by decide) ?_
    have hP9 := hP.sub (ws' := [(h0, .inr (1, [.ref at_, .ref dg, .int 1]))]) [0] rfl
    have hD9 := hD.sub (ws' := [(h0, .inr (1, [.ref at_, .ref dg, .int 1]))]) [0] (by decide) rfl
    exact q_retz () hx hb hr (by decide) hlocks hK hP9 hD9 hS (Nat.le_of_ble_eq_true rfl) (Nat.le_of_ble_eq_true rfl) (rfl) dX1_isAt_24
  · exact absurd c_1 (by decide)
def vsX1_insert : List Cond := .code yX1_insert cX1_insert 4 none :: ([.fieldLink RX1 17 "FaceMap$Nodes" "size" "I", .fieldLink RX1 9 "FaceMap$Nodes" "at" "[J", .methodLink RX1 42 arraycopyName, .native arraycopyName, .static arraycopyName, .initialized "java/lang/System", .fieldLink RX1 13 "FaceMap$Nodes" "degree" "[I"] ++ wsX10)
set_option maxRecDepth 20000 in
theorem n_X1_insert_X1 : ∀ w ∈ wsX10, w ∈ vsX1_insert := fun _ h => List.mem_cons_of_mem _ (List.mem_append_right _ h)
set_option maxHeartbeats 4000000 in
set_option maxRecDepth 100000 in
/-- Nodes.insert, the first -/
theorem c_X1_insert_0 (l : Launch) (D : va_G) (aI aL aZ : ClassId) (h0 : Nat) (at_ : Nat) (dg : Nat) (f : Nat → Int64) (g : Nat → Int32) (a : Int64) (sz : Nat) : MV l D q_cl (q_ty aI aL aZ) yX1_insert vsX1_insert 2 0 0 [.ref h0, .int 0, .long a] [(h0, .inr (1, [.ref at_, .ref dg, .int 0])), (at_, .inl (aL, 16, .inr (.inl f))), (dg, .inl (aI, 16, .inl g))] sz (fun (u : (Nat → Int64) × (Nat → Int32)) => u.1 0 = a) (fun (u : (Nat → Int64) × (Nat → Int32)) => [(h0, .inr (1, [.ref at_, .ref dg, .int 1])), (at_, .inl (aL, 16, .inr (.inl u.1))), (dg, .inl (aI, 16, .inl u.2))]) := by
  refine q_in cX1_insert 4 none (qQv D q_cl (q_ty aI aL aZ) _ _) (by decide) rfl (Nat.le_of_ble_eq_true rfl) ?_
  intro p e s m args below meth c A ls hat hP hD hS hl
  obtain ⟨hx, hb, hr, hts, hown, hlocks, hml, hin, hK, hN, hA⟩ := hat
  have hown : s.vm.findClass RX1 = some m.cls := hown
  have hl : lv_has ls 4 [(0, .ref h0), (1, .int 0), (2, .long a)] := hl
  refine lv_aload_n hx hb dX1_insert_0 rfl (lv_at hl 0 rfl) ?_
  refine va_get (D := D) (ci := 1) (v := .int 0) (C := RX1) (T := TX1) (N := 3) hx hb hts n_X1_insert_X1 hown hK hP 0 rfl rfl 2 (by decide) (hts (.fieldLink RX1 17 "FaceMap$Nodes" "size" "I") (List.mem_of_getElem? (i := 1) rfl)) (fun _ h9 => h9) rfl dX1_insert_1 ?_
  refine lv_aload_n hx hb dX1_insert_4 rfl (lv_at hl 0 rfl) ?_
  refine va_get (D := D) (ci := 1) (v := .ref at_) (C := RX1) (T := TX1) (N := 3) hx hb hts n_X1_insert_X1 hown hK hP 0 rfl rfl 0 (by decide) (hts (.fieldLink RX1 9 "FaceMap$Nodes" "at" "[J") (List.mem_of_getElem? (i := 2) rfl)) (fun _ h9 => h9) rfl dX1_insert_5 ?_
  refine va_alen (v := 16) hx hb hK hP 1 1 rfl rfl rfl dX1_insert_8 ?_
  refine lv_icmp_ne (tgt := 46) hx hb dX1_insert_9 (by decide) (fun c_1 => ?_) (fun c_1 => ?_)
  · refine lv_aload_n hx hb dX1_insert_46 rfl (lv_at hl 0 rfl) ?_
    refine va_get (D := D) (ci := 1) (v := .ref at_) (C := RX1) (T := TX1) (N := 3) hx hb hts n_X1_insert_X1 hown hK hP 0 rfl rfl 0 (by decide) (hts (.fieldLink RX1 9 "FaceMap$Nodes" "at" "[J") (List.mem_of_getElem? (i := 2) rfl)) (fun _ h9 => h9) rfl dX1_insert_47 ?_
    refine lv_iload_n hx hb dX1_insert_50 rfl (lv_at hl 1 rfl) ?_
    refine lv_aload_n hx hb dX1_insert_51 rfl (lv_at hl 0 rfl) ?_
    refine va_get (D := D) (ci := 1) (v := .ref at_) (C := RX1) (T := TX1) (N := 3) hx hb hts n_X1_insert_X1 hown hK hP 0 rfl rfl 0 (by decide) (hts (.fieldLink RX1 9 "FaceMap$Nodes" "at" "[J") (List.mem_of_getElem? (i := 2) rfl)) (fun _ h9 => h9) rfl dX1_insert_52 ?_
    refine lv_iload_n hx hb dX1_insert_55 rfl (lv_at hl 1 rfl) ?_
    refine lv_iconst (v := 1) hx hb dX1_insert_56 (by decide) ?_
    refine lv_iadd hx hb dX1_insert_57 ?_
    refine q_vi (v := 1) (by decide) ?_
    refine lv_aload_n hx hb dX1_insert_58 rfl (lv_at hl 0 rfl) ?_
    refine va_get (D := D) (ci := 1) (v := .int 0) (C := RX1) (T := TX1) (N := 3) hx hb hts n_X1_insert_X1 hown hK hP 0 rfl rfl 2 (by decide) (hts (.fieldLink RX1 17 "FaceMap$Nodes" "size" "I") (List.mem_of_getElem? (i := 1) rfl)) (fun _ h9 => h9) rfl dX1_insert_59 ?_
    refine lv_iload_n hx hb dX1_insert_62 rfl (lv_at hl 1 rfl) ?_
    refine lv_isub hx hb dX1_insert_63 ?_
    refine q_vi (v := 0) (by decide) ?_
    refine va_copyl hx hb (by rw [hml]; exact hl.1.symm) hown (hts (.methodLink RX1 42 arraycopyName) (List.mem_of_getElem? (i := 3) rfl)) (hts (.native arraycopyName) (List.mem_of_getElem? (i := 4) rfl)) (hts (.static arraycopyName) (List.mem_of_getElem? (i := 5) rfl)) (hts (.initialized "java/lang/System") (List.mem_of_getElem? (i := 6) rfl)) hK hP hD hS 1 1 1 1 rfl rfl rfl rfl rfl (by decide) (by decide) (by decide) (by decide) (by decide) (fun i hi => absurd (sb_cl0 ▸ hi) (Nat.not_lt_zero i)) (Nat.le_of_ble_eq_true rfl) (Nat.le_of_ble_eq_true rfl) dX1_insert_64 (fun H locs hP hD hS => ?_)
    have hP : va_P D q_cl [(h0, .inr (1, [.ref at_, .ref dg, .int 0])), (at_, .inl (aL, 16, .inr (.inl (va_cpy f f 0 1 0)))), (dg, .inl (aI, 16, .inl g))] H := hP
    have hD : va_D A [(h0, .inr (1, [.ref at_, .ref dg, .int 0])), (at_, .inl (aL, 16, .inr (.inl (va_cpy f f 0 1 0)))), (dg, .inl (aI, 16, .inl g))] := hD
    refine lv_aload_n hx hb dX1_insert_67 rfl (lv_at hl 0 rfl) ?_
    refine va_get (D := D) (ci := 1) (v := .ref dg) (C := RX1) (T := TX1) (N := 3) hx hb hts n_X1_insert_X1 hown hK hP 0 rfl rfl 1 (by decide) (hts (.fieldLink RX1 13 "FaceMap$Nodes" "degree" "[I") (List.mem_of_getElem? (i := 7) rfl)) (fun _ h9 => h9) rfl dX1_insert_68 ?_
    refine lv_iload_n hx hb dX1_insert_71 rfl (lv_at hl 1 rfl) ?_
    refine lv_aload_n hx hb dX1_insert_72 rfl (lv_at hl 0 rfl) ?_
    refine va_get (D := D) (ci := 1) (v := .ref dg) (C := RX1) (T := TX1) (N := 3) hx hb hts n_X1_insert_X1 hown hK hP 0 rfl rfl 1 (by decide) (hts (.fieldLink RX1 13 "FaceMap$Nodes" "degree" "[I") (List.mem_of_getElem? (i := 7) rfl)) (fun _ h9 => h9) rfl dX1_insert_73 ?_
    refine lv_iload_n hx hb dX1_insert_76 rfl (lv_at hl 1 rfl) ?_
    refine lv_iconst (v := 1) hx hb dX1_insert_77 (by decide) ?_
    refine lv_iadd hx hb dX1_insert_78 ?_
    refine q_vi (v := 1) (by decide) ?_
    refine lv_aload_n hx hb dX1_insert_79 rfl (lv_at hl 0 rfl) ?_
    refine va_get (D := D) (ci := 1) (v := .int 0) (C := RX1) (T := TX1) (N := 3) hx hb hts n_X1_insert_X1 hown hK hP 0 rfl rfl 2 (by decide) (hts (.fieldLink RX1 17 "FaceMap$Nodes" "size" "I") (List.mem_of_getElem? (i := 1) rfl)) (fun _ h9 => h9) rfl dX1_insert_80 ?_
    refine lv_iload_n hx hb dX1_insert_83 rfl (lv_at hl 1 rfl) ?_
    refine lv_isub hx hb dX1_insert_84 ?_
    refine q_vi (v := 0) (by decide) ?_
    refine va_copyi hx hb (by rw [hml]; exact hl.1.symm) hown (hts (.methodLink RX1 42 arraycopyName) (List.mem_of_getElem? (i := 3) rfl)) (hts (.native arraycopyName) (List.mem_of_getElem? (i := 4) rfl)) (hts (.static arraycopyName) (List.mem_of_getElem? (i := 5) rfl)) (hts (.initialized "java/lang/System") (List.mem_of_getElem? (i := 6) rfl)) hK hP hD hS 2 2 0 0 rfl rfl rfl rfl rfl (by decide) (by decide) (by decide) (by decide) (by decide) (fun i hi => absurd (sb_cl0 ▸ hi) (Nat.not_lt_zero i)) (Nat.le_of_ble_eq_true rfl) (Nat.le_of_ble_eq_true rfl) dX1_insert_85 (fun H locs hP hD hS => ?_)
    have hP : va_P D q_cl [(h0, .inr (1, [.ref at_, .ref dg, .int 0])), (at_, .inl (aL, 16, .inr (.inl (va_cpy f f 0 1 0)))), (dg, .inl (aI, 16, .inl (va_cpy g g 0 1 0)))] H := hP
    have hD : va_D A [(h0, .inr (1, [.ref at_, .ref dg, .int 0])), (at_, .inl (aL, 16, .inr (.inl (va_cpy f f 0 1 0)))), (dg, .inl (aI, 16, .inl (va_cpy g g 0 1 0)))] := hD
    refine lv_aload_n hx hb dX1_insert_88 rfl (lv_at hl 0 rfl) ?_
    refine va_get (D := D) (ci := 1) (v := .ref at_) (C := RX1) (T := TX1) (N := 3) hx hb hts n_X1_insert_X1 hown hK hP 0 rfl rfl 0 (by decide) (hts (.fieldLink RX1 9 "FaceMap$Nodes" "at" "[J") (List.mem_of_getElem? (i := 2) rfl)) (fun _ h9 => h9) rfl dX1_insert_89 ?_
    refine lv_iload_n hx hb dX1_insert_92 rfl (lv_at hl 1 rfl) ?_
    refine lv_lload_n hx hb dX1_insert_93 rfl (lv_at hl 2 rfl) ?_
    refine va_last hx hb hK hP hD hS 1 1 rfl rfl (q_ix 0 (by decide) (by decide) (by decide)) dX1_insert_94 (fun H locs hP hD hS => ?_)
    have hP : va_P D q_cl [(h0, .inr (1, [.ref at_, .ref dg, .int 0])), (at_, .inl (aL, 16, .inr (.inl (vp_updL (va_cpy f f 0 1 0) 0 a)))), (dg, .inl (aI, 16, .inl (va_cpy g g 0 1 0)))] H := hP
    have hD : va_D A [(h0, .inr (1, [.ref at_, .ref dg, .int 0])), (at_, .inl (aL, 16, .inr (.inl (vp_updL (va_cpy f f 0 1 0) 0 a)))), (dg, .inl (aI, 16, .inl (va_cpy g g 0 1 0)))] := hD
    refine lv_aload_n hx hb dX1_insert_95 rfl (lv_at hl 0 rfl) ?_
    refine va_get (D := D) (ci := 1) (v := .ref dg) (C := RX1) (T := TX1) (N := 3) hx hb hts n_X1_insert_X1 hown hK hP 0 rfl rfl 1 (by decide) (hts (.fieldLink RX1 13 "FaceMap$Nodes" "degree" "[I") (List.mem_of_getElem? (i := 7) rfl)) (fun _ h9 => h9) rfl dX1_insert_96 ?_
    refine lv_iload_n hx hb dX1_insert_99 rfl (lv_at hl 1 rfl) ?_
    refine lv_iconst (v := 0) hx hb dX1_insert_100 (by decide) ?_
    refine va_iast hx hb hK hP hD hS 2 0 rfl rfl (q_ix 0 (by decide) (by decide) (by decide)) dX1_insert_101 (fun H locs hP hD hS => ?_)
    have hP : va_P D q_cl [(h0, .inr (1, [.ref at_, .ref dg, .int 0])), (at_, .inl (aL, 16, .inr (.inl (vp_updL (va_cpy f f 0 1 0) 0 a)))), (dg, .inl (aI, 16, .inl (upd (va_cpy g g 0 1 0) 0 0)))] H := hP
    have hD : va_D A [(h0, .inr (1, [.ref at_, .ref dg, .int 0])), (at_, .inl (aL, 16, .inr (.inl (vp_updL (va_cpy f f 0 1 0) 0 a)))), (dg, .inl (aI, 16, .inl (upd (va_cpy g g 0 1 0) 0 0)))] := hD
    refine lv_aload_n hx hb dX1_insert_102 rfl (lv_at hl 0 rfl) ?_
    refine lv_dup hx hb dX1_insert_103 rfl ?_
    refine va_get (D := D) (ci := 1) (v := .int 0) (C := RX1) (T := TX1) (N := 3) hx hb hts n_X1_insert_X1 hown hK hP 0 rfl rfl 2 (by decide) (hts (.fieldLink RX1 17 "FaceMap$Nodes" "size" "I") (List.mem_of_getElem? (i := 1) rfl)) (fun _ h9 => h9) rfl dX1_insert_104 ?_
    refine lv_iconst (v := 1) hx hb dX1_insert_107 (by decide) ?_
    refine lv_iadd hx hb dX1_insert_108 ?_
    refine q_vi (v := 1) (by decide) ?_
    refine va_put (D := D) (ci := 1) (v := .int 1) (ty := .int) (C := RX1) (T := TX1) (N := 3) hx hb hts n_X1_insert_X1 tyX1 tyX1_ok nmX1 hown hK hP hD hS 0 rfl rfl 2 (by decide) (hts (.fieldLink RX1 17 "FaceMap$Nodes" "size" "I") (List.mem_of_getElem? (i := 1) rfl)) (fun _ h9 => h9) rfl (by decide +kernel) rfl rfl (Nat.le_of_ble_eq_true rfl) dX1_insert_109 (fun H locs hP hD hS => ?_)
    have hP : va_P D q_cl [(h0, .inr (1, [.ref at_, .ref dg, .int 1])), (at_, .inl (aL, 16, .inr (.inl (vp_updL (va_cpy f f 0 1 0) 0 a)))), (dg, .inl (aI, 16, .inl (upd (va_cpy g g 0 1 0) 0 0)))] H := hP
    have hD : va_D A [(h0, .inr (1, [.ref at_, .ref dg, .int 1])), (at_, .inl (aL, 16, .inr (.inl (vp_updL (va_cpy f f 0 1 0) 0 a)))), (dg, .inl (aI, 16, .inl (upd (va_cpy g g 0 1 0) 0 0)))] := hD
    have hP9 := hP.sub (ws' := [(h0, .inr (1, [.ref at_, .ref dg, .int 1])), (at_, .inl (aL, 16, .inr (.inl (vp_updL (va_cpy f f 0 1 0) 0 a)))), (dg, .inl (aI, 16, .inl (upd (va_cpy g g 0 1 0) 0 0)))]) [0, 1, 2] rfl
    have hD9 := hD.sub (ws' := [(h0, .inr (1, [.ref at_, .ref dg, .int 1])), (at_, .inl (aL, 16, .inr (.inl (vp_updL (va_cpy f f 0 1 0) 0 a)))), (dg, .inl (aI, 16, .inl (upd (va_cpy g g 0 1 0) 0 0)))]) [0, 1, 2] (by decide) rfl
    exact q_retv ((vp_updL (va_cpy f f 0 1 0) 0 a), (upd (va_cpy g g 0 1 0) 0 0)) hx hb hr hlocks hK hP9 hD9 hS (Nat.le_of_ble_eq_true rfl) (Nat.le_of_ble_eq_true rfl) ((by dsimp only; exact pk_uLs)) dX1_insert_112
  · exact absurd c_1 (by decide)
set_option maxHeartbeats 4000000 in
set_option maxRecDepth 100000 in
/-- Nodes.insert, the second, behind the first -/
theorem c_X1_insert_1 (l : Launch) (D : va_G) (aI aL aZ : ClassId) (h0 : Nat) (at_ : Nat) (dg : Nat) (f : Nat → Int64) (g : Nat → Int32) (a : Int64) (sz : Nat) : MV l D q_cl (q_ty aI aL aZ) yX1_insert vsX1_insert 2 0 0 [.ref h0, .int 1, .long a] [(h0, .inr (1, [.ref at_, .ref dg, .int 1])), (at_, .inl (aL, 16, .inr (.inl f))), (dg, .inl (aI, 16, .inl g))] sz (fun (u : (Nat → Int64) × (Nat → Int32)) => True) (fun (u : (Nat → Int64) × (Nat → Int32)) => [(h0, .inr (1, [.ref at_, .ref dg, .int 2])), (at_, .inl (aL, 16, .inr (.inl u.1))), (dg, .inl (aI, 16, .inl u.2))]) := by
  refine q_in cX1_insert 4 none (qQv D q_cl (q_ty aI aL aZ) _ _) (by decide) rfl (Nat.le_of_ble_eq_true rfl) ?_
  intro p e s m args below meth c A ls hat hP hD hS hl
  obtain ⟨hx, hb, hr, hts, hown, hlocks, hml, hin, hK, hN, hA⟩ := hat
  have hown : s.vm.findClass RX1 = some m.cls := hown
  have hl : lv_has ls 4 [(0, .ref h0), (1, .int 1), (2, .long a)] := hl
  refine lv_aload_n hx hb dX1_insert_0 rfl (lv_at hl 0 rfl) ?_
  refine va_get (D := D) (ci := 1) (v := .int 1) (C := RX1) (T := TX1) (N := 3) hx hb hts n_X1_insert_X1 hown hK hP 0 rfl rfl 2 (by decide) (hts (.fieldLink RX1 17 "FaceMap$Nodes" "size" "I") (List.mem_of_getElem? (i := 1) rfl)) (fun _ h9 => h9) rfl dX1_insert_1 ?_
  refine lv_aload_n hx hb dX1_insert_4 rfl (lv_at hl 0 rfl) ?_
  refine va_get (D := D) (ci := 1) (v := .ref at_) (C := RX1) (T := TX1) (N := 3) hx hb hts n_X1_insert_X1 hown hK hP 0 rfl rfl 0 (by decide) (hts (.fieldLink RX1 9 "FaceMap$Nodes" "at" "[J") (List.mem_of_getElem? (i := 2) rfl)) (fun _ h9 => h9) rfl dX1_insert_5 ?_
  refine va_alen (v := 16) hx hb hK hP 1 1 rfl rfl rfl dX1_insert_8 ?_
  refine lv_icmp_ne (tgt := 46) hx hb dX1_insert_9 (by decide) (fun c_1 => ?_) (fun c_1 => ?_)
  · refine lv_aload_n hx hb dX1_insert_46 rfl (lv_at hl 0 rfl) ?_
    refine va_get (D := D) (ci := 1) (v := .ref at_) (C := RX1) (T := TX1) (N := 3) hx hb hts n_X1_insert_X1 hown hK hP 0 rfl rfl 0 (by decide) (hts (.fieldLink RX1 9 "FaceMap$Nodes" "at" "[J") (List.mem_of_getElem? (i := 2) rfl)) (fun _ h9 => h9) rfl dX1_insert_47 ?_
    refine lv_iload_n hx hb dX1_insert_50 rfl (lv_at hl 1 rfl) ?_
    refine lv_aload_n hx hb dX1_insert_51 rfl (lv_at hl 0 rfl) ?_
    refine va_get (D := D) (ci := 1) (v := .ref at_) (C := RX1) (T := TX1) (N := 3) hx hb hts n_X1_insert_X1 hown hK hP 0 rfl rfl 0 (by decide) (hts (.fieldLink RX1 9 "FaceMap$Nodes" "at" "[J") (List.mem_of_getElem? (i := 2) rfl)) (fun _ h9 => h9) rfl dX1_insert_52 ?_
    refine lv_iload_n hx hb dX1_insert_55 rfl (lv_at hl 1 rfl) ?_
    refine lv_iconst (v := 1) hx hb dX1_insert_56 (by decide) ?_
    refine lv_iadd hx hb dX1_insert_57 ?_
    refine q_vi (v := 2) (by decide) ?_
    refine lv_aload_n hx hb dX1_insert_58 rfl (lv_at hl 0 rfl) ?_
    refine va_get (D := D) (ci := 1) (v := .int 1) (C := RX1) (T := TX1) (N := 3) hx hb hts n_X1_insert_X1 hown hK hP 0 rfl rfl 2 (by decide) (hts (.fieldLink RX1 17 "FaceMap$Nodes" "size" "I") (List.mem_of_getElem? (i := 1) rfl)) (fun _ h9 => h9) rfl dX1_insert_59 ?_
    refine lv_iload_n hx hb dX1_insert_62 rfl (lv_at hl 1 rfl) ?_
    refine lv_isub hx hb dX1_insert_63 ?_
    refine q_vi (v := 0) (by decide) ?_
    refine va_copyl hx hb (by rw [hml]; exact hl.1.symm) hown (hts (.methodLink RX1 42 arraycopyName) (List.mem_of_getElem? (i := 3) rfl)) (hts (.native arraycopyName) (List.mem_of_getElem? (i := 4) rfl)) (hts (.static arraycopyName) (List.mem_of_getElem? (i := 5) rfl)) (hts (.initialized "java/lang/System") (List.mem_of_getElem? (i := 6) rfl)) hK hP hD hS 1 1 1 1 rfl rfl rfl rfl rfl (by decide) (by decide) (by decide) (by decide) (by decide) (fun i hi => absurd (sb_cl0 ▸ hi) (Nat.not_lt_zero i)) (Nat.le_of_ble_eq_true rfl) (Nat.le_of_ble_eq_true rfl) dX1_insert_64 (fun H locs hP hD hS => ?_)
    have hP : va_P D q_cl [(h0, .inr (1, [.ref at_, .ref dg, .int 1])), (at_, .inl (aL, 16, .inr (.inl (va_cpy f f 1 2 0)))), (dg, .inl (aI, 16, .inl g))] H := hP
    have hD : va_D A [(h0, .inr (1, [.ref at_, .ref dg, .int 1])), (at_, .inl (aL, 16, .inr (.inl (va_cpy f f 1 2 0)))), (dg, .inl (aI, 16, .inl g))] := hD
    refine lv_aload_n hx hb dX1_insert_67 rfl (lv_at hl 0 rfl) ?_
    refine va_get (D := D) (ci := 1) (v := .ref dg) (C := RX1) (T := TX1) (N := 3) hx hb hts n_X1_insert_X1 hown hK hP 0 rfl rfl 1 (by decide) (hts (.fieldLink RX1 13 "FaceMap$Nodes" "degree" "[I") (List.mem_of_getElem? (i := 7) rfl)) (fun _ h9 => h9) rfl dX1_insert_68 ?_
    refine lv_iload_n hx hb dX1_insert_71 rfl (lv_at hl 1 rfl) ?_
    refine lv_aload_n hx hb dX1_insert_72 rfl (lv_at hl 0 rfl) ?_
    refine va_get (D := D) (ci := 1) (v := .ref dg) (C := RX1) (T := TX1) (N := 3) hx hb hts n_X1_insert_X1 hown hK hP 0 rfl rfl 1 (by decide) (hts (.fieldLink RX1 13 "FaceMap$Nodes" "degree" "[I") (List.mem_of_getElem? (i := 7) rfl)) (fun _ h9 => h9) rfl dX1_insert_73 ?_
    refine lv_iload_n hx hb dX1_insert_76 rfl (lv_at hl 1 rfl) ?_
    refine lv_iconst (v := 1) hx hb dX1_insert_77 (by decide) ?_
    refine lv_iadd hx hb dX1_insert_78 ?_
    refine q_vi (v := 2) (by decide) ?_
    refine lv_aload_n hx hb dX1_insert_79 rfl (lv_at hl 0 rfl) ?_
    refine va_get (D := D) (ci := 1) (v := .int 1) (C := RX1) (T := TX1) (N := 3) hx hb hts n_X1_insert_X1 hown hK hP 0 rfl rfl 2 (by decide) (hts (.fieldLink RX1 17 "FaceMap$Nodes" "size" "I") (List.mem_of_getElem? (i := 1) rfl)) (fun _ h9 => h9) rfl dX1_insert_80 ?_
    refine lv_iload_n hx hb dX1_insert_83 rfl (lv_at hl 1 rfl) ?_
    refine lv_isub hx hb dX1_insert_84 ?_
    refine q_vi (v := 0) (by decide) ?_
    refine va_copyi hx hb (by rw [hml]; exact hl.1.symm) hown (hts (.methodLink RX1 42 arraycopyName) (List.mem_of_getElem? (i := 3) rfl)) (hts (.native arraycopyName) (List.mem_of_getElem? (i := 4) rfl)) (hts (.static arraycopyName) (List.mem_of_getElem? (i := 5) rfl)) (hts (.initialized "java/lang/System") (List.mem_of_getElem? (i := 6) rfl)) hK hP hD hS 2 2 0 0 rfl rfl rfl rfl rfl (by decide) (by decide) (by decide) (by decide) (by decide) (fun i hi => absurd (sb_cl0 ▸ hi) (Nat.not_lt_zero i)) (Nat.le_of_ble_eq_true rfl) (Nat.le_of_ble_eq_true rfl) dX1_insert_85 (fun H locs hP hD hS => ?_)
    have hP : va_P D q_cl [(h0, .inr (1, [.ref at_, .ref dg, .int 1])), (at_, .inl (aL, 16, .inr (.inl (va_cpy f f 1 2 0)))), (dg, .inl (aI, 16, .inl (va_cpy g g 1 2 0)))] H := hP
    have hD : va_D A [(h0, .inr (1, [.ref at_, .ref dg, .int 1])), (at_, .inl (aL, 16, .inr (.inl (va_cpy f f 1 2 0)))), (dg, .inl (aI, 16, .inl (va_cpy g g 1 2 0)))] := hD
    refine lv_aload_n hx hb dX1_insert_88 rfl (lv_at hl 0 rfl) ?_
    refine va_get (D := D) (ci := 1) (v := .ref at_) (C := RX1) (T := TX1) (N := 3) hx hb hts n_X1_insert_X1 hown hK hP 0 rfl rfl 0 (by decide) (hts (.fieldLink RX1 9 "FaceMap$Nodes" "at" "[J") (List.mem_of_getElem? (i := 2) rfl)) (fun _ h9 => h9) rfl dX1_insert_89 ?_
    refine lv_iload_n hx hb dX1_insert_92 rfl (lv_at hl 1 rfl) ?_
    refine lv_lload_n hx hb dX1_insert_93 rfl (lv_at hl 2 rfl) ?_
    refine va_last hx hb hK hP hD hS 1 1 rfl rfl (q_ix 1 (by decide) (by decide) (by decide)) dX1_insert_94 (fun H locs hP hD hS => ?_)
    have hP : va_P D q_cl [(h0, .inr (1, [.ref at_, .ref dg, .int 1])), (at_, .inl (aL, 16, .inr (.inl (vp_updL (va_cpy f f 1 2 0) 1 a)))), (dg, .inl (aI, 16, .inl (va_cpy g g 1 2 0)))] H := hP
    have hD : va_D A [(h0, .inr (1, [.ref at_, .ref dg, .int 1])), (at_, .inl (aL, 16, .inr (.inl (vp_updL (va_cpy f f 1 2 0) 1 a)))), (dg, .inl (aI, 16, .inl (va_cpy g g 1 2 0)))] := hD
    refine lv_aload_n hx hb dX1_insert_95 rfl (lv_at hl 0 rfl) ?_
    refine va_get (D := D) (ci := 1) (v := .ref dg) (C := RX1) (T := TX1) (N := 3) hx hb hts n_X1_insert_X1 hown hK hP 0 rfl rfl 1 (by decide) (hts (.fieldLink RX1 13 "FaceMap$Nodes" "degree" "[I") (List.mem_of_getElem? (i := 7) rfl)) (fun _ h9 => h9) rfl dX1_insert_96 ?_
    refine lv_iload_n hx hb dX1_insert_99 rfl (lv_at hl 1 rfl) ?_
    refine lv_iconst (v := 0) hx hb dX1_insert_100 (by decide) ?_
    refine va_iast hx hb hK hP hD hS 2 0 rfl rfl (q_ix 1 (by decide) (by decide) (by decide)) dX1_insert_101 (fun H locs hP hD hS => ?_)
    have hP : va_P D q_cl [(h0, .inr (1, [.ref at_, .ref dg, .int 1])), (at_, .inl (aL, 16, .inr (.inl (vp_updL (va_cpy f f 1 2 0) 1 a)))), (dg, .inl (aI, 16, .inl (upd (va_cpy g g 1 2 0) 1 0)))] H := hP
    have hD : va_D A [(h0, .inr (1, [.ref at_, .ref dg, .int 1])), (at_, .inl (aL, 16, .inr (.inl (vp_updL (va_cpy f f 1 2 0) 1 a)))), (dg, .inl (aI, 16, .inl (upd (va_cpy g g 1 2 0) 1 0)))] := hD
    refine lv_aload_n hx hb dX1_insert_102 rfl (lv_at hl 0 rfl) ?_
    refine lv_dup hx hb dX1_insert_103 rfl ?_
    refine va_get (D := D) (ci := 1) (v := .int 1) (C := RX1) (T := TX1) (N := 3) hx hb hts n_X1_insert_X1 hown hK hP 0 rfl rfl 2 (by decide) (hts (.fieldLink RX1 17 "FaceMap$Nodes" "size" "I") (List.mem_of_getElem? (i := 1) rfl)) (fun _ h9 => h9) rfl dX1_insert_104 ?_
    refine lv_iconst (v := 1) hx hb dX1_insert_107 (by decide) ?_
    refine lv_iadd hx hb dX1_insert_108 ?_
    refine q_vi (v := 2) (by decide) ?_
    refine va_put (D := D) (ci := 1) (v := .int 2) (ty := .int) (C := RX1) (T := TX1) (N := 3) hx hb hts n_X1_insert_X1 tyX1 tyX1_ok nmX1 hown hK hP hD hS 0 rfl rfl 2 (by decide) (hts (.fieldLink RX1 17 "FaceMap$Nodes" "size" "I") (List.mem_of_getElem? (i := 1) rfl)) (fun _ h9 => h9) rfl (by decide +kernel) rfl rfl (Nat.le_of_ble_eq_true rfl) dX1_insert_109 (fun H locs hP hD hS => ?_)
    have hP : va_P D q_cl [(h0, .inr (1, [.ref at_, .ref dg, .int 2])), (at_, .inl (aL, 16, .inr (.inl (vp_updL (va_cpy f f 1 2 0) 1 a)))), (dg, .inl (aI, 16, .inl (upd (va_cpy g g 1 2 0) 1 0)))] H := hP
    have hD : va_D A [(h0, .inr (1, [.ref at_, .ref dg, .int 2])), (at_, .inl (aL, 16, .inr (.inl (vp_updL (va_cpy f f 1 2 0) 1 a)))), (dg, .inl (aI, 16, .inl (upd (va_cpy g g 1 2 0) 1 0)))] := hD
    have hP9 := hP.sub (ws' := [(h0, .inr (1, [.ref at_, .ref dg, .int 2])), (at_, .inl (aL, 16, .inr (.inl (vp_updL (va_cpy f f 1 2 0) 1 a)))), (dg, .inl (aI, 16, .inl (upd (va_cpy g g 1 2 0) 1 0)))]) [0, 1, 2] rfl
    have hD9 := hD.sub (ws' := [(h0, .inr (1, [.ref at_, .ref dg, .int 2])), (at_, .inl (aL, 16, .inr (.inl (vp_updL (va_cpy f f 1 2 0) 1 a)))), (dg, .inl (aI, 16, .inl (upd (va_cpy g g 1 2 0) 1 0)))]) [0, 1, 2] (by decide) rfl
    exact q_retv ((vp_updL (va_cpy f f 1 2 0) 1 a), (upd (va_cpy g g 1 2 0) 1 0)) hx hb hr hlocks hK hP9 hD9 hS (Nat.le_of_ble_eq_true rfl) (Nat.le_of_ble_eq_true rfl) (trivial) dX1_insert_112
  · exact absurd c_1 (by decide)
def vsX1_addEnd : List Cond := .code yX1_addEnd cX1_addEnd 4 none :: ([.fieldLink RX1 13 "FaceMap$Nodes" "degree" "[I", .methodLink RX1 21 yX1_rank, .instanceMethod yX1_rank, .selects RX1 yX1_rank yX1_rank, .initialized RX1, .code yX1_rank cX1_rank 6 (some .int), .fieldLink RX1 17 "FaceMap$Nodes" "size" "I", .fieldLink RX1 9 "FaceMap$Nodes" "at" "[J", .methodLink RX1 25 yX1_isAt, .instanceMethod yX1_isAt, .selects RX1 yX1_isAt yX1_isAt, .code yX1_isAt cX1_isAt 4 (some .boolean), .methodLink RX1 29 yX1_insert, .instanceMethod yX1_insert, .selects RX1 yX1_insert yX1_insert, .code yX1_insert cX1_insert 4 none, .methodLink RX1 42 arraycopyName, .native arraycopyName, .static arraycopyName, .initialized "java/lang/System"] ++ wsX10)
set_option maxRecDepth 20000 in
theorem g_X1_addEnd_X1_rank_21 : GoodIn vsX1_addEnd (wsV RX1 21 RX1 yX1_rank vsX1_rank) := goodIn_r _ [2, 3, 4, 5, 6, 7, 8, 21, 22, 23] rfl (by decide +kernel)
set_option maxRecDepth 20000 in
theorem g_X1_addEnd_X1_isAt_25 : GoodIn vsX1_addEnd (wsV RX1 25 RX1 yX1_isAt vsX1_isAt) := goodIn_r _ [9, 10, 11, 5, 12, 7, 21, 22, 23] rfl (by decide +kernel)
set_option maxRecDepth 20000 in
theorem g_X1_addEnd_X1_insert_29 : GoodIn vsX1_addEnd (wsV RX1 29 RX1 yX1_insert vsX1_insert) := goodIn_r _ [13, 14, 15, 5, 16, 7, 8, 17, 18, 19, 20, 1, 21, 22, 23] rfl (by decide +kernel)
set_option maxRecDepth 20000 in
theorem n_X1_addEnd_X1 : ∀ w ∈ wsX10, w ∈ vsX1_addEnd := fun _ h => List.mem_cons_of_mem _ (List.mem_append_right _ h)
set_option maxHeartbeats 4000000 in
set_option maxRecDepth 100000 in
/-- Nodes.addEnd, the first -/
theorem c_X1_addEnd_0 (l : Launch) (D : va_G) (aI aL aZ : ClassId) (h0 : Nat) (at_ : Nat) (dg : Nat) (f : Nat → Int64) (g : Nat → Int32) (a : Int64) (sz : Nat) : MV l D q_cl (q_ty aI aL aZ) yX1_addEnd vsX1_addEnd 3 0 0 [.ref h0, .long a] [(h0, .inr (1, [.ref at_, .ref dg, .int 0])), (at_, .inl (aL, 16, .inr (.inl f))), (dg, .inl (aI, 16, .inl g))] sz (fun (u : (Nat → Int64) × (Nat → Int32)) => u.1 0 = a) (fun (u : (Nat → Int64) × (Nat → Int32)) => [(h0, .inr (1, [.ref at_, .ref dg, .int 1])), (at_, .inl (aL, 16, .inr (.inl u.1))), (dg, .inl (aI, 16, .inl u.2))]) := by
  refine q_in cX1_addEnd 4 none (qQv D q_cl (q_ty aI aL aZ) _ _) (by decide) rfl (Nat.le_of_ble_eq_true rfl) ?_
  intro p e s m args below meth c A ls hat hP hD hS hl
  obtain ⟨hx, hb, hr, hts, hown, hlocks, hml, hin, hK, hN, hA⟩ := hat
  have hown : s.vm.findClass RX1 = some m.cls := hown
  have hl : lv_has ls 4 [(0, .ref h0), (1, .long a)] := hl
  refine lv_aload_n hx hb dX1_addEnd_0 rfl (lv_at hl 0 rfl) ?_
  refine lv_lload_n hx hb dX1_addEnd_1 rfl (lv_at hl 1 rfl) ?_
  refine q_i (wr := [(at_, .inl (aL, 16, .inr (.inl f))), (dg, .inl (aI, 16, .inl g))]) (q_runV (As := [.long a]) (rest := []) ⟨hx, hb, hml, hown, hts⟩ (c_X1_rank_0 l D aI aL aZ h0 at_ dg a _) (cwV 1 hts g_X1_addEnd_X1_rank_21 rfl rfl rfl (by decide +kernel) ⟨Nat.le_of_ble_eq_true rfl, Nat.le_of_ble_eq_true rfl⟩) hK hN hP hD [0] rfl (by decide) rfl rfl rfl hl.1 rfl (Nat.le_of_ble_eq_true rfl) dX1_addEnd_2 ⟨Nat.le_of_ble_eq_true rfl, Nat.le_of_ble_eq_true rfl⟩) hP hD hS hA [0] [1, 2] rfl rfl (by decide) (by decide) (fun r_1 u_1 H locs hw hP hD hS => ?_)
  subst hw
  have hP : va_P D q_cl [(at_, .inl (aL, 16, .inr (.inl f))), (dg, .inl (aI, 16, .inl g)), (h0, .inr (1, [.ref at_, .ref dg, .int 0]))] H := hP
  have hD : va_D A [(at_, .inl (aL, 16, .inr (.inl f))), (dg, .inl (aI, 16, .inl g)), (h0, .inr (1, [.ref at_, .ref dg, .int 0]))] := hD
  refine lv_istore_n (lv' := [(3, .int 0), (0, .ref h0), (1, .long a)]) hx hb dX1_addEnd_5 rfl hl (by decide) rfl (fun ls hl => ?_)
  refine lv_aload_n hx hb dX1_addEnd_6 rfl (lv_at hl 1 rfl) ?_
  refine lv_iload_n hx hb dX1_addEnd_7 rfl (lv_at hl 0 rfl) ?_
  refine lv_lload_n hx hb dX1_addEnd_8 rfl (lv_at hl 2 rfl) ?_
  refine q_i (wr := [(at_, .inl (aL, 16, .inr (.inl f))), (dg, .inl (aI, 16, .inl g))]) (q_runV (As := [.int 0, .long a]) (rest := []) ⟨hx, hb, hml, hown, hts⟩ (c_X1_isAt_0 l D aI aL aZ h0 at_ dg a _) (cwV 2 hts g_X1_addEnd_X1_isAt_25 rfl rfl rfl (by decide +kernel) ⟨Nat.le_of_ble_eq_true rfl, Nat.le_of_ble_eq_true rfl⟩) hK hN hP hD [2] rfl (by decide) rfl rfl rfl hl.1 rfl (Nat.le_of_ble_eq_true rfl) dX1_addEnd_9 ⟨Nat.le_of_ble_eq_true rfl, Nat.le_of_ble_eq_true rfl⟩) hP hD hS hA [2] [0, 1] rfl rfl (by decide) (by decide) (fun r_2 u_2 H locs hw hP hD hS => ?_)
  subst hw
  have hP : va_P D q_cl [(at_, .inl (aL, 16, .inr (.inl f))), (dg, .inl (aI, 16, .inl g)), (h0, .inr (1, [.ref at_, .ref dg, .int 0]))] H := hP
  have hD : va_D A [(at_, .inl (aL, 16, .inr (.inl f))), (dg, .inl (aI, 16, .inl g)), (h0, .inr (1, [.ref at_, .ref dg, .int 0]))] := hD
  refine lv_if_ne (tgt := 21) hx hb dX1_addEnd_12 (by decide) (fun c_3 => ?_) (fun c_3 => ?_)
  · exact absurd c_3 (by decide)
  · refine lv_aload_n hx hb dX1_addEnd_15 rfl (lv_at hl 1 rfl) ?_
    refine lv_iload_n hx hb dX1_addEnd_16 rfl (lv_at hl 0 rfl) ?_
    refine lv_lload_n hx hb dX1_addEnd_17 rfl (lv_at hl 2 rfl) ?_
    refine q_v (wr := []) (q_runV (As := [.int 0, .long a]) (rest := []) ⟨hx, hb, hml, hown, hts⟩ (c_X1_insert_0 l D aI aL aZ h0 at_ dg f g a _) (cwV 2 hts g_X1_addEnd_X1_insert_29 rfl rfl rfl (by decide +kernel) ⟨Nat.le_of_ble_eq_true rfl, Nat.le_of_ble_eq_true rfl⟩) hK hN hP hD [2, 0, 1] rfl (by decide) rfl rfl rfl hl.1 rfl (Nat.le_of_ble_eq_true rfl) dX1_addEnd_18 ⟨Nat.le_of_ble_eq_true rfl, Nat.le_of_ble_eq_true rfl⟩) hP hD hS hA [2, 0, 1] [] rfl rfl (by decide) (by decide) (fun u_4 H locs hw hP hD hS => ?_)
    obtain ⟨f2_4, g2_4⟩ := u_4
    have f4_0 := hw
    have hP : va_P D q_cl [(h0, .inr (1, [.ref at_, .ref dg, .int 1])), (at_, .inl (aL, 16, .inr (.inl f2_4))), (dg, .inl (aI, 16, .inl g2_4))] H := hP
    have hD : va_D A [(h0, .inr (1, [.ref at_, .ref dg, .int 1])), (at_, .inl (aL, 16, .inr (.inl f2_4))), (dg, .inl (aI, 16, .inl g2_4))] := hD
    refine lv_aload_n hx hb dX1_addEnd_21 rfl (lv_at hl 1 rfl) ?_
    refine va_get (D := D) (ci := 1) (v := .ref dg) (C := RX1) (T := TX1) (N := 3) hx hb hts n_X1_addEnd_X1 hown hK hP 0 rfl rfl 1 (by decide) (hts (.fieldLink RX1 13 "FaceMap$Nodes" "degree" "[I") (List.mem_of_getElem? (i := 1) rfl)) (fun _ h9 => h9) rfl dX1_addEnd_22 ?_
    refine lv_iload_n hx hb dX1_addEnd_25 rfl (lv_at hl 0 rfl) ?_
    refine lv_dup2_11 hx hb dX1_addEnd_26 rfl rfl ?_
    refine va_iald hx hb hK hP 2 0 rfl rfl (q_ix 0 (by decide) (by decide) (by decide)) dX1_addEnd_27 ?_
    refine q_vi (v := (g2_4 0)) rfl ?_
    refine lv_iconst (v := 1) hx hb dX1_addEnd_28 (by decide) ?_
    refine lv_iadd hx hb dX1_addEnd_29 ?_
    refine va_iast hx hb hK hP hD hS 2 0 rfl rfl (q_ix 0 (by decide) (by decide) (by decide)) dX1_addEnd_30 (fun H locs hP hD hS => ?_)
    have hP : va_P D q_cl [(h0, .inr (1, [.ref at_, .ref dg, .int 1])), (at_, .inl (aL, 16, .inr (.inl f2_4))), (dg, .inl (aI, 16, .inl (upd g2_4 0 ((g2_4 0) + 1))))] H := hP
    have hD : va_D A [(h0, .inr (1, [.ref at_, .ref dg, .int 1])), (at_, .inl (aL, 16, .inr (.inl f2_4))), (dg, .inl (aI, 16, .inl (upd g2_4 0 ((g2_4 0) + 1))))] := hD
    have hP9 := hP.sub (ws' := [(h0, .inr (1, [.ref at_, .ref dg, .int 1])), (at_, .inl (aL, 16, .inr (.inl f2_4))), (dg, .inl (aI, 16, .inl (upd g2_4 0 ((g2_4 0) + 1))))]) [0, 1, 2] rfl
    have hD9 := hD.sub (ws' := [(h0, .inr (1, [.ref at_, .ref dg, .int 1])), (at_, .inl (aL, 16, .inr (.inl f2_4))), (dg, .inl (aI, 16, .inl (upd g2_4 0 ((g2_4 0) + 1))))]) [0, 1, 2] (by decide) rfl
    exact q_retv (f2_4, (upd g2_4 0 ((g2_4 0) + 1))) hx hb hr hlocks hK hP9 hD9 hS (Nat.le_of_ble_eq_true rfl) (Nat.le_of_ble_eq_true rfl) ((by first | assumption | decide | omega | simp_all)) dX1_addEnd_31
set_option maxHeartbeats 4000000 in
set_option maxRecDepth 100000 in
/-- Nodes.addEnd, the second, beyond the first -/
theorem c_X1_addEnd_1 (l : Launch) (D : va_G) (aI aL aZ : ClassId) (h0 : Nat) (at_ : Nat) (dg : Nat) (f : Nat → Int64) (g : Nat → Int32) (b : Int64) (a : Int64) (hf : f 0 = b) (hba : b < a) (sz : Nat) : MV l D q_cl (q_ty aI aL aZ) yX1_addEnd vsX1_addEnd 3 0 0 [.ref h0, .long a] [(h0, .inr (1, [.ref at_, .ref dg, .int 1])), (at_, .inl (aL, 16, .inr (.inl f))), (dg, .inl (aI, 16, .inl g))] sz (fun (u : Unit) => True) (fun (u : Unit) => [(h0, .inr (1, [.ref at_, .ref dg, .int 2]))]) := by
  refine q_in cX1_addEnd 4 none (qQv D q_cl (q_ty aI aL aZ) _ _) (by decide) rfl (Nat.le_of_ble_eq_true rfl) ?_
  intro p e s m args below meth c A ls hat hP hD hS hl
  obtain ⟨hx, hb, hr, hts, hown, hlocks, hml, hin, hK, hN, hA⟩ := hat
  have hown : s.vm.findClass RX1 = some m.cls := hown
  have hl : lv_has ls 4 [(0, .ref h0), (1, .long a)] := hl
  refine lv_aload_n hx hb dX1_addEnd_0 rfl (lv_at hl 0 rfl) ?_
  refine lv_lload_n hx hb dX1_addEnd_1 rfl (lv_at hl 1 rfl) ?_
  refine q_i (wr := [(dg, .inl (aI, 16, .inl g))]) (q_runV (As := [.long a]) (rest := []) ⟨hx, hb, hml, hown, hts⟩ (c_X1_rank_1 l D aI aL aZ h0 at_ dg f b a hf hba _) (cwV 1 hts g_X1_addEnd_X1_rank_21 rfl rfl rfl (by decide +kernel) ⟨Nat.le_of_ble_eq_true rfl, Nat.le_of_ble_eq_true rfl⟩) hK hN hP hD [0, 1] rfl (by decide) rfl rfl rfl hl.1 rfl (Nat.le_of_ble_eq_true rfl) dX1_addEnd_2 ⟨Nat.le_of_ble_eq_true rfl, Nat.le_of_ble_eq_true rfl⟩) hP hD hS hA [0, 1] [2] rfl rfl (by decide) (by decide) (fun r_1 u_1 H locs hw hP hD hS => ?_)
  subst hw
  have hP : va_P D q_cl [(dg, .inl (aI, 16, .inl g)), (h0, .inr (1, [.ref at_, .ref dg, .int 1])), (at_, .inl (aL, 16, .inr (.inl f)))] H := hP
  have hD : va_D A [(dg, .inl (aI, 16, .inl g)), (h0, .inr (1, [.ref at_, .ref dg, .int 1])), (at_, .inl (aL, 16, .inr (.inl f)))] := hD
  refine lv_istore_n (lv' := [(3, .int 1), (0, .ref h0), (1, .long a)]) hx hb dX1_addEnd_5 rfl hl (by decide) rfl (fun ls hl => ?_)
  refine lv_aload_n hx hb dX1_addEnd_6 rfl (lv_at hl 1 rfl) ?_
  refine lv_iload_n hx hb dX1_addEnd_7 rfl (lv_at hl 0 rfl) ?_
  refine lv_lload_n hx hb dX1_addEnd_8 rfl (lv_at hl 2 rfl) ?_
  refine q_i (wr := [(dg, .inl (aI, 16, .inl g)), (at_, .inl (aL, 16, .inr (.inl f)))]) (q_runV (As := [.int 1, .long a]) (rest := []) ⟨hx, hb, hml, hown, hts⟩ (c_X1_isAt_1 l D aI aL aZ h0 at_ dg a _) (cwV 2 hts g_X1_addEnd_X1_isAt_25 rfl rfl rfl (by decide +kernel) ⟨Nat.le_of_ble_eq_true rfl, Nat.le_of_ble_eq_true rfl⟩) hK hN hP hD [1] rfl (by decide) rfl rfl rfl hl.1 rfl (Nat.le_of_ble_eq_true rfl) dX1_addEnd_9 ⟨Nat.le_of_ble_eq_true rfl, Nat.le_of_ble_eq_true rfl⟩) hP hD hS hA [1] [0, 2] rfl rfl (by decide) (by decide) (fun r_2 u_2 H locs hw hP hD hS => ?_)
  subst hw
  have hP : va_P D q_cl [(dg, .inl (aI, 16, .inl g)), (at_, .inl (aL, 16, .inr (.inl f))), (h0, .inr (1, [.ref at_, .ref dg, .int 1]))] H := hP
  have hD : va_D A [(dg, .inl (aI, 16, .inl g)), (at_, .inl (aL, 16, .inr (.inl f))), (h0, .inr (1, [.ref at_, .ref dg, .int 1]))] := hD
  refine lv_if_ne (tgt := 21) hx hb dX1_addEnd_12 (by decide) (fun c_3 => ?_) (fun c_3 => ?_)
  · exact absurd c_3 (by decide)
  · refine lv_aload_n hx hb dX1_addEnd_15 rfl (lv_at hl 1 rfl) ?_
    refine lv_iload_n hx hb dX1_addEnd_16 rfl (lv_at hl 0 rfl) ?_
    refine lv_lload_n hx hb dX1_addEnd_17 rfl (lv_at hl 2 rfl) ?_
    refine q_v (wr := []) (q_runV (As := [.int 1, .long a]) (rest := []) ⟨hx, hb, hml, hown, hts⟩ (c_X1_insert_1 l D aI aL aZ h0 at_ dg f g a _) (cwV 2 hts g_X1_addEnd_X1_insert_29 rfl rfl rfl (by decide +kernel) ⟨Nat.le_of_ble_eq_true rfl, Nat.le_of_ble_eq_true rfl⟩) hK hN hP hD [2, 1, 0] rfl (by decide) rfl rfl rfl hl.1 rfl (Nat.le_of_ble_eq_true rfl) dX1_addEnd_18 ⟨Nat.le_of_ble_eq_true rfl, Nat.le_of_ble_eq_true rfl⟩) hP hD hS hA [2, 1, 0] [] rfl rfl (by decide) (by decide) (fun u_4 H locs hw hP hD hS => ?_)
    obtain ⟨f2_4, g2_4⟩ := u_4
    have hP : va_P D q_cl [(h0, .inr (1, [.ref at_, .ref dg, .int 2])), (at_, .inl (aL, 16, .inr (.inl f2_4))), (dg, .inl (aI, 16, .inl g2_4))] H := hP
    have hD : va_D A [(h0, .inr (1, [.ref at_, .ref dg, .int 2])), (at_, .inl (aL, 16, .inr (.inl f2_4))), (dg, .inl (aI, 16, .inl g2_4))] := hD
    refine lv_aload_n hx hb dX1_addEnd_21 rfl (lv_at hl 1 rfl) ?_
    refine va_get (D := D) (ci := 1) (v := .ref dg) (C := RX1) (T := TX1) (N := 3) hx hb hts n_X1_addEnd_X1 hown hK hP 0 rfl rfl 1 (by decide) (hts (.fieldLink RX1 13 "FaceMap$Nodes" "degree" "[I") (List.mem_of_getElem? (i := 1) rfl)) (fun _ h9 => h9) rfl dX1_addEnd_22 ?_
    refine lv_iload_n hx hb dX1_addEnd_25 rfl (lv_at hl 0 rfl) ?_
    refine lv_dup2_11 hx hb dX1_addEnd_26 rfl rfl ?_
    refine va_iald hx hb hK hP 2 0 rfl rfl (q_ix 1 (by decide) (by decide) (by decide)) dX1_addEnd_27 ?_
    refine q_vi (v := (g2_4 1)) rfl ?_
    refine lv_iconst (v := 1) hx hb dX1_addEnd_28 (by decide) ?_
    refine lv_iadd hx hb dX1_addEnd_29 ?_
    refine va_iast hx hb hK hP hD hS 2 0 rfl rfl (q_ix 1 (by decide) (by decide) (by decide)) dX1_addEnd_30 (fun H locs hP hD hS => ?_)
    have hP : va_P D q_cl [(h0, .inr (1, [.ref at_, .ref dg, .int 2])), (at_, .inl (aL, 16, .inr (.inl f2_4))), (dg, .inl (aI, 16, .inl (upd g2_4 1 ((g2_4 1) + 1))))] H := hP
    have hD : va_D A [(h0, .inr (1, [.ref at_, .ref dg, .int 2])), (at_, .inl (aL, 16, .inr (.inl f2_4))), (dg, .inl (aI, 16, .inl (upd g2_4 1 ((g2_4 1) + 1))))] := hD
    have hP9 := hP.sub (ws' := [(h0, .inr (1, [.ref at_, .ref dg, .int 2]))]) [0] rfl
    have hD9 := hD.sub (ws' := [(h0, .inr (1, [.ref at_, .ref dg, .int 2]))]) [0] (by decide) rfl
    exact q_retv () hx hb hr hlocks hK hP9 hD9 hS (Nat.le_of_ble_eq_true rfl) (Nat.le_of_ble_eq_true rfl) (trivial) dX1_addEnd_31
