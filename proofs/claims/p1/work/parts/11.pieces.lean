def vsX2_init : List Cond := .code yX2_init cX2_init 1 none :: ([.methodLink RX2 1 objectInit, .instanceMethod objectInit, .code objectInit ⟨#[0xb1]⟩ 1 none, .arrayClass .long, .fieldLink RX2 9 "FaceMap$Pieces" "low" "[J", .fieldLink RX2 13 "FaceMap$Pieces" "high" "[J", .fieldLink RX2 16 "FaceMap$Pieces" "size" "I"] ++ wsX20)
set_option maxRecDepth 20000 in
theorem n_X2_init_X2 : ∀ w ∈ wsX20, w ∈ vsX2_init := fun _ h => List.mem_cons_of_mem _ (List.mem_append_right _ h)
set_option maxHeartbeats 4000000 in
set_option maxRecDepth 100000 in
/-- Pieces() -/
theorem c_X2_init (l : Launch) (D : va_G) (aI aL aZ : ClassId) (h0 : Nat) (sz : Nat) : MV l D q_cl (q_ty aI aL aZ) yX2_init vsX2_init 1 2 16 [.ref h0] [(h0, .inr (2, [.null, .null, .int 0]))] sz (fun (u : Nat × Nat) => True) (fun (u : Nat × Nat) => [(h0, .inr (2, [.ref u.1, .ref u.2, .int 0])), (u.1, .inl (aL, 8, .inr (.inl (fun _ => 0)))), (u.2, .inl (aL, 8, .inr (.inl (fun _ => 0))))]) := by
  refine q_in cX2_init 1 none (qQv D q_cl (q_ty aI aL aZ) _ _) (by decide) rfl (Nat.le_of_ble_eq_true rfl) ?_
  intro p e s m args below meth c A ls hat hP hD hS hl
  obtain ⟨hx, hb, hr, hts, hown, hlocks, hml, hin, hK, hN, hA⟩ := hat
  have hown : s.vm.findClass RX2 = some m.cls := hown
  have hl : lv_has ls 1 [(0, .ref h0)] := hl
  refine lv_aload_n hx hb dX2_init_0 rfl (lv_at hl 0 rfl) ?_
  refine W.objInit hx hb hown (hts (.methodLink RX2 1 objectInit) (List.mem_of_getElem? (i := 1) rfl)) (hts (.instanceMethod objectInit) (List.mem_of_getElem? (i := 2) rfl)) (hts (.code objectInit ⟨#[0xb1]⟩ 1 none) (List.mem_of_getElem? (i := 3) rfl)) rfl (by rw [hml]; exact hl.1) rfl dX2_init_1 (Nat.le_of_ble_eq_true rfl) (Nat.le_of_ble_eq_true rfl) ?_
  refine W.eq (g2 := F0 m 4 ls []) rfl ?_
  refine lv_aload_n hx hb dX2_init_4 rfl (lv_at hl 0 rfl) ?_
  refine lv_bipush (v := 8) hx hb dX2_init_5 (by decide) ?_
  refine q_newL 8 hx hb (hts (.arrayClass .long) (List.mem_of_getElem? (i := 4) rfl)) hK hP hD hS hA 1 rfl (by decide) (by decide) (by decide) (Nat.le_of_ble_eq_true rfl) (Nat.le_of_ble_eq_true rfl) dX2_init_7 (fun q1 H hP hD hS => ?_)
  have hP : va_P D q_cl [(h0, .inr (2, [.null, .null, .int 0])), (q1, .inl (aL, 8, .inr (.inl (fun _ => 0))))] H := hP
  have hD : va_D A [(h0, .inr (2, [.null, .null, .int 0])), (q1, .inl (aL, 8, .inr (.inl (fun _ => 0))))] := hD
  refine va_put (D := D) (ci := 2) (v := .ref q1) (ty := (.array .long)) (C := RX2) (T := TX2) (N := 3) hx hb hts n_X2_init_X2 tyX2 tyX2_ok nmX2 hown hK hP hD hS 0 rfl rfl 0 (by decide) (hts (.fieldLink RX2 9 "FaceMap$Pieces" "low" "[J") (List.mem_of_getElem? (i := 5) rfl)) (fun _ h9 => h9) rfl (by decide +kernel) rfl rfl (Nat.le_of_ble_eq_true rfl) dX2_init_9 (fun H locs hP hD hS => ?_)
  have hP : va_P D q_cl [(h0, .inr (2, [.ref q1, .null, .int 0])), (q1, .inl (aL, 8, .inr (.inl (fun _ => 0))))] H := hP
  have hD : va_D A [(h0, .inr (2, [.ref q1, .null, .int 0])), (q1, .inl (aL, 8, .inr (.inl (fun _ => 0))))] := hD
  refine lv_aload_n hx hb dX2_init_12 rfl (lv_at hl 0 rfl) ?_
  refine lv_bipush (v := 8) hx hb dX2_init_13 (by decide) ?_
  refine q_newL 8 hx hb (hts (.arrayClass .long) (List.mem_of_getElem? (i := 4) rfl)) hK hP hD hS hA 1 rfl (by decide) (by decide) (by decide) (Nat.le_of_ble_eq_true rfl) (Nat.le_of_ble_eq_true rfl) dX2_init_15 (fun q2 H hP hD hS => ?_)
  have hP : va_P D q_cl [(h0, .inr (2, [.ref q1, .null, .int 0])), (q1, .inl (aL, 8, .inr (.inl (fun _ => 0)))), (q2, .inl (aL, 8, .inr (.inl (fun _ => 0))))] H := hP
  have hD : va_D A [(h0, .inr (2, [.ref q1, .null, .int 0])), (q1, .inl (aL, 8, .inr (.inl (fun _ => 0)))), (q2, .inl (aL, 8, .inr (.inl (fun _ => 0))))] := hD
  refine va_put (D := D) (ci := 2) (v := .ref q2) (ty := (.array .long)) (C := RX2) (T := TX2) (N := 3) hx hb hts n_X2_init_X2 tyX2 tyX2_ok nmX2 hown hK hP hD hS 0 rfl rfl 1 (by decide) (hts (.fieldLink RX2 13 "FaceMap$Pieces" "high" "[J") (List.mem_of_getElem? (i := 6) rfl)) (fun _ h9 => h9) rfl (by decide +kernel) rfl rfl (Nat.le_of_ble_eq_true rfl) dX2_init_17 (fun H locs hP hD hS => ?_)
  have hP : va_P D q_cl [(h0, .inr (2, [.ref q1, .ref q2, .int 0])), (q1, .inl (aL, 8, .inr (.inl (fun _ => 0)))), (q2, .inl (aL, 8, .inr (.inl (fun _ => 0))))] H := hP
  have hD : va_D A [(h0, .inr (2, [.ref q1, .ref q2, .int 0])), (q1, .inl (aL, 8, .inr (.inl (fun _ => 0)))), (q2, .inl (aL, 8, .inr (.inl (fun _ => 0))))] := hD
  refine lv_aload_n hx hb dX2_init_20 rfl (lv_at hl 0 rfl) ?_
  refine lv_iconst (v := 0) hx hb dX2_init_21 (by decide) ?_
  refine va_put (D := D) (ci := 2) (v := .int 0) (ty := .int) (C := RX2) (T := TX2) (N := 3) hx hb hts n_X2_init_X2 tyX2 tyX2_ok nmX2 hown hK hP hD hS 0 rfl rfl 2 (by decide) (hts (.fieldLink RX2 16 "FaceMap$Pieces" "size" "I") (List.mem_of_getElem? (i := 7) rfl)) (fun _ h9 => h9) rfl (by decide +kernel) rfl rfl (Nat.le_of_ble_eq_true rfl) dX2_init_22 (fun H locs hP hD hS => ?_)
  have hP : va_P D q_cl [(h0, .inr (2, [.ref q1, .ref q2, .int 0])), (q1, .inl (aL, 8, .inr (.inl (fun _ => 0)))), (q2, .inl (aL, 8, .inr (.inl (fun _ => 0))))] H := hP
  have hD : va_D A [(h0, .inr (2, [.ref q1, .ref q2, .int 0])), (q1, .inl (aL, 8, .inr (.inl (fun _ => 0)))), (q2, .inl (aL, 8, .inr (.inl (fun _ => 0))))] := hD
  have hP9 := hP.sub (ws' := [(h0, .inr (2, [.ref q1, .ref q2, .int 0])), (q1, .inl (aL, 8, .inr (.inl (fun _ => 0)))), (q2, .inl (aL, 8, .inr (.inl (fun _ => 0))))]) [0, 1, 2] rfl
  have hD9 := hD.sub (ws' := [(h0, .inr (2, [.ref q1, .ref q2, .int 0])), (q1, .inl (aL, 8, .inr (.inl (fun _ => 0)))), (q2, .inl (aL, 8, .inr (.inl (fun _ => 0))))]) [0, 1, 2] (by decide) rfl
  exact q_retv (q1, q2) hx hb hr hlocks hK hP9 hD9 hS (Nat.le_of_ble_eq_true rfl) (Nat.le_of_ble_eq_true rfl) (trivial) dX2_init_25
def vsX2_room : List Cond := .code yX2_room cX2_room 1 (some .int) :: ([.fieldLink RX2 9 "FaceMap$Pieces" "low" "[J"] ++ wsX20)
set_option maxRecDepth 20000 in
theorem n_X2_room_X2 : ∀ w ∈ wsX20, w ∈ vsX2_room := fun _ h => List.mem_cons_of_mem _ (List.mem_append_right _ h)
set_option maxHeartbeats 4000000 in
set_option maxRecDepth 100000 in
/-- Pieces.room, at 8 -/
theorem c_X2_room (l : Launch) (D : va_G) (aI aL aZ : ClassId) (h0 : Nat) (lo : Nat) (hi : Nat) (f : Nat → Int64) (sz : Nat) : MI l D q_cl (q_ty aI aL aZ) yX2_room vsX2_room 0 0 0 [.ref h0] [(h0, .inr (2, [.ref lo, .ref hi, .int 0])), (lo, .inl (aL, 8, .inr (.inl f)))] sz (fun (r : Int32) (u : Unit) => r = 8) (fun (u : Unit) => [(h0, .inr (2, [.ref lo, .ref hi, .int 0])), (lo, .inl (aL, 8, .inr (.inl f)))]) := by
  refine q_in cX2_room 1 (some .int) (qQi D q_cl (q_ty aI aL aZ) _ _) (by decide) rfl (Nat.le_of_ble_eq_true rfl) ?_
  intro p e s m args below meth c A ls hat hP hD hS hl
  obtain ⟨hx, hb, hr, hts, hown, hlocks, hml, hin, hK, hN, hA⟩ := hat
  have hown : s.vm.findClass RX2 = some m.cls := hown
  have hl : lv_has ls 1 [(0, .ref h0)] := hl
  refine lv_aload_n hx hb dX2_room_0 rfl (lv_at hl 0 rfl) ?_
  refine va_get (D := D) (ci := 2) (v := .ref lo) (C := RX2) (T := TX2) (N := 3) hx hb hts n_X2_room_X2 hown hK hP 0 rfl rfl 0 (by decide) (hts (.fieldLink RX2 9 "FaceMap$Pieces" "low" "[J") (List.mem_of_getElem? (i := 1) rfl)) (fun _ h9 => h9) rfl dX2_room_1 ?_
  refine va_alen (v := 8) hx hb hK hP 1 1 rfl rfl rfl dX2_room_4 ?_
  have hP9 := hP.sub (ws' := [(h0, .inr (2, [.ref lo, .ref hi, .int 0])), (lo, .inl (aL, 8, .inr (.inl f)))]) [0, 1] rfl
  have hD9 := hD.sub (ws' := [(h0, .inr (2, [.ref lo, .ref hi, .int 0])), (lo, .inl (aL, 8, .inr (.inl f)))]) [0, 1] (by decide) rfl
  exact q_reti () hx hb hr hlocks hK hP9 hD9 hS (Nat.le_of_ble_eq_true rfl) (Nat.le_of_ble_eq_true rfl) (rfl) dX2_room_5
def vsX2_rank : List Cond := .code yX2_rank cX2_rank 8 (some .int) :: ([.fieldLink RX2 16 "FaceMap$Pieces" "size" "I"] ++ wsX20)
set_option maxRecDepth 20000 in
theorem n_X2_rank_X2 : ∀ w ∈ wsX20, w ∈ vsX2_rank := fun _ h => List.mem_cons_of_mem _ (List.mem_append_right _ h)
set_option maxHeartbeats 4000000 in
set_option maxRecDepth 100000 in
/-- Pieces.rank, with no piece -/
theorem c_X2_rank_0 (l : Launch) (D : va_G) (aI aL aZ : ClassId) (h0 : Nat) (lo : Nat) (hi : Nat) (a : Int64) (b : Int64) (sz : Nat) : MI l D q_cl (q_ty aI aL aZ) yX2_rank vsX2_rank 0 0 0 [.ref h0, .long a, .long b] [(h0, .inr (2, [.ref lo, .ref hi, .int 0]))] sz (fun (r : Int32) (u : Unit) => r = 0) (fun (u : Unit) => [(h0, .inr (2, [.ref lo, .ref hi, .int 0]))]) := by
  refine q_in cX2_rank 8 (some .int) (qQi D q_cl (q_ty aI aL aZ) _ _) (by decide) rfl (Nat.le_of_ble_eq_true rfl) ?_
  intro p e s m args below meth c A ls hat hP hD hS hl
  obtain ⟨hx, hb, hr, hts, hown, hlocks, hml, hin, hK, hN, hA⟩ := hat
  have hown : s.vm.findClass RX2 = some m.cls := hown
  have hl : lv_has ls 8 [(0, .ref h0), (1, .long a), (3, .long b)] := hl
  refine lv_iconst (v := 0) hx hb dX2_rank_0 (by decide) ?_
  refine lv_istore (lv' := [(5, .int 0), (0, .ref h0), (1, .long a), (3, .long b)]) hx hb dX2_rank_1 hl (by decide) rfl (fun ls hl => ?_)
  refine lv_aload_n hx hb dX2_rank_3 rfl (lv_at hl 1 rfl) ?_
  refine va_get (D := D) (ci := 2) (v := .int 0) (C := RX2) (T := TX2) (N := 3) hx hb hts n_X2_rank_X2 hown hK hP 0 rfl rfl 2 (by decide) (hts (.fieldLink RX2 16 "FaceMap$Pieces" "size" "I") (List.mem_of_getElem? (i := 1) rfl)) (fun _ h9 => h9) rfl dX2_rank_4 ?_
  refine lv_istore (lv' := [(6, .int 0), (5, .int 0), (0, .ref h0), (1, .long a), (3, .long b)]) hx hb dX2_rank_7 hl (by decide) rfl (fun ls hl => ?_)
  refine lv_iload hx hb dX2_rank_9 (lv_at hl 1 rfl) ?_
  refine lv_iload hx hb dX2_rank_11 (lv_at hl 0 rfl) ?_
  refine lv_icmp_ge (tgt := 77) hx hb dX2_rank_13 (by decide) (fun c_1 => ?_) (fun c_1 => ?_)
  · refine lv_iload hx hb dX2_rank_77 (lv_at hl 1 rfl) ?_
    have hP9 := hP.sub (ws' := [(h0, .inr (2, [.ref lo, .ref hi, .int 0]))]) [0] rfl
    have hD9 := hD.sub (ws' := [(h0, .inr (2, [.ref lo, .ref hi, .int 0]))]) [0] (by decide) rfl
    exact q_reti () hx hb hr hlocks hK hP9 hD9 hS (Nat.le_of_ble_eq_true rfl) (Nat.le_of_ble_eq_true rfl) (rfl) dX2_rank_79
  · exact absurd c_1 (by decide)
def vsX2_has : List Cond := .code yX2_has cX2_has 6 (some .boolean) :: ([.fieldLink RX2 16 "FaceMap$Pieces" "size" "I", .methodLink RX2 20 yX2_rank, .instanceMethod yX2_rank, .selects RX2 yX2_rank yX2_rank, .initialized RX2, .code yX2_rank cX2_rank 8 (some .int)] ++ wsX20)
set_option maxRecDepth 20000 in
theorem g_X2_has_X2_rank_20 : GoodIn vsX2_has (wsV RX2 20 RX2 yX2_rank vsX2_rank) := goodIn_r _ [2, 3, 4, 5, 6, 1, 7, 8, 9] rfl (by decide +kernel)
set_option maxRecDepth 20000 in
theorem n_X2_has_X2 : ∀ w ∈ wsX20, w ∈ vsX2_has := fun _ h => List.mem_cons_of_mem _ (List.mem_append_right _ h)
set_option maxHeartbeats 4000000 in
set_option maxRecDepth 100000 in
/-- Pieces.has, with no piece -/
theorem c_X2_has_0 (l : Launch) (D : va_G) (aI aL aZ : ClassId) (h0 : Nat) (lo : Nat) (hi : Nat) (a : Int64) (b : Int64) (sz : Nat) : MI l D q_cl (q_ty aI aL aZ) yX2_has vsX2_has 1 0 0 [.ref h0, .long a, .long b] [(h0, .inr (2, [.ref lo, .ref hi, .int 0]))] sz (fun (r : Int32) (u : Unit) => r = 0) (fun (u : Unit) => [(h0, .inr (2, [.ref lo, .ref hi, .int 0]))]) := by
  refine q_in cX2_has 6 (some .boolean) (qQi D q_cl (q_ty aI aL aZ) _ _) (by decide) rfl (Nat.le_of_ble_eq_true rfl) ?_
  intro p e s m args below meth c A ls hat hP hD hS hl
  obtain ⟨hx, hb, hr, hts, hown, hlocks, hml, hin, hK, hN, hA⟩ := hat
  have hown : s.vm.findClass RX2 = some m.cls := hown
  have hl : lv_has ls 6 [(0, .ref h0), (1, .long a), (3, .long b)] := hl
  refine lv_aload_n hx hb dX2_has_0 rfl (lv_at hl 0 rfl) ?_
  refine lv_lload_n hx hb dX2_has_1 rfl (lv_at hl 1 rfl) ?_
  refine lv_lload_n hx hb dX2_has_2 rfl (lv_at hl 2 rfl) ?_
  refine q_i (wr := []) (q_runV (As := [.long a, .long b]) (rest := []) ⟨hx, hb, hml, hown, hts⟩ (c_X2_rank_0 l D aI aL aZ h0 lo hi a b _) (cwV 2 hts g_X2_has_X2_rank_20 rfl rfl rfl (by decide +kernel) ⟨Nat.le_of_ble_eq_true rfl, Nat.le_of_ble_eq_true rfl⟩) hK hN hP hD [0] rfl (by decide) rfl rfl rfl hl.1 rfl (Nat.le_of_ble_eq_true rfl) dX2_has_3 ⟨Nat.le_of_ble_eq_true rfl, Nat.le_of_ble_eq_true rfl⟩) hP hD hS hA [0] [] rfl rfl (by decide) (by decide) (fun r_1 u_1 H locs hw hP hD hS => ?_)
  subst hw
  have hP : va_P D q_cl [(h0, .inr (2, [.ref lo, .ref hi, .int 0]))] H := hP
  have hD : va_D A [(h0, .inr (2, [.ref lo, .ref hi, .int 0]))] := hD
  refine lv_istore (lv' := [(5, .int 0), (0, .ref h0), (1, .long a), (3, .long b)]) hx hb dX2_has_6 hl (by decide) rfl (fun ls hl => ?_)
  refine lv_iload hx hb dX2_has_8 (lv_at hl 0 rfl) ?_
  refine lv_aload_n hx hb dX2_has_10 rfl (lv_at hl 1 rfl) ?_
  refine va_get (D := D) (ci := 2) (v := .int 0) (C := RX2) (T := TX2) (N := 3) hx hb hts n_X2_has_X2 hown hK hP 0 rfl rfl 2 (by decide) (hts (.fieldLink RX2 16 "FaceMap$Pieces" "size" "I") (List.mem_of_getElem? (i := 1) rfl)) (fun _ h9 => h9) rfl dX2_has_11 ?_
  refine lv_icmp_ge (tgt := 45) hx hb dX2_has_14 (by decide) (fun c_2 => ?_) (fun c_2 => ?_)
  · refine lv_iconst (v := 0) hx hb dX2_has_45 (by decide) ?_
    have hP9 := hP.sub (ws' := [(h0, .inr (2, [.ref lo, .ref hi, .int 0]))]) [0] rfl
    have hD9 := hD.sub (ws' := [(h0, .inr (2, [.ref lo, .ref hi, .int 0]))]) [0] (by decide) rfl
    exact q_retz () hx hb hr (by decide) hlocks hK hP9 hD9 hS (Nat.le_of_ble_eq_true rfl) (Nat.le_of_ble_eq_true rfl) (rfl) dX2_has_46
  · exact absurd c_2 (by decide)
def vsX2_clashWith : List Cond := .code yX2_clashWith cX2_clashWith 6 (some .boolean) :: ([.fieldLink RX2 16 "FaceMap$Pieces" "size" "I"] ++ wsX20)
set_option maxRecDepth 20000 in
theorem n_X2_clashWith_X2 : ∀ w ∈ wsX20, w ∈ vsX2_clashWith := fun _ h => List.mem_cons_of_mem _ (List.mem_append_right _ h)
set_option maxHeartbeats 4000000 in
set_option maxRecDepth 100000 in
/-- Pieces.clashWith, with no piece -/
theorem c_X2_clashWith_0 (l : Launch) (D : va_G) (aI aL aZ : ClassId) (h0 : Nat) (lo : Nat) (hi : Nat) (a : Int64) (b : Int64) (sz : Nat) : MI l D q_cl (q_ty aI aL aZ) yX2_clashWith vsX2_clashWith 0 0 0 [.ref h0, .long a, .long b] [(h0, .inr (2, [.ref lo, .ref hi, .int 0]))] sz (fun (r : Int32) (u : Unit) => r = 0) (fun (u : Unit) => [(h0, .inr (2, [.ref lo, .ref hi, .int 0]))]) := by
  refine q_in cX2_clashWith 6 (some .boolean) (qQi D q_cl (q_ty aI aL aZ) _ _) (by decide) rfl (Nat.le_of_ble_eq_true rfl) ?_
  intro p e s m args below meth c A ls hat hP hD hS hl
  obtain ⟨hx, hb, hr, hts, hown, hlocks, hml, hin, hK, hN, hA⟩ := hat
  have hown : s.vm.findClass RX2 = some m.cls := hown
  have hl : lv_has ls 6 [(0, .ref h0), (1, .long a), (3, .long b)] := hl
  refine lv_iconst (v := 0) hx hb dX2_clashWith_0 (by decide) ?_
  refine lv_istore (lv' := [(5, .int 0), (0, .ref h0), (1, .long a), (3, .long b)]) hx hb dX2_clashWith_1 hl (by decide) rfl (fun ls hl => ?_)
  refine lv_iload hx hb dX2_clashWith_3 (lv_at hl 0 rfl) ?_
  refine lv_aload_n hx hb dX2_clashWith_5 rfl (lv_at hl 1 rfl) ?_
  refine va_get (D := D) (ci := 2) (v := .int 0) (C := RX2) (T := TX2) (N := 3) hx hb hts n_X2_clashWith_X2 hown hK hP 0 rfl rfl 2 (by decide) (hts (.fieldLink RX2 16 "FaceMap$Pieces" "size" "I") (List.mem_of_getElem? (i := 1) rfl)) (fun _ h9 => h9) rfl dX2_clashWith_6 ?_
  refine lv_icmp_ge (tgt := 66) hx hb dX2_clashWith_9 (by decide) (fun c_1 => ?_) (fun c_1 => ?_)
  · refine lv_iconst (v := 0) hx hb dX2_clashWith_66 (by decide) ?_
    have hP9 := hP.sub (ws' := [(h0, .inr (2, [.ref lo, .ref hi, .int 0]))]) [0] rfl
    have hD9 := hD.sub (ws' := [(h0, .inr (2, [.ref lo, .ref hi, .int 0]))]) [0] (by decide) rfl
    exact q_retz () hx hb hr (by decide) hlocks hK hP9 hD9 hS (Nat.le_of_ble_eq_true rfl) (Nat.le_of_ble_eq_true rfl) (rfl) dX2_clashWith_67
  · exact absurd c_1 (by decide)
def vsX2_add : List Cond := .code yX2_add cX2_add 6 none :: ([.fieldLink RX2 16 "FaceMap$Pieces" "size" "I", .fieldLink RX2 9 "FaceMap$Pieces" "low" "[J", .methodLink RX2 36 arraycopyName, .native arraycopyName, .static arraycopyName, .initialized "java/lang/System", .fieldLink RX2 13 "FaceMap$Pieces" "high" "[J", .methodLink RX2 20 yX2_rank, .instanceMethod yX2_rank, .selects RX2 yX2_rank yX2_rank, .initialized RX2, .code yX2_rank cX2_rank 8 (some .int)] ++ wsX20)
set_option maxRecDepth 20000 in
theorem n_X2_add_X2 : ∀ w ∈ wsX20, w ∈ vsX2_add := fun _ h => List.mem_cons_of_mem _ (List.mem_append_right _ h)
set_option maxRecDepth 20000 in
theorem g_X2_add_X2_rank_20 : GoodIn vsX2_add (wsV RX2 20 RX2 yX2_rank vsX2_rank) := goodIn_r _ [8, 9, 10, 11, 12, 1, 13, 14, 15] rfl (by decide +kernel)
set_option maxHeartbeats 4000000 in
set_option maxRecDepth 100000 in
/-- Pieces.add, the first -/
theorem c_X2_add_0 (l : Launch) (D : va_G) (aI aL aZ : ClassId) (h0 : Nat) (lo : Nat) (hi : Nat) (f : Nat → Int64) (g : Nat → Int64) (a : Int64) (b : Int64) (sz : Nat) : MV l D q_cl (q_ty aI aL aZ) yX2_add vsX2_add 2 0 0 [.ref h0, .long a, .long b] [(h0, .inr (2, [.ref lo, .ref hi, .int 0])), (lo, .inl (aL, 8, .inr (.inl f))), (hi, .inl (aL, 8, .inr (.inl g)))] sz (fun (u : Unit) => True) (fun (u : Unit) => [(h0, .inr (2, [.ref lo, .ref hi, .int 1]))]) := by
  refine q_in cX2_add 6 none (qQv D q_cl (q_ty aI aL aZ) _ _) (by decide) rfl (Nat.le_of_ble_eq_true rfl) ?_
  intro p e s m args below meth c A ls hat hP hD hS hl
  obtain ⟨hx, hb, hr, hts, hown, hlocks, hml, hin, hK, hN, hA⟩ := hat
  have hown : s.vm.findClass RX2 = some m.cls := hown
  have hl : lv_has ls 6 [(0, .ref h0), (1, .long a), (3, .long b)] := hl
  refine lv_aload_n hx hb dX2_add_0 rfl (lv_at hl 0 rfl) ?_
  refine va_get (D := D) (ci := 2) (v := .int 0) (C := RX2) (T := TX2) (N := 3) hx hb hts n_X2_add_X2 hown hK hP 0 rfl rfl 2 (by decide) (hts (.fieldLink RX2 16 "FaceMap$Pieces" "size" "I") (List.mem_of_getElem? (i := 1) rfl)) (fun _ h9 => h9) rfl dX2_add_1 ?_
  refine lv_aload_n hx hb dX2_add_4 rfl (lv_at hl 0 rfl) ?_
  refine va_get (D := D) (ci := 2) (v := .ref lo) (C := RX2) (T := TX2) (N := 3) hx hb hts n_X2_add_X2 hown hK hP 0 rfl rfl 0 (by decide) (hts (.fieldLink RX2 9 "FaceMap$Pieces" "low" "[J") (List.mem_of_getElem? (i := 2) rfl)) (fun _ h9 => h9) rfl dX2_add_5 ?_
  refine va_alen (v := 8) hx hb hK hP 1 1 rfl rfl rfl dX2_add_8 ?_
  refine lv_icmp_ne (tgt := 46) hx hb dX2_add_9 (by decide) (fun c_1 => ?_) (fun c_1 => ?_)
  · refine lv_aload_n hx hb dX2_add_46 rfl (lv_at hl 0 rfl) ?_
    refine lv_lload_n hx hb dX2_add_47 rfl (lv_at hl 1 rfl) ?_
    refine lv_lload_n hx hb dX2_add_48 rfl (lv_at hl 2 rfl) ?_
    refine q_i (wr := [(lo, .inl (aL, 8, .inr (.inl f))), (hi, .inl (aL, 8, .inr (.inl g)))]) (q_runV (As := [.long a, .long b]) (rest := []) ⟨hx, hb, hml, hown, hts⟩ (c_X2_rank_0 l D aI aL aZ h0 lo hi a b _) (cwV 2 hts g_X2_add_X2_rank_20 rfl rfl rfl (by decide +kernel) ⟨Nat.le_of_ble_eq_true rfl, Nat.le_of_ble_eq_true rfl⟩) hK hN hP hD [0] rfl (by decide) rfl rfl rfl hl.1 rfl (Nat.le_of_ble_eq_true rfl) dX2_add_49 ⟨Nat.le_of_ble_eq_true rfl, Nat.le_of_ble_eq_true rfl⟩) hP hD hS hA [0] [1, 2] rfl rfl (by decide) (by decide) (fun r_2 u_2 H locs hw hP hD hS => ?_)
    subst hw
    have hP : va_P D q_cl [(lo, .inl (aL, 8, .inr (.inl f))), (hi, .inl (aL, 8, .inr (.inl g))), (h0, .inr (2, [.ref lo, .ref hi, .int 0]))] H := hP
    have hD : va_D A [(lo, .inl (aL, 8, .inr (.inl f))), (hi, .inl (aL, 8, .inr (.inl g))), (h0, .inr (2, [.ref lo, .ref hi, .int 0]))] := hD
    refine lv_istore (lv' := [(5, .int 0), (0, .ref h0), (1, .long a), (3, .long b)]) hx hb dX2_add_52 hl (by decide) rfl (fun ls hl => ?_)
    refine lv_aload_n hx hb dX2_add_54 rfl (lv_at hl 1 rfl) ?_
    refine va_get (D := D) (ci := 2) (v := .ref lo) (C := RX2) (T := TX2) (N := 3) hx hb hts n_X2_add_X2 hown hK hP 2 rfl rfl 0 (by decide) (hts (.fieldLink RX2 9 "FaceMap$Pieces" "low" "[J") (List.mem_of_getElem? (i := 2) rfl)) (fun _ h9 => h9) rfl dX2_add_55 ?_
    refine lv_iload hx hb dX2_add_58 (lv_at hl 0 rfl) ?_
    refine lv_aload_n hx hb dX2_add_60 rfl (lv_at hl 1 rfl) ?_
    refine va_get (D := D) (ci := 2) (v := .ref lo) (C := RX2) (T := TX2) (N := 3) hx hb hts n_X2_add_X2 hown hK hP 2 rfl rfl 0 (by decide) (hts (.fieldLink RX2 9 "FaceMap$Pieces" "low" "[J") (List.mem_of_getElem? (i := 2) rfl)) (fun _ h9 => h9) rfl dX2_add_61 ?_
    refine lv_iload hx hb dX2_add_64 (lv_at hl 0 rfl) ?_
    refine lv_iconst (v := 1) hx hb dX2_add_66 (by decide) ?_
    refine lv_iadd hx hb dX2_add_67 ?_
    refine q_vi (v := 1) (by decide) ?_
    refine lv_aload_n hx hb dX2_add_68 rfl (lv_at hl 1 rfl) ?_
    refine va_get (D := D) (ci := 2) (v := .int 0) (C := RX2) (T := TX2) (N := 3) hx hb hts n_X2_add_X2 hown hK hP 2 rfl rfl 2 (by decide) (hts (.fieldLink RX2 16 "FaceMap$Pieces" "size" "I") (List.mem_of_getElem? (i := 1) rfl)) (fun _ h9 => h9) rfl dX2_add_69 ?_
    refine lv_iload hx hb dX2_add_72 (lv_at hl 0 rfl) ?_
    refine lv_isub hx hb dX2_add_74 ?_
    refine q_vi (v := 0) (by decide) ?_
    refine va_copyl hx hb (by rw [hml]; exact hl.1.symm) hown (hts (.methodLink RX2 36 arraycopyName) (List.mem_of_getElem? (i := 3) rfl)) (hts (.native arraycopyName) (List.mem_of_getElem? (i := 4) rfl)) (hts (.static arraycopyName) (List.mem_of_getElem? (i := 5) rfl)) (hts (.initialized "java/lang/System") (List.mem_of_getElem? (i := 6) rfl)) hK hP hD hS 0 0 1 1 rfl rfl rfl rfl rfl (by decide) (by decide) (by decide) (by decide) (by decide) (fun i hi => absurd (sb_cl0 ▸ hi) (Nat.not_lt_zero i)) (Nat.le_of_ble_eq_true rfl) (Nat.le_of_ble_eq_true rfl) dX2_add_75 (fun H locs hP hD hS => ?_)
    have hP : va_P D q_cl [(lo, .inl (aL, 8, .inr (.inl (va_cpy f f 0 1 0)))), (hi, .inl (aL, 8, .inr (.inl g))), (h0, .inr (2, [.ref lo, .ref hi, .int 0]))] H := hP
    have hD : va_D A [(lo, .inl (aL, 8, .inr (.inl (va_cpy f f 0 1 0)))), (hi, .inl (aL, 8, .inr (.inl g))), (h0, .inr (2, [.ref lo, .ref hi, .int 0]))] := hD
    refine lv_aload_n hx hb dX2_add_78 rfl (lv_at hl 1 rfl) ?_
    refine va_get (D := D) (ci := 2) (v := .ref hi) (C := RX2) (T := TX2) (N := 3) hx hb hts n_X2_add_X2 hown hK hP 2 rfl rfl 1 (by decide) (hts (.fieldLink RX2 13 "FaceMap$Pieces" "high" "[J") (List.mem_of_getElem? (i := 7) rfl)) (fun _ h9 => h9) rfl dX2_add_79 ?_
    refine lv_iload hx hb dX2_add_82 (lv_at hl 0 rfl) ?_
    refine lv_aload_n hx hb dX2_add_84 rfl (lv_at hl 1 rfl) ?_
    refine va_get (D := D) (ci := 2) (v := .ref hi) (C := RX2) (T := TX2) (N := 3) hx hb hts n_X2_add_X2 hown hK hP 2 rfl rfl 1 (by decide) (hts (.fieldLink RX2 13 "FaceMap$Pieces" "high" "[J") (List.mem_of_getElem? (i := 7) rfl)) (fun _ h9 => h9) rfl dX2_add_85 ?_
    refine lv_iload hx hb dX2_add_88 (lv_at hl 0 rfl) ?_
    refine lv_iconst (v := 1) hx hb dX2_add_90 (by decide) ?_
    refine lv_iadd hx hb dX2_add_91 ?_
    refine q_vi (v := 1) (by decide) ?_
    refine lv_aload_n hx hb dX2_add_92 rfl (lv_at hl 1 rfl) ?_
    refine va_get (D := D) (ci := 2) (v := .int 0) (C := RX2) (T := TX2) (N := 3) hx hb hts n_X2_add_X2 hown hK hP 2 rfl rfl 2 (by decide) (hts (.fieldLink RX2 16 "FaceMap$Pieces" "size" "I") (List.mem_of_getElem? (i := 1) rfl)) (fun _ h9 => h9) rfl dX2_add_93 ?_
    refine lv_iload hx hb dX2_add_96 (lv_at hl 0 rfl) ?_
    refine lv_isub hx hb dX2_add_98 ?_
    refine q_vi (v := 0) (by decide) ?_
    refine va_copyl hx hb (by rw [hml]; exact hl.1.symm) hown (hts (.methodLink RX2 36 arraycopyName) (List.mem_of_getElem? (i := 3) rfl)) (hts (.native arraycopyName) (List.mem_of_getElem? (i := 4) rfl)) (hts (.static arraycopyName) (List.mem_of_getElem? (i := 5) rfl)) (hts (.initialized "java/lang/System") (List.mem_of_getElem? (i := 6) rfl)) hK hP hD hS 1 1 1 1 rfl rfl rfl rfl rfl (by decide) (by decide) (by decide) (by decide) (by decide) (fun i hi => absurd (sb_cl0 ▸ hi) (Nat.not_lt_zero i)) (Nat.le_of_ble_eq_true rfl) (Nat.le_of_ble_eq_true rfl) dX2_add_99 (fun H locs hP hD hS => ?_)
    have hP : va_P D q_cl [(lo, .inl (aL, 8, .inr (.inl (va_cpy f f 0 1 0)))), (hi, .inl (aL, 8, .inr (.inl (va_cpy g g 0 1 0)))), (h0, .inr (2, [.ref lo, .ref hi, .int 0]))] H := hP
    have hD : va_D A [(lo, .inl (aL, 8, .inr (.inl (va_cpy f f 0 1 0)))), (hi, .inl (aL, 8, .inr (.inl (va_cpy g g 0 1 0)))), (h0, .inr (2, [.ref lo, .ref hi, .int 0]))] := hD
    refine lv_aload_n hx hb dX2_add_102 rfl (lv_at hl 1 rfl) ?_
    refine va_get (D := D) (ci := 2) (v := .ref lo) (C := RX2) (T := TX2) (N := 3) hx hb hts n_X2_add_X2 hown hK hP 2 rfl rfl 0 (by decide) (hts (.fieldLink RX2 9 "FaceMap$Pieces" "low" "[J") (List.mem_of_getElem? (i := 2) rfl)) (fun _ h9 => h9) rfl dX2_add_103 ?_
    refine lv_iload hx hb dX2_add_106 (lv_at hl 0 rfl) ?_
    refine lv_lload_n hx hb dX2_add_108 rfl (lv_at hl 2 rfl) ?_
    refine va_last hx hb hK hP hD hS 0 1 rfl rfl (q_ix 0 (by decide) (by decide) (by decide)) dX2_add_109 (fun H locs hP hD hS => ?_)
    have hP : va_P D q_cl [(lo, .inl (aL, 8, .inr (.inl (vp_updL (va_cpy f f 0 1 0) 0 a)))), (hi, .inl (aL, 8, .inr (.inl (va_cpy g g 0 1 0)))), (h0, .inr (2, [.ref lo, .ref hi, .int 0]))] H := hP
    have hD : va_D A [(lo, .inl (aL, 8, .inr (.inl (vp_updL (va_cpy f f 0 1 0) 0 a)))), (hi, .inl (aL, 8, .inr (.inl (va_cpy g g 0 1 0)))), (h0, .inr (2, [.ref lo, .ref hi, .int 0]))] := hD
    refine lv_aload_n hx hb dX2_add_110 rfl (lv_at hl 1 rfl) ?_
    refine va_get (D := D) (ci := 2) (v := .ref hi) (C := RX2) (T := TX2) (N := 3) hx hb hts n_X2_add_X2 hown hK hP 2 rfl rfl 1 (by decide) (hts (.fieldLink RX2 13 "FaceMap$Pieces" "high" "[J") (List.mem_of_getElem? (i := 7) rfl)) (fun _ h9 => h9) rfl dX2_add_111 ?_
    refine lv_iload hx hb dX2_add_114 (lv_at hl 0 rfl) ?_
    refine lv_lload_n hx hb dX2_add_116 rfl (lv_at hl 3 rfl) ?_
    refine va_last hx hb hK hP hD hS 1 1 rfl rfl (q_ix 0 (by decide) (by decide) (by decide)) dX2_add_117 (fun H locs hP hD hS => ?_)
    have hP : va_P D q_cl [(lo, .inl (aL, 8, .inr (.inl (vp_updL (va_cpy f f 0 1 0) 0 a)))), (hi, .inl (aL, 8, .inr (.inl (vp_updL (va_cpy g g 0 1 0) 0 b)))), (h0, .inr (2, [.ref lo, .ref hi, .int 0]))] H := hP
    have hD : va_D A [(lo, .inl (aL, 8, .inr (.inl (vp_updL (va_cpy f f 0 1 0) 0 a)))), (hi, .inl (aL, 8, .inr (.inl (vp_updL (va_cpy g g 0 1 0) 0 b)))), (h0, .inr (2, [.ref lo, .ref hi, .int 0]))] := hD
    refine lv_aload_n hx hb dX2_add_118 rfl (lv_at hl 1 rfl) ?_
    refine lv_dup hx hb dX2_add_119 rfl ?_
    refine va_get (D := D) (ci := 2) (v := .int 0) (C := RX2) (T := TX2) (N := 3) hx hb hts n_X2_add_X2 hown hK hP 2 rfl rfl 2 (by decide) (hts (.fieldLink RX2 16 "FaceMap$Pieces" "size" "I") (List.mem_of_getElem? (i := 1) rfl)) (fun _ h9 => h9) rfl dX2_add_120 ?_
    refine lv_iconst (v := 1) hx hb dX2_add_123 (by decide) ?_
    refine lv_iadd hx hb dX2_add_124 ?_
    refine q_vi (v := 1) (by decide) ?_
    refine va_put (D := D) (ci := 2) (v := .int 1) (ty := .int) (C := RX2) (T := TX2) (N := 3) hx hb hts n_X2_add_X2 tyX2 tyX2_ok nmX2 hown hK hP hD hS 2 rfl rfl 2 (by decide) (hts (.fieldLink RX2 16 "FaceMap$Pieces" "size" "I") (List.mem_of_getElem? (i := 1) rfl)) (fun _ h9 => h9) rfl (by decide +kernel) rfl rfl (Nat.le_of_ble_eq_true rfl) dX2_add_125 (fun H locs hP hD hS => ?_)
    have hP : va_P D q_cl [(lo, .inl (aL, 8, .inr (.inl (vp_updL (va_cpy f f 0 1 0) 0 a)))), (hi, .inl (aL, 8, .inr (.inl (vp_updL (va_cpy g g 0 1 0) 0 b)))), (h0, .inr (2, [.ref lo, .ref hi, .int 1]))] H := hP
    have hD : va_D A [(lo, .inl (aL, 8, .inr (.inl (vp_updL (va_cpy f f 0 1 0) 0 a)))), (hi, .inl (aL, 8, .inr (.inl (vp_updL (va_cpy g g 0 1 0) 0 b)))), (h0, .inr (2, [.ref lo, .ref hi, .int 1]))] := hD
    have hP9 := hP.sub (ws' := [(h0, .inr (2, [.ref lo, .ref hi, .int 1]))]) [2] rfl
    have hD9 := hD.sub (ws' := [(h0, .inr (2, [.ref lo, .ref hi, .int 1]))]) [2] (by decide) rfl
    exact q_retv () hx hb hr hlocks hK hP9 hD9 hS (Nat.le_of_ble_eq_true rfl) (Nat.le_of_ble_eq_true rfl) (trivial) dX2_add_128
  · exact absurd c_1 (by decide)
def vsX2_firstOn : List Cond := .code yX2_firstOn cX2_firstOn 4 (some .int) :: ([.fieldLink RX2 16 "FaceMap$Pieces" "size" "I"] ++ wsX20)
set_option maxRecDepth 20000 in
theorem n_X2_firstOn_X2 : ∀ w ∈ wsX20, w ∈ vsX2_firstOn := fun _ h => List.mem_cons_of_mem _ (List.mem_append_right _ h)
set_option maxHeartbeats 4000000 in
set_option maxRecDepth 100000 in
/-- Pieces.firstOn, with no piece -/
theorem c_X2_firstOn_0 (l : Launch) (D : va_G) (aI aL aZ : ClassId) (h0 : Nat) (lo : Nat) (hi : Nat) (a : Int64) (sz : Nat) : MI l D q_cl (q_ty aI aL aZ) yX2_firstOn vsX2_firstOn 0 0 0 [.ref h0, .long a] [(h0, .inr (2, [.ref lo, .ref hi, .int 0]))] sz (fun (r : Int32) (u : Unit) => r = (-1)) (fun (u : Unit) => [(h0, .inr (2, [.ref lo, .ref hi, .int 0]))]) := by
  refine q_in cX2_firstOn 4 (some .int) (qQi D q_cl (q_ty aI aL aZ) _ _) (by decide) rfl (Nat.le_of_ble_eq_true rfl) ?_
  intro p e s m args below meth c A ls hat hP hD hS hl
  obtain ⟨hx, hb, hr, hts, hown, hlocks, hml, hin, hK, hN, hA⟩ := hat
  have hown : s.vm.findClass RX2 = some m.cls := hown
  have hl : lv_has ls 4 [(0, .ref h0), (1, .long a)] := hl
  refine lv_iconst (v := 0) hx hb dX2_firstOn_0 (by decide) ?_
  refine lv_istore_n (lv' := [(3, .int 0), (0, .ref h0), (1, .long a)]) hx hb dX2_firstOn_1 rfl hl (by decide) rfl (fun ls hl => ?_)
  refine lv_iload_n hx hb dX2_firstOn_2 rfl (lv_at hl 0 rfl) ?_
  refine lv_aload_n hx hb dX2_firstOn_3 rfl (lv_at hl 1 rfl) ?_
  refine va_get (D := D) (ci := 2) (v := .int 0) (C := RX2) (T := TX2) (N := 3) hx hb hts n_X2_firstOn_X2 hown hK hP 0 rfl rfl 2 (by decide) (hts (.fieldLink RX2 16 "FaceMap$Pieces" "size" "I") (List.mem_of_getElem? (i := 1) rfl)) (fun _ h9 => h9) rfl dX2_firstOn_4 ?_
  refine lv_icmp_ge (tgt := 61) hx hb dX2_firstOn_7 (by decide) (fun c_1 => ?_) (fun c_1 => ?_)
  · refine lv_iconst (v := (-1)) hx hb dX2_firstOn_61 (by decide) ?_
    have hP9 := hP.sub (ws' := [(h0, .inr (2, [.ref lo, .ref hi, .int 0]))]) [0] rfl
    have hD9 := hD.sub (ws' := [(h0, .inr (2, [.ref lo, .ref hi, .int 0]))]) [0] (by decide) rfl
    exact q_reti () hx hb hr hlocks hK hP9 hD9 hS (Nat.le_of_ble_eq_true rfl) (Nat.le_of_ble_eq_true rfl) (rfl) dX2_firstOn_62
  · exact absurd c_1 (by decide)
def vsX2_nextBelow : List Cond := .code yX2_nextBelow cX2_nextBelow 6 (some .int) :: ([.fieldLink RX2 16 "FaceMap$Pieces" "size" "I"] ++ wsX20)
set_option maxRecDepth 20000 in
theorem n_X2_nextBelow_X2 : ∀ w ∈ wsX20, w ∈ vsX2_nextBelow := fun _ h => List.mem_cons_of_mem _ (List.mem_append_right _ h)
set_option maxHeartbeats 4000000 in
set_option maxRecDepth 100000 in
/-- Pieces.nextBelow, with no piece -/
theorem c_X2_nextBelow_0 (l : Launch) (D : va_G) (aI aL aZ : ClassId) (h0 : Nat) (lo : Nat) (hi : Nat) (a : Int64) (sz : Nat) : MI l D q_cl (q_ty aI aL aZ) yX2_nextBelow vsX2_nextBelow 0 0 0 [.ref h0, .long a] [(h0, .inr (2, [.ref lo, .ref hi, .int 0]))] sz (fun (r : Int32) (u : Unit) => r = (-1)) (fun (u : Unit) => [(h0, .inr (2, [.ref lo, .ref hi, .int 0]))]) := by
  refine q_in cX2_nextBelow 6 (some .int) (qQi D q_cl (q_ty aI aL aZ) _ _) (by decide) rfl (Nat.le_of_ble_eq_true rfl) ?_
  intro p e s m args below meth c A ls hat hP hD hS hl
  obtain ⟨hx, hb, hr, hts, hown, hlocks, hml, hin, hK, hN, hA⟩ := hat
  have hown : s.vm.findClass RX2 = some m.cls := hown
  have hl : lv_has ls 6 [(0, .ref h0), (1, .long a)] := hl
  refine lv_iconst (v := (-1)) hx hb dX2_nextBelow_0 (by decide) ?_
  refine lv_istore_n (lv' := [(3, .int (-1)), (0, .ref h0), (1, .long a)]) hx hb dX2_nextBelow_1 rfl hl (by decide) rfl (fun ls hl => ?_)
  refine lv_iconst (v := 0) hx hb dX2_nextBelow_2 (by decide) ?_
  refine lv_istore (lv' := [(4, .int 0), (3, .int (-1)), (0, .ref h0), (1, .long a)]) hx hb dX2_nextBelow_3 hl (by decide) rfl (fun ls hl => ?_)
  refine lv_iload hx hb dX2_nextBelow_5 (lv_at hl 0 rfl) ?_
  refine lv_aload_n hx hb dX2_nextBelow_7 rfl (lv_at hl 2 rfl) ?_
  refine va_get (D := D) (ci := 2) (v := .int 0) (C := RX2) (T := TX2) (N := 3) hx hb hts n_X2_nextBelow_X2 hown hK hP 0 rfl rfl 2 (by decide) (hts (.fieldLink RX2 16 "FaceMap$Pieces" "size" "I") (List.mem_of_getElem? (i := 1) rfl)) (fun _ h9 => h9) rfl dX2_nextBelow_8 ?_
  refine lv_icmp_ge (tgt := 96) hx hb dX2_nextBelow_11 (by decide) (fun c_1 => ?_) (fun c_1 => ?_)
  · refine lv_iload_n hx hb dX2_nextBelow_96 rfl (lv_at hl 1 rfl) ?_
    have hP9 := hP.sub (ws' := [(h0, .inr (2, [.ref lo, .ref hi, .int 0]))]) [0] rfl
    have hD9 := hD.sub (ws' := [(h0, .inr (2, [.ref lo, .ref hi, .int 0]))]) [0] (by decide) rfl
    exact q_reti () hx hb hr hlocks hK hP9 hD9 hS (Nat.le_of_ble_eq_true rfl) (Nat.le_of_ble_eq_true rfl) (rfl) dX2_nextBelow_97
  · exact absurd c_1 (by decide)
