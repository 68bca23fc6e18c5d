def vsJ7_fill_53178 : List Cond := .code yJ7_fill_53178 cJ7_fill_53178 4 none :: ([])
set_option maxHeartbeats 4000000 in
set_option maxRecDepth 100000 in
/-- Arrays.fill's loop, with i places written -/
theorem q_fill {p : Program} {l : Launch} {e : Env} {R : Room} {s : State} {m : MethodId} {args : Array Value} {below : List Frame} {meth : Method} {c : Code} {D : va_G} {aI aL aZ : ClassId} {A : Nat → Prop} {Q : State → Prop} {a : Nat} {v : Int32} (hx : p.tables.exec = Jvm.exec) (hb : c.code = cJ7_fill_53178) (hK : va_K D q_cl (q_ty aI aL aZ) s)
    (kk : ∀ (H : Heap) (locs : List Loc) (ls : Array Slot), va_S A s.heap H locs → W p l e R s m args below meth c H locs 0 0 Q (F0 m 20 ls [])) :
    ∀ (n i : Nat) (x : Int32) (f : Nat → Int32) (H : Heap) (locs : List Loc) (ls : Array Slot), i ≤ 16 → 16 < i + n → x = nI i → va_P D q_cl [(a, .inl (aI, 16, .inl f))] H → va_D A [(a, .inl (aI, 16, .inl f))] → va_S A s.heap H locs → lv_has ls 4 [(2, .int x), (3, .int 16), (0, .ref a), (1, .int v)] → W p l e R s m args below meth c H locs 0 0 Q (F0 m 5 ls []) := by
  intro n
  induction n with
  | zero => intro i x f H locs ls h1 h2; exact absurd h2 (by omega)
  | succ n ih =>
    intro i x f H locs ls h1 h2 ex hP hD hS hl
    refine lv_iload_n hx hb dJ7_fill_53178_5 rfl (lv_at hl 0 rfl) ?_
    refine lv_iload_n hx hb dJ7_fill_53178_6 rfl (lv_at hl 1 rfl) ?_
    refine lv_icmp_ge (tgt := 20) hx hb dJ7_fill_53178_7 (by decide) (fun c_1 => ?_) (fun c_1 => ?_)
    · exact kk H locs ls hS
    · have hlt : i < 16 := by
        rcases Nat.lt_or_ge i 16 with q | q
        · exact q
        · exact absurd (by rw [ex]; exact nI_le (a := 16) q (by omega)) c_1
      refine lv_aload_n hx hb dJ7_fill_53178_10 rfl (lv_at hl 2 rfl) ?_
      refine lv_iload_n hx hb dJ7_fill_53178_11 rfl (lv_at hl 0 rfl) ?_
      refine lv_iload_n hx hb dJ7_fill_53178_12 rfl (lv_at hl 3 rfl) ?_
      refine va_iast hx hb hK hP hD hS 0 0 rfl rfl (by rw [ex]; exact vp_in_nI hlt (by omega)) dJ7_fill_53178_13 (fun H locs hP hD hS => ?_)
      obtain ⟨x2, ex2⟩ : ∃ y : Int32, y = x + 1 := ⟨_, rfl⟩
      refine lv_iinc (v := x2) (lv' := [(2, .int x2), (3, .int 16), (0, .ref a), (1, .int v)]) hx hb dJ7_fill_53178_14 hl (k := 0) rfl (by rw [ex2]; rfl) (by decide) rfl (fun ls hl => ?_)
      refine lv_goto (tgt := 5) hx hb dJ7_fill_53178_17 (by decide) ?_
      exact ih (i + 1) x2 _ H locs ls hlt (by omega) (by rw [ex2, ex]; exact nI_1 i) hP hD hS hl
set_option maxHeartbeats 4000000 in
set_option maxRecDepth 100000 in
/-- Arrays.fill of a row of sixteen ints -/
theorem c_J7_fill_53178 (l : Launch) (D : va_G) (aI aL aZ : ClassId) (a : Nat) (f : Nat → Int32) (v : Int32) (sz : Nat) : MV l D q_cl (q_ty aI aL aZ) yJ7_fill_53178 vsJ7_fill_53178 0 0 0 [.ref a, .int v] [(a, .inl (aI, 16, .inl f))] sz (fun (u : Unit) => True) (fun (u : Unit) => ([] : va_W)) := by
  refine q_in cJ7_fill_53178 4 none (qQv D q_cl (q_ty aI aL aZ) _ _) (by decide) rfl (Nat.le_of_ble_eq_true rfl) ?_
  intro p e s m args below meth c A ls hat hP hD hS hl
  obtain ⟨hx, hb, hr, hts, hown, hlocks, hml, hin, hK, hN, hA⟩ := hat
  have hl : lv_has ls 4 [(0, .ref a), (1, .int v)] := hl
  refine lv_iconst (v := 0) hx hb dJ7_fill_53178_0 (by decide) ?_
  refine lv_istore_n (lv' := [(2, .int 0), (0, .ref a), (1, .int v)]) hx hb dJ7_fill_53178_1 rfl hl (by decide) rfl (fun ls hl => ?_)
  refine lv_aload_n hx hb dJ7_fill_53178_2 rfl (lv_at hl 1 rfl) ?_
  refine va_alen (v := 16) hx hb hK hP 0 0 rfl rfl rfl dJ7_fill_53178_3 ?_
  refine lv_istore_n (lv' := [(3, .int 16), (2, .int 0), (0, .ref a), (1, .int v)]) hx hb dJ7_fill_53178_4 rfl hl (by decide) rfl (fun ls hl => ?_)
  refine q_fill (aL := aL) (aZ := aZ) hx hb hK (fun H locs ls hS => ?_) 17 0 0 f _ _ ls (by decide) (by decide) nI_0.symm hP hD hS (lv_sub hl [1, 0, 2, 3] rfl)
  exact q_retv () hx hb hr hlocks hK (w := fun (u : Unit) => ([] : va_W)) (fun k q h => by simp at h) ⟨fun i j p q h => by simp at h, fun k q h => by simp at h⟩ hS (Nat.le_refl 0) (Nat.le_refl 0) trivial dJ7_fill_53178_20
def vsX0_clear : List Cond := .code yX0_clear cX0_clear 1 none :: ([.fieldLink RX0 34 "FaceMap$Faces" "leftOf" "[I", .fieldLink RX0 60 "FaceMap$Faces" "size" "I", .fieldLink RX0 64 "FaceMap$Faces" "parts" "I", .methodLink RX0 54 yJ7_fill_53178, .static yJ7_fill_53178, .initialized RJ7, .code yJ7_fill_53178 cJ7_fill_53178 4 none, .methodLink RX0 67 yX0_addFace, .instanceMethod yX0_addFace, .selects RX0 yX0_addFace yX0_addFace, .initialized RX0, .code yX0_addFace cX0_addFace 4 (some .int), .fieldLink RX0 38 "FaceMap$Faces" "rings" "[I", .fieldLink RX0 41 "FaceMap$Faces" "ways" "[I", .fieldLink RX0 50 "FaceMap$Faces" "area" "[J", .fieldLink RX0 44 "FaceMap$Faces" "keyFrom" "[I", .fieldLink RX0 47 "FaceMap$Faces" "keyTo" "[I"] ++ wsX00)
set_option maxRecDepth 20000 in
theorem n_X0_clear_X0 : ∀ w ∈ wsX00, w ∈ vsX0_clear := fun _ h => List.mem_cons_of_mem _ (List.mem_append_right _ h)
set_option maxRecDepth 20000 in
theorem g_X0_clear_J7_fill_53178_54 : GoodIn vsX0_clear (va_wsS RX0 54 yJ7_fill_53178 vsJ7_fill_53178) := goodIn_r _ [4, 5, 6, 7] rfl (by decide +kernel)
set_option maxRecDepth 20000 in
theorem g_X0_clear_X0_addFace_67 : GoodIn vsX0_clear (wsV RX0 67 RX0 yX0_addFace vsX0_addFace) := goodIn_r _ [8, 9, 10, 11, 12, 2, 13, 14, 15, 16, 17, 18, 19, 20, 21, 22, 23, 24, 25, 26, 27, 28] rfl (by decide +kernel)
set_option maxHeartbeats 4000000 in
set_option maxRecDepth 100000 in
/-- Faces.clear -/
theorem c_X0_clear (l : Launch) (D : va_G) (aI aL aZ : ClassId) (h0 : Nat) (p1 : Nat) (p2 : Nat) (p3 : Nat) (le : Nat) (ri : Nat) (wa : Nat) (kf : Nat) (kt : Nat) (ar : Nat) (fl : Nat → Int32) (fr : Nat → Int32) (fw : Nat → Int32) (fk : Nat → Int32) (ft : Nat → Int32) (fa : Nat → Int64) (sz : Nat) : MV l D q_cl (q_ty aI aL aZ) yX0_clear vsX0_clear 1 0 0 [.ref h0] [(h0, .inr (0, [.ref p1, .ref p2, .ref p3, .ref le, .ref ri, .ref wa, .ref kf, .ref kt, .ref ar, .int 0, .int 0])), (le, .inl (aI, 16, .inl fl)), (ri, .inl (aI, 9, .inl fr)), (wa, .inl (aI, 9, .inl fw)), (kf, .inl (aI, 9, .inl fk)), (kt, .inl (aI, 9, .inl ft)), (ar, .inl (aL, 9, .inr (.inl fa)))] sz (fun (u : (Nat → Int32) × (Nat → Int32) × (Nat → Int32) × (Nat → Int32)) => u.1 0 = 0 ∧ u.2.1 0 = 0 ∧ u.2.2.1 0 = (-1) ∧ u.2.2.2 0 = (-1)) (fun (u : (Nat → Int32) × (Nat → Int32) × (Nat → Int32) × (Nat → Int32)) => [(h0, .inr (0, [.ref p1, .ref p2, .ref p3, .ref le, .ref ri, .ref wa, .ref kf, .ref kt, .ref ar, .int 1, .int 0])), (ri, .inl (aI, 9, .inl u.1)), (wa, .inl (aI, 9, .inl u.2.1)), (kf, .inl (aI, 9, .inl u.2.2.1)), (kt, .inl (aI, 9, .inl u.2.2.2))]) := by
  refine q_in cX0_clear 1 none (qQv D q_cl (q_ty aI aL aZ) _ _) (by decide) rfl (Nat.le_of_ble_eq_true rfl) ?_
  intro p e s m args below meth c A ls hat hP hD hS hl
  obtain ⟨hx, hb, hr, hts, hown, hlocks, hml, hin, hK, hN, hA⟩ := hat
  have hown : s.vm.findClass RX0 = some m.cls := hown
  have hl : lv_has ls 1 [(0, .ref h0)] := hl
  refine lv_aload_n hx hb dX0_clear_0 rfl (lv_at hl 0 rfl) ?_
  refine va_get (D := D) (ci := 0) (v := .ref le) (C := RX0) (T := TX0) (N := 11) hx hb hts n_X0_clear_X0 hown hK hP 0 rfl rfl 3 (by decide) (hts (.fieldLink RX0 34 "FaceMap$Faces" "leftOf" "[I") (List.mem_of_getElem? (i := 1) rfl)) (fun _ h9 => h9) rfl dX0_clear_1 ?_
  refine lv_iconst (v := (-1)) hx hb dX0_clear_4 (by decide) ?_
  refine q_v (wr := [(h0, .inr (0, [.ref p1, .ref p2, .ref p3, .ref le, .ref ri, .ref wa, .ref kf, .ref kt, .ref ar, .int 0, .int 0])), (ri, .inl (aI, 9, .inl fr)), (wa, .inl (aI, 9, .inl fw)), (kf, .inl (aI, 9, .inl fk)), (kt, .inl (aI, 9, .inl ft)), (ar, .inl (aL, 9, .inr (.inl fa)))]) (q_runS (As := [.ref le, .int (-1)]) (rest := []) ⟨hx, hb, hml, hown, hts⟩ (c_J7_fill_53178 l D aI aL aZ le fl (-1) _) (va_cwS 2 hts g_X0_clear_J7_fill_53178_54 rfl rfl rfl (by decide +kernel) ⟨Nat.le_of_ble_eq_true rfl, Nat.le_of_ble_eq_true rfl⟩) hK hN hP hD [1] rfl (by decide) rfl hl.1 rfl (Nat.le_of_ble_eq_true rfl) dX0_clear_5 ⟨Nat.le_of_ble_eq_true rfl, Nat.le_of_ble_eq_true rfl⟩) hP hD hS hA [1] [0, 2, 3, 4, 5, 6] rfl rfl (by decide) (by decide) (fun u_1 H locs hw hP hD hS => ?_)
  have hP : va_P D q_cl [(h0, .inr (0, [.ref p1, .ref p2, .ref p3, .ref le, .ref ri, .ref wa, .ref kf, .ref kt, .ref ar, .int 0, .int 0])), (ri, .inl (aI, 9, .inl fr)), (wa, .inl (aI, 9, .inl fw)), (kf, .inl (aI, 9, .inl fk)), (kt, .inl (aI, 9, .inl ft)), (ar, .inl (aL, 9, .inr (.inl fa)))] H := hP
  have hD : va_D A [(h0, .inr (0, [.ref p1, .ref p2, .ref p3, .ref le, .ref ri, .ref wa, .ref kf, .ref kt, .ref ar, .int 0, .int 0])), (ri, .inl (aI, 9, .inl fr)), (wa, .inl (aI, 9, .inl fw)), (kf, .inl (aI, 9, .inl fk)), (kt, .inl (aI, 9, .inl ft)), (ar, .inl (aL, 9, .inr (.inl fa)))] := hD
  refine lv_aload_n hx hb dX0_clear_8 rfl (lv_at hl 0 rfl) ?_
  refine lv_iconst (v := 0) hx hb dX0_clear_9 (by decide) ?_
  refine va_put (D := D) (ci := 0) (v := .int 0) (ty := .int) (C := RX0) (T := TX0) (N := 11) hx hb hts n_X0_clear_X0 tyX0 tyX0_ok nmX0 hown hK hP hD hS 0 rfl rfl 9 (by decide) (hts (.fieldLink RX0 60 "FaceMap$Faces" "size" "I") (List.mem_of_getElem? (i := 2) rfl)) (fun _ h9 => h9) rfl (by decide +kernel) rfl rfl (Nat.le_of_ble_eq_true rfl) dX0_clear_10 (fun H locs hP hD hS => ?_)
  have hP : va_P D q_cl [(h0, .inr (0, [.ref p1, .ref p2, .ref p3, .ref le, .ref ri, .ref wa, .ref kf, .ref kt, .ref ar, .int 0, .int 0])), (ri, .inl (aI, 9, .inl fr)), (wa, .inl (aI, 9, .inl fw)), (kf, .inl (aI, 9, .inl fk)), (kt, .inl (aI, 9, .inl ft)), (ar, .inl (aL, 9, .inr (.inl fa)))] H := hP
  have hD : va_D A [(h0, .inr (0, [.ref p1, .ref p2, .ref p3, .ref le, .ref ri, .ref wa, .ref kf, .ref kt, .ref ar, .int 0, .int 0])), (ri, .inl (aI, 9, .inl fr)), (wa, .inl (aI, 9, .inl fw)), (kf, .inl (aI, 9, .inl fk)), (kt, .inl (aI, 9, .inl ft)), (ar, .inl (aL, 9, .inr (.inl fa)))] := hD
  refine lv_aload_n hx hb dX0_clear_13 rfl (lv_at hl 0 rfl) ?_
  refine lv_iconst (v := 0) hx hb dX0_clear_14 (by decide) ?_
  refine va_put (D := D) (ci := 0) (v := .int 0) (ty := .int) (C := RX0) (T := TX0) (N := 11) hx hb hts n_X0_clear_X0 tyX0 tyX0_ok nmX0 hown hK hP hD hS 0 rfl rfl 10 (by decide) (hts (.fieldLink RX0 64 "FaceMap$Faces" "parts" "I") (List.mem_of_getElem? (i := 3) rfl)) (fun _ h9 => h9) rfl (by decide +kernel) rfl rfl (Nat.le_of_ble_eq_true rfl) dX0_clear_15 (fun H locs hP hD hS => ?_)
  have hP : va_P D q_cl [(h0, .inr (0, [.ref p1, .ref p2, .ref p3, .ref le, .ref ri, .ref wa, .ref kf, .ref kt, .ref ar, .int 0, .int 0])), (ri, .inl (aI, 9, .inl fr)), (wa, .inl (aI, 9, .inl fw)), (kf, .inl (aI, 9, .inl fk)), (kt, .inl (aI, 9, .inl ft)), (ar, .inl (aL, 9, .inr (.inl fa)))] H := hP
  have hD : va_D A [(h0, .inr (0, [.ref p1, .ref p2, .ref p3, .ref le, .ref ri, .ref wa, .ref kf, .ref kt, .ref ar, .int 0, .int 0])), (ri, .inl (aI, 9, .inl fr)), (wa, .inl (aI, 9, .inl fw)), (kf, .inl (aI, 9, .inl fk)), (kt, .inl (aI, 9, .inl ft)), (ar, .inl (aL, 9, .inr (.inl fa)))] := hD
  refine lv_aload_n hx hb dX0_clear_18 rfl (lv_at hl 0 rfl) ?_
  refine lv_iconst (v := (-1)) hx hb dX0_clear_19 (by decide) ?_
  refine lv_iconst (v := (-1)) hx hb dX0_clear_20 (by decide) ?_
  refine q_i (wr := []) (q_runV (As := [.int (-1), .int (-1)]) (rest := []) ⟨hx, hb, hml, hown, hts⟩ (c_X0_addFace l D aI aL aZ h0 p1 p2 p3 le ri wa kf kt ar fr fw fk ft fa (-1) (-1) _) (cwV 2 hts g_X0_clear_X0_addFace_67 rfl rfl rfl (by decide +kernel) ⟨Nat.le_of_ble_eq_true rfl, Nat.le_of_ble_eq_true rfl⟩) hK hN hP hD [0, 1, 2, 3, 4, 5] rfl (by decide) rfl rfl rfl hl.1 rfl (Nat.le_of_ble_eq_true rfl) dX0_clear_21 ⟨Nat.le_of_ble_eq_true rfl, Nat.le_of_ble_eq_true rfl⟩) hP hD hS hA [0, 1, 2, 3, 4, 5] [] rfl rfl (by decide) (by decide) (fun r_2 u_2 H locs hw hP hD hS => ?_)
  obtain ⟨gr_2, gw_2, gk_2, gt_2⟩ := u_2
  obtain ⟨rfl, f2_0, f2_1, f2_2, f2_3⟩ := hw
  have hP : va_P D q_cl [(h0, .inr (0, [.ref p1, .ref p2, .ref p3, .ref le, .ref ri, .ref wa, .ref kf, .ref kt, .ref ar, .int 1, .int 0])), (ri, .inl (aI, 9, .inl gr_2)), (wa, .inl (aI, 9, .inl gw_2)), (kf, .inl (aI, 9, .inl gk_2)), (kt, .inl (aI, 9, .inl gt_2))] H := hP
  have hD : va_D A [(h0, .inr (0, [.ref p1, .ref p2, .ref p3, .ref le, .ref ri, .ref wa, .ref kf, .ref kt, .ref ar, .int 1, .int 0])), (ri, .inl (aI, 9, .inl gr_2)), (wa, .inl (aI, 9, .inl gw_2)), (kf, .inl (aI, 9, .inl gk_2)), (kt, .inl (aI, 9, .inl gt_2))] := hD
  refine lv_pop hx hb dX0_clear_24 rfl ?_
  have hP9 := hP.sub (ws' := [(h0, .inr (0, [.ref p1, .ref p2, .ref p3, .ref le, .ref ri, .ref wa, .ref kf, .ref kt, .ref ar, .int 1, .int 0])), (ri, .inl (aI, 9, .inl gr_2)), (wa, .inl (aI, 9, .inl gw_2)), (kf, .inl (aI, 9, .inl gk_2)), (kt, .inl (aI, 9, .inl gt_2))]) [0, 1, 2, 3, 4] rfl
  have hD9 := hD.sub (ws' := [(h0, .inr (0, [.ref p1, .ref p2, .ref p3, .ref le, .ref ri, .ref wa, .ref kf, .ref kt, .ref ar, .int 1, .int 0])), (ri, .inl (aI, 9, .inl gr_2)), (wa, .inl (aI, 9, .inl gw_2)), (kf, .inl (aI, 9, .inl gk_2)), (kt, .inl (aI, 9, .inl gt_2))]) [0, 1, 2, 3, 4] (by decide) rfl
  exact q_retv (gr_2, gw_2, gk_2, gt_2) hx hb hr hlocks hK hP9 hD9 hS (Nat.le_of_ble_eq_true rfl) (Nat.le_of_ble_eq_true rfl) (⟨(by first | assumption | decide | omega | simp_all), (by first | assumption | decide | omega | simp_all), (by first | assumption | decide | omega | simp_all), (by first | assumption | decide | omega | simp_all)⟩) dX0_clear_25
def vsX0_init : List Cond := .code yX0_init cX0_init 4 none :: ([.methodLink RX0 1 objectInit, .instanceMethod objectInit, .code objectInit ⟨#[0xb1]⟩ 1 none, .fieldLink RX0 7 "FaceMap$Faces" "pieces" "LFaceMap$Pieces;", .fieldLink RX0 13 "FaceMap$Faces" "nodes" "LFaceMap$Nodes;", .fieldLink RX0 17 "FaceMap$Faces" "sweep" "LFaceMap$Sweep;", .methodLink RX0 21 yX2_room, .instanceMethod yX2_room, .selects RX2 yX2_room yX2_room, .initialized RX2, .code yX2_room cX2_room 1 (some .int), .fieldLink RX2 9 "FaceMap$Pieces" "low" "[J", .methodLink RX0 27 yX0_makeRows, .instanceMethod yX0_makeRows, .selects RX0 yX0_makeRows yX0_makeRows, .initialized RX0, .code yX0_makeRows cX0_makeRows 2 none, .arrayClass .int, .fieldLink RX0 34 "FaceMap$Faces" "leftOf" "[I", .fieldLink RX0 38 "FaceMap$Faces" "rings" "[I", .fieldLink RX0 41 "FaceMap$Faces" "ways" "[I", .fieldLink RX0 44 "FaceMap$Faces" "keyFrom" "[I", .fieldLink RX0 47 "FaceMap$Faces" "keyTo" "[I", .arrayClass .long, .fieldLink RX0 50 "FaceMap$Faces" "area" "[J", .methodLink RX0 31 yX0_clear, .instanceMethod yX0_clear, .selects RX0 yX0_clear yX0_clear, .code yX0_clear cX0_clear 1 none, .fieldLink RX0 60 "FaceMap$Faces" "size" "I", .fieldLink RX0 64 "FaceMap$Faces" "parts" "I", .methodLink RX0 54 yJ7_fill_53178, .static yJ7_fill_53178, .initialized RJ7, .code yJ7_fill_53178 cJ7_fill_53178 4 none, .methodLink RX0 67 yX0_addFace, .instanceMethod yX0_addFace, .selects RX0 yX0_addFace yX0_addFace, .code yX0_addFace cX0_addFace 4 (some .int)] ++ wsX00 ++ wsX20)
set_option maxRecDepth 20000 in
theorem n_X0_init_X0 : ∀ w ∈ wsX00, w ∈ vsX0_init := fun _ h => List.mem_cons_of_mem _ (List.mem_append_left _ (List.mem_append_right _ h))
set_option maxRecDepth 20000 in
theorem g_X0_init_X2_room_21 : GoodIn vsX0_init (wsV RX0 21 RX2 yX2_room vsX2_room) := goodIn_r _ [7, 8, 9, 10, 11, 12, 51, 52, 53] rfl (by decide +kernel)
set_option maxRecDepth 20000 in
theorem g_X0_init_X0_makeRows_27 : GoodIn vsX0_init (wsV RX0 27 RX0 yX0_makeRows vsX0_makeRows) := goodIn_r _ [13, 14, 15, 16, 17, 18, 19, 20, 21, 22, 23, 24, 25, 40, 41, 42, 43, 44, 45, 46, 47, 48, 49, 50] rfl (by decide +kernel)
set_option maxRecDepth 20000 in
theorem g_X0_init_X0_clear_31 : GoodIn vsX0_init (wsV RX0 31 RX0 yX0_clear vsX0_clear) := goodIn_r _ [26, 27, 28, 16, 29, 19, 30, 31, 32, 33, 34, 35, 36, 37, 38, 16, 39, 20, 21, 25, 22, 23, 40, 41, 42, 43, 44, 45, 46, 47, 48, 49, 50] rfl (by decide +kernel)
set_option maxHeartbeats 4000000 in
set_option maxRecDepth 100000 in
/-- Faces() -/
theorem c_X0_init (l : Launch) (D : va_G) (aI aL aZ : ClassId) (h0 : Nat) (p1 : Nat) (p2 : Nat) (p3 : Nat) (lo : Nat) (hi : Nat) (f : Nat → Int64) (sz : Nat) : MV l D q_cl (q_ty aI aL aZ) yX0_init vsX0_init 2 6 61 [.ref h0, .ref p1, .ref p2, .ref p3] [(h0, .inr (0, [.null, .null, .null, .null, .null, .null, .null, .null, .null, .int 0, .int 0])), (p1, .inr (2, [.ref lo, .ref hi, .int 0])), (lo, .inl (aL, 8, .inr (.inl f)))] sz (fun (u : Nat × Nat × Nat × Nat × Nat × Nat × (Nat → Int32) × (Nat → Int32) × (Nat → Int32) × (Nat → Int32)) => u.2.2.2.2.2.2.1 0 = 0 ∧ u.2.2.2.2.2.2.2.1 0 = 0 ∧ u.2.2.2.2.2.2.2.2.1 0 = (-1) ∧ u.2.2.2.2.2.2.2.2.2 0 = (-1)) (fun (u : Nat × Nat × Nat × Nat × Nat × Nat × (Nat → Int32) × (Nat → Int32) × (Nat → Int32) × (Nat → Int32)) => [(h0, .inr (0, [.ref p1, .ref p2, .ref p3, .ref u.1, .ref u.2.1, .ref u.2.2.1, .ref u.2.2.2.1, .ref u.2.2.2.2.1, .ref u.2.2.2.2.2.1, .int 1, .int 0])), (u.2.1, .inl (aI, 9, .inl u.2.2.2.2.2.2.1)), (u.2.2.1, .inl (aI, 9, .inl u.2.2.2.2.2.2.2.1)), (u.2.2.2.1, .inl (aI, 9, .inl u.2.2.2.2.2.2.2.2.1)), (u.2.2.2.2.1, .inl (aI, 9, .inl u.2.2.2.2.2.2.2.2.2)), (p1, .inr (2, [.ref lo, .ref hi, .int 0])), (lo, .inl (aL, 8, .inr (.inl f)))]) := by
  refine q_in cX0_init 4 none (qQv D q_cl (q_ty aI aL aZ) _ _) (by decide) rfl (Nat.le_of_ble_eq_true rfl) ?_
  intro p e s m args below meth c A ls hat hP hD hS hl
  obtain ⟨hx, hb, hr, hts, hown, hlocks, hml, hin, hK, hN, hA⟩ := hat
  have hown : s.vm.findClass RX0 = some m.cls := hown
  have hl : lv_has ls 4 [(0, .ref h0), (1, .ref p1), (2, .ref p2), (3, .ref p3)] := hl
  refine lv_aload_n hx hb dX0_init_0 rfl (lv_at hl 0 rfl) ?_
  refine W.objInit hx hb hown (hts (.methodLink RX0 1 objectInit) (List.mem_of_getElem? (i := 1) rfl)) (hts (.instanceMethod objectInit) (List.mem_of_getElem? (i := 2) rfl)) (hts (.code objectInit ⟨#[0xb1]⟩ 1 none) (List.mem_of_getElem? (i := 3) rfl)) rfl (by rw [hml]; exact hl.1) rfl dX0_init_1 (Nat.le_of_ble_eq_true rfl) (Nat.le_of_ble_eq_true rfl) ?_
  refine W.eq (g2 := F0 m 4 ls []) rfl ?_
  refine lv_aload_n hx hb dX0_init_4 rfl (lv_at hl 0 rfl) ?_
  refine lv_aload_n hx hb dX0_init_5 rfl (lv_at hl 1 rfl) ?_
  refine va_putF (D := D) (ci := 0) (v := .ref p1) (ty := (.object "FaceMap$Pieces")) (C := RX0) (T := TX0) (N := 11) hx hb hts n_X0_init_X0 tyX0 tyX0_ok nmX0 hown hK hP hD hS 0 rfl rfl 0 (by decide) (hts (.fieldLink RX0 7 "FaceMap$Faces" "pieces" "LFaceMap$Pieces;") (List.mem_of_getElem? (i := 4) rfl)) (fun _ h9 => h9) rfl hin rfl (by decide +kernel) rfl rfl (Nat.le_of_ble_eq_true rfl) dX0_init_6 (fun H locs hP hD hS => ?_)
  have hP : va_P D q_cl [(h0, .inr (0, [.ref p1, .null, .null, .null, .null, .null, .null, .null, .null, .int 0, .int 0])), (p1, .inr (2, [.ref lo, .ref hi, .int 0])), (lo, .inl (aL, 8, .inr (.inl f)))] H := hP
  have hD : va_D A [(h0, .inr (0, [.ref p1, .null, .null, .null, .null, .null, .null, .null, .null, .int 0, .int 0])), (p1, .inr (2, [.ref lo, .ref hi, .int 0])), (lo, .inl (aL, 8, .inr (.inl f)))] := hD
  refine lv_aload_n hx hb dX0_init_9 rfl (lv_at hl 0 rfl) ?_
  refine lv_aload_n hx hb dX0_init_10 rfl (lv_at hl 2 rfl) ?_
  refine va_putF (D := D) (ci := 0) (v := .ref p2) (ty := (.object "FaceMap$Nodes")) (C := RX0) (T := TX0) (N := 11) hx hb hts n_X0_init_X0 tyX0 tyX0_ok nmX0 hown hK hP hD hS 0 rfl rfl 1 (by decide) (hts (.fieldLink RX0 13 "FaceMap$Faces" "nodes" "LFaceMap$Nodes;") (List.mem_of_getElem? (i := 5) rfl)) (fun _ h9 => h9) rfl hin rfl (by decide +kernel) rfl rfl (Nat.le_of_ble_eq_true rfl) dX0_init_11 (fun H locs hP hD hS => ?_)
  have hP : va_P D q_cl [(h0, .inr (0, [.ref p1, .ref p2, .null, .null, .null, .null, .null, .null, .null, .int 0, .int 0])), (p1, .inr (2, [.ref lo, .ref hi, .int 0])), (lo, .inl (aL, 8, .inr (.inl f)))] H := hP
  have hD : va_D A [(h0, .inr (0, [.ref p1, .ref p2, .null, .null, .null, .null, .null, .null, .null, .int 0, .int 0])), (p1, .inr (2, [.ref lo, .ref hi, .int 0])), (lo, .inl (aL, 8, .inr (.inl f)))] := hD
  refine lv_aload_n hx hb dX0_init_14 rfl (lv_at hl 0 rfl) ?_
  refine lv_aload_n hx hb dX0_init_15 rfl (lv_at hl 3 rfl) ?_
  refine va_putF (D := D) (ci := 0) (v := .ref p3) (ty := (.object "FaceMap$Sweep")) (C := RX0) (T := TX0) (N := 11) hx hb hts n_X0_init_X0 tyX0 tyX0_ok nmX0 hown hK hP hD hS 0 rfl rfl 2 (by decide) (hts (.fieldLink RX0 17 "FaceMap$Faces" "sweep" "LFaceMap$Sweep;") (List.mem_of_getElem? (i := 6) rfl)) (fun _ h9 => h9) rfl hin rfl (by decide +kernel) rfl rfl (Nat.le_of_ble_eq_true rfl) dX0_init_16 (fun H locs hP hD hS => ?_)
  have hP : va_P D q_cl [(h0, .inr (0, [.ref p1, .ref p2, .ref p3, .null, .null, .null, .null, .null, .null, .int 0, .int 0])), (p1, .inr (2, [.ref lo, .ref hi, .int 0])), (lo, .inl (aL, 8, .inr (.inl f)))] H := hP
  have hD : va_D A [(h0, .inr (0, [.ref p1, .ref p2, .ref p3, .null, .null, .null, .null, .null, .null, .int 0, .int 0])), (p1, .inr (2, [.ref lo, .ref hi, .int 0])), (lo, .inl (aL, 8, .inr (.inl f)))] := hD
  refine lv_aload_n hx hb dX0_init_19 rfl (lv_at hl 0 rfl) ?_
  refine lv_aload_n hx hb dX0_init_20 rfl (lv_at hl 1 rfl) ?_
  refine q_i (wr := [(h0, .inr (0, [.ref p1, .ref p2, .ref p3, .null, .null, .null, .null, .null, .null, .int 0, .int 0]))]) (q_runV (As := []) (rest := [.ref h0]) ⟨hx, hb, hml, hown, hts⟩ (c_X2_room l D aI aL aZ p1 lo hi f _) (cwV 0 hts g_X0_init_X2_room_21 rfl rfl rfl (by decide +kernel) ⟨Nat.le_of_ble_eq_true rfl, Nat.le_of_ble_eq_true rfl⟩) hK hN hP hD [1, 2] rfl (by decide) rfl rfl rfl hl.1 rfl (Nat.le_of_ble_eq_true rfl) dX0_init_21 ⟨Nat.le_of_ble_eq_true rfl, Nat.le_of_ble_eq_true rfl⟩) hP hD hS hA [1, 2] [0] rfl rfl (by decide) (by decide) (fun r_1 u_1 H locs hw hP hD hS => ?_)
  subst hw
  have hP : va_P D q_cl [(h0, .inr (0, [.ref p1, .ref p2, .ref p3, .null, .null, .null, .null, .null, .null, .int 0, .int 0])), (p1, .inr (2, [.ref lo, .ref hi, .int 0])), (lo, .inl (aL, 8, .inr (.inl f)))] H := hP
  have hD : va_D A [(h0, .inr (0, [.ref p1, .ref p2, .ref p3, .null, .null, .null, .null, .null, .null, .int 0, .int 0])), (p1, .inr (2, [.ref lo, .ref hi, .int 0])), (lo, .inl (aL, 8, .inr (.inl f)))] := hD
  refine q_v (wr := [(p1, .inr (2, [.ref lo, .ref hi, .int 0])), (lo, .inl (aL, 8, .inr (.inl f)))]) (q_runV (As := [.int 8]) (rest := []) ⟨hx, hb, hml, hown, hts⟩ (c_X0_makeRows l D aI aL aZ h0 p1 p2 p3 _) (cwV 1 hts g_X0_init_X0_makeRows_27 rfl rfl rfl (by decide +kernel) ⟨Nat.le_of_ble_eq_true rfl, Nat.le_of_ble_eq_true rfl⟩) hK hN hP hD [0] rfl (by decide) rfl rfl rfl hl.1 rfl (Nat.le_of_ble_eq_true rfl) dX0_init_24 ⟨Nat.le_of_ble_eq_true rfl, Nat.le_of_ble_eq_true rfl⟩) hP hD hS hA [0] [1, 2] rfl rfl (by decide) (by decide) (fun u_2 H locs hw hP hD hS => ?_)
  obtain ⟨le_2, ri_2, wa_2, kf_2, kt_2, ar_2⟩ := u_2
  have hP : va_P D q_cl [(p1, .inr (2, [.ref lo, .ref hi, .int 0])), (lo, .inl (aL, 8, .inr (.inl f))), (h0, .inr (0, [.ref p1, .ref p2, .ref p3, .ref le_2, .ref ri_2, .ref wa_2, .ref kf_2, .ref kt_2, .ref ar_2, .int 0, .int 0])), (le_2, .inl (aI, 16, .inl (fun _ => 0))), (ri_2, .inl (aI, 9, .inl (fun _ => 0))), (wa_2, .inl (aI, 9, .inl (fun _ => 0))), (kf_2, .inl (aI, 9, .inl (fun _ => 0))), (kt_2, .inl (aI, 9, .inl (fun _ => 0))), (ar_2, .inl (aL, 9, .inr (.inl (fun _ => 0))))] H := hP
  have hD : va_D A [(p1, .inr (2, [.ref lo, .ref hi, .int 0])), (lo, .inl (aL, 8, .inr (.inl f))), (h0, .inr (0, [.ref p1, .ref p2, .ref p3, .ref le_2, .ref ri_2, .ref wa_2, .ref kf_2, .ref kt_2, .ref ar_2, .int 0, .int 0])), (le_2, .inl (aI, 16, .inl (fun _ => 0))), (ri_2, .inl (aI, 9, .inl (fun _ => 0))), (wa_2, .inl (aI, 9, .inl (fun _ => 0))), (kf_2, .inl (aI, 9, .inl (fun _ => 0))), (kt_2, .inl (aI, 9, .inl (fun _ => 0))), (ar_2, .inl (aL, 9, .inr (.inl (fun _ => 0))))] := hD
  refine lv_aload_n hx hb dX0_init_27 rfl (lv_at hl 0 rfl) ?_
  refine q_v (wr := [(p1, .inr (2, [.ref lo, .ref hi, .int 0])), (lo, .inl (aL, 8, .inr (.inl f)))]) (q_runV (As := []) (rest := []) ⟨hx, hb, hml, hown, hts⟩ (c_X0_clear l D aI aL aZ h0 p1 p2 p3 le_2 ri_2 wa_2 kf_2 kt_2 ar_2 (fun _ => 0) (fun _ => 0) (fun _ => 0) (fun _ => 0) (fun _ => 0) (fun _ => 0) _) (cwV 0 hts g_X0_init_X0_clear_31 rfl rfl rfl (by decide +kernel) ⟨Nat.le_of_ble_eq_true rfl, Nat.le_of_ble_eq_true rfl⟩) hK hN hP hD [2, 3, 4, 5, 6, 7, 8] rfl (by decide) rfl rfl rfl hl.1 rfl (Nat.le_of_ble_eq_true rfl) dX0_init_28 ⟨Nat.le_of_ble_eq_true rfl, Nat.le_of_ble_eq_true rfl⟩) hP hD hS hA [2, 3, 4, 5, 6, 7, 8] [0, 1] rfl rfl (by decide) (by decide) (fun u_3 H locs hw hP hD hS => ?_)
  obtain ⟨gr_3, gw_3, gk_3, gt_3⟩ := u_3
  obtain ⟨f3_0, f3_1, f3_2, f3_3⟩ := hw
  have hP : va_P D q_cl [(p1, .inr (2, [.ref lo, .ref hi, .int 0])), (lo, .inl (aL, 8, .inr (.inl f))), (h0, .inr (0, [.ref p1, .ref p2, .ref p3, .ref le_2, .ref ri_2, .ref wa_2, .ref kf_2, .ref kt_2, .ref ar_2, .int 1, .int 0])), (ri_2, .inl (aI, 9, .inl gr_3)), (wa_2, .inl (aI, 9, .inl gw_3)), (kf_2, .inl (aI, 9, .inl gk_3)), (kt_2, .inl (aI, 9, .inl gt_3))] H := hP
  have hD : va_D A [(p1, .inr (2, [.ref lo, .ref hi, .int 0])), (lo, .inl (aL, 8, .inr (.inl f))), (h0, .inr (0, [.ref p1, .ref p2, .ref p3, .ref le_2, .ref ri_2, .ref wa_2, .ref kf_2, .ref kt_2, .ref ar_2, .int 1, .int 0])), (ri_2, .inl (aI, 9, .inl gr_3)), (wa_2, .inl (aI, 9, .inl gw_3)), (kf_2, .inl (aI, 9, .inl gk_3)), (kt_2, .inl (aI, 9, .inl gt_3))] := hD
  have hP9 := hP.sub (ws' := [(h0, .inr (0, [.ref p1, .ref p2, .ref p3, .ref le_2, .ref ri_2, .ref wa_2, .ref kf_2, .ref kt_2, .ref ar_2, .int 1, .int 0])), (ri_2, .inl (aI, 9, .inl gr_3)), (wa_2, .inl (aI, 9, .inl gw_3)), (kf_2, .inl (aI, 9, .inl gk_3)), (kt_2, .inl (aI, 9, .inl gt_3)), (p1, .inr (2, [.ref lo, .ref hi, .int 0])), (lo, .inl (aL, 8, .inr (.inl f)))]) [2, 3, 4, 5, 6, 0, 1] rfl
  have hD9 := hD.sub (ws' := [(h0, .inr (0, [.ref p1, .ref p2, .ref p3, .ref le_2, .ref ri_2, .ref wa_2, .ref kf_2, .ref kt_2, .ref ar_2, .int 1, .int 0])), (ri_2, .inl (aI, 9, .inl gr_3)), (wa_2, .inl (aI, 9, .inl gw_3)), (kf_2, .inl (aI, 9, .inl gk_3)), (kt_2, .inl (aI, 9, .inl gt_3)), (p1, .inr (2, [.ref lo, .ref hi, .int 0])), (lo, .inl (aL, 8, .inr (.inl f)))]) [2, 3, 4, 5, 6, 0, 1] (by decide) rfl
  exact q_retv (le_2, ri_2, wa_2, kf_2, kt_2, ar_2, gr_3, gw_3, gk_3, gt_3) hx hb hr hlocks hK hP9 hD9 hS (Nat.le_of_ble_eq_true rfl) (Nat.le_of_ble_eq_true rfl) (⟨(by first | assumption | decide | omega | simp_all), (by first | assumption | decide | omega | simp_all), (by first | assumption | decide | omega | simp_all), (by first | assumption | decide | omega | simp_all)⟩) dX0_init_31
def vsX0_has : List Cond := .code yX0_has cX0_has 2 (some .boolean) :: ([.fieldLink RX0 60 "FaceMap$Faces" "size" "I"] ++ wsX00)
set_option maxRecDepth 20000 in
theorem n_X0_has_X0 : ∀ w ∈ wsX00, w ∈ vsX0_has := fun _ h => List.mem_cons_of_mem _ (List.mem_append_right _ h)
set_option maxHeartbeats 4000000 in
set_option maxRecDepth 100000 in
/-- Faces.has, with the outside alone -/
theorem c_X0_has (l : Launch) (D : va_G) (aI aL aZ : ClassId) (h0 : Nat) (p1 : Nat) (p2 : Nat) (p3 : Nat) (le : Nat) (ri : Nat) (wa : Nat) (kf : Nat) (kt : Nat) (ar : Nat) (x : Int32) (sz : Nat) : MI l D q_cl (q_ty aI aL aZ) yX0_has vsX0_has 0 0 0 [.ref h0, .int x] [(h0, .inr (0, [.ref p1, .ref p2, .ref p3, .ref le, .ref ri, .ref wa, .ref kf, .ref kt, .ref ar, .int 1, .int 0]))] sz (fun (r : Int32) (u : Unit) => (r = 1 ∧ x = 0) ∨ (r = 0 ∧ ¬ x = 0)) (fun (u : Unit) => [(h0, .inr (0, [.ref p1, .ref p2, .ref p3, .ref le, .ref ri, .ref wa, .ref kf, .ref kt, .ref ar, .int 1, .int 0]))]) := by
  refine q_in cX0_has 2 (some .boolean) (qQi D q_cl (q_ty aI aL aZ) _ _) (by decide) rfl (Nat.le_of_ble_eq_true rfl) ?_
  intro p e s m args below meth c A ls hat hP hD hS hl
  obtain ⟨hx, hb, hr, hts, hown, hlocks, hml, hin, hK, hN, hA⟩ := hat
  have hown : s.vm.findClass RX0 = some m.cls := hown
  have hl : lv_has ls 2 [(0, .ref h0), (1, .int x)] := hl
  refine lv_iload_n hx hb dX0_has_0 rfl (lv_at hl 1 rfl) ?_
  refine lv_if_lt (tgt := 16) hx hb dX0_has_1 (by decide) (fun c_1 => ?_) (fun c_1 => ?_)
  · refine lv_iconst (v := 0) hx hb dX0_has_16 (by decide) ?_
    have hP9 := hP.sub (ws' := [(h0, .inr (0, [.ref p1, .ref p2, .ref p3, .ref le, .ref ri, .ref wa, .ref kf, .ref kt, .ref ar, .int 1, .int 0]))]) [0] rfl
    have hD9 := hD.sub (ws' := [(h0, .inr (0, [.ref p1, .ref p2, .ref p3, .ref le, .ref ri, .ref wa, .ref kf, .ref kt, .ref ar, .int 1, .int 0]))]) [0] (by decide) rfl
    exact q_retz () hx hb hr (by decide) hlocks hK hP9 hD9 hS (Nat.le_of_ble_eq_true rfl) (Nat.le_of_ble_eq_true rfl) (Or.inr (⟨rfl, (q_hasn (by first | exact Or.inl (by assumption) | exact Or.inr (by assumption)))⟩)) dX0_has_17
  · refine lv_iload_n hx hb dX0_has_4 rfl (lv_at hl 1 rfl) ?_
    refine lv_aload_n hx hb dX0_has_5 rfl (lv_at hl 0 rfl) ?_
    refine va_get (D := D) (ci := 0) (v := .int 1) (C := RX0) (T := TX0) (N := 11) hx hb hts n_X0_has_X0 hown hK hP 0 rfl rfl 9 (by decide) (hts (.fieldLink RX0 60 "FaceMap$Faces" "size" "I") (List.mem_of_getElem? (i := 1) rfl)) (fun _ h9 => h9) rfl dX0_has_6 ?_
    refine lv_icmp_ge (tgt := 16) hx hb dX0_has_9 (by decide) (fun c_2 => ?_) (fun c_2 => ?_)
    · refine lv_iconst (v := 0) hx hb dX0_has_16 (by decide) ?_
      have hP9 := hP.sub (ws' := [(h0, .inr (0, [.ref p1, .ref p2, .ref p3, .ref le, .ref ri, .ref wa, .ref kf, .ref kt, .ref ar, .int 1, .int 0]))]) [0] rfl
      have hD9 := hD.sub (ws' := [(h0, .inr (0, [.ref p1, .ref p2, .ref p3, .ref le, .ref ri, .ref wa, .ref kf, .ref kt, .ref ar, .int 1, .int 0]))]) [0] (by decide) rfl
      exact q_retz () hx hb hr (by decide) hlocks hK hP9 hD9 hS (Nat.le_of_ble_eq_true rfl) (Nat.le_of_ble_eq_true rfl) (Or.inr (⟨rfl, (q_hasn (by first | exact Or.inl (by assumption) | exact Or.inr (by assumption)))⟩)) dX0_has_17
    · refine lv_iconst (v := 1) hx hb dX0_has_12 (by decide) ?_
      refine lv_goto (tgt := 17) hx hb dX0_has_13 (by decide) ?_
      have hP9 := hP.sub (ws' := [(h0, .inr (0, [.ref p1, .ref p2, .ref p3, .ref le, .ref ri, .ref wa, .ref kf, .ref kt, .ref ar, .int 1, .int 0]))]) [0] rfl
      have hD9 := hD.sub (ws' := [(h0, .inr (0, [.ref p1, .ref p2, .ref p3, .ref le, .ref ri, .ref wa, .ref kf, .ref kt, .ref ar, .int 1, .int 0]))]) [0] (by decide) rfl
      exact q_retz () hx hb hr (by decide) hlocks hK hP9 hD9 hS (Nat.le_of_ble_eq_true rfl) (Nat.le_of_ble_eq_true rfl) (Or.inl (⟨rfl, (q_has (by assumption) (by assumption))⟩)) dX0_has_17
def vsX0_above : List Cond := .code yX0_above cX0_above 2 (some .int) :: ([])
set_option maxHeartbeats 4000000 in
set_option maxRecDepth 100000 in
/-- Faces.above none -/
theorem c_X0_above (l : Launch) (D : va_G) (aI aL aZ : ClassId) (h0 : Nat) (p1 : Nat) (p2 : Nat) (p3 : Nat) (le : Nat) (ri : Nat) (wa : Nat) (kf : Nat) (kt : Nat) (ar : Nat) (sz : Nat) : MI l D q_cl (q_ty aI aL aZ) yX0_above vsX0_above 0 0 0 [.ref h0, .int (-1)] [(h0, .inr (0, [.ref p1, .ref p2, .ref p3, .ref le, .ref ri, .ref wa, .ref kf, .ref kt, .ref ar, .int 1, .int 0]))] sz (fun (r : Int32) (u : Unit) => r = 0) (fun (u : Unit) => [(h0, .inr (0, [.ref p1, .ref p2, .ref p3, .ref le, .ref ri, .ref wa, .ref kf, .ref kt, .ref ar, .int 1, .int 0]))]) := by
  refine q_in cX0_above 2 (some .int) (qQi D q_cl (q_ty aI aL aZ) _ _) (by decide) rfl (Nat.le_of_ble_eq_true rfl) ?_
  intro p e s m args below meth c A ls hat hP hD hS hl
  obtain ⟨hx, hb, hr, hts, hown, hlocks, hml, hin, hK, hN, hA⟩ := hat
  have hown : s.vm.findClass RX0 = some m.cls := hown
  have hl : lv_has ls 2 [(0, .ref h0), (1, .int (-1))] := hl
  refine lv_iload_n hx hb dX0_above_0 rfl (lv_at hl 1 rfl) ?_
  refine lv_if_ge (tgt := 8) hx hb dX0_above_1 (by decide) (fun c_1 => ?_) (fun c_1 => ?_)
  · exact absurd c_1 (by decide)
  · refine lv_iconst (v := 0) hx hb dX0_above_4 (by decide) ?_
    refine lv_goto (tgt := 17) hx hb dX0_above_5 (by decide) ?_
    have hP9 := hP.sub (ws' := [(h0, .inr (0, [.ref p1, .ref p2, .ref p3, .ref le, .ref ri, .ref wa, .ref kf, .ref kt, .ref ar, .int 1, .int 0]))]) [0] rfl
    have hD9 := hD.sub (ws' := [(h0, .inr (0, [.ref p1, .ref p2, .ref p3, .ref le, .ref ri, .ref wa, .ref kf, .ref kt, .ref ar, .int 1, .int 0]))]) [0] (by decide) rfl
    exact q_reti () hx hb hr hlocks hK hP9 hD9 hS (Nat.le_of_ble_eq_true rfl) (Nat.le_of_ble_eq_true rfl) (rfl) dX0_above_17
def vsX0_piecesBetween : List Cond := .code yX0_piecesBetween cX0_piecesBetween 7 (some .int) :: ([.fieldLink RX0 7 "FaceMap$Faces" "pieces" "LFaceMap$Pieces;", .fieldLink RX0 71 "FaceMap$Pieces" "size" "I"] ++ wsX00 ++ wsX20)
set_option maxRecDepth 20000 in
theorem n_X0_piecesBetween_X0 : ∀ w ∈ wsX00, w ∈ vsX0_piecesBetween := fun _ h => List.mem_cons_of_mem _ (List.mem_append_left _ (List.mem_append_right _ h))
set_option maxRecDepth 20000 in
theorem n_X0_piecesBetween_X2 : ∀ w ∈ wsX20, w ∈ vsX0_piecesBetween := fun _ h => List.mem_cons_of_mem _ (List.mem_append_right _ h)
set_option maxHeartbeats 4000000 in
set_option maxRecDepth 100000 in
/-- Faces.piecesBetween, with no piece -/
theorem c_X0_piecesBetween (l : Launch) (D : va_G) (aI aL aZ : ClassId) (h0 : Nat) (p1 : Nat) (p2 : Nat) (p3 : Nat) (le : Nat) (ri : Nat) (wa : Nat) (kf : Nat) (kt : Nat) (ar : Nat) (lo : Nat) (hi : Nat) (x : Int32) (y : Int32) (sz : Nat) : MI l D q_cl (q_ty aI aL aZ) yX0_piecesBetween vsX0_piecesBetween 0 0 0 [.ref h0, .int x, .int y] [(h0, .inr (0, [.ref p1, .ref p2, .ref p3, .ref le, .ref ri, .ref wa, .ref kf, .ref kt, .ref ar, .int 1, .int 0])), (p1, .inr (2, [.ref lo, .ref hi, .int 0]))] sz (fun (r : Int32) (u : Unit) => r = 0) (fun (u : Unit) => ([] : va_W)) := by
  refine q_in cX0_piecesBetween 7 (some .int) (qQi D q_cl (q_ty aI aL aZ) _ _) (by decide) rfl (Nat.le_of_ble_eq_true rfl) ?_
  intro p e s m args below meth c A ls hat hP hD hS hl
  obtain ⟨hx, hb, hr, hts, hown, hlocks, hml, hin, hK, hN, hA⟩ := hat
  have hown : s.vm.findClass RX0 = some m.cls := hown
  have hl : lv_has ls 7 [(0, .ref h0), (1, .int x), (2, .int y)] := hl
  refine lv_iconst (v := 0) hx hb dX0_piecesBetween_0 (by decide) ?_
  refine lv_istore_n (lv' := [(3, .int 0), (0, .ref h0), (1, .int x), (2, .int y)]) hx hb dX0_piecesBetween_1 rfl hl (by decide) rfl (fun ls hl => ?_)
  refine lv_iconst (v := 0) hx hb dX0_piecesBetween_2 (by decide) ?_
  refine lv_istore (lv' := [(4, .int 0), (3, .int 0), (0, .ref h0), (1, .int x), (2, .int y)]) hx hb dX0_piecesBetween_3 hl (by decide) rfl (fun ls hl => ?_)
  refine lv_iload hx hb dX0_piecesBetween_5 (lv_at hl 0 rfl) ?_
  refine lv_aload_n hx hb dX0_piecesBetween_7 rfl (lv_at hl 2 rfl) ?_
  refine va_get (D := D) (ci := 0) (v := .ref p1) (C := RX0) (T := TX0) (N := 11) hx hb hts n_X0_piecesBetween_X0 hown hK hP 0 rfl rfl 0 (by decide) (hts (.fieldLink RX0 7 "FaceMap$Faces" "pieces" "LFaceMap$Pieces;") (List.mem_of_getElem? (i := 1) rfl)) (fun _ h9 => h9) rfl dX0_piecesBetween_8 ?_
  refine va_get (D := D) (ci := 2) (v := .int 0) (C := RX2) (T := TX2) (N := 3) hx hb hts n_X0_piecesBetween_X2 hown hK hP 1 rfl rfl 2 (by decide) (hts (.fieldLink RX0 71 "FaceMap$Pieces" "size" "I") (List.mem_of_getElem? (i := 2) rfl)) (fun _ h9 => h9) rfl dX0_piecesBetween_11 ?_
  refine lv_icmp_ge (tgt := 74) hx hb dX0_piecesBetween_14 (by decide) (fun c_1 => ?_) (fun c_1 => ?_)
  · refine lv_iload_n hx hb dX0_piecesBetween_74 rfl (lv_at hl 1 rfl) ?_
    have hP9 := hP.sub (ws' := []) [] rfl
    have hD9 := hD.sub (ws' := []) [] (by decide) rfl
    exact q_reti () hx hb hr hlocks hK hP9 hD9 hS (Nat.le_of_ble_eq_true rfl) (Nat.le_of_ble_eq_true rfl) (rfl) dX0_piecesBetween_75
  · exact absurd c_1 (by decide)
