/-! THE CLAIM OUT OF ONE WALK OF THE LAW'S BODY. Your part is whole_start (and what it stands on); all else here is the same for every law, but numbers. -/
def R_law : String := "FaceMapLaw"
def lw_P (b : Addr) (xs : List Int32) (args : Array Value) (s : State) : Prop := args = #[.ref b] ∧ s.IntsAt b xs ∧ xs.length ≤ 5 ∧ (Jvm.Cond.and given_1 narrow_1).before args s = true
def lw_Q (_ : Array Value) (s : State) (o : Outcome) (t : State) : Prop := o = .returned (some (.int 1)) ∧ Framed s o t [] 600000 7302250
def lw_Z (below : List Frame) (a : Array Value) (s : State) : State → Prop := fun t => ∃ o, t.status = .running ∧ Ended t below o ∧ lw_Q a s o t
/-- the law's own end, with 1 on the stack, nothing written that was there before, its room as the claim has it -/
theorem lw_ret {p : Program} {l : Launch} {e : Env} {s : State} {m : MethodId} {below : List Frame} {meth : Method} {c : Code} {b : Nat} (hx : p.tables.exec = Jvm.exec) (hb : c.code = code) (hr : meth.sig.returnType = ret) (hlocks : meth.locks = false) {pc : Nat} {H : Heap} {ls : Array Slot} (hdg : decode code pc = .ok (.ireturn, 1)) : W p l e room_1 s m #[Value.ref b] below meth c H [] 600000 7302250 (lw_Z below #[Value.ref b] s) (F0 m pc ls [.int 1]) := by
  intro T hT X
  obtain ⟨fs, hret, hrun, hended, hW, hframe⟩ := X.leave (v := some (.int 1)) (hlocks := hlocks) (fun h => by rw [hr] at h; cases h)
  have hmeth' : T.vm.method? m = some meth := X.method'
  refine ⟨T.setFrames fs, ?_, .returned (some (.int 1)), hrun, hended, rfl, ⟨_, rfl⟩, hW, hframe⟩
  jvm_step X.here [X.here.top, hx, hb, hdg, hmeth', hr, ret, narrow_b1]
  (try refine ⟨rfl, ?_⟩); (try refine ⟨rfl, ?_⟩)
  first | (intro acts; rw [hret _ acts rfl rfl rfl]) | rw [hret _ _ rfl rfl rfl]
  exact Steps.refl _
/-- what holds at the law's entry: the machine, the code, the tables' words (any of lw_tbl by 'hts w (by decide +kernel)'), the script of L ints xs at the cell b, what the Statement gives of the start (any of its parts by flat_of_before) -/
def lw_At (p : Program) (s : State) (m : MethodId) (meth : Method) (c : Code) (b L : Nat) (xs : Nat → Int32) : Prop :=
  p.tables.exec = Jvm.exec ∧ c.code = code ∧ meth.sig.returnType = ret ∧ c.maxLocals = 4 ∧ s.vm.findClass R_law = some m.cls ∧ (∀ w ∈ lw_tbl, w.before #[Value.ref b] s = true) ∧ va_X b L xs s s.heap ∧ b < s.heap.size ∧ meth.locks = false ∧ (Jvm.Cond.and given_1 narrow_1).before #[Value.ref b] s = true
theorem q_L5 {L : Nat} (hL : L ≤ 5) (h : ¬ (Int32.ofNat L - 5 < 0)) : L = 5 := by
  rcases (show L = 0 ∨ L = 1 ∨ L = 2 ∨ L = 3 ∨ L = 4 ∨ L = 5 by omega) with rfl | rfl | rfl | rfl | rfl | rfl
  · exact absurd (by decide) h
  · exact absurd (by decide) h
  · exact absurd (by decide) h
  · exact absurd (by decide) h
  · exact absurd (by decide) h
  · rfl
theorem q_arr {s : State} {args : Array Value} {ty : FieldType} (h : (Cond.arrayClass ty).before args s = true) : ∃ cA : ClassId, ArrOfT s cA ty ∧ s.vm.findClass ("[" ++ ty.toString) = some cA := by
  obtain ⟨cA, k, comp, h1, h2, h3⟩ := Cond.arrayClass_spec h
  exact ⟨cA, fun n z => ⟨fun k h => (by cases h), k, h2, comp, h3⟩, h1⟩
set_option maxHeartbeats 40000000 in
set_option maxRecDepth 100000 in
/-- THE LAW, from its entry -/
theorem whole_start {p : Program} {e : Env} {s : State} {m : MethodId} {below : List Frame} {meth : Method} {c : Code} (l : Launch) {b L : Nat} {xs : Nat → Int32} (hL : L ≤ 5) (C0 : lw_At p s m meth c b L xs) : W p l e room_1 s m #[Value.ref b] below meth c s.heap [] 0 0 (lw_Z below #[Value.ref b] s) (entryFrame m ([Value.ref b] : List Value).toArray 4) := by
  obtain ⟨hx, hb, hr, hml, hown, hts0, hX, hbl, hlocks, hgv⟩ := C0
  have hown : s.vm.findClass RL = some m.cls := hown
  have hA : ∀ q : Nat, s.heap.size ≤ q → (fun q : Nat => s.heap.size ≤ q) q := fun _ h => h
  have hbA : ¬ (fun q : Nat => s.heap.size ≤ q) b := Nat.not_le.mpr hbl
  have hts : ∀ w ∈ vsL_law, w.before #[Value.ref b] s = true := fun w h => hts0 w (vsL_in w h)
  obtain ⟨d0, i0, hn0⟩ := u_known (C := RX0) (T := TX0) (N := 11) (n := 11) hts0 inX0 (hts (.instantiable RX0 11) (List.mem_of_getElem? (i := 0) rfl))
  obtain ⟨d1, i1, hn1⟩ := u_known (C := RX1) (T := TX1) (N := 3) (n := 3) hts0 inX1 (hts (.instantiable RX1 3) (List.mem_of_getElem? (i := 1) rfl))
  obtain ⟨d2, i2, hn2⟩ := u_known (C := RX2) (T := TX2) (N := 3) (n := 3) hts0 inX2 (hts (.instantiable RX2 3) (List.mem_of_getElem? (i := 2) rfl))
  obtain ⟨d3, i3, hn3⟩ := u_known (C := RX4) (T := TX4) (N := 8) (n := 8) hts0 inX4 (hts (.instantiable RX4 8) (List.mem_of_getElem? (i := 3) rfl))
  obtain ⟨d4, i4, hn4⟩ := u_known (C := RX6) (T := TX6) (N := 5) (n := 5) hts0 inX6 (hts (.instantiable RX6 5) (List.mem_of_getElem? (i := 4) rfl))
  obtain ⟨d5, i5, hn5⟩ := u_known (C := RX7) (T := TX7) (N := 17) (n := 17) hts0 inX7 (hts (.instantiable RX7 17) (List.mem_of_getElem? (i := 5) rfl))
  obtain ⟨d6, i6, hn6⟩ := u_known (C := RX8) (T := TX8) (N := 2) (n := 2) hts0 inX8 (hts (.instantiable RX8 2) (List.mem_of_getElem? (i := 6) rfl))
  obtain ⟨d7, i7, hn7⟩ := u_known (C := RX9) (T := TX9) (N := 5) (n := 5) hts0 inX9 (hts (.instantiable RX9 5) (List.mem_of_getElem? (i := 7) rfl))
  obtain ⟨D, hKc⟩ : ∃ D : va_G, ∀ (k : Nat) (q : vw_C), q_cl[k]? = some q → u_Kn s q.1 q.2.1 q.2.2 (D.1 k) (D.2 k) := by
    refine ⟨(fun k => match k with | 0 => d0 | 1 => d1 | 2 => d2 | 3 => d3 | 4 => d4 | 5 => d5 | 6 => d6 | _ => d7, fun k => match k with | 0 => i0 | 1 => i1 | 2 => i2 | 3 => i3 | 4 => i4 | 5 => i5 | 6 => i6 | _ => i7), ?_⟩
    intro k q hq
    match k, hq with
    | 0, hq => cases hq; exact hn0
    | 1, hq => cases hq; exact hn1
    | 2, hq => cases hq; exact hn2
    | 3, hq => cases hq; exact hn3
    | 4, hq => cases hq; exact hn4
    | 5, hq => cases hq; exact hn5
    | 6, hq => cases hq; exact hn6
    | 7, hq => cases hq; exact hn7
    | k + 8, hq => simp [q_cl] at hq
  obtain ⟨aI, haI, faI⟩ := q_arr (hts (.arrayClass .int) (List.mem_of_getElem? (i := 8) rfl))
  obtain ⟨aL, haL, faL⟩ := q_arr (hts (.arrayClass .long) (List.mem_of_getElem? (i := 9) rfl))
  obtain ⟨aZ, haZ, faZ⟩ := q_arr (hts (.arrayClass .boolean) (List.mem_of_getElem? (i := 10) rfl))
  have hK : va_K D q_cl (q_ty aI aL aZ) s := by
    refine ⟨hKc, fun k q hk => ?_⟩
    match k, hk with
    | 0, hk => cases hk; exact ⟨haI, faI⟩
    | 1, hk => cases hk; exact ⟨haL, faL⟩
    | 2, hk => cases hk; exact ⟨haZ, faZ⟩
    | k + 3, hk => simp [q_ty] at hk
  have hN : qN s := ⟨va_Nw.of rfl (hts0 (.methodLinkNest RX9 40 yX7_init RX9) (List.mem_of_getElem? (i := 482) rfl)), va_Nw.of rfl (hts0 (.methodLinkNest RX9 47 yX8_init RX9) (List.mem_of_getElem? (i := 548) rfl))⟩
  have hS : va_S (fun q : Nat => s.heap.size ≤ q) s.heap s.heap [] := va_S.rf
  have hP : va_P D q_cl [] s.heap := fun k q h => by simp at h
  have hD : va_D (fun q : Nat => s.heap.size ≤ q) [] := ⟨fun i j p q h => by simp at h, fun k q h => by simp at h⟩
  have hl := lv_entry ([.ref b]) (n := 4) (Nat.le_of_ble_eq_true rfl)
  rw [lg_entry_eq]
  generalize (lg_sl ([.ref b]) ++ List.replicate (4 - (lg_sl ([.ref b])).length) Slot.unset).toArray = ls at hl ⊢
  have hl : lv_has ls 4 [(0, .ref b)] := hl
  refine va_new (ci := 4) (fs := [.null, .null, .null, .null, .int 0]) (C := RX6) (T := TX6) (N := 5) hx hb hts n_L_law_X6 tyX6 tyX6_ok hown (hts (.classLink RL 7 RX6) (List.mem_of_getElem? (i := 11) rfl)) (hts (.instantiable RX6 5) (List.mem_of_getElem? (i := 4) rfl)) (hts (.initialized RX6) (List.mem_of_getElem? (i := 12) rfl)) hK hP hD hS hA rfl (by decide +kernel) (Nat.le_of_ble_eq_true rfl) (Nat.le_of_ble_eq_true rfl) dL_law_0 (fun q1 H hP hD hS => ?_)
  have hP : va_P D q_cl [(q1, .inr (4, [.null, .null, .null, .null, .int 0]))] H := hP
  have hD : va_D (fun q : Nat => s.heap.size ≤ q) [(q1, .inr (4, [.null, .null, .null, .null, .int 0]))] := hD
  refine lv_dup hx hb dL_law_3 rfl ?_
  refine q_v (wr := []) (q_runI (As := []) (rest := [.ref q1]) ⟨hx, hb, hml, hown, hts⟩ (c_X6_init l D aI aL aZ q1 _) (cwI 0 hts g_L_law_X6_init_9 rfl rfl rfl (hts (.initialized RX6) (List.mem_of_getElem? (i := 12) rfl)) (hts (.methodLink RL 9 yX6_init) (List.mem_of_getElem? (i := 13) rfl)) (hts (.instanceMethod yX6_init) (List.mem_of_getElem? (i := 14) rfl)) rfl (by decide +kernel) ⟨Nat.le_of_ble_eq_true rfl, Nat.le_of_ble_eq_true rfl⟩) hK hN hP hD [0] rfl (by decide) rfl hl.1 rfl (Nat.le_of_ble_eq_true rfl) dL_law_4 ⟨Nat.le_of_ble_eq_true rfl, Nat.le_of_ble_eq_true rfl⟩) hP hD hS hA [0] [] rfl rfl (by decide) (by decide) (fun u_2 H locs hw hP hD hS => ?_)
  obtain ⟨ph_2, nh_2, sh_2, fh_2, lo_2, hi_2, at__2, dg_2, le_2, ri_2, wa_2, kf_2, kt_2, ar_2, gr_2, gw_2, gk_2, gt_2⟩ := u_2
  obtain ⟨f2_0, f2_1, f2_2, f2_3⟩ := hw
  have hP : va_P D q_cl [(q1, .inr (4, [.ref ph_2, .ref nh_2, .ref sh_2, .ref fh_2, .int 0])), (ph_2, .inr (2, [.ref lo_2, .ref hi_2, .int 0])), (lo_2, .inl (aL, 8, .inr (.inl (fun _ => 0)))), (hi_2, .inl (aL, 8, .inr (.inl (fun _ => 0)))), (nh_2, .inr (1, [.ref at__2, .ref dg_2, .int 0])), (at__2, .inl (aL, 16, .inr (.inl (fun _ => 0)))), (dg_2, .inl (aI, 16, .inl (fun _ => 0))), (fh_2, .inr (0, [.ref ph_2, .ref nh_2, .ref sh_2, .ref le_2, .ref ri_2, .ref wa_2, .ref kf_2, .ref kt_2, .ref ar_2, .int 1, .int 0])), (ri_2, .inl (aI, 9, .inl gr_2)), (wa_2, .inl (aI, 9, .inl gw_2)), (kf_2, .inl (aI, 9, .inl gk_2)), (kt_2, .inl (aI, 9, .inl gt_2))] H := hP
  have hD : va_D (fun q : Nat => s.heap.size ≤ q) [(q1, .inr (4, [.ref ph_2, .ref nh_2, .ref sh_2, .ref fh_2, .int 0])), (ph_2, .inr (2, [.ref lo_2, .ref hi_2, .int 0])), (lo_2, .inl (aL, 8, .inr (.inl (fun _ => 0)))), (hi_2, .inl (aL, 8, .inr (.inl (fun _ => 0)))), (nh_2, .inr (1, [.ref at__2, .ref dg_2, .int 0])), (at__2, .inl (aL, 16, .inr (.inl (fun _ => 0)))), (dg_2, .inl (aI, 16, .inl (fun _ => 0))), (fh_2, .inr (0, [.ref ph_2, .ref nh_2, .ref sh_2, .ref le_2, .ref ri_2, .ref wa_2, .ref kf_2, .ref kt_2, .ref ar_2, .int 1, .int 0])), (ri_2, .inl (aI, 9, .inl gr_2)), (wa_2, .inl (aI, 9, .inl gw_2)), (kf_2, .inl (aI, 9, .inl gk_2)), (kt_2, .inl (aI, 9, .inl gt_2))] := hD
  refine lv_astore_n (lv' := [(1, .ref q1), (0, .ref b)]) hx hb dL_law_7 rfl hl (by decide) rfl (fun ls hl => ?_)
  refine va_new (ci := 7) (fs := [.null, .int 0, .null, .null, .int 0]) (C := RX9) (T := TX9) (N := 5) hx hb hts n_L_law_X9 tyX9 tyX9_ok hown (hts (.classLink RL 10 RX9) (List.mem_of_getElem? (i := 15) rfl)) (hts (.instantiable RX9 5) (List.mem_of_getElem? (i := 7) rfl)) (hts (.initialized RX9) (List.mem_of_getElem? (i := 16) rfl)) hK hP hD hS hA rfl (by decide +kernel) (Nat.le_of_ble_eq_true rfl) (Nat.le_of_ble_eq_true rfl) dL_law_8 (fun q3 H hP hD hS => ?_)
  have hP : va_P D q_cl [(q1, .inr (4, [.ref ph_2, .ref nh_2, .ref sh_2, .ref fh_2, .int 0])), (ph_2, .inr (2, [.ref lo_2, .ref hi_2, .int 0])), (lo_2, .inl (aL, 8, .inr (.inl (fun _ => 0)))), (hi_2, .inl (aL, 8, .inr (.inl (fun _ => 0)))), (nh_2, .inr (1, [.ref at__2, .ref dg_2, .int 0])), (at__2, .inl (aL, 16, .inr (.inl (fun _ => 0)))), (dg_2, .inl (aI, 16, .inl (fun _ => 0))), (fh_2, .inr (0, [.ref ph_2, .ref nh_2, .ref sh_2, .ref le_2, .ref ri_2, .ref wa_2, .ref kf_2, .ref kt_2, .ref ar_2, .int 1, .int 0])), (ri_2, .inl (aI, 9, .inl gr_2)), (wa_2, .inl (aI, 9, .inl gw_2)), (kf_2, .inl (aI, 9, .inl gk_2)), (kt_2, .inl (aI, 9, .inl gt_2)), (q3, .inr (7, [.null, .int 0, .null, .null, .int 0]))] H := hP
  have hD : va_D (fun q : Nat => s.heap.size ≤ q) [(q1, .inr (4, [.ref ph_2, .ref nh_2, .ref sh_2, .ref fh_2, .int 0])), (ph_2, .inr (2, [.ref lo_2, .ref hi_2, .int 0])), (lo_2, .inl (aL, 8, .inr (.inl (fun _ => 0)))), (hi_2, .inl (aL, 8, .inr (.inl (fun _ => 0)))), (nh_2, .inr (1, [.ref at__2, .ref dg_2, .int 0])), (at__2, .inl (aL, 16, .inr (.inl (fun _ => 0)))), (dg_2, .inl (aI, 16, .inl (fun _ => 0))), (fh_2, .inr (0, [.ref ph_2, .ref nh_2, .ref sh_2, .ref le_2, .ref ri_2, .ref wa_2, .ref kf_2, .ref kt_2, .ref ar_2, .int 1, .int 0])), (ri_2, .inl (aI, 9, .inl gr_2)), (wa_2, .inl (aI, 9, .inl gw_2)), (kf_2, .inl (aI, 9, .inl gk_2)), (kt_2, .inl (aI, 9, .inl gt_2)), (q3, .inr (7, [.null, .int 0, .null, .null, .int 0]))] := hD
  refine lv_dup hx hb dL_law_11 rfl ?_
  refine q_v (wr := [(q1, .inr (4, [.ref ph_2, .ref nh_2, .ref sh_2, .ref fh_2, .int 0])), (ph_2, .inr (2, [.ref lo_2, .ref hi_2, .int 0])), (lo_2, .inl (aL, 8, .inr (.inl (fun _ => 0)))), (hi_2, .inl (aL, 8, .inr (.inl (fun _ => 0)))), (nh_2, .inr (1, [.ref at__2, .ref dg_2, .int 0])), (at__2, .inl (aL, 16, .inr (.inl (fun _ => 0)))), (dg_2, .inl (aI, 16, .inl (fun _ => 0))), (fh_2, .inr (0, [.ref ph_2, .ref nh_2, .ref sh_2, .ref le_2, .ref ri_2, .ref wa_2, .ref kf_2, .ref kt_2, .ref ar_2, .int 1, .int 0])), (ri_2, .inl (aI, 9, .inl gr_2)), (wa_2, .inl (aI, 9, .inl gw_2)), (kf_2, .inl (aI, 9, .inl gk_2)), (kt_2, .inl (aI, 9, .inl gt_2))]) (q_runI (As := []) (rest := [.ref q3]) ⟨hx, hb, hml, hown, hts⟩ (c_X9_init l D aI aL aZ q3 _) (cwI 0 hts g_L_law_X9_init_12 rfl rfl rfl (hts (.initialized RX9) (List.mem_of_getElem? (i := 16) rfl)) (hts (.methodLink RL 12 yX9_init) (List.mem_of_getElem? (i := 17) rfl)) (hts (.instanceMethod yX9_init) (List.mem_of_getElem? (i := 18) rfl)) rfl (by decide +kernel) ⟨Nat.le_of_ble_eq_true rfl, Nat.le_of_ble_eq_true rfl⟩) hK hN hP hD [12] rfl (by decide) rfl hl.1 rfl (Nat.le_of_ble_eq_true rfl) dL_law_12 ⟨Nat.le_of_ble_eq_true rfl, Nat.le_of_ble_eq_true rfl⟩) hP hD hS hA [12] [0, 1, 2, 3, 4, 5, 6, 7, 8, 9, 10, 11] rfl rfl (by decide) (by decide) (fun u_4 H locs hw hP hD hS => ?_)
  obtain ⟨en_4, nt_4, pl_4, row_4, nx_4, ny_4, nl_4, nh_4, nb_4, no_4, nr_4, nd_4, na_4, ns_4, nf_4, np_4, nq_4⟩ := u_4
  have hP : va_P D q_cl [(q1, .inr (4, [.ref ph_2, .ref nh_2, .ref sh_2, .ref fh_2, .int 0])), (ph_2, .inr (2, [.ref lo_2, .ref hi_2, .int 0])), (lo_2, .inl (aL, 8, .inr (.inl (fun _ => 0)))), (hi_2, .inl (aL, 8, .inr (.inl (fun _ => 0)))), (nh_2, .inr (1, [.ref at__2, .ref dg_2, .int 0])), (at__2, .inl (aL, 16, .inr (.inl (fun _ => 0)))), (dg_2, .inl (aI, 16, .inl (fun _ => 0))), (fh_2, .inr (0, [.ref ph_2, .ref nh_2, .ref sh_2, .ref le_2, .ref ri_2, .ref wa_2, .ref kf_2, .ref kt_2, .ref ar_2, .int 1, .int 0])), (ri_2, .inl (aI, 9, .inl gr_2)), (wa_2, .inl (aI, 9, .inl gw_2)), (kf_2, .inl (aI, 9, .inl gk_2)), (kt_2, .inl (aI, 9, .inl gt_2)), (q3, .inr (7, [.ref en_4, .int 0, .ref nt_4, .ref pl_4, .int 0])), (en_4, .inl (aI, 6000, .inl (fun _ => 0))), (nt_4, .inr (5, [.ref nx_4, .ref ny_4, .int 0, .ref nl_4, .ref nh_4, .int 0, .ref nb_4, .ref no_4, .ref nr_4, .ref nd_4, .ref na_4, .ref ns_4, .ref nf_4, .int 0, .ref np_4, .int 0, .ref nq_4])), (nx_4, .inl (aI, 0, .inl (fun _ => 0))), (nl_4, .inl (aI, 0, .inl (fun _ => 0))), (pl_4, .inr (6, [.ref row_4, .int 0]))] H := hP
  have hD : va_D (fun q : Nat => s.heap.size ≤ q) [(q1, .inr (4, [.ref ph_2, .ref nh_2, .ref sh_2, .ref fh_2, .int 0])), (ph_2, .inr (2, [.ref lo_2, .ref hi_2, .int 0])), (lo_2, .inl (aL, 8, .inr (.inl (fun _ => 0)))), (hi_2, .inl (aL, 8, .inr (.inl (fun _ => 0)))), (nh_2, .inr (1, [.ref at__2, .ref dg_2, .int 0])), (at__2, .inl (aL, 16, .inr (.inl (fun _ => 0)))), (dg_2, .inl (aI, 16, .inl (fun _ => 0))), (fh_2, .inr (0, [.ref ph_2, .ref nh_2, .ref sh_2, .ref le_2, .ref ri_2, .ref wa_2, .ref kf_2, .ref kt_2, .ref ar_2, .int 1, .int 0])), (ri_2, .inl (aI, 9, .inl gr_2)), (wa_2, .inl (aI, 9, .inl gw_2)), (kf_2, .inl (aI, 9, .inl gk_2)), (kt_2, .inl (aI, 9, .inl gt_2)), (q3, .inr (7, [.ref en_4, .int 0, .ref nt_4, .ref pl_4, .int 0])), (en_4, .inl (aI, 6000, .inl (fun _ => 0))), (nt_4, .inr (5, [.ref nx_4, .ref ny_4, .int 0, .ref nl_4, .ref nh_4, .int 0, .ref nb_4, .ref no_4, .ref nr_4, .ref nd_4, .ref na_4, .ref ns_4, .ref nf_4, .int 0, .ref np_4, .int 0, .ref nq_4])), (nx_4, .inl (aI, 0, .inl (fun _ => 0))), (nl_4, .inl (aI, 0, .inl (fun _ => 0))), (pl_4, .inr (6, [.ref row_4, .int 0]))] := hD
  refine lv_astore_n (lv' := [(2, .ref q3), (1, .ref q1), (0, .ref b)]) hx hb dL_law_15 rfl hl (by decide) rfl (fun ls hl => ?_)
  refine lv_iconst (v := 0) hx hb dL_law_16 (by decide) ?_
  refine lv_istore_n (lv' := [(3, .int 0), (2, .ref q3), (1, .ref q1), (0, .ref b)]) hx hb dL_law_17 rfl hl (by decide) rfl (fun ls hl => ?_)
  refine lv_iload_n hx hb dL_law_18 rfl (lv_at hl 0 rfl) ?_
  refine lv_aload_n hx hb dL_law_19 rfl (lv_at hl 3 rfl) ?_
  refine va_slen hx hb hX hbl hbA hS dL_law_20 ?_
  refine lv_iconst (v := 5) hx hb dL_law_21 (by decide) ?_
  refine lv_isub hx hb dL_law_22 ?_
  refine lv_icmp_gt (tgt := 465) hx hb dL_law_23 (by decide) (fun c_5 => ?_) (fun c_5 => ?_)
  · refine lv_iconst (v := 1) hx hb dL_law_465 (by decide) ?_
    refine va_forget (fun q hq => hS.2.2 q hq) ?_
    refine W.widen (k := 600000) (n := 7302250) (Nat.le_of_ble_eq_true rfl) (Nat.le_of_ble_eq_true rfl) ?_
    exact lw_ret hx hb hr hlocks dL_law_466
  · have hL5 : L = 5 := q_L5 hL c_5
    refine lv_aload_n hx hb dL_law_26 rfl (lv_at hl 3 rfl) ?_
    refine lv_iload_n hx hb dL_law_27 rfl (lv_at hl 0 rfl) ?_
    refine va_sld hx hb hX hbl hbA hS (q_ix 0 (by decide) (by decide) (by omega)) dL_law_28 ?_
    refine q_vi (v := xs 0) rfl ?_
    refine lv_bipush (v := 15) hx hb dL_law_29 (by decide) ?_
    refine lv_iand hx hb dL_law_31 ?_
    refine lv_topi (fun k6 ek6 => ?_)
    by_cases w_7 : k6 = 0
    · subst w_7
      refine lv_tableIn (tgt := 88) hx hb dL_law_32 (by decide) (by decide) rfl (by decide) ?_
      refine lv_aload_n hx hb dL_law_88 rfl (lv_at hl 2 rfl) ?_
      refine lv_aload_n hx hb dL_law_89 rfl (lv_at hl 3 rfl) ?_
      refine lv_iload_n hx hb dL_law_90 rfl (lv_at hl 0 rfl) ?_
      refine lv_iconst (v := 1) hx hb dL_law_91 (by decide) ?_
      refine lv_iadd hx hb dL_law_92 ?_
      refine q_vi (v := 1) (by decide) ?_
      refine va_sld hx hb hX hbl hbA hS (q_ix 1 (by decide) (by decide) (by omega)) dL_law_93 ?_
      refine q_vi (v := xs 1) rfl ?_
      refine lv_aload_n hx hb dL_law_94 rfl (lv_at hl 3 rfl) ?_
      refine lv_iload_n hx hb dL_law_95 rfl (lv_at hl 0 rfl) ?_
      refine lv_iconst (v := 2) hx hb dL_law_96 (by decide) ?_
      refine lv_iadd hx hb dL_law_97 ?_
      refine q_vi (v := 2) (by decide) ?_
      refine va_sld hx hb hX hbl hbA hS (q_ix 2 (by decide) (by decide) (by omega)) dL_law_98 ?_
      refine q_vi (v := xs 2) rfl ?_
      refine lv_aload_n hx hb dL_law_99 rfl (lv_at hl 3 rfl) ?_
      refine lv_iload_n hx hb dL_law_100 rfl (lv_at hl 0 rfl) ?_
      refine lv_iconst (v := 3) hx hb dL_law_101 (by decide) ?_
      refine lv_iadd hx hb dL_law_102 ?_
      refine q_vi (v := 3) (by decide) ?_
      refine va_sld hx hb hX hbl hbA hS (q_ix 3 (by decide) (by decide) (by omega)) dL_law_103 ?_
      refine q_vi (v := xs 3) rfl ?_
      refine lv_aload_n hx hb dL_law_104 rfl (lv_at hl 3 rfl) ?_
      refine lv_iload_n hx hb dL_law_105 rfl (lv_at hl 0 rfl) ?_
      refine lv_iconst (v := 4) hx hb dL_law_106 (by decide) ?_
      refine lv_iadd hx hb dL_law_107 ?_
      refine q_vi (v := 4) (by decide) ?_
      refine va_sld hx hb hX hbl hbA hS (q_ix 4 (by decide) (by decide) (by omega)) dL_law_108 ?_
      refine q_vi (v := xs 4) rfl ?_
      refine q_i (wr := [(fh_2, .inr (0, [.ref ph_2, .ref nh_2, .ref sh_2, .ref le_2, .ref ri_2, .ref wa_2, .ref kf_2, .ref kt_2, .ref ar_2, .int 1, .int 0])), (ri_2, .inl (aI, 9, .inl gr_2)), (wa_2, .inl (aI, 9, .inl gw_2)), (kf_2, .inl (aI, 9, .inl gk_2)), (kt_2, .inl (aI, 9, .inl gt_2)), (q3, .inr (7, [.ref en_4, .int 0, .ref nt_4, .ref pl_4, .int 0])), (en_4, .inl (aI, 6000, .inl (fun _ => 0))), (nt_4, .inr (5, [.ref nx_4, .ref ny_4, .int 0, .ref nl_4, .ref nh_4, .int 0, .ref nb_4, .ref no_4, .ref nr_4, .ref nd_4, .ref na_4, .ref ns_4, .ref nf_4, .int 0, .ref np_4, .int 0, .ref nq_4])), (nx_4, .inl (aI, 0, .inl (fun _ => 0))), (nl_4, .inl (aI, 0, .inl (fun _ => 0))), (pl_4, .inr (6, [.ref row_4, .int 0]))]) (q_runV (As := [.int (xs 1), .int (xs 2), .int (xs 3), .int (xs 4)]) (rest := []) ⟨hx, hb, hml, hown, hts⟩ (c_X6_join l D aI aL aZ q1 ph_2 nh_2 sh_2 fh_2 lo_2 hi_2 at__2 dg_2 (fun _ => 0) (fun _ => 0) (fun _ => 0) (fun _ => 0) (xs 1) (xs 2) (xs 3) (xs 4) _) (cwV 4 hts g_L_law_X6_join_13 rfl rfl rfl (by decide +kernel) ⟨Nat.le_of_ble_eq_true rfl, Nat.le_of_ble_eq_true rfl⟩) hK hN hP hD [0, 1, 2, 3, 4, 5, 6] rfl (by decide) rfl rfl rfl hl.1 rfl (Nat.le_of_ble_eq_true rfl) dL_law_109 ⟨Nat.le_of_ble_eq_true rfl, Nat.le_of_ble_eq_true rfl⟩) hP hD hS hA [0, 1, 2, 3, 4, 5, 6] [7, 8, 9, 10, 11, 12, 13, 14, 15, 16, 17] rfl rfl (by decide) (by decide) (fun r_8 u_8 H locs hw hP hD hS => ?_)
      subst hw
      have hP : va_P D q_cl [(fh_2, .inr (0, [.ref ph_2, .ref nh_2, .ref sh_2, .ref le_2, .ref ri_2, .ref wa_2, .ref kf_2, .ref kt_2, .ref ar_2, .int 1, .int 0])), (ri_2, .inl (aI, 9, .inl gr_2)), (wa_2, .inl (aI, 9, .inl gw_2)), (kf_2, .inl (aI, 9, .inl gk_2)), (kt_2, .inl (aI, 9, .inl gt_2)), (q3, .inr (7, [.ref en_4, .int 0, .ref nt_4, .ref pl_4, .int 0])), (en_4, .inl (aI, 6000, .inl (fun _ => 0))), (nt_4, .inr (5, [.ref nx_4, .ref ny_4, .int 0, .ref nl_4, .ref nh_4, .int 0, .ref nb_4, .ref no_4, .ref nr_4, .ref nd_4, .ref na_4, .ref ns_4, .ref nf_4, .int 0, .ref np_4, .int 0, .ref nq_4])), (nx_4, .inl (aI, 0, .inl (fun _ => 0))), (nl_4, .inl (aI, 0, .inl (fun _ => 0))), (pl_4, .inr (6, [.ref row_4, .int 0]))] H := hP
      have hD : va_D (fun q : Nat => s.heap.size ≤ q) [(fh_2, .inr (0, [.ref ph_2, .ref nh_2, .ref sh_2, .ref le_2, .ref ri_2, .ref wa_2, .ref kf_2, .ref kt_2, .ref ar_2, .int 1, .int 0])), (ri_2, .inl (aI, 9, .inl gr_2)), (wa_2, .inl (aI, 9, .inl gw_2)), (kf_2, .inl (aI, 9, .inl gk_2)), (kt_2, .inl (aI, 9, .inl gt_2)), (q3, .inr (7, [.ref en_4, .int 0, .ref nt_4, .ref pl_4, .int 0])), (en_4, .inl (aI, 6000, .inl (fun _ => 0))), (nt_4, .inr (5, [.ref nx_4, .ref ny_4, .int 0, .ref nl_4, .ref nh_4, .int 0, .ref nb_4, .ref no_4, .ref nr_4, .ref nd_4, .ref na_4, .ref ns_4, .ref nf_4, .int 0, .ref np_4, .int 0, .ref nq_4])), (nx_4, .inl (aI, 0, .inl (fun _ => 0))), (nl_4, .inl (aI, 0, .inl (fun _ => 0))), (pl_4, .inr (6, [.ref row_4, .int 0]))] := hD
      refine lv_aload_n hx hb dL_law_112 rfl (lv_at hl 1 rfl) ?_
      refine lv_aload_n hx hb dL_law_113 rfl (lv_at hl 3 rfl) ?_
      refine lv_iload_n hx hb dL_law_114 rfl (lv_at hl 0 rfl) ?_
      refine lv_iconst (v := 1) hx hb dL_law_115 (by decide) ?_
      refine lv_iadd hx hb dL_law_116 ?_
      refine q_vi (v := 1) (by decide) ?_
      refine va_sld hx hb hX hbl hbA hS (q_ix 1 (by decide) (by decide) (by omega)) dL_law_117 ?_
      refine q_vi (v := xs 1) rfl ?_
      refine lv_aload_n hx hb dL_law_118 rfl (lv_at hl 3 rfl) ?_
      refine lv_iload_n hx hb dL_law_119 rfl (lv_at hl 0 rfl) ?_
      refine lv_iconst (v := 2) hx hb dL_law_120 (by decide) ?_
      refine lv_iadd hx hb dL_law_121 ?_
      refine q_vi (v := 2) (by decide) ?_
      refine va_sld hx hb hX hbl hbA hS (q_ix 2 (by decide) (by decide) (by omega)) dL_law_122 ?_
      refine q_vi (v := xs 2) rfl ?_
      refine lv_aload_n hx hb dL_law_123 rfl (lv_at hl 3 rfl) ?_
      refine lv_iload_n hx hb dL_law_124 rfl (lv_at hl 0 rfl) ?_
      refine lv_iconst (v := 3) hx hb dL_law_125 (by decide) ?_
      refine lv_iadd hx hb dL_law_126 ?_
      refine q_vi (v := 3) (by decide) ?_
      refine va_sld hx hb hX hbl hbA hS (q_ix 3 (by decide) (by decide) (by omega)) dL_law_127 ?_
      refine q_vi (v := xs 3) rfl ?_
      refine lv_aload_n hx hb dL_law_128 rfl (lv_at hl 3 rfl) ?_
      refine lv_iload_n hx hb dL_law_129 rfl (lv_at hl 0 rfl) ?_
      refine lv_iconst (v := 4) hx hb dL_law_130 (by decide) ?_
      refine lv_iadd hx hb dL_law_131 ?_
      refine q_vi (v := 4) (by decide) ?_
      refine va_sld hx hb hX hbl hbA hS (q_ix 4 (by decide) (by decide) (by omega)) dL_law_132 ?_
      refine q_vi (v := xs 4) rfl ?_
      refine q_i (wr := [(fh_2, .inr (0, [.ref ph_2, .ref nh_2, .ref sh_2, .ref le_2, .ref ri_2, .ref wa_2, .ref kf_2, .ref kt_2, .ref ar_2, .int 1, .int 0])), (ri_2, .inl (aI, 9, .inl gr_2)), (wa_2, .inl (aI, 9, .inl gw_2)), (kf_2, .inl (aI, 9, .inl gk_2)), (kt_2, .inl (aI, 9, .inl gt_2)), (nt_4, .inr (5, [.ref nx_4, .ref ny_4, .int 0, .ref nl_4, .ref nh_4, .int 0, .ref nb_4, .ref no_4, .ref nr_4, .ref nd_4, .ref na_4, .ref ns_4, .ref nf_4, .int 0, .ref np_4, .int 0, .ref nq_4])), (nx_4, .inl (aI, 0, .inl (fun _ => 0))), (nl_4, .inl (aI, 0, .inl (fun _ => 0))), (pl_4, .inr (6, [.ref row_4, .int 0]))]) (q_runV (As := [.int (xs 1), .int (xs 2), .int (xs 3), .int (xs 4)]) (rest := [.int (joi (xs 1) (xs 2) (xs 3) (xs 4))]) ⟨hx, hb, hml, hown, hts⟩ (c_X9_join l D aI aL aZ q3 en_4 nt_4 pl_4 (fun _ => 0) (xs 1) (xs 2) (xs 3) (xs 4) _) (cwV 4 hts g_L_law_X9_join_17 rfl rfl rfl (by decide +kernel) ⟨Nat.le_of_ble_eq_true rfl, Nat.le_of_ble_eq_true rfl⟩) hK hN hP hD [5, 6] rfl (by decide) rfl rfl rfl hl.1 rfl (Nat.le_of_ble_eq_true rfl) dL_law_133 ⟨Nat.le_of_ble_eq_true rfl, Nat.le_of_ble_eq_true rfl⟩) hP hD hS hA [5, 6] [0, 1, 2, 3, 4, 7, 8, 9, 10] rfl rfl (by decide) (by decide) (fun r_9 u_9 H locs hw hP hD hS => ?_)
      subst hw
      have hP : va_P D q_cl [(fh_2, .inr (0, [.ref ph_2, .ref nh_2, .ref sh_2, .ref le_2, .ref ri_2, .ref wa_2, .ref kf_2, .ref kt_2, .ref ar_2, .int 1, .int 0])), (ri_2, .inl (aI, 9, .inl gr_2)), (wa_2, .inl (aI, 9, .inl gw_2)), (kf_2, .inl (aI, 9, .inl gk_2)), (kt_2, .inl (aI, 9, .inl gt_2)), (nt_4, .inr (5, [.ref nx_4, .ref ny_4, .int 0, .ref nl_4, .ref nh_4, .int 0, .ref nb_4, .ref no_4, .ref nr_4, .ref nd_4, .ref na_4, .ref ns_4, .ref nf_4, .int 0, .ref np_4, .int 0, .ref nq_4])), (nx_4, .inl (aI, 0, .inl (fun _ => 0))), (nl_4, .inl (aI, 0, .inl (fun _ => 0))), (pl_4, .inr (6, [.ref row_4, .int 0]))] H := hP
      have hD : va_D (fun q : Nat => s.heap.size ≤ q) [(fh_2, .inr (0, [.ref ph_2, .ref nh_2, .ref sh_2, .ref le_2, .ref ri_2, .ref wa_2, .ref kf_2, .ref kt_2, .ref ar_2, .int 1, .int 0])), (ri_2, .inl (aI, 9, .inl gr_2)), (wa_2, .inl (aI, 9, .inl gw_2)), (kf_2, .inl (aI, 9, .inl gk_2)), (kt_2, .inl (aI, 9, .inl gt_2)), (nt_4, .inr (5, [.ref nx_4, .ref ny_4, .int 0, .ref nl_4, .ref nh_4, .int 0, .ref nb_4, .ref no_4, .ref nr_4, .ref nd_4, .ref na_4, .ref ns_4, .ref nf_4, .int 0, .ref np_4, .int 0, .ref nq_4])), (nx_4, .inl (aI, 0, .inl (fun _ => 0))), (nl_4, .inl (aI, 0, .inl (fun _ => 0))), (pl_4, .inr (6, [.ref row_4, .int 0]))] := hD
      refine lv_icmp_eq (tgt := 459) hx hb dL_law_136 (by decide) (fun c_10 => ?_) (fun c_10 => ?_)
      · refine lv_iinc (v := 5) (lv' := [(3, .int 5), (2, .ref q3), (1, .ref q1), (0, .ref b)]) hx hb dL_law_459 hl (k := 0) rfl (by decide) (by decide) rfl (fun ls hl => ?_)
        refine lv_goto (tgt := 18) hx hb dL_law_462 (by decide) ?_
        refine lv_iload_n hx hb dL_law_18 rfl (lv_at hl 0 rfl) ?_
        refine lv_aload_n hx hb dL_law_19 rfl (lv_at hl 3 rfl) ?_
        refine va_slen hx hb hX hbl hbA hS dL_law_20 ?_
        refine lv_iconst (v := 5) hx hb dL_law_21 (by decide) ?_
        refine lv_isub hx hb dL_law_22 ?_
        refine lv_icmp_gt (tgt := 465) hx hb dL_law_23 (by decide) (fun c_11 => ?_) (fun c_11 => ?_)
        · refine lv_iconst (v := 1) hx hb dL_law_465 (by decide) ?_
          refine va_forget (fun q hq => hS.2.2 q hq) ?_
          refine W.widen (k := 600000) (n := 7302250) (Nat.le_of_ble_eq_true rfl) (Nat.le_of_ble_eq_true rfl) ?_
          exact lw_ret hx hb hr hlocks dL_law_466
        · exact absurd (by rw [hL5]; decide) c_11
      · exact absurd rfl c_10
    by_cases w_12 : k6 = 1
    · subst w_12
      refine lv_tableIn (tgt := 141) hx hb dL_law_32 (by decide) (by decide) rfl (by decide) ?_
      refine lv_aload_n hx hb dL_law_141 rfl (lv_at hl 2 rfl) ?_
      refine lv_aload_n hx hb dL_law_142 rfl (lv_at hl 3 rfl) ?_
      refine lv_iload_n hx hb dL_law_143 rfl (lv_at hl 0 rfl) ?_
      refine lv_iconst (v := 1) hx hb dL_law_144 (by decide) ?_
      refine lv_iadd hx hb dL_law_145 ?_
      refine q_vi (v := 1) (by decide) ?_
      refine va_sld hx hb hX hbl hbA hS (q_ix 1 (by decide) (by decide) (by omega)) dL_law_146 ?_
      refine q_vi (v := xs 1) rfl ?_
      refine lv_aload_n hx hb dL_law_147 rfl (lv_at hl 3 rfl) ?_
      refine lv_iload_n hx hb dL_law_148 rfl (lv_at hl 0 rfl) ?_
      refine lv_iconst (v := 2) hx hb dL_law_149 (by decide) ?_
      refine lv_iadd hx hb dL_law_150 ?_
      refine q_vi (v := 2) (by decide) ?_
      refine va_sld hx hb hX hbl hbA hS (q_ix 2 (by decide) (by decide) (by omega)) dL_law_151 ?_
      refine q_vi (v := xs 2) rfl ?_
      refine lv_aload_n hx hb dL_law_152 rfl (lv_at hl 3 rfl) ?_
      refine lv_iload_n hx hb dL_law_153 rfl (lv_at hl 0 rfl) ?_
      refine lv_iconst (v := 3) hx hb dL_law_154 (by decide) ?_
      refine lv_iadd hx hb dL_law_155 ?_
      refine q_vi (v := 3) (by decide) ?_
      refine va_sld hx hb hX hbl hbA hS (q_ix 3 (by decide) (by decide) (by omega)) dL_law_156 ?_
      refine q_vi (v := xs 3) rfl ?_
      refine lv_aload_n hx hb dL_law_157 rfl (lv_at hl 3 rfl) ?_
      refine lv_iload_n hx hb dL_law_158 rfl (lv_at hl 0 rfl) ?_
      refine lv_iconst (v := 4) hx hb dL_law_159 (by decide) ?_
      refine lv_iadd hx hb dL_law_160 ?_
      refine q_vi (v := 4) (by decide) ?_
      refine va_sld hx hb hX hbl hbA hS (q_ix 4 (by decide) (by decide) (by omega)) dL_law_161 ?_
      refine q_vi (v := xs 4) rfl ?_
      refine q_i (wr := [(lo_2, .inl (aL, 8, .inr (.inl (fun _ => 0)))), (hi_2, .inl (aL, 8, .inr (.inl (fun _ => 0)))), (nh_2, .inr (1, [.ref at__2, .ref dg_2, .int 0])), (at__2, .inl (aL, 16, .inr (.inl (fun _ => 0)))), (dg_2, .inl (aI, 16, .inl (fun _ => 0))), (fh_2, .inr (0, [.ref ph_2, .ref nh_2, .ref sh_2, .ref le_2, .ref ri_2, .ref wa_2, .ref kf_2, .ref kt_2, .ref ar_2, .int 1, .int 0])), (ri_2, .inl (aI, 9, .inl gr_2)), (wa_2, .inl (aI, 9, .inl gw_2)), (kf_2, .inl (aI, 9, .inl gk_2)), (kt_2, .inl (aI, 9, .inl gt_2)), (q3, .inr (7, [.ref en_4, .int 0, .ref nt_4, .ref pl_4, .int 0])), (en_4, .inl (aI, 6000, .inl (fun _ => 0))), (nt_4, .inr (5, [.ref nx_4, .ref ny_4, .int 0, .ref nl_4, .ref nh_4, .int 0, .ref nb_4, .ref no_4, .ref nr_4, .ref nd_4, .ref na_4, .ref ns_4, .ref nf_4, .int 0, .ref np_4, .int 0, .ref nq_4])), (nx_4, .inl (aI, 0, .inl (fun _ => 0))), (nl_4, .inl (aI, 0, .inl (fun _ => 0))), (pl_4, .inr (6, [.ref row_4, .int 0]))]) (q_runV (As := [.int (xs 1), .int (xs 2), .int (xs 3), .int (xs 4)]) (rest := []) ⟨hx, hb, hml, hown, hts⟩ (c_X6_cut l D aI aL aZ q1 ph_2 nh_2 sh_2 fh_2 lo_2 hi_2 (xs 1) (xs 2) (xs 3) (xs 4) _) (cwV 4 hts g_L_law_X6_cut_18 rfl rfl rfl (by decide +kernel) ⟨Nat.le_of_ble_eq_true rfl, Nat.le_of_ble_eq_true rfl⟩) hK hN hP hD [0, 1] rfl (by decide) rfl rfl rfl hl.1 rfl (Nat.le_of_ble_eq_true rfl) dL_law_162 ⟨Nat.le_of_ble_eq_true rfl, Nat.le_of_ble_eq_true rfl⟩) hP hD hS hA [0, 1] [2, 3, 4, 5, 6, 7, 8, 9, 10, 11, 12, 13, 14, 15, 16, 17] rfl rfl (by decide) (by decide) (fun r_13 u_13 H locs hw hP hD hS => ?_)
      subst hw
      have hP : va_P D q_cl [(lo_2, .inl (aL, 8, .inr (.inl (fun _ => 0)))), (hi_2, .inl (aL, 8, .inr (.inl (fun _ => 0)))), (nh_2, .inr (1, [.ref at__2, .ref dg_2, .int 0])), (at__2, .inl (aL, 16, .inr (.inl (fun _ => 0)))), (dg_2, .inl (aI, 16, .inl (fun _ => 0))), (fh_2, .inr (0, [.ref ph_2, .ref nh_2, .ref sh_2, .ref le_2, .ref ri_2, .ref wa_2, .ref kf_2, .ref kt_2, .ref ar_2, .int 1, .int 0])), (ri_2, .inl (aI, 9, .inl gr_2)), (wa_2, .inl (aI, 9, .inl gw_2)), (kf_2, .inl (aI, 9, .inl gk_2)), (kt_2, .inl (aI, 9, .inl gt_2)), (q3, .inr (7, [.ref en_4, .int 0, .ref nt_4, .ref pl_4, .int 0])), (en_4, .inl (aI, 6000, .inl (fun _ => 0))), (nt_4, .inr (5, [.ref nx_4, .ref ny_4, .int 0, .ref nl_4, .ref nh_4, .int 0, .ref nb_4, .ref no_4, .ref nr_4, .ref nd_4, .ref na_4, .ref ns_4, .ref nf_4, .int 0, .ref np_4, .int 0, .ref nq_4])), (nx_4, .inl (aI, 0, .inl (fun _ => 0))), (nl_4, .inl (aI, 0, .inl (fun _ => 0))), (pl_4, .inr (6, [.ref row_4, .int 0]))] H := hP
      have hD : va_D (fun q : Nat => s.heap.size ≤ q) [(lo_2, .inl (aL, 8, .inr (.inl (fun _ => 0)))), (hi_2, .inl (aL, 8, .inr (.inl (fun _ => 0)))), (nh_2, .inr (1, [.ref at__2, .ref dg_2, .int 0])), (at__2, .inl (aL, 16, .inr (.inl (fun _ => 0)))), (dg_2, .inl (aI, 16, .inl (fun _ => 0))), (fh_2, .inr (0, [.ref ph_2, .ref nh_2, .ref sh_2, .ref le_2, .ref ri_2, .ref wa_2, .ref kf_2, .ref kt_2, .ref ar_2, .int 1, .int 0])), (ri_2, .inl (aI, 9, .inl gr_2)), (wa_2, .inl (aI, 9, .inl gw_2)), (kf_2, .inl (aI, 9, .inl gk_2)), (kt_2, .inl (aI, 9, .inl gt_2)), (q3, .inr (7, [.ref en_4, .int 0, .ref nt_4, .ref pl_4, .int 0])), (en_4, .inl (aI, 6000, .inl (fun _ => 0))), (nt_4, .inr (5, [.ref nx_4, .ref ny_4, .int 0, .ref nl_4, .ref nh_4, .int 0, .ref nb_4, .ref no_4, .ref nr_4, .ref nd_4, .ref na_4, .ref ns_4, .ref nf_4, .int 0, .ref np_4, .int 0, .ref nq_4])), (nx_4, .inl (aI, 0, .inl (fun _ => 0))), (nl_4, .inl (aI, 0, .inl (fun _ => 0))), (pl_4, .inr (6, [.ref row_4, .int 0]))] := hD
      refine lv_aload_n hx hb dL_law_165 rfl (lv_at hl 1 rfl) ?_
      refine lv_aload_n hx hb dL_law_166 rfl (lv_at hl 3 rfl) ?_
      refine lv_iload_n hx hb dL_law_167 rfl (lv_at hl 0 rfl) ?_
      refine lv_iconst (v := 1) hx hb dL_law_168 (by decide) ?_
      refine lv_iadd hx hb dL_law_169 ?_
      refine q_vi (v := 1) (by decide) ?_
      refine va_sld hx hb hX hbl hbA hS (q_ix 1 (by decide) (by decide) (by omega)) dL_law_170 ?_
      refine q_vi (v := xs 1) rfl ?_
      refine lv_aload_n hx hb dL_law_171 rfl (lv_at hl 3 rfl) ?_
      refine lv_iload_n hx hb dL_law_172 rfl (lv_at hl 0 rfl) ?_
      refine lv_iconst (v := 2) hx hb dL_law_173 (by decide) ?_
      refine lv_iadd hx hb dL_law_174 ?_
      refine q_vi (v := 2) (by decide) ?_
      refine va_sld hx hb hX hbl hbA hS (q_ix 2 (by decide) (by decide) (by omega)) dL_law_175 ?_
      refine q_vi (v := xs 2) rfl ?_
      refine lv_aload_n hx hb dL_law_176 rfl (lv_at hl 3 rfl) ?_
      refine lv_iload_n hx hb dL_law_177 rfl (lv_at hl 0 rfl) ?_
      refine lv_iconst (v := 3) hx hb dL_law_178 (by decide) ?_
      refine lv_iadd hx hb dL_law_179 ?_
      refine q_vi (v := 3) (by decide) ?_
      refine va_sld hx hb hX hbl hbA hS (q_ix 3 (by decide) (by decide) (by omega)) dL_law_180 ?_
      refine q_vi (v := xs 3) rfl ?_
      refine lv_aload_n hx hb dL_law_181 rfl (lv_at hl 3 rfl) ?_
      refine lv_iload_n hx hb dL_law_182 rfl (lv_at hl 0 rfl) ?_
      refine lv_iconst (v := 4) hx hb dL_law_183 (by decide) ?_
      refine lv_iadd hx hb dL_law_184 ?_
      refine q_vi (v := 4) (by decide) ?_
      refine va_sld hx hb hX hbl hbA hS (q_ix 4 (by decide) (by decide) (by omega)) dL_law_185 ?_
      refine q_vi (v := xs 4) rfl ?_
      refine q_i (wr := [(lo_2, .inl (aL, 8, .inr (.inl (fun _ => 0)))), (hi_2, .inl (aL, 8, .inr (.inl (fun _ => 0)))), (nh_2, .inr (1, [.ref at__2, .ref dg_2, .int 0])), (at__2, .inl (aL, 16, .inr (.inl (fun _ => 0)))), (dg_2, .inl (aI, 16, .inl (fun _ => 0))), (fh_2, .inr (0, [.ref ph_2, .ref nh_2, .ref sh_2, .ref le_2, .ref ri_2, .ref wa_2, .ref kf_2, .ref kt_2, .ref ar_2, .int 1, .int 0])), (ri_2, .inl (aI, 9, .inl gr_2)), (wa_2, .inl (aI, 9, .inl gw_2)), (kf_2, .inl (aI, 9, .inl gk_2)), (kt_2, .inl (aI, 9, .inl gt_2)), (en_4, .inl (aI, 6000, .inl (fun _ => 0))), (nt_4, .inr (5, [.ref nx_4, .ref ny_4, .int 0, .ref nl_4, .ref nh_4, .int 0, .ref nb_4, .ref no_4, .ref nr_4, .ref nd_4, .ref na_4, .ref ns_4, .ref nf_4, .int 0, .ref np_4, .int 0, .ref nq_4])), (nx_4, .inl (aI, 0, .inl (fun _ => 0))), (nl_4, .inl (aI, 0, .inl (fun _ => 0))), (pl_4, .inr (6, [.ref row_4, .int 0]))]) (q_runV (As := [.int (xs 1), .int (xs 2), .int (xs 3), .int (xs 4)]) (rest := [.int 0]) ⟨hx, hb, hml, hown, hts⟩ (c_X9_cut l D aI aL aZ q3 en_4 nt_4 pl_4 (xs 1) (xs 2) (xs 3) (xs 4) _) (cwV 4 hts g_L_law_X9_cut_22 rfl rfl rfl (by decide +kernel) ⟨Nat.le_of_ble_eq_true rfl, Nat.le_of_ble_eq_true rfl⟩) hK hN hP hD [10] rfl (by decide) rfl rfl rfl hl.1 rfl (Nat.le_of_ble_eq_true rfl) dL_law_186 ⟨Nat.le_of_ble_eq_true rfl, Nat.le_of_ble_eq_true rfl⟩) hP hD hS hA [10] [0, 1, 2, 3, 4, 5, 6, 7, 8, 9, 11, 12, 13, 14, 15] rfl rfl (by decide) (by decide) (fun r_14 u_14 H locs hw hP hD hS => ?_)
      subst hw
      have hP : va_P D q_cl [(lo_2, .inl (aL, 8, .inr (.inl (fun _ => 0)))), (hi_2, .inl (aL, 8, .inr (.inl (fun _ => 0)))), (nh_2, .inr (1, [.ref at__2, .ref dg_2, .int 0])), (at__2, .inl (aL, 16, .inr (.inl (fun _ => 0)))), (dg_2, .inl (aI, 16, .inl (fun _ => 0))), (fh_2, .inr (0, [.ref ph_2, .ref nh_2, .ref sh_2, .ref le_2, .ref ri_2, .ref wa_2, .ref kf_2, .ref kt_2, .ref ar_2, .int 1, .int 0])), (ri_2, .inl (aI, 9, .inl gr_2)), (wa_2, .inl (aI, 9, .inl gw_2)), (kf_2, .inl (aI, 9, .inl gk_2)), (kt_2, .inl (aI, 9, .inl gt_2)), (en_4, .inl (aI, 6000, .inl (fun _ => 0))), (nt_4, .inr (5, [.ref nx_4, .ref ny_4, .int 0, .ref nl_4, .ref nh_4, .int 0, .ref nb_4, .ref no_4, .ref nr_4, .ref nd_4, .ref na_4, .ref ns_4, .ref nf_4, .int 0, .ref np_4, .int 0, .ref nq_4])), (nx_4, .inl (aI, 0, .inl (fun _ => 0))), (nl_4, .inl (aI, 0, .inl (fun _ => 0))), (pl_4, .inr (6, [.ref row_4, .int 0]))] H := hP
      have hD : va_D (fun q : Nat => s.heap.size ≤ q) [(lo_2, .inl (aL, 8, .inr (.inl (fun _ => 0)))), (hi_2, .inl (aL, 8, .inr (.inl (fun _ => 0)))), (nh_2, .inr (1, [.ref at__2, .ref dg_2, .int 0])), (at__2, .inl (aL, 16, .inr (.inl (fun _ => 0)))), (dg_2, .inl (aI, 16, .inl (fun _ => 0))), (fh_2, .inr (0, [.ref ph_2, .ref nh_2, .ref sh_2, .ref le_2, .ref ri_2, .ref wa_2, .ref kf_2, .ref kt_2, .ref ar_2, .int 1, .int 0])), (ri_2, .inl (aI, 9, .inl gr_2)), (wa_2, .inl (aI, 9, .inl gw_2)), (kf_2, .inl (aI, 9, .inl gk_2)), (kt_2, .inl (aI, 9, .inl gt_2)), (en_4, .inl (aI, 6000, .inl (fun _ => 0))), (nt_4, .inr (5, [.ref nx_4, .ref ny_4, .int 0, .ref nl_4, .ref nh_4, .int 0, .ref nb_4, .ref no_4, .ref nr_4, .ref nd_4, .ref na_4, .ref ns_4, .ref nf_4, .int 0, .ref np_4, .int 0, .ref nq_4])), (nx_4, .inl (aI, 0, .inl (fun _ => 0))), (nl_4, .inl (aI, 0, .inl (fun _ => 0))), (pl_4, .inr (6, [.ref row_4, .int 0]))] := hD
      refine lv_icmp_eq (tgt := 459) hx hb dL_law_189 (by decide) (fun c_15 => ?_) (fun c_15 => ?_)
      · refine lv_iinc (v := 5) (lv' := [(3, .int 5), (2, .ref q3), (1, .ref q1), (0, .ref b)]) hx hb dL_law_459 hl (k := 0) rfl (by decide) (by decide) rfl (fun ls hl => ?_)
        refine lv_goto (tgt := 18) hx hb dL_law_462 (by decide) ?_
        refine lv_iload_n hx hb dL_law_18 rfl (lv_at hl 0 rfl) ?_
        refine lv_aload_n hx hb dL_law_19 rfl (lv_at hl 3 rfl) ?_
        refine va_slen hx hb hX hbl hbA hS dL_law_20 ?_
        refine lv_iconst (v := 5) hx hb dL_law_21 (by decide) ?_
        refine lv_isub hx hb dL_law_22 ?_
        refine lv_icmp_gt (tgt := 465) hx hb dL_law_23 (by decide) (fun c_16 => ?_) (fun c_16 => ?_)
        · refine lv_iconst (v := 1) hx hb dL_law_465 (by decide) ?_
          refine va_forget (fun q hq => hS.2.2 q hq) ?_
          refine W.widen (k := 600000) (n := 7302250) (Nat.le_of_ble_eq_true rfl) (Nat.le_of_ble_eq_true rfl) ?_
          exact lw_ret hx hb hr hlocks dL_law_466
        · exact absurd (by rw [hL5]; decide) c_16
      · exact absurd c_15 (by decide)
    by_cases w_17 : k6 = 2
    · subst w_17
      refine lv_tableIn (tgt := 194) hx hb dL_law_32 (by decide) (by decide) rfl (by decide) ?_
      refine lv_aload_n hx hb dL_law_194 rfl (lv_at hl 2 rfl) ?_
      refine lv_aload_n hx hb dL_law_195 rfl (lv_at hl 3 rfl) ?_
      refine lv_iload_n hx hb dL_law_196 rfl (lv_at hl 0 rfl) ?_
      refine lv_iconst (v := 1) hx hb dL_law_197 (by decide) ?_
      refine lv_iadd hx hb dL_law_198 ?_
      refine q_vi (v := 1) (by decide) ?_
      refine va_sld hx hb hX hbl hbA hS (q_ix 1 (by decide) (by decide) (by omega)) dL_law_199 ?_
      refine q_vi (v := xs 1) rfl ?_
      refine q_i (wr := [(lo_2, .inl (aL, 8, .inr (.inl (fun _ => 0)))), (hi_2, .inl (aL, 8, .inr (.inl (fun _ => 0)))), (at__2, .inl (aL, 16, .inr (.inl (fun _ => 0)))), (dg_2, .inl (aI, 16, .inl (fun _ => 0))), (ri_2, .inl (aI, 9, .inl gr_2)), (wa_2, .inl (aI, 9, .inl gw_2)), (kf_2, .inl (aI, 9, .inl gk_2)), (kt_2, .inl (aI, 9, .inl gt_2)), (q3, .inr (7, [.ref en_4, .int 0, .ref nt_4, .ref pl_4, .int 0])), (en_4, .inl (aI, 6000, .inl (fun _ => 0))), (nt_4, .inr (5, [.ref nx_4, .ref ny_4, .int 0, .ref nl_4, .ref nh_4, .int 0, .ref nb_4, .ref no_4, .ref nr_4, .ref nd_4, .ref na_4, .ref ns_4, .ref nf_4, .int 0, .ref np_4, .int 0, .ref nq_4])), (nx_4, .inl (aI, 0, .inl (fun _ => 0))), (nl_4, .inl (aI, 0, .inl (fun _ => 0))), (pl_4, .inr (6, [.ref row_4, .int 0]))]) (q_runV (As := [.int (xs 1)]) (rest := []) ⟨hx, hb, hml, hown, hts⟩ (c_X6_count l D aI aL aZ q1 ph_2 nh_2 sh_2 fh_2 lo_2 hi_2 at__2 dg_2 ph_2 nh_2 sh_2 le_2 ri_2 wa_2 kf_2 kt_2 ar_2 (xs 1) _) (cwV 1 hts g_L_law_X6_count_23 rfl rfl rfl (by decide +kernel) ⟨Nat.le_of_ble_eq_true rfl, Nat.le_of_ble_eq_true rfl⟩) hK hN hP hD [0, 1, 4, 7] rfl (by decide) rfl rfl rfl hl.1 rfl (Nat.le_of_ble_eq_true rfl) dL_law_200 ⟨Nat.le_of_ble_eq_true rfl, Nat.le_of_ble_eq_true rfl⟩) hP hD hS hA [0, 1, 4, 7] [2, 3, 5, 6, 8, 9, 10, 11, 12, 13, 14, 15, 16, 17] rfl rfl (by decide) (by decide) (fun r_18 u_18 H locs hw hP hD hS => ?_)
      subst hw
      have hP : va_P D q_cl [(lo_2, .inl (aL, 8, .inr (.inl (fun _ => 0)))), (hi_2, .inl (aL, 8, .inr (.inl (fun _ => 0)))), (at__2, .inl (aL, 16, .inr (.inl (fun _ => 0)))), (dg_2, .inl (aI, 16, .inl (fun _ => 0))), (ri_2, .inl (aI, 9, .inl gr_2)), (wa_2, .inl (aI, 9, .inl gw_2)), (kf_2, .inl (aI, 9, .inl gk_2)), (kt_2, .inl (aI, 9, .inl gt_2)), (q3, .inr (7, [.ref en_4, .int 0, .ref nt_4, .ref pl_4, .int 0])), (en_4, .inl (aI, 6000, .inl (fun _ => 0))), (nt_4, .inr (5, [.ref nx_4, .ref ny_4, .int 0, .ref nl_4, .ref nh_4, .int 0, .ref nb_4, .ref no_4, .ref nr_4, .ref nd_4, .ref na_4, .ref ns_4, .ref nf_4, .int 0, .ref np_4, .int 0, .ref nq_4])), (nx_4, .inl (aI, 0, .inl (fun _ => 0))), (nl_4, .inl (aI, 0, .inl (fun _ => 0))), (pl_4, .inr (6, [.ref row_4, .int 0]))] H := hP
      have hD : va_D (fun q : Nat => s.heap.size ≤ q) [(lo_2, .inl (aL, 8, .inr (.inl (fun _ => 0)))), (hi_2, .inl (aL, 8, .inr (.inl (fun _ => 0)))), (at__2, .inl (aL, 16, .inr (.inl (fun _ => 0)))), (dg_2, .inl (aI, 16, .inl (fun _ => 0))), (ri_2, .inl (aI, 9, .inl gr_2)), (wa_2, .inl (aI, 9, .inl gw_2)), (kf_2, .inl (aI, 9, .inl gk_2)), (kt_2, .inl (aI, 9, .inl gt_2)), (q3, .inr (7, [.ref en_4, .int 0, .ref nt_4, .ref pl_4, .int 0])), (en_4, .inl (aI, 6000, .inl (fun _ => 0))), (nt_4, .inr (5, [.ref nx_4, .ref ny_4, .int 0, .ref nl_4, .ref nh_4, .int 0, .ref nb_4, .ref no_4, .ref nr_4, .ref nd_4, .ref na_4, .ref ns_4, .ref nf_4, .int 0, .ref np_4, .int 0, .ref nq_4])), (nx_4, .inl (aI, 0, .inl (fun _ => 0))), (nl_4, .inl (aI, 0, .inl (fun _ => 0))), (pl_4, .inr (6, [.ref row_4, .int 0]))] := hD
      refine lv_aload_n hx hb dL_law_203 rfl (lv_at hl 1 rfl) ?_
      refine lv_aload_n hx hb dL_law_204 rfl (lv_at hl 3 rfl) ?_
      refine lv_iload_n hx hb dL_law_205 rfl (lv_at hl 0 rfl) ?_
      refine lv_iconst (v := 1) hx hb dL_law_206 (by decide) ?_
      refine lv_iadd hx hb dL_law_207 ?_
      refine q_vi (v := 1) (by decide) ?_
      refine va_sld hx hb hX hbl hbA hS (q_ix 1 (by decide) (by decide) (by omega)) dL_law_208 ?_
      refine q_vi (v := xs 1) rfl ?_
      refine q_i (wr := [(lo_2, .inl (aL, 8, .inr (.inl (fun _ => 0)))), (hi_2, .inl (aL, 8, .inr (.inl (fun _ => 0)))), (at__2, .inl (aL, 16, .inr (.inl (fun _ => 0)))), (dg_2, .inl (aI, 16, .inl (fun _ => 0))), (ri_2, .inl (aI, 9, .inl gr_2)), (wa_2, .inl (aI, 9, .inl gw_2)), (kf_2, .inl (aI, 9, .inl gk_2)), (kt_2, .inl (aI, 9, .inl gt_2)), (en_4, .inl (aI, 6000, .inl (fun _ => 0)))]) (q_runV (As := [.int (xs 1)]) (rest := [.int (cnt (xs 1))]) ⟨hx, hb, hml, hown, hts⟩ (c_X9_count l D aI aL aZ q3 en_4 nt_4 pl_4 row_4 nx_4 ny_4 nl_4 nh_4 nb_4 no_4 nr_4 nd_4 na_4 ns_4 nf_4 np_4 nq_4 (fun _ => 0) (fun _ => 0) (xs 1) _) (cwV 1 hts g_L_law_X9_count_27 rfl rfl rfl (by decide +kernel) ⟨Nat.le_of_ble_eq_true rfl, Nat.le_of_ble_eq_true rfl⟩) hK hN hP hD [8, 10, 11, 12, 13] rfl (by decide) rfl rfl rfl hl.1 rfl (Nat.le_of_ble_eq_true rfl) dL_law_209 ⟨Nat.le_of_ble_eq_true rfl, Nat.le_of_ble_eq_true rfl⟩) hP hD hS hA [8, 10, 11, 12, 13] [0, 1, 2, 3, 4, 5, 6, 7, 9] rfl rfl (by decide) (by decide) (fun r_19 u_19 H locs hw hP hD hS => ?_)
      subst hw
      have hP : va_P D q_cl [(lo_2, .inl (aL, 8, .inr (.inl (fun _ => 0)))), (hi_2, .inl (aL, 8, .inr (.inl (fun _ => 0)))), (at__2, .inl (aL, 16, .inr (.inl (fun _ => 0)))), (dg_2, .inl (aI, 16, .inl (fun _ => 0))), (ri_2, .inl (aI, 9, .inl gr_2)), (wa_2, .inl (aI, 9, .inl gw_2)), (kf_2, .inl (aI, 9, .inl gk_2)), (kt_2, .inl (aI, 9, .inl gt_2)), (en_4, .inl (aI, 6000, .inl (fun _ => 0)))] H := hP
      have hD : va_D (fun q : Nat => s.heap.size ≤ q) [(lo_2, .inl (aL, 8, .inr (.inl (fun _ => 0)))), (hi_2, .inl (aL, 8, .inr (.inl (fun _ => 0)))), (at__2, .inl (aL, 16, .inr (.inl (fun _ => 0)))), (dg_2, .inl (aI, 16, .inl (fun _ => 0))), (ri_2, .inl (aI, 9, .inl gr_2)), (wa_2, .inl (aI, 9, .inl gw_2)), (kf_2, .inl (aI, 9, .inl gk_2)), (kt_2, .inl (aI, 9, .inl gt_2)), (en_4, .inl (aI, 6000, .inl (fun _ => 0)))] := hD
      refine lv_icmp_eq (tgt := 459) hx hb dL_law_212 (by decide) (fun c_20 => ?_) (fun c_20 => ?_)
      · refine lv_iinc (v := 5) (lv' := [(3, .int 5), (2, .ref q3), (1, .ref q1), (0, .ref b)]) hx hb dL_law_459 hl (k := 0) rfl (by decide) (by decide) rfl (fun ls hl => ?_)
        refine lv_goto (tgt := 18) hx hb dL_law_462 (by decide) ?_
        refine lv_iload_n hx hb dL_law_18 rfl (lv_at hl 0 rfl) ?_
        refine lv_aload_n hx hb dL_law_19 rfl (lv_at hl 3 rfl) ?_
        refine va_slen hx hb hX hbl hbA hS dL_law_20 ?_
        refine lv_iconst (v := 5) hx hb dL_law_21 (by decide) ?_
        refine lv_isub hx hb dL_law_22 ?_
        refine lv_icmp_gt (tgt := 465) hx hb dL_law_23 (by decide) (fun c_21 => ?_) (fun c_21 => ?_)
        · refine lv_iconst (v := 1) hx hb dL_law_465 (by decide) ?_
          refine va_forget (fun q hq => hS.2.2 q hq) ?_
          refine W.widen (k := 600000) (n := 7302250) (Nat.le_of_ble_eq_true rfl) (Nat.le_of_ble_eq_true rfl) ?_
          exact lw_ret hx hb hr hlocks dL_law_466
        · exact absurd (by rw [hL5]; decide) c_21
      · exact absurd rfl c_20
    by_cases w_22 : k6 = 3
    · subst w_22
      refine lv_tableIn (tgt := 217) hx hb dL_law_32 (by decide) (by decide) rfl (by decide) ?_
      refine lv_aload_n hx hb dL_law_217 rfl (lv_at hl 2 rfl) ?_
      refine lv_aload_n hx hb dL_law_218 rfl (lv_at hl 3 rfl) ?_
      refine lv_iload_n hx hb dL_law_219 rfl (lv_at hl 0 rfl) ?_
      refine lv_iconst (v := 1) hx hb dL_law_220 (by decide) ?_
      refine lv_iadd hx hb dL_law_221 ?_
      refine q_vi (v := 1) (by decide) ?_
      refine va_sld hx hb hX hbl hbA hS (q_ix 1 (by decide) (by decide) (by omega)) dL_law_222 ?_
      refine q_vi (v := xs 1) rfl ?_
      refine lv_aload_n hx hb dL_law_223 rfl (lv_at hl 3 rfl) ?_
      refine lv_iload_n hx hb dL_law_224 rfl (lv_at hl 0 rfl) ?_
      refine lv_iconst (v := 2) hx hb dL_law_225 (by decide) ?_
      refine lv_iadd hx hb dL_law_226 ?_
      refine q_vi (v := 2) (by decide) ?_
      refine va_sld hx hb hX hbl hbA hS (q_ix 2 (by decide) (by decide) (by omega)) dL_law_227 ?_
      refine q_vi (v := xs 2) rfl ?_
      refine q_i (wr := [(ph_2, .inr (2, [.ref lo_2, .ref hi_2, .int 0])), (lo_2, .inl (aL, 8, .inr (.inl (fun _ => 0)))), (hi_2, .inl (aL, 8, .inr (.inl (fun _ => 0)))), (at__2, .inl (aL, 16, .inr (.inl (fun _ => 0)))), (dg_2, .inl (aI, 16, .inl (fun _ => 0))), (fh_2, .inr (0, [.ref ph_2, .ref nh_2, .ref sh_2, .ref le_2, .ref ri_2, .ref wa_2, .ref kf_2, .ref kt_2, .ref ar_2, .int 1, .int 0])), (ri_2, .inl (aI, 9, .inl gr_2)), (wa_2, .inl (aI, 9, .inl gw_2)), (kf_2, .inl (aI, 9, .inl gk_2)), (kt_2, .inl (aI, 9, .inl gt_2)), (q3, .inr (7, [.ref en_4, .int 0, .ref nt_4, .ref pl_4, .int 0])), (en_4, .inl (aI, 6000, .inl (fun _ => 0))), (nt_4, .inr (5, [.ref nx_4, .ref ny_4, .int 0, .ref nl_4, .ref nh_4, .int 0, .ref nb_4, .ref no_4, .ref nr_4, .ref nd_4, .ref na_4, .ref ns_4, .ref nf_4, .int 0, .ref np_4, .int 0, .ref nq_4])), (nx_4, .inl (aI, 0, .inl (fun _ => 0))), (nl_4, .inl (aI, 0, .inl (fun _ => 0))), (pl_4, .inr (6, [.ref row_4, .int 0]))]) (q_runV (As := [.int (xs 1), .int (xs 2)]) (rest := []) ⟨hx, hb, hml, hown, hts⟩ (c_X6_node l D aI aL aZ q1 ph_2 nh_2 sh_2 fh_2 at__2 dg_2 (xs 1) (xs 2) _) (cwV 2 hts g_L_law_X6_node_28 rfl rfl rfl (by decide +kernel) ⟨Nat.le_of_ble_eq_true rfl, Nat.le_of_ble_eq_true rfl⟩) hK hN hP hD [0, 4] rfl (by decide) rfl rfl rfl hl.1 rfl (Nat.le_of_ble_eq_true rfl) dL_law_228 ⟨Nat.le_of_ble_eq_true rfl, Nat.le_of_ble_eq_true rfl⟩) hP hD hS hA [0, 4] [1, 2, 3, 5, 6, 7, 8, 9, 10, 11, 12, 13, 14, 15, 16, 17] rfl rfl (by decide) (by decide) (fun r_23 u_23 H locs hw hP hD hS => ?_)
      subst hw
      have hP : va_P D q_cl [(ph_2, .inr (2, [.ref lo_2, .ref hi_2, .int 0])), (lo_2, .inl (aL, 8, .inr (.inl (fun _ => 0)))), (hi_2, .inl (aL, 8, .inr (.inl (fun _ => 0)))), (at__2, .inl (aL, 16, .inr (.inl (fun _ => 0)))), (dg_2, .inl (aI, 16, .inl (fun _ => 0))), (fh_2, .inr (0, [.ref ph_2, .ref nh_2, .ref sh_2, .ref le_2, .ref ri_2, .ref wa_2, .ref kf_2, .ref kt_2, .ref ar_2, .int 1, .int 0])), (ri_2, .inl (aI, 9, .inl gr_2)), (wa_2, .inl (aI, 9, .inl gw_2)), (kf_2, .inl (aI, 9, .inl gk_2)), (kt_2, .inl (aI, 9, .inl gt_2)), (q3, .inr (7, [.ref en_4, .int 0, .ref nt_4, .ref pl_4, .int 0])), (en_4, .inl (aI, 6000, .inl (fun _ => 0))), (nt_4, .inr (5, [.ref nx_4, .ref ny_4, .int 0, .ref nl_4, .ref nh_4, .int 0, .ref nb_4, .ref no_4, .ref nr_4, .ref nd_4, .ref na_4, .ref ns_4, .ref nf_4, .int 0, .ref np_4, .int 0, .ref nq_4])), (nx_4, .inl (aI, 0, .inl (fun _ => 0))), (nl_4, .inl (aI, 0, .inl (fun _ => 0))), (pl_4, .inr (6, [.ref row_4, .int 0]))] H := hP
      have hD : va_D (fun q : Nat => s.heap.size ≤ q) [(ph_2, .inr (2, [.ref lo_2, .ref hi_2, .int 0])), (lo_2, .inl (aL, 8, .inr (.inl (fun _ => 0)))), (hi_2, .inl (aL, 8, .inr (.inl (fun _ => 0)))), (at__2, .inl (aL, 16, .inr (.inl (fun _ => 0)))), (dg_2, .inl (aI, 16, .inl (fun _ => 0))), (fh_2, .inr (0, [.ref ph_2, .ref nh_2, .ref sh_2, .ref le_2, .ref ri_2, .ref wa_2, .ref kf_2, .ref kt_2, .ref ar_2, .int 1, .int 0])), (ri_2, .inl (aI, 9, .inl gr_2)), (wa_2, .inl (aI, 9, .inl gw_2)), (kf_2, .inl (aI, 9, .inl gk_2)), (kt_2, .inl (aI, 9, .inl gt_2)), (q3, .inr (7, [.ref en_4, .int 0, .ref nt_4, .ref pl_4, .int 0])), (en_4, .inl (aI, 6000, .inl (fun _ => 0))), (nt_4, .inr (5, [.ref nx_4, .ref ny_4, .int 0, .ref nl_4, .ref nh_4, .int 0, .ref nb_4, .ref no_4, .ref nr_4, .ref nd_4, .ref na_4, .ref ns_4, .ref nf_4, .int 0, .ref np_4, .int 0, .ref nq_4])), (nx_4, .inl (aI, 0, .inl (fun _ => 0))), (nl_4, .inl (aI, 0, .inl (fun _ => 0))), (pl_4, .inr (6, [.ref row_4, .int 0]))] := hD
      refine lv_aload_n hx hb dL_law_231 rfl (lv_at hl 1 rfl) ?_
      refine lv_aload_n hx hb dL_law_232 rfl (lv_at hl 3 rfl) ?_
      refine lv_iload_n hx hb dL_law_233 rfl (lv_at hl 0 rfl) ?_
      refine lv_iconst (v := 1) hx hb dL_law_234 (by decide) ?_
      refine lv_iadd hx hb dL_law_235 ?_
      refine q_vi (v := 1) (by decide) ?_
      refine va_sld hx hb hX hbl hbA hS (q_ix 1 (by decide) (by decide) (by omega)) dL_law_236 ?_
      refine q_vi (v := xs 1) rfl ?_
      refine lv_aload_n hx hb dL_law_237 rfl (lv_at hl 3 rfl) ?_
      refine lv_iload_n hx hb dL_law_238 rfl (lv_at hl 0 rfl) ?_
      refine lv_iconst (v := 2) hx hb dL_law_239 (by decide) ?_
      refine lv_iadd hx hb dL_law_240 ?_
      refine q_vi (v := 2) (by decide) ?_
      refine va_sld hx hb hX hbl hbA hS (q_ix 2 (by decide) (by decide) (by omega)) dL_law_241 ?_
      refine q_vi (v := xs 2) rfl ?_
      refine q_i (wr := [(ph_2, .inr (2, [.ref lo_2, .ref hi_2, .int 0])), (lo_2, .inl (aL, 8, .inr (.inl (fun _ => 0)))), (hi_2, .inl (aL, 8, .inr (.inl (fun _ => 0)))), (at__2, .inl (aL, 16, .inr (.inl (fun _ => 0)))), (dg_2, .inl (aI, 16, .inl (fun _ => 0))), (fh_2, .inr (0, [.ref ph_2, .ref nh_2, .ref sh_2, .ref le_2, .ref ri_2, .ref wa_2, .ref kf_2, .ref kt_2, .ref ar_2, .int 1, .int 0])), (ri_2, .inl (aI, 9, .inl gr_2)), (wa_2, .inl (aI, 9, .inl gw_2)), (kf_2, .inl (aI, 9, .inl gk_2)), (kt_2, .inl (aI, 9, .inl gt_2)), (en_4, .inl (aI, 6000, .inl (fun _ => 0)))]) (q_runV (As := [.int (xs 1), .int (xs 2)]) (rest := [.int 1000000]) ⟨hx, hb, hml, hown, hts⟩ (c_X9_node l D aI aL aZ q3 en_4 nt_4 pl_4 row_4 nx_4 ny_4 nl_4 nh_4 nb_4 no_4 nr_4 nd_4 na_4 ns_4 nf_4 np_4 nq_4 (fun _ => 0) (fun _ => 0) (xs 1) (xs 2) _) (cwV 2 hts g_L_law_X9_node_32 rfl rfl rfl (by decide +kernel) ⟨Nat.le_of_ble_eq_true rfl, Nat.le_of_ble_eq_true rfl⟩) hK hN hP hD [10, 12, 13, 14, 15] rfl (by decide) rfl rfl rfl hl.1 rfl (Nat.le_of_ble_eq_true rfl) dL_law_242 ⟨Nat.le_of_ble_eq_true rfl, Nat.le_of_ble_eq_true rfl⟩) hP hD hS hA [10, 12, 13, 14, 15] [0, 1, 2, 3, 4, 5, 6, 7, 8, 9, 11] rfl rfl (by decide) (by decide) (fun r_24 u_24 H locs hw hP hD hS => ?_)
      subst hw
      have hP : va_P D q_cl [(ph_2, .inr (2, [.ref lo_2, .ref hi_2, .int 0])), (lo_2, .inl (aL, 8, .inr (.inl (fun _ => 0)))), (hi_2, .inl (aL, 8, .inr (.inl (fun _ => 0)))), (at__2, .inl (aL, 16, .inr (.inl (fun _ => 0)))), (dg_2, .inl (aI, 16, .inl (fun _ => 0))), (fh_2, .inr (0, [.ref ph_2, .ref nh_2, .ref sh_2, .ref le_2, .ref ri_2, .ref wa_2, .ref kf_2, .ref kt_2, .ref ar_2, .int 1, .int 0])), (ri_2, .inl (aI, 9, .inl gr_2)), (wa_2, .inl (aI, 9, .inl gw_2)), (kf_2, .inl (aI, 9, .inl gk_2)), (kt_2, .inl (aI, 9, .inl gt_2)), (en_4, .inl (aI, 6000, .inl (fun _ => 0)))] H := hP
      have hD : va_D (fun q : Nat => s.heap.size ≤ q) [(ph_2, .inr (2, [.ref lo_2, .ref hi_2, .int 0])), (lo_2, .inl (aL, 8, .inr (.inl (fun _ => 0)))), (hi_2, .inl (aL, 8, .inr (.inl (fun _ => 0)))), (at__2, .inl (aL, 16, .inr (.inl (fun _ => 0)))), (dg_2, .inl (aI, 16, .inl (fun _ => 0))), (fh_2, .inr (0, [.ref ph_2, .ref nh_2, .ref sh_2, .ref le_2, .ref ri_2, .ref wa_2, .ref kf_2, .ref kt_2, .ref ar_2, .int 1, .int 0])), (ri_2, .inl (aI, 9, .inl gr_2)), (wa_2, .inl (aI, 9, .inl gw_2)), (kf_2, .inl (aI, 9, .inl gk_2)), (kt_2, .inl (aI, 9, .inl gt_2)), (en_4, .inl (aI, 6000, .inl (fun _ => 0)))] := hD
      refine lv_icmp_eq (tgt := 459) hx hb dL_law_245 (by decide) (fun c_25 => ?_) (fun c_25 => ?_)
      · refine lv_iinc (v := 5) (lv' := [(3, .int 5), (2, .ref q3), (1, .ref q1), (0, .ref b)]) hx hb dL_law_459 hl (k := 0) rfl (by decide) (by decide) rfl (fun ls hl => ?_)
        refine lv_goto (tgt := 18) hx hb dL_law_462 (by decide) ?_
        refine lv_iload_n hx hb dL_law_18 rfl (lv_at hl 0 rfl) ?_
        refine lv_aload_n hx hb dL_law_19 rfl (lv_at hl 3 rfl) ?_
        refine va_slen hx hb hX hbl hbA hS dL_law_20 ?_
        refine lv_iconst (v := 5) hx hb dL_law_21 (by decide) ?_
        refine lv_isub hx hb dL_law_22 ?_
        refine lv_icmp_gt (tgt := 465) hx hb dL_law_23 (by decide) (fun c_26 => ?_) (fun c_26 => ?_)
        · refine lv_iconst (v := 1) hx hb dL_law_465 (by decide) ?_
          refine va_forget (fun q hq => hS.2.2 q hq) ?_
          refine W.widen (k := 600000) (n := 7302250) (Nat.le_of_ble_eq_true rfl) (Nat.le_of_ble_eq_true rfl) ?_
          exact lw_ret hx hb hr hlocks dL_law_466
        · exact absurd (by rw [hL5]; decide) c_26
      · exact absurd c_25 (by decide)
    by_cases w_27 : k6 = 4
    · subst w_27
      refine lv_tableIn (tgt := 250) hx hb dL_law_32 (by decide) (by decide) rfl (by decide) ?_
      refine lv_aload_n hx hb dL_law_250 rfl (lv_at hl 2 rfl) ?_
      refine lv_aload_n hx hb dL_law_251 rfl (lv_at hl 3 rfl) ?_
      refine lv_iload_n hx hb dL_law_252 rfl (lv_at hl 0 rfl) ?_
      refine lv_iconst (v := 1) hx hb dL_law_253 (by decide) ?_
      refine lv_iadd hx hb dL_law_254 ?_
      refine q_vi (v := 1) (by decide) ?_
      refine va_sld hx hb hX hbl hbA hS (q_ix 1 (by decide) (by decide) (by omega)) dL_law_255 ?_
      refine q_vi (v := xs 1) rfl ?_
      refine lv_aload_n hx hb dL_law_256 rfl (lv_at hl 3 rfl) ?_
      refine lv_iload_n hx hb dL_law_257 rfl (lv_at hl 0 rfl) ?_
      refine lv_iconst (v := 2) hx hb dL_law_258 (by decide) ?_
      refine lv_iadd hx hb dL_law_259 ?_
      refine q_vi (v := 2) (by decide) ?_
      refine va_sld hx hb hX hbl hbA hS (q_ix 2 (by decide) (by decide) (by omega)) dL_law_260 ?_
      refine q_vi (v := xs 2) rfl ?_
      refine q_i (wr := [(lo_2, .inl (aL, 8, .inr (.inl (fun _ => 0)))), (hi_2, .inl (aL, 8, .inr (.inl (fun _ => 0)))), (nh_2, .inr (1, [.ref at__2, .ref dg_2, .int 0])), (at__2, .inl (aL, 16, .inr (.inl (fun _ => 0)))), (dg_2, .inl (aI, 16, .inl (fun _ => 0))), (fh_2, .inr (0, [.ref ph_2, .ref nh_2, .ref sh_2, .ref le_2, .ref ri_2, .ref wa_2, .ref kf_2, .ref kt_2, .ref ar_2, .int 1, .int 0])), (ri_2, .inl (aI, 9, .inl gr_2)), (wa_2, .inl (aI, 9, .inl gw_2)), (kf_2, .inl (aI, 9, .inl gk_2)), (kt_2, .inl (aI, 9, .inl gt_2)), (q3, .inr (7, [.ref en_4, .int 0, .ref nt_4, .ref pl_4, .int 0])), (en_4, .inl (aI, 6000, .inl (fun _ => 0))), (nt_4, .inr (5, [.ref nx_4, .ref ny_4, .int 0, .ref nl_4, .ref nh_4, .int 0, .ref nb_4, .ref no_4, .ref nr_4, .ref nd_4, .ref na_4, .ref ns_4, .ref nf_4, .int 0, .ref np_4, .int 0, .ref nq_4])), (nx_4, .inl (aI, 0, .inl (fun _ => 0))), (nl_4, .inl (aI, 0, .inl (fun _ => 0))), (pl_4, .inr (6, [.ref row_4, .int 0]))]) (q_runV (As := [.int (xs 1), .int (xs 2)]) (rest := []) ⟨hx, hb, hml, hown, hts⟩ (c_X6_piece l D aI aL aZ q1 ph_2 nh_2 sh_2 fh_2 lo_2 hi_2 (xs 1) (xs 2) _) (cwV 2 hts g_L_law_X6_piece_33 rfl rfl rfl (by decide +kernel) ⟨Nat.le_of_ble_eq_true rfl, Nat.le_of_ble_eq_true rfl⟩) hK hN hP hD [0, 1] rfl (by decide) rfl rfl rfl hl.1 rfl (Nat.le_of_ble_eq_true rfl) dL_law_261 ⟨Nat.le_of_ble_eq_true rfl, Nat.le_of_ble_eq_true rfl⟩) hP hD hS hA [0, 1] [2, 3, 4, 5, 6, 7, 8, 9, 10, 11, 12, 13, 14, 15, 16, 17] rfl rfl (by decide) (by decide) (fun r_28 u_28 H locs hw hP hD hS => ?_)
      subst hw
      have hP : va_P D q_cl [(lo_2, .inl (aL, 8, .inr (.inl (fun _ => 0)))), (hi_2, .inl (aL, 8, .inr (.inl (fun _ => 0)))), (nh_2, .inr (1, [.ref at__2, .ref dg_2, .int 0])), (at__2, .inl (aL, 16, .inr (.inl (fun _ => 0)))), (dg_2, .inl (aI, 16, .inl (fun _ => 0))), (fh_2, .inr (0, [.ref ph_2, .ref nh_2, .ref sh_2, .ref le_2, .ref ri_2, .ref wa_2, .ref kf_2, .ref kt_2, .ref ar_2, .int 1, .int 0])), (ri_2, .inl (aI, 9, .inl gr_2)), (wa_2, .inl (aI, 9, .inl gw_2)), (kf_2, .inl (aI, 9, .inl gk_2)), (kt_2, .inl (aI, 9, .inl gt_2)), (q3, .inr (7, [.ref en_4, .int 0, .ref nt_4, .ref pl_4, .int 0])), (en_4, .inl (aI, 6000, .inl (fun _ => 0))), (nt_4, .inr (5, [.ref nx_4, .ref ny_4, .int 0, .ref nl_4, .ref nh_4, .int 0, .ref nb_4, .ref no_4, .ref nr_4, .ref nd_4, .ref na_4, .ref ns_4, .ref nf_4, .int 0, .ref np_4, .int 0, .ref nq_4])), (nx_4, .inl (aI, 0, .inl (fun _ => 0))), (nl_4, .inl (aI, 0, .inl (fun _ => 0))), (pl_4, .inr (6, [.ref row_4, .int 0]))] H := hP
      have hD : va_D (fun q : Nat => s.heap.size ≤ q) [(lo_2, .inl (aL, 8, .inr (.inl (fun _ => 0)))), (hi_2, .inl (aL, 8, .inr (.inl (fun _ => 0)))), (nh_2, .inr (1, [.ref at__2, .ref dg_2, .int 0])), (at__2, .inl (aL, 16, .inr (.inl (fun _ => 0)))), (dg_2, .inl (aI, 16, .inl (fun _ => 0))), (fh_2, .inr (0, [.ref ph_2, .ref nh_2, .ref sh_2, .ref le_2, .ref ri_2, .ref wa_2, .ref kf_2, .ref kt_2, .ref ar_2, .int 1, .int 0])), (ri_2, .inl (aI, 9, .inl gr_2)), (wa_2, .inl (aI, 9, .inl gw_2)), (kf_2, .inl (aI, 9, .inl gk_2)), (kt_2, .inl (aI, 9, .inl gt_2)), (q3, .inr (7, [.ref en_4, .int 0, .ref nt_4, .ref pl_4, .int 0])), (en_4, .inl (aI, 6000, .inl (fun _ => 0))), (nt_4, .inr (5, [.ref nx_4, .ref ny_4, .int 0, .ref nl_4, .ref nh_4, .int 0, .ref nb_4, .ref no_4, .ref nr_4, .ref nd_4, .ref na_4, .ref ns_4, .ref nf_4, .int 0, .ref np_4, .int 0, .ref nq_4])), (nx_4, .inl (aI, 0, .inl (fun _ => 0))), (nl_4, .inl (aI, 0, .inl (fun _ => 0))), (pl_4, .inr (6, [.ref row_4, .int 0]))] := hD
      refine lv_aload_n hx hb dL_law_264 rfl (lv_at hl 1 rfl) ?_
      refine lv_aload_n hx hb dL_law_265 rfl (lv_at hl 3 rfl) ?_
      refine lv_iload_n hx hb dL_law_266 rfl (lv_at hl 0 rfl) ?_
      refine lv_iconst (v := 1) hx hb dL_law_267 (by decide) ?_
      refine lv_iadd hx hb dL_law_268 ?_
      refine q_vi (v := 1) (by decide) ?_
      refine va_sld hx hb hX hbl hbA hS (q_ix 1 (by decide) (by decide) (by omega)) dL_law_269 ?_
      refine q_vi (v := xs 1) rfl ?_
      refine lv_aload_n hx hb dL_law_270 rfl (lv_at hl 3 rfl) ?_
      refine lv_iload_n hx hb dL_law_271 rfl (lv_at hl 0 rfl) ?_
      refine lv_iconst (v := 2) hx hb dL_law_272 (by decide) ?_
      refine lv_iadd hx hb dL_law_273 ?_
      refine q_vi (v := 2) (by decide) ?_
      refine va_sld hx hb hX hbl hbA hS (q_ix 2 (by decide) (by decide) (by omega)) dL_law_274 ?_
      refine q_vi (v := xs 2) rfl ?_
      refine q_i (wr := [(lo_2, .inl (aL, 8, .inr (.inl (fun _ => 0)))), (hi_2, .inl (aL, 8, .inr (.inl (fun _ => 0)))), (nh_2, .inr (1, [.ref at__2, .ref dg_2, .int 0])), (at__2, .inl (aL, 16, .inr (.inl (fun _ => 0)))), (dg_2, .inl (aI, 16, .inl (fun _ => 0))), (fh_2, .inr (0, [.ref ph_2, .ref nh_2, .ref sh_2, .ref le_2, .ref ri_2, .ref wa_2, .ref kf_2, .ref kt_2, .ref ar_2, .int 1, .int 0])), (ri_2, .inl (aI, 9, .inl gr_2)), (wa_2, .inl (aI, 9, .inl gw_2)), (kf_2, .inl (aI, 9, .inl gk_2)), (kt_2, .inl (aI, 9, .inl gt_2)), (en_4, .inl (aI, 6000, .inl (fun _ => 0)))]) (q_runV (As := [.int (xs 1), .int (xs 2)]) (rest := [.int (-1)]) ⟨hx, hb, hml, hown, hts⟩ (c_X9_piece l D aI aL aZ q3 en_4 nt_4 pl_4 row_4 nx_4 ny_4 nl_4 nh_4 nb_4 no_4 nr_4 nd_4 na_4 ns_4 nf_4 np_4 nq_4 (fun _ => 0) (fun _ => 0) (xs 1) (xs 2) _) (cwV 2 hts g_L_law_X9_piece_36 rfl rfl rfl (by decide +kernel) ⟨Nat.le_of_ble_eq_true rfl, Nat.le_of_ble_eq_true rfl⟩) hK hN hP hD [10, 12, 13, 14, 15] rfl (by decide) rfl rfl rfl hl.1 rfl (Nat.le_of_ble_eq_true rfl) dL_law_275 ⟨Nat.le_of_ble_eq_true rfl, Nat.le_of_ble_eq_true rfl⟩) hP hD hS hA [10, 12, 13, 14, 15] [0, 1, 2, 3, 4, 5, 6, 7, 8, 9, 11] rfl rfl (by decide) (by decide) (fun r_29 u_29 H locs hw hP hD hS => ?_)
      subst hw
      have hP : va_P D q_cl [(lo_2, .inl (aL, 8, .inr (.inl (fun _ => 0)))), (hi_2, .inl (aL, 8, .inr (.inl (fun _ => 0)))), (nh_2, .inr (1, [.ref at__2, .ref dg_2, .int 0])), (at__2, .inl (aL, 16, .inr (.inl (fun _ => 0)))), (dg_2, .inl (aI, 16, .inl (fun _ => 0))), (fh_2, .inr (0, [.ref ph_2, .ref nh_2, .ref sh_2, .ref le_2, .ref ri_2, .ref wa_2, .ref kf_2, .ref kt_2, .ref ar_2, .int 1, .int 0])), (ri_2, .inl (aI, 9, .inl gr_2)), (wa_2, .inl (aI, 9, .inl gw_2)), (kf_2, .inl (aI, 9, .inl gk_2)), (kt_2, .inl (aI, 9, .inl gt_2)), (en_4, .inl (aI, 6000, .inl (fun _ => 0)))] H := hP
      have hD : va_D (fun q : Nat => s.heap.size ≤ q) [(lo_2, .inl (aL, 8, .inr (.inl (fun _ => 0)))), (hi_2, .inl (aL, 8, .inr (.inl (fun _ => 0)))), (nh_2, .inr (1, [.ref at__2, .ref dg_2, .int 0])), (at__2, .inl (aL, 16, .inr (.inl (fun _ => 0)))), (dg_2, .inl (aI, 16, .inl (fun _ => 0))), (fh_2, .inr (0, [.ref ph_2, .ref nh_2, .ref sh_2, .ref le_2, .ref ri_2, .ref wa_2, .ref kf_2, .ref kt_2, .ref ar_2, .int 1, .int 0])), (ri_2, .inl (aI, 9, .inl gr_2)), (wa_2, .inl (aI, 9, .inl gw_2)), (kf_2, .inl (aI, 9, .inl gk_2)), (kt_2, .inl (aI, 9, .inl gt_2)), (en_4, .inl (aI, 6000, .inl (fun _ => 0)))] := hD
      refine lv_icmp_eq (tgt := 459) hx hb dL_law_278 (by decide) (fun c_30 => ?_) (fun c_30 => ?_)
      · refine lv_iinc (v := 5) (lv' := [(3, .int 5), (2, .ref q3), (1, .ref q1), (0, .ref b)]) hx hb dL_law_459 hl (k := 0) rfl (by decide) (by decide) rfl (fun ls hl => ?_)
        refine lv_goto (tgt := 18) hx hb dL_law_462 (by decide) ?_
        refine lv_iload_n hx hb dL_law_18 rfl (lv_at hl 0 rfl) ?_
        refine lv_aload_n hx hb dL_law_19 rfl (lv_at hl 3 rfl) ?_
        refine va_slen hx hb hX hbl hbA hS dL_law_20 ?_
        refine lv_iconst (v := 5) hx hb dL_law_21 (by decide) ?_
        refine lv_isub hx hb dL_law_22 ?_
        refine lv_icmp_gt (tgt := 465) hx hb dL_law_23 (by decide) (fun c_31 => ?_) (fun c_31 => ?_)
        · refine lv_iconst (v := 1) hx hb dL_law_465 (by decide) ?_
          refine va_forget (fun q hq => hS.2.2 q hq) ?_
          refine W.widen (k := 600000) (n := 7302250) (Nat.le_of_ble_eq_true rfl) (Nat.le_of_ble_eq_true rfl) ?_
          exact lw_ret hx hb hr hlocks dL_law_466
        · exact absurd (by rw [hL5]; decide) c_31
      · exact absurd c_30 (by decide)
    by_cases w_32 : k6 = 5
    · subst w_32
      refine lv_tableIn (tgt := 283) hx hb dL_law_32 (by decide) (by decide) rfl (by decide) ?_
      refine lv_aload_n hx hb dL_law_283 rfl (lv_at hl 2 rfl) ?_
      refine lv_aload_n hx hb dL_law_284 rfl (lv_at hl 3 rfl) ?_
      refine lv_iload_n hx hb dL_law_285 rfl (lv_at hl 0 rfl) ?_
      refine lv_iconst (v := 1) hx hb dL_law_286 (by decide) ?_
      refine lv_iadd hx hb dL_law_287 ?_
      refine q_vi (v := 1) (by decide) ?_
      refine va_sld hx hb hX hbl hbA hS (q_ix 1 (by decide) (by decide) (by omega)) dL_law_288 ?_
      refine q_vi (v := xs 1) rfl ?_
      refine lv_aload_n hx hb dL_law_289 rfl (lv_at hl 3 rfl) ?_
      refine lv_iload_n hx hb dL_law_290 rfl (lv_at hl 0 rfl) ?_
      refine lv_iconst (v := 2) hx hb dL_law_291 (by decide) ?_
      refine lv_iadd hx hb dL_law_292 ?_
      refine q_vi (v := 2) (by decide) ?_
      refine va_sld hx hb hX hbl hbA hS (q_ix 2 (by decide) (by decide) (by omega)) dL_law_293 ?_
      refine q_vi (v := xs 2) rfl ?_
      refine lv_aload_n hx hb dL_law_294 rfl (lv_at hl 3 rfl) ?_
      refine lv_iload_n hx hb dL_law_295 rfl (lv_at hl 0 rfl) ?_
      refine lv_iconst (v := 3) hx hb dL_law_296 (by decide) ?_
      refine lv_iadd hx hb dL_law_297 ?_
      refine q_vi (v := 3) (by decide) ?_
      refine va_sld hx hb hX hbl hbA hS (q_ix 3 (by decide) (by decide) (by omega)) dL_law_298 ?_
      refine q_vi (v := xs 3) rfl ?_
      refine lv_aload_n hx hb dL_law_299 rfl (lv_at hl 3 rfl) ?_
      refine lv_iload_n hx hb dL_law_300 rfl (lv_at hl 0 rfl) ?_
      refine lv_iconst (v := 4) hx hb dL_law_301 (by decide) ?_
      refine lv_iadd hx hb dL_law_302 ?_
      refine q_vi (v := 4) (by decide) ?_
      refine va_sld hx hb hX hbl hbA hS (q_ix 4 (by decide) (by decide) (by omega)) dL_law_303 ?_
      refine q_vi (v := xs 4) rfl ?_
      refine q_i (wr := [(lo_2, .inl (aL, 8, .inr (.inl (fun _ => 0)))), (hi_2, .inl (aL, 8, .inr (.inl (fun _ => 0)))), (nh_2, .inr (1, [.ref at__2, .ref dg_2, .int 0])), (at__2, .inl (aL, 16, .inr (.inl (fun _ => 0)))), (dg_2, .inl (aI, 16, .inl (fun _ => 0))), (fh_2, .inr (0, [.ref ph_2, .ref nh_2, .ref sh_2, .ref le_2, .ref ri_2, .ref wa_2, .ref kf_2, .ref kt_2, .ref ar_2, .int 1, .int 0])), (ri_2, .inl (aI, 9, .inl gr_2)), (wa_2, .inl (aI, 9, .inl gw_2)), (kf_2, .inl (aI, 9, .inl gk_2)), (kt_2, .inl (aI, 9, .inl gt_2)), (q3, .inr (7, [.ref en_4, .int 0, .ref nt_4, .ref pl_4, .int 0])), (en_4, .inl (aI, 6000, .inl (fun _ => 0))), (nt_4, .inr (5, [.ref nx_4, .ref ny_4, .int 0, .ref nl_4, .ref nh_4, .int 0, .ref nb_4, .ref no_4, .ref nr_4, .ref nd_4, .ref na_4, .ref ns_4, .ref nf_4, .int 0, .ref np_4, .int 0, .ref nq_4])), (nx_4, .inl (aI, 0, .inl (fun _ => 0))), (nl_4, .inl (aI, 0, .inl (fun _ => 0))), (pl_4, .inr (6, [.ref row_4, .int 0]))]) (q_runV (As := [.int (xs 1), .int (xs 2), .int (xs 3), .int (xs 4)]) (rest := []) ⟨hx, hb, hml, hown, hts⟩ (c_X6_left l D aI aL aZ q1 ph_2 nh_2 sh_2 fh_2 lo_2 hi_2 (xs 1) (xs 2) (xs 3) (xs 4) _) (cwV 4 hts g_L_law_X6_left_37 rfl rfl rfl (by decide +kernel) ⟨Nat.le_of_ble_eq_true rfl, Nat.le_of_ble_eq_true rfl⟩) hK hN hP hD [0, 1] rfl (by decide) rfl rfl rfl hl.1 rfl (Nat.le_of_ble_eq_true rfl) dL_law_304 ⟨Nat.le_of_ble_eq_true rfl, Nat.le_of_ble_eq_true rfl⟩) hP hD hS hA [0, 1] [2, 3, 4, 5, 6, 7, 8, 9, 10, 11, 12, 13, 14, 15, 16, 17] rfl rfl (by decide) (by decide) (fun r_33 u_33 H locs hw hP hD hS => ?_)
      subst hw
      have hP : va_P D q_cl [(lo_2, .inl (aL, 8, .inr (.inl (fun _ => 0)))), (hi_2, .inl (aL, 8, .inr (.inl (fun _ => 0)))), (nh_2, .inr (1, [.ref at__2, .ref dg_2, .int 0])), (at__2, .inl (aL, 16, .inr (.inl (fun _ => 0)))), (dg_2, .inl (aI, 16, .inl (fun _ => 0))), (fh_2, .inr (0, [.ref ph_2, .ref nh_2, .ref sh_2, .ref le_2, .ref ri_2, .ref wa_2, .ref kf_2, .ref kt_2, .ref ar_2, .int 1, .int 0])), (ri_2, .inl (aI, 9, .inl gr_2)), (wa_2, .inl (aI, 9, .inl gw_2)), (kf_2, .inl (aI, 9, .inl gk_2)), (kt_2, .inl (aI, 9, .inl gt_2)), (q3, .inr (7, [.ref en_4, .int 0, .ref nt_4, .ref pl_4, .int 0])), (en_4, .inl (aI, 6000, .inl (fun _ => 0))), (nt_4, .inr (5, [.ref nx_4, .ref ny_4, .int 0, .ref nl_4, .ref nh_4, .int 0, .ref nb_4, .ref no_4, .ref nr_4, .ref nd_4, .ref na_4, .ref ns_4, .ref nf_4, .int 0, .ref np_4, .int 0, .ref nq_4])), (nx_4, .inl (aI, 0, .inl (fun _ => 0))), (nl_4, .inl (aI, 0, .inl (fun _ => 0))), (pl_4, .inr (6, [.ref row_4, .int 0]))] H := hP
      have hD : va_D (fun q : Nat => s.heap.size ≤ q) [(lo_2, .inl (aL, 8, .inr (.inl (fun _ => 0)))), (hi_2, .inl (aL, 8, .inr (.inl (fun _ => 0)))), (nh_2, .inr (1, [.ref at__2, .ref dg_2, .int 0])), (at__2, .inl (aL, 16, .inr (.inl (fun _ => 0)))), (dg_2, .inl (aI, 16, .inl (fun _ => 0))), (fh_2, .inr (0, [.ref ph_2, .ref nh_2, .ref sh_2, .ref le_2, .ref ri_2, .ref wa_2, .ref kf_2, .ref kt_2, .ref ar_2, .int 1, .int 0])), (ri_2, .inl (aI, 9, .inl gr_2)), (wa_2, .inl (aI, 9, .inl gw_2)), (kf_2, .inl (aI, 9, .inl gk_2)), (kt_2, .inl (aI, 9, .inl gt_2)), (q3, .inr (7, [.ref en_4, .int 0, .ref nt_4, .ref pl_4, .int 0])), (en_4, .inl (aI, 6000, .inl (fun _ => 0))), (nt_4, .inr (5, [.ref nx_4, .ref ny_4, .int 0, .ref nl_4, .ref nh_4, .int 0, .ref nb_4, .ref no_4, .ref nr_4, .ref nd_4, .ref na_4, .ref ns_4, .ref nf_4, .int 0, .ref np_4, .int 0, .ref nq_4])), (nx_4, .inl (aI, 0, .inl (fun _ => 0))), (nl_4, .inl (aI, 0, .inl (fun _ => 0))), (pl_4, .inr (6, [.ref row_4, .int 0]))] := hD
      refine lv_aload_n hx hb dL_law_307 rfl (lv_at hl 1 rfl) ?_
      refine lv_aload_n hx hb dL_law_308 rfl (lv_at hl 3 rfl) ?_
      refine lv_iload_n hx hb dL_law_309 rfl (lv_at hl 0 rfl) ?_
      refine lv_iconst (v := 1) hx hb dL_law_310 (by decide) ?_
      refine lv_iadd hx hb dL_law_311 ?_
      refine q_vi (v := 1) (by decide) ?_
      refine va_sld hx hb hX hbl hbA hS (q_ix 1 (by decide) (by decide) (by omega)) dL_law_312 ?_
      refine q_vi (v := xs 1) rfl ?_
      refine lv_aload_n hx hb dL_law_313 rfl (lv_at hl 3 rfl) ?_
      refine lv_iload_n hx hb dL_law_314 rfl (lv_at hl 0 rfl) ?_
      refine lv_iconst (v := 2) hx hb dL_law_315 (by decide) ?_
      refine lv_iadd hx hb dL_law_316 ?_
      refine q_vi (v := 2) (by decide) ?_
      refine va_sld hx hb hX hbl hbA hS (q_ix 2 (by decide) (by decide) (by omega)) dL_law_317 ?_
      refine q_vi (v := xs 2) rfl ?_
      refine lv_aload_n hx hb dL_law_318 rfl (lv_at hl 3 rfl) ?_
      refine lv_iload_n hx hb dL_law_319 rfl (lv_at hl 0 rfl) ?_
      refine lv_iconst (v := 3) hx hb dL_law_320 (by decide) ?_
      refine lv_iadd hx hb dL_law_321 ?_
      refine q_vi (v := 3) (by decide) ?_
      refine va_sld hx hb hX hbl hbA hS (q_ix 3 (by decide) (by decide) (by omega)) dL_law_322 ?_
      refine q_vi (v := xs 3) rfl ?_
      refine lv_aload_n hx hb dL_law_323 rfl (lv_at hl 3 rfl) ?_
      refine lv_iload_n hx hb dL_law_324 rfl (lv_at hl 0 rfl) ?_
      refine lv_iconst (v := 4) hx hb dL_law_325 (by decide) ?_
      refine lv_iadd hx hb dL_law_326 ?_
      refine q_vi (v := 4) (by decide) ?_
      refine va_sld hx hb hX hbl hbA hS (q_ix 4 (by decide) (by decide) (by omega)) dL_law_327 ?_
      refine q_vi (v := xs 4) rfl ?_
      refine q_i (wr := [(lo_2, .inl (aL, 8, .inr (.inl (fun _ => 0)))), (hi_2, .inl (aL, 8, .inr (.inl (fun _ => 0)))), (nh_2, .inr (1, [.ref at__2, .ref dg_2, .int 0])), (at__2, .inl (aL, 16, .inr (.inl (fun _ => 0)))), (dg_2, .inl (aI, 16, .inl (fun _ => 0))), (fh_2, .inr (0, [.ref ph_2, .ref nh_2, .ref sh_2, .ref le_2, .ref ri_2, .ref wa_2, .ref kf_2, .ref kt_2, .ref ar_2, .int 1, .int 0])), (ri_2, .inl (aI, 9, .inl gr_2)), (wa_2, .inl (aI, 9, .inl gw_2)), (kf_2, .inl (aI, 9, .inl gk_2)), (kt_2, .inl (aI, 9, .inl gt_2)), (en_4, .inl (aI, 6000, .inl (fun _ => 0)))]) (q_runV (As := [.int (xs 1), .int (xs 2), .int (xs 3), .int (xs 4)]) (rest := [.int (-1)]) ⟨hx, hb, hml, hown, hts⟩ (c_X9_left l D aI aL aZ q3 en_4 nt_4 pl_4 row_4 nx_4 ny_4 nl_4 nh_4 nb_4 no_4 nr_4 nd_4 na_4 ns_4 nf_4 np_4 nq_4 (fun _ => 0) (fun _ => 0) (xs 1) (xs 2) (xs 3) (xs 4) _) (cwV 4 hts g_L_law_X9_left_40 rfl rfl rfl (by decide +kernel) ⟨Nat.le_of_ble_eq_true rfl, Nat.le_of_ble_eq_true rfl⟩) hK hN hP hD [10, 12, 13, 14, 15] rfl (by decide) rfl rfl rfl hl.1 rfl (Nat.le_of_ble_eq_true rfl) dL_law_328 ⟨Nat.le_of_ble_eq_true rfl, Nat.le_of_ble_eq_true rfl⟩) hP hD hS hA [10, 12, 13, 14, 15] [0, 1, 2, 3, 4, 5, 6, 7, 8, 9, 11] rfl rfl (by decide) (by decide) (fun r_34 u_34 H locs hw hP hD hS => ?_)
      subst hw
      have hP : va_P D q_cl [(lo_2, .inl (aL, 8, .inr (.inl (fun _ => 0)))), (hi_2, .inl (aL, 8, .inr (.inl (fun _ => 0)))), (nh_2, .inr (1, [.ref at__2, .ref dg_2, .int 0])), (at__2, .inl (aL, 16, .inr (.inl (fun _ => 0)))), (dg_2, .inl (aI, 16, .inl (fun _ => 0))), (fh_2, .inr (0, [.ref ph_2, .ref nh_2, .ref sh_2, .ref le_2, .ref ri_2, .ref wa_2, .ref kf_2, .ref kt_2, .ref ar_2, .int 1, .int 0])), (ri_2, .inl (aI, 9, .inl gr_2)), (wa_2, .inl (aI, 9, .inl gw_2)), (kf_2, .inl (aI, 9, .inl gk_2)), (kt_2, .inl (aI, 9, .inl gt_2)), (en_4, .inl (aI, 6000, .inl (fun _ => 0)))] H := hP
      have hD : va_D (fun q : Nat => s.heap.size ≤ q) [(lo_2, .inl (aL, 8, .inr (.inl (fun _ => 0)))), (hi_2, .inl (aL, 8, .inr (.inl (fun _ => 0)))), (nh_2, .inr (1, [.ref at__2, .ref dg_2, .int 0])), (at__2, .inl (aL, 16, .inr (.inl (fun _ => 0)))), (dg_2, .inl (aI, 16, .inl (fun _ => 0))), (fh_2, .inr (0, [.ref ph_2, .ref nh_2, .ref sh_2, .ref le_2, .ref ri_2, .ref wa_2, .ref kf_2, .ref kt_2, .ref ar_2, .int 1, .int 0])), (ri_2, .inl (aI, 9, .inl gr_2)), (wa_2, .inl (aI, 9, .inl gw_2)), (kf_2, .inl (aI, 9, .inl gk_2)), (kt_2, .inl (aI, 9, .inl gt_2)), (en_4, .inl (aI, 6000, .inl (fun _ => 0)))] := hD
      refine lv_icmp_eq (tgt := 459) hx hb dL_law_331 (by decide) (fun c_35 => ?_) (fun c_35 => ?_)
      · refine lv_iinc (v := 5) (lv' := [(3, .int 5), (2, .ref q3), (1, .ref q1), (0, .ref b)]) hx hb dL_law_459 hl (k := 0) rfl (by decide) (by decide) rfl (fun ls hl => ?_)
        refine lv_goto (tgt := 18) hx hb dL_law_462 (by decide) ?_
        refine lv_iload_n hx hb dL_law_18 rfl (lv_at hl 0 rfl) ?_
        refine lv_aload_n hx hb dL_law_19 rfl (lv_at hl 3 rfl) ?_
        refine va_slen hx hb hX hbl hbA hS dL_law_20 ?_
        refine lv_iconst (v := 5) hx hb dL_law_21 (by decide) ?_
        refine lv_isub hx hb dL_law_22 ?_
        refine lv_icmp_gt (tgt := 465) hx hb dL_law_23 (by decide) (fun c_36 => ?_) (fun c_36 => ?_)
        · refine lv_iconst (v := 1) hx hb dL_law_465 (by decide) ?_
          refine va_forget (fun q hq => hS.2.2 q hq) ?_
          refine W.widen (k := 600000) (n := 7302250) (Nat.le_of_ble_eq_true rfl) (Nat.le_of_ble_eq_true rfl) ?_
          exact lw_ret hx hb hr hlocks dL_law_466
        · exact absurd (by rw [hL5]; decide) c_36
      · exact absurd c_35 (by decide)
    by_cases w_37 : k6 = 6
    · subst w_37
      refine lv_tableIn (tgt := 336) hx hb dL_law_32 (by decide) (by decide) rfl (by decide) ?_
      refine lv_aload_n hx hb dL_law_336 rfl (lv_at hl 2 rfl) ?_
      refine lv_aload_n hx hb dL_law_337 rfl (lv_at hl 3 rfl) ?_
      refine lv_iload_n hx hb dL_law_338 rfl (lv_at hl 0 rfl) ?_
      refine lv_iconst (v := 1) hx hb dL_law_339 (by decide) ?_
      refine lv_iadd hx hb dL_law_340 ?_
      refine q_vi (v := 1) (by decide) ?_
      refine va_sld hx hb hX hbl hbA hS (q_ix 1 (by decide) (by decide) (by omega)) dL_law_341 ?_
      refine q_vi (v := xs 1) rfl ?_
      refine lv_aload_n hx hb dL_law_342 rfl (lv_at hl 3 rfl) ?_
      refine lv_iload_n hx hb dL_law_343 rfl (lv_at hl 0 rfl) ?_
      refine lv_iconst (v := 2) hx hb dL_law_344 (by decide) ?_
      refine lv_iadd hx hb dL_law_345 ?_
      refine q_vi (v := 2) (by decide) ?_
      refine va_sld hx hb hX hbl hbA hS (q_ix 2 (by decide) (by decide) (by omega)) dL_law_346 ?_
      refine q_vi (v := xs 2) rfl ?_
      refine q_i (wr := [(ph_2, .inr (2, [.ref lo_2, .ref hi_2, .int 0])), (lo_2, .inl (aL, 8, .inr (.inl (fun _ => 0)))), (hi_2, .inl (aL, 8, .inr (.inl (fun _ => 0)))), (nh_2, .inr (1, [.ref at__2, .ref dg_2, .int 0])), (at__2, .inl (aL, 16, .inr (.inl (fun _ => 0)))), (dg_2, .inl (aI, 16, .inl (fun _ => 0))), (q3, .inr (7, [.ref en_4, .int 0, .ref nt_4, .ref pl_4, .int 0])), (en_4, .inl (aI, 6000, .inl (fun _ => 0))), (nt_4, .inr (5, [.ref nx_4, .ref ny_4, .int 0, .ref nl_4, .ref nh_4, .int 0, .ref nb_4, .ref no_4, .ref nr_4, .ref nd_4, .ref na_4, .ref ns_4, .ref nf_4, .int 0, .ref np_4, .int 0, .ref nq_4])), (nx_4, .inl (aI, 0, .inl (fun _ => 0))), (nl_4, .inl (aI, 0, .inl (fun _ => 0))), (pl_4, .inr (6, [.ref row_4, .int 0]))]) (q_runV (As := [.int (xs 1), .int (xs 2)]) (rest := []) ⟨hx, hb, hml, hown, hts⟩ (c_X6_face l D aI aL aZ q1 ph_2 nh_2 sh_2 fh_2 ph_2 nh_2 sh_2 le_2 ri_2 wa_2 kf_2 kt_2 ar_2 gr_2 gw_2 gk_2 gt_2 (xs 1) (xs 2) (by first | assumption | decide | omega | simp_all) (by first | assumption | decide | omega | simp_all) (by first | assumption | decide | omega | simp_all) (by first | assumption | decide | omega | simp_all) _) (cwV 2 hts g_L_law_X6_face_41 rfl rfl rfl (by decide +kernel) ⟨Nat.le_of_ble_eq_true rfl, Nat.le_of_ble_eq_true rfl⟩) hK hN hP hD [0, 7, 8, 9, 10, 11] rfl (by decide) rfl rfl rfl hl.1 rfl (Nat.le_of_ble_eq_true rfl) dL_law_347 ⟨Nat.le_of_ble_eq_true rfl, Nat.le_of_ble_eq_true rfl⟩) hP hD hS hA [0, 7, 8, 9, 10, 11] [1, 2, 3, 4, 5, 6, 12, 13, 14, 15, 16, 17] rfl rfl (by decide) (by decide) (fun r_38 u_38 H locs hw hP hD hS => ?_)
      subst hw
      have hP : va_P D q_cl [(ph_2, .inr (2, [.ref lo_2, .ref hi_2, .int 0])), (lo_2, .inl (aL, 8, .inr (.inl (fun _ => 0)))), (hi_2, .inl (aL, 8, .inr (.inl (fun _ => 0)))), (nh_2, .inr (1, [.ref at__2, .ref dg_2, .int 0])), (at__2, .inl (aL, 16, .inr (.inl (fun _ => 0)))), (dg_2, .inl (aI, 16, .inl (fun _ => 0))), (q3, .inr (7, [.ref en_4, .int 0, .ref nt_4, .ref pl_4, .int 0])), (en_4, .inl (aI, 6000, .inl (fun _ => 0))), (nt_4, .inr (5, [.ref nx_4, .ref ny_4, .int 0, .ref nl_4, .ref nh_4, .int 0, .ref nb_4, .ref no_4, .ref nr_4, .ref nd_4, .ref na_4, .ref ns_4, .ref nf_4, .int 0, .ref np_4, .int 0, .ref nq_4])), (nx_4, .inl (aI, 0, .inl (fun _ => 0))), (nl_4, .inl (aI, 0, .inl (fun _ => 0))), (pl_4, .inr (6, [.ref row_4, .int 0]))] H := hP
      have hD : va_D (fun q : Nat => s.heap.size ≤ q) [(ph_2, .inr (2, [.ref lo_2, .ref hi_2, .int 0])), (lo_2, .inl (aL, 8, .inr (.inl (fun _ => 0)))), (hi_2, .inl (aL, 8, .inr (.inl (fun _ => 0)))), (nh_2, .inr (1, [.ref at__2, .ref dg_2, .int 0])), (at__2, .inl (aL, 16, .inr (.inl (fun _ => 0)))), (dg_2, .inl (aI, 16, .inl (fun _ => 0))), (q3, .inr (7, [.ref en_4, .int 0, .ref nt_4, .ref pl_4, .int 0])), (en_4, .inl (aI, 6000, .inl (fun _ => 0))), (nt_4, .inr (5, [.ref nx_4, .ref ny_4, .int 0, .ref nl_4, .ref nh_4, .int 0, .ref nb_4, .ref no_4, .ref nr_4, .ref nd_4, .ref na_4, .ref ns_4, .ref nf_4, .int 0, .ref np_4, .int 0, .ref nq_4])), (nx_4, .inl (aI, 0, .inl (fun _ => 0))), (nl_4, .inl (aI, 0, .inl (fun _ => 0))), (pl_4, .inr (6, [.ref row_4, .int 0]))] := hD
      refine lv_aload_n hx hb dL_law_350 rfl (lv_at hl 1 rfl) ?_
      refine lv_aload_n hx hb dL_law_351 rfl (lv_at hl 3 rfl) ?_
      refine lv_iload_n hx hb dL_law_352 rfl (lv_at hl 0 rfl) ?_
      refine lv_iconst (v := 1) hx hb dL_law_353 (by decide) ?_
      refine lv_iadd hx hb dL_law_354 ?_
      refine q_vi (v := 1) (by decide) ?_
      refine va_sld hx hb hX hbl hbA hS (q_ix 1 (by decide) (by decide) (by omega)) dL_law_355 ?_
      refine q_vi (v := xs 1) rfl ?_
      refine lv_aload_n hx hb dL_law_356 rfl (lv_at hl 3 rfl) ?_
      refine lv_iload_n hx hb dL_law_357 rfl (lv_at hl 0 rfl) ?_
      refine lv_iconst (v := 2) hx hb dL_law_358 (by decide) ?_
      refine lv_iadd hx hb dL_law_359 ?_
      refine q_vi (v := 2) (by decide) ?_
      refine va_sld hx hb hX hbl hbA hS (q_ix 2 (by decide) (by decide) (by omega)) dL_law_360 ?_
      refine q_vi (v := xs 2) rfl ?_
      refine q_i (wr := [(ph_2, .inr (2, [.ref lo_2, .ref hi_2, .int 0])), (lo_2, .inl (aL, 8, .inr (.inl (fun _ => 0)))), (hi_2, .inl (aL, 8, .inr (.inl (fun _ => 0)))), (nh_2, .inr (1, [.ref at__2, .ref dg_2, .int 0])), (at__2, .inl (aL, 16, .inr (.inl (fun _ => 0)))), (dg_2, .inl (aI, 16, .inl (fun _ => 0))), (en_4, .inl (aI, 6000, .inl (fun _ => 0)))]) (q_runV (As := [.int (xs 1), .int (xs 2)]) (rest := [.int (fac (xs 1) (xs 2))]) ⟨hx, hb, hml, hown, hts⟩ (c_X9_face l D aI aL aZ q3 en_4 nt_4 pl_4 row_4 nx_4 ny_4 nl_4 nh_4 nb_4 no_4 nr_4 nd_4 na_4 ns_4 nf_4 np_4 nq_4 (fun _ => 0) (fun _ => 0) (xs 1) (xs 2) _) (cwV 2 hts g_L_law_X9_face_44 rfl rfl rfl (by decide +kernel) ⟨Nat.le_of_ble_eq_true rfl, Nat.le_of_ble_eq_true rfl⟩) hK hN hP hD [6, 8, 9, 10, 11] rfl (by decide) rfl rfl rfl hl.1 rfl (Nat.le_of_ble_eq_true rfl) dL_law_361 ⟨Nat.le_of_ble_eq_true rfl, Nat.le_of_ble_eq_true rfl⟩) hP hD hS hA [6, 8, 9, 10, 11] [0, 1, 2, 3, 4, 5, 7] rfl rfl (by decide) (by decide) (fun r_39 u_39 H locs hw hP hD hS => ?_)
      subst hw
      have hP : va_P D q_cl [(ph_2, .inr (2, [.ref lo_2, .ref hi_2, .int 0])), (lo_2, .inl (aL, 8, .inr (.inl (fun _ => 0)))), (hi_2, .inl (aL, 8, .inr (.inl (fun _ => 0)))), (nh_2, .inr (1, [.ref at__2, .ref dg_2, .int 0])), (at__2, .inl (aL, 16, .inr (.inl (fun _ => 0)))), (dg_2, .inl (aI, 16, .inl (fun _ => 0))), (en_4, .inl (aI, 6000, .inl (fun _ => 0)))] H := hP
      have hD : va_D (fun q : Nat => s.heap.size ≤ q) [(ph_2, .inr (2, [.ref lo_2, .ref hi_2, .int 0])), (lo_2, .inl (aL, 8, .inr (.inl (fun _ => 0)))), (hi_2, .inl (aL, 8, .inr (.inl (fun _ => 0)))), (nh_2, .inr (1, [.ref at__2, .ref dg_2, .int 0])), (at__2, .inl (aL, 16, .inr (.inl (fun _ => 0)))), (dg_2, .inl (aI, 16, .inl (fun _ => 0))), (en_4, .inl (aI, 6000, .inl (fun _ => 0)))] := hD
      refine lv_icmp_eq (tgt := 459) hx hb dL_law_364 (by decide) (fun c_40 => ?_) (fun c_40 => ?_)
      · refine lv_iinc (v := 5) (lv' := [(3, .int 5), (2, .ref q3), (1, .ref q1), (0, .ref b)]) hx hb dL_law_459 hl (k := 0) rfl (by decide) (by decide) rfl (fun ls hl => ?_)
        refine lv_goto (tgt := 18) hx hb dL_law_462 (by decide) ?_
        refine lv_iload_n hx hb dL_law_18 rfl (lv_at hl 0 rfl) ?_
        refine lv_aload_n hx hb dL_law_19 rfl (lv_at hl 3 rfl) ?_
        refine va_slen hx hb hX hbl hbA hS dL_law_20 ?_
        refine lv_iconst (v := 5) hx hb dL_law_21 (by decide) ?_
        refine lv_isub hx hb dL_law_22 ?_
        refine lv_icmp_gt (tgt := 465) hx hb dL_law_23 (by decide) (fun c_41 => ?_) (fun c_41 => ?_)
        · refine lv_iconst (v := 1) hx hb dL_law_465 (by decide) ?_
          refine va_forget (fun q hq => hS.2.2 q hq) ?_
          refine W.widen (k := 600000) (n := 7302250) (Nat.le_of_ble_eq_true rfl) (Nat.le_of_ble_eq_true rfl) ?_
          exact lw_ret hx hb hr hlocks dL_law_466
        · exact absurd (by rw [hL5]; decide) c_41
      · exact absurd rfl c_40
    by_cases w_42 : k6 = 7
    · subst w_42
      refine lv_tableIn (tgt := 369) hx hb dL_law_32 (by decide) (by decide) rfl (by decide) ?_
      refine lv_aload_n hx hb dL_law_369 rfl (lv_at hl 2 rfl) ?_
      refine lv_aload_n hx hb dL_law_370 rfl (lv_at hl 3 rfl) ?_
      refine lv_iload_n hx hb dL_law_371 rfl (lv_at hl 0 rfl) ?_
      refine lv_iconst (v := 1) hx hb dL_law_372 (by decide) ?_
      refine lv_iadd hx hb dL_law_373 ?_
      refine q_vi (v := 1) (by decide) ?_
      refine va_sld hx hb hX hbl hbA hS (q_ix 1 (by decide) (by decide) (by omega)) dL_law_374 ?_
      refine q_vi (v := xs 1) rfl ?_
      refine q_l (wr := [(ph_2, .inr (2, [.ref lo_2, .ref hi_2, .int 0])), (lo_2, .inl (aL, 8, .inr (.inl (fun _ => 0)))), (hi_2, .inl (aL, 8, .inr (.inl (fun _ => 0)))), (nh_2, .inr (1, [.ref at__2, .ref dg_2, .int 0])), (at__2, .inl (aL, 16, .inr (.inl (fun _ => 0)))), (dg_2, .inl (aI, 16, .inl (fun _ => 0))), (ri_2, .inl (aI, 9, .inl gr_2)), (wa_2, .inl (aI, 9, .inl gw_2)), (kf_2, .inl (aI, 9, .inl gk_2)), (kt_2, .inl (aI, 9, .inl gt_2)), (q3, .inr (7, [.ref en_4, .int 0, .ref nt_4, .ref pl_4, .int 0])), (en_4, .inl (aI, 6000, .inl (fun _ => 0))), (nt_4, .inr (5, [.ref nx_4, .ref ny_4, .int 0, .ref nl_4, .ref nh_4, .int 0, .ref nb_4, .ref no_4, .ref nr_4, .ref nd_4, .ref na_4, .ref ns_4, .ref nf_4, .int 0, .ref np_4, .int 0, .ref nq_4])), (nx_4, .inl (aI, 0, .inl (fun _ => 0))), (nl_4, .inl (aI, 0, .inl (fun _ => 0))), (pl_4, .inr (6, [.ref row_4, .int 0]))]) (q_runV (As := [.int (xs 1)]) (rest := []) ⟨hx, hb, hml, hown, hts⟩ (c_X6_area2 l D aI aL aZ q1 ph_2 nh_2 sh_2 fh_2 ph_2 nh_2 sh_2 le_2 ri_2 wa_2 kf_2 kt_2 ar_2 (xs 1) _) (cwV 1 hts g_L_law_X6_area2_45 rfl rfl rfl (by decide +kernel) ⟨Nat.le_of_ble_eq_true rfl, Nat.le_of_ble_eq_true rfl⟩) hK hN hP hD [0, 7] rfl (by decide) rfl rfl rfl hl.1 rfl (Nat.le_of_ble_eq_true rfl) dL_law_375 ⟨Nat.le_of_ble_eq_true rfl, Nat.le_of_ble_eq_true rfl⟩) hP hD hS hA [0, 7] [1, 2, 3, 4, 5, 6, 8, 9, 10, 11, 12, 13, 14, 15, 16, 17] rfl rfl (by decide) (by decide) (fun r_43 u_43 H locs hw hP hD hS => ?_)
      subst hw
      have hP : va_P D q_cl [(ph_2, .inr (2, [.ref lo_2, .ref hi_2, .int 0])), (lo_2, .inl (aL, 8, .inr (.inl (fun _ => 0)))), (hi_2, .inl (aL, 8, .inr (.inl (fun _ => 0)))), (nh_2, .inr (1, [.ref at__2, .ref dg_2, .int 0])), (at__2, .inl (aL, 16, .inr (.inl (fun _ => 0)))), (dg_2, .inl (aI, 16, .inl (fun _ => 0))), (ri_2, .inl (aI, 9, .inl gr_2)), (wa_2, .inl (aI, 9, .inl gw_2)), (kf_2, .inl (aI, 9, .inl gk_2)), (kt_2, .inl (aI, 9, .inl gt_2)), (q3, .inr (7, [.ref en_4, .int 0, .ref nt_4, .ref pl_4, .int 0])), (en_4, .inl (aI, 6000, .inl (fun _ => 0))), (nt_4, .inr (5, [.ref nx_4, .ref ny_4, .int 0, .ref nl_4, .ref nh_4, .int 0, .ref nb_4, .ref no_4, .ref nr_4, .ref nd_4, .ref na_4, .ref ns_4, .ref nf_4, .int 0, .ref np_4, .int 0, .ref nq_4])), (nx_4, .inl (aI, 0, .inl (fun _ => 0))), (nl_4, .inl (aI, 0, .inl (fun _ => 0))), (pl_4, .inr (6, [.ref row_4, .int 0]))] H := hP
      have hD : va_D (fun q : Nat => s.heap.size ≤ q) [(ph_2, .inr (2, [.ref lo_2, .ref hi_2, .int 0])), (lo_2, .inl (aL, 8, .inr (.inl (fun _ => 0)))), (hi_2, .inl (aL, 8, .inr (.inl (fun _ => 0)))), (nh_2, .inr (1, [.ref at__2, .ref dg_2, .int 0])), (at__2, .inl (aL, 16, .inr (.inl (fun _ => 0)))), (dg_2, .inl (aI, 16, .inl (fun _ => 0))), (ri_2, .inl (aI, 9, .inl gr_2)), (wa_2, .inl (aI, 9, .inl gw_2)), (kf_2, .inl (aI, 9, .inl gk_2)), (kt_2, .inl (aI, 9, .inl gt_2)), (q3, .inr (7, [.ref en_4, .int 0, .ref nt_4, .ref pl_4, .int 0])), (en_4, .inl (aI, 6000, .inl (fun _ => 0))), (nt_4, .inr (5, [.ref nx_4, .ref ny_4, .int 0, .ref nl_4, .ref nh_4, .int 0, .ref nb_4, .ref no_4, .ref nr_4, .ref nd_4, .ref na_4, .ref ns_4, .ref nf_4, .int 0, .ref np_4, .int 0, .ref nq_4])), (nx_4, .inl (aI, 0, .inl (fun _ => 0))), (nl_4, .inl (aI, 0, .inl (fun _ => 0))), (pl_4, .inr (6, [.ref row_4, .int 0]))] := hD
      refine lv_aload_n hx hb dL_law_378 rfl (lv_at hl 1 rfl) ?_
      refine lv_aload_n hx hb dL_law_379 rfl (lv_at hl 3 rfl) ?_
      refine lv_iload_n hx hb dL_law_380 rfl (lv_at hl 0 rfl) ?_
      refine lv_iconst (v := 1) hx hb dL_law_381 (by decide) ?_
      refine lv_iadd hx hb dL_law_382 ?_
      refine q_vi (v := 1) (by decide) ?_
      refine va_sld hx hb hX hbl hbA hS (q_ix 1 (by decide) (by decide) (by omega)) dL_law_383 ?_
      refine q_vi (v := xs 1) rfl ?_
      refine q_l (wr := [(ph_2, .inr (2, [.ref lo_2, .ref hi_2, .int 0])), (lo_2, .inl (aL, 8, .inr (.inl (fun _ => 0)))), (hi_2, .inl (aL, 8, .inr (.inl (fun _ => 0)))), (nh_2, .inr (1, [.ref at__2, .ref dg_2, .int 0])), (at__2, .inl (aL, 16, .inr (.inl (fun _ => 0)))), (dg_2, .inl (aI, 16, .inl (fun _ => 0))), (ri_2, .inl (aI, 9, .inl gr_2)), (wa_2, .inl (aI, 9, .inl gw_2)), (kf_2, .inl (aI, 9, .inl gk_2)), (kt_2, .inl (aI, 9, .inl gt_2)), (en_4, .inl (aI, 6000, .inl (fun _ => 0)))]) (q_runV (As := [.int (xs 1)]) (rest := [.long 0]) ⟨hx, hb, hml, hown, hts⟩ (c_X9_area2 l D aI aL aZ q3 en_4 nt_4 pl_4 row_4 nx_4 ny_4 nl_4 nh_4 nb_4 no_4 nr_4 nd_4 na_4 ns_4 nf_4 np_4 nq_4 (fun _ => 0) (fun _ => 0) (xs 1) _) (cwV 1 hts g_L_law_X9_area2_49 rfl rfl rfl (by decide +kernel) ⟨Nat.le_of_ble_eq_true rfl, Nat.le_of_ble_eq_true rfl⟩) hK hN hP hD [10, 12, 13, 14, 15] rfl (by decide) rfl rfl rfl hl.1 rfl (Nat.le_of_ble_eq_true rfl) dL_law_384 ⟨Nat.le_of_ble_eq_true rfl, Nat.le_of_ble_eq_true rfl⟩) hP hD hS hA [10, 12, 13, 14, 15] [0, 1, 2, 3, 4, 5, 6, 7, 8, 9, 11] rfl rfl (by decide) (by decide) (fun r_44 u_44 H locs hw hP hD hS => ?_)
      subst hw
      have hP : va_P D q_cl [(ph_2, .inr (2, [.ref lo_2, .ref hi_2, .int 0])), (lo_2, .inl (aL, 8, .inr (.inl (fun _ => 0)))), (hi_2, .inl (aL, 8, .inr (.inl (fun _ => 0)))), (nh_2, .inr (1, [.ref at__2, .ref dg_2, .int 0])), (at__2, .inl (aL, 16, .inr (.inl (fun _ => 0)))), (dg_2, .inl (aI, 16, .inl (fun _ => 0))), (ri_2, .inl (aI, 9, .inl gr_2)), (wa_2, .inl (aI, 9, .inl gw_2)), (kf_2, .inl (aI, 9, .inl gk_2)), (kt_2, .inl (aI, 9, .inl gt_2)), (en_4, .inl (aI, 6000, .inl (fun _ => 0)))] H := hP
      have hD : va_D (fun q : Nat => s.heap.size ≤ q) [(ph_2, .inr (2, [.ref lo_2, .ref hi_2, .int 0])), (lo_2, .inl (aL, 8, .inr (.inl (fun _ => 0)))), (hi_2, .inl (aL, 8, .inr (.inl (fun _ => 0)))), (nh_2, .inr (1, [.ref at__2, .ref dg_2, .int 0])), (at__2, .inl (aL, 16, .inr (.inl (fun _ => 0)))), (dg_2, .inl (aI, 16, .inl (fun _ => 0))), (ri_2, .inl (aI, 9, .inl gr_2)), (wa_2, .inl (aI, 9, .inl gw_2)), (kf_2, .inl (aI, 9, .inl gk_2)), (kt_2, .inl (aI, 9, .inl gt_2)), (en_4, .inl (aI, 6000, .inl (fun _ => 0)))] := hD
      refine W.lcmp hx hb dL_law_387 ?_
      refine q_vi (v := 0) (by decide) ?_
      refine lv_if_eq (tgt := 459) hx hb dL_law_388 (by decide) (fun c_45 => ?_) (fun c_45 => ?_)
      · refine lv_iinc (v := 5) (lv' := [(3, .int 5), (2, .ref q3), (1, .ref q1), (0, .ref b)]) hx hb dL_law_459 hl (k := 0) rfl (by decide) (by decide) rfl (fun ls hl => ?_)
        refine lv_goto (tgt := 18) hx hb dL_law_462 (by decide) ?_
        refine lv_iload_n hx hb dL_law_18 rfl (lv_at hl 0 rfl) ?_
        refine lv_aload_n hx hb dL_law_19 rfl (lv_at hl 3 rfl) ?_
        refine va_slen hx hb hX hbl hbA hS dL_law_20 ?_
        refine lv_iconst (v := 5) hx hb dL_law_21 (by decide) ?_
        refine lv_isub hx hb dL_law_22 ?_
        refine lv_icmp_gt (tgt := 465) hx hb dL_law_23 (by decide) (fun c_46 => ?_) (fun c_46 => ?_)
        · refine lv_iconst (v := 1) hx hb dL_law_465 (by decide) ?_
          refine va_forget (fun q hq => hS.2.2 q hq) ?_
          refine W.widen (k := 600000) (n := 7302250) (Nat.le_of_ble_eq_true rfl) (Nat.le_of_ble_eq_true rfl) ?_
          exact lw_ret hx hb hr hlocks dL_law_466
        · exact absurd (by rw [hL5]; decide) c_46
      · exact absurd c_45 (by decide)
    by_cases w_47 : k6 = 8
    · subst w_47
      refine lv_tableIn (tgt := 393) hx hb dL_law_32 (by decide) (by decide) rfl (by decide) ?_
      refine lv_aload_n hx hb dL_law_393 rfl (lv_at hl 2 rfl) ?_
      refine lv_aload_n hx hb dL_law_394 rfl (lv_at hl 3 rfl) ?_
      refine lv_iload_n hx hb dL_law_395 rfl (lv_at hl 0 rfl) ?_
      refine lv_iconst (v := 1) hx hb dL_law_396 (by decide) ?_
      refine lv_iadd hx hb dL_law_397 ?_
      refine q_vi (v := 1) (by decide) ?_
      refine va_sld hx hb hX hbl hbA hS (q_ix 1 (by decide) (by decide) (by omega)) dL_law_398 ?_
      refine q_vi (v := xs 1) rfl ?_
      refine lv_aload_n hx hb dL_law_399 rfl (lv_at hl 3 rfl) ?_
      refine lv_iload_n hx hb dL_law_400 rfl (lv_at hl 0 rfl) ?_
      refine lv_iconst (v := 2) hx hb dL_law_401 (by decide) ?_
      refine lv_iadd hx hb dL_law_402 ?_
      refine q_vi (v := 2) (by decide) ?_
      refine va_sld hx hb hX hbl hbA hS (q_ix 2 (by decide) (by decide) (by omega)) dL_law_403 ?_
      refine q_vi (v := xs 2) rfl ?_
      refine q_i (wr := [(lo_2, .inl (aL, 8, .inr (.inl (fun _ => 0)))), (hi_2, .inl (aL, 8, .inr (.inl (fun _ => 0)))), (nh_2, .inr (1, [.ref at__2, .ref dg_2, .int 0])), (at__2, .inl (aL, 16, .inr (.inl (fun _ => 0)))), (dg_2, .inl (aI, 16, .inl (fun _ => 0))), (ri_2, .inl (aI, 9, .inl gr_2)), (wa_2, .inl (aI, 9, .inl gw_2)), (kf_2, .inl (aI, 9, .inl gk_2)), (kt_2, .inl (aI, 9, .inl gt_2)), (q3, .inr (7, [.ref en_4, .int 0, .ref nt_4, .ref pl_4, .int 0])), (en_4, .inl (aI, 6000, .inl (fun _ => 0))), (nt_4, .inr (5, [.ref nx_4, .ref ny_4, .int 0, .ref nl_4, .ref nh_4, .int 0, .ref nb_4, .ref no_4, .ref nr_4, .ref nd_4, .ref na_4, .ref ns_4, .ref nf_4, .int 0, .ref np_4, .int 0, .ref nq_4])), (nx_4, .inl (aI, 0, .inl (fun _ => 0))), (nl_4, .inl (aI, 0, .inl (fun _ => 0))), (pl_4, .inr (6, [.ref row_4, .int 0]))]) (q_runV (As := [.int (xs 1), .int (xs 2)]) (rest := []) ⟨hx, hb, hml, hown, hts⟩ (c_X6_locate l D aI aL aZ q1 ph_2 nh_2 sh_2 fh_2 lo_2 hi_2 ph_2 nh_2 sh_2 le_2 ri_2 wa_2 kf_2 kt_2 ar_2 (xs 1) (xs 2) _) (cwV 2 hts g_L_law_X6_locate_50 rfl rfl rfl (by decide +kernel) ⟨Nat.le_of_ble_eq_true rfl, Nat.le_of_ble_eq_true rfl⟩) hK hN hP hD [0, 1, 7] rfl (by decide) rfl rfl rfl hl.1 rfl (Nat.le_of_ble_eq_true rfl) dL_law_404 ⟨Nat.le_of_ble_eq_true rfl, Nat.le_of_ble_eq_true rfl⟩) hP hD hS hA [0, 1, 7] [2, 3, 4, 5, 6, 8, 9, 10, 11, 12, 13, 14, 15, 16, 17] rfl rfl (by decide) (by decide) (fun r_48 u_48 H locs hw hP hD hS => ?_)
      subst hw
      have hP : va_P D q_cl [(lo_2, .inl (aL, 8, .inr (.inl (fun _ => 0)))), (hi_2, .inl (aL, 8, .inr (.inl (fun _ => 0)))), (nh_2, .inr (1, [.ref at__2, .ref dg_2, .int 0])), (at__2, .inl (aL, 16, .inr (.inl (fun _ => 0)))), (dg_2, .inl (aI, 16, .inl (fun _ => 0))), (ri_2, .inl (aI, 9, .inl gr_2)), (wa_2, .inl (aI, 9, .inl gw_2)), (kf_2, .inl (aI, 9, .inl gk_2)), (kt_2, .inl (aI, 9, .inl gt_2)), (q3, .inr (7, [.ref en_4, .int 0, .ref nt_4, .ref pl_4, .int 0])), (en_4, .inl (aI, 6000, .inl (fun _ => 0))), (nt_4, .inr (5, [.ref nx_4, .ref ny_4, .int 0, .ref nl_4, .ref nh_4, .int 0, .ref nb_4, .ref no_4, .ref nr_4, .ref nd_4, .ref na_4, .ref ns_4, .ref nf_4, .int 0, .ref np_4, .int 0, .ref nq_4])), (nx_4, .inl (aI, 0, .inl (fun _ => 0))), (nl_4, .inl (aI, 0, .inl (fun _ => 0))), (pl_4, .inr (6, [.ref row_4, .int 0]))] H := hP
      have hD : va_D (fun q : Nat => s.heap.size ≤ q) [(lo_2, .inl (aL, 8, .inr (.inl (fun _ => 0)))), (hi_2, .inl (aL, 8, .inr (.inl (fun _ => 0)))), (nh_2, .inr (1, [.ref at__2, .ref dg_2, .int 0])), (at__2, .inl (aL, 16, .inr (.inl (fun _ => 0)))), (dg_2, .inl (aI, 16, .inl (fun _ => 0))), (ri_2, .inl (aI, 9, .inl gr_2)), (wa_2, .inl (aI, 9, .inl gw_2)), (kf_2, .inl (aI, 9, .inl gk_2)), (kt_2, .inl (aI, 9, .inl gt_2)), (q3, .inr (7, [.ref en_4, .int 0, .ref nt_4, .ref pl_4, .int 0])), (en_4, .inl (aI, 6000, .inl (fun _ => 0))), (nt_4, .inr (5, [.ref nx_4, .ref ny_4, .int 0, .ref nl_4, .ref nh_4, .int 0, .ref nb_4, .ref no_4, .ref nr_4, .ref nd_4, .ref na_4, .ref ns_4, .ref nf_4, .int 0, .ref np_4, .int 0, .ref nq_4])), (nx_4, .inl (aI, 0, .inl (fun _ => 0))), (nl_4, .inl (aI, 0, .inl (fun _ => 0))), (pl_4, .inr (6, [.ref row_4, .int 0]))] := hD
      refine lv_aload_n hx hb dL_law_407 rfl (lv_at hl 1 rfl) ?_
      refine lv_aload_n hx hb dL_law_408 rfl (lv_at hl 3 rfl) ?_
      refine lv_iload_n hx hb dL_law_409 rfl (lv_at hl 0 rfl) ?_
      refine lv_iconst (v := 1) hx hb dL_law_410 (by decide) ?_
      refine lv_iadd hx hb dL_law_411 ?_
      refine q_vi (v := 1) (by decide) ?_
      refine va_sld hx hb hX hbl hbA hS (q_ix 1 (by decide) (by decide) (by omega)) dL_law_412 ?_
      refine q_vi (v := xs 1) rfl ?_
      refine lv_aload_n hx hb dL_law_413 rfl (lv_at hl 3 rfl) ?_
      refine lv_iload_n hx hb dL_law_414 rfl (lv_at hl 0 rfl) ?_
      refine lv_iconst (v := 2) hx hb dL_law_415 (by decide) ?_
      refine lv_iadd hx hb dL_law_416 ?_
      refine q_vi (v := 2) (by decide) ?_
      refine va_sld hx hb hX hbl hbA hS (q_ix 2 (by decide) (by decide) (by omega)) dL_law_417 ?_
      refine q_vi (v := xs 2) rfl ?_
      refine q_i (wr := [(lo_2, .inl (aL, 8, .inr (.inl (fun _ => 0)))), (hi_2, .inl (aL, 8, .inr (.inl (fun _ => 0)))), (nh_2, .inr (1, [.ref at__2, .ref dg_2, .int 0])), (at__2, .inl (aL, 16, .inr (.inl (fun _ => 0)))), (dg_2, .inl (aI, 16, .inl (fun _ => 0))), (ri_2, .inl (aI, 9, .inl gr_2)), (wa_2, .inl (aI, 9, .inl gw_2)), (kf_2, .inl (aI, 9, .inl gk_2)), (kt_2, .inl (aI, 9, .inl gt_2)), (en_4, .inl (aI, 6000, .inl (fun _ => 0)))]) (q_runV (As := [.int (xs 1), .int (xs 2)]) (rest := [.int 0]) ⟨hx, hb, hml, hown, hts⟩ (c_X9_locate l D aI aL aZ q3 en_4 nt_4 pl_4 row_4 nx_4 ny_4 nl_4 nh_4 nb_4 no_4 nr_4 nd_4 na_4 ns_4 nf_4 np_4 nq_4 (fun _ => 0) (fun _ => 0) (xs 1) (xs 2) _) (cwV 2 hts g_L_law_X9_locate_53 rfl rfl rfl (by decide +kernel) ⟨Nat.le_of_ble_eq_true rfl, Nat.le_of_ble_eq_true rfl⟩) hK hN hP hD [9, 11, 12, 13, 14] rfl (by decide) rfl rfl rfl hl.1 rfl (Nat.le_of_ble_eq_true rfl) dL_law_418 ⟨Nat.le_of_ble_eq_true rfl, Nat.le_of_ble_eq_true rfl⟩) hP hD hS hA [9, 11, 12, 13, 14] [0, 1, 2, 3, 4, 5, 6, 7, 8, 10] rfl rfl (by decide) (by decide) (fun r_49 u_49 H locs hw hP hD hS => ?_)
      subst hw
      have hP : va_P D q_cl [(lo_2, .inl (aL, 8, .inr (.inl (fun _ => 0)))), (hi_2, .inl (aL, 8, .inr (.inl (fun _ => 0)))), (nh_2, .inr (1, [.ref at__2, .ref dg_2, .int 0])), (at__2, .inl (aL, 16, .inr (.inl (fun _ => 0)))), (dg_2, .inl (aI, 16, .inl (fun _ => 0))), (ri_2, .inl (aI, 9, .inl gr_2)), (wa_2, .inl (aI, 9, .inl gw_2)), (kf_2, .inl (aI, 9, .inl gk_2)), (kt_2, .inl (aI, 9, .inl gt_2)), (en_4, .inl (aI, 6000, .inl (fun _ => 0)))] H := hP
      have hD : va_D (fun q : Nat => s.heap.size ≤ q) [(lo_2, .inl (aL, 8, .inr (.inl (fun _ => 0)))), (hi_2, .inl (aL, 8, .inr (.inl (fun _ => 0)))), (nh_2, .inr (1, [.ref at__2, .ref dg_2, .int 0])), (at__2, .inl (aL, 16, .inr (.inl (fun _ => 0)))), (dg_2, .inl (aI, 16, .inl (fun _ => 0))), (ri_2, .inl (aI, 9, .inl gr_2)), (wa_2, .inl (aI, 9, .inl gw_2)), (kf_2, .inl (aI, 9, .inl gk_2)), (kt_2, .inl (aI, 9, .inl gt_2)), (en_4, .inl (aI, 6000, .inl (fun _ => 0)))] := hD
      refine lv_icmp_eq (tgt := 459) hx hb dL_law_421 (by decide) (fun c_50 => ?_) (fun c_50 => ?_)
      · refine lv_iinc (v := 5) (lv' := [(3, .int 5), (2, .ref q3), (1, .ref q1), (0, .ref b)]) hx hb dL_law_459 hl (k := 0) rfl (by decide) (by decide) rfl (fun ls hl => ?_)
        refine lv_goto (tgt := 18) hx hb dL_law_462 (by decide) ?_
        refine lv_iload_n hx hb dL_law_18 rfl (lv_at hl 0 rfl) ?_
        refine lv_aload_n hx hb dL_law_19 rfl (lv_at hl 3 rfl) ?_
        refine va_slen hx hb hX hbl hbA hS dL_law_20 ?_
        refine lv_iconst (v := 5) hx hb dL_law_21 (by decide) ?_
        refine lv_isub hx hb dL_law_22 ?_
        refine lv_icmp_gt (tgt := 465) hx hb dL_law_23 (by decide) (fun c_51 => ?_) (fun c_51 => ?_)
        · refine lv_iconst (v := 1) hx hb dL_law_465 (by decide) ?_
          refine va_forget (fun q hq => hS.2.2 q hq) ?_
          refine W.widen (k := 600000) (n := 7302250) (Nat.le_of_ble_eq_true rfl) (Nat.le_of_ble_eq_true rfl) ?_
          exact lw_ret hx hb hr hlocks dL_law_466
        · exact absurd (by rw [hL5]; decide) c_51
      · exact absurd c_50 (by decide)
    by_cases w_52 : k6 = 9
    · subst w_52
      refine lv_tableIn (tgt := 426) hx hb dL_law_32 (by decide) (by decide) rfl (by decide) ?_
      refine lv_aload_n hx hb dL_law_426 rfl (lv_at hl 2 rfl) ?_
      refine lv_aload_n hx hb dL_law_427 rfl (lv_at hl 3 rfl) ?_
      refine lv_iload_n hx hb dL_law_428 rfl (lv_at hl 0 rfl) ?_
      refine lv_iconst (v := 1) hx hb dL_law_429 (by decide) ?_
      refine lv_iadd hx hb dL_law_430 ?_
      refine q_vi (v := 1) (by decide) ?_
      refine va_sld hx hb hX hbl hbA hS (q_ix 1 (by decide) (by decide) (by omega)) dL_law_431 ?_
      refine q_vi (v := xs 1) rfl ?_
      refine lv_aload_n hx hb dL_law_432 rfl (lv_at hl 3 rfl) ?_
      refine lv_iload_n hx hb dL_law_433 rfl (lv_at hl 0 rfl) ?_
      refine lv_iconst (v := 2) hx hb dL_law_434 (by decide) ?_
      refine lv_iadd hx hb dL_law_435 ?_
      refine q_vi (v := 2) (by decide) ?_
      refine va_sld hx hb hX hbl hbA hS (q_ix 2 (by decide) (by decide) (by omega)) dL_law_436 ?_
      refine q_vi (v := xs 2) rfl ?_
      refine q_i (wr := [(lo_2, .inl (aL, 8, .inr (.inl (fun _ => 0)))), (hi_2, .inl (aL, 8, .inr (.inl (fun _ => 0)))), (nh_2, .inr (1, [.ref at__2, .ref dg_2, .int 0])), (at__2, .inl (aL, 16, .inr (.inl (fun _ => 0)))), (dg_2, .inl (aI, 16, .inl (fun _ => 0))), (ri_2, .inl (aI, 9, .inl gr_2)), (wa_2, .inl (aI, 9, .inl gw_2)), (kf_2, .inl (aI, 9, .inl gk_2)), (kt_2, .inl (aI, 9, .inl gt_2)), (q3, .inr (7, [.ref en_4, .int 0, .ref nt_4, .ref pl_4, .int 0])), (en_4, .inl (aI, 6000, .inl (fun _ => 0))), (nt_4, .inr (5, [.ref nx_4, .ref ny_4, .int 0, .ref nl_4, .ref nh_4, .int 0, .ref nb_4, .ref no_4, .ref nr_4, .ref nd_4, .ref na_4, .ref ns_4, .ref nf_4, .int 0, .ref np_4, .int 0, .ref nq_4])), (nx_4, .inl (aI, 0, .inl (fun _ => 0))), (nl_4, .inl (aI, 0, .inl (fun _ => 0))), (pl_4, .inr (6, [.ref row_4, .int 0]))]) (q_runV (As := [.int (xs 1), .int (xs 2)]) (rest := []) ⟨hx, hb, hml, hown, hts⟩ (c_X6_between l D aI aL aZ q1 ph_2 nh_2 sh_2 fh_2 lo_2 hi_2 nh_2 sh_2 le_2 ri_2 wa_2 kf_2 kt_2 ar_2 (xs 1) (xs 2) _) (cwV 2 hts g_L_law_X6_between_54 rfl rfl rfl (by decide +kernel) ⟨Nat.le_of_ble_eq_true rfl, Nat.le_of_ble_eq_true rfl⟩) hK hN hP hD [0, 7, 1] rfl (by decide) rfl rfl rfl hl.1 rfl (Nat.le_of_ble_eq_true rfl) dL_law_437 ⟨Nat.le_of_ble_eq_true rfl, Nat.le_of_ble_eq_true rfl⟩) hP hD hS hA [0, 7, 1] [2, 3, 4, 5, 6, 8, 9, 10, 11, 12, 13, 14, 15, 16, 17] rfl rfl (by decide) (by decide) (fun r_53 u_53 H locs hw hP hD hS => ?_)
      subst hw
      have hP : va_P D q_cl [(lo_2, .inl (aL, 8, .inr (.inl (fun _ => 0)))), (hi_2, .inl (aL, 8, .inr (.inl (fun _ => 0)))), (nh_2, .inr (1, [.ref at__2, .ref dg_2, .int 0])), (at__2, .inl (aL, 16, .inr (.inl (fun _ => 0)))), (dg_2, .inl (aI, 16, .inl (fun _ => 0))), (ri_2, .inl (aI, 9, .inl gr_2)), (wa_2, .inl (aI, 9, .inl gw_2)), (kf_2, .inl (aI, 9, .inl gk_2)), (kt_2, .inl (aI, 9, .inl gt_2)), (q3, .inr (7, [.ref en_4, .int 0, .ref nt_4, .ref pl_4, .int 0])), (en_4, .inl (aI, 6000, .inl (fun _ => 0))), (nt_4, .inr (5, [.ref nx_4, .ref ny_4, .int 0, .ref nl_4, .ref nh_4, .int 0, .ref nb_4, .ref no_4, .ref nr_4, .ref nd_4, .ref na_4, .ref ns_4, .ref nf_4, .int 0, .ref np_4, .int 0, .ref nq_4])), (nx_4, .inl (aI, 0, .inl (fun _ => 0))), (nl_4, .inl (aI, 0, .inl (fun _ => 0))), (pl_4, .inr (6, [.ref row_4, .int 0]))] H := hP
      have hD : va_D (fun q : Nat => s.heap.size ≤ q) [(lo_2, .inl (aL, 8, .inr (.inl (fun _ => 0)))), (hi_2, .inl (aL, 8, .inr (.inl (fun _ => 0)))), (nh_2, .inr (1, [.ref at__2, .ref dg_2, .int 0])), (at__2, .inl (aL, 16, .inr (.inl (fun _ => 0)))), (dg_2, .inl (aI, 16, .inl (fun _ => 0))), (ri_2, .inl (aI, 9, .inl gr_2)), (wa_2, .inl (aI, 9, .inl gw_2)), (kf_2, .inl (aI, 9, .inl gk_2)), (kt_2, .inl (aI, 9, .inl gt_2)), (q3, .inr (7, [.ref en_4, .int 0, .ref nt_4, .ref pl_4, .int 0])), (en_4, .inl (aI, 6000, .inl (fun _ => 0))), (nt_4, .inr (5, [.ref nx_4, .ref ny_4, .int 0, .ref nl_4, .ref nh_4, .int 0, .ref nb_4, .ref no_4, .ref nr_4, .ref nd_4, .ref na_4, .ref ns_4, .ref nf_4, .int 0, .ref np_4, .int 0, .ref nq_4])), (nx_4, .inl (aI, 0, .inl (fun _ => 0))), (nl_4, .inl (aI, 0, .inl (fun _ => 0))), (pl_4, .inr (6, [.ref row_4, .int 0]))] := hD
      refine lv_aload_n hx hb dL_law_440 rfl (lv_at hl 1 rfl) ?_
      refine lv_aload_n hx hb dL_law_441 rfl (lv_at hl 3 rfl) ?_
      refine lv_iload_n hx hb dL_law_442 rfl (lv_at hl 0 rfl) ?_
      refine lv_iconst (v := 1) hx hb dL_law_443 (by decide) ?_
      refine lv_iadd hx hb dL_law_444 ?_
      refine q_vi (v := 1) (by decide) ?_
      refine va_sld hx hb hX hbl hbA hS (q_ix 1 (by decide) (by decide) (by omega)) dL_law_445 ?_
      refine q_vi (v := xs 1) rfl ?_
      refine lv_aload_n hx hb dL_law_446 rfl (lv_at hl 3 rfl) ?_
      refine lv_iload_n hx hb dL_law_447 rfl (lv_at hl 0 rfl) ?_
      refine lv_iconst (v := 2) hx hb dL_law_448 (by decide) ?_
      refine lv_iadd hx hb dL_law_449 ?_
      refine q_vi (v := 2) (by decide) ?_
      refine va_sld hx hb hX hbl hbA hS (q_ix 2 (by decide) (by decide) (by omega)) dL_law_450 ?_
      refine q_vi (v := xs 2) rfl ?_
      refine q_i (wr := [(lo_2, .inl (aL, 8, .inr (.inl (fun _ => 0)))), (hi_2, .inl (aL, 8, .inr (.inl (fun _ => 0)))), (nh_2, .inr (1, [.ref at__2, .ref dg_2, .int 0])), (at__2, .inl (aL, 16, .inr (.inl (fun _ => 0)))), (dg_2, .inl (aI, 16, .inl (fun _ => 0))), (ri_2, .inl (aI, 9, .inl gr_2)), (wa_2, .inl (aI, 9, .inl gw_2)), (kf_2, .inl (aI, 9, .inl gk_2)), (kt_2, .inl (aI, 9, .inl gt_2)), (en_4, .inl (aI, 6000, .inl (fun _ => 0)))]) (q_runV (As := [.int (xs 1), .int (xs 2)]) (rest := [.int (btw (xs 1) (xs 2))]) ⟨hx, hb, hml, hown, hts⟩ (c_X9_between l D aI aL aZ q3 en_4 nt_4 pl_4 row_4 nx_4 ny_4 nl_4 nh_4 nb_4 no_4 nr_4 nd_4 na_4 ns_4 nf_4 np_4 nq_4 (fun _ => 0) (fun _ => 0) (xs 1) (xs 2) _) (cwV 2 hts g_L_law_X9_between_57 rfl rfl rfl (by decide +kernel) ⟨Nat.le_of_ble_eq_true rfl, Nat.le_of_ble_eq_true rfl⟩) hK hN hP hD [9, 11, 12, 13, 14] rfl (by decide) rfl rfl rfl hl.1 rfl (Nat.le_of_ble_eq_true rfl) dL_law_451 ⟨Nat.le_of_ble_eq_true rfl, Nat.le_of_ble_eq_true rfl⟩) hP hD hS hA [9, 11, 12, 13, 14] [0, 1, 2, 3, 4, 5, 6, 7, 8, 10] rfl rfl (by decide) (by decide) (fun r_54 u_54 H locs hw hP hD hS => ?_)
      subst hw
      have hP : va_P D q_cl [(lo_2, .inl (aL, 8, .inr (.inl (fun _ => 0)))), (hi_2, .inl (aL, 8, .inr (.inl (fun _ => 0)))), (nh_2, .inr (1, [.ref at__2, .ref dg_2, .int 0])), (at__2, .inl (aL, 16, .inr (.inl (fun _ => 0)))), (dg_2, .inl (aI, 16, .inl (fun _ => 0))), (ri_2, .inl (aI, 9, .inl gr_2)), (wa_2, .inl (aI, 9, .inl gw_2)), (kf_2, .inl (aI, 9, .inl gk_2)), (kt_2, .inl (aI, 9, .inl gt_2)), (en_4, .inl (aI, 6000, .inl (fun _ => 0)))] H := hP
      have hD : va_D (fun q : Nat => s.heap.size ≤ q) [(lo_2, .inl (aL, 8, .inr (.inl (fun _ => 0)))), (hi_2, .inl (aL, 8, .inr (.inl (fun _ => 0)))), (nh_2, .inr (1, [.ref at__2, .ref dg_2, .int 0])), (at__2, .inl (aL, 16, .inr (.inl (fun _ => 0)))), (dg_2, .inl (aI, 16, .inl (fun _ => 0))), (ri_2, .inl (aI, 9, .inl gr_2)), (wa_2, .inl (aI, 9, .inl gw_2)), (kf_2, .inl (aI, 9, .inl gk_2)), (kt_2, .inl (aI, 9, .inl gt_2)), (en_4, .inl (aI, 6000, .inl (fun _ => 0)))] := hD
      refine lv_icmp_eq (tgt := 459) hx hb dL_law_454 (by decide) (fun c_55 => ?_) (fun c_55 => ?_)
      · refine lv_iinc (v := 5) (lv' := [(3, .int 5), (2, .ref q3), (1, .ref q1), (0, .ref b)]) hx hb dL_law_459 hl (k := 0) rfl (by decide) (by decide) rfl (fun ls hl => ?_)
        refine lv_goto (tgt := 18) hx hb dL_law_462 (by decide) ?_
        refine lv_iload_n hx hb dL_law_18 rfl (lv_at hl 0 rfl) ?_
        refine lv_aload_n hx hb dL_law_19 rfl (lv_at hl 3 rfl) ?_
        refine va_slen hx hb hX hbl hbA hS dL_law_20 ?_
        refine lv_iconst (v := 5) hx hb dL_law_21 (by decide) ?_
        refine lv_isub hx hb dL_law_22 ?_
        refine lv_icmp_gt (tgt := 465) hx hb dL_law_23 (by decide) (fun c_56 => ?_) (fun c_56 => ?_)
        · refine lv_iconst (v := 1) hx hb dL_law_465 (by decide) ?_
          refine va_forget (fun q hq => hS.2.2 q hq) ?_
          refine W.widen (k := 600000) (n := 7302250) (Nat.le_of_ble_eq_true rfl) (Nat.le_of_ble_eq_true rfl) ?_
          exact lw_ret hx hb hr hlocks dL_law_466
        · exact absurd (by rw [hL5]; decide) c_56
      · exact absurd rfl c_55
    refine lv_tableOut (tgt := 459) hx hb dL_law_32 (q_sw9 w_7 w_12 w_17 w_22 w_27 w_32 w_37 w_42 w_47 w_52) (by decide) ?_
    refine lv_iinc (v := 5) (lv' := [(3, .int 5), (2, .ref q3), (1, .ref q1), (0, .ref b)]) hx hb dL_law_459 hl (k := 0) rfl (by decide) (by decide) rfl (fun ls hl => ?_)
    refine lv_goto (tgt := 18) hx hb dL_law_462 (by decide) ?_
    refine lv_iload_n hx hb dL_law_18 rfl (lv_at hl 0 rfl) ?_
    refine lv_aload_n hx hb dL_law_19 rfl (lv_at hl 3 rfl) ?_
    refine va_slen hx hb hX hbl hbA hS dL_law_20 ?_
    refine lv_iconst (v := 5) hx hb dL_law_21 (by decide) ?_
    refine lv_isub hx hb dL_law_22 ?_
    refine lv_icmp_gt (tgt := 465) hx hb dL_law_23 (by decide) (fun c_57 => ?_) (fun c_57 => ?_)
    · refine lv_iconst (v := 1) hx hb dL_law_465 (by decide) ?_
      refine va_forget (fun q hq => hS.2.2 q hq) ?_
      refine W.widen (k := 600000) (n := 7302250) (Nat.le_of_ble_eq_true rfl) (Nat.le_of_ble_eq_true rfl) ?_
      exact lw_ret hx hb hr hlocks dL_law_466
    · exact absurd (by rw [hL5]; decide) c_57
