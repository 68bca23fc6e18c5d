/-! MY OWN: what the calls answer on a fresh object, as plain functions; a place in one long -/
abbrev inB (x y : Int32) : Prop := ¬ x < (-500000) ∧ ¬ 500000 < x ∧ ¬ y < (-500000) ∧ ¬ 500000 < y
def plc (x y : Int32) : Int64 := ((x + 500000).toInt64 <<< ((20 : Int32).toInt64 &&& 63)) ||| (y + 500000).toInt64
def joi (x1 y1 x2 y2 : Int32) : Int32 := if inB x1 y1 ∧ inB x2 y2 ∧ ¬ (x1 = x2 ∧ y1 = y2) then 1 else -1
def cnt (x : Int32) : Int32 := if x = 2 then 1 else if x = 0 ∨ x = 1 ∨ x = 3 then 0 else -1
def fac (x y : Int32) : Int32 := if x = 0 ∧ (y = 0 ∨ y = 1) then 0 else -1
def btw (x y : Int32) : Int32 := if x = 0 ∧ y = 0 then 0 else -1
def cmp4 (x1 y1 x2 y2 : Int32) : Int32 := if x1 = x2 then (if y1 = y2 then 0 else if y1 < y2 then -1 else 1) else if x1 < x2 then -1 else 1
theorem wb_tb (n : Nat) : (lN n).toBitVec = BitVec.ofNat 64 n := rfl
theorem wb_inj {a b : Int64} (h : a.toBitVec = b.toBitVec) : a = b := Int64.toBitVec_inj.mp h
theorem wb_c : ∀ k, k < 64 → ((nI k).toInt64 &&& 63) = lN k := by decide +kernel
theorem wb_sm : ∀ k, k < 64 → (BitVec.ofNat 64 k).smod 64 = BitVec.ofNat 64 k := by decide +kernel
theorem wb_shl (n : Nat) {k : Nat} (hk : k < 64) : lN n <<< ((nI k).toInt64 &&& 63) = lN (n * 2 ^ k) := by
  rw [wb_c k hk]
  apply wb_inj
  rw [Int64.toBitVec_shiftLeft, wb_tb, wb_tb, wb_tb, wb_sm k hk]
  apply BitVec.eq_of_toNat_eq
  rw [BitVec.shiftLeft_eq', BitVec.toNat_shiftLeft, BitVec.toNat_ofNat, BitVec.toNat_ofNat, BitVec.toNat_ofNat, Nat.mod_eq_of_lt (show k < 2 ^ 64 by omega), Nat.shiftLeft_eq, Nat.mul_mod, Nat.mod_mod, ← Nat.mul_mod]
theorem wb_or {a b : Nat} (ha : a < 2 ^ 64) (hb : b < 2 ^ 64) : lN a ||| lN b = lN (a ||| b) := by
  apply wb_inj
  rw [Int64.toBitVec_or, wb_tb, wb_tb, wb_tb]
  apply BitVec.eq_of_toNat_eq
  rw [BitVec.toNat_or, BitVec.toNat_ofNat, BitVec.toNat_ofNat, BitVec.toNat_ofNat, Nat.mod_eq_of_lt ha, Nat.mod_eq_of_lt hb, Nat.mod_eq_of_lt (Nat.or_lt_two_pow ha hb)]
theorem ii_lt {x y : Int32} : x < y ↔ x.toInt < y.toInt := Int32.lt_iff_toInt_lt
theorem pl_of {x : Int32} (h1 : ¬ x < (-500000)) (h2 : ¬ 500000 < x) : ∃ a : Nat, a ≤ 1000000 ∧ x + 500000 = nI a ∧ x.toInt = (a : Int) - 500000 := by
  rw [ii_lt] at h1 h2
  have e1 : ((-500000 : Int32)).toInt = -500000 := by decide
  have e2 : ((500000 : Int32)).toInt = 500000 := by decide
  rw [e1] at h1
  rw [e2] at h2
  refine ⟨(x.toInt + 500000).toNat, by omega, ?_, by omega⟩
  apply Int32.toInt_inj.mp
  rw [nI_toInt (by omega), Int32.toInt_add, e2, Int.bmod_def]
  split <;> omega
theorem plc_eq {x y : Int32} (h : inB x y) : ∃ a b : Nat, a ≤ 1000000 ∧ b ≤ 1000000 ∧ plc x y = lN (a * 2 ^ 20 + b) ∧ x.toInt = (a : Int) - 500000 ∧ y.toInt = (b : Int) - 500000 := by
  obtain ⟨h1, h2, h3, h4⟩ := h
  obtain ⟨a, ha, ea, ia⟩ := pl_of h1 h2
  obtain ⟨b, hb, eb, ib⟩ := pl_of h3 h4
  refine ⟨a, b, ha, hb, ?_, ia, ib⟩
  unfold plc
  rw [ea, eb, nI_l (by omega), nI_l (by omega)]
  have e := wb_shl a (k := 20) (by decide)
  have e0 : (nI 20).toInt64 = (20 : Int32).toInt64 := rfl
  rw [e0] at e
  rw [e, wb_or (by omega) (by omega)]
  congr 1
  rw [← Nat.shiftLeft_eq, ← Nat.shiftLeft_add_eq_or_of_lt (by omega)]
theorem plc_inj {x1 y1 x2 y2 : Int32} (h1 : inB x1 y1) (h2 : inB x2 y2) (h : plc x1 y1 = plc x2 y2) : x1 = x2 ∧ y1 = y2 := by
  obtain ⟨a, b, ha, hb, e1, i1, j1⟩ := plc_eq h1
  obtain ⟨a', b', ha', hb', e2, i2, j2⟩ := plc_eq h2
  rw [e1, e2, pk_lEQ (by omega) (by omega)] at h
  exact ⟨Int32.toInt_inj.mp (by omega), Int32.toInt_inj.mp (by omega)⟩
theorem joi_n1 {x1 y1 x2 y2 : Int32} (h : ¬ inB x1 y1) : -1 = joi x1 y1 x2 y2 := by
  unfold joi; rw [if_neg (fun q => h q.1)]
theorem joi_n2 {x1 y1 x2 y2 : Int32} (h : ¬ inB x2 y2) : -1 = joi x1 y1 x2 y2 := by
  unfold joi; rw [if_neg (fun q => h q.2.1)]
theorem joi_e {x1 y1 x2 y2 : Int32} (h : x1 = x2) (k : y1 = y2) : -1 = joi x1 y1 x2 y2 := by
  unfold joi; rw [if_neg (fun q => q.2.2 ⟨h, k⟩)]
theorem joi_x {x1 y1 x2 y2 : Int32} (h1 : inB x1 y1) (h2 : inB x2 y2) (h : ¬ x1 = x2) : 1 = joi x1 y1 x2 y2 := by
  unfold joi; rw [if_pos ⟨h1, h2, fun q => h q.1⟩]
theorem joi_y {x1 y1 x2 y2 : Int32} (h1 : inB x1 y1) (h2 : inB x2 y2) (h : ¬ y1 = y2) : 1 = joi x1 y1 x2 y2 := by
  unfold joi; rw [if_pos ⟨h1, h2, fun q => h q.2⟩]
theorem joi_eq {x1 y1 x2 y2 : Int32} (h1 : inB x1 y1) (h2 : inB x2 y2) (h : lg_cmp (plc x1 y1) (plc x2 y2) = 0) : -1 = joi x1 y1 x2 y2 := by
  obtain ⟨e1, e2⟩ := plc_inj h1 h2 ((lg_cmp_eq _ _).mp h)
  exact joi_e e1 e2
theorem joi_ne {x1 y1 x2 y2 : Int32} (h1 : inB x1 y1) (h2 : inB x2 y2) (h : ¬ lg_cmp (plc x1 y1) (plc x2 y2) = 0) : 1 = joi x1 y1 x2 y2 := by
  unfold joi
  rw [if_pos ⟨h1, h2, fun q => h ((lg_cmp_eq _ _).mpr (by rw [q.1, q.2]))⟩]
theorem joi_c (x1 y1 x2 y2 : Int32) : joi x2 y2 x1 y1 = joi x1 y1 x2 y2 := by
  unfold joi
  by_cases h : inB x1 y1 ∧ inB x2 y2 ∧ ¬ (x1 = x2 ∧ y1 = y2)
  · rw [if_pos h, if_pos ⟨h.2.1, h.1, fun q => h.2.2 ⟨q.1.symm, q.2.symm⟩⟩]
  · rw [if_neg h, if_neg (fun q => h ⟨q.2.1, q.1, fun z => q.2.2 ⟨z.1.symm, z.2.symm⟩⟩)]
theorem q_lohi {a b lo hi : Int64} (e1 : lo = if b < a then b else a) (e2 : hi = if b < a then a else b) (h : ¬ lg_cmp a b = 0) : lo < hi := by
  have h1 : ¬ a = b := fun q => h ((lg_cmp_eq _ _).mpr q)
  rw [e1, e2]
  by_cases q : b < a
  · rw [if_pos q, if_pos q]; exact q
  · rw [if_neg q, if_neg q]
    rw [Int64.lt_iff_toInt_lt] at q ⊢
    have : a.toInt ≠ b.toInt := fun z => h1 (Int64.toInt_inj.mp z)
    omega
theorem q_nle {a b : Int64} (h : a < b) : ¬ b ≤ a := by
  rw [Int64.lt_iff_toInt_lt] at h
  rw [Int64.le_iff_toInt_le]
  omega
theorem cmp_xl {x1 y1 x2 y2 : Int32} (h : ¬ x1 = x2) (k : ¬ x2 ≤ x1) : -1 = cmp4 x1 y1 x2 y2 := by
  unfold cmp4; rw [if_neg h, if_pos (Int32.not_le.mp k)]
theorem cmp_xg {x1 y1 x2 y2 : Int32} (h : ¬ x1 = x2) (k : x2 ≤ x1) : 1 = cmp4 x1 y1 x2 y2 := by
  unfold cmp4; rw [if_neg h, if_neg (Int32.not_lt.mpr k)]
theorem cmp_yl {x1 y1 x2 y2 : Int32} (h : x1 = x2) (g : ¬ y1 = y2) (k : ¬ y2 ≤ y1) : -1 = cmp4 x1 y1 x2 y2 := by
  unfold cmp4; rw [if_pos h, if_neg g, if_pos (Int32.not_le.mp k)]
theorem cmp_yg {x1 y1 x2 y2 : Int32} (h : x1 = x2) (g : ¬ y1 = y2) (k : y2 ≤ y1) : 1 = cmp4 x1 y1 x2 y2 := by
  unfold cmp4; rw [if_pos h, if_neg g, if_neg (Int32.not_lt.mpr k)]
theorem cmp_e {x1 y1 x2 y2 : Int32} (h : x1 = x2) (g : y1 = y2) : 0 = cmp4 x1 y1 x2 y2 := by
  unfold cmp4; rw [if_pos h, if_pos g]
theorem ii_nl {x y : Int32} (h : x < y) : ¬ y < x := by
  rw [ii_lt] at h ⊢; omega
theorem cmp_swap {x1 y1 x2 y2 : Int32} (h : ¬ cmp4 x1 y1 x2 y2 ≤ 0) : cmp4 x2 y2 x1 y1 ≤ 0 := by
  unfold cmp4 at h ⊢
  by_cases a : x1 = x2
  · rw [if_pos a] at h
    rw [if_pos a.symm]
    by_cases b : y1 = y2
    · rw [if_pos b.symm]; decide
    · rw [if_neg b] at h
      rw [if_neg (fun q => b q.symm)]
      by_cases d : y1 < y2
      · rw [if_pos d] at h; exact absurd (by decide) h
      · have d2 : y2 < y1 := by
          rw [ii_lt] at d ⊢
          have : y1.toInt ≠ y2.toInt := fun z => b (Int32.toInt_inj.mp z)
          omega
        rw [if_pos d2]; decide
  · rw [if_neg a] at h
    rw [if_neg (fun q => a q.symm)]
    by_cases d : x1 < x2
    · rw [if_pos d] at h; exact absurd (by decide) h
    · have d2 : x2 < x1 := by
        rw [ii_lt] at d ⊢
        have : x1.toInt ≠ x2.toInt := fun z => a (Int32.toInt_inj.mp z)
        omega
      rw [if_pos d2]; decide
theorem ii_ne {x : Int32} {k : Int32} {n : Int} (hk : k.toInt = n) (h : ¬ x = k) : x.toInt ≠ n := fun q => h (Int32.toInt_inj.mp (by rw [hk]; exact q))
theorem q_sw3 {x : Int32} (h0 : ¬ x = 0) (h1 : ¬ x = 1) (h2 : ¬ x = 2) (h3 : ¬ x = 3) : x.toInt < 0 ∨ 3 < x.toInt := by
  have a0 := ii_ne (n := 0) (by decide) h0
  have a1 := ii_ne (n := 1) (by decide) h1
  have a2 := ii_ne (n := 2) (by decide) h2
  have a3 := ii_ne (n := 3) (by decide) h3
  omega
theorem q_sw9 {x : Int32} (h0 : ¬ x = 0) (h1 : ¬ x = 1) (h2 : ¬ x = 2) (h3 : ¬ x = 3) (h4 : ¬ x = 4) (h5 : ¬ x = 5) (h6 : ¬ x = 6) (h7 : ¬ x = 7) (h8 : ¬ x = 8) (h9 : ¬ x = 9) : x.toInt < 0 ∨ 9 < x.toInt := by
  have a0 := ii_ne (n := 0) (by decide) h0
  have a1 := ii_ne (n := 1) (by decide) h1
  have a2 := ii_ne (n := 2) (by decide) h2
  have a3 := ii_ne (n := 3) (by decide) h3
  have a4 := ii_ne (n := 4) (by decide) h4
  have a5 := ii_ne (n := 5) (by decide) h5
  have a6 := ii_ne (n := 6) (by decide) h6
  have a7 := ii_ne (n := 7) (by decide) h7
  have a8 := ii_ne (n := 8) (by decide) h8
  have a9 := ii_ne (n := 9) (by decide) h9
  omega
theorem ii_0 : (0 : Int32).toInt = 0 := by decide
theorem ii_1 : (1 : Int32).toInt = 1 := by decide
theorem ii_3 : (3 : Int32).toInt = 3 := by decide
theorem q_has {x : Int32} (h : ¬ x < 0) (k : ¬ 1 ≤ x) : x = 0 := by
  rw [ii_lt, ii_0] at h
  rw [Int32.le_iff_toInt_le, ii_1] at k
  exact Int32.toInt_inj.mp (by rw [ii_0]; omega)
theorem q_hasn {x : Int32} (h : x < 0 ∨ 1 ≤ x) : ¬ x = 0 := by
  intro q
  subst q
  exact absurd h (by decide)
theorem q_npos {x : Int32} (h : ¬ x ≤ 0) : ¬ x = 0 := by
  intro q
  subst q
  exact h (by decide)
theorem cnt_o {x : Int32} (h0 : ¬ x = 0) (h1 : ¬ x = 1) (h2 : ¬ x = 2) (h3 : ¬ x = 3) : -1 = cnt x := by
  unfold cnt; rw [if_neg h2, if_neg (by rintro (q | q | q) <;> contradiction)]
theorem cnt_lt {x : Int32} (h : x < 0) : -1 = cnt x := by
  refine cnt_o ?_ ?_ ?_ ?_ <;> (intro q; subst q; exact absurd h (by decide))
theorem cnt_gt {x : Int32} (h : ¬ x ≤ 3) : -1 = cnt x := by
  refine cnt_o ?_ ?_ ?_ ?_ <;> (intro q; subst q; exact h (by decide))
theorem cnt_0 {x : Int32} (h : x = 0) : 0 = cnt x := by subst h; decide
theorem cnt_1 {x : Int32} (h : x = 1) : 0 = cnt x := by subst h; decide
theorem cnt_2 {x : Int32} (h : x = 2) : 1 = cnt x := by subst h; decide
theorem cnt_3 {x : Int32} (h : ¬ x < 0) (k : x ≤ 3) (h0 : ¬ x = 0) (h1 : ¬ x = 1) (h2 : ¬ x = 2) : 0 = cnt x := by
  have a0 := ii_ne (n := 0) (by decide) h0
  have a1 := ii_ne (n := 1) (by decide) h1
  have a2 := ii_ne (n := 2) (by decide) h2
  rw [ii_lt, ii_0] at h
  rw [Int32.le_iff_toInt_le, ii_3] at k
  have e : x = 3 := Int32.toInt_inj.mp (by rw [ii_3]; omega)
  subst e; decide
theorem fac_n {x y : Int32} (h : ¬ x = 0) : -1 = fac x y := by
  unfold fac; rw [if_neg (fun q => h q.1)]
theorem fac_o {x y : Int32} (h : ¬ y = 0) (k : ¬ y = 1) : -1 = fac x y := by
  unfold fac; rw [if_neg (fun q => q.2.elim h k)]
theorem fac_lt {x y : Int32} (h : y < 0) : -1 = fac x y := by
  refine fac_o ?_ ?_ <;> (intro q; subst q; exact absurd h (by decide))
theorem fac_gt {x y : Int32} (h : ¬ y ≤ 3) : -1 = fac x y := by
  refine fac_o ?_ ?_ <;> (intro q; subst q; exact h (by decide))
theorem fac_0 {y : Int32} (h : y = 0) : 0 = fac 0 y := by subst h; decide
theorem fac_1 {y : Int32} (h : y = 1) : 0 = fac 0 y := by subst h; decide
theorem btw_n1 {x y : Int32} (h : ¬ x = 0) : -1 = btw x y := by
  unfold btw; rw [if_neg (fun q => h q.1)]
theorem btw_n2 {x y : Int32} (h : ¬ y = 0) : -1 = btw x y := by
  unfold btw; rw [if_neg (fun q => h q.2)]
