theorem bitc_ok : ∀ w, w < 64 → ∀ h : AH, f_J6_bitCount_0f7a4 (nI w) h = some (nI (cnt w.testBit 0 6), h) := by
  have key : ∀ w, w < 64 → (f_J6_bitCount_0f7a4 (nI w) []).map Prod.fst = some (nI (cnt w.testBit 0 6)) := by decide +kernel
  intro w hw h
  have h1 := key w hw
  unfold f_J6_bitCount_0f7a4 at h1 ⊢
  simp only [Option.map_some, Option.some.injEq] at h1
  rw [h1]
def zMo (V : Nat → Int32) (w v : Nat) : Nat → Bool := fun s => w.testBit s && decide (v ≤ nV V (6 + s))
def zLe (V : Nat → Int32) (w v : Nat) : Nat → Bool := fun s => w.testBit s && decide (nV V (6 + s) < v)
theorem mo_le (V : Nat → Int32) (w v i d : Nat) : cnt w.testBit i d = cnt (zMo V w v) i d + cnt (zLe V w v) i d := by
  refine cnt_two d i fun j => ?_
  unfold zMo zLe
  by_cases h1 : w.testBit j = true
  · by_cases h2 : v ≤ nV V (6 + j)
    · simp [h1, h2]
    · simp [h1, h2, Nat.lt_of_not_le h2]
  · simp [h1]
theorem bit_hi {w n j : Nat} (h : w < 2 ^ n) (hj : n ≤ j) : w.testBit j = false := Nat.testBit_lt_two_pow (Nat.lt_of_lt_of_le h (Nat.pow_le_pow_right (by omega) hj))
theorem cnt_6n {P : Nat → Bool} {n : Nat} (hn : n ≤ 6) (h : ∀ j, n ≤ j → P j = false) : cnt P 0 6 = cnt P 0 n := by
  have := cnt_add (P := P) (6 - n) n 0
  rw [show n + (6 - n) = 6 by omega, Nat.zero_add, cnt_no (6 - n) n h] at this
  exact this
theorem max_C {a b : Nat} (ha : a < 2 ^ 31) (hb : b < 2 ^ 31) : (if nI a < nI b then nI b else nI a) = nI (max a b) := by
  by_cases h : a < b
  · rw [if_pos (nI_lt h hb), Nat.max_eq_right (by omega)]
  · rw [if_neg (nI_nlt (by omega) ha), Nat.max_eq_left (by omega)]
section AK
variable {sw : Bool} {σ : Sg} {ς : Lg} {V : Nat → Int32} {H D n m q : Nat}
theorem max_M {a b : Nat} (ha : a < 2 ^ 31) (hb : b < 2 ^ 31) : f_X13_max 302 (nI a) (nI b) (enc sw σ ς) = some (nI (max a b), enc sw σ ς) := by
  simp only [f_X13_max, if_true, ite_true, reduceIte, Option.bind_some, Option.bind_none, bT1_some, io_LD, io_Rd, io_Mt, io_Nt, io_Pl, io_Ro, io_Pa, io_Te, io_Bo, io_Ia, io_Ib, io_Mo, io_Ra, io_Rb, gr_LD_0, gr_LD_1, gr_LD_2, gr_LD_3, gr_LD_4, gr_LD_5, gr_LD_6, gr_LD_7, gr_LD_8, gr_Rd_0, gr_Mt_0, gr_Mt_1, gr_Nt_0, gr_Nt_1, gr_Nt_2, gr_Nt_3, gr_Nt_4, gr_Nt_5, gr_Nt_6, gr_Pl_0, gr_Pl_1, gr_Ro_0, gr_Ro_1, gr_Ro_2, gr_Pa_0, gr_Te_0, gr_Te_1, gr_Bo_0, gr_Bo_1, gr_Ia_0, gr_Ib_0, gr_Mo_0, gr_Mo_7, gr_Mo_8, gr_Mo_9, gr_Mo_10, gr_Mo_11, gr_Mo_12, gr_Mo_15, gr_Mo_16, gr_Mo_17, gr_Mo_18, gr_Mo_20, gr_Mo_28, gr_Mo_29, gr_Mo_32, gr_Mo_33, gr_Mo_34, gr_Mo_35, gr_Mo_36, gr_Mo_37, gr_Ra_0, gr_Ra_1, gr_Ra_2, gr_Ra_3, gr_Ra_4, gr_Ra_5, gr_Ra_6, gr_Rb_0, gr_Rb_1, gr_Rb_2, gr_Rb_3, gr_Rb_4, gr_Rb_5, gr_Rb_6, gi_LD_9, gi_Rd_1, gi_Rd_2, gi_Rd_3, gi_Rd_4, gi_Nt_7, gi_Nt_8, gi_Nt_9, gi_Nt_10, gi_Pl_2, gi_Pl_3, gi_Ro_3, gi_Ro_4, gi_Ro_5, gi_Pa_1, gi_Pa_2, gi_Te_2, gi_Bo_2, gi_Ia_1, gi_Ia_2, gi_Ib_1, gi_Ib_2, gi_Mo_1, gi_Mo_2, gi_Mo_3, gi_Mo_4, gi_Mo_5, gi_Mo_6, gi_Mo_13, gl_Mo_14, gi_Mo_19, gi_Mo_21, gi_Mo_22, gi_Mo_23, gi_Mo_24, gi_Mo_25, gi_Mo_26, gi_Mo_27, gi_Mo_30, gi_Mo_31, gi_Ra_7, gi_Ra_8, gi_Ra_9, gi_Ra_10, gi_Rb_7, gi_Rb_8, gi_Rb_9, gi_Rb_10]
  by_cases h : a ≤ b
  · rw [if_pos (nI_le h hb), Nat.max_eq_right h]
  · rw [if_neg (nI_ge (by omega) ha), Nat.max_eq_left (by omega)]
theorem owing_LC (h : CC sw σ V H D n m) {w v : Nat} (hw : w < 2 ^ n) (hv : v < 200) : ∀ (d i f a : Nat), i + d = 6 → d < f → f_X11_owingAtLeast_L5 f (nI v) (nI w) 4 (nI a) (nI i) (enc sw σ ς) = some (nI (a + cnt (zMo V w v) i d), enc sw σ ς) := by
  have hw6 := two_le hw h.1.1.2.2.1
  intro d
  induction d with
  | zero =>
    intro i f a hi hf
    obtain ⟨f, rfl⟩ : ∃ f', f = f' + 1 := ⟨f - 1, by omega⟩
    show F_X11_owingAtLeast_L5 (f_X11_owingAtLeast_L5 f) (nI v) (nI w) 4 (nI a) (nI i) (enc sw σ ς) = _
    simp only [F_X11_owingAtLeast_L5, if_pos (show (6 : Int32) ≤ nI i from nI_le (a := 6) (by omega) (by omega))]
    rfl
  | succ d ih =>
    intro i f a hi hf
    obtain ⟨f, rfl⟩ : ∃ f', f = f' + 1 := ⟨f - 1, by omega⟩
    have hng : ¬ (6 : Int32) ≤ nI i := nI_ge (b := 6) (by omega) (by omega)
    have l1 : i < 6 := by omega
    have ne : ¬ (1 : Int32) = 0 := by decide
    have cs : cnt (zMo V w v) i (d + 1) = (if zMo V w v i = true then 1 else 0) + cnt (zMo V w v) (i + 1) d := rfl
    show F_X11_owingAtLeast_L5 (f_X11_owingAtLeast_L5 f) (nI v) (nI w) 4 (nI a) (nI i) (enc sw σ ς) = _
    rw [cs]
    by_cases hb : w.testBit i = true
    · have hin : i < n := by
        rcases Nat.lt_or_ge i n with z | z
        · exact z
        · rw [bit_hi hw z] at hb; exact absurd hb (by decide)
      have hd := h.2.2.debt hin
      have e6 : σ 6 i = nI (nV V (6 + i)) := ((h.2.1.1 i hin).2.1).trans hd.1
      have tb : (((nI w >>> (nI i &&& 31)) &&& (1 : Int32)) = 0) = False := eq_false (by rw [bit_ok w hw6 i l1, if_pos hb]; exact ne)
      simp only [F_X11_owingAtLeast_L5, if_true, ite_true, reduceIte, Option.bind_some, Option.bind_none, bT1_some, io_LD, io_Rd, io_Mt, io_Nt, io_Pl, io_Ro, io_Pa, io_Te, io_Bo, io_Ia, io_Ib, io_Mo, io_Ra, io_Rb, gr_LD_0, gr_LD_1, gr_LD_2, gr_LD_3, gr_LD_4, gr_LD_5, gr_LD_6, gr_LD_7, gr_LD_8, gr_Rd_0, gr_Mt_0, gr_Mt_1, gr_Nt_0, gr_Nt_1, gr_Nt_2, gr_Nt_3, gr_Nt_4, gr_Nt_5, gr_Nt_6, gr_Pl_0, gr_Pl_1, gr_Ro_0, gr_Ro_1, gr_Ro_2, gr_Pa_0, gr_Te_0, gr_Te_1, gr_Bo_0, gr_Bo_1, gr_Ia_0, gr_Ib_0, gr_Mo_0, gr_Mo_7, gr_Mo_8, gr_Mo_9, gr_Mo_10, gr_Mo_11, gr_Mo_12, gr_Mo_15, gr_Mo_16, gr_Mo_17, gr_Mo_18, gr_Mo_20, gr_Mo_28, gr_Mo_29, gr_Mo_32, gr_Mo_33, gr_Mo_34, gr_Mo_35, gr_Mo_36, gr_Mo_37, gr_Ra_0, gr_Ra_1, gr_Ra_2, gr_Ra_3, gr_Ra_4, gr_Ra_5, gr_Ra_6, gr_Rb_0, gr_Rb_1, gr_Rb_2, gr_Rb_3, gr_Rb_4, gr_Rb_5, gr_Rb_6, gi_LD_9, gi_Rd_1, gi_Rd_2, gi_Rd_3, gi_Rd_4, gi_Nt_7, gi_Nt_8, gi_Nt_9, gi_Nt_10, gi_Pl_2, gi_Pl_3, gi_Ro_3, gi_Ro_4, gi_Ro_5, gi_Pa_1, gi_Pa_2, gi_Te_2, gi_Bo_2, gi_Ia_1, gi_Ia_2, gi_Ib_1, gi_Ib_2, gi_Mo_1, gi_Mo_2, gi_Mo_3, gi_Mo_4, gi_Mo_5, gi_Mo_6, gi_Mo_13, gl_Mo_14, gi_Mo_19, gi_Mo_21, gi_Mo_22, gi_Mo_23, gi_Mo_24, gi_Mo_25, gi_Mo_26, gi_Mo_27, gi_Mo_30, gi_Mo_31, gi_Ra_7, gi_Ra_8, gi_Ra_9, gi_Ra_10, gi_Rb_7, gi_Rb_8, gi_Rb_9, gi_Rb_10, hng, if_false, tb, ai_6 l1, e6, nI_1]
      unfold zMo
      by_cases hle : v ≤ nV V (6 + i)
      · rw [if_neg (nI_nlt hle (by omega)), ih (i + 1) f _ (by omega) (by omega)]
        simp only [hb, hle, decide_true, Bool.and_self, if_true, ite_true]
        rw [Nat.add_assoc]; rfl
      · rw [if_pos (nI_lt (by omega) (by omega)), ih (i + 1) f _ (by omega) (by omega)]
        simp only [hb, hle, decide_false, Bool.and_false, Bool.false_eq_true, if_false, ite_false, Nat.zero_add]
        rfl
    · have tb : (((nI w >>> (nI i &&& 31)) &&& (1 : Int32)) = 0) = True := eq_true (by rw [bit_ok w hw6 i l1, if_neg hb])
      have hz : zMo V w v i = false := by unfold zMo; simp [hb]
      simp only [F_X11_owingAtLeast_L5, if_true, ite_true, reduceIte, Option.bind_some, Option.bind_none, bT1_some, io_LD, io_Rd, io_Mt, io_Nt, io_Pl, io_Ro, io_Pa, io_Te, io_Bo, io_Ia, io_Ib, io_Mo, io_Ra, io_Rb, gr_LD_0, gr_LD_1, gr_LD_2, gr_LD_3, gr_LD_4, gr_LD_5, gr_LD_6, gr_LD_7, gr_LD_8, gr_Rd_0, gr_Mt_0, gr_Mt_1, gr_Nt_0, gr_Nt_1, gr_Nt_2, gr_Nt_3, gr_Nt_4, gr_Nt_5, gr_Nt_6, gr_Pl_0, gr_Pl_1, gr_Ro_0, gr_Ro_1, gr_Ro_2, gr_Pa_0, gr_Te_0, gr_Te_1, gr_Bo_0, gr_Bo_1, gr_Ia_0, gr_Ib_0, gr_Mo_0, gr_Mo_7, gr_Mo_8, gr_Mo_9, gr_Mo_10, gr_Mo_11, gr_Mo_12, gr_Mo_15, gr_Mo_16, gr_Mo_17, gr_Mo_18, gr_Mo_20, gr_Mo_28, gr_Mo_29, gr_Mo_32, gr_Mo_33, gr_Mo_34, gr_Mo_35, gr_Mo_36, gr_Mo_37, gr_Ra_0, gr_Ra_1, gr_Ra_2, gr_Ra_3, gr_Ra_4, gr_Ra_5, gr_Ra_6, gr_Rb_0, gr_Rb_1, gr_Rb_2, gr_Rb_3, gr_Rb_4, gr_Rb_5, gr_Rb_6, gi_LD_9, gi_Rd_1, gi_Rd_2, gi_Rd_3, gi_Rd_4, gi_Nt_7, gi_Nt_8, gi_Nt_9, gi_Nt_10, gi_Pl_2, gi_Pl_3, gi_Ro_3, gi_Ro_4, gi_Ro_5, gi_Pa_1, gi_Pa_2, gi_Te_2, gi_Bo_2, gi_Ia_1, gi_Ia_2, gi_Ib_1, gi_Ib_2, gi_Mo_1, gi_Mo_2, gi_Mo_3, gi_Mo_4, gi_Mo_5, gi_Mo_6, gi_Mo_13, gl_Mo_14, gi_Mo_19, gi_Mo_21, gi_Mo_22, gi_Mo_23, gi_Mo_24, gi_Mo_25, gi_Mo_26, gi_Mo_27, gi_Mo_30, gi_Mo_31, gi_Ra_7, gi_Ra_8, gi_Ra_9, gi_Ra_10, gi_Rb_7, gi_Rb_8, gi_Rb_9, gi_Rb_10, hng, if_false, tb, nI_1]
      rw [ih (i + 1) f _ (by omega) (by omega), hz]
      simp only [Bool.false_eq_true, if_false, ite_false, Nat.zero_add]
theorem owing_C (h : CC sw σ V H D n m) {w v : Nat} (hw : w < 2 ^ n) (hv : v < 200) : f_X11_owingAtLeast (nI v) (nI w) 4 (enc sw σ ς) = some (nI (cnt (zMo V w v) 0 n), enc sw σ ς) := by
  have h0 : f_X11_owingAtLeast_L5 1000000 (nI v) (nI w) 4 (0 : Int32) (0 : Int32) (enc sw σ ς) = some (nI (0 + cnt (zMo V w v) 0 6), enc sw σ ς) := owing_LC h hw hv 6 0 1000000 0 (by omega) (by omega)
  rw [Nat.zero_add, cnt_6n h.1.1.2.2.1 (fun j hj => by unfold zMo; rw [bit_hi hw hj]; rfl)] at h0
  simp only [f_X11_owingAtLeast, h0, bT1_some]
theorem owing_LM (h : I_row (rA sw) σ H D n m) (hN : NB n m H (σ 306) (σ 307) (σ 308)) {w v : Nat} (hw : w < 2 ^ n) (hv : v < 200) (v2 v3 : Int32) : ∀ (d i f a b : Nat), i + d = n → d < f → f_X13_ask_L30 f 302 (nI w) v2 v3 (nI v) (nI a) (nI b) (nI i) (enc sw σ ς) = some (nI (a + cnt (zMo (σ 308) w v) i d), nI (b + cnt (zLe (σ 308) w v) i d), enc sw σ ς) := by
  obtain ⟨⟨r1, r2, r3, r4⟩, r5, r6, -, ⟨d1, d2, d3, d4⟩, -⟩ := id h
  have hw6 := two_le hw r3
  intro d
  induction d with
  | zero =>
    intro i f a b hi hf
    obtain ⟨f, rfl⟩ : ∃ f', f = f' + 1 := ⟨f - 1, by omega⟩
    show F_X13_ask_L30 (f_X13_ask_L30 f) 302 (nI w) v2 v3 (nI v) (nI a) (nI b) (nI i) (enc sw σ ς) = _
    simp only [F_X13_ask_L30, if_true, ite_true, reduceIte, Option.bind_some, Option.bind_none, bT1_some, io_LD, io_Rd, io_Mt, io_Nt, io_Pl, io_Ro, io_Pa, io_Te, io_Bo, io_Ia, io_Ib, io_Mo, io_Ra, io_Rb, gr_LD_0, gr_LD_1, gr_LD_2, gr_LD_3, gr_LD_4, gr_LD_5, gr_LD_6, gr_LD_7, gr_LD_8, gr_Rd_0, gr_Mt_0, gr_Mt_1, gr_Nt_0, gr_Nt_1, gr_Nt_2, gr_Nt_3, gr_Nt_4, gr_Nt_5, gr_Nt_6, gr_Pl_0, gr_Pl_1, gr_Ro_0, gr_Ro_1, gr_Ro_2, gr_Pa_0, gr_Te_0, gr_Te_1, gr_Bo_0, gr_Bo_1, gr_Ia_0, gr_Ib_0, gr_Mo_0, gr_Mo_7, gr_Mo_8, gr_Mo_9, gr_Mo_10, gr_Mo_11, gr_Mo_12, gr_Mo_15, gr_Mo_16, gr_Mo_17, gr_Mo_18, gr_Mo_20, gr_Mo_28, gr_Mo_29, gr_Mo_32, gr_Mo_33, gr_Mo_34, gr_Mo_35, gr_Mo_36, gr_Mo_37, gr_Ra_0, gr_Ra_1, gr_Ra_2, gr_Ra_3, gr_Ra_4, gr_Ra_5, gr_Ra_6, gr_Rb_0, gr_Rb_1, gr_Rb_2, gr_Rb_3, gr_Rb_4, gr_Rb_5, gr_Rb_6, gi_LD_9, gi_Rd_1, gi_Rd_2, gi_Rd_3, gi_Rd_4, gi_Nt_7, gi_Nt_8, gi_Nt_9, gi_Nt_10, gi_Pl_2, gi_Pl_3, gi_Ro_3, gi_Ro_4, gi_Ro_5, gi_Pa_1, gi_Pa_2, gi_Te_2, gi_Bo_2, gi_Ia_1, gi_Ia_2, gi_Ib_1, gi_Ib_2, gi_Mo_1, gi_Mo_2, gi_Mo_3, gi_Mo_4, gi_Mo_5, gi_Mo_6, gi_Mo_13, gl_Mo_14, gi_Mo_19, gi_Mo_21, gi_Mo_22, gi_Mo_23, gi_Mo_24, gi_Mo_25, gi_Mo_26, gi_Mo_27, gi_Mo_30, gi_Mo_31, gi_Ra_7, gi_Ra_8, gi_Ra_9, gi_Ra_10, gi_Rb_7, gi_Rb_8, gi_Rb_9, gi_Rb_10, d3, if_pos (nI_le (show n ≤ i by omega) (by omega))]
    rfl
  | succ d ih =>
    intro i f a b hi hf
    obtain ⟨f, rfl⟩ : ∃ f', f = f' + 1 := ⟨f - 1, by omega⟩
    have hng : ¬ nI n ≤ nI i := nI_ge (by omega) (by omega)
    have l1 : i < 6 := by omega
    have hin : i < n := by omega
    have ne : ¬ (1 : Int32) = 0 := by decide
    have hd := hN.debt hin
    have l6 : 6 + i < 51 := by omega
    have i6 : (6 : Int32) + nI i = nI (6 + i) := nI_add 6 i
    have a0 : ∀ t : Nat, nI t + (0 : Int32) = nI t := fun t => by rw [show (0 : Int32) = nI 0 from rfl, nI_add, Nat.add_zero]
    have cs : cnt (zMo (σ 308) w v) i (d + 1) = (if zMo (σ 308) w v i = true then 1 else 0) + cnt (zMo (σ 308) w v) (i + 1) d := rfl
    have cl : cnt (zLe (σ 308) w v) i (d + 1) = (if zLe (σ 308) w v i = true then 1 else 0) + cnt (zLe (σ 308) w v) (i + 1) d := rfl
    show F_X13_ask_L30 (f_X13_ask_L30 f) 302 (nI w) v2 v3 (nI v) (nI a) (nI b) (nI i) (enc sw σ ς) = _
    rw [cs, cl]
    by_cases hb : w.testBit i = true
    · have tb : (((nI w >>> (nI i &&& 31)) &&& (1 : Int32)) = (1 : Int32)) = True := eq_true (by rw [bit_ok w hw6 i l1, if_pos hb])
      by_cases hle : v ≤ nV (σ 308) (6 + i)
      · have z1 : zMo (σ 308) w v i = true := by unfold zMo; simp [hb, hle]
        have z2 : zLe (σ 308) w v i = false := by unfold zLe; simp [hb, hle]
        have t1 : (nI (nV (σ 308) (6 + i)) < nI v) = False := eq_false (nI_nlt hle (by omega))
        have t2 : (nI v ≤ nI (nV (σ 308) (6 + i))) = True := eq_true (nI_le hle (by omega))
        simp only [F_X13_ask_L30, f_X13_ask_54, f_X13_ask_82, f_X13_ask_83, f_X13_ask_112, if_true, ite_true, reduceIte, Option.bind_some, Option.bind_none, bT1_some, io_LD, io_Rd, io_Mt, io_Nt, io_Pl, io_Ro, io_Pa, io_Te, io_Bo, io_Ia, io_Ib, io_Mo, io_Ra, io_Rb, gr_LD_0, gr_LD_1, gr_LD_2, gr_LD_3, gr_LD_4, gr_LD_5, gr_LD_6, gr_LD_7, gr_LD_8, gr_Rd_0, gr_Mt_0, gr_Mt_1, gr_Nt_0, gr_Nt_1, gr_Nt_2, gr_Nt_3, gr_Nt_4, gr_Nt_5, gr_Nt_6, gr_Pl_0, gr_Pl_1, gr_Ro_0, gr_Ro_1, gr_Ro_2, gr_Pa_0, gr_Te_0, gr_Te_1, gr_Bo_0, gr_Bo_1, gr_Ia_0, gr_Ib_0, gr_Mo_0, gr_Mo_7, gr_Mo_8, gr_Mo_9, gr_Mo_10, gr_Mo_11, gr_Mo_12, gr_Mo_15, gr_Mo_16, gr_Mo_17, gr_Mo_18, gr_Mo_20, gr_Mo_28, gr_Mo_29, gr_Mo_32, gr_Mo_33, gr_Mo_34, gr_Mo_35, gr_Mo_36, gr_Mo_37, gr_Ra_0, gr_Ra_1, gr_Ra_2, gr_Ra_3, gr_Ra_4, gr_Ra_5, gr_Ra_6, gr_Rb_0, gr_Rb_1, gr_Rb_2, gr_Rb_3, gr_Rb_4, gr_Rb_5, gr_Rb_6, gi_LD_9, gi_Rd_1, gi_Rd_2, gi_Rd_3, gi_Rd_4, gi_Nt_7, gi_Nt_8, gi_Nt_9, gi_Nt_10, gi_Pl_2, gi_Pl_3, gi_Ro_3, gi_Ro_4, gi_Ro_5, gi_Pa_1, gi_Pa_2, gi_Te_2, gi_Bo_2, gi_Ia_1, gi_Ia_2, gi_Ib_1, gi_Ib_2, gi_Mo_1, gi_Mo_2, gi_Mo_3, gi_Mo_4, gi_Mo_5, gi_Mo_6, gi_Mo_13, gl_Mo_14, gi_Mo_19, gi_Mo_21, gi_Mo_22, gi_Mo_23, gi_Mo_24, gi_Mo_25, gi_Mo_26, gi_Mo_27, gi_Mo_30, gi_Mo_31, gi_Ra_7, gi_Ra_8, gi_Ra_9, gi_Ra_10, gi_Rb_7, gi_Rb_8, gi_Rb_9, gi_Rb_10, d3, hng, if_false, tb, ne, i6, ai_308 l6, hd.1, t1, t2, nI_1, a0, ih (i + 1) f _ _ (show i + 1 + d = n by omega) (show d < f by omega), z1, z2, Bool.false_eq_true, Nat.zero_add, Nat.add_assoc]
      · have z1 : zMo (σ 308) w v i = false := by unfold zMo; simp [hle]
        have z2 : zLe (σ 308) w v i = true := by unfold zLe; simp [hb, Nat.lt_of_not_le hle]
        have t1 : (nI (nV (σ 308) (6 + i)) < nI v) = True := eq_true (nI_lt (by omega) (by omega))
        have t2 : (nI v ≤ nI (nV (σ 308) (6 + i))) = False := eq_false (nI_ge (by omega) (by omega))
        simp only [F_X13_ask_L30, f_X13_ask_54, f_X13_ask_82, f_X13_ask_83, f_X13_ask_112, if_true, ite_true, reduceIte, Option.bind_some, Option.bind_none, bT1_some, io_LD, io_Rd, io_Mt, io_Nt, io_Pl, io_Ro, io_Pa, io_Te, io_Bo, io_Ia, io_Ib, io_Mo, io_Ra, io_Rb, gr_LD_0, gr_LD_1, gr_LD_2, gr_LD_3, gr_LD_4, gr_LD_5, gr_LD_6, gr_LD_7, gr_LD_8, gr_Rd_0, gr_Mt_0, gr_Mt_1, gr_Nt_0, gr_Nt_1, gr_Nt_2, gr_Nt_3, gr_Nt_4, gr_Nt_5, gr_Nt_6, gr_Pl_0, gr_Pl_1, gr_Ro_0, gr_Ro_1, gr_Ro_2, gr_Pa_0, gr_Te_0, gr_Te_1, gr_Bo_0, gr_Bo_1, gr_Ia_0, gr_Ib_0, gr_Mo_0, gr_Mo_7, gr_Mo_8, gr_Mo_9, gr_Mo_10, gr_Mo_11, gr_Mo_12, gr_Mo_15, gr_Mo_16, gr_Mo_17, gr_Mo_18, gr_Mo_20, gr_Mo_28, gr_Mo_29, gr_Mo_32, gr_Mo_33, gr_Mo_34, gr_Mo_35, gr_Mo_36, gr_Mo_37, gr_Ra_0, gr_Ra_1, gr_Ra_2, gr_Ra_3, gr_Ra_4, gr_Ra_5, gr_Ra_6, gr_Rb_0, gr_Rb_1, gr_Rb_2, gr_Rb_3, gr_Rb_4, gr_Rb_5, gr_Rb_6, gi_LD_9, gi_Rd_1, gi_Rd_2, gi_Rd_3, gi_Rd_4, gi_Nt_7, gi_Nt_8, gi_Nt_9, gi_Nt_10, gi_Pl_2, gi_Pl_3, gi_Ro_3, gi_Ro_4, gi_Ro_5, gi_Pa_1, gi_Pa_2, gi_Te_2, gi_Bo_2, gi_Ia_1, gi_Ia_2, gi_Ib_1, gi_Ib_2, gi_Mo_1, gi_Mo_2, gi_Mo_3, gi_Mo_4, gi_Mo_5, gi_Mo_6, gi_Mo_13, gl_Mo_14, gi_Mo_19, gi_Mo_21, gi_Mo_22, gi_Mo_23, gi_Mo_24, gi_Mo_25, gi_Mo_26, gi_Mo_27, gi_Mo_30, gi_Mo_31, gi_Ra_7, gi_Ra_8, gi_Ra_9, gi_Ra_10, gi_Rb_7, gi_Rb_8, gi_Rb_9, gi_Rb_10, d3, hng, if_false, tb, ne, i6, ai_308 l6, hd.1, t1, t2, nI_1, a0, ih (i + 1) f _ _ (show i + 1 + d = n by omega) (show d < f by omega), z1, z2, Bool.false_eq_true, Nat.zero_add, Nat.add_assoc]
    · have tb : (((nI w >>> (nI i &&& 31)) &&& (1 : Int32)) = (1 : Int32)) = False := eq_false (by rw [bit_ok w hw6 i l1, if_neg hb]; decide)
      have z1 : zMo (σ 308) w v i = false := by unfold zMo; simp [hb]
      have z2 : zLe (σ 308) w v i = false := by unfold zLe; simp [hb]
      simp only [F_X13_ask_L30, f_X13_ask_54, f_X13_ask_82, f_X13_ask_83, f_X13_ask_112, if_true, ite_true, reduceIte, Option.bind_some, Option.bind_none, bT1_some, io_LD, io_Rd, io_Mt, io_Nt, io_Pl, io_Ro, io_Pa, io_Te, io_Bo, io_Ia, io_Ib, io_Mo, io_Ra, io_Rb, gr_LD_0, gr_LD_1, gr_LD_2, gr_LD_3, gr_LD_4, gr_LD_5, gr_LD_6, gr_LD_7, gr_LD_8, gr_Rd_0, gr_Mt_0, gr_Mt_1, gr_Nt_0, gr_Nt_1, gr_Nt_2, gr_Nt_3, gr_Nt_4, gr_Nt_5, gr_Nt_6, gr_Pl_0, gr_Pl_1, gr_Ro_0, gr_Ro_1, gr_Ro_2, gr_Pa_0, gr_Te_0, gr_Te_1, gr_Bo_0, gr_Bo_1, gr_Ia_0, gr_Ib_0, gr_Mo_0, gr_Mo_7, gr_Mo_8, gr_Mo_9, gr_Mo_10, gr_Mo_11, gr_Mo_12, gr_Mo_15, gr_Mo_16, gr_Mo_17, gr_Mo_18, gr_Mo_20, gr_Mo_28, gr_Mo_29, gr_Mo_32, gr_Mo_33, gr_Mo_34, gr_Mo_35, gr_Mo_36, gr_Mo_37, gr_Ra_0, gr_Ra_1, gr_Ra_2, gr_Ra_3, gr_Ra_4, gr_Ra_5, gr_Ra_6, gr_Rb_0, gr_Rb_1, gr_Rb_2, gr_Rb_3, gr_Rb_4, gr_Rb_5, gr_Rb_6, gi_LD_9, gi_Rd_1, gi_Rd_2, gi_Rd_3, gi_Rd_4, gi_Nt_7, gi_Nt_8, gi_Nt_9, gi_Nt_10, gi_Pl_2, gi_Pl_3, gi_Ro_3, gi_Ro_4, gi_Ro_5, gi_Pa_1, gi_Pa_2, gi_Te_2, gi_Bo_2, gi_Ia_1, gi_Ia_2, gi_Ib_1, gi_Ib_2, gi_Mo_1, gi_Mo_2, gi_Mo_3, gi_Mo_4, gi_Mo_5, gi_Mo_6, gi_Mo_13, gl_Mo_14, gi_Mo_19, gi_Mo_21, gi_Mo_22, gi_Mo_23, gi_Mo_24, gi_Mo_25, gi_Mo_26, gi_Mo_27, gi_Mo_30, gi_Mo_31, gi_Ra_7, gi_Ra_8, gi_Ra_9, gi_Ra_10, gi_Rb_7, gi_Rb_8, gi_Rb_9, gi_Rb_10, d3, hng, if_false, tb, nI_1, a0, ih (i + 1) f _ _ (show i + 1 + d = n by omega) (show d < f by omega), z1, z2, Bool.false_eq_true, Nat.zero_add]
/-- the questions, one behind the other -/
theorem ask_L (h : CC sw σ (σ 308) H D n m) {w : Nat} (hw : w < 2 ^ n) : ∀ (d v f g cl ml : Nat) (b : Int32), v + d = 199 → d < f → d < g → ((ml = 7 ∧ cl = cnt w.testBit 0 n) ∨ (ml = cl ∧ cl < cnt w.testBit 0 n)) →
    ∃ r, f_X11_bestQuestion_L20 f 3 (nI w) (nI (cnt w.testBit 0 n)) b (nI cl) (nI v) (enc sw σ ς) = some (r, enc sw σ ς) ∧ f_X13_ask_L13 g 302 (nI w) b (nI ml) (nI v) (enc sw σ ς) = some (r, enc sw σ ς) := by
  have hn6 := h.1.1.2.2.1
  have hall := cnt_le w.testBit n 0
  intro d
  induction d with
  | zero =>
    intro v f g cl ml b hv hf hg hr
    obtain ⟨f, rfl⟩ : ∃ f', f = f' + 1 := ⟨f - 1, by omega⟩
    obtain ⟨g, rfl⟩ : ∃ g', g = g' + 1 := ⟨g - 1, by omega⟩
    have t : ((198 : Int32) < nI v) = True := eq_true (nI_lt (a := 198) (by omega) (by omega))
    refine ⟨b, ?_, ?_⟩
    · show F_X11_bestQuestion_L20 (f_X11_bestQuestion_L20 f) 3 (nI w) (nI (cnt w.testBit 0 n)) b (nI cl) (nI v) (enc sw σ ς) = _
      simp only [F_X11_bestQuestion_L20, t, if_true]
    · show F_X13_ask_L13 (f_X13_ask_L13 g) 302 (nI w) b (nI ml) (nI v) (enc sw σ ς) = _
      simp only [F_X13_ask_L13, t, if_true]
  | succ d ih =>
    intro v f g cl ml b hv hf hg hr
    obtain ⟨f, rfl⟩ : ∃ f', f = f' + 1 := ⟨f - 1, by omega⟩
    obtain ⟨g, rfl⟩ : ∃ g', g = g' + 1 := ⟨g - 1, by omega⟩
    have t : ((198 : Int32) < nI v) = False := eq_false (nI_nlt (b := v) (a := 198) (by omega) (by omega))
    have hC := owing_C (ς := ς) h hw (show v < 200 by omega)
    have hM : f_X13_ask_L30 1000000 302 (nI w) b (nI ml) (nI v) (0 : Int32) (0 : Int32) (0 : Int32) (enc sw σ ς) = some (nI (0 + cnt (zMo (σ 308) w v) 0 n), nI (0 + cnt (zLe (σ 308) w v) 0 n), enc sw σ ς) := owing_LM h.1 h.2.2 hw (show v < 200 by omega) b (nI ml) n 0 1000000 0 0 (by omega) (by omega)
    rw [Nat.zero_add, Nat.zero_add] at hM
    have hsum := mo_le (σ 308) w v 0 n
    generalize hA : cnt w.testBit 0 n = A at *
    generalize cnt (zMo (σ 308) w v) 0 n = mo at *
    generalize cnt (zLe (σ 308) w v) 0 n = le at *
    have hsub : nI A - nI mo = nI le := by rw [pk_sub (by omega), show A - mo = le by omega]
    have hmx : (if nI mo < nI le then nI le else nI mo) = nI (max mo le) := max_C (by omega) (by omega)
    have hmM := max_M (sw := sw) (σ := σ) (ς := ς) (a := mo) (b := le) (by omega) (by omega)
    have stepC : ∀ r, (if nI cl ≤ nI (max mo le) then f_X11_bestQuestion_L20 f 3 (nI w) (nI A) b (nI cl) (nI (v + 1)) (enc sw σ ς) else f_X11_bestQuestion_L20 f 3 (nI w) (nI A) (nI v) (nI (max mo le)) (nI (v + 1)) (enc sw σ ς)) = r → f_X11_bestQuestion_L20 (f + 1) 3 (nI w) (nI A) b (nI cl) (nI v) (enc sw σ ς) = r := by
      intro r hr
      show F_X11_bestQuestion_L20 (f_X11_bestQuestion_L20 f) 3 (nI w) (nI A) b (nI cl) (nI v) (enc sw σ ς) = _
      simp only [F_X11_bestQuestion_L20, if_true, ite_true, reduceIte, Option.bind_some, Option.bind_none, bT1_some, io_LD, io_Rd, io_Mt, io_Nt, io_Pl, io_Ro, io_Pa, io_Te, io_Bo, io_Ia, io_Ib, io_Mo, io_Ra, io_Rb, gr_LD_0, gr_LD_1, gr_LD_2, gr_LD_3, gr_LD_4, gr_LD_5, gr_LD_6, gr_LD_7, gr_LD_8, gr_Rd_0, gr_Mt_0, gr_Mt_1, gr_Nt_0, gr_Nt_1, gr_Nt_2, gr_Nt_3, gr_Nt_4, gr_Nt_5, gr_Nt_6, gr_Pl_0, gr_Pl_1, gr_Ro_0, gr_Ro_1, gr_Ro_2, gr_Pa_0, gr_Te_0, gr_Te_1, gr_Bo_0, gr_Bo_1, gr_Ia_0, gr_Ib_0, gr_Mo_0, gr_Mo_7, gr_Mo_8, gr_Mo_9, gr_Mo_10, gr_Mo_11, gr_Mo_12, gr_Mo_15, gr_Mo_16, gr_Mo_17, gr_Mo_18, gr_Mo_20, gr_Mo_28, gr_Mo_29, gr_Mo_32, gr_Mo_33, gr_Mo_34, gr_Mo_35, gr_Mo_36, gr_Mo_37, gr_Ra_0, gr_Ra_1, gr_Ra_2, gr_Ra_3, gr_Ra_4, gr_Ra_5, gr_Ra_6, gr_Rb_0, gr_Rb_1, gr_Rb_2, gr_Rb_3, gr_Rb_4, gr_Rb_5, gr_Rb_6, gi_LD_9, gi_Rd_1, gi_Rd_2, gi_Rd_3, gi_Rd_4, gi_Nt_7, gi_Nt_8, gi_Nt_9, gi_Nt_10, gi_Pl_2, gi_Pl_3, gi_Ro_3, gi_Ro_4, gi_Ro_5, gi_Pa_1, gi_Pa_2, gi_Te_2, gi_Bo_2, gi_Ia_1, gi_Ia_2, gi_Ib_1, gi_Ib_2, gi_Mo_1, gi_Mo_2, gi_Mo_3, gi_Mo_4, gi_Mo_5, gi_Mo_6, gi_Mo_13, gl_Mo_14, gi_Mo_19, gi_Mo_21, gi_Mo_22, gi_Mo_23, gi_Mo_24, gi_Mo_25, gi_Mo_26, gi_Mo_27, gi_Mo_30, gi_Mo_31, gi_Ra_7, gi_Ra_8, gi_Ra_9, gi_Ra_10, gi_Rb_7, gi_Rb_8, gi_Rb_9, gi_Rb_10, t, if_false, hC, hsub, hmx, nI_1]
      exact hr
    have stepM : ∀ r, (if nI mo ≤ 0 then f_X13_ask_L13 g 302 (nI w) b (nI ml) (nI (v + 1)) (enc sw σ ς) else if nI le ≤ 0 then f_X13_ask_L13 g 302 (nI w) b (nI ml) (nI (v + 1)) (enc sw σ ς) else if nI ml ≤ nI (max mo le) then f_X13_ask_L13 g 302 (nI w) b (nI ml) (nI (v + 1)) (enc sw σ ς) else f_X13_ask_L13 g 302 (nI w) (nI v) (nI (max mo le)) (nI (v + 1)) (enc sw σ ς)) = r → f_X13_ask_L13 (g + 1) 302 (nI w) b (nI ml) (nI v) (enc sw σ ς) = r := by
      intro r hr
      show F_X13_ask_L13 (f_X13_ask_L13 g) 302 (nI w) b (nI ml) (nI v) (enc sw σ ς) = _
      simp only [F_X13_ask_L13, if_true, ite_true, reduceIte, Option.bind_some, Option.bind_none, bT1_some, io_LD, io_Rd, io_Mt, io_Nt, io_Pl, io_Ro, io_Pa, io_Te, io_Bo, io_Ia, io_Ib, io_Mo, io_Ra, io_Rb, gr_LD_0, gr_LD_1, gr_LD_2, gr_LD_3, gr_LD_4, gr_LD_5, gr_LD_6, gr_LD_7, gr_LD_8, gr_Rd_0, gr_Mt_0, gr_Mt_1, gr_Nt_0, gr_Nt_1, gr_Nt_2, gr_Nt_3, gr_Nt_4, gr_Nt_5, gr_Nt_6, gr_Pl_0, gr_Pl_1, gr_Ro_0, gr_Ro_1, gr_Ro_2, gr_Pa_0, gr_Te_0, gr_Te_1, gr_Bo_0, gr_Bo_1, gr_Ia_0, gr_Ib_0, gr_Mo_0, gr_Mo_7, gr_Mo_8, gr_Mo_9, gr_Mo_10, gr_Mo_11, gr_Mo_12, gr_Mo_15, gr_Mo_16, gr_Mo_17, gr_Mo_18, gr_Mo_20, gr_Mo_28, gr_Mo_29, gr_Mo_32, gr_Mo_33, gr_Mo_34, gr_Mo_35, gr_Mo_36, gr_Mo_37, gr_Ra_0, gr_Ra_1, gr_Ra_2, gr_Ra_3, gr_Ra_4, gr_Ra_5, gr_Ra_6, gr_Rb_0, gr_Rb_1, gr_Rb_2, gr_Rb_3, gr_Rb_4, gr_Rb_5, gr_Rb_6, gi_LD_9, gi_Rd_1, gi_Rd_2, gi_Rd_3, gi_Rd_4, gi_Nt_7, gi_Nt_8, gi_Nt_9, gi_Nt_10, gi_Pl_2, gi_Pl_3, gi_Ro_3, gi_Ro_4, gi_Ro_5, gi_Pa_1, gi_Pa_2, gi_Te_2, gi_Bo_2, gi_Ia_1, gi_Ia_2, gi_Ib_1, gi_Ib_2, gi_Mo_1, gi_Mo_2, gi_Mo_3, gi_Mo_4, gi_Mo_5, gi_Mo_6, gi_Mo_13, gl_Mo_14, gi_Mo_19, gi_Mo_21, gi_Mo_22, gi_Mo_23, gi_Mo_24, gi_Mo_25, gi_Mo_26, gi_Mo_27, gi_Mo_30, gi_Mo_31, gi_Ra_7, gi_Ra_8, gi_Ra_9, gi_Ra_10, gi_Rb_7, gi_Rb_8, gi_Rb_9, gi_Rb_10, t, if_false, hM, bT2_some, hmM, nI_1]
      exact hr
    by_cases hlt : max mo le < cl
    · obtain ⟨r, x1, x2⟩ := ih (v + 1) f g (max mo le) (max mo le) (nI v) (by omega) (by omega) (by omega) (Or.inr ⟨rfl, by omega⟩)
      refine ⟨r, stepC _ ?_, stepM _ ?_⟩
      · rw [if_neg (nI_ge (by omega) (by omega))]; exact x1
      · rw [if_neg (nI_nle (by omega) (by omega)), if_neg (nI_nle (by omega) (by omega)), if_neg (nI_ge (by omega) (by omega))]; exact x2
    · obtain ⟨r, x1, x2⟩ := ih (v + 1) f g cl ml b (by omega) (by omega) (by omega) hr
      refine ⟨r, stepC _ ?_, stepM _ ?_⟩
      · rw [if_pos (nI_le (by omega) (by omega))]; exact x1
      · by_cases h1 : mo = 0
        · rw [if_pos (by rw [h1]; decide)]; exact x2
        · rw [if_neg (nI_nle (by omega) (by omega))]
          by_cases h2 : le = 0
          · rw [if_pos (by rw [h2]; decide)]; exact x2
          · rw [if_neg (nI_nle (by omega) (by omega)), if_pos (nI_le (by omega) (by omega))]; exact x2
end AK
theorem ask_run {sw : Bool} {σ : Sg} {ς : Lg} {H D n m w : Nat} (h : CC sw σ (σ 308) H D n m) (hw : w < 2 ^ n) : ∃ r, f_X11_bestQuestion_L20 1000000 3 (nI w) (nI (cnt w.testBit 0 n)) (-1) (nI (cnt w.testBit 0 n)) (1 : Int32) (enc sw σ ς) = some (r, enc sw σ ς) ∧ f_X13_ask_L13 1000000 302 (nI w) (-1) (7 : Int32) (1 : Int32) (enc sw σ ς) = some (r, enc sw σ ς) := by
  have e1 : (1 : Int32) = nI 1 := rfl
  have e7 : (7 : Int32) = nI 7 := rfl
  rw [e1, e7]
  have hf : ∀ f, 198 < f → ∃ r, f_X11_bestQuestion_L20 f 3 (nI w) (nI (cnt w.testBit 0 n)) (-nI 1) (nI (cnt w.testBit 0 n)) (nI 1) (enc sw σ ς) = some (r, enc sw σ ς) ∧ f_X13_ask_L13 f 302 (nI w) (-nI 1) (nI 7) (nI 1) (enc sw σ ς) = some (r, enc sw σ ς) := fun f hf => ask_L (ς := ς) h hw 198 1 f f (cnt w.testBit 0 n) 7 (-nI 1) (by omega) hf hf (Or.inl ⟨rfl, rfl⟩)
  exact hf 1000000 (by omega)
theorem ask_c1 {sw : Bool} {σ : Sg} {ς : Lg} {w A : Nat} {r : Int32} (hC : f_X11_fitting 269 3 (enc sw σ ς) = some (nI w, enc sw σ ς)) (hb : f_J6_bitCount_0f7a4 (nI w) (enc sw σ ς) = some (nI A, enc sw σ ς)) (x1 : f_X11_bestQuestion_L20 1000000 3 (nI w) (nI A) (-1) (nI A) (1 : Int32) (enc sw σ ς) = some (r, enc sw σ ς)) : f_X12_ask 0 (enc sw σ ς) = some (r, enc sw σ ς) := by
  have hq : f_X11_bestQuestion 269 3 (enc sw σ ς) = some (r, enc sw σ ς) := by
    unfold f_X11_bestQuestion
    rw [if_pos io_Te, hC, bT1_some, hb, bT1_some, x1, bT1_some]
  unfold f_X12_ask
  rw [if_pos io_LD, gr_LD_5, Option.bind_some, gr_LD_1, Option.bind_some, hq, bT1_some]
theorem ask_m1 {sw : Bool} {σ : Sg} {ς : Lg} {w : Nat} {r : Int32} (hM : f_X13_couldBe 302 (enc sw σ ς) = some (nI w, enc sw σ ς)) (x2 : f_X13_ask_L13 1000000 302 (nI w) (-1) (7 : Int32) (1 : Int32) (enc sw σ ς) = some (r, enc sw σ ς)) : f_X13_ask 302 (enc sw σ ς) = some (r, enc sw σ ς) := by
  unfold f_X13_ask
  rw [if_pos io_Mo, hM, bT1_some, x2, bT1_some]
theorem al_ask : Alike (f_X12_ask 0) (f_X13_ask 302) := by
  refine Alike.look fun sw σ ς len H D n m k nx q e h => ?_
  have hn6 := h.2.2.1.1.2.2.1
  have hw := setR_lt (fun s => fitR (σ 313) (σ 308 (6 + s)) 0 q) n n 0 0 (Nat.two_pow_pos n) (by omega)
  have hb := bitc_ok _ (two_le hw hn6) (enc sw σ ς)
  rw [cnt_6n hn6 (fun j hj => bit_hi hw hj)] at hb
  obtain ⟨r, x1, x2⟩ := ask_run (ς := ς) h.cc hw
  exact ⟨r, ask_c1 (could_Cc h.cc h.2.2.2.2.2.2.2.1) hb x1, ask_m1 (could_Mm h.2.2.1 h.2.2.2.2.2.2.2.1) x2⟩
