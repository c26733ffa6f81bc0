/-! what is told of the night -/
theorem mx_keep {x v : Int32} (h : x ≤ v) : (if v ≤ x then x else v) = v := by
  by_cases h2 : v ≤ x
  · rw [if_pos h2]; exact Int32.le_antisymm h h2
  · rw [if_neg h2]
theorem mx_take {x v : Int32} (h : ¬ x ≤ v) : (if v ≤ x then x else v) = x := by
  rw [if_pos]
  exact Int32.le_of_lt (Int32.not_le.mp h)
section TO
variable {sw : Bool} {σ : Sg} {ς : Lg} {V : Nat → Int32} {H D n m s : Nat}
theorem maxI_M (a b : Int32) : f_X13_max 302 a b (enc sw σ ς) = some (if a ≤ b then b else a, enc sw σ ς) := by
  unfold f_X13_max
  rw [if_pos io_Mo]
  by_cases h : a ≤ b
  · rw [if_pos h, if_pos h]
  · rw [if_neg h, if_neg h]
theorem last_L (h : CC sw σ (σ 308) H D n m) : ∀ (d i f g : Nat) (b v : Int32), i + d = n → d < f → d < g →
    ∃ r, f_X5_lastSinger_L6 f 3 b v (nI i) (enc sw σ ς) = some (r, enc sw σ ς) ∧ f_X13_last_L6 g 302 b v (nI i) (enc sw σ ς) = some (r, enc sw σ ς) := by
  obtain ⟨⟨r1, r2, r3, r4⟩, r5, r6, ⟨c1, c2, c3, c4⟩, ⟨d1, d2, d3, d4⟩, -⟩ := id h.1
  intro d
  induction d with
  | zero =>
    intro i f g b v hi hf hg
    obtain ⟨f, rfl⟩ : ∃ f', f = f' + 1 := ⟨f - 1, by omega⟩
    obtain ⟨g, rfl⟩ : ∃ g', g = g' + 1 := ⟨g - 1, by omega⟩
    refine ⟨b, ?_, ?_⟩
    · show F_X5_lastSinger_L6 (f_X5_lastSinger_L6 f) 3 b v (nI i) (enc sw σ ς) = _
      unfold F_X5_lastSinger_L6
      rw [gr_Mt_1, Option.bind_some, gi_Ra_9, Option.bind_some, c3, if_pos (nI_le (show n ≤ i by omega) (by omega))]
    · show F_X13_last_L6 (f_X13_last_L6 g) 302 b v (nI i) (enc sw σ ς) = _
      unfold F_X13_last_L6
      rw [gi_Mo_5, Option.bind_some, d3, if_pos (nI_le (show n ≤ i by omega) (by omega))]
  | succ d ih =>
    intro i f g b v hi hf hg
    obtain ⟨f, rfl⟩ : ∃ f', f = f' + 1 := ⟨f - 1, by omega⟩
    obtain ⟨g, rfl⟩ : ∃ g', g = g' + 1 := ⟨g - 1, by omega⟩
    have l1 : i < 6 := by omega
    have hng : ¬ nI n ≤ nI i := nI_ge (by omega) (by omega)
    have e6 : σ 6 i = σ 308 (6 + i) := (h.2.1.1 i (by omega)).2.1
    have i6 : (6 : Int32) + nI i = nI (6 + i) := nI_add 6 i
    have l6 : 6 + i < 51 := by omega
    by_cases hle : σ 308 (6 + i) ≤ v
    · obtain ⟨r, x1, x2⟩ := ih (i + 1) f g b v (by omega) (by omega) (by omega)
      refine ⟨r, ?_, ?_⟩
      · show F_X5_lastSinger_L6 (f_X5_lastSinger_L6 f) 3 b v (nI i) (enc sw σ ς) = _
        simp only [F_X5_lastSinger_L6, if_true, ite_true, reduceIte, Option.bind_some, Option.bind_none, bT1_some, io_LD, io_Rd, io_Mt, io_Nt, io_Pl, io_Ro, io_Pa, io_Te, io_Bo, io_Ia, io_Ib, io_Mo, io_Ra, io_Rb, gr_LD_0, gr_LD_1, gr_LD_2, gr_LD_3, gr_LD_4, gr_LD_5, gr_LD_6, gr_LD_7, gr_LD_8, gr_Rd_0, gr_Mt_0, gr_Mt_1, gr_Nt_0, gr_Nt_1, gr_Nt_2, gr_Nt_3, gr_Nt_4, gr_Nt_5, gr_Nt_6, gr_Pl_0, gr_Pl_1, gr_Ro_0, gr_Ro_1, gr_Ro_2, gr_Pa_0, gr_Te_0, gr_Te_1, gr_Bo_0, gr_Bo_1, gr_Ia_0, gr_Ib_0, gr_Mo_0, gr_Mo_7, gr_Mo_8, gr_Mo_9, gr_Mo_10, gr_Mo_11, gr_Mo_12, gr_Mo_15, gr_Mo_16, gr_Mo_17, gr_Mo_18, gr_Mo_20, gr_Mo_28, gr_Mo_29, gr_Mo_32, gr_Mo_33, gr_Mo_34, gr_Mo_35, gr_Mo_36, gr_Mo_37, gr_Ra_0, gr_Ra_1, gr_Ra_2, gr_Ra_3, gr_Ra_4, gr_Ra_5, gr_Ra_6, gr_Rb_0, gr_Rb_1, gr_Rb_2, gr_Rb_3, gr_Rb_4, gr_Rb_5, gr_Rb_6, gi_LD_9, gi_Rd_1, gi_Rd_2, gi_Rd_3, gi_Rd_4, gi_Nt_7, gi_Nt_8, gi_Nt_9, gi_Nt_10, gi_Pl_2, gi_Pl_3, gi_Ro_3, gi_Ro_4, gi_Ro_5, gi_Pa_1, gi_Pa_2, gi_Te_2, gi_Bo_2, gi_Ia_1, gi_Ia_2, gi_Ib_1, gi_Ib_2, gi_Mo_1, gi_Mo_2, gi_Mo_3, gi_Mo_4, gi_Mo_5, gi_Mo_6, gi_Mo_13, gl_Mo_14, gi_Mo_19, gi_Mo_21, gi_Mo_22, gi_Mo_23, gi_Mo_24, gi_Mo_25, gi_Mo_26, gi_Mo_27, gi_Mo_30, gi_Mo_31, gi_Ra_7, gi_Ra_8, gi_Ra_9, gi_Ra_10, gi_Rb_7, gi_Rb_8, gi_Rb_9, gi_Rb_10, c3, hng, if_false, ai_6 l1, e6, hle, nI_1]
        exact x1
      · show F_X13_last_L6 (f_X13_last_L6 g) 302 b v (nI i) (enc sw σ ς) = _
        simp only [F_X13_last_L6, f_X13_last_32, if_true, ite_true, reduceIte, Option.bind_some, Option.bind_none, bT1_some, io_LD, io_Rd, io_Mt, io_Nt, io_Pl, io_Ro, io_Pa, io_Te, io_Bo, io_Ia, io_Ib, io_Mo, io_Ra, io_Rb, gr_LD_0, gr_LD_1, gr_LD_2, gr_LD_3, gr_LD_4, gr_LD_5, gr_LD_6, gr_LD_7, gr_LD_8, gr_Rd_0, gr_Mt_0, gr_Mt_1, gr_Nt_0, gr_Nt_1, gr_Nt_2, gr_Nt_3, gr_Nt_4, gr_Nt_5, gr_Nt_6, gr_Pl_0, gr_Pl_1, gr_Ro_0, gr_Ro_1, gr_Ro_2, gr_Pa_0, gr_Te_0, gr_Te_1, gr_Bo_0, gr_Bo_1, gr_Ia_0, gr_Ib_0, gr_Mo_0, gr_Mo_7, gr_Mo_8, gr_Mo_9, gr_Mo_10, gr_Mo_11, gr_Mo_12, gr_Mo_15, gr_Mo_16, gr_Mo_17, gr_Mo_18, gr_Mo_20, gr_Mo_28, gr_Mo_29, gr_Mo_32, gr_Mo_33, gr_Mo_34, gr_Mo_35, gr_Mo_36, gr_Mo_37, gr_Ra_0, gr_Ra_1, gr_Ra_2, gr_Ra_3, gr_Ra_4, gr_Ra_5, gr_Ra_6, gr_Rb_0, gr_Rb_1, gr_Rb_2, gr_Rb_3, gr_Rb_4, gr_Rb_5, gr_Rb_6, gi_LD_9, gi_Rd_1, gi_Rd_2, gi_Rd_3, gi_Rd_4, gi_Nt_7, gi_Nt_8, gi_Nt_9, gi_Nt_10, gi_Pl_2, gi_Pl_3, gi_Ro_3, gi_Ro_4, gi_Ro_5, gi_Pa_1, gi_Pa_2, gi_Te_2, gi_Bo_2, gi_Ia_1, gi_Ia_2, gi_Ib_1, gi_Ib_2, gi_Mo_1, gi_Mo_2, gi_Mo_3, gi_Mo_4, gi_Mo_5, gi_Mo_6, gi_Mo_13, gl_Mo_14, gi_Mo_19, gi_Mo_21, gi_Mo_22, gi_Mo_23, gi_Mo_24, gi_Mo_25, gi_Mo_26, gi_Mo_27, gi_Mo_30, gi_Mo_31, gi_Ra_7, gi_Ra_8, gi_Ra_9, gi_Ra_10, gi_Rb_7, gi_Rb_8, gi_Rb_9, gi_Rb_10, d3, hng, if_false, i6, ai_308 l6, hle, maxI_M, mx_keep hle, nI_1]
        exact x2
    · obtain ⟨r, x1, x2⟩ := ih (i + 1) f g (nI i) (σ 308 (6 + i)) (by omega) (by omega) (by omega)
      refine ⟨r, ?_, ?_⟩
      · show F_X5_lastSinger_L6 (f_X5_lastSinger_L6 f) 3 b v (nI i) (enc sw σ ς) = _
        simp only [F_X5_lastSinger_L6, if_true, ite_true, reduceIte, Option.bind_some, Option.bind_none, bT1_some, io_LD, io_Rd, io_Mt, io_Nt, io_Pl, io_Ro, io_Pa, io_Te, io_Bo, io_Ia, io_Ib, io_Mo, io_Ra, io_Rb, gr_LD_0, gr_LD_1, gr_LD_2, gr_LD_3, gr_LD_4, gr_LD_5, gr_LD_6, gr_LD_7, gr_LD_8, gr_Rd_0, gr_Mt_0, gr_Mt_1, gr_Nt_0, gr_Nt_1, gr_Nt_2, gr_Nt_3, gr_Nt_4, gr_Nt_5, gr_Nt_6, gr_Pl_0, gr_Pl_1, gr_Ro_0, gr_Ro_1, gr_Ro_2, gr_Pa_0, gr_Te_0, gr_Te_1, gr_Bo_0, gr_Bo_1, gr_Ia_0, gr_Ib_0, gr_Mo_0, gr_Mo_7, gr_Mo_8, gr_Mo_9, gr_Mo_10, gr_Mo_11, gr_Mo_12, gr_Mo_15, gr_Mo_16, gr_Mo_17, gr_Mo_18, gr_Mo_20, gr_Mo_28, gr_Mo_29, gr_Mo_32, gr_Mo_33, gr_Mo_34, gr_Mo_35, gr_Mo_36, gr_Mo_37, gr_Ra_0, gr_Ra_1, gr_Ra_2, gr_Ra_3, gr_Ra_4, gr_Ra_5, gr_Ra_6, gr_Rb_0, gr_Rb_1, gr_Rb_2, gr_Rb_3, gr_Rb_4, gr_Rb_5, gr_Rb_6, gi_LD_9, gi_Rd_1, gi_Rd_2, gi_Rd_3, gi_Rd_4, gi_Nt_7, gi_Nt_8, gi_Nt_9, gi_Nt_10, gi_Pl_2, gi_Pl_3, gi_Ro_3, gi_Ro_4, gi_Ro_5, gi_Pa_1, gi_Pa_2, gi_Te_2, gi_Bo_2, gi_Ia_1, gi_Ia_2, gi_Ib_1, gi_Ib_2, gi_Mo_1, gi_Mo_2, gi_Mo_3, gi_Mo_4, gi_Mo_5, gi_Mo_6, gi_Mo_13, gl_Mo_14, gi_Mo_19, gi_Mo_21, gi_Mo_22, gi_Mo_23, gi_Mo_24, gi_Mo_25, gi_Mo_26, gi_Mo_27, gi_Mo_30, gi_Mo_31, gi_Ra_7, gi_Ra_8, gi_Ra_9, gi_Ra_10, gi_Rb_7, gi_Rb_8, gi_Rb_9, gi_Rb_10, c3, hng, if_false, ai_6 l1, e6, hle, nI_1]
        exact x1
      · show F_X13_last_L6 (f_X13_last_L6 g) 302 b v (nI i) (enc sw σ ς) = _
        simp only [F_X13_last_L6, f_X13_last_32, if_true, ite_true, reduceIte, Option.bind_some, Option.bind_none, bT1_some, io_LD, io_Rd, io_Mt, io_Nt, io_Pl, io_Ro, io_Pa, io_Te, io_Bo, io_Ia, io_Ib, io_Mo, io_Ra, io_Rb, gr_LD_0, gr_LD_1, gr_LD_2, gr_LD_3, gr_LD_4, gr_LD_5, gr_LD_6, gr_LD_7, gr_LD_8, gr_Rd_0, gr_Mt_0, gr_Mt_1, gr_Nt_0, gr_Nt_1, gr_Nt_2, gr_Nt_3, gr_Nt_4, gr_Nt_5, gr_Nt_6, gr_Pl_0, gr_Pl_1, gr_Ro_0, gr_Ro_1, gr_Ro_2, gr_Pa_0, gr_Te_0, gr_Te_1, gr_Bo_0, gr_Bo_1, gr_Ia_0, gr_Ib_0, gr_Mo_0, gr_Mo_7, gr_Mo_8, gr_Mo_9, gr_Mo_10, gr_Mo_11, gr_Mo_12, gr_Mo_15, gr_Mo_16, gr_Mo_17, gr_Mo_18, gr_Mo_20, gr_Mo_28, gr_Mo_29, gr_Mo_32, gr_Mo_33, gr_Mo_34, gr_Mo_35, gr_Mo_36, gr_Mo_37, gr_Ra_0, gr_Ra_1, gr_Ra_2, gr_Ra_3, gr_Ra_4, gr_Ra_5, gr_Ra_6, gr_Rb_0, gr_Rb_1, gr_Rb_2, gr_Rb_3, gr_Rb_4, gr_Rb_5, gr_Rb_6, gi_LD_9, gi_Rd_1, gi_Rd_2, gi_Rd_3, gi_Rd_4, gi_Nt_7, gi_Nt_8, gi_Nt_9, gi_Nt_10, gi_Pl_2, gi_Pl_3, gi_Ro_3, gi_Ro_4, gi_Ro_5, gi_Pa_1, gi_Pa_2, gi_Te_2, gi_Bo_2, gi_Ia_1, gi_Ia_2, gi_Ib_1, gi_Ib_2, gi_Mo_1, gi_Mo_2, gi_Mo_3, gi_Mo_4, gi_Mo_5, gi_Mo_6, gi_Mo_13, gl_Mo_14, gi_Mo_19, gi_Mo_21, gi_Mo_22, gi_Mo_23, gi_Mo_24, gi_Mo_25, gi_Mo_26, gi_Mo_27, gi_Mo_30, gi_Mo_31, gi_Ra_7, gi_Ra_8, gi_Ra_9, gi_Ra_10, gi_Rb_7, gi_Rb_8, gi_Rb_9, gi_Rb_10, d3, hng, if_false, i6, ai_308 l6, hle, maxI_M, mx_take hle, nI_1]
        exact x2
theorem last_ok (h : CC sw σ (σ 308) H D n m) : ∃ r, f_X5_lastSinger 3 (enc sw σ ς) = some (r, enc sw σ ς) ∧ f_X13_last 302 (enc sw σ ς) = some (r, enc sw σ ς) := by
  have hf : ∀ f, 6 < f → ∃ r, f_X5_lastSinger_L6 f 3 (-1) (0 : Int32) (0 : Int32) (enc sw σ ς) = some (r, enc sw σ ς) ∧ f_X13_last_L6 f 302 (-1) (0 : Int32) (0 : Int32) (enc sw σ ς) = some (r, enc sw σ ς) := fun f hf => last_L h n 0 f f (-1) 0 (by omega) (by have := h.1.1; omega) (by have := h.1.1; omega)
  obtain ⟨r, x1, x2⟩ := hf 1000000 (by omega)
  refine ⟨r, ?_, ?_⟩
  · unfold f_X5_lastSinger; rw [x1, bT1_some]
  · unfold f_X13_last; rw [if_pos io_Mo, x2, bT1_some]
theorem hard_L (h : CC sw σ (σ 308) H D n m) : ∀ (d i f g : Nat) (b v : Int32), i + d = m → d < f → d < g →
    ∃ r, f_X5_hardestChild_L6 f 3 b v (nI i) (enc sw σ ς) = some (r, enc sw σ ς) ∧ f_X13_hardest_L6 g 302 b v (nI i) (enc sw σ ς) = some (r, enc sw σ ς) := by
  obtain ⟨⟨r1, r2, r3, r4⟩, r5, r6, ⟨c1, c2, c3, c4⟩, ⟨d1, d2, d3, d4⟩, -⟩ := id h.1
  intro d
  induction d with
  | zero =>
    intro i f g b v hi hf hg
    obtain ⟨f, rfl⟩ : ∃ f', f = f' + 1 := ⟨f - 1, by omega⟩
    obtain ⟨g, rfl⟩ : ∃ g', g = g' + 1 := ⟨g - 1, by omega⟩
    refine ⟨b, ?_, ?_⟩
    · show F_X5_hardestChild_L6 (f_X5_hardestChild_L6 f) 3 b v (nI i) (enc sw σ ς) = _
      unfold F_X5_hardestChild_L6
      rw [gr_Mt_1, Option.bind_some, gi_Ra_10, Option.bind_some, c4, if_pos (nI_le (show m ≤ i by omega) (by omega))]
    · show F_X13_hardest_L6 (f_X13_hardest_L6 g) 302 b v (nI i) (enc sw σ ς) = _
      unfold F_X13_hardest_L6
      rw [gi_Mo_6, Option.bind_some, d4, if_pos (nI_le (show m ≤ i by omega) (by omega))]
  | succ d ih =>
    intro i f g b v hi hf hg
    obtain ⟨f, rfl⟩ : ∃ f', f = f' + 1 := ⟨f - 1, by omega⟩
    obtain ⟨g, rfl⟩ : ∃ g', g = g' + 1 := ⟨g - 1, by omega⟩
    have hng : ¬ nI m ≤ nI i := nI_ge (by omega) (by omega)
    have hC := needs_C (ς := ς) h (show i < m by omega)
    have hM := needs_M (sw := sw) (ς := ς) h.2.2 (h.2.1.asleep (show i < m by omega)) (show i < m by omega) r4
    have goC : ∀ r, (if nI (zN (σ 308) (σ 306) (σ 307) i) ≤ v then f_X5_hardestChild_L6 f 3 b v (nI (i + 1)) (enc sw σ ς) else f_X5_hardestChild_L6 f 3 (nI i) (nI (zN (σ 308) (σ 306) (σ 307) i)) (nI (i + 1)) (enc sw σ ς)) = r → f_X5_hardestChild_L6 (f + 1) 3 b v (nI i) (enc sw σ ς) = r := by
      intro r hr
      show F_X5_hardestChild_L6 (f_X5_hardestChild_L6 f) 3 b v (nI i) (enc sw σ ς) = _
      unfold F_X5_hardestChild_L6
      rw [gr_Mt_1, Option.bind_some, gi_Ra_10, Option.bind_some, c4, if_neg hng, hC, bT1_some, nI_1]
      exact hr
    have goM : ∀ r, (if nI (zN (σ 308) (σ 306) (σ 307) i) ≤ v then f_X13_hardest_28 (f_X13_hardest_L6 g) 302 v (nI i) b (enc sw σ ς) else f_X13_hardest_28 (f_X13_hardest_L6 g) 302 v (nI i) (nI i) (enc sw σ ς)) = r → f_X13_hardest_L6 (g + 1) 302 b v (nI i) (enc sw σ ς) = r := by
      intro r hr
      show F_X13_hardest_L6 (f_X13_hardest_L6 g) 302 b v (nI i) (enc sw σ ς) = _
      unfold F_X13_hardest_L6
      rw [gi_Mo_6, Option.bind_some, d4, if_neg hng, hM, bT1_some]
      exact hr
    have go28 : ∀ t : Int32, f_X13_hardest_28 (f_X13_hardest_L6 g) 302 v (nI i) t (enc sw σ ς) = f_X13_hardest_L6 g 302 t (if v ≤ nI (zN (σ 308) (σ 306) (σ 307) i) then nI (zN (σ 308) (σ 306) (σ 307) i) else v) (nI (i + 1)) (enc sw σ ς) := by
      intro t
      unfold f_X13_hardest_28
      rw [hM, bT1_some, maxI_M, bT1_some, nI_1]
    by_cases hle : nI (zN (σ 308) (σ 306) (σ 307) i) ≤ v
    · obtain ⟨r, x1, x2⟩ := ih (i + 1) f g b v (by omega) (by omega) (by omega)
      refine ⟨r, goC _ ?_, goM _ ?_⟩
      · rw [if_pos hle]; exact x1
      · rw [if_pos hle, go28, mx_keep hle]; exact x2
    · obtain ⟨r, x1, x2⟩ := ih (i + 1) f g (nI i) (nI (zN (σ 308) (σ 306) (σ 307) i)) (by omega) (by omega) (by omega)
      refine ⟨r, goC _ ?_, goM _ ?_⟩
      · rw [if_neg hle]; exact x1
      · rw [if_neg hle, go28, mx_take hle]; exact x2
theorem hard_ok (h : CC sw σ (σ 308) H D n m) : ∃ r, f_X5_hardestChild 3 (enc sw σ ς) = some (r, enc sw σ ς) ∧ f_X13_hardest 302 (enc sw σ ς) = some (r, enc sw σ ς) := by
  have hf : ∀ f, 6 < f → ∃ r, f_X5_hardestChild_L6 f 3 (-1) (-1) (0 : Int32) (enc sw σ ς) = some (r, enc sw σ ς) ∧ f_X13_hardest_L6 f 302 (-1) (-1) (0 : Int32) (enc sw σ ς) = some (r, enc sw σ ς) := fun f hf => hard_L h m 0 f f (-1) (-1) (by omega) (by have := h.1.1; omega) (by have := h.1.1; omega)
  obtain ⟨r, x1, x2⟩ := hf 1000000 (by omega)
  refine ⟨r, ?_, ?_⟩
  · unfold f_X5_hardestChild; rw [x1, bT1_some]
  · unfold f_X13_hardest; rw [if_pos io_Mo, x2, bT1_some]
/-! how far apart they lie -/
theorem spread_in (h : I_row (rA sw) σ H D n m) (hN : NB n m H (σ 306) (σ 307) (σ 308)) {a : Nat} (ha : a < m) : ∀ (d i f acc : Nat), i + d = a → d < f → acc < 20 →
    ∃ r, f_X13_spread_L14 f 302 (nI acc) (nI a) (nI i) (enc sw σ ς) = some (nI r, enc sw σ ς) ∧ acc ≤ r ∧ r < 20 ∧ (∀ b, i ≤ b → b < a → (nV (σ 308) (24 + a) - nV (σ 308) (24 + b)) + (nV (σ 308) (24 + b) - nV (σ 308) (24 + a)) ≤ r) ∧ (r = acc ∨ ∃ b, b < a ∧ r = (nV (σ 308) (24 + a) - nV (σ 308) (24 + b)) + (nV (σ 308) (24 + b) - nV (σ 308) (24 + a))) := by
  obtain ⟨⟨r1, r2, r3, r4⟩, -⟩ := id h
  have hxa := hN.lies ha r1
  intro d
  induction d with
  | zero =>
    intro i f acc hi hf hacc
    obtain ⟨f, rfl⟩ : ∃ f', f = f' + 1 := ⟨f - 1, by omega⟩
    refine ⟨acc, ?_, Nat.le_refl _, hacc, fun b h1 h2 => absurd h2 (by omega), Or.inl rfl⟩
    show F_X13_spread_L14 (f_X13_spread_L14 f) 302 (nI acc) (nI a) (nI i) (enc sw σ ς) = _
    unfold F_X13_spread_L14
    rw [if_pos (nI_le (show a ≤ i by omega) (by omega))]
  | succ d ih =>
    intro i f acc hi hf hacc
    obtain ⟨f, rfl⟩ : ∃ f', f = f' + 1 := ⟨f - 1, by omega⟩
    have hxi := hN.lies (show i < m by omega) r1
    have i1 : (24 : Int32) + nI a = nI (24 + a) := nI_add 24 a
    have i2 : (24 : Int32) + nI i = nI (24 + i) := nI_add 24 i
    have l1 : 24 + a < 51 := by omega
    have l2 : 24 + i < 51 := by omega
    have hng : ¬ nI a ≤ nI i := nI_ge (by omega) (by omega)
    have hap := apart_M (sw := sw) (σ := σ) (ς := ς) (a := nV (σ 308) (24 + a)) (b := nV (σ 308) (24 + i)) (by omega) (by omega)
    generalize hx : (nV (σ 308) (24 + a) - nV (σ 308) (24 + i)) + (nV (σ 308) (24 + i) - nV (σ 308) (24 + a)) = x at hap
    obtain ⟨r, x1, x2, x3, x4, x5⟩ := ih (i + 1) f (max acc x) (by omega) (by omega) (by omega)
    refine ⟨r, ?_, by omega, x3, fun b h1 h2 => ?_, ?_⟩
    · show F_X13_spread_L14 (f_X13_spread_L14 f) 302 (nI acc) (nI a) (nI i) (enc sw σ ς) = _
      unfold F_X13_spread_L14
      rw [if_neg hng, gr_Mo_11, Option.bind_some, i1, ai_308 l1, Option.bind_some, Option.bind_some, i2, ai_308 l2, Option.bind_some, hxa.1, hxi.1, hap, bT1_some, max_M (by omega) (by omega), bT1_some, nI_1]
      exact x1
    · by_cases hb : b = i
      · subst hb; rw [hx]; exact Nat.le_trans (Nat.le_max_right acc x) x2
      · exact x4 b (by omega) h2
    · rcases x5 with x5 | x5
      · by_cases hm : acc ≤ x
        · exact Or.inr ⟨i, by omega, by rw [hx]; omega⟩
        · exact Or.inl (by omega)
      · exact Or.inr x5
theorem spread_L (h : CC sw σ (σ 308) H D n m) : ∀ (d i f g lo hi : Nat), i + d = m → d < f → d < g → lo ≤ 20 → hi < 20 → (∀ b, b < i → lo ≤ nV (σ 308) (24 + b) ∧ nV (σ 308) (24 + b) ≤ hi) → (0 < i → (∃ b, b < i ∧ nV (σ 308) (24 + b) = lo) ∧ ∃ b, b < i ∧ nV (σ 308) (24 + b) = hi) → (i = 0 → hi = 0 ∧ lo = 20) →
    ∃ lo' hi', lo' ≤ 20 ∧ hi' < 20 ∧ f_X5_spreadOfChildren_L7 f 3 (nI lo) (nI hi) (nI i) (enc sw σ ς) = some (nI lo', nI hi', enc sw σ ς) ∧ f_X13_spread_L4 g 302 (nI (hi - lo)) (nI i) (enc sw σ ς) = some (nI (hi' - lo'), enc sw σ ς) := by
  obtain ⟨⟨r1, r2, r3, r4⟩, r5, r6, ⟨c1, c2, c3, c4⟩, ⟨d1, d2, d3, d4⟩, -⟩ := id h.1
  intro d
  induction d with
  | zero =>
    intro i f g lo hi hi' hf hg hlo hhi hall hex h0
    obtain ⟨f, rfl⟩ : ∃ f', f = f' + 1 := ⟨f - 1, by omega⟩
    obtain ⟨g, rfl⟩ : ∃ g', g = g' + 1 := ⟨g - 1, by omega⟩
    refine ⟨lo, hi, hlo, hhi, ?_, ?_⟩
    · show F_X5_spreadOfChildren_L7 (f_X5_spreadOfChildren_L7 f) 3 (nI lo) (nI hi) (nI i) (enc sw σ ς) = _
      unfold F_X5_spreadOfChildren_L7
      rw [gr_Mt_1, Option.bind_some, gi_Ra_10, Option.bind_some, c4, if_pos (nI_le (show m ≤ i by omega) (by omega))]
    · show F_X13_spread_L4 (f_X13_spread_L4 g) 302 (nI (hi - lo)) (nI i) (enc sw σ ς) = _
      unfold F_X13_spread_L4
      rw [gi_Mo_6, Option.bind_some, d4, if_pos (nI_le (show m ≤ i by omega) (by omega))]
  | succ d ih =>
    intro i f g lo hi hi' hf hg hlo hhi hall hex h0
    obtain ⟨f, rfl⟩ : ∃ f', f = f' + 1 := ⟨f - 1, by omega⟩
    obtain ⟨g, rfl⟩ : ∃ g', g = g' + 1 := ⟨g - 1, by omega⟩
    have him : i < m := by omega
    have l1 : i < 6 := by omega
    have hng : ¬ nI m ≤ nI i := nI_ge (by omega) (by omega)
    have hx := h.2.2.lies him r1
    have e9 : σ 9 i = nI (nV (σ 308) (24 + i)) := ((h.2.1.2.1 i him).1).trans hx.1
    have hin : ∀ k, 6 < k → ∃ r, f_X13_spread_L14 k 302 (nI (hi - lo)) (nI i) (0 : Int32) (enc sw σ ς) = some (nI r, enc sw σ ς) ∧ hi - lo ≤ r ∧ r < 20 ∧ (∀ b, 0 ≤ b → b < i → (nV (σ 308) (24 + i) - nV (σ 308) (24 + b)) + (nV (σ 308) (24 + b) - nV (σ 308) (24 + i)) ≤ r) ∧ (r = hi - lo ∨ ∃ b, b < i ∧ r = (nV (σ 308) (24 + i) - nV (σ 308) (24 + b)) + (nV (σ 308) (24 + b) - nV (σ 308) (24 + i))) := fun k hk => spread_in h.1 h.2.2 him i 0 k (hi - lo) (by omega) (by omega) (by omega)
    obtain ⟨r, y1, y2, y3, y4, y5⟩ := hin 1000000 (by omega)
    have hr : r = max hi (nV (σ 308) (24 + i)) - min lo (nV (σ 308) (24 + i)) := by
      by_cases hi0 : i = 0
      · obtain ⟨z1, z2⟩ := h0 hi0
        rcases y5 with y5 | ⟨b, b1, b2⟩
        · omega
        · omega
      · obtain ⟨⟨b1, b2, b3⟩, ⟨b4, b5, b6⟩⟩ := hex (by omega)
        have q1 := y4 b1 (by omega) b2
        have q2 := y4 b4 (by omega) b5
        have q3 := hall b1 b2
        rcases y5 with y5 | ⟨b, b7, b8⟩
        · omega
        · have := hall b b7
          omega
    obtain ⟨lo', hi'', w1, w2, w3, w4⟩ := ih (i + 1) f g (min lo (nV (σ 308) (24 + i))) (max hi (nV (σ 308) (24 + i))) (by omega) (by omega) (by omega) (by omega) (by omega)
      (fun b hb => by
        by_cases hbi : b = i
        · subst hbi; omega
        · have := hall b (by omega); omega)
      (fun _ => by
        refine ⟨?_, ?_⟩
        · by_cases hle : i = 0 ∨ nV (σ 308) (24 + i) ≤ lo
          · refine ⟨i, by omega, ?_⟩
            rcases hle with z | z
            · have := h0 z
              omega
            · omega
          · obtain ⟨b1, b2, b3⟩ := (hex (by omega)).1
            exact ⟨b1, by omega, by omega⟩
        · by_cases hle : i = 0 ∨ hi ≤ nV (σ 308) (24 + i)
          · refine ⟨i, by omega, ?_⟩
            rcases hle with z | z
            · have := h0 z
              omega
            · omega
          · obtain ⟨b1, b2, b3⟩ := (hex (by omega)).2
            exact ⟨b1, by omega, by omega⟩)
      (fun z => absurd z (by omega))
    refine ⟨lo', hi'', w1, w2, ?_, ?_⟩
    · show F_X5_spreadOfChildren_L7 (f_X5_spreadOfChildren_L7 f) 3 (nI lo) (nI hi) (nI i) (enc sw σ ς) = _
      unfold F_X5_spreadOfChildren_L7
      rw [gr_Mt_1, Option.bind_some, gi_Ra_10, Option.bind_some, c4, if_neg hng, gr_Mt_0, Option.bind_some, gr_Nt_4, Option.bind_some, ai_9 l1, Option.bind_some, Option.bind_some, gr_Nt_4, Option.bind_some, ai_9 l1, Option.bind_some, e9, min_C (by omega) (by omega), max_C (by omega) (by omega), nI_1]
      exact w3
    · show F_X13_spread_L4 (f_X13_spread_L4 g) 302 (nI (hi - lo)) (nI i) (enc sw σ ς) = _
      unfold F_X13_spread_L4
      rw [gi_Mo_6, Option.bind_some, d4, if_neg hng, y1, bT1_some, nI_1, hr]
      exact w4
theorem spread_ok (h : CC sw σ (σ 308) H D n m) : ∃ r, f_X5_spreadOfChildren 3 (enc sw σ ς) = some (r, enc sw σ ς) ∧ f_X13_spread 302 (enc sw σ ς) = some (r, enc sw σ ς) := by
  have hf : ∀ f, 6 < f → ∃ lo' hi', lo' ≤ 20 ∧ hi' < 20 ∧ f_X5_spreadOfChildren_L7 f 3 (20 : Int32) (0 : Int32) (0 : Int32) (enc sw σ ς) = some (nI lo', nI hi', enc sw σ ς) ∧ f_X13_spread_L4 f 302 (0 : Int32) (0 : Int32) (enc sw σ ς) = some (nI (hi' - lo'), enc sw σ ς) := fun f hf => spread_L h m 0 f f 20 0 (by omega) (by have := h.1.1; omega) (by have := h.1.1; omega) (by omega) (by omega) (fun b hb => absurd hb (by omega)) (fun z => absurd z (by omega)) (fun _ => ⟨rfl, rfl⟩)
  obtain ⟨lo, hi, z1, z2, x1, x2⟩ := hf 1000000 (by omega)
  refine ⟨nI (hi - lo), ?_, ?_⟩
  · unfold f_X5_spreadOfChildren; rw [x1, bT2_some, relu_C (by omega) (by omega)]
  · unfold f_X13_spread; rw [if_pos io_Mo, x2, bT1_some]
/-! sets -/
theorem free_LC (h : CC sw σ V H D n m) : ∀ (d i f w : Nat), i + d = n → d < f → w < 64 → f_X5_freeSingers_L4 f 3 (nI w) (nI i) (enc sw σ ς) = some (nI (setR (fun s => decide (V (6 + s) = 0)) w i d), enc sw σ ς) := by
  obtain ⟨⟨r1, r2, r3, r4⟩, r5, r6, ⟨c1, c2, c3, c4⟩, -⟩ := id h.1
  intro d
  induction d with
  | zero =>
    intro i f w hi hf hw
    obtain ⟨f, rfl⟩ : ∃ f', f = f' + 1 := ⟨f - 1, by omega⟩
    show F_X5_freeSingers_L4 (f_X5_freeSingers_L4 f) 3 (nI w) (nI i) (enc sw σ ς) = _
    unfold F_X5_freeSingers_L4
    rw [gr_Mt_1, Option.bind_some, gi_Ra_9, Option.bind_some, c3, if_pos (nI_le (show n ≤ i by omega) (by omega))]
    rfl
  | succ d ih =>
    intro i f w hi hf hw
    obtain ⟨f, rfl⟩ : ∃ f', f = f' + 1 := ⟨f - 1, by omega⟩
    have hng : ¬ nI n ≤ nI i := nI_ge (by omega) (by omega)
    have l1 : i < 6 := by omega
    have e6 : σ 6 i = V (6 + i) := (h.2.1.1 i (by omega)).2.1
    show F_X5_freeSingers_L4 (f_X5_freeSingers_L4 f) 3 (nI w) (nI i) (enc sw σ ς) = _
    unfold F_X5_freeSingers_L4
    rw [gr_Mt_1, Option.bind_some, gi_Ra_9, Option.bind_some, c3, if_neg hng, gr_Mt_0, Option.bind_some, gr_Nt_1, Option.bind_some, ai_6 l1, Option.bind_some, e6, nI_1]
    unfold setR
    by_cases hp : V (6 + i) = 0
    · rw [if_pos hp, or_ok w hw i l1, ih (i + 1) f _ (by omega) (by omega) (or_lt hw l1)]
      simp only [hp, decide_true, if_true]
    · rw [if_neg hp, ih (i + 1) f _ (by omega) (by omega) hw]
      simp only [hp, decide_false, Bool.false_eq_true, if_false]
theorem sets6_LM (h : I_row (rA sw) σ H D n m) : ∀ (d i f w : Nat), i + d = 6 → d < f → w < 64 → f_X13_sets_L4 f 302 (6 : Int32) (nI w) (nI i) (enc sw σ ς) = some (nI (setR (fun k => decide (k < m) && decide (σ 308 (30 + k) = 0)) w i d), enc sw σ ς) := by
  obtain ⟨⟨r1, r2, r3, r4⟩, r5, r6, -, ⟨d1, d2, d3, d4⟩, -⟩ := id h
  have ne : ¬ (1 : Int32) = 0 := by decide
  intro d
  induction d with
  | zero =>
    intro i f w hi hf hw
    obtain ⟨f, rfl⟩ : ∃ f', f = f' + 1 := ⟨f - 1, by omega⟩
    show F_X13_sets_L4 (f_X13_sets_L4 f) 302 (6 : Int32) (nI w) (nI i) (enc sw σ ς) = _
    unfold F_X13_sets_L4
    rw [if_pos (show (6 : Int32) ≤ nI i from nI_le (a := 6) (by omega) (by omega))]
    rfl
  | succ d ih =>
    intro i f w hi hf hw
    obtain ⟨f, rfl⟩ : ∃ f', f = f' + 1 := ⟨f - 1, by omega⟩
    have l1 : i < 6 := by omega
    have i30 : (30 : Int32) + nI i = nI (30 + i) := nI_add 30 i
    have l30 : 30 + i < 51 := by omega
    show F_X13_sets_L4 (f_X13_sets_L4 f) 302 (6 : Int32) (nI w) (nI i) (enc sw σ ς) = _
    unfold F_X13_sets_L4 f_X13_sets_40 f_X13_sets_69
    rw [if_neg (show ¬ (6 : Int32) ≤ nI i from nI_ge (b := 6) l1 (by omega)), if_pos rfl, gi_Mo_6, Option.bind_some, d4, if_neg ne, if_pos rfl, or_0, nI_1, or_ok w hw i l1]
    unfold setR
    by_cases hm : i < m
    · rw [if_neg (nI_ge hm (by omega)), gr_Mo_11, Option.bind_some, i30, ai_308 l30, Option.bind_some]
      by_cases hp : σ 308 (30 + i) = 0
      · rw [if_pos hp, ih (i + 1) f _ (by omega) (by omega) (or_lt hw l1)]
        simp only [hm, hp, decide_true, Bool.and_self, if_true]
      · rw [if_neg hp, ih (i + 1) f _ (by omega) (by omega) hw]
        simp only [hp, decide_false, Bool.and_false, Bool.false_eq_true, if_false]
    · rw [if_pos (nI_le (by omega) (by omega)), ih (i + 1) f _ (by omega) (by omega) hw]
      simp only [hm, decide_false, Bool.false_and, Bool.false_eq_true, if_false]
theorem sets7_LM (h : I_row (rA sw) σ H D n m) : ∀ (d i f w : Nat), i + d = 6 → d < f → w < 64 → f_X13_sets_L4 f 302 (7 : Int32) (nI w) (nI i) (enc sw σ ς) = some (nI (setR (fun k => decide (k < n) && decide (σ 308 (6 + k) = 0)) w i d), enc sw σ ς) := by
  obtain ⟨⟨r1, r2, r3, r4⟩, r5, r6, -, ⟨d1, d2, d3, d4⟩, -⟩ := id h
  have ne : ¬ (1 : Int32) = 0 := by decide
  intro d
  induction d with
  | zero =>
    intro i f w hi hf hw
    obtain ⟨f, rfl⟩ : ∃ f', f = f' + 1 := ⟨f - 1, by omega⟩
    show F_X13_sets_L4 (f_X13_sets_L4 f) 302 (7 : Int32) (nI w) (nI i) (enc sw σ ς) = _
    unfold F_X13_sets_L4
    rw [if_pos (show (6 : Int32) ≤ nI i from nI_le (a := 6) (by omega) (by omega))]
    rfl
  | succ d ih =>
    intro i f w hi hf hw
    obtain ⟨f, rfl⟩ : ∃ f', f = f' + 1 := ⟨f - 1, by omega⟩
    have l1 : i < 6 := by omega
    have i30 : (6 : Int32) + nI i = nI (6 + i) := nI_add 6 i
    have l30 : 6 + i < 51 := by omega
    show F_X13_sets_L4 (f_X13_sets_L4 f) 302 (7 : Int32) (nI w) (nI i) (enc sw σ ς) = _
    unfold F_X13_sets_L4 f_X13_sets_68 f_X13_sets_69
    rw [if_neg (show ¬ (6 : Int32) ≤ nI i from nI_ge (b := 6) l1 (by omega)), if_neg (show ¬ (7 : Int32) = 6 by decide), gi_Mo_5, Option.bind_some, d3, if_neg ne, if_pos rfl, or_0, nI_1, or_ok w hw i l1]
    unfold setR
    by_cases hm : i < n
    · rw [if_neg (nI_ge hm (by omega)), gr_Mo_11, Option.bind_some, i30, ai_308 l30, Option.bind_some]
      by_cases hp : σ 308 (6 + i) = 0
      · rw [if_pos hp, ih (i + 1) f _ (by omega) (by omega) (or_lt hw l1)]
        simp only [hm, hp, decide_true, Bool.and_self, if_true]
      · rw [if_neg hp, ih (i + 1) f _ (by omega) (by omega) hw]
        simp only [hp, decide_false, Bool.and_false, Bool.false_eq_true, if_false]
    · rw [if_pos (nI_le (by omega) (by omega)), ih (i + 1) f _ (by omega) (by omega) hw]
      simp only [hm, decide_false, Bool.false_and, Bool.false_eq_true, if_false]
theorem setR_all : ∀ w, w < 64 → setR w.testBit 0 0 6 = w := by decide +kernel
theorem setR_6n {P : Nat → Bool} (hn : n ≤ 6) : setR (fun k => decide (k < n) && P k) 0 0 6 = setR P 0 0 n := by
  have h1 := setR_add (P := fun k => decide (k < n) && P k) (6 - n) n 0 0
  rw [show n + (6 - n) = 6 by omega, Nat.zero_add, setR_no (6 - n) _ n (fun j h1 _ => by simp; omega)] at h1
  rw [h1]
  exact setR_congr n 0 0 fun j _ hj => by simp; omega
theorem free_ok (h : CC sw σ (σ 308) H D n m) : ∃ r, f_X5_freeSingers 3 (enc sw σ ς) = some (r, enc sw σ ς) ∧ f_X13_sets 302 (7 : Int32) (enc sw σ ς) = some (r, enc sw σ ς) := by
  have hn6 := h.1.1.2.2.1
  have x1 : ∀ f, 6 < f → f_X5_freeSingers_L4 f 3 (0 : Int32) (0 : Int32) (enc sw σ ς) = _ := fun f hf => free_LC h n 0 f 0 (by omega) (by omega) (by omega)
  have x2 : ∀ f, 6 < f → f_X13_sets_L4 f 302 (7 : Int32) (0 : Int32) (0 : Int32) (enc sw σ ς) = _ := fun f hf => sets7_LM h.1 6 0 f 0 (by omega) (by omega) (by omega)
  refine ⟨nI (setR (fun s => decide (σ 308 (6 + s) = 0)) 0 0 n), ?_, ?_⟩
  · unfold f_X5_freeSingers; rw [x1 1000000 (by omega), bT1_some]
  · unfold f_X13_sets; rw [if_pos io_Mo, x2 1000000 (by omega), bT1_some, setR_6n hn6]
theorem awake_ok (h : CC sw σ (σ 308) H D n m) : f_X13_sets 302 (6 : Int32) (enc sw σ ς) = some (σ 4 7, enc sw σ ς) := by
  have hm6 := h.1.1.2.2.2
  obtain ⟨w, w1, w2, w3⟩ := h.2.1.2.2.1
  have x2 : ∀ f, 6 < f → f_X13_sets_L4 f 302 (6 : Int32) (0 : Int32) (0 : Int32) (enc sw σ ς) = _ := fun f hf => sets6_LM h.1 6 0 f 0 (by omega) (by omega) (by omega)
  have e : setR (fun k => decide (k < m) && decide (σ 308 (30 + k) = 0)) 0 0 6 = w := by
    rw [← setR_all w (two_le w1 hm6)]
    refine setR_congr 6 0 0 fun j _ _ => ?_
    by_cases hj : j < m
    · rw [w3 j hj]
      by_cases hb : w.testBit j = true
      · simp [hj, hb]
      · simp [hj, hb]
    · rw [bit_hi w1 (by omega)]; simp [hj]
  unfold f_X13_sets
  rw [if_pos io_Mo, x2 1000000 (by omega), bT1_some, e, w2]
end TO
