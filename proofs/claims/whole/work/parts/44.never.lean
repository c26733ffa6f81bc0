/-- as bT1_some, but not by mere unfolding: where two calls follow each other the kernel would compare what they answer -/
theorem bT1_so {α γ : Type} (x : α) (h : AH) (F : α → AH → Option γ) : bT1 (some (x, h)) F = F x h := Eq.trans rfl (bT1_some x h F)
/-! how many evenings till all is paid -/
theorem par2_ok {ev : Nat} (h : ev ≤ 1000000) : nI ev - nI ev / (2 : Int32) * (2 : Int32) = nI (ev % 2) := pk_rem (d := 2) (by omega) (by omega) (by omega)
section NE
variable {sw : Bool} {σ : Sg} {ς : Lg} {V : Nat → Int32} {H D n m s : Nat}
theorem songPays2_C (h : I_row (rA sw) σ H D n m) (hs : s < n) {ev : Nat} (he : ev ≤ 1000000) : f_X3_songPays 3 (nI s) (nI ev) (enc sw σ ς) = some (nI (zP1 (nV (σ 304) s) ev), enc sw σ ς) := by
  have hn6 := h.1.2.2.1
  have hs6 : s < 6 := by omega
  have hv := h.voice hs
  have e1 := (h.2.2.2.2.2.1 s hs).1
  simp only [f_X3_songPays, if_true, ite_true, reduceIte, Option.bind_some, Option.bind_none, bT1_some, io_LD, io_Rd, io_Mt, io_Nt, io_Pl, io_Ro, io_Pa, io_Te, io_Bo, io_Ia, io_Ib, io_Mo, io_Ra, io_Rb, gr_LD_0, gr_LD_1, gr_LD_2, gr_LD_3, gr_LD_4, gr_LD_5, gr_LD_6, gr_LD_7, gr_LD_8, gr_Rd_0, gr_Mt_0, gr_Mt_1, gr_Nt_0, gr_Nt_1, gr_Nt_2, gr_Nt_3, gr_Nt_4, gr_Nt_5, gr_Nt_6, gr_Pl_0, gr_Pl_1, gr_Ro_0, gr_Ro_1, gr_Ro_2, gr_Pa_0, gr_Te_0, gr_Te_1, gr_Bo_0, gr_Bo_1, gr_Ia_0, gr_Ib_0, gr_Mo_0, gr_Mo_7, gr_Mo_8, gr_Mo_9, gr_Mo_10, gr_Mo_11, gr_Mo_12, gr_Mo_15, gr_Mo_16, gr_Mo_17, gr_Mo_18, gr_Mo_20, gr_Mo_28, gr_Mo_29, gr_Mo_32, gr_Mo_33, gr_Mo_34, gr_Mo_35, gr_Mo_36, gr_Mo_37, gr_Ra_0, gr_Ra_1, gr_Ra_2, gr_Ra_3, gr_Ra_4, gr_Ra_5, gr_Ra_6, gr_Rb_0, gr_Rb_1, gr_Rb_2, gr_Rb_3, gr_Rb_4, gr_Rb_5, gr_Rb_6, gi_LD_9, gi_Rd_1, gi_Rd_2, gi_Rd_3, gi_Rd_4, gi_Nt_7, gi_Nt_8, gi_Nt_9, gi_Nt_10, gi_Pl_2, gi_Pl_3, gi_Ro_3, gi_Ro_4, gi_Ro_5, gi_Pa_1, gi_Pa_2, gi_Te_2, gi_Bo_2, gi_Ia_1, gi_Ia_2, gi_Ib_1, gi_Ib_2, gi_Mo_1, gi_Mo_2, gi_Mo_3, gi_Mo_4, gi_Mo_5, gi_Mo_6, gi_Mo_13, gl_Mo_14, gi_Mo_19, gi_Mo_21, gi_Mo_22, gi_Mo_23, gi_Mo_24, gi_Mo_25, gi_Mo_26, gi_Mo_27, gi_Mo_30, gi_Mo_31, gi_Ra_7, gi_Ra_8, gi_Ra_9, gi_Ra_10, gi_Rb_7, gi_Rb_8, gi_Rb_9, gi_Rb_10, ai_Ra_0 hs6, e1, par2_ok he]
  rw [hv.1]
  generalize nV (σ 304) s = v at *
  unfold zP1
  obtain rfl | rfl | rfl | rfl : v = 0 ∨ v = 1 ∨ v = 2 ∨ v = 3 := by omega
  · rw [if_neg (by decide), if_neg (by decide)]; rfl
  · rw [if_pos (by decide)]; rfl
  · rw [if_neg (by decide), if_neg (by decide)]; rfl
  · rw [if_neg (by decide), if_pos (by decide)]
    by_cases hp : ev % 2 = 0
    · rw [hp]; rfl
    · rw [show ev % 2 = 1 by omega]; rfl
theorem zP1_or (v e : Nat) : zP1 v e = 1 ∨ zP1 v e = 2 := by unfold zP1; split <;> (try split) <;> (try split) <;> simp
theorem never_L (h : CC sw σ (σ 308) H D n m) (hs : s < n) : ∀ (b a e f g : Nat), a ≤ b → a + e ≤ 198 → a < f → a < g →
    ∃ r, r ≤ 198 ∧ f_X5_eveningsTillFree_L12 f 3 (nI s) (nI a) (nI e) (enc sw σ ς) = some (nI r, enc sw σ ς) ∧ f_X13_never_L12 g 302 (nI s) (nI a) (nI e) (enc sw σ ς) = some (nI r, enc sw σ ς) := by
  obtain ⟨⟨r1, r2, r3, r4⟩, r5, r6, ⟨c1, c2, c3, c4⟩, ⟨d1, d2, d3, d4⟩, -⟩ := id h.1
  have hs6 : s < 6 := by omega
  have hv := h.1.voice hs
  have hev := h.2.2.ev
  have e8 : σ 4 8 = nI (nV (σ 308) 50) := (h.2.1.2.2.2.1).trans hev.1
  have hD : 0 < D := r6 (by omega)
  have i50 : (50 : Int32) = nI 50 := rfl
  have l50 : 50 < 51 := by omega
  have stop : ∀ (x : Int32) (e f g : Nat), x ≤ 0 → 0 < f → 0 < g → f_X5_eveningsTillFree_L12 f 3 (nI s) x (nI e) (enc sw σ ς) = some (nI e, enc sw σ ς) ∧ f_X13_never_L12 g 302 (nI s) x (nI e) (enc sw σ ς) = some (nI e, enc sw σ ς) := by
    intro x e f g hx hf hg
    obtain ⟨f, rfl⟩ : ∃ f', f = f' + 1 := ⟨f - 1, by omega⟩
    obtain ⟨g, rfl⟩ : ∃ g', g = g' + 1 := ⟨g - 1, by omega⟩
    refine ⟨?_, ?_⟩
    · show F_X5_eveningsTillFree_L12 (f_X5_eveningsTillFree_L12 f) 3 (nI s) x (nI e) (enc sw σ ς) = _
      simp only [F_X5_eveningsTillFree_L12, if_pos hx]
    · show F_X13_never_L12 (f_X13_never_L12 g) 302 (nI s) x (nI e) (enc sw σ ς) = _
      simp only [F_X13_never_L12, if_pos hx]
  intro b
  induction b with
  | zero =>
    intro a e f g ha hae hf hg
    obtain ⟨x1, x2⟩ := stop (nI a) e f g (by rw [show a = 0 by omega]; decide) (by omega) (by omega)
    exact ⟨e, by omega, x1, x2⟩
  | succ b ih =>
    intro a e f g ha hae hf hg
    by_cases ha0 : a = 0
    · obtain ⟨x1, x2⟩ := stop (nI a) e f g (by rw [ha0]; decide) (by omega) (by omega)
      exact ⟨e, by omega, x1, x2⟩
    · obtain ⟨f, rfl⟩ : ∃ f', f = f' + 1 := ⟨f - 1, by omega⟩
      obtain ⟨g, rfl⟩ : ∃ g', g = g' + 1 := ⟨g - 1, by omega⟩
      have t0 : (nI a ≤ 0) = False := eq_false (nI_nle (by omega) (by omega))
      have t1 : ((198 : Int32) ≤ nI e) = False := eq_false (nI_ge (b := 198) (by omega) (by omega))
      have hp := zP1_or (nV (σ 304) s) (nV (σ 308) 50 + e)
      have hDp : D * zP1 (nV (σ 304) s) (nV (σ 308) 50 + e) ≤ 60 ∧ 0 < D * zP1 (nV (σ 304) s) (nV (σ 308) 50 + e) := by rcases hp with z | z <;> rw [z] <;> omega
      have stepC : f_X5_eveningsTillFree_L12 (f + 1) 3 (nI s) (nI a) (nI e) (enc sw σ ς) = f_X5_eveningsTillFree_L12 f 3 (nI s) (nI a - nI (D * zP1 (nV (σ 304) s) (nV (σ 308) 50 + e))) (nI (e + 1)) (enc sw σ ς) := by
        show F_X5_eveningsTillFree_L12 (f_X5_eveningsTillFree_L12 f) 3 (nI s) (nI a) (nI e) (enc sw σ ς) = _
        simp only [F_X5_eveningsTillFree_L12, if_true, ite_true, reduceIte, Option.bind_some, Option.bind_none, bT1_some, io_LD, io_Rd, io_Mt, io_Nt, io_Pl, io_Ro, io_Pa, io_Te, io_Bo, io_Ia, io_Ib, io_Mo, io_Ra, io_Rb, gr_LD_0, gr_LD_1, gr_LD_2, gr_LD_3, gr_LD_4, gr_LD_5, gr_LD_6, gr_LD_7, gr_LD_8, gr_Rd_0, gr_Mt_0, gr_Mt_1, gr_Nt_0, gr_Nt_1, gr_Nt_2, gr_Nt_3, gr_Nt_4, gr_Nt_5, gr_Nt_6, gr_Pl_0, gr_Pl_1, gr_Ro_0, gr_Ro_1, gr_Ro_2, gr_Pa_0, gr_Te_0, gr_Te_1, gr_Bo_0, gr_Bo_1, gr_Ia_0, gr_Ib_0, gr_Mo_0, gr_Mo_7, gr_Mo_8, gr_Mo_9, gr_Mo_10, gr_Mo_11, gr_Mo_12, gr_Mo_15, gr_Mo_16, gr_Mo_17, gr_Mo_18, gr_Mo_20, gr_Mo_28, gr_Mo_29, gr_Mo_32, gr_Mo_33, gr_Mo_34, gr_Mo_35, gr_Mo_36, gr_Mo_37, gr_Ra_0, gr_Ra_1, gr_Ra_2, gr_Ra_3, gr_Ra_4, gr_Ra_5, gr_Ra_6, gr_Rb_0, gr_Rb_1, gr_Rb_2, gr_Rb_3, gr_Rb_4, gr_Rb_5, gr_Rb_6, gi_LD_9, gi_Rd_1, gi_Rd_2, gi_Rd_3, gi_Rd_4, gi_Nt_7, gi_Nt_8, gi_Nt_9, gi_Nt_10, gi_Pl_2, gi_Pl_3, gi_Ro_3, gi_Ro_4, gi_Ro_5, gi_Pa_1, gi_Pa_2, gi_Te_2, gi_Bo_2, gi_Ia_1, gi_Ia_2, gi_Ib_1, gi_Ib_2, gi_Mo_1, gi_Mo_2, gi_Mo_3, gi_Mo_4, gi_Mo_5, gi_Mo_6, gi_Mo_13, gl_Mo_14, gi_Mo_19, gi_Mo_21, gi_Mo_22, gi_Mo_23, gi_Mo_24, gi_Mo_25, gi_Mo_26, gi_Mo_27, gi_Mo_30, gi_Mo_31, gi_Ra_7, gi_Ra_8, gi_Ra_9, gi_Ra_10, gi_Rb_7, gi_Rb_8, gi_Rb_9, gi_Rb_10, t0, t1, if_false, c2, e8, nI_add, songPays2_C h.1 hs (show nV (σ 308) 50 + e ≤ 1000000 by omega), pk_mul, nI_1]
      have m2 : (2 : Int32) * nI D = nI (D * 2) := by rw [Nat.mul_comm]; exact pk_mul 2 D
      have stepM : f_X13_never_L12 (g + 1) 302 (nI s) (nI a) (nI e) (enc sw σ ς) = f_X13_never_L12 g 302 (nI s) (nI a - nI (D * zP1 (nV (σ 304) s) (nV (σ 308) 50 + e))) (nI (e + 1)) (enc sw σ ς) := by
        show F_X13_never_L12 (f_X13_never_L12 g) 302 (nI s) (nI a) (nI e) (enc sw σ ς) = _
        have ne : ¬ (1 : Int32) = 0 := by decide
        simp only [F_X13_never_L12, f_X13_never_51, f_X13_never_55, f_X13_never_56, if_true, ite_true, reduceIte, Option.bind_some, Option.bind_none, bT1_some, io_LD, io_Rd, io_Mt, io_Nt, io_Pl, io_Ro, io_Pa, io_Te, io_Bo, io_Ia, io_Ib, io_Mo, io_Ra, io_Rb, gr_LD_0, gr_LD_1, gr_LD_2, gr_LD_3, gr_LD_4, gr_LD_5, gr_LD_6, gr_LD_7, gr_LD_8, gr_Rd_0, gr_Mt_0, gr_Mt_1, gr_Nt_0, gr_Nt_1, gr_Nt_2, gr_Nt_3, gr_Nt_4, gr_Nt_5, gr_Nt_6, gr_Pl_0, gr_Pl_1, gr_Ro_0, gr_Ro_1, gr_Ro_2, gr_Pa_0, gr_Te_0, gr_Te_1, gr_Bo_0, gr_Bo_1, gr_Ia_0, gr_Ib_0, gr_Mo_0, gr_Mo_7, gr_Mo_8, gr_Mo_9, gr_Mo_10, gr_Mo_11, gr_Mo_12, gr_Mo_15, gr_Mo_16, gr_Mo_17, gr_Mo_18, gr_Mo_20, gr_Mo_28, gr_Mo_29, gr_Mo_32, gr_Mo_33, gr_Mo_34, gr_Mo_35, gr_Mo_36, gr_Mo_37, gr_Ra_0, gr_Ra_1, gr_Ra_2, gr_Ra_3, gr_Ra_4, gr_Ra_5, gr_Ra_6, gr_Rb_0, gr_Rb_1, gr_Rb_2, gr_Rb_3, gr_Rb_4, gr_Rb_5, gr_Rb_6, gi_LD_9, gi_Rd_1, gi_Rd_2, gi_Rd_3, gi_Rd_4, gi_Nt_7, gi_Nt_8, gi_Nt_9, gi_Nt_10, gi_Pl_2, gi_Pl_3, gi_Ro_3, gi_Ro_4, gi_Ro_5, gi_Pa_1, gi_Pa_2, gi_Te_2, gi_Bo_2, gi_Ia_1, gi_Ia_2, gi_Ib_1, gi_Ib_2, gi_Mo_1, gi_Mo_2, gi_Mo_3, gi_Mo_4, gi_Mo_5, gi_Mo_6, gi_Mo_13, gl_Mo_14, gi_Mo_19, gi_Mo_21, gi_Mo_22, gi_Mo_23, gi_Mo_24, gi_Mo_25, gi_Mo_26, gi_Mo_27, gi_Mo_30, gi_Mo_31, gi_Ra_7, gi_Ra_8, gi_Ra_9, gi_Ra_10, gi_Rb_7, gi_Rb_8, gi_Rb_9, gi_Rb_10, t0, if_false, ne, ai_304 hs6, hv.1, i50, ai_308 l50, hev.1, nI_add, par2_ok (show nV (σ 308) 50 + e ≤ 1000000 by omega), d2, m2, nI_1]
        generalize nV (σ 304) s = v at *
        generalize nV (σ 308) 50 + e = ev at *
        unfold zP1
        obtain rfl | rfl | rfl | rfl : v = 0 ∨ v = 1 ∨ v = 2 ∨ v = 3 := by omega
        · rw [if_neg (by decide), if_neg (by decide)]; rfl
        · rw [if_pos (by decide)]; simp
        · rw [if_neg (by decide), if_neg (by decide)]; rfl
        · rw [if_neg (by decide), if_pos (by decide)]
          by_cases hp : ev % 2 = 0
          · rw [hp, if_neg (by decide)]; rfl
          · rw [show ev % 2 = 1 by omega, if_pos (by decide)]; simp
      rw [stepC, stepM]
      generalize D * zP1 (nV (σ 304) s) (nV (σ 308) 50 + e) = x at *
      by_cases hx : x ≤ a
      · rw [pk_sub hx]
        exact ih (a - x) (e + 1) f g (by omega) (by omega) (by omega) (by omega)
      · obtain ⟨x1, x2⟩ := stop (nI a - nI x) (e + 1) f g (Int32.le_of_lt (pk_sneg (by omega) (by omega))) (by omega) (by omega)
        exact ⟨e + 1, by omega, x1, x2⟩
theorem never_ok (h : CC sw σ (σ 308) H D n m) (hs : s < n) : ∃ r, r ≤ 198 ∧ f_X5_eveningsTillFree 3 (nI s) (enc sw σ ς) = some (nI r, enc sw σ ς) ∧ f_X13_never 302 (nI s) (enc sw σ ς) = some (nI r, enc sw σ ς) := by
  have hd := h.2.2.debt hs
  have hs6 : s < 6 := by have := h.1.1; omega
  have e6 : σ 6 s = nI (nV (σ 308) (6 + s)) := ((h.2.1.1 s hs).2.1).trans hd.1
  have i6 : (6 : Int32) + nI s = nI (6 + s) := nI_add 6 s
  have l6 : 6 + s < 51 := by omega
  have hf : ∀ f, 198 < f → ∃ r, r ≤ 198 ∧ f_X5_eveningsTillFree_L12 f 3 (nI s) (nI (nV (σ 308) (6 + s))) (0 : Int32) (enc sw σ ς) = some (nI r, enc sw σ ς) ∧ f_X13_never_L12 f 302 (nI s) (nI (nV (σ 308) (6 + s))) (0 : Int32) (enc sw σ ς) = some (nI r, enc sw σ ς) := fun f hf => never_L h hs 198 (nV (σ 308) (6 + s)) 0 f f (by omega) (by omega) (by omega) (by omega)
  obtain ⟨r, r1, x1, x2⟩ := hf 1000000 (by omega)
  refine ⟨r, r1, ?_, ?_⟩
  · simp only [f_X5_eveningsTillFree, if_true, ite_true, reduceIte, Option.bind_some, Option.bind_none, bT1_some, io_LD, io_Rd, io_Mt, io_Nt, io_Pl, io_Ro, io_Pa, io_Te, io_Bo, io_Ia, io_Ib, io_Mo, io_Ra, io_Rb, gr_LD_0, gr_LD_1, gr_LD_2, gr_LD_3, gr_LD_4, gr_LD_5, gr_LD_6, gr_LD_7, gr_LD_8, gr_Rd_0, gr_Mt_0, gr_Mt_1, gr_Nt_0, gr_Nt_1, gr_Nt_2, gr_Nt_3, gr_Nt_4, gr_Nt_5, gr_Nt_6, gr_Pl_0, gr_Pl_1, gr_Ro_0, gr_Ro_1, gr_Ro_2, gr_Pa_0, gr_Te_0, gr_Te_1, gr_Bo_0, gr_Bo_1, gr_Ia_0, gr_Ib_0, gr_Mo_0, gr_Mo_7, gr_Mo_8, gr_Mo_9, gr_Mo_10, gr_Mo_11, gr_Mo_12, gr_Mo_15, gr_Mo_16, gr_Mo_17, gr_Mo_18, gr_Mo_20, gr_Mo_28, gr_Mo_29, gr_Mo_32, gr_Mo_33, gr_Mo_34, gr_Mo_35, gr_Mo_36, gr_Mo_37, gr_Ra_0, gr_Ra_1, gr_Ra_2, gr_Ra_3, gr_Ra_4, gr_Ra_5, gr_Ra_6, gr_Rb_0, gr_Rb_1, gr_Rb_2, gr_Rb_3, gr_Rb_4, gr_Rb_5, gr_Rb_6, gi_LD_9, gi_Rd_1, gi_Rd_2, gi_Rd_3, gi_Rd_4, gi_Nt_7, gi_Nt_8, gi_Nt_9, gi_Nt_10, gi_Pl_2, gi_Pl_3, gi_Ro_3, gi_Ro_4, gi_Ro_5, gi_Pa_1, gi_Pa_2, gi_Te_2, gi_Bo_2, gi_Ia_1, gi_Ia_2, gi_Ib_1, gi_Ib_2, gi_Mo_1, gi_Mo_2, gi_Mo_3, gi_Mo_4, gi_Mo_5, gi_Mo_6, gi_Mo_13, gl_Mo_14, gi_Mo_19, gi_Mo_21, gi_Mo_22, gi_Mo_23, gi_Mo_24, gi_Mo_25, gi_Mo_26, gi_Mo_27, gi_Mo_30, gi_Mo_31, gi_Ra_7, gi_Ra_8, gi_Ra_9, gi_Ra_10, gi_Rb_7, gi_Rb_8, gi_Rb_9, gi_Rb_10, ai_6 hs6, e6, x1]
  · simp only [f_X13_never, if_true, ite_true, reduceIte, Option.bind_some, Option.bind_none, bT1_some, io_LD, io_Rd, io_Mt, io_Nt, io_Pl, io_Ro, io_Pa, io_Te, io_Bo, io_Ia, io_Ib, io_Mo, io_Ra, io_Rb, gr_LD_0, gr_LD_1, gr_LD_2, gr_LD_3, gr_LD_4, gr_LD_5, gr_LD_6, gr_LD_7, gr_LD_8, gr_Rd_0, gr_Mt_0, gr_Mt_1, gr_Nt_0, gr_Nt_1, gr_Nt_2, gr_Nt_3, gr_Nt_4, gr_Nt_5, gr_Nt_6, gr_Pl_0, gr_Pl_1, gr_Ro_0, gr_Ro_1, gr_Ro_2, gr_Pa_0, gr_Te_0, gr_Te_1, gr_Bo_0, gr_Bo_1, gr_Ia_0, gr_Ib_0, gr_Mo_0, gr_Mo_7, gr_Mo_8, gr_Mo_9, gr_Mo_10, gr_Mo_11, gr_Mo_12, gr_Mo_15, gr_Mo_16, gr_Mo_17, gr_Mo_18, gr_Mo_20, gr_Mo_28, gr_Mo_29, gr_Mo_32, gr_Mo_33, gr_Mo_34, gr_Mo_35, gr_Mo_36, gr_Mo_37, gr_Ra_0, gr_Ra_1, gr_Ra_2, gr_Ra_3, gr_Ra_4, gr_Ra_5, gr_Ra_6, gr_Rb_0, gr_Rb_1, gr_Rb_2, gr_Rb_3, gr_Rb_4, gr_Rb_5, gr_Rb_6, gi_LD_9, gi_Rd_1, gi_Rd_2, gi_Rd_3, gi_Rd_4, gi_Nt_7, gi_Nt_8, gi_Nt_9, gi_Nt_10, gi_Pl_2, gi_Pl_3, gi_Ro_3, gi_Ro_4, gi_Ro_5, gi_Pa_1, gi_Pa_2, gi_Te_2, gi_Bo_2, gi_Ia_1, gi_Ia_2, gi_Ib_1, gi_Ib_2, gi_Mo_1, gi_Mo_2, gi_Mo_3, gi_Mo_4, gi_Mo_5, gi_Mo_6, gi_Mo_13, gl_Mo_14, gi_Mo_19, gi_Mo_21, gi_Mo_22, gi_Mo_23, gi_Mo_24, gi_Mo_25, gi_Mo_26, gi_Mo_27, gi_Mo_30, gi_Mo_31, gi_Ra_7, gi_Ra_8, gi_Ra_9, gi_Ra_10, gi_Rb_7, gi_Rb_8, gi_Rb_9, gi_Rb_10, i6, ai_308 l6, hd.1, x2]
theorem due_C (h : CC sw σ (σ 308) H D n m) (hs : s < n) (ha : nV (σ 308) s < 50) : f_X5_eveningsTillDue 3 (nI s) (enc sw σ ς) = some (nI (4 * (50 - nV (σ 308) s) - nV (σ 308) 50 % 4), enc sw σ ς) := by
  have hev := h.2.2.ev
  have e8 : σ 4 8 = nI (nV (σ 308) 50) := (h.2.1.2.2.2.1).trans hev.1
  have e5 : σ 5 s = nI (nV (σ 308) s) := ((h.2.1.1 s hs).1).trans (h.2.2.age hs).1
  have l1 : s < 6 := by have := h.1.1; omega
  simp only [f_X5_eveningsTillDue, if_true, ite_true, reduceIte, Option.bind_some, Option.bind_none, bT1_some, io_LD, io_Rd, io_Mt, io_Nt, io_Pl, io_Ro, io_Pa, io_Te, io_Bo, io_Ia, io_Ib, io_Mo, io_Ra, io_Rb, gr_LD_0, gr_LD_1, gr_LD_2, gr_LD_3, gr_LD_4, gr_LD_5, gr_LD_6, gr_LD_7, gr_LD_8, gr_Rd_0, gr_Mt_0, gr_Mt_1, gr_Nt_0, gr_Nt_1, gr_Nt_2, gr_Nt_3, gr_Nt_4, gr_Nt_5, gr_Nt_6, gr_Pl_0, gr_Pl_1, gr_Ro_0, gr_Ro_1, gr_Ro_2, gr_Pa_0, gr_Te_0, gr_Te_1, gr_Bo_0, gr_Bo_1, gr_Ia_0, gr_Ib_0, gr_Mo_0, gr_Mo_7, gr_Mo_8, gr_Mo_9, gr_Mo_10, gr_Mo_11, gr_Mo_12, gr_Mo_15, gr_Mo_16, gr_Mo_17, gr_Mo_18, gr_Mo_20, gr_Mo_28, gr_Mo_29, gr_Mo_32, gr_Mo_33, gr_Mo_34, gr_Mo_35, gr_Mo_36, gr_Mo_37, gr_Ra_0, gr_Ra_1, gr_Ra_2, gr_Ra_3, gr_Ra_4, gr_Ra_5, gr_Ra_6, gr_Rb_0, gr_Rb_1, gr_Rb_2, gr_Rb_3, gr_Rb_4, gr_Rb_5, gr_Rb_6, gi_LD_9, gi_Rd_1, gi_Rd_2, gi_Rd_3, gi_Rd_4, gi_Nt_7, gi_Nt_8, gi_Nt_9, gi_Nt_10, gi_Pl_2, gi_Pl_3, gi_Ro_3, gi_Ro_4, gi_Ro_5, gi_Pa_1, gi_Pa_2, gi_Te_2, gi_Bo_2, gi_Ia_1, gi_Ia_2, gi_Ib_1, gi_Ib_2, gi_Mo_1, gi_Mo_2, gi_Mo_3, gi_Mo_4, gi_Mo_5, gi_Mo_6, gi_Mo_13, gl_Mo_14, gi_Mo_19, gi_Mo_21, gi_Mo_22, gi_Mo_23, gi_Mo_24, gi_Mo_25, gi_Mo_26, gi_Mo_27, gi_Mo_30, gi_Mo_31, gi_Ra_7, gi_Ra_8, gi_Ra_9, gi_Ra_10, gi_Rb_7, gi_Rb_8, gi_Rb_9, gi_Rb_10, ai_5 l1, e5, e8]
  rw [show (50 : Int32) - nI (nV (σ 308) s) = nI (50 - nV (σ 308) s) from pk_sub (a := 50) (by omega), show (4 : Int32) * nI (50 - nV (σ 308) s) = nI (4 * (50 - nV (σ 308) s)) from pk_mul 4 _, show nI (nV (σ 308) 50) - nI (nV (σ 308) 50) / (4 : Int32) * (4 : Int32) = nI (nV (σ 308) 50 % 4) from pk_rem (d := 4) (by omega) (by omega) (by omega), pk_sub (by omega)]
theorem due_M {a ev : Nat} (ha : a < 50) (he : ev ≤ 20000) : (4 : Int32) * (nI ev / (4 : Int32) + nI (50 - a)) - nI ev = nI (4 * (50 - a) - ev % 4) := by
  rw [show nI ev / (4 : Int32) = nI (ev / 4) from pk_div (d := 4) (by omega) (by omega) (by omega), nI_add, show (4 : Int32) * nI (ev / 4 + (50 - a)) = nI (4 * (ev / 4 + (50 - a))) from pk_mul 4 _, pk_sub (by omega), show 4 * (ev / 4 + (50 - a)) - ev = 4 * (50 - a) - ev % 4 by omega]
theorem will_sC (h : CC sw σ (σ 308) H D n m) {i w f r : Nat} (hi : i < n) (hw : w < 64) (n1 : f_X5_eveningsTillFree 3 (nI i) (enc sw σ ς) = some (nI r, enc sw σ ς)) :
    f_X5_willDefault_L4 (f + 1) 3 (nI w) (nI i) (enc sw σ ς) = f_X5_willDefault_L4 f 3 (nI (if nV (σ 308) i < 50 ∧ ¬ nI r ≤ nI (4 * (50 - nV (σ 308) i) - nV (σ 308) 50 % 4) then w ||| 2 ^ i else w)) (nI (i + 1)) (enc sw σ ς) := by
  obtain ⟨⟨r1, r2, r3, r4⟩, r5, r6, ⟨c1, c2, c3, c4⟩, -⟩ := id h.1
  have l1 : i < 6 := by omega
  have hng : ¬ nI n ≤ nI i := nI_ge (by omega) (by omega)
  have ha := h.2.2.age hi
  have e5 : σ 5 i = nI (nV (σ 308) i) := ((h.2.1.1 i hi).1).trans ha.1
  show F_X5_willDefault_L4 (f_X5_willDefault_L4 f) 3 (nI w) (nI i) (enc sw σ ς) = _
  simp only [F_X5_willDefault_L4, if_true, ite_true, reduceIte, Option.bind_some, Option.bind_none, bT1_some, io_LD, io_Rd, io_Mt, io_Nt, io_Pl, io_Ro, io_Pa, io_Te, io_Bo, io_Ia, io_Ib, io_Mo, io_Ra, io_Rb, gr_LD_0, gr_LD_1, gr_LD_2, gr_LD_3, gr_LD_4, gr_LD_5, gr_LD_6, gr_LD_7, gr_LD_8, gr_Rd_0, gr_Mt_0, gr_Mt_1, gr_Nt_0, gr_Nt_1, gr_Nt_2, gr_Nt_3, gr_Nt_4, gr_Nt_5, gr_Nt_6, gr_Pl_0, gr_Pl_1, gr_Ro_0, gr_Ro_1, gr_Ro_2, gr_Pa_0, gr_Te_0, gr_Te_1, gr_Bo_0, gr_Bo_1, gr_Ia_0, gr_Ib_0, gr_Mo_0, gr_Mo_7, gr_Mo_8, gr_Mo_9, gr_Mo_10, gr_Mo_11, gr_Mo_12, gr_Mo_15, gr_Mo_16, gr_Mo_17, gr_Mo_18, gr_Mo_20, gr_Mo_28, gr_Mo_29, gr_Mo_32, gr_Mo_33, gr_Mo_34, gr_Mo_35, gr_Mo_36, gr_Mo_37, gr_Ra_0, gr_Ra_1, gr_Ra_2, gr_Ra_3, gr_Ra_4, gr_Ra_5, gr_Ra_6, gr_Rb_0, gr_Rb_1, gr_Rb_2, gr_Rb_3, gr_Rb_4, gr_Rb_5, gr_Rb_6, gi_LD_9, gi_Rd_1, gi_Rd_2, gi_Rd_3, gi_Rd_4, gi_Nt_7, gi_Nt_8, gi_Nt_9, gi_Nt_10, gi_Pl_2, gi_Pl_3, gi_Ro_3, gi_Ro_4, gi_Ro_5, gi_Pa_1, gi_Pa_2, gi_Te_2, gi_Bo_2, gi_Ia_1, gi_Ia_2, gi_Ib_1, gi_Ib_2, gi_Mo_1, gi_Mo_2, gi_Mo_3, gi_Mo_4, gi_Mo_5, gi_Mo_6, gi_Mo_13, gl_Mo_14, gi_Mo_19, gi_Mo_21, gi_Mo_22, gi_Mo_23, gi_Mo_24, gi_Mo_25, gi_Mo_26, gi_Mo_27, gi_Mo_30, gi_Mo_31, gi_Ra_7, gi_Ra_8, gi_Ra_9, gi_Ra_10, gi_Rb_7, gi_Rb_8, gi_Rb_9, gi_Rb_10, c3, hng, if_false, ai_5 l1, e5]
  by_cases hage : nV (σ 308) i < 50
  · rw [if_neg (show ¬ (50 : Int32) ≤ nI (nV (σ 308) i) from nI_ge (b := 50) hage (by omega)), n1, bT1_some, due_C h hi hage, bT1_some, nI_1]
    by_cases hle : nI r ≤ nI (4 * (50 - nV (σ 308) i) - nV (σ 308) 50 % 4)
    · rw [if_pos hle, if_neg (fun z => z.2 hle)]
    · rw [if_neg hle, if_pos ⟨hage, hle⟩, or_ok w hw i l1]
  · rw [if_pos (show (50 : Int32) ≤ nI (nV (σ 308) i) from nI_le (a := 50) (by omega) (by omega)), if_neg (fun z => hage z.1), nI_1]
theorem will_sM (h : CC sw σ (σ 308) H D n m) {i w f r : Nat} (hi : i < n) (hw : w < 64) (n1 : f_X13_never 302 (nI i) (enc sw σ ς) = some (nI r, enc sw σ ς)) :
    f_X13_willDefault_L4 (f + 1) 302 (nI w) (nI i) (enc sw σ ς) = f_X13_willDefault_L4 f 302 (nI (if nV (σ 308) i < 50 ∧ ¬ nI r ≤ nI (4 * (50 - nV (σ 308) i) - nV (σ 308) 50 % 4) then w ||| 2 ^ i else w)) (nI (i + 1)) (enc sw σ ς) := by
  obtain ⟨⟨r1, r2, r3, r4⟩, r5, r6, -, ⟨d1, d2, d3, d4⟩, -⟩ := id h.1
  have l1 : i < 6 := by omega
  have l1' : i < 51 := by omega
  have l50 : 50 < 51 := by omega
  have hng : ¬ nI n ≤ nI i := nI_ge (by omega) (by omega)
  have ha := h.2.2.age hi
  have hev := h.2.2.ev
  have i0 : (0 : Int32) + nI i = nI i := by rw [show (0 : Int32) = nI 0 from rfl, nI_add, Nat.zero_add]
  have a50 : ai (enc sw σ ς) 0 308 (50 : Int32) = some (nI (nV (σ 308) 50)) := by rw [← hev.1]; exact ai_308 l50
  show F_X13_willDefault_L4 (f_X13_willDefault_L4 f) 302 (nI w) (nI i) (enc sw σ ς) = _
  simp only [F_X13_willDefault_L4, f_X13_willDefault_68, if_true, ite_true, reduceIte, Option.bind_some, Option.bind_none, bT1_some, io_LD, io_Rd, io_Mt, io_Nt, io_Pl, io_Ro, io_Pa, io_Te, io_Bo, io_Ia, io_Ib, io_Mo, io_Ra, io_Rb, gr_LD_0, gr_LD_1, gr_LD_2, gr_LD_3, gr_LD_4, gr_LD_5, gr_LD_6, gr_LD_7, gr_LD_8, gr_Rd_0, gr_Mt_0, gr_Mt_1, gr_Nt_0, gr_Nt_1, gr_Nt_2, gr_Nt_3, gr_Nt_4, gr_Nt_5, gr_Nt_6, gr_Pl_0, gr_Pl_1, gr_Ro_0, gr_Ro_1, gr_Ro_2, gr_Pa_0, gr_Te_0, gr_Te_1, gr_Bo_0, gr_Bo_1, gr_Ia_0, gr_Ib_0, gr_Mo_0, gr_Mo_7, gr_Mo_8, gr_Mo_9, gr_Mo_10, gr_Mo_11, gr_Mo_12, gr_Mo_15, gr_Mo_16, gr_Mo_17, gr_Mo_18, gr_Mo_20, gr_Mo_28, gr_Mo_29, gr_Mo_32, gr_Mo_33, gr_Mo_34, gr_Mo_35, gr_Mo_36, gr_Mo_37, gr_Ra_0, gr_Ra_1, gr_Ra_2, gr_Ra_3, gr_Ra_4, gr_Ra_5, gr_Ra_6, gr_Rb_0, gr_Rb_1, gr_Rb_2, gr_Rb_3, gr_Rb_4, gr_Rb_5, gr_Rb_6, gi_LD_9, gi_Rd_1, gi_Rd_2, gi_Rd_3, gi_Rd_4, gi_Nt_7, gi_Nt_8, gi_Nt_9, gi_Nt_10, gi_Pl_2, gi_Pl_3, gi_Ro_3, gi_Ro_4, gi_Ro_5, gi_Pa_1, gi_Pa_2, gi_Te_2, gi_Bo_2, gi_Ia_1, gi_Ia_2, gi_Ib_1, gi_Ib_2, gi_Mo_1, gi_Mo_2, gi_Mo_3, gi_Mo_4, gi_Mo_5, gi_Mo_6, gi_Mo_13, gl_Mo_14, gi_Mo_19, gi_Mo_21, gi_Mo_22, gi_Mo_23, gi_Mo_24, gi_Mo_25, gi_Mo_26, gi_Mo_27, gi_Mo_30, gi_Mo_31, gi_Ra_7, gi_Ra_8, gi_Ra_9, gi_Ra_10, gi_Rb_7, gi_Rb_8, gi_Rb_9, gi_Rb_10, d3, hng, if_false, i0, ai_308 l1', ha.1, a50, or_0]
  by_cases hage : nV (σ 308) i < 50
  · rw [show (50 : Int32) - nI (nV (σ 308) i) = nI (50 - nV (σ 308) i) from pk_sub (a := 50) (by omega), if_neg (nI_nle (by omega) (by omega)), n1, bT1_some, due_M hage hev.2, nI_1]
    by_cases hle : nI r ≤ nI (4 * (50 - nV (σ 308) i) - nV (σ 308) 50 % 4)
    · rw [if_pos hle, if_neg (fun z => z.2 hle)]
    · rw [if_neg hle, if_pos ⟨hage, hle⟩, or_ok w hw i l1]
  · have t2 : (50 : Int32) - nI (nV (σ 308) i) ≤ 0 := by
      by_cases he : nV (σ 308) i = 50
      · rw [he]; decide
      · exact Int32.le_of_lt (pk_sneg (a := 50) (by omega) (by omega))
    rw [if_pos t2, if_neg (fun z => hage z.1), nI_1]
theorem will_L (h : CC sw σ (σ 308) H D n m) : ∀ (d i f g w : Nat), i + d = n → d < f → d < g → w < 64 →
    ∃ r, f_X5_willDefault_L4 f 3 (nI w) (nI i) (enc sw σ ς) = some (r, enc sw σ ς) ∧ f_X13_willDefault_L4 g 302 (nI w) (nI i) (enc sw σ ς) = some (r, enc sw σ ς) := by
  obtain ⟨⟨r1, r2, r3, r4⟩, r5, r6, ⟨c1, c2, c3, c4⟩, ⟨d1, d2, d3, d4⟩, -⟩ := id h.1
  intro d
  induction d with
  | zero =>
    intro i f g w hi hf hg hw
    obtain ⟨f, rfl⟩ : ∃ f', f = f' + 1 := ⟨f - 1, by omega⟩
    obtain ⟨g, rfl⟩ : ∃ g', g = g' + 1 := ⟨g - 1, by omega⟩
    refine ⟨nI w, ?_, ?_⟩
    · show F_X5_willDefault_L4 (f_X5_willDefault_L4 f) 3 (nI w) (nI i) (enc sw σ ς) = _
      unfold F_X5_willDefault_L4
      rw [gr_Mt_1, Option.bind_some, gi_Ra_9, Option.bind_some, c3, if_pos (nI_le (show n ≤ i by omega) (by omega))]
    · show F_X13_willDefault_L4 (f_X13_willDefault_L4 g) 302 (nI w) (nI i) (enc sw σ ς) = _
      unfold F_X13_willDefault_L4
      rw [gi_Mo_5, Option.bind_some, d3, if_pos (nI_le (show n ≤ i by omega) (by omega))]
  | succ d ih =>
    intro i f g w hi hf hg hw
    obtain ⟨f, rfl⟩ : ∃ f', f = f' + 1 := ⟨f - 1, by omega⟩
    obtain ⟨g, rfl⟩ : ∃ g', g = g' + 1 := ⟨g - 1, by omega⟩
    obtain ⟨r, hr, n1, n2⟩ := never_ok (ς := ς) h (show i < n by omega)
    rw [will_sC h (by omega) hw n1, will_sM h (by omega) hw n2]
    exact ih (i + 1) f g _ (by omega) (by omega) (by omega) (by
      split
      · exact or_lt hw (by omega)
      · exact hw)
theorem will_ok (h : CC sw σ (σ 308) H D n m) : ∃ r, f_X5_willDefault 3 (enc sw σ ς) = some (r, enc sw σ ς) ∧ f_X13_willDefault 302 (enc sw σ ς) = some (r, enc sw σ ς) := by
  have hf : ∀ f, 6 < f → ∃ r, f_X5_willDefault_L4 f 3 (0 : Int32) (0 : Int32) (enc sw σ ς) = some (r, enc sw σ ς) ∧ f_X13_willDefault_L4 f 302 (0 : Int32) (0 : Int32) (enc sw σ ς) = some (r, enc sw σ ς) := fun f hf => will_L h n 0 f f 0 (by omega) (by have := h.1.1; omega) (by have := h.1.1; omega) (by omega)
  obtain ⟨r, x1, x2⟩ := hf 1000000 (by omega)
  refine ⟨r, ?_, ?_⟩
  · simp only [f_X5_willDefault, x1, bT1_some]
  · simp only [f_X13_willDefault, if_true, ite_true, reduceIte, Option.bind_some, Option.bind_none, bT1_so, io_LD, io_Rd, io_Mt, io_Nt, io_Pl, io_Ro, io_Pa, io_Te, io_Bo, io_Ia, io_Ib, io_Mo, io_Ra, io_Rb, gr_LD_0, gr_LD_1, gr_LD_2, gr_LD_3, gr_LD_4, gr_LD_5, gr_LD_6, gr_LD_7, gr_LD_8, gr_Rd_0, gr_Mt_0, gr_Mt_1, gr_Nt_0, gr_Nt_1, gr_Nt_2, gr_Nt_3, gr_Nt_4, gr_Nt_5, gr_Nt_6, gr_Pl_0, gr_Pl_1, gr_Ro_0, gr_Ro_1, gr_Ro_2, gr_Pa_0, gr_Te_0, gr_Te_1, gr_Bo_0, gr_Bo_1, gr_Ia_0, gr_Ib_0, gr_Mo_0, gr_Mo_7, gr_Mo_8, gr_Mo_9, gr_Mo_10, gr_Mo_11, gr_Mo_12, gr_Mo_15, gr_Mo_16, gr_Mo_17, gr_Mo_18, gr_Mo_20, gr_Mo_28, gr_Mo_29, gr_Mo_32, gr_Mo_33, gr_Mo_34, gr_Mo_35, gr_Mo_36, gr_Mo_37, gr_Ra_0, gr_Ra_1, gr_Ra_2, gr_Ra_3, gr_Ra_4, gr_Ra_5, gr_Ra_6, gr_Rb_0, gr_Rb_1, gr_Rb_2, gr_Rb_3, gr_Rb_4, gr_Rb_5, gr_Rb_6, gi_LD_9, gi_Rd_1, gi_Rd_2, gi_Rd_3, gi_Rd_4, gi_Nt_7, gi_Nt_8, gi_Nt_9, gi_Nt_10, gi_Pl_2, gi_Pl_3, gi_Ro_3, gi_Ro_4, gi_Ro_5, gi_Pa_1, gi_Pa_2, gi_Te_2, gi_Bo_2, gi_Ia_1, gi_Ia_2, gi_Ib_1, gi_Ib_2, gi_Mo_1, gi_Mo_2, gi_Mo_3, gi_Mo_4, gi_Mo_5, gi_Mo_6, gi_Mo_13, gl_Mo_14, gi_Mo_19, gi_Mo_21, gi_Mo_22, gi_Mo_23, gi_Mo_24, gi_Mo_25, gi_Mo_26, gi_Mo_27, gi_Mo_30, gi_Mo_31, gi_Ra_7, gi_Ra_8, gi_Ra_9, gi_Ra_10, gi_Rb_7, gi_Rb_8, gi_Rb_9, gi_Rb_10, x2]
end NE
