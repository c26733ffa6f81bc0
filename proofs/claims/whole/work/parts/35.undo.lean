/-! taken back -/
theorem fm_ok : ∀ a, a < 30 → ∀ z, z ≤ 30 → (if 0 ≤ ((nI a - nI z) ^^^ (30 : Int32)) then ((nI a - nI z) - (nI a - nI z) / (30 : Int32) * (30 : Int32)) else (if (nI a - nI z) - (nI a - nI z) / (30 : Int32) * (30 : Int32) = 0 then ((nI a - nI z) - (nI a - nI z) / (30 : Int32) * (30 : Int32)) else ((nI a - nI z) - (nI a - nI z) / (30 : Int32) * (30 : Int32)) + (30 : Int32))) = nI ((a + 30 - z) % 30) := by decide +kernel
theorem floorMod_ok {a z : Nat} (ha : a < 30) (hz : z ≤ 30) (h : AH) : f_J9_floorMod_7cf53 (nI a - nI z) (30 : Int32) h = some (nI ((a + 30 - z) % 30), h) := by
  unfold f_J9_floorMod_7cf53
  rw [if_neg (show ¬ (30 : Int32) = 0 by decide), ← fm_ok a ha z hz]
  split
  · rfl
  · split <;> rfl
theorem undo_loop {sw : Bool} {ς : Lg} {k : Nat} (hk : k < 30) : ∀ (d i f : Nat) (σ : Sg), i + d = 51 → d < f → σ 302 13 = nI k →
    ∃ σ', f_X13_undo_L37 f 302 (nI i) (enc sw σ ς) = some (enc sw σ' ς) ∧ (∀ a, a ≠ 308 → σ' a = σ a) ∧ ∀ q, σ' 308 q = if i ≤ q ∧ q < 51 then σ 309 (51 * k + q) else σ 308 q := by
  intro d
  induction d with
  | zero =>
    intro i f σ hi hf h13
    obtain ⟨f, rfl⟩ : ∃ f', f = f' + 1 := ⟨f - 1, by omega⟩
    refine ⟨σ, ?_, fun _ _ => rfl, fun q => ?_⟩
    · show F_X13_undo_L37 (f_X13_undo_L37 f) 302 (nI i) (enc sw σ ς) = _
      unfold F_X13_undo_L37
      rw [if_pos (show (51 : Int32) ≤ nI i from nI_le (a := 51) (by omega) (by omega))]
    · rw [if_neg (by omega)]
  | succ d ih =>
    intro i f σ hi hf h13
    obtain ⟨f, rfl⟩ : ∃ f', f = f' + 1 := ⟨f - 1, by omega⟩
    have hs : (51 : Int32) * nI k + nI i = nI (51 * k + i) := by rw [show (51 : Int32) = nI 51 from rfl, pk_mul, nI_add]
    have l1 : i < 51 := by omega
    have l2 : 51 * k + i < 1530 := by omega
    obtain ⟨σ', g1, g2, g3⟩ := ih (i + 1) f (uA σ 308 (upd (σ 308) i (σ 309 (51 * k + i)))) (by omega) (by omega) (by rw [uA_n (by omega)]; exact h13)
    refine ⟨σ', ?_, fun a ha => ?_, fun q => ?_⟩
    · show F_X13_undo_L37 (f_X13_undo_L37 f) 302 (nI i) (enc sw σ ς) = _
      unfold F_X13_undo_L37
      rw [if_neg (show ¬ (51 : Int32) ≤ nI i from nI_ge (b := 51) l1 (by omega))]
      simp only [if_true, ite_true, reduceIte, Option.bind_some, Option.bind_none, bT1_some, io_LD, io_Rd, io_Mt, io_Nt, io_Pl, io_Ro, io_Pa, io_Te, io_Bo, io_Ia, io_Ib, io_Mo, io_Ra, io_Rb, gr_LD_0, gr_LD_1, gr_LD_2, gr_LD_3, gr_LD_4, gr_LD_5, gr_LD_6, gr_LD_7, gr_LD_8, gr_Rd_0, gr_Mt_0, gr_Mt_1, gr_Nt_0, gr_Nt_1, gr_Nt_2, gr_Nt_3, gr_Nt_4, gr_Nt_5, gr_Nt_6, gr_Pl_0, gr_Pl_1, gr_Ro_0, gr_Ro_1, gr_Ro_2, gr_Pa_0, gr_Te_0, gr_Te_1, gr_Bo_0, gr_Bo_1, gr_Ia_0, gr_Ib_0, gr_Mo_0, gr_Mo_7, gr_Mo_8, gr_Mo_9, gr_Mo_10, gr_Mo_11, gr_Mo_12, gr_Mo_15, gr_Mo_16, gr_Mo_17, gr_Mo_18, gr_Mo_20, gr_Mo_28, gr_Mo_29, gr_Mo_32, gr_Mo_33, gr_Mo_34, gr_Mo_35, gr_Mo_36, gr_Mo_37, gr_Ra_0, gr_Ra_1, gr_Ra_2, gr_Ra_3, gr_Ra_4, gr_Ra_5, gr_Ra_6, gr_Rb_0, gr_Rb_1, gr_Rb_2, gr_Rb_3, gr_Rb_4, gr_Rb_5, gr_Rb_6, gi_LD_9, gi_Rd_1, gi_Rd_2, gi_Rd_3, gi_Rd_4, gi_Nt_7, gi_Nt_8, gi_Nt_9, gi_Nt_10, gi_Pl_2, gi_Pl_3, gi_Ro_3, gi_Ro_4, gi_Ro_5, gi_Pa_1, gi_Pa_2, gi_Te_2, gi_Bo_2, gi_Ia_1, gi_Ia_2, gi_Ib_1, gi_Ib_2, gi_Mo_1, gi_Mo_2, gi_Mo_3, gi_Mo_4, gi_Mo_5, gi_Mo_6, gi_Mo_13, gl_Mo_14, gi_Mo_19, gi_Mo_21, gi_Mo_22, gi_Mo_23, gi_Mo_24, gi_Mo_25, gi_Mo_26, gi_Mo_27, gi_Mo_30, gi_Mo_31, gi_Ra_7, gi_Ra_8, gi_Ra_9, gi_Ra_10, gi_Rb_7, gi_Rb_8, gi_Rb_9, gi_Rb_10, h13, hs, ai_309 l2, aw_308 l1, nI_1]
      exact g1
    · rw [g2 a ha, uA_n ha]
    · rw [g3 q, uA_s, uA_n (by omega)]
      by_cases h1 : i + 1 ≤ q ∧ q < 51
      · rw [if_pos h1, if_pos (by omega)]
      · rw [if_neg h1]
        by_cases h2 : q = i
        · subst h2
          rw [pk_us, if_pos (by omega)]
        · rw [pk_un h2, if_neg (by omega)]
theorem al_undo (x : Int32) : Alike (f_X12_undo 0 x) (f_X13_undo 302 x) := by
  intro sw σ ς hI
  obtain ⟨len, H, D, n, m, k, nx, q, e, h⟩ := id hI
  have hcc := h.cc
  obtain ⟨⟨r1, r2, r3, r4⟩, r5, r6, ⟨c1, c2, c3, c4⟩, ⟨d1, d2, d3, d4⟩, -, -⟩ := id h.2.2.1
  obtain ⟨⟨p1, p2, p3, p4, p5⟩, ⟨pm1, pm2⟩, pn⟩ := h.2.2.2.2.1.pc
  have hra := rA_or sw
  by_cases hx : x < 1
  · refine ⟨-1000000002, sw, σ, ς, sw, σ, ς, ?_, ?_, hI⟩
    · simp only [f_X12_undo, if_true, ite_true, reduceIte, Option.bind_some, Option.bind_none, bT1_some, io_LD, io_Rd, io_Mt, io_Nt, io_Pl, io_Ro, io_Pa, io_Te, io_Bo, io_Ia, io_Ib, io_Mo, io_Ra, io_Rb, gr_LD_0, gr_LD_1, gr_LD_2, gr_LD_3, gr_LD_4, gr_LD_5, gr_LD_6, gr_LD_7, gr_LD_8, gr_Rd_0, gr_Mt_0, gr_Mt_1, gr_Nt_0, gr_Nt_1, gr_Nt_2, gr_Nt_3, gr_Nt_4, gr_Nt_5, gr_Nt_6, gr_Pl_0, gr_Pl_1, gr_Ro_0, gr_Ro_1, gr_Ro_2, gr_Pa_0, gr_Te_0, gr_Te_1, gr_Bo_0, gr_Bo_1, gr_Ia_0, gr_Ib_0, gr_Mo_0, gr_Mo_7, gr_Mo_8, gr_Mo_9, gr_Mo_10, gr_Mo_11, gr_Mo_12, gr_Mo_15, gr_Mo_16, gr_Mo_17, gr_Mo_18, gr_Mo_20, gr_Mo_28, gr_Mo_29, gr_Mo_32, gr_Mo_33, gr_Mo_34, gr_Mo_35, gr_Mo_36, gr_Mo_37, gr_Ra_0, gr_Ra_1, gr_Ra_2, gr_Ra_3, gr_Ra_4, gr_Ra_5, gr_Ra_6, gr_Rb_0, gr_Rb_1, gr_Rb_2, gr_Rb_3, gr_Rb_4, gr_Rb_5, gr_Rb_6, gi_LD_9, gi_Rd_1, gi_Rd_2, gi_Rd_3, gi_Rd_4, gi_Nt_7, gi_Nt_8, gi_Nt_9, gi_Nt_10, gi_Pl_2, gi_Pl_3, gi_Ro_3, gi_Ro_4, gi_Ro_5, gi_Pa_1, gi_Pa_2, gi_Te_2, gi_Bo_2, gi_Ia_1, gi_Ia_2, gi_Ib_1, gi_Ib_2, gi_Mo_1, gi_Mo_2, gi_Mo_3, gi_Mo_4, gi_Mo_5, gi_Mo_6, gi_Mo_13, gl_Mo_14, gi_Mo_19, gi_Mo_21, gi_Mo_22, gi_Mo_23, gi_Mo_24, gi_Mo_25, gi_Mo_26, gi_Mo_27, gi_Mo_30, gi_Mo_31, gi_Ra_7, gi_Ra_8, gi_Ra_9, gi_Ra_10, gi_Rb_7, gi_Rb_8, gi_Rb_9, gi_Rb_10, hx]
    · simp only [f_X13_undo, if_true, ite_true, reduceIte, Option.bind_some, Option.bind_none, bT1_some, io_LD, io_Rd, io_Mt, io_Nt, io_Pl, io_Ro, io_Pa, io_Te, io_Bo, io_Ia, io_Ib, io_Mo, io_Ra, io_Rb, gr_LD_0, gr_LD_1, gr_LD_2, gr_LD_3, gr_LD_4, gr_LD_5, gr_LD_6, gr_LD_7, gr_LD_8, gr_Rd_0, gr_Mt_0, gr_Mt_1, gr_Nt_0, gr_Nt_1, gr_Nt_2, gr_Nt_3, gr_Nt_4, gr_Nt_5, gr_Nt_6, gr_Pl_0, gr_Pl_1, gr_Ro_0, gr_Ro_1, gr_Ro_2, gr_Pa_0, gr_Te_0, gr_Te_1, gr_Bo_0, gr_Bo_1, gr_Ia_0, gr_Ib_0, gr_Mo_0, gr_Mo_7, gr_Mo_8, gr_Mo_9, gr_Mo_10, gr_Mo_11, gr_Mo_12, gr_Mo_15, gr_Mo_16, gr_Mo_17, gr_Mo_18, gr_Mo_20, gr_Mo_28, gr_Mo_29, gr_Mo_32, gr_Mo_33, gr_Mo_34, gr_Mo_35, gr_Mo_36, gr_Mo_37, gr_Ra_0, gr_Ra_1, gr_Ra_2, gr_Ra_3, gr_Ra_4, gr_Ra_5, gr_Ra_6, gr_Rb_0, gr_Rb_1, gr_Rb_2, gr_Rb_3, gr_Rb_4, gr_Rb_5, gr_Rb_6, gi_LD_9, gi_Rd_1, gi_Rd_2, gi_Rd_3, gi_Rd_4, gi_Nt_7, gi_Nt_8, gi_Nt_9, gi_Nt_10, gi_Pl_2, gi_Pl_3, gi_Ro_3, gi_Ro_4, gi_Ro_5, gi_Pa_1, gi_Pa_2, gi_Te_2, gi_Bo_2, gi_Ia_1, gi_Ia_2, gi_Ib_1, gi_Ib_2, gi_Mo_1, gi_Mo_2, gi_Mo_3, gi_Mo_4, gi_Mo_5, gi_Mo_6, gi_Mo_13, gl_Mo_14, gi_Mo_19, gi_Mo_21, gi_Mo_22, gi_Mo_23, gi_Mo_24, gi_Mo_25, gi_Mo_26, gi_Mo_27, gi_Mo_30, gi_Mo_31, gi_Ra_7, gi_Ra_8, gi_Ra_9, gi_Ra_10, gi_Rb_7, gi_Rb_8, gi_Rb_9, gi_Rb_10, hx]
  · by_cases hx2 : x ≤ 30
    · obtain ⟨z, z1, rfl⟩ : ∃ j : Nat, j ≤ 30 ∧ x = nI j := nI_of2 (M := 30) (n := 30) rfl (fun t => hx (Int32.lt_trans t (by decide))) hx2
      have z0 : 1 ≤ z := by
        rcases Nat.eq_zero_or_pos z with t | t
        · subst t; exact absurd (show nI 0 < 1 by decide) hx
        · exact t
      by_cases hk : z ≤ k
      · have hle : nI z ≤ nI k := nI_le hk (by omega)
        have hs : nI k - nI z = nI (k - z) := pk_sub hk
        have hlt : (nx + 30 - z) % 30 < 30 := Nat.mod_lt _ (by omega)
        let σ1 : Sg := uA (uA σ 27 (upd (σ 27) 1 (nI ((nx + 30 - z) % 30)))) 27 (upd (upd (σ 27) 1 (nI ((nx + 30 - z) % 30))) 2 (nI (k - z)))
        have e1 : ∀ a, a ≠ 27 → σ1 a = σ a := fun a ha => by show uA _ _ _ a = _; rw [uA_n ha, uA_n ha]
        obtain ⟨σ2, f2, o2, a2, b2⟩ := copy_ok (σ := σ1) (ς := ς) (Nsh_4 sw) (Nsh_ring sw _ hlt) (by omega)
        have w27 : σ2 27 = upd (upd (σ 27) 1 (nI ((nx + 30 - z) % 30))) 2 (nI (k - z)) := by rw [o2 27 (by omega)]; show uA _ _ _ 27 = _; rw [uA_s]
        have w303 : σ2 302 = σ 302 := by rw [o2 302 (by omega), e1 302 (by omega)]
        have hz27 : upd (σ 27) 1 (nI ((nx + 30 - z) % 30)) 2 = σ 27 2 := rfl
        obtain ⟨σ3, f3, o3, a3⟩ := undo_loop (sw := sw) (ς := ς) (k := k - z) (by omega) 51 0 1000000 (uA σ2 302 (upd (σ2 302) 13 (nI (k - z)))) (by omega) (by omega) (by rw [uA_s, pk_us])
        have v3 : ∀ q, q < 51 → σ3 308 q = σ 309 (51 * (k - z) + q) := fun q hq => by rw [a3, if_pos (by omega), uA_n (by omega), o2 309 (by omega), e1 309 (by omega)]
        have hnr : NR n m σ1 (29 + 8 * ((nx + 30 - z) % 30)) (fun q => σ 309 (51 * (k - z) + q)) := by
          have := p5 (k - z) (by omega)
          rw [show (nx + 30 - k + (k - z)) % 30 = (nx + 30 - z) % 30 by omega] at this
          exact this.c fun j hj => e1 _ (by omega)
        have hC : CC sw σ2 (σ3 308) H D n m := by
          refine ⟨hcc.1.c ?_ ?_ ?_, (NR.copied hnr r3 r4 a2 b2).congr r3 r4 fun q hq => (v3 q hq).symm, ?_⟩
          · intro j hj; rw [o2 _ (by omega), e1 _ (by omega)]
          · intro j a b; rw [w303]
          · intro j a b; rw [o2 _ (by omega), e1 _ (by omega)]
          · rw [o2 306 (by omega), e1 306 (by omega), o2 307 (by omega), e1 307 (by omega)]
            exact (pn (k - z) (by omega)).congr r3 r4 fun q hq => (v3 q hq).symm
        have f3' : f_X13_undo_L37 1000000 302 (0 : Int32) (enc sw (uA σ2 302 (upd (σ 302) 13 (nI (k - z)))) ς) = some (enc sw σ3 ς) := by rw [w303] at f3; exact f3
        have f2' : f_X4_copyFrom 4 (29 + 8 * ((nx + 30 - z) % 30)) (enc sw (uA (uA σ 27 (upd (σ 27) 1 (nI ((nx + 30 - z) % 30)))) 27 (upd (upd (σ 27) 1 (nI ((nx + 30 - z) % 30))) 2 (nI (k - z)))) ς) = some (enc sw σ2 ς) := f2
        have i1 : upd (upd (σ 27) 1 (nI ((nx + 30 - z) % 30))) 2 (nI (k - z)) 1 = nI ((nx + 30 - z) % 30) := rfl
        have e50 : σ2 4 8 = σ3 308 50 := hC.2.1.2.2.2.1
        have l50 : 50 < 51 := by omega
        have i50 : (50 : Int32) = nI 50 := rfl
        refine ⟨σ3 308 50, sw, σ2, ς, sw, σ3, ς, ?_, ?_, ?_⟩
        · simp only [f_X12_undo, f_X6_takeBack, if_true, ite_true, reduceIte, Option.bind_some, Option.bind_none, bT1_some, io_LD, io_Rd, io_Mt, io_Nt, io_Pl, io_Ro, io_Pa, io_Te, io_Bo, io_Ia, io_Ib, io_Mo, io_Ra, io_Rb, gr_LD_0, gr_LD_1, gr_LD_2, gr_LD_3, gr_LD_4, gr_LD_5, gr_LD_6, gr_LD_7, gr_LD_8, gr_Rd_0, gr_Mt_0, gr_Mt_1, gr_Nt_0, gr_Nt_1, gr_Nt_2, gr_Nt_3, gr_Nt_4, gr_Nt_5, gr_Nt_6, gr_Pl_0, gr_Pl_1, gr_Ro_0, gr_Ro_1, gr_Ro_2, gr_Pa_0, gr_Te_0, gr_Te_1, gr_Bo_0, gr_Bo_1, gr_Ia_0, gr_Ib_0, gr_Mo_0, gr_Mo_7, gr_Mo_8, gr_Mo_9, gr_Mo_10, gr_Mo_11, gr_Mo_12, gr_Mo_15, gr_Mo_16, gr_Mo_17, gr_Mo_18, gr_Mo_20, gr_Mo_28, gr_Mo_29, gr_Mo_32, gr_Mo_33, gr_Mo_34, gr_Mo_35, gr_Mo_36, gr_Mo_37, gr_Ra_0, gr_Ra_1, gr_Ra_2, gr_Ra_3, gr_Ra_4, gr_Ra_5, gr_Ra_6, gr_Rb_0, gr_Rb_1, gr_Rb_2, gr_Rb_3, gr_Rb_4, gr_Rb_5, gr_Rb_6, gi_LD_9, gi_Rd_1, gi_Rd_2, gi_Rd_3, gi_Rd_4, gi_Nt_7, gi_Nt_8, gi_Nt_9, gi_Nt_10, gi_Pl_2, gi_Pl_3, gi_Ro_3, gi_Ro_4, gi_Ro_5, gi_Pa_1, gi_Pa_2, gi_Te_2, gi_Bo_2, gi_Ia_1, gi_Ia_2, gi_Ib_1, gi_Ib_2, gi_Mo_1, gi_Mo_2, gi_Mo_3, gi_Mo_4, gi_Mo_5, gi_Mo_6, gi_Mo_13, gl_Mo_14, gi_Mo_19, gi_Mo_21, gi_Mo_22, gi_Mo_23, gi_Mo_24, gi_Mo_25, gi_Mo_26, gi_Mo_27, gi_Mo_30, gi_Mo_31, gi_Ra_7, gi_Ra_8, gi_Ra_9, gi_Ra_10, gi_Rb_7, gi_Rb_8, gi_Rb_9, gi_Rb_10, pf_LD_9, pf_Rd_1, pf_Rd_2, pf_Rd_3, pf_Rd_4, pf_Nt_7, pf_Nt_8, pf_Nt_9, pf_Nt_10, pf_Pl_2, pf_Pl_3, pf_Ro_3, pf_Ro_4, pf_Ro_5, pf_Pa_1, pf_Pa_2, pf_Te_2, pf_Bo_2, pf_Ia_1, pf_Ia_2, pf_Ib_1, pf_Ib_2, pf_Mo_1, pf_Mo_2, pf_Mo_3, pf_Mo_4, pf_Mo_5, pf_Mo_6, pf_Mo_13, pl_Mo_14, pf_Mo_19, pf_Mo_21, pf_Mo_22, pf_Mo_23, pf_Mo_24, pf_Mo_25, pf_Mo_26, pf_Mo_27, pf_Mo_30, pf_Mo_31, pf_Ra_7, pf_Ra_8, pf_Ra_9, pf_Ra_10, pf_Rb_7, pf_Rb_8, pf_Rb_9, pf_Rb_10, hx, hx2, p3, p4, hle, if_false, floorMod_ok p2 z1, uA_s, hz27, hs, i1, ar_night hlt, f2', e50]
        · simp only [f_X13_undo, if_true, ite_true, reduceIte, Option.bind_some, Option.bind_none, bT1_some, io_LD, io_Rd, io_Mt, io_Nt, io_Pl, io_Ro, io_Pa, io_Te, io_Bo, io_Ia, io_Ib, io_Mo, io_Ra, io_Rb, gr_LD_0, gr_LD_1, gr_LD_2, gr_LD_3, gr_LD_4, gr_LD_5, gr_LD_6, gr_LD_7, gr_LD_8, gr_Rd_0, gr_Mt_0, gr_Mt_1, gr_Nt_0, gr_Nt_1, gr_Nt_2, gr_Nt_3, gr_Nt_4, gr_Nt_5, gr_Nt_6, gr_Pl_0, gr_Pl_1, gr_Ro_0, gr_Ro_1, gr_Ro_2, gr_Pa_0, gr_Te_0, gr_Te_1, gr_Bo_0, gr_Bo_1, gr_Ia_0, gr_Ib_0, gr_Mo_0, gr_Mo_7, gr_Mo_8, gr_Mo_9, gr_Mo_10, gr_Mo_11, gr_Mo_12, gr_Mo_15, gr_Mo_16, gr_Mo_17, gr_Mo_18, gr_Mo_20, gr_Mo_28, gr_Mo_29, gr_Mo_32, gr_Mo_33, gr_Mo_34, gr_Mo_35, gr_Mo_36, gr_Mo_37, gr_Ra_0, gr_Ra_1, gr_Ra_2, gr_Ra_3, gr_Ra_4, gr_Ra_5, gr_Ra_6, gr_Rb_0, gr_Rb_1, gr_Rb_2, gr_Rb_3, gr_Rb_4, gr_Rb_5, gr_Rb_6, gi_LD_9, gi_Rd_1, gi_Rd_2, gi_Rd_3, gi_Rd_4, gi_Nt_7, gi_Nt_8, gi_Nt_9, gi_Nt_10, gi_Pl_2, gi_Pl_3, gi_Ro_3, gi_Ro_4, gi_Ro_5, gi_Pa_1, gi_Pa_2, gi_Te_2, gi_Bo_2, gi_Ia_1, gi_Ia_2, gi_Ib_1, gi_Ib_2, gi_Mo_1, gi_Mo_2, gi_Mo_3, gi_Mo_4, gi_Mo_5, gi_Mo_6, gi_Mo_13, gl_Mo_14, gi_Mo_19, gi_Mo_21, gi_Mo_22, gi_Mo_23, gi_Mo_24, gi_Mo_25, gi_Mo_26, gi_Mo_27, gi_Mo_30, gi_Mo_31, gi_Ra_7, gi_Ra_8, gi_Ra_9, gi_Ra_10, gi_Rb_7, gi_Rb_8, gi_Rb_9, gi_Rb_10, pf_LD_9, pf_Rd_1, pf_Rd_2, pf_Rd_3, pf_Rd_4, pf_Nt_7, pf_Nt_8, pf_Nt_9, pf_Nt_10, pf_Pl_2, pf_Pl_3, pf_Ro_3, pf_Ro_4, pf_Ro_5, pf_Pa_1, pf_Pa_2, pf_Te_2, pf_Bo_2, pf_Ia_1, pf_Ia_2, pf_Ib_1, pf_Ib_2, pf_Mo_1, pf_Mo_2, pf_Mo_3, pf_Mo_4, pf_Mo_5, pf_Mo_6, pf_Mo_13, pl_Mo_14, pf_Mo_19, pf_Mo_21, pf_Mo_22, pf_Mo_23, pf_Mo_24, pf_Mo_25, pf_Mo_26, pf_Mo_27, pf_Mo_30, pf_Mo_31, pf_Ra_7, pf_Ra_8, pf_Ra_9, pf_Ra_10, pf_Rb_7, pf_Rb_8, pf_Rb_9, pf_Rb_10, hx, hx2, w303, pm1, hle, if_false, hs, f3', i50, ai_308 l50]
        · refine h.deed (σ1 := σ2) (σ2 := σ3) (k' := k - z) (nx' := (nx + 30 - z) % 30) (L' := fun j q => σ 309 (51 * j + q)) hC ?_ (fun a ha => ?_) ?_ (fun a y1 y2 y3 => ?_) (fun i hi => ?_) rfl (fun j hj => pn j (by omega))
          · refine ⟨by omega, hlt, by rw [w27]; rfl, by rw [w27]; rfl, fun j hj => ?_⟩
            have := p5 j (by omega)
            rw [show (nx + 30 - k + j) % 30 = ((nx + 30 - z) % 30 + 30 - (k - z) + j) % 30 by omega] at this
            exact this.c fun i hi => by rw [o2 _ (by omega), e1 _ (by omega)]
          · rw [o2 a (by omega), e1 a (by omega)]
          · refine ⟨by rw [o3 302 (by omega), uA_s, pk_us], fun j hj q hq => ?_⟩
            rw [o3 309 (by omega), uA_n (by omega), o2 309 (by omega), e1 309 (by omega)]
          · rw [o3 a y2, uA_n y1]
          · rw [o3 302 (by omega), uA_s, pk_un hi]
      · have hle : (nI z ≤ nI k) = False := eq_false (nI_ge (by omega) (by omega))
        refine ⟨-1000000003, sw, σ, ς, sw, σ, ς, ?_, ?_, hI⟩
        · simp only [f_X12_undo, if_true, ite_true, reduceIte, Option.bind_some, Option.bind_none, bT1_some, io_LD, io_Rd, io_Mt, io_Nt, io_Pl, io_Ro, io_Pa, io_Te, io_Bo, io_Ia, io_Ib, io_Mo, io_Ra, io_Rb, gr_LD_0, gr_LD_1, gr_LD_2, gr_LD_3, gr_LD_4, gr_LD_5, gr_LD_6, gr_LD_7, gr_LD_8, gr_Rd_0, gr_Mt_0, gr_Mt_1, gr_Nt_0, gr_Nt_1, gr_Nt_2, gr_Nt_3, gr_Nt_4, gr_Nt_5, gr_Nt_6, gr_Pl_0, gr_Pl_1, gr_Ro_0, gr_Ro_1, gr_Ro_2, gr_Pa_0, gr_Te_0, gr_Te_1, gr_Bo_0, gr_Bo_1, gr_Ia_0, gr_Ib_0, gr_Mo_0, gr_Mo_7, gr_Mo_8, gr_Mo_9, gr_Mo_10, gr_Mo_11, gr_Mo_12, gr_Mo_15, gr_Mo_16, gr_Mo_17, gr_Mo_18, gr_Mo_20, gr_Mo_28, gr_Mo_29, gr_Mo_32, gr_Mo_33, gr_Mo_34, gr_Mo_35, gr_Mo_36, gr_Mo_37, gr_Ra_0, gr_Ra_1, gr_Ra_2, gr_Ra_3, gr_Ra_4, gr_Ra_5, gr_Ra_6, gr_Rb_0, gr_Rb_1, gr_Rb_2, gr_Rb_3, gr_Rb_4, gr_Rb_5, gr_Rb_6, gi_LD_9, gi_Rd_1, gi_Rd_2, gi_Rd_3, gi_Rd_4, gi_Nt_7, gi_Nt_8, gi_Nt_9, gi_Nt_10, gi_Pl_2, gi_Pl_3, gi_Ro_3, gi_Ro_4, gi_Ro_5, gi_Pa_1, gi_Pa_2, gi_Te_2, gi_Bo_2, gi_Ia_1, gi_Ia_2, gi_Ib_1, gi_Ib_2, gi_Mo_1, gi_Mo_2, gi_Mo_3, gi_Mo_4, gi_Mo_5, gi_Mo_6, gi_Mo_13, gl_Mo_14, gi_Mo_19, gi_Mo_21, gi_Mo_22, gi_Mo_23, gi_Mo_24, gi_Mo_25, gi_Mo_26, gi_Mo_27, gi_Mo_30, gi_Mo_31, gi_Ra_7, gi_Ra_8, gi_Ra_9, gi_Ra_10, gi_Rb_7, gi_Rb_8, gi_Rb_9, gi_Rb_10, hx, hx2, p4, hle, if_false]
        · simp only [f_X13_undo, if_true, ite_true, reduceIte, Option.bind_some, Option.bind_none, bT1_some, io_LD, io_Rd, io_Mt, io_Nt, io_Pl, io_Ro, io_Pa, io_Te, io_Bo, io_Ia, io_Ib, io_Mo, io_Ra, io_Rb, gr_LD_0, gr_LD_1, gr_LD_2, gr_LD_3, gr_LD_4, gr_LD_5, gr_LD_6, gr_LD_7, gr_LD_8, gr_Rd_0, gr_Mt_0, gr_Mt_1, gr_Nt_0, gr_Nt_1, gr_Nt_2, gr_Nt_3, gr_Nt_4, gr_Nt_5, gr_Nt_6, gr_Pl_0, gr_Pl_1, gr_Ro_0, gr_Ro_1, gr_Ro_2, gr_Pa_0, gr_Te_0, gr_Te_1, gr_Bo_0, gr_Bo_1, gr_Ia_0, gr_Ib_0, gr_Mo_0, gr_Mo_7, gr_Mo_8, gr_Mo_9, gr_Mo_10, gr_Mo_11, gr_Mo_12, gr_Mo_15, gr_Mo_16, gr_Mo_17, gr_Mo_18, gr_Mo_20, gr_Mo_28, gr_Mo_29, gr_Mo_32, gr_Mo_33, gr_Mo_34, gr_Mo_35, gr_Mo_36, gr_Mo_37, gr_Ra_0, gr_Ra_1, gr_Ra_2, gr_Ra_3, gr_Ra_4, gr_Ra_5, gr_Ra_6, gr_Rb_0, gr_Rb_1, gr_Rb_2, gr_Rb_3, gr_Rb_4, gr_Rb_5, gr_Rb_6, gi_LD_9, gi_Rd_1, gi_Rd_2, gi_Rd_3, gi_Rd_4, gi_Nt_7, gi_Nt_8, gi_Nt_9, gi_Nt_10, gi_Pl_2, gi_Pl_3, gi_Ro_3, gi_Ro_4, gi_Ro_5, gi_Pa_1, gi_Pa_2, gi_Te_2, gi_Bo_2, gi_Ia_1, gi_Ia_2, gi_Ib_1, gi_Ib_2, gi_Mo_1, gi_Mo_2, gi_Mo_3, gi_Mo_4, gi_Mo_5, gi_Mo_6, gi_Mo_13, gl_Mo_14, gi_Mo_19, gi_Mo_21, gi_Mo_22, gi_Mo_23, gi_Mo_24, gi_Mo_25, gi_Mo_26, gi_Mo_27, gi_Mo_30, gi_Mo_31, gi_Ra_7, gi_Ra_8, gi_Ra_9, gi_Ra_10, gi_Rb_7, gi_Rb_8, gi_Rb_9, gi_Rb_10, hx, hx2, pm1, hle, if_false]
    · refine ⟨-1000000002, sw, σ, ς, sw, σ, ς, ?_, ?_, hI⟩
      · simp only [f_X12_undo, if_true, ite_true, reduceIte, Option.bind_some, Option.bind_none, bT1_some, io_LD, io_Rd, io_Mt, io_Nt, io_Pl, io_Ro, io_Pa, io_Te, io_Bo, io_Ia, io_Ib, io_Mo, io_Ra, io_Rb, gr_LD_0, gr_LD_1, gr_LD_2, gr_LD_3, gr_LD_4, gr_LD_5, gr_LD_6, gr_LD_7, gr_LD_8, gr_Rd_0, gr_Mt_0, gr_Mt_1, gr_Nt_0, gr_Nt_1, gr_Nt_2, gr_Nt_3, gr_Nt_4, gr_Nt_5, gr_Nt_6, gr_Pl_0, gr_Pl_1, gr_Ro_0, gr_Ro_1, gr_Ro_2, gr_Pa_0, gr_Te_0, gr_Te_1, gr_Bo_0, gr_Bo_1, gr_Ia_0, gr_Ib_0, gr_Mo_0, gr_Mo_7, gr_Mo_8, gr_Mo_9, gr_Mo_10, gr_Mo_11, gr_Mo_12, gr_Mo_15, gr_Mo_16, gr_Mo_17, gr_Mo_18, gr_Mo_20, gr_Mo_28, gr_Mo_29, gr_Mo_32, gr_Mo_33, gr_Mo_34, gr_Mo_35, gr_Mo_36, gr_Mo_37, gr_Ra_0, gr_Ra_1, gr_Ra_2, gr_Ra_3, gr_Ra_4, gr_Ra_5, gr_Ra_6, gr_Rb_0, gr_Rb_1, gr_Rb_2, gr_Rb_3, gr_Rb_4, gr_Rb_5, gr_Rb_6, gi_LD_9, gi_Rd_1, gi_Rd_2, gi_Rd_3, gi_Rd_4, gi_Nt_7, gi_Nt_8, gi_Nt_9, gi_Nt_10, gi_Pl_2, gi_Pl_3, gi_Ro_3, gi_Ro_4, gi_Ro_5, gi_Pa_1, gi_Pa_2, gi_Te_2, gi_Bo_2, gi_Ia_1, gi_Ia_2, gi_Ib_1, gi_Ib_2, gi_Mo_1, gi_Mo_2, gi_Mo_3, gi_Mo_4, gi_Mo_5, gi_Mo_6, gi_Mo_13, gl_Mo_14, gi_Mo_19, gi_Mo_21, gi_Mo_22, gi_Mo_23, gi_Mo_24, gi_Mo_25, gi_Mo_26, gi_Mo_27, gi_Mo_30, gi_Mo_31, gi_Ra_7, gi_Ra_8, gi_Ra_9, gi_Ra_10, gi_Rb_7, gi_Rb_8, gi_Rb_9, gi_Rb_10, hx, hx2, if_false]
      · simp only [f_X13_undo, if_true, ite_true, reduceIte, Option.bind_some, Option.bind_none, bT1_some, io_LD, io_Rd, io_Mt, io_Nt, io_Pl, io_Ro, io_Pa, io_Te, io_Bo, io_Ia, io_Ib, io_Mo, io_Ra, io_Rb, gr_LD_0, gr_LD_1, gr_LD_2, gr_LD_3, gr_LD_4, gr_LD_5, gr_LD_6, gr_LD_7, gr_LD_8, gr_Rd_0, gr_Mt_0, gr_Mt_1, gr_Nt_0, gr_Nt_1, gr_Nt_2, gr_Nt_3, gr_Nt_4, gr_Nt_5, gr_Nt_6, gr_Pl_0, gr_Pl_1, gr_Ro_0, gr_Ro_1, gr_Ro_2, gr_Pa_0, gr_Te_0, gr_Te_1, gr_Bo_0, gr_Bo_1, gr_Ia_0, gr_Ib_0, gr_Mo_0, gr_Mo_7, gr_Mo_8, gr_Mo_9, gr_Mo_10, gr_Mo_11, gr_Mo_12, gr_Mo_15, gr_Mo_16, gr_Mo_17, gr_Mo_18, gr_Mo_20, gr_Mo_28, gr_Mo_29, gr_Mo_32, gr_Mo_33, gr_Mo_34, gr_Mo_35, gr_Mo_36, gr_Mo_37, gr_Ra_0, gr_Ra_1, gr_Ra_2, gr_Ra_3, gr_Ra_4, gr_Ra_5, gr_Ra_6, gr_Rb_0, gr_Rb_1, gr_Rb_2, gr_Rb_3, gr_Rb_4, gr_Rb_5, gr_Rb_6, gi_LD_9, gi_Rd_1, gi_Rd_2, gi_Rd_3, gi_Rd_4, gi_Nt_7, gi_Nt_8, gi_Nt_9, gi_Nt_10, gi_Pl_2, gi_Pl_3, gi_Ro_3, gi_Ro_4, gi_Ro_5, gi_Pa_1, gi_Pa_2, gi_Te_2, gi_Bo_2, gi_Ia_1, gi_Ia_2, gi_Ib_1, gi_Ib_2, gi_Mo_1, gi_Mo_2, gi_Mo_3, gi_Mo_4, gi_Mo_5, gi_Mo_6, gi_Mo_13, gl_Mo_14, gi_Mo_19, gi_Mo_21, gi_Mo_22, gi_Mo_23, gi_Mo_24, gi_Mo_25, gi_Mo_26, gi_Mo_27, gi_Mo_30, gi_Mo_31, gi_Ra_7, gi_Ra_8, gi_Ra_9, gi_Ra_10, gi_Rb_7, gi_Rb_8, gi_Rb_9, gi_Rb_10, hx, hx2, if_false]
