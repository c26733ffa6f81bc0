/-- as InvG.deed, where the draws may have gone on too -/
theorem InvG.deedS {sw : Bool} {σ σ1 σ2 : Sg} {ς ς2 : Lg} {len H D n m k nx q e k' nx' : Nat} {V' : Nat → Int32} {L' : Nat → Nat → Int32} (h : InvG sw σ ς len H D n m k nx q e) (hC : CC sw σ1 V' H D n m) (hP : PC n m σ1 k' nx' L') (o1 : ∀ a, ((0 < a ∧ a < 4) ∨ (12 ≤ a ∧ a < 27) ∨ 269 ≤ a) → σ1 a = σ a)
    (hM : PM σ2 k' L') (o2 : ∀ a, a ≠ 302 → a ≠ 308 → a ≠ 309 → σ2 a = σ1 a) (c2 : ∀ i, i ≠ 13 → σ2 302 i = σ1 302 i) (v2 : σ2 308 = V') (hB : ∀ j, j < k' → NB n m H (σ 306) (σ 307) (L' j)) (hS : I_seed σ2 ς2) (eL : ς2 311 = ς 311) : Inv sw σ2 ς2 := by
  obtain ⟨h1, h2, h3, h4, h5, h6, h7, h8, h9⟩ := h
  have e307 : σ2 306 = σ 306 := by rw [o2 306 (by omega) (by omega) (by omega), o1 306 (by omega)]
  have e308 : σ2 307 = σ 307 := by rw [o2 307 (by omega) (by omega) (by omega), o1 307 (by omega)]
  have lo : ∀ a, ((0 < a ∧ a < 4) ∨ (12 ≤ a ∧ a < 27) ∨ (269 ≤ a ∧ a < 302) ∨ (302 < a ∧ a < 308) ∨ 309 < a) → σ2 a = σ a := fun a ha => by rw [o2 a (by omega) (by omega) (by omega), o1 a (by omega)]
  have l3 : ∀ i, i ≠ 13 → σ2 302 i = σ 302 i := fun i hi => by rw [c2 i hi, o1 302 (by omega)]
  have hra := rA_or sw
  refine ⟨len, H, D, n, m, k', nx', q, e, h1.c ?_ ?_ ?_ ?_, ?_, h3.c ?_ ?_ ?_, ⟨hC.2.1.c ?_ |>.congr h3.1.2.2.1 h3.1.2.2.2 ?_, ?_⟩, I_past.of (hP.c ?_) hM ?_ h3.1.2.2.1 h3.1.2.2.2, hS, h7.c ?_ ?_ ?_ ?_ ?_, h8.c ?_ ?_ ?_ ?_ ?_, h9.c ?_ ?_ ?_ ?_ ?_⟩
  · rw [lo 1 (by omega)]
  · exact l3 1 (by omega)
  · exact lo 2 (by omega)
  · exact lo 303 (by omega)
  · rw [lo 1 (by omega), l3 2 (by omega)]; exact h2
  · intro j hj; exact lo _ (by omega)
  · intro j a b; exact l3 j (by omega)
  · intro j a b; exact lo j (by omega)
  · intro j hj; exact o2 _ (by omega) (by omega) (by omega)
  · intro q hq; rw [v2]
  · rw [e307, e308, v2]
    have := hC.2.2
    rw [o1 306 (by omega), o1 307 (by omega)] at this
    exact this
  · intro j a b; exact o2 j (by omega) (by omega) (by omega)
  · intro j hj; rw [e307, e308]; exact hB j hj
  · intro j a b; exact lo j (by omega)
  · exact lo 312 (by omega)
  · exact lo 310 (by omega)
  · exact eL
  · intro j a b; exact lo j (by omega)
  · rw [lo 269 (by omega)]
  · exact l3 19 (by omega)
  · exact lo 270 (by omega)
  · exact lo 271 (by omega)
  · exact lo 313 (by omega)
  · rw [lo 272 (by omega)]
  · exact l3 21 (by omega)
  · exact lo 273 (by omega)
  · exact lo 274 (by omega)
  · exact lo 314 (by omega)
/-- the class has done a deed behind remembering: what the reference remembers then, and what holds when it has done the same -/
theorem InvG.after {sw : Bool} {σ σa σb : Sg} {ς : Lg} {len H D n m k nx q e : Nat} {V' : Nat → Int32} (h : InvG sw σ ς len H D n m k nx q e)
    (pa : PC n m σa (kPsh k) ((nx + 1) % 30) (lPsh k (fun j q => σ 309 (51 * j + q)) (σ 308))) (oa : ∀ a, (a < 27 ∨ 269 ≤ a) → σa a = σ a) (cb : CC sw σb V' H D n m) (ob : ∀ a, (a < 4 ∨ 12 ≤ a) → σb a = σa a) :
    (∀ a, 302 ≤ a → σb a = σ a) ∧ ∃ σc, f_X13_remembers 302 (enc sw σb ς) = some (enc sw σc ς) ∧ I_row (rA sw) σc H D n m ∧ (∀ a, 303 ≤ a → a ≤ 308 → σc a = σ a) ∧ Inv sw (uA σc 308 V') ς := by
  have hpc := h.2.2.2.2.1.pc
  have hra := rA_or sw
  have pb := pa.c (σ' := σb) (fun j a b => ob j (by omega))
  have eb : ∀ a, 302 ≤ a → σb a = σ a := fun a ha => by rw [ob a (by omega), oa a (by omega)]
  have pm : PM σb k (fun j q => σ 309 (51 * j + q)) := by
    obtain ⟨z1, z2⟩ := hpc.2.1
    exact ⟨by rw [eb 302 (by omega)]; exact z1, by rw [eb 309 (by omega)]; exact z2⟩
  obtain ⟨σc, f3, pmc, oc, cc⟩ := remembers_M (sw := sw) (ς := ς) hpc.1.1 pm
  have e309 := eb 308 (by omega)
  refine ⟨eb, σc, f3, h.2.2.1.c ?_ ?_ ?_, fun a h1 h2 => ?_, ?_⟩
  · intro j hj; rw [oc _ (by omega) (by omega), ob _ (by omega), oa _ (by omega)]
  · intro j a b; rw [cc j (by omega), eb 302 (by omega)]
  · intro j a b; rw [oc j (by omega) (by omega), eb j (by omega)]
  · rw [oc a (by omega) (by omega), eb a (by omega)]
  · refine h.deed (σ1 := σb) cb pb (fun a ha => ?_) (k' := kPsh k) (L' := lPsh k (fun j q => σ 309 (51 * j + q)) (σ 308)) ?_ (fun a z1 z2 z3 => ?_) (fun i hi => ?_) (uA_s _ _ _) (lPsh_NB h.cc.2.2 hpc.2.2 hpc.1.1)
    · rw [ob a (by omega), oa a (by omega)]
    · obtain ⟨z1, z2⟩ := pmc
      rw [e309] at z2
      exact ⟨by rw [uA_n (by omega)]; exact z1, fun j hj q hq => by rw [uA_n (by omega)]; exact z2 j hj q hq⟩
    · rw [uA_n z2]; exact oc a z1 z3
    · rw [uA_n (by omega)]; exact cc i hi
theorem al_sing (x y : Int32) : Alike (f_X12_sing 0 x y) (f_X13_sing 302 x y) := by
  intro sw σ ς hI
  obtain ⟨len, H, D, n, m, k, nx, q, e, h⟩ := id hI
  have hcc := h.cc
  obtain ⟨⟨r1, r2, r3, r4⟩, r5, r6, ⟨c1, c2, c3, c4⟩, ⟨d1, d2, d3, d4⟩, -, -⟩ := id h.2.2.1
  have ne : ¬ (1 : Int32) = 0 := by decide
  by_cases hx : x < 0 ∨ nI n ≤ x
  · apply Exists.intro; refine ⟨sw, σ, ς, sw, σ, ς, ?_, ?_, hI⟩
    · simp only [f_X12_sing, if_true, ite_true, reduceIte, Option.bind_some, Option.bind_none, bT1_some, io_LD, io_Rd, io_Mt, io_Nt, io_Pl, io_Ro, io_Pa, io_Te, io_Bo, io_Ia, io_Ib, io_Mo, io_Ra, io_Rb, gr_LD_0, gr_LD_1, gr_LD_2, gr_LD_3, gr_LD_4, gr_LD_5, gr_LD_6, gr_LD_7, gr_LD_8, gr_Rd_0, gr_Mt_0, gr_Mt_1, gr_Nt_0, gr_Nt_1, gr_Nt_2, gr_Nt_3, gr_Nt_4, gr_Nt_5, gr_Nt_6, gr_Pl_0, gr_Pl_1, gr_Ro_0, gr_Ro_1, gr_Ro_2, gr_Pa_0, gr_Te_0, gr_Te_1, gr_Bo_0, gr_Bo_1, gr_Ia_0, gr_Ib_0, gr_Mo_0, gr_Mo_7, gr_Mo_8, gr_Mo_9, gr_Mo_10, gr_Mo_11, gr_Mo_12, gr_Mo_15, gr_Mo_16, gr_Mo_17, gr_Mo_18, gr_Mo_20, gr_Mo_28, gr_Mo_29, gr_Mo_32, gr_Mo_33, gr_Mo_34, gr_Mo_35, gr_Mo_36, gr_Mo_37, gr_Ra_0, gr_Ra_1, gr_Ra_2, gr_Ra_3, gr_Ra_4, gr_Ra_5, gr_Ra_6, gr_Rb_0, gr_Rb_1, gr_Rb_2, gr_Rb_3, gr_Rb_4, gr_Rb_5, gr_Rb_6, gi_LD_9, gi_Rd_1, gi_Rd_2, gi_Rd_3, gi_Rd_4, gi_Nt_7, gi_Nt_8, gi_Nt_9, gi_Nt_10, gi_Pl_2, gi_Pl_3, gi_Ro_3, gi_Ro_4, gi_Ro_5, gi_Pa_1, gi_Pa_2, gi_Te_2, gi_Bo_2, gi_Ia_1, gi_Ia_2, gi_Ib_1, gi_Ib_2, gi_Mo_1, gi_Mo_2, gi_Mo_3, gi_Mo_4, gi_Mo_5, gi_Mo_6, gi_Mo_13, gl_Mo_14, gi_Mo_19, gi_Mo_21, gi_Mo_22, gi_Mo_23, gi_Mo_24, gi_Mo_25, gi_Mo_26, gi_Mo_27, gi_Mo_30, gi_Mo_31, gi_Ra_7, gi_Ra_8, gi_Ra_9, gi_Ra_10, gi_Rb_7, gi_Rb_8, gi_Rb_9, gi_Rb_10, hbC_no c3 c4 r3 (Or.inl hx)]; rfl
    · simp only [f_X13_sing, if_true, ite_true, reduceIte, Option.bind_some, Option.bind_none, bT1_some, io_LD, io_Rd, io_Mt, io_Nt, io_Pl, io_Ro, io_Pa, io_Te, io_Bo, io_Ia, io_Ib, io_Mo, io_Ra, io_Rb, gr_LD_0, gr_LD_1, gr_LD_2, gr_LD_3, gr_LD_4, gr_LD_5, gr_LD_6, gr_LD_7, gr_LD_8, gr_Rd_0, gr_Mt_0, gr_Mt_1, gr_Nt_0, gr_Nt_1, gr_Nt_2, gr_Nt_3, gr_Nt_4, gr_Nt_5, gr_Nt_6, gr_Pl_0, gr_Pl_1, gr_Ro_0, gr_Ro_1, gr_Ro_2, gr_Pa_0, gr_Te_0, gr_Te_1, gr_Bo_0, gr_Bo_1, gr_Ia_0, gr_Ib_0, gr_Mo_0, gr_Mo_7, gr_Mo_8, gr_Mo_9, gr_Mo_10, gr_Mo_11, gr_Mo_12, gr_Mo_15, gr_Mo_16, gr_Mo_17, gr_Mo_18, gr_Mo_20, gr_Mo_28, gr_Mo_29, gr_Mo_32, gr_Mo_33, gr_Mo_34, gr_Mo_35, gr_Mo_36, gr_Mo_37, gr_Ra_0, gr_Ra_1, gr_Ra_2, gr_Ra_3, gr_Ra_4, gr_Ra_5, gr_Ra_6, gr_Rb_0, gr_Rb_1, gr_Rb_2, gr_Rb_3, gr_Rb_4, gr_Rb_5, gr_Rb_6, gi_LD_9, gi_Rd_1, gi_Rd_2, gi_Rd_3, gi_Rd_4, gi_Nt_7, gi_Nt_8, gi_Nt_9, gi_Nt_10, gi_Pl_2, gi_Pl_3, gi_Ro_3, gi_Ro_4, gi_Ro_5, gi_Pa_1, gi_Pa_2, gi_Te_2, gi_Bo_2, gi_Ia_1, gi_Ia_2, gi_Ib_1, gi_Ib_2, gi_Mo_1, gi_Mo_2, gi_Mo_3, gi_Mo_4, gi_Mo_5, gi_Mo_6, gi_Mo_13, gl_Mo_14, gi_Mo_19, gi_Mo_21, gi_Mo_22, gi_Mo_23, gi_Mo_24, gi_Mo_25, gi_Mo_26, gi_Mo_27, gi_Mo_30, gi_Mo_31, gi_Ra_7, gi_Ra_8, gi_Ra_9, gi_Ra_10, gi_Rb_7, gi_Rb_8, gi_Rb_9, gi_Rb_10, hsM_no d3 hx]
  · obtain ⟨s, hs, rfl⟩ : ∃ j, j < n ∧ x = nI j := by
      rcases pk_ix x (n := n) (by omega) with z | z | z
      · exact absurd (Or.inl z) hx
      · exact absurd (Or.inr z) hx
      · exact z
    by_cases hy : y < 0 ∨ nI m ≤ y
    · apply Exists.intro; refine ⟨sw, σ, ς, sw, σ, ς, ?_, ?_, hI⟩
      · simp only [f_X12_sing, if_true, ite_true, reduceIte, Option.bind_some, Option.bind_none, bT1_some, io_LD, io_Rd, io_Mt, io_Nt, io_Pl, io_Ro, io_Pa, io_Te, io_Bo, io_Ia, io_Ib, io_Mo, io_Ra, io_Rb, gr_LD_0, gr_LD_1, gr_LD_2, gr_LD_3, gr_LD_4, gr_LD_5, gr_LD_6, gr_LD_7, gr_LD_8, gr_Rd_0, gr_Mt_0, gr_Mt_1, gr_Nt_0, gr_Nt_1, gr_Nt_2, gr_Nt_3, gr_Nt_4, gr_Nt_5, gr_Nt_6, gr_Pl_0, gr_Pl_1, gr_Ro_0, gr_Ro_1, gr_Ro_2, gr_Pa_0, gr_Te_0, gr_Te_1, gr_Bo_0, gr_Bo_1, gr_Ia_0, gr_Ib_0, gr_Mo_0, gr_Mo_7, gr_Mo_8, gr_Mo_9, gr_Mo_10, gr_Mo_11, gr_Mo_12, gr_Mo_15, gr_Mo_16, gr_Mo_17, gr_Mo_18, gr_Mo_20, gr_Mo_28, gr_Mo_29, gr_Mo_32, gr_Mo_33, gr_Mo_34, gr_Mo_35, gr_Mo_36, gr_Mo_37, gr_Ra_0, gr_Ra_1, gr_Ra_2, gr_Ra_3, gr_Ra_4, gr_Ra_5, gr_Ra_6, gr_Rb_0, gr_Rb_1, gr_Rb_2, gr_Rb_3, gr_Rb_4, gr_Rb_5, gr_Rb_6, gi_LD_9, gi_Rd_1, gi_Rd_2, gi_Rd_3, gi_Rd_4, gi_Nt_7, gi_Nt_8, gi_Nt_9, gi_Nt_10, gi_Pl_2, gi_Pl_3, gi_Ro_3, gi_Ro_4, gi_Ro_5, gi_Pa_1, gi_Pa_2, gi_Te_2, gi_Bo_2, gi_Ia_1, gi_Ia_2, gi_Ib_1, gi_Ib_2, gi_Mo_1, gi_Mo_2, gi_Mo_3, gi_Mo_4, gi_Mo_5, gi_Mo_6, gi_Mo_13, gl_Mo_14, gi_Mo_19, gi_Mo_21, gi_Mo_22, gi_Mo_23, gi_Mo_24, gi_Mo_25, gi_Mo_26, gi_Mo_27, gi_Mo_30, gi_Mo_31, gi_Ra_7, gi_Ra_8, gi_Ra_9, gi_Ra_10, gi_Rb_7, gi_Rb_8, gi_Rb_9, gi_Rb_10, hbC_no c3 c4 r3 (Or.inr hy)]; rfl
      · simp only [f_X13_sing, if_true, ite_true, reduceIte, Option.bind_some, Option.bind_none, bT1_some, io_LD, io_Rd, io_Mt, io_Nt, io_Pl, io_Ro, io_Pa, io_Te, io_Bo, io_Ia, io_Ib, io_Mo, io_Ra, io_Rb, gr_LD_0, gr_LD_1, gr_LD_2, gr_LD_3, gr_LD_4, gr_LD_5, gr_LD_6, gr_LD_7, gr_LD_8, gr_Rd_0, gr_Mt_0, gr_Mt_1, gr_Nt_0, gr_Nt_1, gr_Nt_2, gr_Nt_3, gr_Nt_4, gr_Nt_5, gr_Nt_6, gr_Pl_0, gr_Pl_1, gr_Ro_0, gr_Ro_1, gr_Ro_2, gr_Pa_0, gr_Te_0, gr_Te_1, gr_Bo_0, gr_Bo_1, gr_Ia_0, gr_Ib_0, gr_Mo_0, gr_Mo_7, gr_Mo_8, gr_Mo_9, gr_Mo_10, gr_Mo_11, gr_Mo_12, gr_Mo_15, gr_Mo_16, gr_Mo_17, gr_Mo_18, gr_Mo_20, gr_Mo_28, gr_Mo_29, gr_Mo_32, gr_Mo_33, gr_Mo_34, gr_Mo_35, gr_Mo_36, gr_Mo_37, gr_Ra_0, gr_Ra_1, gr_Ra_2, gr_Ra_3, gr_Ra_4, gr_Ra_5, gr_Ra_6, gr_Rb_0, gr_Rb_1, gr_Rb_2, gr_Rb_3, gr_Rb_4, gr_Rb_5, gr_Rb_6, gi_LD_9, gi_Rd_1, gi_Rd_2, gi_Rd_3, gi_Rd_4, gi_Nt_7, gi_Nt_8, gi_Nt_9, gi_Nt_10, gi_Pl_2, gi_Pl_3, gi_Ro_3, gi_Ro_4, gi_Ro_5, gi_Pa_1, gi_Pa_2, gi_Te_2, gi_Bo_2, gi_Ia_1, gi_Ia_2, gi_Ib_1, gi_Ib_2, gi_Mo_1, gi_Mo_2, gi_Mo_3, gi_Mo_4, gi_Mo_5, gi_Mo_6, gi_Mo_13, gl_Mo_14, gi_Mo_19, gi_Mo_21, gi_Mo_22, gi_Mo_23, gi_Mo_24, gi_Mo_25, gi_Mo_26, gi_Mo_27, gi_Mo_30, gi_Mo_31, gi_Ra_7, gi_Ra_8, gi_Ra_9, gi_Ra_10, gi_Rb_7, gi_Rb_8, gi_Rb_9, gi_Rb_10, hsM_yes d3 hs r3, hcM_no d4 hy, ne]
    · obtain ⟨c, hc, rfl⟩ : ∃ j, j < m ∧ y = nI j := by
        rcases pk_ix y (n := m) (by omega) with z | z | z
        · exact absurd (Or.inl z) hy
        · exact absurd (Or.inr z) hy
        · exact z
      by_cases hmay : zMay (σ 308) s c = true
      · obtain ⟨σa, f1, ca, pa, oa⟩ := remember_C (ς := ς) hcc h.2.2.2.2.1.pc.1
        obtain ⟨σb, f2, cb, ob⟩ := lull_C (ς := ς) ca hs hc hmay
        rw [oa 306 (by omega), oa 307 (by omega), oa 304 (by omega), oa 305 (by omega)] at cb
        rw [oa 306 (by omega), oa 307 (by omega)] at f2
        obtain ⟨eb, σc, f3, hrow, ec, hfin⟩ := h.after pa oa cb ob
        have e303 := eb 302 (by omega)
        have d3' : σb 302 5 = nI n := by rw [e303]; exact d3
        have d4' : σb 302 6 = nI m := by rw [e303]; exact d4
        have hm1 : f_X13_may 302 (nI s) (nI c) (enc sw σb ς) = some (1, enc sw σb ς) := by
          have := may_M (sw := sw) (σ := σb) (ς := ς) (H := H) (n := n) (m := m) (s := s) (c := c) (by rw [eb 306 (by omega), eb 307 (by omega), eb 308 (by omega)]; exact hcc.2.2) hs hc r3 r4
          rw [eb 308 (by omega), if_pos hmay] at this
          exact this
        have hs2 : f_X13_sings 302 (nI s) (nI c) (enc sw σc ς) = some (nI (zG (σ 308) (σ 306) (σ 307) s c), enc sw (uA σc 308 (tSing (σ 308) (σ 306) (σ 307) (σ 304) (σ 305) s c)) ς) := by
          have := sings_M (sw := sw) (σ := σc) (ς := ς) (s := s) (c := c) hrow (by rw [ec 306 (by omega) (by omega), ec 307 (by omega) (by omega), ec 308 (by omega) (by omega)]; exact hcc.2.2) hs hc (by rw [ec 308 (by omega) (by omega)]; exact hmay)
          rw [ec 306 (by omega) (by omega), ec 307 (by omega) (by omega), ec 308 (by omega) (by omega), ec 304 (by omega) (by omega), ec 305 (by omega) (by omega)] at this
          exact this
        refine ⟨nI (zG (σ 308) (σ 306) (σ 307) s c), sw, σb, ς, sw, _, ς, ?_, ?_, hfin⟩
        · simp only [f_X12_sing, if_true, ite_true, reduceIte, Option.bind_some, Option.bind_none, bT1_some, io_LD, io_Rd, io_Mt, io_Nt, io_Pl, io_Ro, io_Pa, io_Te, io_Bo, io_Ia, io_Ib, io_Mo, io_Ra, io_Rb, gr_LD_0, gr_LD_1, gr_LD_2, gr_LD_3, gr_LD_4, gr_LD_5, gr_LD_6, gr_LD_7, gr_LD_8, gr_Rd_0, gr_Mt_0, gr_Mt_1, gr_Nt_0, gr_Nt_1, gr_Nt_2, gr_Nt_3, gr_Nt_4, gr_Nt_5, gr_Nt_6, gr_Pl_0, gr_Pl_1, gr_Ro_0, gr_Ro_1, gr_Ro_2, gr_Pa_0, gr_Te_0, gr_Te_1, gr_Bo_0, gr_Bo_1, gr_Ia_0, gr_Ib_0, gr_Mo_0, gr_Mo_7, gr_Mo_8, gr_Mo_9, gr_Mo_10, gr_Mo_11, gr_Mo_12, gr_Mo_15, gr_Mo_16, gr_Mo_17, gr_Mo_18, gr_Mo_20, gr_Mo_28, gr_Mo_29, gr_Mo_32, gr_Mo_33, gr_Mo_34, gr_Mo_35, gr_Mo_36, gr_Mo_37, gr_Ra_0, gr_Ra_1, gr_Ra_2, gr_Ra_3, gr_Ra_4, gr_Ra_5, gr_Ra_6, gr_Rb_0, gr_Rb_1, gr_Rb_2, gr_Rb_3, gr_Rb_4, gr_Rb_5, gr_Rb_6, gi_LD_9, gi_Rd_1, gi_Rd_2, gi_Rd_3, gi_Rd_4, gi_Nt_7, gi_Nt_8, gi_Nt_9, gi_Nt_10, gi_Pl_2, gi_Pl_3, gi_Ro_3, gi_Ro_4, gi_Ro_5, gi_Pa_1, gi_Pa_2, gi_Te_2, gi_Bo_2, gi_Ia_1, gi_Ia_2, gi_Ib_1, gi_Ib_2, gi_Mo_1, gi_Mo_2, gi_Mo_3, gi_Mo_4, gi_Mo_5, gi_Mo_6, gi_Mo_13, gl_Mo_14, gi_Mo_19, gi_Mo_21, gi_Mo_22, gi_Mo_23, gi_Mo_24, gi_Mo_25, gi_Mo_26, gi_Mo_27, gi_Mo_30, gi_Mo_31, gi_Ra_7, gi_Ra_8, gi_Ra_9, gi_Ra_10, gi_Rb_7, gi_Rb_8, gi_Rb_9, gi_Rb_10, hbC_yes c3 c4 r3 r4 hs hc, ne, mayLull_C hcc hs hc, if_pos hmay, f1, f2]
        · simp only [f_X13_sing, if_true, ite_true, reduceIte, Option.bind_some, Option.bind_none, bT1_some, io_LD, io_Rd, io_Mt, io_Nt, io_Pl, io_Ro, io_Pa, io_Te, io_Bo, io_Ia, io_Ib, io_Mo, io_Ra, io_Rb, gr_LD_0, gr_LD_1, gr_LD_2, gr_LD_3, gr_LD_4, gr_LD_5, gr_LD_6, gr_LD_7, gr_LD_8, gr_Rd_0, gr_Mt_0, gr_Mt_1, gr_Nt_0, gr_Nt_1, gr_Nt_2, gr_Nt_3, gr_Nt_4, gr_Nt_5, gr_Nt_6, gr_Pl_0, gr_Pl_1, gr_Ro_0, gr_Ro_1, gr_Ro_2, gr_Pa_0, gr_Te_0, gr_Te_1, gr_Bo_0, gr_Bo_1, gr_Ia_0, gr_Ib_0, gr_Mo_0, gr_Mo_7, gr_Mo_8, gr_Mo_9, gr_Mo_10, gr_Mo_11, gr_Mo_12, gr_Mo_15, gr_Mo_16, gr_Mo_17, gr_Mo_18, gr_Mo_20, gr_Mo_28, gr_Mo_29, gr_Mo_32, gr_Mo_33, gr_Mo_34, gr_Mo_35, gr_Mo_36, gr_Mo_37, gr_Ra_0, gr_Ra_1, gr_Ra_2, gr_Ra_3, gr_Ra_4, gr_Ra_5, gr_Ra_6, gr_Rb_0, gr_Rb_1, gr_Rb_2, gr_Rb_3, gr_Rb_4, gr_Rb_5, gr_Rb_6, gi_LD_9, gi_Rd_1, gi_Rd_2, gi_Rd_3, gi_Rd_4, gi_Nt_7, gi_Nt_8, gi_Nt_9, gi_Nt_10, gi_Pl_2, gi_Pl_3, gi_Ro_3, gi_Ro_4, gi_Ro_5, gi_Pa_1, gi_Pa_2, gi_Te_2, gi_Bo_2, gi_Ia_1, gi_Ia_2, gi_Ib_1, gi_Ib_2, gi_Mo_1, gi_Mo_2, gi_Mo_3, gi_Mo_4, gi_Mo_5, gi_Mo_6, gi_Mo_13, gl_Mo_14, gi_Mo_19, gi_Mo_21, gi_Mo_22, gi_Mo_23, gi_Mo_24, gi_Mo_25, gi_Mo_26, gi_Mo_27, gi_Mo_30, gi_Mo_31, gi_Ra_7, gi_Ra_8, gi_Ra_9, gi_Ra_10, gi_Rb_7, gi_Rb_8, gi_Rb_9, gi_Rb_10, hsM_yes d3' hs r3, hcM_yes d4' hc r4, ne, hm1, f3, hs2]
      · apply Exists.intro; refine ⟨sw, σ, ς, sw, σ, ς, ?_, ?_, hI⟩
        · simp only [f_X12_sing, if_true, ite_true, reduceIte, Option.bind_some, Option.bind_none, bT1_some, io_LD, io_Rd, io_Mt, io_Nt, io_Pl, io_Ro, io_Pa, io_Te, io_Bo, io_Ia, io_Ib, io_Mo, io_Ra, io_Rb, gr_LD_0, gr_LD_1, gr_LD_2, gr_LD_3, gr_LD_4, gr_LD_5, gr_LD_6, gr_LD_7, gr_LD_8, gr_Rd_0, gr_Mt_0, gr_Mt_1, gr_Nt_0, gr_Nt_1, gr_Nt_2, gr_Nt_3, gr_Nt_4, gr_Nt_5, gr_Nt_6, gr_Pl_0, gr_Pl_1, gr_Ro_0, gr_Ro_1, gr_Ro_2, gr_Pa_0, gr_Te_0, gr_Te_1, gr_Bo_0, gr_Bo_1, gr_Ia_0, gr_Ib_0, gr_Mo_0, gr_Mo_7, gr_Mo_8, gr_Mo_9, gr_Mo_10, gr_Mo_11, gr_Mo_12, gr_Mo_15, gr_Mo_16, gr_Mo_17, gr_Mo_18, gr_Mo_20, gr_Mo_28, gr_Mo_29, gr_Mo_32, gr_Mo_33, gr_Mo_34, gr_Mo_35, gr_Mo_36, gr_Mo_37, gr_Ra_0, gr_Ra_1, gr_Ra_2, gr_Ra_3, gr_Ra_4, gr_Ra_5, gr_Ra_6, gr_Rb_0, gr_Rb_1, gr_Rb_2, gr_Rb_3, gr_Rb_4, gr_Rb_5, gr_Rb_6, gi_LD_9, gi_Rd_1, gi_Rd_2, gi_Rd_3, gi_Rd_4, gi_Nt_7, gi_Nt_8, gi_Nt_9, gi_Nt_10, gi_Pl_2, gi_Pl_3, gi_Ro_3, gi_Ro_4, gi_Ro_5, gi_Pa_1, gi_Pa_2, gi_Te_2, gi_Bo_2, gi_Ia_1, gi_Ia_2, gi_Ib_1, gi_Ib_2, gi_Mo_1, gi_Mo_2, gi_Mo_3, gi_Mo_4, gi_Mo_5, gi_Mo_6, gi_Mo_13, gl_Mo_14, gi_Mo_19, gi_Mo_21, gi_Mo_22, gi_Mo_23, gi_Mo_24, gi_Mo_25, gi_Mo_26, gi_Mo_27, gi_Mo_30, gi_Mo_31, gi_Ra_7, gi_Ra_8, gi_Ra_9, gi_Ra_10, gi_Rb_7, gi_Rb_8, gi_Rb_9, gi_Rb_10, hbC_yes c3 c4 r3 r4 hs hc, ne, mayLull_C hcc hs hc, if_neg hmay]; rfl
        · simp only [f_X13_sing, if_true, ite_true, reduceIte, Option.bind_some, Option.bind_none, bT1_some, io_LD, io_Rd, io_Mt, io_Nt, io_Pl, io_Ro, io_Pa, io_Te, io_Bo, io_Ia, io_Ib, io_Mo, io_Ra, io_Rb, gr_LD_0, gr_LD_1, gr_LD_2, gr_LD_3, gr_LD_4, gr_LD_5, gr_LD_6, gr_LD_7, gr_LD_8, gr_Rd_0, gr_Mt_0, gr_Mt_1, gr_Nt_0, gr_Nt_1, gr_Nt_2, gr_Nt_3, gr_Nt_4, gr_Nt_5, gr_Nt_6, gr_Pl_0, gr_Pl_1, gr_Ro_0, gr_Ro_1, gr_Ro_2, gr_Pa_0, gr_Te_0, gr_Te_1, gr_Bo_0, gr_Bo_1, gr_Ia_0, gr_Ib_0, gr_Mo_0, gr_Mo_7, gr_Mo_8, gr_Mo_9, gr_Mo_10, gr_Mo_11, gr_Mo_12, gr_Mo_15, gr_Mo_16, gr_Mo_17, gr_Mo_18, gr_Mo_20, gr_Mo_28, gr_Mo_29, gr_Mo_32, gr_Mo_33, gr_Mo_34, gr_Mo_35, gr_Mo_36, gr_Mo_37, gr_Ra_0, gr_Ra_1, gr_Ra_2, gr_Ra_3, gr_Ra_4, gr_Ra_5, gr_Ra_6, gr_Rb_0, gr_Rb_1, gr_Rb_2, gr_Rb_3, gr_Rb_4, gr_Rb_5, gr_Rb_6, gi_LD_9, gi_Rd_1, gi_Rd_2, gi_Rd_3, gi_Rd_4, gi_Nt_7, gi_Nt_8, gi_Nt_9, gi_Nt_10, gi_Pl_2, gi_Pl_3, gi_Ro_3, gi_Ro_4, gi_Ro_5, gi_Pa_1, gi_Pa_2, gi_Te_2, gi_Bo_2, gi_Ia_1, gi_Ia_2, gi_Ib_1, gi_Ib_2, gi_Mo_1, gi_Mo_2, gi_Mo_3, gi_Mo_4, gi_Mo_5, gi_Mo_6, gi_Mo_13, gl_Mo_14, gi_Mo_19, gi_Mo_21, gi_Mo_22, gi_Mo_23, gi_Mo_24, gi_Mo_25, gi_Mo_26, gi_Mo_27, gi_Mo_30, gi_Mo_31, gi_Ra_7, gi_Ra_8, gi_Ra_9, gi_Ra_10, gi_Rb_7, gi_Rb_8, gi_Rb_9, gi_Rb_10, hsM_yes d3 hs r3, hcM_yes d4 hc r4, ne, may_M hcc.2.2 hs hc r3 r4, if_neg hmay]
theorem carry27 (y : Int32) {sw : Bool} {σ : Sg} {ς : Lg} {len H D n m k nx q e c : Nat} (h : InvG sw σ ς len H D n m k nx q e) (hc : c < m) :
    ∃ r s1 σ1 ς1 s2 σ2 ς2, f_X12_carry_27 0 (nI c) y (enc sw σ ς) = some (r, enc s1 σ1 ς1) ∧ f_X13_carry_24 302 (nI c) y (enc s1 σ1 ς1) = some (r, enc s2 σ2 ς2) ∧ σ1 302 = σ 302 ∧ Inv s2 σ2 ς2 := by
  have hcc := h.cc
  obtain ⟨⟨r1, r2, r3, r4⟩, r5, r6, ⟨c1, c2, c3, c4⟩, ⟨d1, d2, d3, d4⟩, -, -⟩ := id h.2.2.1
  have ne : ¬ (1 : Int32) = 0 := by decide
  have hc6 : c < 6 := by omega
  have l24 : 24 + c < 51 := by omega
  have i24 : (24 : Int32) + nI c = nI (24 + c) := nI_add 24 c
  by_cases hmv : zMv (σ 308) (nI H) c y = true
  · obtain ⟨b, b1, b2⟩ := zMv_to hmv r1
    obtain ⟨σa, f1, ca, pa, oa⟩ := remember_C (ς := ς) hcc h.2.2.2.2.1.pc.1
    obtain ⟨σb, f2, cb, ob⟩ := pass_C (ς := ς) ca hc y b1 b2
    obtain ⟨eb, σc, f3, hrow, ec, hfin⟩ := h.after pa oa cb ob
    have e5 := (cb.2.1.2.1 c hc).1
    have e5' : tCarry (σ 308) c (nI b) (24 + c) = nI b := by unfold tCarry; rw [pk_un (by omega), pk_us]
    have hrb : I_row (rA sw) σb H D n m := cb.1
    have hm1 : f_X13_canBeCarried 302 (nI c) y (enc sw σb ς) = some (1, enc sw σb ς) := by
      have := canBe_M (ς := ς) hrb hc y
      rw [eb 308 (by omega), if_pos hmv] at this
      exact this
    have hs2 : f_X13_carries 302 (nI c) y (enc sw σc ς) = some (enc sw (uA σc 308 (tCarry (σ 308) c (nI b))) ς) := by
      have := carries_M (sw := sw) (σ := σc) (ς := ς) hc6 y
      rw [ec 308 (by omega) (by omega), b1] at this
      exact this
    refine ⟨nI b, sw, σb, ς, sw, _, ς, ?_, ?_, eb 302 (by omega), hfin⟩
    · simp only [f_X12_carry_27, if_true, ite_true, reduceIte, Option.bind_some, Option.bind_none, bT1_some, io_LD, io_Rd, io_Mt, io_Nt, io_Pl, io_Ro, io_Pa, io_Te, io_Bo, io_Ia, io_Ib, io_Mo, io_Ra, io_Rb, gr_LD_0, gr_LD_1, gr_LD_2, gr_LD_3, gr_LD_4, gr_LD_5, gr_LD_6, gr_LD_7, gr_LD_8, gr_Rd_0, gr_Mt_0, gr_Mt_1, gr_Nt_0, gr_Nt_1, gr_Nt_2, gr_Nt_3, gr_Nt_4, gr_Nt_5, gr_Nt_6, gr_Pl_0, gr_Pl_1, gr_Ro_0, gr_Ro_1, gr_Ro_2, gr_Pa_0, gr_Te_0, gr_Te_1, gr_Bo_0, gr_Bo_1, gr_Ia_0, gr_Ib_0, gr_Mo_0, gr_Mo_7, gr_Mo_8, gr_Mo_9, gr_Mo_10, gr_Mo_11, gr_Mo_12, gr_Mo_15, gr_Mo_16, gr_Mo_17, gr_Mo_18, gr_Mo_20, gr_Mo_28, gr_Mo_29, gr_Mo_32, gr_Mo_33, gr_Mo_34, gr_Mo_35, gr_Mo_36, gr_Mo_37, gr_Ra_0, gr_Ra_1, gr_Ra_2, gr_Ra_3, gr_Ra_4, gr_Ra_5, gr_Ra_6, gr_Rb_0, gr_Rb_1, gr_Rb_2, gr_Rb_3, gr_Rb_4, gr_Rb_5, gr_Rb_6, gi_LD_9, gi_Rd_1, gi_Rd_2, gi_Rd_3, gi_Rd_4, gi_Nt_7, gi_Nt_8, gi_Nt_9, gi_Nt_10, gi_Pl_2, gi_Pl_3, gi_Ro_3, gi_Ro_4, gi_Ro_5, gi_Pa_1, gi_Pa_2, gi_Te_2, gi_Bo_2, gi_Ia_1, gi_Ia_2, gi_Ib_1, gi_Ib_2, gi_Mo_1, gi_Mo_2, gi_Mo_3, gi_Mo_4, gi_Mo_5, gi_Mo_6, gi_Mo_13, gl_Mo_14, gi_Mo_19, gi_Mo_21, gi_Mo_22, gi_Mo_23, gi_Mo_24, gi_Mo_25, gi_Mo_26, gi_Mo_27, gi_Mo_30, gi_Mo_31, gi_Ra_7, gi_Ra_8, gi_Ra_9, gi_Ra_10, gi_Rb_7, gi_Rb_8, gi_Rb_9, gi_Rb_10, mayPass_C hcc hc y, if_pos hmv, ne, f1, f2, ai_9 hc6, e5, e5']
    · simp only [f_X13_carry_24, if_true, ite_true, reduceIte, Option.bind_some, Option.bind_none, bT1_some, io_LD, io_Rd, io_Mt, io_Nt, io_Pl, io_Ro, io_Pa, io_Te, io_Bo, io_Ia, io_Ib, io_Mo, io_Ra, io_Rb, gr_LD_0, gr_LD_1, gr_LD_2, gr_LD_3, gr_LD_4, gr_LD_5, gr_LD_6, gr_LD_7, gr_LD_8, gr_Rd_0, gr_Mt_0, gr_Mt_1, gr_Nt_0, gr_Nt_1, gr_Nt_2, gr_Nt_3, gr_Nt_4, gr_Nt_5, gr_Nt_6, gr_Pl_0, gr_Pl_1, gr_Ro_0, gr_Ro_1, gr_Ro_2, gr_Pa_0, gr_Te_0, gr_Te_1, gr_Bo_0, gr_Bo_1, gr_Ia_0, gr_Ib_0, gr_Mo_0, gr_Mo_7, gr_Mo_8, gr_Mo_9, gr_Mo_10, gr_Mo_11, gr_Mo_12, gr_Mo_15, gr_Mo_16, gr_Mo_17, gr_Mo_18, gr_Mo_20, gr_Mo_28, gr_Mo_29, gr_Mo_32, gr_Mo_33, gr_Mo_34, gr_Mo_35, gr_Mo_36, gr_Mo_37, gr_Ra_0, gr_Ra_1, gr_Ra_2, gr_Ra_3, gr_Ra_4, gr_Ra_5, gr_Ra_6, gr_Rb_0, gr_Rb_1, gr_Rb_2, gr_Rb_3, gr_Rb_4, gr_Rb_5, gr_Rb_6, gi_LD_9, gi_Rd_1, gi_Rd_2, gi_Rd_3, gi_Rd_4, gi_Nt_7, gi_Nt_8, gi_Nt_9, gi_Nt_10, gi_Pl_2, gi_Pl_3, gi_Ro_3, gi_Ro_4, gi_Ro_5, gi_Pa_1, gi_Pa_2, gi_Te_2, gi_Bo_2, gi_Ia_1, gi_Ia_2, gi_Ib_1, gi_Ib_2, gi_Mo_1, gi_Mo_2, gi_Mo_3, gi_Mo_4, gi_Mo_5, gi_Mo_6, gi_Mo_13, gl_Mo_14, gi_Mo_19, gi_Mo_21, gi_Mo_22, gi_Mo_23, gi_Mo_24, gi_Mo_25, gi_Mo_26, gi_Mo_27, gi_Mo_30, gi_Mo_31, gi_Ra_7, gi_Ra_8, gi_Ra_9, gi_Ra_10, gi_Rb_7, gi_Rb_8, gi_Rb_9, gi_Rb_10, hm1, ne, f3, hs2, i24, ai_308 l24, uA_s, e5']
  · refine ⟨-1000000003, sw, σ, ς, sw, σ, ς, ?_, ?_, rfl, ⟨_, _, _, _, _, _, _, _, _, h⟩⟩
    · simp only [f_X12_carry_27, if_true, ite_true, reduceIte, Option.bind_some, Option.bind_none, bT1_some, io_LD, io_Rd, io_Mt, io_Nt, io_Pl, io_Ro, io_Pa, io_Te, io_Bo, io_Ia, io_Ib, io_Mo, io_Ra, io_Rb, gr_LD_0, gr_LD_1, gr_LD_2, gr_LD_3, gr_LD_4, gr_LD_5, gr_LD_6, gr_LD_7, gr_LD_8, gr_Rd_0, gr_Mt_0, gr_Mt_1, gr_Nt_0, gr_Nt_1, gr_Nt_2, gr_Nt_3, gr_Nt_4, gr_Nt_5, gr_Nt_6, gr_Pl_0, gr_Pl_1, gr_Ro_0, gr_Ro_1, gr_Ro_2, gr_Pa_0, gr_Te_0, gr_Te_1, gr_Bo_0, gr_Bo_1, gr_Ia_0, gr_Ib_0, gr_Mo_0, gr_Mo_7, gr_Mo_8, gr_Mo_9, gr_Mo_10, gr_Mo_11, gr_Mo_12, gr_Mo_15, gr_Mo_16, gr_Mo_17, gr_Mo_18, gr_Mo_20, gr_Mo_28, gr_Mo_29, gr_Mo_32, gr_Mo_33, gr_Mo_34, gr_Mo_35, gr_Mo_36, gr_Mo_37, gr_Ra_0, gr_Ra_1, gr_Ra_2, gr_Ra_3, gr_Ra_4, gr_Ra_5, gr_Ra_6, gr_Rb_0, gr_Rb_1, gr_Rb_2, gr_Rb_3, gr_Rb_4, gr_Rb_5, gr_Rb_6, gi_LD_9, gi_Rd_1, gi_Rd_2, gi_Rd_3, gi_Rd_4, gi_Nt_7, gi_Nt_8, gi_Nt_9, gi_Nt_10, gi_Pl_2, gi_Pl_3, gi_Ro_3, gi_Ro_4, gi_Ro_5, gi_Pa_1, gi_Pa_2, gi_Te_2, gi_Bo_2, gi_Ia_1, gi_Ia_2, gi_Ib_1, gi_Ib_2, gi_Mo_1, gi_Mo_2, gi_Mo_3, gi_Mo_4, gi_Mo_5, gi_Mo_6, gi_Mo_13, gl_Mo_14, gi_Mo_19, gi_Mo_21, gi_Mo_22, gi_Mo_23, gi_Mo_24, gi_Mo_25, gi_Mo_26, gi_Mo_27, gi_Mo_30, gi_Mo_31, gi_Ra_7, gi_Ra_8, gi_Ra_9, gi_Ra_10, gi_Rb_7, gi_Rb_8, gi_Rb_9, gi_Rb_10, mayPass_C hcc hc y, if_neg hmv]
    · simp only [f_X13_carry_24, if_true, ite_true, reduceIte, Option.bind_some, Option.bind_none, bT1_some, io_LD, io_Rd, io_Mt, io_Nt, io_Pl, io_Ro, io_Pa, io_Te, io_Bo, io_Ia, io_Ib, io_Mo, io_Ra, io_Rb, gr_LD_0, gr_LD_1, gr_LD_2, gr_LD_3, gr_LD_4, gr_LD_5, gr_LD_6, gr_LD_7, gr_LD_8, gr_Rd_0, gr_Mt_0, gr_Mt_1, gr_Nt_0, gr_Nt_1, gr_Nt_2, gr_Nt_3, gr_Nt_4, gr_Nt_5, gr_Nt_6, gr_Pl_0, gr_Pl_1, gr_Ro_0, gr_Ro_1, gr_Ro_2, gr_Pa_0, gr_Te_0, gr_Te_1, gr_Bo_0, gr_Bo_1, gr_Ia_0, gr_Ib_0, gr_Mo_0, gr_Mo_7, gr_Mo_8, gr_Mo_9, gr_Mo_10, gr_Mo_11, gr_Mo_12, gr_Mo_15, gr_Mo_16, gr_Mo_17, gr_Mo_18, gr_Mo_20, gr_Mo_28, gr_Mo_29, gr_Mo_32, gr_Mo_33, gr_Mo_34, gr_Mo_35, gr_Mo_36, gr_Mo_37, gr_Ra_0, gr_Ra_1, gr_Ra_2, gr_Ra_3, gr_Ra_4, gr_Ra_5, gr_Ra_6, gr_Rb_0, gr_Rb_1, gr_Rb_2, gr_Rb_3, gr_Rb_4, gr_Rb_5, gr_Rb_6, gi_LD_9, gi_Rd_1, gi_Rd_2, gi_Rd_3, gi_Rd_4, gi_Nt_7, gi_Nt_8, gi_Nt_9, gi_Nt_10, gi_Pl_2, gi_Pl_3, gi_Ro_3, gi_Ro_4, gi_Ro_5, gi_Pa_1, gi_Pa_2, gi_Te_2, gi_Bo_2, gi_Ia_1, gi_Ia_2, gi_Ib_1, gi_Ib_2, gi_Mo_1, gi_Mo_2, gi_Mo_3, gi_Mo_4, gi_Mo_5, gi_Mo_6, gi_Mo_13, gl_Mo_14, gi_Mo_19, gi_Mo_21, gi_Mo_22, gi_Mo_23, gi_Mo_24, gi_Mo_25, gi_Mo_26, gi_Mo_27, gi_Mo_30, gi_Mo_31, gi_Ra_7, gi_Ra_8, gi_Ra_9, gi_Ra_10, gi_Rb_7, gi_Rb_8, gi_Rb_9, gi_Rb_10, canBe_M h.2.2.1 hc y, if_neg hmv]
theorem al_carry (x y : Int32) : Alike (f_X12_carry 0 x y) (f_X13_carry 302 x y) := by
  intro sw σ ς hI
  obtain ⟨len, H, D, n, m, k, nx, q, e, h⟩ := id hI
  have hcc := h.cc
  obtain ⟨⟨r1, r2, r3, r4⟩, r5, r6, ⟨c1, c2, c3, c4⟩, ⟨d1, d2, d3, d4⟩, -, -⟩ := id h.2.2.1
  have ne : ¬ (1 : Int32) = 0 := by decide
  by_cases hx : x < 0 ∨ nI m ≤ x
  · apply Exists.intro; refine ⟨sw, σ, ς, sw, σ, ς, ?_, ?_, hI⟩
    · simp only [f_X12_carry, if_true, ite_true, reduceIte, Option.bind_some, Option.bind_none, bT1_some, io_LD, io_Rd, io_Mt, io_Nt, io_Pl, io_Ro, io_Pa, io_Te, io_Bo, io_Ia, io_Ib, io_Mo, io_Ra, io_Rb, gr_LD_0, gr_LD_1, gr_LD_2, gr_LD_3, gr_LD_4, gr_LD_5, gr_LD_6, gr_LD_7, gr_LD_8, gr_Rd_0, gr_Mt_0, gr_Mt_1, gr_Nt_0, gr_Nt_1, gr_Nt_2, gr_Nt_3, gr_Nt_4, gr_Nt_5, gr_Nt_6, gr_Pl_0, gr_Pl_1, gr_Ro_0, gr_Ro_1, gr_Ro_2, gr_Pa_0, gr_Te_0, gr_Te_1, gr_Bo_0, gr_Bo_1, gr_Ia_0, gr_Ib_0, gr_Mo_0, gr_Mo_7, gr_Mo_8, gr_Mo_9, gr_Mo_10, gr_Mo_11, gr_Mo_12, gr_Mo_15, gr_Mo_16, gr_Mo_17, gr_Mo_18, gr_Mo_20, gr_Mo_28, gr_Mo_29, gr_Mo_32, gr_Mo_33, gr_Mo_34, gr_Mo_35, gr_Mo_36, gr_Mo_37, gr_Ra_0, gr_Ra_1, gr_Ra_2, gr_Ra_3, gr_Ra_4, gr_Ra_5, gr_Ra_6, gr_Rb_0, gr_Rb_1, gr_Rb_2, gr_Rb_3, gr_Rb_4, gr_Rb_5, gr_Rb_6, gi_LD_9, gi_Rd_1, gi_Rd_2, gi_Rd_3, gi_Rd_4, gi_Nt_7, gi_Nt_8, gi_Nt_9, gi_Nt_10, gi_Pl_2, gi_Pl_3, gi_Ro_3, gi_Ro_4, gi_Ro_5, gi_Pa_1, gi_Pa_2, gi_Te_2, gi_Bo_2, gi_Ia_1, gi_Ia_2, gi_Ib_1, gi_Ib_2, gi_Mo_1, gi_Mo_2, gi_Mo_3, gi_Mo_4, gi_Mo_5, gi_Mo_6, gi_Mo_13, gl_Mo_14, gi_Mo_19, gi_Mo_21, gi_Mo_22, gi_Mo_23, gi_Mo_24, gi_Mo_25, gi_Mo_26, gi_Mo_27, gi_Mo_30, gi_Mo_31, gi_Ra_7, gi_Ra_8, gi_Ra_9, gi_Ra_10, gi_Rb_7, gi_Rb_8, gi_Rb_9, gi_Rb_10, hcC_no c4 hx]; rfl
    · simp only [f_X13_carry, if_true, ite_true, reduceIte, Option.bind_some, Option.bind_none, bT1_some, io_LD, io_Rd, io_Mt, io_Nt, io_Pl, io_Ro, io_Pa, io_Te, io_Bo, io_Ia, io_Ib, io_Mo, io_Ra, io_Rb, gr_LD_0, gr_LD_1, gr_LD_2, gr_LD_3, gr_LD_4, gr_LD_5, gr_LD_6, gr_LD_7, gr_LD_8, gr_Rd_0, gr_Mt_0, gr_Mt_1, gr_Nt_0, gr_Nt_1, gr_Nt_2, gr_Nt_3, gr_Nt_4, gr_Nt_5, gr_Nt_6, gr_Pl_0, gr_Pl_1, gr_Ro_0, gr_Ro_1, gr_Ro_2, gr_Pa_0, gr_Te_0, gr_Te_1, gr_Bo_0, gr_Bo_1, gr_Ia_0, gr_Ib_0, gr_Mo_0, gr_Mo_7, gr_Mo_8, gr_Mo_9, gr_Mo_10, gr_Mo_11, gr_Mo_12, gr_Mo_15, gr_Mo_16, gr_Mo_17, gr_Mo_18, gr_Mo_20, gr_Mo_28, gr_Mo_29, gr_Mo_32, gr_Mo_33, gr_Mo_34, gr_Mo_35, gr_Mo_36, gr_Mo_37, gr_Ra_0, gr_Ra_1, gr_Ra_2, gr_Ra_3, gr_Ra_4, gr_Ra_5, gr_Ra_6, gr_Rb_0, gr_Rb_1, gr_Rb_2, gr_Rb_3, gr_Rb_4, gr_Rb_5, gr_Rb_6, gi_LD_9, gi_Rd_1, gi_Rd_2, gi_Rd_3, gi_Rd_4, gi_Nt_7, gi_Nt_8, gi_Nt_9, gi_Nt_10, gi_Pl_2, gi_Pl_3, gi_Ro_3, gi_Ro_4, gi_Ro_5, gi_Pa_1, gi_Pa_2, gi_Te_2, gi_Bo_2, gi_Ia_1, gi_Ia_2, gi_Ib_1, gi_Ib_2, gi_Mo_1, gi_Mo_2, gi_Mo_3, gi_Mo_4, gi_Mo_5, gi_Mo_6, gi_Mo_13, gl_Mo_14, gi_Mo_19, gi_Mo_21, gi_Mo_22, gi_Mo_23, gi_Mo_24, gi_Mo_25, gi_Mo_26, gi_Mo_27, gi_Mo_30, gi_Mo_31, gi_Ra_7, gi_Ra_8, gi_Ra_9, gi_Ra_10, gi_Rb_7, gi_Rb_8, gi_Rb_9, gi_Rb_10, hcM_no d4 hx]
  · obtain ⟨c, hc, rfl⟩ : ∃ j, j < m ∧ x = nI j := by
      rcases pk_ix x (n := m) (by omega) with z | z | z
      · exact absurd (Or.inl z) hx
      · exact absurd (Or.inr z) hx
      · exact z
    by_cases hy : y = 1 ∨ y = -1
    · obtain ⟨r, s1, σ1, ς1, s2, σ2, ς2, f1, f2, e303, hf⟩ := carry27 y h hc
      have d4' : σ1 302 6 = nI m := by rw [e303]; exact d4
      refine ⟨r, s1, σ1, ς1, s2, σ2, ς2, ?_, ?_, hf⟩
      · simp only [f_X12_carry, if_true, ite_true, reduceIte, Option.bind_some, Option.bind_none, bT1_some, io_LD, io_Rd, io_Mt, io_Nt, io_Pl, io_Ro, io_Pa, io_Te, io_Bo, io_Ia, io_Ib, io_Mo, io_Ra, io_Rb, gr_LD_0, gr_LD_1, gr_LD_2, gr_LD_3, gr_LD_4, gr_LD_5, gr_LD_6, gr_LD_7, gr_LD_8, gr_Rd_0, gr_Mt_0, gr_Mt_1, gr_Nt_0, gr_Nt_1, gr_Nt_2, gr_Nt_3, gr_Nt_4, gr_Nt_5, gr_Nt_6, gr_Pl_0, gr_Pl_1, gr_Ro_0, gr_Ro_1, gr_Ro_2, gr_Pa_0, gr_Te_0, gr_Te_1, gr_Bo_0, gr_Bo_1, gr_Ia_0, gr_Ib_0, gr_Mo_0, gr_Mo_7, gr_Mo_8, gr_Mo_9, gr_Mo_10, gr_Mo_11, gr_Mo_12, gr_Mo_15, gr_Mo_16, gr_Mo_17, gr_Mo_18, gr_Mo_20, gr_Mo_28, gr_Mo_29, gr_Mo_32, gr_Mo_33, gr_Mo_34, gr_Mo_35, gr_Mo_36, gr_Mo_37, gr_Ra_0, gr_Ra_1, gr_Ra_2, gr_Ra_3, gr_Ra_4, gr_Ra_5, gr_Ra_6, gr_Rb_0, gr_Rb_1, gr_Rb_2, gr_Rb_3, gr_Rb_4, gr_Rb_5, gr_Rb_6, gi_LD_9, gi_Rd_1, gi_Rd_2, gi_Rd_3, gi_Rd_4, gi_Nt_7, gi_Nt_8, gi_Nt_9, gi_Nt_10, gi_Pl_2, gi_Pl_3, gi_Ro_3, gi_Ro_4, gi_Ro_5, gi_Pa_1, gi_Pa_2, gi_Te_2, gi_Bo_2, gi_Ia_1, gi_Ia_2, gi_Ib_1, gi_Ib_2, gi_Mo_1, gi_Mo_2, gi_Mo_3, gi_Mo_4, gi_Mo_5, gi_Mo_6, gi_Mo_13, gl_Mo_14, gi_Mo_19, gi_Mo_21, gi_Mo_22, gi_Mo_23, gi_Mo_24, gi_Mo_25, gi_Mo_26, gi_Mo_27, gi_Mo_30, gi_Mo_31, gi_Ra_7, gi_Ra_8, gi_Ra_9, gi_Ra_10, gi_Rb_7, gi_Rb_8, gi_Rb_9, gi_Rb_10, hcC_yes c4 hc r4, ne, f1]
        rcases hy with z | z
        · rw [if_pos z]
        · rw [if_neg (by rw [z]; decide), if_pos z]
      · simp only [f_X13_carry, if_true, ite_true, reduceIte, Option.bind_some, Option.bind_none, bT1_some, io_LD, io_Rd, io_Mt, io_Nt, io_Pl, io_Ro, io_Pa, io_Te, io_Bo, io_Ia, io_Ib, io_Mo, io_Ra, io_Rb, gr_LD_0, gr_LD_1, gr_LD_2, gr_LD_3, gr_LD_4, gr_LD_5, gr_LD_6, gr_LD_7, gr_LD_8, gr_Rd_0, gr_Mt_0, gr_Mt_1, gr_Nt_0, gr_Nt_1, gr_Nt_2, gr_Nt_3, gr_Nt_4, gr_Nt_5, gr_Nt_6, gr_Pl_0, gr_Pl_1, gr_Ro_0, gr_Ro_1, gr_Ro_2, gr_Pa_0, gr_Te_0, gr_Te_1, gr_Bo_0, gr_Bo_1, gr_Ia_0, gr_Ib_0, gr_Mo_0, gr_Mo_7, gr_Mo_8, gr_Mo_9, gr_Mo_10, gr_Mo_11, gr_Mo_12, gr_Mo_15, gr_Mo_16, gr_Mo_17, gr_Mo_18, gr_Mo_20, gr_Mo_28, gr_Mo_29, gr_Mo_32, gr_Mo_33, gr_Mo_34, gr_Mo_35, gr_Mo_36, gr_Mo_37, gr_Ra_0, gr_Ra_1, gr_Ra_2, gr_Ra_3, gr_Ra_4, gr_Ra_5, gr_Ra_6, gr_Rb_0, gr_Rb_1, gr_Rb_2, gr_Rb_3, gr_Rb_4, gr_Rb_5, gr_Rb_6, gi_LD_9, gi_Rd_1, gi_Rd_2, gi_Rd_3, gi_Rd_4, gi_Nt_7, gi_Nt_8, gi_Nt_9, gi_Nt_10, gi_Pl_2, gi_Pl_3, gi_Ro_3, gi_Ro_4, gi_Ro_5, gi_Pa_1, gi_Pa_2, gi_Te_2, gi_Bo_2, gi_Ia_1, gi_Ia_2, gi_Ib_1, gi_Ib_2, gi_Mo_1, gi_Mo_2, gi_Mo_3, gi_Mo_4, gi_Mo_5, gi_Mo_6, gi_Mo_13, gl_Mo_14, gi_Mo_19, gi_Mo_21, gi_Mo_22, gi_Mo_23, gi_Mo_24, gi_Mo_25, gi_Mo_26, gi_Mo_27, gi_Mo_30, gi_Mo_31, gi_Ra_7, gi_Ra_8, gi_Ra_9, gi_Ra_10, gi_Rb_7, gi_Rb_8, gi_Rb_9, gi_Rb_10, hcM_yes d4' hc r4, ne, f2]
        rcases hy with z | z
        · rw [if_pos z]
        · rw [if_neg (by rw [z]; decide), if_pos z]
    · have y1 : ¬ y = 1 := fun z => hy (Or.inl z)
      have y2 : ¬ y = -1 := fun z => hy (Or.inr z)
      apply Exists.intro; refine ⟨sw, σ, ς, sw, σ, ς, ?_, ?_, hI⟩
      · simp only [f_X12_carry, if_true, ite_true, reduceIte, Option.bind_some, Option.bind_none, bT1_some, io_LD, io_Rd, io_Mt, io_Nt, io_Pl, io_Ro, io_Pa, io_Te, io_Bo, io_Ia, io_Ib, io_Mo, io_Ra, io_Rb, gr_LD_0, gr_LD_1, gr_LD_2, gr_LD_3, gr_LD_4, gr_LD_5, gr_LD_6, gr_LD_7, gr_LD_8, gr_Rd_0, gr_Mt_0, gr_Mt_1, gr_Nt_0, gr_Nt_1, gr_Nt_2, gr_Nt_3, gr_Nt_4, gr_Nt_5, gr_Nt_6, gr_Pl_0, gr_Pl_1, gr_Ro_0, gr_Ro_1, gr_Ro_2, gr_Pa_0, gr_Te_0, gr_Te_1, gr_Bo_0, gr_Bo_1, gr_Ia_0, gr_Ib_0, gr_Mo_0, gr_Mo_7, gr_Mo_8, gr_Mo_9, gr_Mo_10, gr_Mo_11, gr_Mo_12, gr_Mo_15, gr_Mo_16, gr_Mo_17, gr_Mo_18, gr_Mo_20, gr_Mo_28, gr_Mo_29, gr_Mo_32, gr_Mo_33, gr_Mo_34, gr_Mo_35, gr_Mo_36, gr_Mo_37, gr_Ra_0, gr_Ra_1, gr_Ra_2, gr_Ra_3, gr_Ra_4, gr_Ra_5, gr_Ra_6, gr_Rb_0, gr_Rb_1, gr_Rb_2, gr_Rb_3, gr_Rb_4, gr_Rb_5, gr_Rb_6, gi_LD_9, gi_Rd_1, gi_Rd_2, gi_Rd_3, gi_Rd_4, gi_Nt_7, gi_Nt_8, gi_Nt_9, gi_Nt_10, gi_Pl_2, gi_Pl_3, gi_Ro_3, gi_Ro_4, gi_Ro_5, gi_Pa_1, gi_Pa_2, gi_Te_2, gi_Bo_2, gi_Ia_1, gi_Ia_2, gi_Ib_1, gi_Ib_2, gi_Mo_1, gi_Mo_2, gi_Mo_3, gi_Mo_4, gi_Mo_5, gi_Mo_6, gi_Mo_13, gl_Mo_14, gi_Mo_19, gi_Mo_21, gi_Mo_22, gi_Mo_23, gi_Mo_24, gi_Mo_25, gi_Mo_26, gi_Mo_27, gi_Mo_30, gi_Mo_31, gi_Ra_7, gi_Ra_8, gi_Ra_9, gi_Ra_10, gi_Rb_7, gi_Rb_8, gi_Rb_9, gi_Rb_10, hcC_yes c4 hc r4, ne, y1, y2, if_false]; rfl
      · simp only [f_X13_carry, if_true, ite_true, reduceIte, Option.bind_some, Option.bind_none, bT1_some, io_LD, io_Rd, io_Mt, io_Nt, io_Pl, io_Ro, io_Pa, io_Te, io_Bo, io_Ia, io_Ib, io_Mo, io_Ra, io_Rb, gr_LD_0, gr_LD_1, gr_LD_2, gr_LD_3, gr_LD_4, gr_LD_5, gr_LD_6, gr_LD_7, gr_LD_8, gr_Rd_0, gr_Mt_0, gr_Mt_1, gr_Nt_0, gr_Nt_1, gr_Nt_2, gr_Nt_3, gr_Nt_4, gr_Nt_5, gr_Nt_6, gr_Pl_0, gr_Pl_1, gr_Ro_0, gr_Ro_1, gr_Ro_2, gr_Pa_0, gr_Te_0, gr_Te_1, gr_Bo_0, gr_Bo_1, gr_Ia_0, gr_Ib_0, gr_Mo_0, gr_Mo_7, gr_Mo_8, gr_Mo_9, gr_Mo_10, gr_Mo_11, gr_Mo_12, gr_Mo_15, gr_Mo_16, gr_Mo_17, gr_Mo_18, gr_Mo_20, gr_Mo_28, gr_Mo_29, gr_Mo_32, gr_Mo_33, gr_Mo_34, gr_Mo_35, gr_Mo_36, gr_Mo_37, gr_Ra_0, gr_Ra_1, gr_Ra_2, gr_Ra_3, gr_Ra_4, gr_Ra_5, gr_Ra_6, gr_Rb_0, gr_Rb_1, gr_Rb_2, gr_Rb_3, gr_Rb_4, gr_Rb_5, gr_Rb_6, gi_LD_9, gi_Rd_1, gi_Rd_2, gi_Rd_3, gi_Rd_4, gi_Nt_7, gi_Nt_8, gi_Nt_9, gi_Nt_10, gi_Pl_2, gi_Pl_3, gi_Ro_3, gi_Ro_4, gi_Ro_5, gi_Pa_1, gi_Pa_2, gi_Te_2, gi_Bo_2, gi_Ia_1, gi_Ia_2, gi_Ib_1, gi_Ib_2, gi_Mo_1, gi_Mo_2, gi_Mo_3, gi_Mo_4, gi_Mo_5, gi_Mo_6, gi_Mo_13, gl_Mo_14, gi_Mo_19, gi_Mo_21, gi_Mo_22, gi_Mo_23, gi_Mo_24, gi_Mo_25, gi_Mo_26, gi_Mo_27, gi_Mo_30, gi_Mo_31, gi_Ra_7, gi_Ra_8, gi_Ra_9, gi_Ra_10, gi_Rb_7, gi_Rb_8, gi_Rb_9, gi_Rb_10, hcM_yes d4 hc r4, ne, y1, y2, if_false]
