section DL
variable {sw : Bool} {ς : Lg} {H D n m N : Nat} {dz : Nat → Nat}
theorem tDr_z (hdz : DZ dz) (vo ho kd sl : Nat → Int32) (x : VZ) (hz : x.2 < 2147483648) : (tDr dz H D n m vo ho kd sl x).2 < 2147483648 := by
  unfold tDr
  split
  · exact hz
  · exact hdz.1 _
theorem drift_LC (hdz : DZ dz) (hN : N ≤ 20) : ∀ (d i f : Nat) (σ : Sg) (x : VZ) (k nx : Nat) (L : Nat → Nat → Int32), i + d = N → d < f → CC sw σ x.1 H D n m → PC n m σ k nx L → nV x.1 50 + d ≤ 20000 → x.2 < 2147483648 → σ 0 9 = nI x.2 →
    ∃ σ' nx', f_X12_drift_L14 f 0 (nI N) (nI i) (enc sw σ ς) = some (enc sw σ' ς) ∧ CC sw σ' (itG (tDr dz H D n m (σ 304) (σ 305) (σ 306) (σ 307)) d x k L).1.1 H D n m ∧ PC n m σ' (itG (tDr dz H D n m (σ 304) (σ 305) (σ 306) (σ 307)) d x k L).2.1 nx' (itG (tDr dz H D n m (σ 304) (σ 305) (σ 306) (σ 307)) d x k L).2.2 ∧ ((itG (tDr dz H D n m (σ 304) (σ 305) (σ 306) (σ 307)) d x k L).1.2 < 2147483648 ∧ σ' 0 9 = nI (itG (tDr dz H D n m (σ 304) (σ 305) (σ 306) (σ 307)) d x k L).1.2) ∧ ∀ a, ((0 < a ∧ a < 4) ∨ (12 ≤ a ∧ a < 27) ∨ 269 ≤ a) → σ' a = σ a := by
  intro d
  induction d with
  | zero =>
    intro i f σ x k nx L hi hf hc hp he hz hz2
    obtain ⟨f, rfl⟩ : ∃ f', f = f' + 1 := ⟨f - 1, by omega⟩
    refine ⟨σ, nx, ?_, hc, hp, ⟨hz, hz2⟩, fun _ _ => rfl⟩
    show F_X12_drift_L14 (f_X12_drift_L14 f) 0 (nI N) (nI i) (enc sw σ ς) = _
    simp only [F_X12_drift_L14, if_pos (nI_le (show N ≤ i by omega) (by omega))]
  | succ d ih =>
    intro i f σ x k nx L hi hf hc hp he hz hz2
    obtain ⟨f, rfl⟩ : ∃ f', f = f' + 1 := ⟨f - 1, by omega⟩
    obtain ⟨σa, f1, ca, pa, oa⟩ := remember_C (ς := ς) hc hp
    obtain ⟨σb, f2, cb, zb, ob⟩ := do_C (ς := ς) hdz ca hz (by rw [oa 0 (by omega)]; exact hz2) (by omega)
    rw [oa 305 (by omega), oa 304 (by omega), oa 306 (by omega), oa 307 (by omega)] at cb zb
    have pb := pa.c (σ' := σb) (fun j a b => ob j (by omega) (by omega))
    have hT := (tDr_NB (dz := dz) (vo := σ 304) (ho := σ 305) (kd := σ 306) (sl := σ 307) (D := D) hc.1.1.2.2.1 hc.1.1.2.2.2 hc.1.1.1 hc.1.1.2.1 (fun s hs => ⟨_, hc.1.home hs⟩) x hc.2.2 (by omega)).2
    obtain ⟨σ', nx', g1, g2, g3, g4, g5⟩ := ih (i + 1) f σb (tDr dz H D n m (σ 304) (σ 305) (σ 306) (σ 307) x) _ _ _ (by omega) (by omega) cb pb (by omega) (tDr_z hdz _ _ _ _ x hz) zb
    have e305 : σb 304 = σ 304 := by rw [ob 304 (by omega) (by omega), oa 304 (by omega)]
    have e306 : σb 305 = σ 305 := by rw [ob 305 (by omega) (by omega), oa 305 (by omega)]
    have e307 : σb 306 = σ 306 := by rw [ob 306 (by omega) (by omega), oa 306 (by omega)]
    have e308 : σb 307 = σ 307 := by rw [ob 307 (by omega) (by omega), oa 307 (by omega)]
    rw [e305, e306, e307, e308] at g2 g3 g4
    have hng : ¬ nI N ≤ nI i := nI_ge (by omega) (by omega)
    refine ⟨σ', nx', ?_, g2, g3, g4, fun a ha => ?_⟩
    · show F_X12_drift_L14 (f_X12_drift_L14 f) 0 (nI N) (nI i) (enc sw σ ς) = _
      simp only [F_X12_drift_L14, if_true, ite_true, reduceIte, Option.bind_some, Option.bind_none, bT1_some, io_LD, io_Rd, io_Mt, io_Nt, io_Pl, io_Ro, io_Pa, io_Te, io_Bo, io_Ia, io_Ib, io_Mo, io_Ra, io_Rb, gr_LD_0, gr_LD_1, gr_LD_2, gr_LD_3, gr_LD_4, gr_LD_5, gr_LD_6, gr_LD_7, gr_LD_8, gr_Rd_0, gr_Mt_0, gr_Mt_1, gr_Nt_0, gr_Nt_1, gr_Nt_2, gr_Nt_3, gr_Nt_4, gr_Nt_5, gr_Nt_6, gr_Pl_0, gr_Pl_1, gr_Ro_0, gr_Ro_1, gr_Ro_2, gr_Pa_0, gr_Te_0, gr_Te_1, gr_Bo_0, gr_Bo_1, gr_Ia_0, gr_Ib_0, gr_Mo_0, gr_Mo_7, gr_Mo_8, gr_Mo_9, gr_Mo_10, gr_Mo_11, gr_Mo_12, gr_Mo_15, gr_Mo_16, gr_Mo_17, gr_Mo_18, gr_Mo_20, gr_Mo_28, gr_Mo_29, gr_Mo_32, gr_Mo_33, gr_Mo_34, gr_Mo_35, gr_Mo_36, gr_Mo_37, gr_Ra_0, gr_Ra_1, gr_Ra_2, gr_Ra_3, gr_Ra_4, gr_Ra_5, gr_Ra_6, gr_Rb_0, gr_Rb_1, gr_Rb_2, gr_Rb_3, gr_Rb_4, gr_Rb_5, gr_Rb_6, gi_LD_9, gi_Rd_1, gi_Rd_2, gi_Rd_3, gi_Rd_4, gi_Nt_7, gi_Nt_8, gi_Nt_9, gi_Nt_10, gi_Pl_2, gi_Pl_3, gi_Ro_3, gi_Ro_4, gi_Ro_5, gi_Pa_1, gi_Pa_2, gi_Te_2, gi_Bo_2, gi_Ia_1, gi_Ia_2, gi_Ib_1, gi_Ib_2, gi_Mo_1, gi_Mo_2, gi_Mo_3, gi_Mo_4, gi_Mo_5, gi_Mo_6, gi_Mo_13, gl_Mo_14, gi_Mo_19, gi_Mo_21, gi_Mo_22, gi_Mo_23, gi_Mo_24, gi_Mo_25, gi_Mo_26, gi_Mo_27, gi_Mo_30, gi_Mo_31, gi_Ra_7, gi_Ra_8, gi_Ra_9, gi_Ra_10, gi_Rb_7, gi_Rb_8, gi_Rb_9, gi_Rb_10, hng, if_false, f1, f2, nI_1, g1]
    · rw [g5 a ha, ob a (by omega) (by omega), oa a (by omega)]
theorem drift_LM (hdz : DZ dz) (hN : N ≤ 20) : ∀ (d i f : Nat) (σ : Sg) (ς : Lg) (x : VZ) (k : Nat) (L : Nat → Nat → Int32), i + d = N → d < f → I_row (rA sw) σ H D n m → NB n m H (σ 306) (σ 307) x.1 → σ 308 = x.1 → k ≤ 30 → PM σ k L → nV x.1 50 + d ≤ 20000 → x.2 < 2147483648 → ς 302 14 = lN x.2 →
    ∃ σ' ς', f_X13_drift_L14 f 302 (nI N) (nI i) (enc sw σ ς) = some (enc sw σ' ς') ∧ σ' 308 = (itG (tDr dz H D n m (σ 304) (σ 305) (σ 306) (σ 307)) d x k L).1.1 ∧ PM σ' (itG (tDr dz H D n m (σ 304) (σ 305) (σ 306) (σ 307)) d x k L).2.1 (itG (tDr dz H D n m (σ 304) (σ 305) (σ 306) (σ 307)) d x k L).2.2 ∧ ς' 302 14 = lN (itG (tDr dz H D n m (σ 304) (σ 305) (σ 306) (σ 307)) d x k L).1.2 ∧ ς' 311 = ς 311 ∧ (∀ a, a ≠ 302 → a ≠ 308 → a ≠ 309 → σ' a = σ a) ∧ (∀ j, j ≠ 13 → σ' 302 j = σ 302 j) := by
  have hra := rA_or sw
  intro d
  induction d with
  | zero =>
    intro i f σ ς x k L hi hf hr hb h9 hk hp he hz hz2
    obtain ⟨f, rfl⟩ : ∃ f', f = f' + 1 := ⟨f - 1, by omega⟩
    refine ⟨σ, ς, ?_, h9, hp, hz2, rfl, fun _ _ _ _ => rfl, fun _ _ => rfl⟩
    show F_X13_drift_L14 (f_X13_drift_L14 f) 302 (nI N) (nI i) (enc sw σ ς) = _
    simp only [F_X13_drift_L14, if_pos (nI_le (show N ≤ i by omega) (by omega))]
  | succ d ih =>
    intro i f σ ς x k L hi hf hr hb h9 hk hp he hz hz2
    obtain ⟨f, rfl⟩ : ∃ f', f = f' + 1 := ⟨f - 1, by omega⟩
    obtain ⟨⟨r1, r2, r3, r4⟩, r5, r6, -, ⟨d1, d2, d3, d4⟩, -⟩ := id hr
    obtain ⟨σc, f3, pmc, oc, cc⟩ := remembers_M (sw := sw) (ς := ς) hk hp
    have hrc : I_row (rA sw) σc H D n m := hr.c (fun j hj => oc _ (by omega) (by omega)) (fun j a b => cc j (by omega)) (fun j a b => oc j (by omega) (by omega))
    have e309 : σc 308 = x.1 := by rw [oc 308 (by omega) (by omega)]; exact h9
    have e307 : σc 306 = σ 306 := oc 306 (by omega) (by omega)
    have e308 : σc 307 = σ 307 := oc 307 (by omega) (by omega)
    have e306 : σc 305 = σ 305 := oc 305 (by omega) (by omega)
    have e305 : σc 304 = σ 304 := oc 304 (by omega) (by omega)
    have d3' : σc 302 5 = nI n := by rw [cc 5 (by omega)]; exact d3
    have d4' : σc 302 6 = nI m := by rw [cc 6 (by omega)]; exact d4
    rw [h9] at pmc
    have hT := tDr_NB (dz := dz) (vo := σ 304) (ho := σ 305) (kd := σ 306) (sl := σ 307) (D := D) hr.1.2.2.1 hr.1.2.2.2 hr.1.1 hr.1.2.1 (fun s hs => ⟨_, hr.home hs⟩) x hb (by omega)
    have hng : ¬ nI N ≤ nI i := nI_ge (by omega) (by omega)
    -- what a step does, however it is reached
    have go : ∀ (W : Nat → Int32) (ς1 : Lg), W = (tDr dz H D n m (σ 304) (σ 305) (σ 306) (σ 307) x).1 → ς1 302 14 = lN (tDr dz H D n m (σ 304) (σ 305) (σ 306) (σ 307) x).2 → ς1 311 = ς 311 →
        ∃ σ' ς', f_X13_drift_L14 f 302 (nI N) (nI (i + 1)) (enc sw (uA σc 308 W) ς1) = some (enc sw σ' ς') ∧ σ' 308 = (itG (tDr dz H D n m (σ 304) (σ 305) (σ 306) (σ 307)) (d + 1) x k L).1.1 ∧ PM σ' (itG (tDr dz H D n m (σ 304) (σ 305) (σ 306) (σ 307)) (d + 1) x k L).2.1 (itG (tDr dz H D n m (σ 304) (σ 305) (σ 306) (σ 307)) (d + 1) x k L).2.2 ∧ ς' 302 14 = lN (itG (tDr dz H D n m (σ 304) (σ 305) (σ 306) (σ 307)) (d + 1) x k L).1.2 ∧ ς' 311 = ς 311 ∧ (∀ a, a ≠ 302 → a ≠ 308 → a ≠ 309 → σ' a = σ a) ∧ (∀ j, j ≠ 13 → σ' 302 j = σ 302 j) := by
      intro W ς1 hW hς hς2
      obtain ⟨σ', ς', g1, g2, g3, g4, g4b, g5, g6⟩ := ih (i + 1) f (uA σc 308 W) ς1 (tDr dz H D n m (σ 304) (σ 305) (σ 306) (σ 307) x) (kPsh k) (lPsh k L x.1) (by omega) (by omega)
        (hrc.c (fun j hj => uA_n (by omega)) (fun j a b => by rw [uA_n (by omega)]) (fun j a b => uA_n (by omega))) (by rw [uA_n (by omega), uA_n (by omega), e307, e308]; exact hT.1) (by rw [uA_s]; exact hW) (kPsh_le hk).1 ⟨by rw [uA_n (by omega)]; exact pmc.1, by rw [uA_n (by omega)]; exact pmc.2⟩ (by have := hT.2; omega) (tDr_z hdz _ _ _ _ x hz) hς
      rw [uA_n (by omega), uA_n (by omega), uA_n (by omega), uA_n (by omega), e305, e306, e307, e308] at g2 g3 g4
      refine ⟨σ', ς', g1, g2, g3, g4, g4b.trans hς2, fun a z1 z2 z3 => ?_, fun j hj => ?_⟩
      · rw [g5 a z1 z2 z3, uA_n z2, oc a z1 z3]
      · rw [g6 j hj, uA_n (by omega), cc j hj]
    have same : uA σc 308 x.1 = σc := by rw [← e309]; exact uA_id σc 308
    by_cases hn0 : n = 0
    · have ht : tDr dz H D n m (σ 304) (σ 305) (σ 306) (σ 307) x = x := by unfold tDr; rw [if_pos (Or.inl hn0)]
      obtain ⟨σ', ς', g1, g2⟩ := go x.1 ς (by rw [ht]) (by rw [ht]; exact hz2) rfl
      rw [same] at g1
      have tn : (nI n ≤ 0) = True := eq_true (by rw [hn0]; decide)
      refine ⟨σ', ς', ?_, g2⟩
      show F_X13_drift_L14 (f_X13_drift_L14 f) 302 (nI N) (nI i) (enc sw σ ς) = _
      simp only [F_X13_drift_L14, if_true, ite_true, reduceIte, Option.bind_some, Option.bind_none, bT1_some, io_LD, io_Rd, io_Mt, io_Nt, io_Pl, io_Ro, io_Pa, io_Te, io_Bo, io_Ia, io_Ib, io_Mo, io_Ra, io_Rb, gr_LD_0, gr_LD_1, gr_LD_2, gr_LD_3, gr_LD_4, gr_LD_5, gr_LD_6, gr_LD_7, gr_LD_8, gr_Rd_0, gr_Mt_0, gr_Mt_1, gr_Nt_0, gr_Nt_1, gr_Nt_2, gr_Nt_3, gr_Nt_4, gr_Nt_5, gr_Nt_6, gr_Pl_0, gr_Pl_1, gr_Ro_0, gr_Ro_1, gr_Ro_2, gr_Pa_0, gr_Te_0, gr_Te_1, gr_Bo_0, gr_Bo_1, gr_Ia_0, gr_Ib_0, gr_Mo_0, gr_Mo_7, gr_Mo_8, gr_Mo_9, gr_Mo_10, gr_Mo_11, gr_Mo_12, gr_Mo_15, gr_Mo_16, gr_Mo_17, gr_Mo_18, gr_Mo_20, gr_Mo_28, gr_Mo_29, gr_Mo_32, gr_Mo_33, gr_Mo_34, gr_Mo_35, gr_Mo_36, gr_Mo_37, gr_Ra_0, gr_Ra_1, gr_Ra_2, gr_Ra_3, gr_Ra_4, gr_Ra_5, gr_Ra_6, gr_Rb_0, gr_Rb_1, gr_Rb_2, gr_Rb_3, gr_Rb_4, gr_Rb_5, gr_Rb_6, gi_LD_9, gi_Rd_1, gi_Rd_2, gi_Rd_3, gi_Rd_4, gi_Nt_7, gi_Nt_8, gi_Nt_9, gi_Nt_10, gi_Pl_2, gi_Pl_3, gi_Ro_3, gi_Ro_4, gi_Ro_5, gi_Pa_1, gi_Pa_2, gi_Te_2, gi_Bo_2, gi_Ia_1, gi_Ia_2, gi_Ib_1, gi_Ib_2, gi_Mo_1, gi_Mo_2, gi_Mo_3, gi_Mo_4, gi_Mo_5, gi_Mo_6, gi_Mo_13, gl_Mo_14, gi_Mo_19, gi_Mo_21, gi_Mo_22, gi_Mo_23, gi_Mo_24, gi_Mo_25, gi_Mo_26, gi_Mo_27, gi_Mo_30, gi_Mo_31, gi_Ra_7, gi_Ra_8, gi_Ra_9, gi_Ra_10, gi_Rb_7, gi_Rb_8, gi_Rb_9, gi_Rb_10, hng, if_false, f3, d3', tn, nI_1, g1]
    · have tn : (nI n ≤ 0) = False := eq_false (nI_nle (by omega) (by omega))
      by_cases hm0 : m = 0
      · have ht : tDr dz H D n m (σ 304) (σ 305) (σ 306) (σ 307) x = x := by unfold tDr; rw [if_pos (Or.inr hm0)]
        obtain ⟨σ', ς', g1, g2⟩ := go x.1 ς (by rw [ht]) (by rw [ht]; exact hz2) rfl
        rw [same] at g1
        have tm : (nI m ≤ 0) = True := eq_true (by rw [hm0]; decide)
        refine ⟨σ', ς', ?_, g2⟩
        show F_X13_drift_L14 (f_X13_drift_L14 f) 302 (nI N) (nI i) (enc sw σ ς) = _
        simp only [F_X13_drift_L14, if_true, ite_true, reduceIte, Option.bind_some, Option.bind_none, bT1_some, io_LD, io_Rd, io_Mt, io_Nt, io_Pl, io_Ro, io_Pa, io_Te, io_Bo, io_Ia, io_Ib, io_Mo, io_Ra, io_Rb, gr_LD_0, gr_LD_1, gr_LD_2, gr_LD_3, gr_LD_4, gr_LD_5, gr_LD_6, gr_LD_7, gr_LD_8, gr_Rd_0, gr_Mt_0, gr_Mt_1, gr_Nt_0, gr_Nt_1, gr_Nt_2, gr_Nt_3, gr_Nt_4, gr_Nt_5, gr_Nt_6, gr_Pl_0, gr_Pl_1, gr_Ro_0, gr_Ro_1, gr_Ro_2, gr_Pa_0, gr_Te_0, gr_Te_1, gr_Bo_0, gr_Bo_1, gr_Ia_0, gr_Ib_0, gr_Mo_0, gr_Mo_7, gr_Mo_8, gr_Mo_9, gr_Mo_10, gr_Mo_11, gr_Mo_12, gr_Mo_15, gr_Mo_16, gr_Mo_17, gr_Mo_18, gr_Mo_20, gr_Mo_28, gr_Mo_29, gr_Mo_32, gr_Mo_33, gr_Mo_34, gr_Mo_35, gr_Mo_36, gr_Mo_37, gr_Ra_0, gr_Ra_1, gr_Ra_2, gr_Ra_3, gr_Ra_4, gr_Ra_5, gr_Ra_6, gr_Rb_0, gr_Rb_1, gr_Rb_2, gr_Rb_3, gr_Rb_4, gr_Rb_5, gr_Rb_6, gi_LD_9, gi_Rd_1, gi_Rd_2, gi_Rd_3, gi_Rd_4, gi_Nt_7, gi_Nt_8, gi_Nt_9, gi_Nt_10, gi_Pl_2, gi_Pl_3, gi_Ro_3, gi_Ro_4, gi_Ro_5, gi_Pa_1, gi_Pa_2, gi_Te_2, gi_Bo_2, gi_Ia_1, gi_Ia_2, gi_Ib_1, gi_Ib_2, gi_Mo_1, gi_Mo_2, gi_Mo_3, gi_Mo_4, gi_Mo_5, gi_Mo_6, gi_Mo_13, gl_Mo_14, gi_Mo_19, gi_Mo_21, gi_Mo_22, gi_Mo_23, gi_Mo_24, gi_Mo_25, gi_Mo_26, gi_Mo_27, gi_Mo_30, gi_Mo_31, gi_Ra_7, gi_Ra_8, gi_Ra_9, gi_Ra_10, gi_Rb_7, gi_Rb_8, gi_Rb_9, gi_Rb_10, hng, if_false, f3, d3', tn, d4', tm, nI_1, g1]
      · have tm : (nI m ≤ 0) = False := eq_false (nI_nle (by omega) (by omega))
        obtain ⟨ς1, f4, f5, f6⟩ := drifts_M (ς := ς) hdz hrc (by rw [e307, e308, e309]; exact hb) (by omega) (by omega) hz hz2 (by rw [e309]; omega)
        rw [e305, e306, e307, e308, e309] at f4 f5
        obtain ⟨σ', ς', g1, g2⟩ := go _ ς1 rfl f5 f6
        refine ⟨σ', ς', ?_, g2⟩
        show F_X13_drift_L14 (f_X13_drift_L14 f) 302 (nI N) (nI i) (enc sw σ ς) = _
        simp only [F_X13_drift_L14, if_true, ite_true, reduceIte, Option.bind_some, Option.bind_none, bT1_some, io_LD, io_Rd, io_Mt, io_Nt, io_Pl, io_Ro, io_Pa, io_Te, io_Bo, io_Ia, io_Ib, io_Mo, io_Ra, io_Rb, gr_LD_0, gr_LD_1, gr_LD_2, gr_LD_3, gr_LD_4, gr_LD_5, gr_LD_6, gr_LD_7, gr_LD_8, gr_Rd_0, gr_Mt_0, gr_Mt_1, gr_Nt_0, gr_Nt_1, gr_Nt_2, gr_Nt_3, gr_Nt_4, gr_Nt_5, gr_Nt_6, gr_Pl_0, gr_Pl_1, gr_Ro_0, gr_Ro_1, gr_Ro_2, gr_Pa_0, gr_Te_0, gr_Te_1, gr_Bo_0, gr_Bo_1, gr_Ia_0, gr_Ib_0, gr_Mo_0, gr_Mo_7, gr_Mo_8, gr_Mo_9, gr_Mo_10, gr_Mo_11, gr_Mo_12, gr_Mo_15, gr_Mo_16, gr_Mo_17, gr_Mo_18, gr_Mo_20, gr_Mo_28, gr_Mo_29, gr_Mo_32, gr_Mo_33, gr_Mo_34, gr_Mo_35, gr_Mo_36, gr_Mo_37, gr_Ra_0, gr_Ra_1, gr_Ra_2, gr_Ra_3, gr_Ra_4, gr_Ra_5, gr_Ra_6, gr_Rb_0, gr_Rb_1, gr_Rb_2, gr_Rb_3, gr_Rb_4, gr_Rb_5, gr_Rb_6, gi_LD_9, gi_Rd_1, gi_Rd_2, gi_Rd_3, gi_Rd_4, gi_Nt_7, gi_Nt_8, gi_Nt_9, gi_Nt_10, gi_Pl_2, gi_Pl_3, gi_Ro_3, gi_Ro_4, gi_Ro_5, gi_Pa_1, gi_Pa_2, gi_Te_2, gi_Bo_2, gi_Ia_1, gi_Ia_2, gi_Ib_1, gi_Ib_2, gi_Mo_1, gi_Mo_2, gi_Mo_3, gi_Mo_4, gi_Mo_5, gi_Mo_6, gi_Mo_13, gl_Mo_14, gi_Mo_19, gi_Mo_21, gi_Mo_22, gi_Mo_23, gi_Mo_24, gi_Mo_25, gi_Mo_26, gi_Mo_27, gi_Mo_30, gi_Mo_31, gi_Ra_7, gi_Ra_8, gi_Ra_9, gi_Ra_10, gi_Rb_7, gi_Rb_8, gi_Rb_9, gi_Rb_10, hng, if_false, f3, d3', tn, d4', tm, nI_1, f4, g1]
end DL
/-! all notches -/
def zSum (V : Nat → Int32) : Nat → Nat → Nat
  | _, 0 => 0
  | i, d + 1 => nV V (6 + i) + zSum V (i + 1) d
section SU
variable {sw : Bool} {σ : Sg} {ς : Lg} {V : Nat → Int32} {H D n m : Nat}
theorem sum_LC (h : CC sw σ V H D n m) : ∀ (d i f a : Nat), i + d = n → d < f → f_X5_allNotches_L4 f 3 (nI a) (nI i) (enc sw σ ς) = some (nI (a + zSum V i d), enc sw σ ς) := by
  obtain ⟨⟨r1, r2, r3, r4⟩, r5, r6, ⟨c1, c2, c3, c4⟩, -⟩ := id h.1
  intro d
  induction d with
  | zero =>
    intro i f a hi hf
    obtain ⟨f, rfl⟩ : ∃ f', f = f' + 1 := ⟨f - 1, by omega⟩
    show F_X5_allNotches_L4 (f_X5_allNotches_L4 f) 3 (nI a) (nI i) (enc sw σ ς) = _
    simp only [F_X5_allNotches_L4, if_true, ite_true, reduceIte, Option.bind_some, Option.bind_none, bT1_some, io_LD, io_Rd, io_Mt, io_Nt, io_Pl, io_Ro, io_Pa, io_Te, io_Bo, io_Ia, io_Ib, io_Mo, io_Ra, io_Rb, gr_LD_0, gr_LD_1, gr_LD_2, gr_LD_3, gr_LD_4, gr_LD_5, gr_LD_6, gr_LD_7, gr_LD_8, gr_Rd_0, gr_Mt_0, gr_Mt_1, gr_Nt_0, gr_Nt_1, gr_Nt_2, gr_Nt_3, gr_Nt_4, gr_Nt_5, gr_Nt_6, gr_Pl_0, gr_Pl_1, gr_Ro_0, gr_Ro_1, gr_Ro_2, gr_Pa_0, gr_Te_0, gr_Te_1, gr_Bo_0, gr_Bo_1, gr_Ia_0, gr_Ib_0, gr_Mo_0, gr_Mo_7, gr_Mo_8, gr_Mo_9, gr_Mo_10, gr_Mo_11, gr_Mo_12, gr_Mo_15, gr_Mo_16, gr_Mo_17, gr_Mo_18, gr_Mo_20, gr_Mo_28, gr_Mo_29, gr_Mo_32, gr_Mo_33, gr_Mo_34, gr_Mo_35, gr_Mo_36, gr_Mo_37, gr_Ra_0, gr_Ra_1, gr_Ra_2, gr_Ra_3, gr_Ra_4, gr_Ra_5, gr_Ra_6, gr_Rb_0, gr_Rb_1, gr_Rb_2, gr_Rb_3, gr_Rb_4, gr_Rb_5, gr_Rb_6, gi_LD_9, gi_Rd_1, gi_Rd_2, gi_Rd_3, gi_Rd_4, gi_Nt_7, gi_Nt_8, gi_Nt_9, gi_Nt_10, gi_Pl_2, gi_Pl_3, gi_Ro_3, gi_Ro_4, gi_Ro_5, gi_Pa_1, gi_Pa_2, gi_Te_2, gi_Bo_2, gi_Ia_1, gi_Ia_2, gi_Ib_1, gi_Ib_2, gi_Mo_1, gi_Mo_2, gi_Mo_3, gi_Mo_4, gi_Mo_5, gi_Mo_6, gi_Mo_13, gl_Mo_14, gi_Mo_19, gi_Mo_21, gi_Mo_22, gi_Mo_23, gi_Mo_24, gi_Mo_25, gi_Mo_26, gi_Mo_27, gi_Mo_30, gi_Mo_31, gi_Ra_7, gi_Ra_8, gi_Ra_9, gi_Ra_10, gi_Rb_7, gi_Rb_8, gi_Rb_9, gi_Rb_10, c3, if_pos (nI_le (show n ≤ i by omega) (by omega))]
    rfl
  | succ d ih =>
    intro i f a hi hf
    obtain ⟨f, rfl⟩ : ∃ f', f = f' + 1 := ⟨f - 1, by omega⟩
    have hng : ¬ nI n ≤ nI i := nI_ge (by omega) (by omega)
    have l1 : i < 6 := by omega
    have e6 : σ 6 i = nI (nV V (6 + i)) := ((h.2.1.1 i (by omega)).2.1).trans (h.2.2.debt (by omega)).1
    show F_X5_allNotches_L4 (f_X5_allNotches_L4 f) 3 (nI a) (nI i) (enc sw σ ς) = _
    simp only [F_X5_allNotches_L4, if_true, ite_true, reduceIte, Option.bind_some, Option.bind_none, bT1_some, io_LD, io_Rd, io_Mt, io_Nt, io_Pl, io_Ro, io_Pa, io_Te, io_Bo, io_Ia, io_Ib, io_Mo, io_Ra, io_Rb, gr_LD_0, gr_LD_1, gr_LD_2, gr_LD_3, gr_LD_4, gr_LD_5, gr_LD_6, gr_LD_7, gr_LD_8, gr_Rd_0, gr_Mt_0, gr_Mt_1, gr_Nt_0, gr_Nt_1, gr_Nt_2, gr_Nt_3, gr_Nt_4, gr_Nt_5, gr_Nt_6, gr_Pl_0, gr_Pl_1, gr_Ro_0, gr_Ro_1, gr_Ro_2, gr_Pa_0, gr_Te_0, gr_Te_1, gr_Bo_0, gr_Bo_1, gr_Ia_0, gr_Ib_0, gr_Mo_0, gr_Mo_7, gr_Mo_8, gr_Mo_9, gr_Mo_10, gr_Mo_11, gr_Mo_12, gr_Mo_15, gr_Mo_16, gr_Mo_17, gr_Mo_18, gr_Mo_20, gr_Mo_28, gr_Mo_29, gr_Mo_32, gr_Mo_33, gr_Mo_34, gr_Mo_35, gr_Mo_36, gr_Mo_37, gr_Ra_0, gr_Ra_1, gr_Ra_2, gr_Ra_3, gr_Ra_4, gr_Ra_5, gr_Ra_6, gr_Rb_0, gr_Rb_1, gr_Rb_2, gr_Rb_3, gr_Rb_4, gr_Rb_5, gr_Rb_6, gi_LD_9, gi_Rd_1, gi_Rd_2, gi_Rd_3, gi_Rd_4, gi_Nt_7, gi_Nt_8, gi_Nt_9, gi_Nt_10, gi_Pl_2, gi_Pl_3, gi_Ro_3, gi_Ro_4, gi_Ro_5, gi_Pa_1, gi_Pa_2, gi_Te_2, gi_Bo_2, gi_Ia_1, gi_Ia_2, gi_Ib_1, gi_Ib_2, gi_Mo_1, gi_Mo_2, gi_Mo_3, gi_Mo_4, gi_Mo_5, gi_Mo_6, gi_Mo_13, gl_Mo_14, gi_Mo_19, gi_Mo_21, gi_Mo_22, gi_Mo_23, gi_Mo_24, gi_Mo_25, gi_Mo_26, gi_Mo_27, gi_Mo_30, gi_Mo_31, gi_Ra_7, gi_Ra_8, gi_Ra_9, gi_Ra_10, gi_Rb_7, gi_Rb_8, gi_Rb_9, gi_Rb_10, c3, hng, if_false, ai_6 l1, e6, nI_add, nI_1, ih (i + 1) f _ (by omega) (by omega)]
    rw [Nat.add_assoc]; rfl
theorem sum_C (h : CC sw σ V H D n m) : f_X5_allNotches 3 (enc sw σ ς) = some (nI (zSum V 0 n), enc sw σ ς) := by
  have h0 : f_X5_allNotches_L4 1000000 3 (0 : Int32) (0 : Int32) (enc sw σ ς) = some (nI (0 + zSum V 0 n), enc sw σ ς) := sum_LC h n 0 1000000 0 (by omega) (by have := h.1.1; omega)
  rw [Nat.zero_add] at h0
  simp only [f_X5_allNotches, h0, bT1_some]
theorem sum_LM (h : I_row (rA sw) σ H D n m) (hN : NB n m H (σ 306) (σ 307) (σ 308)) : ∀ (d i f a : Nat), i + d = n → d < f → f_X13_owedByAll_L4 f 302 (nI a) (nI i) (enc sw σ ς) = some (nI (a + zSum (σ 308) i d), enc sw σ ς) := by
  obtain ⟨⟨r1, r2, r3, r4⟩, r5, r6, -, ⟨d1, d2, d3, d4⟩, -⟩ := id h
  intro d
  induction d with
  | zero =>
    intro i f a hi hf
    obtain ⟨f, rfl⟩ : ∃ f', f = f' + 1 := ⟨f - 1, by omega⟩
    show F_X13_owedByAll_L4 (f_X13_owedByAll_L4 f) 302 (nI a) (nI i) (enc sw σ ς) = _
    simp only [F_X13_owedByAll_L4, if_true, ite_true, reduceIte, Option.bind_some, Option.bind_none, bT1_some, io_LD, io_Rd, io_Mt, io_Nt, io_Pl, io_Ro, io_Pa, io_Te, io_Bo, io_Ia, io_Ib, io_Mo, io_Ra, io_Rb, gr_LD_0, gr_LD_1, gr_LD_2, gr_LD_3, gr_LD_4, gr_LD_5, gr_LD_6, gr_LD_7, gr_LD_8, gr_Rd_0, gr_Mt_0, gr_Mt_1, gr_Nt_0, gr_Nt_1, gr_Nt_2, gr_Nt_3, gr_Nt_4, gr_Nt_5, gr_Nt_6, gr_Pl_0, gr_Pl_1, gr_Ro_0, gr_Ro_1, gr_Ro_2, gr_Pa_0, gr_Te_0, gr_Te_1, gr_Bo_0, gr_Bo_1, gr_Ia_0, gr_Ib_0, gr_Mo_0, gr_Mo_7, gr_Mo_8, gr_Mo_9, gr_Mo_10, gr_Mo_11, gr_Mo_12, gr_Mo_15, gr_Mo_16, gr_Mo_17, gr_Mo_18, gr_Mo_20, gr_Mo_28, gr_Mo_29, gr_Mo_32, gr_Mo_33, gr_Mo_34, gr_Mo_35, gr_Mo_36, gr_Mo_37, gr_Ra_0, gr_Ra_1, gr_Ra_2, gr_Ra_3, gr_Ra_4, gr_Ra_5, gr_Ra_6, gr_Rb_0, gr_Rb_1, gr_Rb_2, gr_Rb_3, gr_Rb_4, gr_Rb_5, gr_Rb_6, gi_LD_9, gi_Rd_1, gi_Rd_2, gi_Rd_3, gi_Rd_4, gi_Nt_7, gi_Nt_8, gi_Nt_9, gi_Nt_10, gi_Pl_2, gi_Pl_3, gi_Ro_3, gi_Ro_4, gi_Ro_5, gi_Pa_1, gi_Pa_2, gi_Te_2, gi_Bo_2, gi_Ia_1, gi_Ia_2, gi_Ib_1, gi_Ib_2, gi_Mo_1, gi_Mo_2, gi_Mo_3, gi_Mo_4, gi_Mo_5, gi_Mo_6, gi_Mo_13, gl_Mo_14, gi_Mo_19, gi_Mo_21, gi_Mo_22, gi_Mo_23, gi_Mo_24, gi_Mo_25, gi_Mo_26, gi_Mo_27, gi_Mo_30, gi_Mo_31, gi_Ra_7, gi_Ra_8, gi_Ra_9, gi_Ra_10, gi_Rb_7, gi_Rb_8, gi_Rb_9, gi_Rb_10, d3, if_pos (nI_le (show n ≤ i by omega) (by omega))]
    rfl
  | succ d ih =>
    intro i f a hi hf
    obtain ⟨f, rfl⟩ : ∃ f', f = f' + 1 := ⟨f - 1, by omega⟩
    have hng : ¬ nI n ≤ nI i := nI_ge (by omega) (by omega)
    have l1 : 6 + i < 51 := by omega
    have i6 : (6 : Int32) + nI i = nI (6 + i) := nI_add 6 i
    have e6 := (hN.debt (show i < n by omega)).1
    show F_X13_owedByAll_L4 (f_X13_owedByAll_L4 f) 302 (nI a) (nI i) (enc sw σ ς) = _
    simp only [F_X13_owedByAll_L4, if_true, ite_true, reduceIte, Option.bind_some, Option.bind_none, bT1_some, io_LD, io_Rd, io_Mt, io_Nt, io_Pl, io_Ro, io_Pa, io_Te, io_Bo, io_Ia, io_Ib, io_Mo, io_Ra, io_Rb, gr_LD_0, gr_LD_1, gr_LD_2, gr_LD_3, gr_LD_4, gr_LD_5, gr_LD_6, gr_LD_7, gr_LD_8, gr_Rd_0, gr_Mt_0, gr_Mt_1, gr_Nt_0, gr_Nt_1, gr_Nt_2, gr_Nt_3, gr_Nt_4, gr_Nt_5, gr_Nt_6, gr_Pl_0, gr_Pl_1, gr_Ro_0, gr_Ro_1, gr_Ro_2, gr_Pa_0, gr_Te_0, gr_Te_1, gr_Bo_0, gr_Bo_1, gr_Ia_0, gr_Ib_0, gr_Mo_0, gr_Mo_7, gr_Mo_8, gr_Mo_9, gr_Mo_10, gr_Mo_11, gr_Mo_12, gr_Mo_15, gr_Mo_16, gr_Mo_17, gr_Mo_18, gr_Mo_20, gr_Mo_28, gr_Mo_29, gr_Mo_32, gr_Mo_33, gr_Mo_34, gr_Mo_35, gr_Mo_36, gr_Mo_37, gr_Ra_0, gr_Ra_1, gr_Ra_2, gr_Ra_3, gr_Ra_4, gr_Ra_5, gr_Ra_6, gr_Rb_0, gr_Rb_1, gr_Rb_2, gr_Rb_3, gr_Rb_4, gr_Rb_5, gr_Rb_6, gi_LD_9, gi_Rd_1, gi_Rd_2, gi_Rd_3, gi_Rd_4, gi_Nt_7, gi_Nt_8, gi_Nt_9, gi_Nt_10, gi_Pl_2, gi_Pl_3, gi_Ro_3, gi_Ro_4, gi_Ro_5, gi_Pa_1, gi_Pa_2, gi_Te_2, gi_Bo_2, gi_Ia_1, gi_Ia_2, gi_Ib_1, gi_Ib_2, gi_Mo_1, gi_Mo_2, gi_Mo_3, gi_Mo_4, gi_Mo_5, gi_Mo_6, gi_Mo_13, gl_Mo_14, gi_Mo_19, gi_Mo_21, gi_Mo_22, gi_Mo_23, gi_Mo_24, gi_Mo_25, gi_Mo_26, gi_Mo_27, gi_Mo_30, gi_Mo_31, gi_Ra_7, gi_Ra_8, gi_Ra_9, gi_Ra_10, gi_Rb_7, gi_Rb_8, gi_Rb_9, gi_Rb_10, d3, hng, if_false, i6, ai_308 l1]
    rw [e6, nI_add, nI_1, ih (i + 1) f _ (by omega) (by omega), Nat.add_assoc]; rfl
theorem sum_M (h : I_row (rA sw) σ H D n m) (hN : NB n m H (σ 306) (σ 307) (σ 308)) : f_X13_owedByAll 302 (enc sw σ ς) = some (nI (zSum (σ 308) 0 n), enc sw σ ς) := by
  have h0 : f_X13_owedByAll_L4 1000000 302 (0 : Int32) (0 : Int32) (enc sw σ ς) = some (nI (0 + zSum (σ 308) 0 n), enc sw σ ς) := sum_LM h hN n 0 1000000 0 (by omega) (by have := h.1; omega)
  rw [Nat.zero_add] at h0
  simp only [f_X13_owedByAll, if_true, ite_true, reduceIte, Option.bind_some, Option.bind_none, bT1_some, io_LD, io_Rd, io_Mt, io_Nt, io_Pl, io_Ro, io_Pa, io_Te, io_Bo, io_Ia, io_Ib, io_Mo, io_Ra, io_Rb, gr_LD_0, gr_LD_1, gr_LD_2, gr_LD_3, gr_LD_4, gr_LD_5, gr_LD_6, gr_LD_7, gr_LD_8, gr_Rd_0, gr_Mt_0, gr_Mt_1, gr_Nt_0, gr_Nt_1, gr_Nt_2, gr_Nt_3, gr_Nt_4, gr_Nt_5, gr_Nt_6, gr_Pl_0, gr_Pl_1, gr_Ro_0, gr_Ro_1, gr_Ro_2, gr_Pa_0, gr_Te_0, gr_Te_1, gr_Bo_0, gr_Bo_1, gr_Ia_0, gr_Ib_0, gr_Mo_0, gr_Mo_7, gr_Mo_8, gr_Mo_9, gr_Mo_10, gr_Mo_11, gr_Mo_12, gr_Mo_15, gr_Mo_16, gr_Mo_17, gr_Mo_18, gr_Mo_20, gr_Mo_28, gr_Mo_29, gr_Mo_32, gr_Mo_33, gr_Mo_34, gr_Mo_35, gr_Mo_36, gr_Mo_37, gr_Ra_0, gr_Ra_1, gr_Ra_2, gr_Ra_3, gr_Ra_4, gr_Ra_5, gr_Ra_6, gr_Rb_0, gr_Rb_1, gr_Rb_2, gr_Rb_3, gr_Rb_4, gr_Rb_5, gr_Rb_6, gi_LD_9, gi_Rd_1, gi_Rd_2, gi_Rd_3, gi_Rd_4, gi_Nt_7, gi_Nt_8, gi_Nt_9, gi_Nt_10, gi_Pl_2, gi_Pl_3, gi_Ro_3, gi_Ro_4, gi_Ro_5, gi_Pa_1, gi_Pa_2, gi_Te_2, gi_Bo_2, gi_Ia_1, gi_Ia_2, gi_Ib_1, gi_Ib_2, gi_Mo_1, gi_Mo_2, gi_Mo_3, gi_Mo_4, gi_Mo_5, gi_Mo_6, gi_Mo_13, gl_Mo_14, gi_Mo_19, gi_Mo_21, gi_Mo_22, gi_Mo_23, gi_Mo_24, gi_Mo_25, gi_Mo_26, gi_Mo_27, gi_Mo_30, gi_Mo_31, gi_Ra_7, gi_Ra_8, gi_Ra_9, gi_Ra_10, gi_Rb_7, gi_Rb_8, gi_Rb_9, gi_Rb_10, h0]
end SU
theorem al_drift (x : Int32) : Alike (f_X12_drift 0 x) (f_X13_drift 302 x) := by
  obtain ⟨dz, hdz⟩ := DZ_ex
  intro sw σ ς hI
  obtain ⟨len, H, D, n, m, k, nx, q, e, h⟩ := id hI
  have hcc := h.cc
  obtain ⟨r, fc, fm, hr⟩ := refuse_ok x h
  by_cases hr0 : r = 0
  · obtain ⟨N, hN, rfl, hH, he⟩ := hr hr0
    subst hr0
    have hpc := h.2.2.2.2.1.pc
    obtain ⟨z, z1, z2, z3⟩ := id h.2.2.2.2.2.1
    have hra := rA_or sw
    obtain ⟨σ1, nx1, g1, g2, g3, gz, g4⟩ := drift_LC (ς := ς) hdz hN N 0 1000000 σ (σ 308, z) k nx _ (by omega) (by omega) hcc hpc.1 (by show nV (σ 308) 50 + N ≤ 20000; omega) z1 z2
    have o1 : ∀ a, 302 ≤ a → σ1 a = σ a := fun a ha => g4 a (by omega)
    obtain ⟨σ2, ς2, m1, m2, m3, mz, mL, m4, m5⟩ := drift_LM (sw := sw) (H := H) (D := D) (n := n) (m := m) hdz hN N 0 1000000 σ1 ς (σ 308, z) k (fun j q => σ 309 (51 * j + q)) (by omega) (by omega) g2.1 (by rw [o1 306 (by omega), o1 307 (by omega)]; exact hcc.2.2) (o1 308 (by omega)) hpc.1.1 ⟨by rw [o1 302 (by omega)]; exact hpc.2.1.1, by rw [o1 309 (by omega)]; exact hpc.2.1.2⟩ (by show nV (σ 308) 50 + N ≤ 20000; omega) z1 z3
    rw [o1 305 (by omega), o1 304 (by omega), o1 306 (by omega), o1 307 (by omega)] at m2 m3 mz
    have g1' : f_X12_drift_L14 1000000 0 (nI N) (0 : Int32) (enc sw σ ς) = some (enc sw σ1 ς) := g1
    have m1' : f_X13_drift_L14 1000000 302 (nI N) (0 : Int32) (enc sw σ1 ς) = some (enc sw σ2 ς2) := m1
    have hB := itG_NB (kd := σ 306) (sl := σ 307) (tDr_NB (dz := dz) (vo := σ 304) (ho := σ 305) (D := D) hcc.1.1.2.2.1 hcc.1.1.2.2.2 hcc.1.1.1 hcc.1.1.2.1 (fun s hs => ⟨_, hcc.1.home hs⟩)) N (σ 308, z) k (fun j q => σ 309 (51 * j + q)) hcc.2.2 (by show nV (σ 308) 50 + N ≤ 20000; omega) hpc.1.1 hpc.2.2
    have hrow2 : I_row (rA sw) σ2 H D n m := hcc.1.c (fun j hj => by rw [m4 _ (by omega) (by omega) (by omega), g4 _ (by omega)]) (fun j a b => by rw [m5 j (by omega), o1 302 (by omega)]) (fun j a b => by rw [m4 _ (by omega) (by omega) (by omega), g4 _ (by omega)])
    have hs2 := sum_M (ς := ς2) hrow2 (by rw [m4 306 (by omega) (by omega) (by omega), m4 307 (by omega) (by omega) (by omega), o1 306 (by omega), o1 307 (by omega), m2]; exact hB.1)
    rw [m2] at hs2
    refine ⟨nI (zSum (itG (tDr dz H D n m (σ 304) (σ 305) (σ 306) (σ 307)) N (σ 308, z) k fun j q => σ 309 (51 * j + q)).1.1 0 n), sw, σ1, ς, sw, σ2, ς2, ?_, ?_, h.deedS g2 g3 g4 m3 m4 m5 m2 hB.2.2 ⟨_, gz.1, by rw [m4 0 (by omega) (by omega) (by omega)]; exact gz.2, mz⟩ mL⟩
    · simp only [f_X12_drift, if_true, ite_true, reduceIte, Option.bind_some, Option.bind_none, bT1_some, io_LD, io_Rd, io_Mt, io_Nt, io_Pl, io_Ro, io_Pa, io_Te, io_Bo, io_Ia, io_Ib, io_Mo, io_Ra, io_Rb, gr_LD_0, gr_LD_1, gr_LD_2, gr_LD_3, gr_LD_4, gr_LD_5, gr_LD_6, gr_LD_7, gr_LD_8, gr_Rd_0, gr_Mt_0, gr_Mt_1, gr_Nt_0, gr_Nt_1, gr_Nt_2, gr_Nt_3, gr_Nt_4, gr_Nt_5, gr_Nt_6, gr_Pl_0, gr_Pl_1, gr_Ro_0, gr_Ro_1, gr_Ro_2, gr_Pa_0, gr_Te_0, gr_Te_1, gr_Bo_0, gr_Bo_1, gr_Ia_0, gr_Ib_0, gr_Mo_0, gr_Mo_7, gr_Mo_8, gr_Mo_9, gr_Mo_10, gr_Mo_11, gr_Mo_12, gr_Mo_15, gr_Mo_16, gr_Mo_17, gr_Mo_18, gr_Mo_20, gr_Mo_28, gr_Mo_29, gr_Mo_32, gr_Mo_33, gr_Mo_34, gr_Mo_35, gr_Mo_36, gr_Mo_37, gr_Ra_0, gr_Ra_1, gr_Ra_2, gr_Ra_3, gr_Ra_4, gr_Ra_5, gr_Ra_6, gr_Rb_0, gr_Rb_1, gr_Rb_2, gr_Rb_3, gr_Rb_4, gr_Rb_5, gr_Rb_6, gi_LD_9, gi_Rd_1, gi_Rd_2, gi_Rd_3, gi_Rd_4, gi_Nt_7, gi_Nt_8, gi_Nt_9, gi_Nt_10, gi_Pl_2, gi_Pl_3, gi_Ro_3, gi_Ro_4, gi_Ro_5, gi_Pa_1, gi_Pa_2, gi_Te_2, gi_Bo_2, gi_Ia_1, gi_Ia_2, gi_Ib_1, gi_Ib_2, gi_Mo_1, gi_Mo_2, gi_Mo_3, gi_Mo_4, gi_Mo_5, gi_Mo_6, gi_Mo_13, gl_Mo_14, gi_Mo_19, gi_Mo_21, gi_Mo_22, gi_Mo_23, gi_Mo_24, gi_Mo_25, gi_Mo_26, gi_Mo_27, gi_Mo_30, gi_Mo_31, gi_Ra_7, gi_Ra_8, gi_Ra_9, gi_Ra_10, gi_Rb_7, gi_Rb_8, gi_Rb_9, gi_Rb_10, fc, g1', sum_C g2]
    · simp only [f_X13_drift, if_true, ite_true, reduceIte, Option.bind_some, Option.bind_none, bT1_some, io_LD, io_Rd, io_Mt, io_Nt, io_Pl, io_Ro, io_Pa, io_Te, io_Bo, io_Ia, io_Ib, io_Mo, io_Ra, io_Rb, gr_LD_0, gr_LD_1, gr_LD_2, gr_LD_3, gr_LD_4, gr_LD_5, gr_LD_6, gr_LD_7, gr_LD_8, gr_Rd_0, gr_Mt_0, gr_Mt_1, gr_Nt_0, gr_Nt_1, gr_Nt_2, gr_Nt_3, gr_Nt_4, gr_Nt_5, gr_Nt_6, gr_Pl_0, gr_Pl_1, gr_Ro_0, gr_Ro_1, gr_Ro_2, gr_Pa_0, gr_Te_0, gr_Te_1, gr_Bo_0, gr_Bo_1, gr_Ia_0, gr_Ib_0, gr_Mo_0, gr_Mo_7, gr_Mo_8, gr_Mo_9, gr_Mo_10, gr_Mo_11, gr_Mo_12, gr_Mo_15, gr_Mo_16, gr_Mo_17, gr_Mo_18, gr_Mo_20, gr_Mo_28, gr_Mo_29, gr_Mo_32, gr_Mo_33, gr_Mo_34, gr_Mo_35, gr_Mo_36, gr_Mo_37, gr_Ra_0, gr_Ra_1, gr_Ra_2, gr_Ra_3, gr_Ra_4, gr_Ra_5, gr_Ra_6, gr_Rb_0, gr_Rb_1, gr_Rb_2, gr_Rb_3, gr_Rb_4, gr_Rb_5, gr_Rb_6, gi_LD_9, gi_Rd_1, gi_Rd_2, gi_Rd_3, gi_Rd_4, gi_Nt_7, gi_Nt_8, gi_Nt_9, gi_Nt_10, gi_Pl_2, gi_Pl_3, gi_Ro_3, gi_Ro_4, gi_Ro_5, gi_Pa_1, gi_Pa_2, gi_Te_2, gi_Bo_2, gi_Ia_1, gi_Ia_2, gi_Ib_1, gi_Ib_2, gi_Mo_1, gi_Mo_2, gi_Mo_3, gi_Mo_4, gi_Mo_5, gi_Mo_6, gi_Mo_13, gl_Mo_14, gi_Mo_19, gi_Mo_21, gi_Mo_22, gi_Mo_23, gi_Mo_24, gi_Mo_25, gi_Mo_26, gi_Mo_27, gi_Mo_30, gi_Mo_31, gi_Ra_7, gi_Ra_8, gi_Ra_9, gi_Ra_10, gi_Rb_7, gi_Rb_8, gi_Rb_9, gi_Rb_10, fm σ1 ς (by rw [o1 302 (by omega)]) (o1 308 (by omega)), m1', hs2]
  · refine ⟨r, sw, σ, ς, sw, σ, ς, ?_, ?_, hI⟩
    · simp only [f_X12_drift, if_true, ite_true, reduceIte, Option.bind_some, Option.bind_none, bT1_some, io_LD, io_Rd, io_Mt, io_Nt, io_Pl, io_Ro, io_Pa, io_Te, io_Bo, io_Ia, io_Ib, io_Mo, io_Ra, io_Rb, gr_LD_0, gr_LD_1, gr_LD_2, gr_LD_3, gr_LD_4, gr_LD_5, gr_LD_6, gr_LD_7, gr_LD_8, gr_Rd_0, gr_Mt_0, gr_Mt_1, gr_Nt_0, gr_Nt_1, gr_Nt_2, gr_Nt_3, gr_Nt_4, gr_Nt_5, gr_Nt_6, gr_Pl_0, gr_Pl_1, gr_Ro_0, gr_Ro_1, gr_Ro_2, gr_Pa_0, gr_Te_0, gr_Te_1, gr_Bo_0, gr_Bo_1, gr_Ia_0, gr_Ib_0, gr_Mo_0, gr_Mo_7, gr_Mo_8, gr_Mo_9, gr_Mo_10, gr_Mo_11, gr_Mo_12, gr_Mo_15, gr_Mo_16, gr_Mo_17, gr_Mo_18, gr_Mo_20, gr_Mo_28, gr_Mo_29, gr_Mo_32, gr_Mo_33, gr_Mo_34, gr_Mo_35, gr_Mo_36, gr_Mo_37, gr_Ra_0, gr_Ra_1, gr_Ra_2, gr_Ra_3, gr_Ra_4, gr_Ra_5, gr_Ra_6, gr_Rb_0, gr_Rb_1, gr_Rb_2, gr_Rb_3, gr_Rb_4, gr_Rb_5, gr_Rb_6, gi_LD_9, gi_Rd_1, gi_Rd_2, gi_Rd_3, gi_Rd_4, gi_Nt_7, gi_Nt_8, gi_Nt_9, gi_Nt_10, gi_Pl_2, gi_Pl_3, gi_Ro_3, gi_Ro_4, gi_Ro_5, gi_Pa_1, gi_Pa_2, gi_Te_2, gi_Bo_2, gi_Ia_1, gi_Ia_2, gi_Ib_1, gi_Ib_2, gi_Mo_1, gi_Mo_2, gi_Mo_3, gi_Mo_4, gi_Mo_5, gi_Mo_6, gi_Mo_13, gl_Mo_14, gi_Mo_19, gi_Mo_21, gi_Mo_22, gi_Mo_23, gi_Mo_24, gi_Mo_25, gi_Mo_26, gi_Mo_27, gi_Mo_30, gi_Mo_31, gi_Ra_7, gi_Ra_8, gi_Ra_9, gi_Ra_10, gi_Rb_7, gi_Rb_8, gi_Rb_9, gi_Rb_10, fc, hr0, if_false]
    · simp only [f_X13_drift, if_true, ite_true, reduceIte, Option.bind_some, Option.bind_none, bT1_some, io_LD, io_Rd, io_Mt, io_Nt, io_Pl, io_Ro, io_Pa, io_Te, io_Bo, io_Ia, io_Ib, io_Mo, io_Ra, io_Rb, gr_LD_0, gr_LD_1, gr_LD_2, gr_LD_3, gr_LD_4, gr_LD_5, gr_LD_6, gr_LD_7, gr_LD_8, gr_Rd_0, gr_Mt_0, gr_Mt_1, gr_Nt_0, gr_Nt_1, gr_Nt_2, gr_Nt_3, gr_Nt_4, gr_Nt_5, gr_Nt_6, gr_Pl_0, gr_Pl_1, gr_Ro_0, gr_Ro_1, gr_Ro_2, gr_Pa_0, gr_Te_0, gr_Te_1, gr_Bo_0, gr_Bo_1, gr_Ia_0, gr_Ib_0, gr_Mo_0, gr_Mo_7, gr_Mo_8, gr_Mo_9, gr_Mo_10, gr_Mo_11, gr_Mo_12, gr_Mo_15, gr_Mo_16, gr_Mo_17, gr_Mo_18, gr_Mo_20, gr_Mo_28, gr_Mo_29, gr_Mo_32, gr_Mo_33, gr_Mo_34, gr_Mo_35, gr_Mo_36, gr_Mo_37, gr_Ra_0, gr_Ra_1, gr_Ra_2, gr_Ra_3, gr_Ra_4, gr_Ra_5, gr_Ra_6, gr_Rb_0, gr_Rb_1, gr_Rb_2, gr_Rb_3, gr_Rb_4, gr_Rb_5, gr_Rb_6, gi_LD_9, gi_Rd_1, gi_Rd_2, gi_Rd_3, gi_Rd_4, gi_Nt_7, gi_Nt_8, gi_Nt_9, gi_Nt_10, gi_Pl_2, gi_Pl_3, gi_Ro_3, gi_Ro_4, gi_Ro_5, gi_Pa_1, gi_Pa_2, gi_Te_2, gi_Bo_2, gi_Ia_1, gi_Ia_2, gi_Ib_1, gi_Ib_2, gi_Mo_1, gi_Mo_2, gi_Mo_3, gi_Mo_4, gi_Mo_5, gi_Mo_6, gi_Mo_13, gl_Mo_14, gi_Mo_19, gi_Mo_21, gi_Mo_22, gi_Mo_23, gi_Mo_24, gi_Mo_25, gi_Mo_26, gi_Mo_27, gi_Mo_30, gi_Mo_31, gi_Ra_7, gi_Ra_8, gi_Ra_9, gi_Ra_10, gi_Rb_7, gi_Rb_8, gi_Rb_9, gi_Rb_10, fm σ ς rfl rfl, hr0, if_false]
