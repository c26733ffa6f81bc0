/-- the reference's rows are moved up by one -/
theorem shift_loop {sw : Bool} {ς : Lg} : ∀ (d i f : Nat) (σ : Sg), i + d = 1530 → 51 ≤ i → d < f →
    ∃ σ', f_X13_remembers_L12 f 302 (nI i) (enc sw σ ς) = some (enc sw σ' ς) ∧ (∀ a, a ≠ 309 → σ' a = σ a) ∧ ∀ q, σ' 309 q = if i - 51 ≤ q ∧ q < 1479 then σ 309 (q + 51) else σ 309 q := by
  intro d
  induction d with
  | zero =>
    intro i f σ hi h51 hf
    obtain ⟨f, rfl⟩ : ∃ f', f = f' + 1 := ⟨f - 1, by omega⟩
    refine ⟨σ, ?_, fun _ _ => rfl, fun q => ?_⟩
    · show F_X13_remembers_L12 (f_X13_remembers_L12 f) 302 (nI i) (enc sw σ ς) = _
      unfold F_X13_remembers_L12
      rw [if_pos (show (1530 : Int32) ≤ nI i from nI_le (a := 1530) (by omega) (by omega))]
    · rw [if_neg (by omega)]
  | succ d ih =>
    intro i f σ hi h51 hf
    obtain ⟨f, rfl⟩ : ∃ f', f = f' + 1 := ⟨f - 1, by omega⟩
    obtain ⟨σ', g1, g2, g3⟩ := ih (i + 1) f (uA σ 309 (upd (σ 309) (i - 51) (σ 309 i))) (by omega) (by omega) (by omega)
    have hs : nI i - (51 : Int32) = nI (i - 51) := pk_sub (b := 51) h51
    have l1 : i < 1530 := by omega
    have l2 : i - 51 < 1530 := by omega
    refine ⟨σ', ?_, fun a ha => ?_, fun q => ?_⟩
    · show F_X13_remembers_L12 (f_X13_remembers_L12 f) 302 (nI i) (enc sw σ ς) = _
      unfold F_X13_remembers_L12
      rw [if_neg (show ¬ (1530 : Int32) ≤ nI i from nI_ge (b := 1530) l1 (by omega))]
      simp only [if_true, ite_true, reduceIte, Option.bind_some, Option.bind_none, bT1_some, io_LD, io_Rd, io_Mt, io_Nt, io_Pl, io_Ro, io_Pa, io_Te, io_Bo, io_Ia, io_Ib, io_Mo, io_Ra, io_Rb, gr_LD_0, gr_LD_1, gr_LD_2, gr_LD_3, gr_LD_4, gr_LD_5, gr_LD_6, gr_LD_7, gr_LD_8, gr_Rd_0, gr_Mt_0, gr_Mt_1, gr_Nt_0, gr_Nt_1, gr_Nt_2, gr_Nt_3, gr_Nt_4, gr_Nt_5, gr_Nt_6, gr_Pl_0, gr_Pl_1, gr_Ro_0, gr_Ro_1, gr_Ro_2, gr_Pa_0, gr_Te_0, gr_Te_1, gr_Bo_0, gr_Bo_1, gr_Ia_0, gr_Ib_0, gr_Mo_0, gr_Mo_7, gr_Mo_8, gr_Mo_9, gr_Mo_10, gr_Mo_11, gr_Mo_12, gr_Mo_15, gr_Mo_16, gr_Mo_17, gr_Mo_18, gr_Mo_20, gr_Mo_28, gr_Mo_29, gr_Mo_32, gr_Mo_33, gr_Mo_34, gr_Mo_35, gr_Mo_36, gr_Mo_37, gr_Ra_0, gr_Ra_1, gr_Ra_2, gr_Ra_3, gr_Ra_4, gr_Ra_5, gr_Ra_6, gr_Rb_0, gr_Rb_1, gr_Rb_2, gr_Rb_3, gr_Rb_4, gr_Rb_5, gr_Rb_6, gi_LD_9, gi_Rd_1, gi_Rd_2, gi_Rd_3, gi_Rd_4, gi_Nt_7, gi_Nt_8, gi_Nt_9, gi_Nt_10, gi_Pl_2, gi_Pl_3, gi_Ro_3, gi_Ro_4, gi_Ro_5, gi_Pa_1, gi_Pa_2, gi_Te_2, gi_Bo_2, gi_Ia_1, gi_Ia_2, gi_Ib_1, gi_Ib_2, gi_Mo_1, gi_Mo_2, gi_Mo_3, gi_Mo_4, gi_Mo_5, gi_Mo_6, gi_Mo_13, gl_Mo_14, gi_Mo_19, gi_Mo_21, gi_Mo_22, gi_Mo_23, gi_Mo_24, gi_Mo_25, gi_Mo_26, gi_Mo_27, gi_Mo_30, gi_Mo_31, gi_Ra_7, gi_Ra_8, gi_Ra_9, gi_Ra_10, gi_Rb_7, gi_Rb_8, gi_Rb_9, gi_Rb_10, ai_309 l1, hs, aw_309 l2, nI_1]
      exact g1
    · rw [g2 a ha, uA_n ha]
    · rw [g3 q, uA_s]
      by_cases h1 : i + 1 - 51 ≤ q ∧ q < 1479
      · rw [if_pos h1, if_pos (by omega), pk_un (by omega)]
      · rw [if_neg h1]
        by_cases h2 : q = i - 51
        · subst h2
          rw [pk_us, if_pos (by omega), show i - 51 + 51 = i by omega]
        · rw [pk_un h2, if_neg (by omega)]
theorem store_loop {sw : Bool} {ς : Lg} {k : Nat} (hk : k < 30) : ∀ (d i f : Nat) (σ : Sg), i + d = 51 → d < f → σ 302 13 = nI k →
    ∃ σ', f_X13_remembers_L52 f 302 (nI i) (enc sw σ ς) = some (enc sw σ' ς) ∧ (∀ a, a ≠ 309 → σ' a = σ a) ∧ ∀ q, σ' 309 q = if 51 * k + i ≤ q ∧ q < 51 * k + 51 then σ 308 (q - 51 * k) else σ 309 q := by
  intro d
  induction d with
  | zero =>
    intro i f σ hi hf h13
    obtain ⟨f, rfl⟩ : ∃ f', f = f' + 1 := ⟨f - 1, by omega⟩
    refine ⟨σ, ?_, fun _ _ => rfl, fun q => ?_⟩
    · show F_X13_remembers_L52 (f_X13_remembers_L52 f) 302 (nI i) (enc sw σ ς) = _
      unfold F_X13_remembers_L52
      rw [if_pos (show (51 : Int32) ≤ nI i from nI_le (a := 51) (by omega) (by omega))]
    · rw [if_neg (by omega)]
  | succ d ih =>
    intro i f σ hi hf h13
    obtain ⟨f, rfl⟩ : ∃ f', f = f' + 1 := ⟨f - 1, by omega⟩
    have hs : (51 : Int32) * nI k + nI i = nI (51 * k + i) := by rw [show (51 : Int32) = nI 51 from rfl, pk_mul, nI_add]
    have l1 : i < 51 := by omega
    have l2 : 51 * k + i < 1530 := by omega
    obtain ⟨σ', g1, g2, g3⟩ := ih (i + 1) f (uA σ 309 (upd (σ 309) (51 * k + i) (σ 308 i))) (by omega) (by omega) (by rw [uA_n (by omega)]; exact h13)
    refine ⟨σ', ?_, fun a ha => ?_, fun q => ?_⟩
    · show F_X13_remembers_L52 (f_X13_remembers_L52 f) 302 (nI i) (enc sw σ ς) = _
      unfold F_X13_remembers_L52
      rw [if_neg (show ¬ (51 : Int32) ≤ nI i from nI_ge (b := 51) l1 (by omega))]
      simp only [if_true, ite_true, reduceIte, Option.bind_some, Option.bind_none, bT1_some, io_LD, io_Rd, io_Mt, io_Nt, io_Pl, io_Ro, io_Pa, io_Te, io_Bo, io_Ia, io_Ib, io_Mo, io_Ra, io_Rb, gr_LD_0, gr_LD_1, gr_LD_2, gr_LD_3, gr_LD_4, gr_LD_5, gr_LD_6, gr_LD_7, gr_LD_8, gr_Rd_0, gr_Mt_0, gr_Mt_1, gr_Nt_0, gr_Nt_1, gr_Nt_2, gr_Nt_3, gr_Nt_4, gr_Nt_5, gr_Nt_6, gr_Pl_0, gr_Pl_1, gr_Ro_0, gr_Ro_1, gr_Ro_2, gr_Pa_0, gr_Te_0, gr_Te_1, gr_Bo_0, gr_Bo_1, gr_Ia_0, gr_Ib_0, gr_Mo_0, gr_Mo_7, gr_Mo_8, gr_Mo_9, gr_Mo_10, gr_Mo_11, gr_Mo_12, gr_Mo_15, gr_Mo_16, gr_Mo_17, gr_Mo_18, gr_Mo_20, gr_Mo_28, gr_Mo_29, gr_Mo_32, gr_Mo_33, gr_Mo_34, gr_Mo_35, gr_Mo_36, gr_Mo_37, gr_Ra_0, gr_Ra_1, gr_Ra_2, gr_Ra_3, gr_Ra_4, gr_Ra_5, gr_Ra_6, gr_Rb_0, gr_Rb_1, gr_Rb_2, gr_Rb_3, gr_Rb_4, gr_Rb_5, gr_Rb_6, gi_LD_9, gi_Rd_1, gi_Rd_2, gi_Rd_3, gi_Rd_4, gi_Nt_7, gi_Nt_8, gi_Nt_9, gi_Nt_10, gi_Pl_2, gi_Pl_3, gi_Ro_3, gi_Ro_4, gi_Ro_5, gi_Pa_1, gi_Pa_2, gi_Te_2, gi_Bo_2, gi_Ia_1, gi_Ia_2, gi_Ib_1, gi_Ib_2, gi_Mo_1, gi_Mo_2, gi_Mo_3, gi_Mo_4, gi_Mo_5, gi_Mo_6, gi_Mo_13, gl_Mo_14, gi_Mo_19, gi_Mo_21, gi_Mo_22, gi_Mo_23, gi_Mo_24, gi_Mo_25, gi_Mo_26, gi_Mo_27, gi_Mo_30, gi_Mo_31, gi_Ra_7, gi_Ra_8, gi_Ra_9, gi_Ra_10, gi_Rb_7, gi_Rb_8, gi_Rb_9, gi_Rb_10, h13, ai_308 l1, hs, aw_309 l2, nI_1]
      exact g1
    · rw [g2 a ha, uA_n ha]
    · rw [g3 q, uA_s, uA_n (by omega)]
      by_cases h1 : 51 * k + (i + 1) ≤ q ∧ q < 51 * k + 51
      · rw [if_pos h1, if_pos (by omega)]
      · rw [if_neg h1]
        by_cases h2 : q = 51 * k + i
        · subst h2
          rw [pk_us, if_pos (by omega), show 51 * k + i - 51 * k = i by omega]
        · rw [pk_un h2, if_neg (by omega)]
section RM
variable {sw : Bool} {σ : Sg} {ς : Lg} {k : Nat} {L : Nat → Nat → Int32}
theorem stored_ok {k : Nat} (hk : k < 30) (h13 : σ 302 13 = nI k) : ∃ σ', f_X13_remembers_50 302 (enc sw σ ς) = some (enc sw σ' ς) ∧ (∀ a, a ≠ 302 → a ≠ 309 → σ' a = σ a) ∧ (∀ i, i ≠ 13 → σ' 302 i = σ 302 i) ∧ σ' 302 13 = nI (k + 1) ∧ ∀ q, σ' 309 q = if 51 * k ≤ q ∧ q < 51 * k + 51 then σ 308 (q - 51 * k) else σ 309 q := by
  obtain ⟨σ1, f1, o1, a1⟩ := store_loop (sw := sw) (ς := ς) hk 51 0 1000000 σ (by omega) (by omega) h13
  refine ⟨uA σ1 302 (upd (σ 302) 13 (nI (k + 1))), ?_, fun a h1 h2 => ?_, fun i hi => ?_, ?_, fun q => ?_⟩
  · simp only [f_X13_remembers_50]
    rw [show f_X13_remembers_L52 1000000 302 (0 : Int32) (enc sw σ ς) = _ from f1]
    simp only [if_true, ite_true, reduceIte, Option.bind_some, Option.bind_none, bT1_some, io_LD, io_Rd, io_Mt, io_Nt, io_Pl, io_Ro, io_Pa, io_Te, io_Bo, io_Ia, io_Ib, io_Mo, io_Ra, io_Rb, gr_LD_0, gr_LD_1, gr_LD_2, gr_LD_3, gr_LD_4, gr_LD_5, gr_LD_6, gr_LD_7, gr_LD_8, gr_Rd_0, gr_Mt_0, gr_Mt_1, gr_Nt_0, gr_Nt_1, gr_Nt_2, gr_Nt_3, gr_Nt_4, gr_Nt_5, gr_Nt_6, gr_Pl_0, gr_Pl_1, gr_Ro_0, gr_Ro_1, gr_Ro_2, gr_Pa_0, gr_Te_0, gr_Te_1, gr_Bo_0, gr_Bo_1, gr_Ia_0, gr_Ib_0, gr_Mo_0, gr_Mo_7, gr_Mo_8, gr_Mo_9, gr_Mo_10, gr_Mo_11, gr_Mo_12, gr_Mo_15, gr_Mo_16, gr_Mo_17, gr_Mo_18, gr_Mo_20, gr_Mo_28, gr_Mo_29, gr_Mo_32, gr_Mo_33, gr_Mo_34, gr_Mo_35, gr_Mo_36, gr_Mo_37, gr_Ra_0, gr_Ra_1, gr_Ra_2, gr_Ra_3, gr_Ra_4, gr_Ra_5, gr_Ra_6, gr_Rb_0, gr_Rb_1, gr_Rb_2, gr_Rb_3, gr_Rb_4, gr_Rb_5, gr_Rb_6, gi_LD_9, gi_Rd_1, gi_Rd_2, gi_Rd_3, gi_Rd_4, gi_Nt_7, gi_Nt_8, gi_Nt_9, gi_Nt_10, gi_Pl_2, gi_Pl_3, gi_Ro_3, gi_Ro_4, gi_Ro_5, gi_Pa_1, gi_Pa_2, gi_Te_2, gi_Bo_2, gi_Ia_1, gi_Ia_2, gi_Ib_1, gi_Ib_2, gi_Mo_1, gi_Mo_2, gi_Mo_3, gi_Mo_4, gi_Mo_5, gi_Mo_6, gi_Mo_13, gl_Mo_14, gi_Mo_19, gi_Mo_21, gi_Mo_22, gi_Mo_23, gi_Mo_24, gi_Mo_25, gi_Mo_26, gi_Mo_27, gi_Mo_30, gi_Mo_31, gi_Ra_7, gi_Ra_8, gi_Ra_9, gi_Ra_10, gi_Rb_7, gi_Rb_8, gi_Rb_9, gi_Rb_10, pf_LD_9, pf_Rd_1, pf_Rd_2, pf_Rd_3, pf_Rd_4, pf_Nt_7, pf_Nt_8, pf_Nt_9, pf_Nt_10, pf_Pl_2, pf_Pl_3, pf_Ro_3, pf_Ro_4, pf_Ro_5, pf_Pa_1, pf_Pa_2, pf_Te_2, pf_Bo_2, pf_Ia_1, pf_Ia_2, pf_Ib_1, pf_Ib_2, pf_Mo_1, pf_Mo_2, pf_Mo_3, pf_Mo_4, pf_Mo_5, pf_Mo_6, pf_Mo_13, pl_Mo_14, pf_Mo_19, pf_Mo_21, pf_Mo_22, pf_Mo_23, pf_Mo_24, pf_Mo_25, pf_Mo_26, pf_Mo_27, pf_Mo_30, pf_Mo_31, pf_Ra_7, pf_Ra_8, pf_Ra_9, pf_Ra_10, pf_Rb_7, pf_Rb_8, pf_Rb_9, pf_Rb_10, o1 302 (by omega), h13, nI_1]
  · rw [uA_n h1]; exact o1 a h2
  · rw [uA_s, pk_un hi]
  · rw [uA_s, pk_us]
  · rw [uA_n (by omega), a1 q]; rfl
theorem rem30_run {σ1 σ2 : Sg} (p1 : σ 302 13 = nI 30) (f1 : f_X13_remembers_L12 1000000 302 (nI 51) (enc sw σ ς) = some (enc sw σ1 ς)) (e1 : σ1 302 = σ 302) (f2 : f_X13_remembers_50 302 (enc sw (uA σ1 302 (upd (σ 302) 13 (nI 29))) ς) = some (enc sw σ2 ς)) : f_X13_remembers 302 (enc sw σ ς) = some (enc sw σ2 ς) := by
  have f1' : f_X13_remembers_L12 1000000 302 (51 : Int32) (enc sw σ ς) = some (enc sw σ1 ς) := f1
  have e30 : nI 30 - (1 : Int32) = nI 29 := nI_pred 29
  have t30 : (nI 30 = (30 : Int32)) = True := eq_true rfl
  simp only [f_X13_remembers, if_true, ite_true, reduceIte, Option.bind_some, Option.bind_none, bT1_some, io_LD, io_Rd, io_Mt, io_Nt, io_Pl, io_Ro, io_Pa, io_Te, io_Bo, io_Ia, io_Ib, io_Mo, io_Ra, io_Rb, gr_LD_0, gr_LD_1, gr_LD_2, gr_LD_3, gr_LD_4, gr_LD_5, gr_LD_6, gr_LD_7, gr_LD_8, gr_Rd_0, gr_Mt_0, gr_Mt_1, gr_Nt_0, gr_Nt_1, gr_Nt_2, gr_Nt_3, gr_Nt_4, gr_Nt_5, gr_Nt_6, gr_Pl_0, gr_Pl_1, gr_Ro_0, gr_Ro_1, gr_Ro_2, gr_Pa_0, gr_Te_0, gr_Te_1, gr_Bo_0, gr_Bo_1, gr_Ia_0, gr_Ib_0, gr_Mo_0, gr_Mo_7, gr_Mo_8, gr_Mo_9, gr_Mo_10, gr_Mo_11, gr_Mo_12, gr_Mo_15, gr_Mo_16, gr_Mo_17, gr_Mo_18, gr_Mo_20, gr_Mo_28, gr_Mo_29, gr_Mo_32, gr_Mo_33, gr_Mo_34, gr_Mo_35, gr_Mo_36, gr_Mo_37, gr_Ra_0, gr_Ra_1, gr_Ra_2, gr_Ra_3, gr_Ra_4, gr_Ra_5, gr_Ra_6, gr_Rb_0, gr_Rb_1, gr_Rb_2, gr_Rb_3, gr_Rb_4, gr_Rb_5, gr_Rb_6, gi_LD_9, gi_Rd_1, gi_Rd_2, gi_Rd_3, gi_Rd_4, gi_Nt_7, gi_Nt_8, gi_Nt_9, gi_Nt_10, gi_Pl_2, gi_Pl_3, gi_Ro_3, gi_Ro_4, gi_Ro_5, gi_Pa_1, gi_Pa_2, gi_Te_2, gi_Bo_2, gi_Ia_1, gi_Ia_2, gi_Ib_1, gi_Ib_2, gi_Mo_1, gi_Mo_2, gi_Mo_3, gi_Mo_4, gi_Mo_5, gi_Mo_6, gi_Mo_13, gl_Mo_14, gi_Mo_19, gi_Mo_21, gi_Mo_22, gi_Mo_23, gi_Mo_24, gi_Mo_25, gi_Mo_26, gi_Mo_27, gi_Mo_30, gi_Mo_31, gi_Ra_7, gi_Ra_8, gi_Ra_9, gi_Ra_10, gi_Rb_7, gi_Rb_8, gi_Rb_9, gi_Rb_10, pf_LD_9, pf_Rd_1, pf_Rd_2, pf_Rd_3, pf_Rd_4, pf_Nt_7, pf_Nt_8, pf_Nt_9, pf_Nt_10, pf_Pl_2, pf_Pl_3, pf_Ro_3, pf_Ro_4, pf_Ro_5, pf_Pa_1, pf_Pa_2, pf_Te_2, pf_Bo_2, pf_Ia_1, pf_Ia_2, pf_Ib_1, pf_Ib_2, pf_Mo_1, pf_Mo_2, pf_Mo_3, pf_Mo_4, pf_Mo_5, pf_Mo_6, pf_Mo_13, pl_Mo_14, pf_Mo_19, pf_Mo_21, pf_Mo_22, pf_Mo_23, pf_Mo_24, pf_Mo_25, pf_Mo_26, pf_Mo_27, pf_Mo_30, pf_Mo_31, pf_Ra_7, pf_Ra_8, pf_Ra_9, pf_Ra_10, pf_Rb_7, pf_Rb_8, pf_Rb_9, pf_Rb_10, p1, t30, f1', e1, e30, f2]
theorem lPsh_30 (V : Nat → Int32) (j : Nat) : lPsh 30 L V j = if j + 1 = 30 then V else L (j + 1) := by
  unfold lPsh kPsh
  simp
theorem rem30_M (p1 : σ 302 13 = nI 30) (p2 : ∀ j, j < 30 → ∀ q, q < 51 → σ 309 (51 * j + q) = L j q) :
    ∃ σ', f_X13_remembers 302 (enc sw σ ς) = some (enc sw σ' ς) ∧ PM σ' 30 (lPsh 30 L (σ 308)) ∧ (∀ a, a ≠ 302 → a ≠ 309 → σ' a = σ a) ∧ (∀ i, i ≠ 13 → σ' 302 i = σ 302 i) := by
  obtain ⟨σ1, f1, o1, a1⟩ := shift_loop (sw := sw) (ς := ς) 1479 51 1000000 σ (by omega) (by omega) (by omega)
  have h29 : (uA σ1 302 (upd (σ 302) 13 (nI 29))) 302 13 = nI 29 := by rw [uA_s, pk_us]
  obtain ⟨σ2, f2, o2, c2, d2, a2⟩ := stored_ok (sw := sw) (ς := ς) (k := 29) (by omega) h29
  refine ⟨σ2, rem30_run p1 f1 (o1 302 (by omega)) f2, ⟨d2, fun j hj q hq => ?_⟩, fun a h1 h2 => ?_, fun i hi => ?_⟩
  · rw [a2, uA_n (by omega), uA_n (by omega), o1 308 (by omega), a1, lPsh_30]
    by_cases e2 : j = 29
    · subst e2
      rw [if_pos (by omega), if_pos (by omega), show 51 * 29 + q - 51 * 29 = q by omega]
    · rw [if_neg (by omega), if_pos (by omega), if_neg (by omega), ← p2 (j + 1) (by omega) q hq, show 51 * j + q + 51 = 51 * (j + 1) + q by omega]
  · rw [o2 a h1 h2, uA_n h1]; exact o1 a h2
  · rw [c2 i hi, uA_s, pk_un hi]
theorem remembers_M (hk : k ≤ 30) (hp : PM σ k L) :
    ∃ σ', f_X13_remembers 302 (enc sw σ ς) = some (enc sw σ' ς) ∧ PM σ' (kPsh k) (lPsh k L (σ 308)) ∧ (∀ a, a ≠ 302 → a ≠ 309 → σ' a = σ a) ∧ (∀ i, i ≠ 13 → σ' 302 i = σ 302 i) := by
  obtain ⟨p1, p2⟩ := hp
  by_cases e : k = 30
  · subst e
    rw [show kPsh 30 = 30 by decide]
    exact rem30_M p1 p2
  · obtain ⟨σ2, f2, o2, c2, d2, a2⟩ := stored_ok (sw := sw) (ς := ς) (k := k) (by omega) p1
    have hkp : kPsh k = k + 1 := by unfold kPsh; rw [if_neg e]
    have hne : (nI k = (30 : Int32)) = False := eq_false (fun z => e ((nI_eq (b := 30) (by omega) (by omega)).mp z))
    refine ⟨σ2, ?_, ⟨by rw [hkp]; exact d2, fun j hj q hq => ?_⟩, o2, c2⟩
    · simp only [f_X13_remembers, if_true, ite_true, reduceIte, Option.bind_some, Option.bind_none, bT1_some, io_LD, io_Rd, io_Mt, io_Nt, io_Pl, io_Ro, io_Pa, io_Te, io_Bo, io_Ia, io_Ib, io_Mo, io_Ra, io_Rb, gr_LD_0, gr_LD_1, gr_LD_2, gr_LD_3, gr_LD_4, gr_LD_5, gr_LD_6, gr_LD_7, gr_LD_8, gr_Rd_0, gr_Mt_0, gr_Mt_1, gr_Nt_0, gr_Nt_1, gr_Nt_2, gr_Nt_3, gr_Nt_4, gr_Nt_5, gr_Nt_6, gr_Pl_0, gr_Pl_1, gr_Ro_0, gr_Ro_1, gr_Ro_2, gr_Pa_0, gr_Te_0, gr_Te_1, gr_Bo_0, gr_Bo_1, gr_Ia_0, gr_Ib_0, gr_Mo_0, gr_Mo_7, gr_Mo_8, gr_Mo_9, gr_Mo_10, gr_Mo_11, gr_Mo_12, gr_Mo_15, gr_Mo_16, gr_Mo_17, gr_Mo_18, gr_Mo_20, gr_Mo_28, gr_Mo_29, gr_Mo_32, gr_Mo_33, gr_Mo_34, gr_Mo_35, gr_Mo_36, gr_Mo_37, gr_Ra_0, gr_Ra_1, gr_Ra_2, gr_Ra_3, gr_Ra_4, gr_Ra_5, gr_Ra_6, gr_Rb_0, gr_Rb_1, gr_Rb_2, gr_Rb_3, gr_Rb_4, gr_Rb_5, gr_Rb_6, gi_LD_9, gi_Rd_1, gi_Rd_2, gi_Rd_3, gi_Rd_4, gi_Nt_7, gi_Nt_8, gi_Nt_9, gi_Nt_10, gi_Pl_2, gi_Pl_3, gi_Ro_3, gi_Ro_4, gi_Ro_5, gi_Pa_1, gi_Pa_2, gi_Te_2, gi_Bo_2, gi_Ia_1, gi_Ia_2, gi_Ib_1, gi_Ib_2, gi_Mo_1, gi_Mo_2, gi_Mo_3, gi_Mo_4, gi_Mo_5, gi_Mo_6, gi_Mo_13, gl_Mo_14, gi_Mo_19, gi_Mo_21, gi_Mo_22, gi_Mo_23, gi_Mo_24, gi_Mo_25, gi_Mo_26, gi_Mo_27, gi_Mo_30, gi_Mo_31, gi_Ra_7, gi_Ra_8, gi_Ra_9, gi_Ra_10, gi_Rb_7, gi_Rb_8, gi_Rb_9, gi_Rb_10, p1, hne, if_false, f2]
    · rw [hkp] at hj
      rw [a2]
      unfold lPsh
      rw [hkp]
      by_cases e2 : j = k
      · subst e2
        rw [if_pos (by omega), if_pos rfl, show 51 * j + q - 51 * j = q by omega]
      · rw [if_neg (by omega), if_neg (by omega), if_neg e]
        exact p2 j (by omega) q hq
end RM
theorem lPsh_NB {n m H k : Nat} {kd sl V : Nat → Int32} {L : Nat → Nat → Int32} (hV : NB n m H kd sl V) (hL : ∀ j, j < k → NB n m H kd sl (L j)) (hk : k ≤ 30) : ∀ j, j < kPsh k → NB n m H kd sl (lPsh k L V j) := by
  intro j hj
  unfold lPsh
  by_cases e : j + 1 = kPsh k
  · rw [if_pos e]; exact hV
  · rw [if_neg e]
    unfold kPsh at e hj
    by_cases e2 : k = 30
    · rw [if_pos e2] at e hj ⊢; exact hL _ (by omega)
    · rw [if_neg e2] at e hj ⊢; exact hL _ (by omega)
