/-! images -/
theorem ar_img {sw : Bool} {σ : Sg} {ς : Lg} {i : Nat} (hi : i < 2) : ar (enc sw σ ς) 5 275 (nI i) = some (284 + 9 * i) := by
  unfold ar
  rw [enc_get (m := mkG) rfl]
  simp only [mkG]
  rw [if_pos ⟨trivial, nI_in hi (by decide)⟩, nI_clamp (by omega)]
  obtain rfl | rfl : i = 0 ∨ i = 1 := by omega
  all_goals rfl
section IM
variable {sw : Bool} {σ : Sg} {ς : Lg} {i : Nat}
theorem Nsh_img (hi : i < 2) : Nsh sw (285 + 9 * i) := by
  obtain rfl | rfl : i = 0 ∨ i = 1 := by omega
  · exact Nsh_285 sw
  · exact Nsh_294 sw
theorem gr_im (hi : i < 2) : gr (enc sw σ ς) 2 (284 + 9 * i) 0 = some (285 + 9 * i) := by
  obtain rfl | rfl : i = 0 ∨ i = 1 := by omega
  · exact gr_Ia_0
  · exact gr_Ib_0
theorem gi_im1 (hi : i < 2) : gi (enc sw σ ς) 2 (284 + 9 * i) 1 = some (σ (284 + 9 * i) 1) := by
  obtain rfl | rfl : i = 0 ∨ i = 1 := by omega
  · exact gi_Ia_1
  · exact gi_Ib_1
theorem gi_im2 (hi : i < 2) : gi (enc sw σ ς) 2 (284 + 9 * i) 2 = some (σ (284 + 9 * i) 2) := by
  obtain rfl | rfl : i = 0 ∨ i = 1 := by omega
  · exact gi_Ia_2
  · exact gi_Ib_2
theorem pf_im1 (hi : i < 2) (x : Int32) : pf (enc sw σ ς) 2 (284 + 9 * i) 1 (.int x) = some (enc sw (uA σ (284 + 9 * i) (upd (σ (284 + 9 * i)) 1 x)) ς) := by
  obtain rfl | rfl : i = 0 ∨ i = 1 := by omega
  · exact pf_Ia_1 x
  · exact pf_Ib_1 x
theorem pf_im2 (hi : i < 2) (x : Int32) : pf (enc sw σ ς) 2 (284 + 9 * i) 2 (.int x) = some (enc sw (uA σ (284 + 9 * i) (upd (σ (284 + 9 * i)) 2 x)) ς) := by
  obtain rfl | rfl : i = 0 ∨ i = 1 := by omega
  · exact pf_Ia_2 x
  · exact pf_Ib_2 x
theorem al_311 (hi : i < 2) : al (enc sw σ ς) 3 311 (nI i) = some (ς 311 i) := by
  rw [al_of (m := mkL 2) (n := 2) rfl (fun _ _ => rfl), if_pos (nI_inb hi (by omega)), nI_clamp (by omega)]
theorem alw_311 (hi : i < 2) (x : Int64) : alw (enc sw σ ς) 3 311 (nI i) x = some (enc sw σ (uL ς 311 (vp_updL (ς 311) i x))) := by
  rw [alw_of (m := mkL 2) (n := 2) rfl (fun _ _ => rfl), if_pos (nI_inb hi (by omega)), nI_clamp (by omega)]
end IM
theorem uL_s (ς : Lg) (a : Nat) (f : Nat → Int64) : uL ς a f a = f := by simp [uL]
theorem uL_n {ς : Lg} {a b : Nat} {f : Nat → Int64} (h : b ≠ a) : uL ς a f b = ς b := by simp [uL, h]
theorem keep_loop {sw : Bool} {ς : Lg} {k : Nat} (hk : k < 2) : ∀ (d i f : Nat) (σ : Sg), i + d = 51 → d < f →
    ∃ σ', f_X13_keep_L14 f 302 (nI k) (nI i) (enc sw σ ς) = some (enc sw σ' ς) ∧ (∀ a, a ≠ 310 → σ' a = σ a) ∧ ∀ q, σ' 310 q = if 51 * k + i ≤ q ∧ q < 51 * k + 51 then σ 308 (q - 51 * k) else σ 310 q := by
  intro d
  induction d with
  | zero =>
    intro i f σ hi hf
    obtain ⟨f, rfl⟩ : ∃ f', f = f' + 1 := ⟨f - 1, by omega⟩
    refine ⟨σ, ?_, fun _ _ => rfl, fun q => ?_⟩
    · show F_X13_keep_L14 (f_X13_keep_L14 f) 302 (nI k) (nI i) (enc sw σ ς) = _
      unfold F_X13_keep_L14
      rw [if_pos (show (51 : Int32) ≤ nI i from nI_le (a := 51) (by omega) (by omega))]
    · rw [if_neg (by omega)]
  | succ d ih =>
    intro i f σ hi hf
    obtain ⟨f, rfl⟩ : ∃ f', f = f' + 1 := ⟨f - 1, by omega⟩
    have hs : (51 : Int32) * nI k + nI i = nI (51 * k + i) := by rw [show (51 : Int32) = nI 51 from rfl, pk_mul, nI_add]
    have l1 : i < 51 := by omega
    have l2 : 51 * k + i < 102 := by omega
    obtain ⟨σ', g1, g2, g3⟩ := ih (i + 1) f (uA σ 310 (upd (σ 310) (51 * k + i) (σ 308 i))) (by omega) (by omega)
    refine ⟨σ', ?_, fun a ha => ?_, fun q => ?_⟩
    · show F_X13_keep_L14 (f_X13_keep_L14 f) 302 (nI k) (nI i) (enc sw σ ς) = _
      unfold F_X13_keep_L14
      rw [if_neg (show ¬ (51 : Int32) ≤ nI i from nI_ge (b := 51) l1 (by omega))]
      simp only [if_true, ite_true, reduceIte, Option.bind_some, Option.bind_none, bT1_some, io_LD, io_Rd, io_Mt, io_Nt, io_Pl, io_Ro, io_Pa, io_Te, io_Bo, io_Ia, io_Ib, io_Mo, io_Ra, io_Rb, gr_LD_0, gr_LD_1, gr_LD_2, gr_LD_3, gr_LD_4, gr_LD_5, gr_LD_6, gr_LD_7, gr_LD_8, gr_Rd_0, gr_Mt_0, gr_Mt_1, gr_Nt_0, gr_Nt_1, gr_Nt_2, gr_Nt_3, gr_Nt_4, gr_Nt_5, gr_Nt_6, gr_Pl_0, gr_Pl_1, gr_Ro_0, gr_Ro_1, gr_Ro_2, gr_Pa_0, gr_Te_0, gr_Te_1, gr_Bo_0, gr_Bo_1, gr_Ia_0, gr_Ib_0, gr_Mo_0, gr_Mo_7, gr_Mo_8, gr_Mo_9, gr_Mo_10, gr_Mo_11, gr_Mo_12, gr_Mo_15, gr_Mo_16, gr_Mo_17, gr_Mo_18, gr_Mo_20, gr_Mo_28, gr_Mo_29, gr_Mo_32, gr_Mo_33, gr_Mo_34, gr_Mo_35, gr_Mo_36, gr_Mo_37, gr_Ra_0, gr_Ra_1, gr_Ra_2, gr_Ra_3, gr_Ra_4, gr_Ra_5, gr_Ra_6, gr_Rb_0, gr_Rb_1, gr_Rb_2, gr_Rb_3, gr_Rb_4, gr_Rb_5, gr_Rb_6, gi_LD_9, gi_Rd_1, gi_Rd_2, gi_Rd_3, gi_Rd_4, gi_Nt_7, gi_Nt_8, gi_Nt_9, gi_Nt_10, gi_Pl_2, gi_Pl_3, gi_Ro_3, gi_Ro_4, gi_Ro_5, gi_Pa_1, gi_Pa_2, gi_Te_2, gi_Bo_2, gi_Ia_1, gi_Ia_2, gi_Ib_1, gi_Ib_2, gi_Mo_1, gi_Mo_2, gi_Mo_3, gi_Mo_4, gi_Mo_5, gi_Mo_6, gi_Mo_13, gl_Mo_14, gi_Mo_19, gi_Mo_21, gi_Mo_22, gi_Mo_23, gi_Mo_24, gi_Mo_25, gi_Mo_26, gi_Mo_27, gi_Mo_30, gi_Mo_31, gi_Ra_7, gi_Ra_8, gi_Ra_9, gi_Ra_10, gi_Rb_7, gi_Rb_8, gi_Rb_9, gi_Rb_10, hs, ai_308 l1, aw_310 l2, nI_1]
      exact g1
    · rw [g2 a ha, uA_n ha]
    · rw [g3 q, uA_s, uA_n (by omega)]
      by_cases h1 : 51 * k + (i + 1) ≤ q ∧ q < 51 * k + 51
      · rw [if_pos h1, if_pos (by omega)]
      · rw [if_neg h1]
        by_cases h2 : q = 51 * k + i
        · subst h2
          rw [pk_us, if_pos (by omega), show 51 * k + i - 51 * k = i by omega]
        · rw [pk_un h2, if_neg (by omega)]
theorem back_loop {sw : Bool} {ς : Lg} {k : Nat} (hk : k < 2) : ∀ (d i f : Nat) (σ : Sg), i + d = 51 → d < f →
    ∃ σ', f_X13_goBack_L26 f 302 (nI k) (nI i) (enc sw σ ς) = some (enc sw σ' ς) ∧ (∀ a, a ≠ 308 → σ' a = σ a) ∧ ∀ q, σ' 308 q = if i ≤ q ∧ q < 51 then σ 310 (51 * k + q) else σ 308 q := by
  intro d
  induction d with
  | zero =>
    intro i f σ hi hf
    obtain ⟨f, rfl⟩ : ∃ f', f = f' + 1 := ⟨f - 1, by omega⟩
    refine ⟨σ, ?_, fun _ _ => rfl, fun q => ?_⟩
    · show F_X13_goBack_L26 (f_X13_goBack_L26 f) 302 (nI k) (nI i) (enc sw σ ς) = _
      unfold F_X13_goBack_L26
      rw [if_pos (show (51 : Int32) ≤ nI i from nI_le (a := 51) (by omega) (by omega))]
    · rw [if_neg (by omega)]
  | succ d ih =>
    intro i f σ hi hf
    obtain ⟨f, rfl⟩ : ∃ f', f = f' + 1 := ⟨f - 1, by omega⟩
    have hs : (51 : Int32) * nI k + nI i = nI (51 * k + i) := by rw [show (51 : Int32) = nI 51 from rfl, pk_mul, nI_add]
    have l1 : i < 51 := by omega
    have l2 : 51 * k + i < 102 := by omega
    obtain ⟨σ', g1, g2, g3⟩ := ih (i + 1) f (uA σ 308 (upd (σ 308) i (σ 310 (51 * k + i)))) (by omega) (by omega)
    refine ⟨σ', ?_, fun a ha => ?_, fun q => ?_⟩
    · show F_X13_goBack_L26 (f_X13_goBack_L26 f) 302 (nI k) (nI i) (enc sw σ ς) = _
      unfold F_X13_goBack_L26
      rw [if_neg (show ¬ (51 : Int32) ≤ nI i from nI_ge (b := 51) l1 (by omega))]
      simp only [if_true, ite_true, reduceIte, Option.bind_some, Option.bind_none, bT1_some, io_LD, io_Rd, io_Mt, io_Nt, io_Pl, io_Ro, io_Pa, io_Te, io_Bo, io_Ia, io_Ib, io_Mo, io_Ra, io_Rb, gr_LD_0, gr_LD_1, gr_LD_2, gr_LD_3, gr_LD_4, gr_LD_5, gr_LD_6, gr_LD_7, gr_LD_8, gr_Rd_0, gr_Mt_0, gr_Mt_1, gr_Nt_0, gr_Nt_1, gr_Nt_2, gr_Nt_3, gr_Nt_4, gr_Nt_5, gr_Nt_6, gr_Pl_0, gr_Pl_1, gr_Ro_0, gr_Ro_1, gr_Ro_2, gr_Pa_0, gr_Te_0, gr_Te_1, gr_Bo_0, gr_Bo_1, gr_Ia_0, gr_Ib_0, gr_Mo_0, gr_Mo_7, gr_Mo_8, gr_Mo_9, gr_Mo_10, gr_Mo_11, gr_Mo_12, gr_Mo_15, gr_Mo_16, gr_Mo_17, gr_Mo_18, gr_Mo_20, gr_Mo_28, gr_Mo_29, gr_Mo_32, gr_Mo_33, gr_Mo_34, gr_Mo_35, gr_Mo_36, gr_Mo_37, gr_Ra_0, gr_Ra_1, gr_Ra_2, gr_Ra_3, gr_Ra_4, gr_Ra_5, gr_Ra_6, gr_Rb_0, gr_Rb_1, gr_Rb_2, gr_Rb_3, gr_Rb_4, gr_Rb_5, gr_Rb_6, gi_LD_9, gi_Rd_1, gi_Rd_2, gi_Rd_3, gi_Rd_4, gi_Nt_7, gi_Nt_8, gi_Nt_9, gi_Nt_10, gi_Pl_2, gi_Pl_3, gi_Ro_3, gi_Ro_4, gi_Ro_5, gi_Pa_1, gi_Pa_2, gi_Te_2, gi_Bo_2, gi_Ia_1, gi_Ia_2, gi_Ib_1, gi_Ib_2, gi_Mo_1, gi_Mo_2, gi_Mo_3, gi_Mo_4, gi_Mo_5, gi_Mo_6, gi_Mo_13, gl_Mo_14, gi_Mo_19, gi_Mo_21, gi_Mo_22, gi_Mo_23, gi_Mo_24, gi_Mo_25, gi_Mo_26, gi_Mo_27, gi_Mo_30, gi_Mo_31, gi_Ra_7, gi_Ra_8, gi_Ra_9, gi_Ra_10, gi_Rb_7, gi_Rb_8, gi_Rb_9, gi_Rb_10, hs, ai_310 l2, aw_308 l1, nI_1]
      exact g1
    · rw [g2 a ha, uA_n ha]
    · rw [g3 q, uA_s, uA_n (by omega)]
      by_cases h1 : i + 1 ≤ q ∧ q < 51
      · rw [if_pos h1, if_pos (by omega)]
      · rw [if_neg h1]
        by_cases h2 : q = i
        · subst h2
          rw [pk_us, if_pos (by omega)]
        · rw [pk_un h2, if_neg (by omega)]
theorem I_past.zero {σ : Sg} {H n m nx : Nat} (hx : nx < 30) (e0 : σ 27 1 = nI nx) (e1 : σ 27 2 = 0) (e2 : σ 302 13 = 0) : I_past σ H n m 0 nx := ⟨by omega, hx, e0, e1, e2, fun j hj => absurd hj (by omega)⟩
theorem ix2 (x : Int32) (h1 : ¬ x < 0) (h2 : x < 2) : ∃ i, i < 2 ∧ x = nI i := by
  rcases pk_ix x (n := 2) (by omega) with z | z | z
  · exact absurd z h1
  · exact absurd h2 (Int32.not_lt.mpr z)
  · exact z
theorem if01 {α : Type} {i : Nat} (hi : i < 2) (a b : α) : (if nI i = 0 then a else (if nI i = (1 : Int32) then a else b)) = a := by
  obtain rfl | rfl : i = 0 ∨ i = 1 := by omega
  · rfl
  · rfl
theorem al_keep (x : Int32) : Alike (f_X12_keep 0 x) (f_X13_keep 302 x) := by
  intro sw σ ς hI
  obtain ⟨len, H, D, n, m, k, nx, q, e, h⟩ := id hI
  have hcc := h.cc
  obtain ⟨⟨r1, r2, r3, r4⟩, r5, r6, ⟨c1, c2, c3, c4⟩, ⟨d1, d2, d3, d4⟩, -, -⟩ := id h.2.2.1
  have hra := rA_or sw
  by_cases hx : x < 0
  · refine ⟨-1000000001, sw, σ, ς, sw, σ, ς, ?_, ?_, hI⟩
    · simp only [f_X12_keep, if_true, ite_true, reduceIte, Option.bind_some, Option.bind_none, bT1_some, io_LD, io_Rd, io_Mt, io_Nt, io_Pl, io_Ro, io_Pa, io_Te, io_Bo, io_Ia, io_Ib, io_Mo, io_Ra, io_Rb, gr_LD_0, gr_LD_1, gr_LD_2, gr_LD_3, gr_LD_4, gr_LD_5, gr_LD_6, gr_LD_7, gr_LD_8, gr_Rd_0, gr_Mt_0, gr_Mt_1, gr_Nt_0, gr_Nt_1, gr_Nt_2, gr_Nt_3, gr_Nt_4, gr_Nt_5, gr_Nt_6, gr_Pl_0, gr_Pl_1, gr_Ro_0, gr_Ro_1, gr_Ro_2, gr_Pa_0, gr_Te_0, gr_Te_1, gr_Bo_0, gr_Bo_1, gr_Ia_0, gr_Ib_0, gr_Mo_0, gr_Mo_7, gr_Mo_8, gr_Mo_9, gr_Mo_10, gr_Mo_11, gr_Mo_12, gr_Mo_15, gr_Mo_16, gr_Mo_17, gr_Mo_18, gr_Mo_20, gr_Mo_28, gr_Mo_29, gr_Mo_32, gr_Mo_33, gr_Mo_34, gr_Mo_35, gr_Mo_36, gr_Mo_37, gr_Ra_0, gr_Ra_1, gr_Ra_2, gr_Ra_3, gr_Ra_4, gr_Ra_5, gr_Ra_6, gr_Rb_0, gr_Rb_1, gr_Rb_2, gr_Rb_3, gr_Rb_4, gr_Rb_5, gr_Rb_6, gi_LD_9, gi_Rd_1, gi_Rd_2, gi_Rd_3, gi_Rd_4, gi_Nt_7, gi_Nt_8, gi_Nt_9, gi_Nt_10, gi_Pl_2, gi_Pl_3, gi_Ro_3, gi_Ro_4, gi_Ro_5, gi_Pa_1, gi_Pa_2, gi_Te_2, gi_Bo_2, gi_Ia_1, gi_Ia_2, gi_Ib_1, gi_Ib_2, gi_Mo_1, gi_Mo_2, gi_Mo_3, gi_Mo_4, gi_Mo_5, gi_Mo_6, gi_Mo_13, gl_Mo_14, gi_Mo_19, gi_Mo_21, gi_Mo_22, gi_Mo_23, gi_Mo_24, gi_Mo_25, gi_Mo_26, gi_Mo_27, gi_Mo_30, gi_Mo_31, gi_Ra_7, gi_Ra_8, gi_Ra_9, gi_Ra_10, gi_Rb_7, gi_Rb_8, gi_Rb_9, gi_Rb_10, hx]
    · have z0 : ¬ x = 0 := fun z => by subst z; exact absurd hx (by decide)
      have z1 : ¬ x = 1 := fun z => by subst z; exact absurd hx (by decide)
      simp only [f_X13_keep, if_true, ite_true, reduceIte, Option.bind_some, Option.bind_none, bT1_some, io_LD, io_Rd, io_Mt, io_Nt, io_Pl, io_Ro, io_Pa, io_Te, io_Bo, io_Ia, io_Ib, io_Mo, io_Ra, io_Rb, gr_LD_0, gr_LD_1, gr_LD_2, gr_LD_3, gr_LD_4, gr_LD_5, gr_LD_6, gr_LD_7, gr_LD_8, gr_Rd_0, gr_Mt_0, gr_Mt_1, gr_Nt_0, gr_Nt_1, gr_Nt_2, gr_Nt_3, gr_Nt_4, gr_Nt_5, gr_Nt_6, gr_Pl_0, gr_Pl_1, gr_Ro_0, gr_Ro_1, gr_Ro_2, gr_Pa_0, gr_Te_0, gr_Te_1, gr_Bo_0, gr_Bo_1, gr_Ia_0, gr_Ib_0, gr_Mo_0, gr_Mo_7, gr_Mo_8, gr_Mo_9, gr_Mo_10, gr_Mo_11, gr_Mo_12, gr_Mo_15, gr_Mo_16, gr_Mo_17, gr_Mo_18, gr_Mo_20, gr_Mo_28, gr_Mo_29, gr_Mo_32, gr_Mo_33, gr_Mo_34, gr_Mo_35, gr_Mo_36, gr_Mo_37, gr_Ra_0, gr_Ra_1, gr_Ra_2, gr_Ra_3, gr_Ra_4, gr_Ra_5, gr_Ra_6, gr_Rb_0, gr_Rb_1, gr_Rb_2, gr_Rb_3, gr_Rb_4, gr_Rb_5, gr_Rb_6, gi_LD_9, gi_Rd_1, gi_Rd_2, gi_Rd_3, gi_Rd_4, gi_Nt_7, gi_Nt_8, gi_Nt_9, gi_Nt_10, gi_Pl_2, gi_Pl_3, gi_Ro_3, gi_Ro_4, gi_Ro_5, gi_Pa_1, gi_Pa_2, gi_Te_2, gi_Bo_2, gi_Ia_1, gi_Ia_2, gi_Ib_1, gi_Ib_2, gi_Mo_1, gi_Mo_2, gi_Mo_3, gi_Mo_4, gi_Mo_5, gi_Mo_6, gi_Mo_13, gl_Mo_14, gi_Mo_19, gi_Mo_21, gi_Mo_22, gi_Mo_23, gi_Mo_24, gi_Mo_25, gi_Mo_26, gi_Mo_27, gi_Mo_30, gi_Mo_31, gi_Ra_7, gi_Ra_8, gi_Ra_9, gi_Ra_10, gi_Rb_7, gi_Rb_8, gi_Rb_9, gi_Rb_10, z0, z1, if_false]
  · by_cases hx2 : x < 2
    · obtain ⟨i, hi, rfl⟩ := ix2 x hx hx2
      obtain ⟨h1, h2, h3, ⟨h4, h4b⟩, h5, ⟨zs, zs1, zs2, zs3⟩, h7, h8, h9⟩ := h
      obtain ⟨σ1, f1, o1, a1, b1⟩ := copy_ok (σ := σ) (ς := ς) (Nsh_img hi) (Nsh_4 sw) (by omega)
      obtain ⟨σ3, f3, o3, a3⟩ := keep_loop (sw := sw) (ς := ς) hi 51 0 1000000 (uA (uA (uA σ1 (284 + 9 * i) (upd (σ1 (284 + 9 * i)) 1 (nI zs))) (284 + 9 * i) (upd (upd (σ1 (284 + 9 * i)) 1 (nI zs)) 2 1)) 27 (upd (σ 27) 2 0)) (by omega) (by omega)
      have f3' : f_X13_keep_L14 1000000 302 (nI i) (0 : Int32) (enc sw (uA (uA (uA σ1 (284 + 9 * i) (upd (σ1 (284 + 9 * i)) 1 (nI zs))) (284 + 9 * i) (upd (upd (σ1 (284 + 9 * i)) 1 (nI zs)) 2 1)) 27 (upd (σ 27) 2 0)) ς) = some (enc sw σ3 ς) := f3
      have w275 : σ1 0 9 = nI zs := by rw [o1 0 (by omega)]; exact zs2
      have w27 : σ1 27 = σ 27 := o1 27 (by omega)
      have n27 : 27 ≠ 284 + 9 * i := by omega
      have hup : ∀ a, (a < 284 ∨ 302 ≤ a) → a ≠ 27 → a ≠ 310 → σ3 a = σ a := fun a z1 z2 z3 => by rw [o3 a z3, uA_n z2, uA_n (by omega), uA_n (by omega), o1 a (by omega)]
      have u27 : σ3 27 = upd (σ 27) 2 0 := by rw [o3 27 (by omega), uA_s]
      refine ⟨1, sw, uA (uA (uA σ1 (284 + 9 * i) (upd (σ1 (284 + 9 * i)) 1 (nI zs))) (284 + 9 * i) (upd (upd (σ1 (284 + 9 * i)) 1 (nI zs)) 2 1)) 27 (upd (σ 27) 2 0), ς, sw, uA (uA σ3 312 (upd (σ3 312) i 1)) 302 (upd (σ3 302) 13 0), uL ς 311 (vp_updL (ς 311) i (ς 302 14)), ?_, ?_, ?_⟩
      · simp only [f_X12_keep, f_X6_forget, if_true, ite_true, reduceIte, Option.bind_some, Option.bind_none, bT1_some, io_LD, io_Rd, io_Mt, io_Nt, io_Pl, io_Ro, io_Pa, io_Te, io_Bo, io_Ia, io_Ib, io_Mo, io_Ra, io_Rb, gr_LD_0, gr_LD_1, gr_LD_2, gr_LD_3, gr_LD_4, gr_LD_5, gr_LD_6, gr_LD_7, gr_LD_8, gr_Rd_0, gr_Mt_0, gr_Mt_1, gr_Nt_0, gr_Nt_1, gr_Nt_2, gr_Nt_3, gr_Nt_4, gr_Nt_5, gr_Nt_6, gr_Pl_0, gr_Pl_1, gr_Ro_0, gr_Ro_1, gr_Ro_2, gr_Pa_0, gr_Te_0, gr_Te_1, gr_Bo_0, gr_Bo_1, gr_Ia_0, gr_Ib_0, gr_Mo_0, gr_Mo_7, gr_Mo_8, gr_Mo_9, gr_Mo_10, gr_Mo_11, gr_Mo_12, gr_Mo_15, gr_Mo_16, gr_Mo_17, gr_Mo_18, gr_Mo_20, gr_Mo_28, gr_Mo_29, gr_Mo_32, gr_Mo_33, gr_Mo_34, gr_Mo_35, gr_Mo_36, gr_Mo_37, gr_Ra_0, gr_Ra_1, gr_Ra_2, gr_Ra_3, gr_Ra_4, gr_Ra_5, gr_Ra_6, gr_Rb_0, gr_Rb_1, gr_Rb_2, gr_Rb_3, gr_Rb_4, gr_Rb_5, gr_Rb_6, gi_LD_9, gi_Rd_1, gi_Rd_2, gi_Rd_3, gi_Rd_4, gi_Nt_7, gi_Nt_8, gi_Nt_9, gi_Nt_10, gi_Pl_2, gi_Pl_3, gi_Ro_3, gi_Ro_4, gi_Ro_5, gi_Pa_1, gi_Pa_2, gi_Te_2, gi_Bo_2, gi_Ia_1, gi_Ia_2, gi_Ib_1, gi_Ib_2, gi_Mo_1, gi_Mo_2, gi_Mo_3, gi_Mo_4, gi_Mo_5, gi_Mo_6, gi_Mo_13, gl_Mo_14, gi_Mo_19, gi_Mo_21, gi_Mo_22, gi_Mo_23, gi_Mo_24, gi_Mo_25, gi_Mo_26, gi_Mo_27, gi_Mo_30, gi_Mo_31, gi_Ra_7, gi_Ra_8, gi_Ra_9, gi_Ra_10, gi_Rb_7, gi_Rb_8, gi_Rb_9, gi_Rb_10, pf_LD_9, pf_Rd_1, pf_Rd_2, pf_Rd_3, pf_Rd_4, pf_Nt_7, pf_Nt_8, pf_Nt_9, pf_Nt_10, pf_Pl_2, pf_Pl_3, pf_Ro_3, pf_Ro_4, pf_Ro_5, pf_Pa_1, pf_Pa_2, pf_Te_2, pf_Bo_2, pf_Ia_1, pf_Ia_2, pf_Ib_1, pf_Ib_2, pf_Mo_1, pf_Mo_2, pf_Mo_3, pf_Mo_4, pf_Mo_5, pf_Mo_6, pf_Mo_13, pl_Mo_14, pf_Mo_19, pf_Mo_21, pf_Mo_22, pf_Mo_23, pf_Mo_24, pf_Mo_25, pf_Mo_26, pf_Mo_27, pf_Mo_30, pf_Mo_31, pf_Ra_7, pf_Ra_8, pf_Ra_9, pf_Ra_10, pf_Rb_7, pf_Rb_8, pf_Rb_9, pf_Rb_10, hx, hx2, ar_img hi, gr_im hi, f1, w275, pf_im1 hi, pf_im2 hi, uA_s, uA_n n27, w27]
      · simp only [f_X13_keep, if01 hi]
        have hn3 : 302 ≠ 312 := by omega
        simp only [f_X13_keep_12, if_true, ite_true, reduceIte, Option.bind_some, Option.bind_none, bT1_some, io_LD, io_Rd, io_Mt, io_Nt, io_Pl, io_Ro, io_Pa, io_Te, io_Bo, io_Ia, io_Ib, io_Mo, io_Ra, io_Rb, gr_LD_0, gr_LD_1, gr_LD_2, gr_LD_3, gr_LD_4, gr_LD_5, gr_LD_6, gr_LD_7, gr_LD_8, gr_Rd_0, gr_Mt_0, gr_Mt_1, gr_Nt_0, gr_Nt_1, gr_Nt_2, gr_Nt_3, gr_Nt_4, gr_Nt_5, gr_Nt_6, gr_Pl_0, gr_Pl_1, gr_Ro_0, gr_Ro_1, gr_Ro_2, gr_Pa_0, gr_Te_0, gr_Te_1, gr_Bo_0, gr_Bo_1, gr_Ia_0, gr_Ib_0, gr_Mo_0, gr_Mo_7, gr_Mo_8, gr_Mo_9, gr_Mo_10, gr_Mo_11, gr_Mo_12, gr_Mo_15, gr_Mo_16, gr_Mo_17, gr_Mo_18, gr_Mo_20, gr_Mo_28, gr_Mo_29, gr_Mo_32, gr_Mo_33, gr_Mo_34, gr_Mo_35, gr_Mo_36, gr_Mo_37, gr_Ra_0, gr_Ra_1, gr_Ra_2, gr_Ra_3, gr_Ra_4, gr_Ra_5, gr_Ra_6, gr_Rb_0, gr_Rb_1, gr_Rb_2, gr_Rb_3, gr_Rb_4, gr_Rb_5, gr_Rb_6, gi_LD_9, gi_Rd_1, gi_Rd_2, gi_Rd_3, gi_Rd_4, gi_Nt_7, gi_Nt_8, gi_Nt_9, gi_Nt_10, gi_Pl_2, gi_Pl_3, gi_Ro_3, gi_Ro_4, gi_Ro_5, gi_Pa_1, gi_Pa_2, gi_Te_2, gi_Bo_2, gi_Ia_1, gi_Ia_2, gi_Ib_1, gi_Ib_2, gi_Mo_1, gi_Mo_2, gi_Mo_3, gi_Mo_4, gi_Mo_5, gi_Mo_6, gi_Mo_13, gl_Mo_14, gi_Mo_19, gi_Mo_21, gi_Mo_22, gi_Mo_23, gi_Mo_24, gi_Mo_25, gi_Mo_26, gi_Mo_27, gi_Mo_30, gi_Mo_31, gi_Ra_7, gi_Ra_8, gi_Ra_9, gi_Ra_10, gi_Rb_7, gi_Rb_8, gi_Rb_9, gi_Rb_10, pf_LD_9, pf_Rd_1, pf_Rd_2, pf_Rd_3, pf_Rd_4, pf_Nt_7, pf_Nt_8, pf_Nt_9, pf_Nt_10, pf_Pl_2, pf_Pl_3, pf_Ro_3, pf_Ro_4, pf_Ro_5, pf_Pa_1, pf_Pa_2, pf_Te_2, pf_Bo_2, pf_Ia_1, pf_Ia_2, pf_Ib_1, pf_Ib_2, pf_Mo_1, pf_Mo_2, pf_Mo_3, pf_Mo_4, pf_Mo_5, pf_Mo_6, pf_Mo_13, pl_Mo_14, pf_Mo_19, pf_Mo_21, pf_Mo_22, pf_Mo_23, pf_Mo_24, pf_Mo_25, pf_Mo_26, pf_Mo_27, pf_Mo_30, pf_Mo_31, pf_Ra_7, pf_Ra_8, pf_Ra_9, pf_Ra_10, pf_Rb_7, pf_Rb_8, pf_Rb_9, pf_Rb_10, f3', alw_311 hi, aw_312 hi, uA_n hn3]
      · refine ⟨len, H, D, n, m, 0, nx, q, e, h1.c ?_ ?_ ?_ ?_, ?_, h3.c ?_ ?_ ?_, ⟨h4.c ?_ |>.congr r3 r4 ?_, ?_⟩, I_past.zero h5.2.1 ?_ ?_ ?_, ⟨zs, zs1, ?_, ?_⟩, ?_, h8.c ?_ ?_ ?_ ?_ ?_, h9.c ?_ ?_ ?_ ?_ ?_⟩
        · rw [uA_n (by omega), uA_n (by omega), hup 1 (by omega) (by omega) (by omega)]
        · rw [uA_s, pk_un (by omega), hup 302 (by omega) (by omega) (by omega)]
        · rw [uA_n (by omega), uA_n (by omega), hup 2 (by omega) (by omega) (by omega)]
        · rw [uA_n (by omega), uA_n (by omega), hup 303 (by omega) (by omega) (by omega)]
        · rw [uA_n (by omega), uA_n (by omega), hup 1 (by omega) (by omega) (by omega), uA_s, pk_un (by omega), hup 302 (by omega) (by omega) (by omega)]; exact h2
        · intro j hj; rw [uA_n (by omega), uA_n (by omega), hup _ (by omega) (by omega) (by omega)]
        · intro j z1 z2; rw [uA_s, pk_un (by omega), hup 302 (by omega) (by omega) (by omega)]
        · intro j z1 z2; rw [uA_n (by omega), uA_n (by omega), hup _ (by omega) (by omega) (by omega)]
        · intro j hj; rw [uA_n (by omega), uA_n (by omega), hup _ (by omega) (by omega) (by omega)]
        · intro j hj; rw [uA_n (by omega), uA_n (by omega), hup _ (by omega) (by omega) (by omega)]
        · rw [uA_n (by omega), uA_n (by omega), hup 306 (by omega) (by omega) (by omega), uA_n (by omega), uA_n (by omega), hup 307 (by omega) (by omega) (by omega), uA_n (by omega), uA_n (by omega), hup 308 (by omega) (by omega) (by omega)]; exact h4b
        · rw [uA_n (by omega), uA_n (by omega), u27, pk_un (by omega)]; exact h5.2.2.1
        · rw [uA_n (by omega), uA_n (by omega), u27, pk_us]
        · rw [uA_s, pk_us]
        · rw [uA_n (by omega), uA_n (by omega), hup 0 (by omega) (by omega) (by omega)]; exact zs2
        · rw [uL_n (by omega)]; exact zs3
        · intro j hj
          rw [uA_n (by omega), uA_n (by omega), uA_n (by omega) (b := 312), uA_s, uA_n (by omega) (b := 306), uA_n (by omega) (b := 306), hup 306 (by omega) (by omega) (by omega), uA_n (by omega) (b := 307), uA_n (by omega) (b := 307), hup 307 (by omega) (by omega) (by omega), uA_n (by omega) (b := 310), uA_n (by omega) (b := 310)]
          by_cases hij : j = i
          · subst hij
            have v311 : ∀ q, q < 51 → σ3 310 (51 * j + q) = σ 308 q := fun q hq => by
              rw [a3, if_pos (by omega), uA_n (by omega), uA_n (by omega), uA_n (by omega), o1 308 (by omega), show 51 * j + q - 51 * j = q by omega]
            have g285 : σ3 (284 + 9 * j) = upd (upd (σ1 (284 + 9 * j)) 1 (nI zs)) 2 1 := by rw [o3 _ (by omega), uA_n (by omega), uA_s]
            refine Or.inr ⟨by rw [g285]; rfl, pk_us, ?_, h4b.congr r3 r4 fun q hq => (v311 q hq).symm, zs, zs1, by rw [g285]; rfl, by rw [uL_s, pk_uLs]; exact zs3⟩
            have hcp := (NR.copied h4 r3 r4 a1 b1).congr r3 r4 fun q hq => (v311 q hq).symm
            refine hcp.c fun t ht => ?_
            rw [uA_n (by omega), uA_n (by omega), o3 _ (by omega), uA_n (by omega), uA_n (by omega), uA_n (by omega)]
          · have hother : ∀ t, t < 9 → σ3 (284 + 9 * j + t) = σ (284 + 9 * j + t) := fun t ht => by
              rw [o3 _ (by omega), uA_n (by omega), uA_n (by omega), uA_n (by omega), o1 _ (by omega)]
            have v311 : ∀ q, q < 51 → σ3 310 (51 * j + q) = σ 310 (51 * j + q) := fun q hq => by
              rw [a3, if_neg (by omega), uA_n (by omega), uA_n (by omega), uA_n (by omega), o1 310 (by omega)]
            rw [pk_un hij, hup 312 (by omega) (by omega) (by omega), show σ3 (284 + 9 * j) = σ (284 + 9 * j) from hother 0 (by omega), uL_s, pk_uLn hij]
            rcases h7 j hj with z | ⟨z1, z2, z3, z4, z5⟩
            · exact Or.inl z
            · refine Or.inr ⟨z1, z2, ?_, z4.congr r3 r4 fun q hq => (v311 q hq).symm, z5⟩
              refine (z3.congr r3 r4 fun q hq => (v311 q hq).symm).c fun t ht => ?_
              rw [uA_n (by omega), uA_n (by omega), show 285 + 9 * j + t = 284 + 9 * j + (t + 1) by omega, hother _ (by omega)]
        · rw [uA_n (by omega), uA_n (by omega), hup 269 (by omega) (by omega) (by omega)]
        · rw [uA_s, pk_un (by omega), hup 302 (by omega) (by omega) (by omega)]
        · rw [uA_n (by omega), uA_n (by omega), hup 270 (by omega) (by omega) (by omega)]
        · rw [uA_n (by omega), uA_n (by omega), hup 271 (by omega) (by omega) (by omega)]
        · rw [uA_n (by omega), uA_n (by omega), hup 313 (by omega) (by omega) (by omega)]
        · rw [uA_n (by omega), uA_n (by omega), hup 272 (by omega) (by omega) (by omega)]
        · rw [uA_s, pk_un (by omega), hup 302 (by omega) (by omega) (by omega)]
        · rw [uA_n (by omega), uA_n (by omega), hup 273 (by omega) (by omega) (by omega)]
        · rw [uA_n (by omega), uA_n (by omega), hup 274 (by omega) (by omega) (by omega)]
        · rw [uA_n (by omega), uA_n (by omega), hup 314 (by omega) (by omega) (by omega)]
    · refine ⟨-1000000001, sw, σ, ς, sw, σ, ς, ?_, ?_, hI⟩
      · simp only [f_X12_keep, if_true, ite_true, reduceIte, Option.bind_some, Option.bind_none, bT1_some, io_LD, io_Rd, io_Mt, io_Nt, io_Pl, io_Ro, io_Pa, io_Te, io_Bo, io_Ia, io_Ib, io_Mo, io_Ra, io_Rb, gr_LD_0, gr_LD_1, gr_LD_2, gr_LD_3, gr_LD_4, gr_LD_5, gr_LD_6, gr_LD_7, gr_LD_8, gr_Rd_0, gr_Mt_0, gr_Mt_1, gr_Nt_0, gr_Nt_1, gr_Nt_2, gr_Nt_3, gr_Nt_4, gr_Nt_5, gr_Nt_6, gr_Pl_0, gr_Pl_1, gr_Ro_0, gr_Ro_1, gr_Ro_2, gr_Pa_0, gr_Te_0, gr_Te_1, gr_Bo_0, gr_Bo_1, gr_Ia_0, gr_Ib_0, gr_Mo_0, gr_Mo_7, gr_Mo_8, gr_Mo_9, gr_Mo_10, gr_Mo_11, gr_Mo_12, gr_Mo_15, gr_Mo_16, gr_Mo_17, gr_Mo_18, gr_Mo_20, gr_Mo_28, gr_Mo_29, gr_Mo_32, gr_Mo_33, gr_Mo_34, gr_Mo_35, gr_Mo_36, gr_Mo_37, gr_Ra_0, gr_Ra_1, gr_Ra_2, gr_Ra_3, gr_Ra_4, gr_Ra_5, gr_Ra_6, gr_Rb_0, gr_Rb_1, gr_Rb_2, gr_Rb_3, gr_Rb_4, gr_Rb_5, gr_Rb_6, gi_LD_9, gi_Rd_1, gi_Rd_2, gi_Rd_3, gi_Rd_4, gi_Nt_7, gi_Nt_8, gi_Nt_9, gi_Nt_10, gi_Pl_2, gi_Pl_3, gi_Ro_3, gi_Ro_4, gi_Ro_5, gi_Pa_1, gi_Pa_2, gi_Te_2, gi_Bo_2, gi_Ia_1, gi_Ia_2, gi_Ib_1, gi_Ib_2, gi_Mo_1, gi_Mo_2, gi_Mo_3, gi_Mo_4, gi_Mo_5, gi_Mo_6, gi_Mo_13, gl_Mo_14, gi_Mo_19, gi_Mo_21, gi_Mo_22, gi_Mo_23, gi_Mo_24, gi_Mo_25, gi_Mo_26, gi_Mo_27, gi_Mo_30, gi_Mo_31, gi_Ra_7, gi_Ra_8, gi_Ra_9, gi_Ra_10, gi_Rb_7, gi_Rb_8, gi_Rb_9, gi_Rb_10, hx, hx2, if_false]
      · have z0 : ¬ x = 0 := fun z => by subst z; exact hx2 (by decide)
        have z1 : ¬ x = 1 := fun z => by subst z; exact hx2 (by decide)
        simp only [f_X13_keep, if_true, ite_true, reduceIte, Option.bind_some, Option.bind_none, bT1_some, io_LD, io_Rd, io_Mt, io_Nt, io_Pl, io_Ro, io_Pa, io_Te, io_Bo, io_Ia, io_Ib, io_Mo, io_Ra, io_Rb, gr_LD_0, gr_LD_1, gr_LD_2, gr_LD_3, gr_LD_4, gr_LD_5, gr_LD_6, gr_LD_7, gr_LD_8, gr_Rd_0, gr_Mt_0, gr_Mt_1, gr_Nt_0, gr_Nt_1, gr_Nt_2, gr_Nt_3, gr_Nt_4, gr_Nt_5, gr_Nt_6, gr_Pl_0, gr_Pl_1, gr_Ro_0, gr_Ro_1, gr_Ro_2, gr_Pa_0, gr_Te_0, gr_Te_1, gr_Bo_0, gr_Bo_1, gr_Ia_0, gr_Ib_0, gr_Mo_0, gr_Mo_7, gr_Mo_8, gr_Mo_9, gr_Mo_10, gr_Mo_11, gr_Mo_12, gr_Mo_15, gr_Mo_16, gr_Mo_17, gr_Mo_18, gr_Mo_20, gr_Mo_28, gr_Mo_29, gr_Mo_32, gr_Mo_33, gr_Mo_34, gr_Mo_35, gr_Mo_36, gr_Mo_37, gr_Ra_0, gr_Ra_1, gr_Ra_2, gr_Ra_3, gr_Ra_4, gr_Ra_5, gr_Ra_6, gr_Rb_0, gr_Rb_1, gr_Rb_2, gr_Rb_3, gr_Rb_4, gr_Rb_5, gr_Rb_6, gi_LD_9, gi_Rd_1, gi_Rd_2, gi_Rd_3, gi_Rd_4, gi_Nt_7, gi_Nt_8, gi_Nt_9, gi_Nt_10, gi_Pl_2, gi_Pl_3, gi_Ro_3, gi_Ro_4, gi_Ro_5, gi_Pa_1, gi_Pa_2, gi_Te_2, gi_Bo_2, gi_Ia_1, gi_Ia_2, gi_Ib_1, gi_Ib_2, gi_Mo_1, gi_Mo_2, gi_Mo_3, gi_Mo_4, gi_Mo_5, gi_Mo_6, gi_Mo_13, gl_Mo_14, gi_Mo_19, gi_Mo_21, gi_Mo_22, gi_Mo_23, gi_Mo_24, gi_Mo_25, gi_Mo_26, gi_Mo_27, gi_Mo_30, gi_Mo_31, gi_Ra_7, gi_Ra_8, gi_Ra_9, gi_Ra_10, gi_Rb_7, gi_Rb_8, gi_Rb_9, gi_Rb_10, z0, z1, if_false]
theorem al_goBack (x : Int32) : Alike (f_X12_goBack 0 x) (f_X13_goBack 302 x) := by
  intro sw σ ς hI
  obtain ⟨len, H, D, n, m, k, nx, q, e, h⟩ := id hI
  have hcc := h.cc
  obtain ⟨⟨r1, r2, r3, r4⟩, r5, r6, ⟨c1, c2, c3, c4⟩, ⟨d1, d2, d3, d4⟩, -, -⟩ := id h.2.2.1
  have hra := rA_or sw
  by_cases hx : x < 0
  · refine ⟨-1000000001, sw, σ, ς, sw, σ, ς, ?_, ?_, hI⟩
    · simp only [f_X12_goBack, if_true, ite_true, reduceIte, Option.bind_some, Option.bind_none, bT1_some, io_LD, io_Rd, io_Mt, io_Nt, io_Pl, io_Ro, io_Pa, io_Te, io_Bo, io_Ia, io_Ib, io_Mo, io_Ra, io_Rb, gr_LD_0, gr_LD_1, gr_LD_2, gr_LD_3, gr_LD_4, gr_LD_5, gr_LD_6, gr_LD_7, gr_LD_8, gr_Rd_0, gr_Mt_0, gr_Mt_1, gr_Nt_0, gr_Nt_1, gr_Nt_2, gr_Nt_3, gr_Nt_4, gr_Nt_5, gr_Nt_6, gr_Pl_0, gr_Pl_1, gr_Ro_0, gr_Ro_1, gr_Ro_2, gr_Pa_0, gr_Te_0, gr_Te_1, gr_Bo_0, gr_Bo_1, gr_Ia_0, gr_Ib_0, gr_Mo_0, gr_Mo_7, gr_Mo_8, gr_Mo_9, gr_Mo_10, gr_Mo_11, gr_Mo_12, gr_Mo_15, gr_Mo_16, gr_Mo_17, gr_Mo_18, gr_Mo_20, gr_Mo_28, gr_Mo_29, gr_Mo_32, gr_Mo_33, gr_Mo_34, gr_Mo_35, gr_Mo_36, gr_Mo_37, gr_Ra_0, gr_Ra_1, gr_Ra_2, gr_Ra_3, gr_Ra_4, gr_Ra_5, gr_Ra_6, gr_Rb_0, gr_Rb_1, gr_Rb_2, gr_Rb_3, gr_Rb_4, gr_Rb_5, gr_Rb_6, gi_LD_9, gi_Rd_1, gi_Rd_2, gi_Rd_3, gi_Rd_4, gi_Nt_7, gi_Nt_8, gi_Nt_9, gi_Nt_10, gi_Pl_2, gi_Pl_3, gi_Ro_3, gi_Ro_4, gi_Ro_5, gi_Pa_1, gi_Pa_2, gi_Te_2, gi_Bo_2, gi_Ia_1, gi_Ia_2, gi_Ib_1, gi_Ib_2, gi_Mo_1, gi_Mo_2, gi_Mo_3, gi_Mo_4, gi_Mo_5, gi_Mo_6, gi_Mo_13, gl_Mo_14, gi_Mo_19, gi_Mo_21, gi_Mo_22, gi_Mo_23, gi_Mo_24, gi_Mo_25, gi_Mo_26, gi_Mo_27, gi_Mo_30, gi_Mo_31, gi_Ra_7, gi_Ra_8, gi_Ra_9, gi_Ra_10, gi_Rb_7, gi_Rb_8, gi_Rb_9, gi_Rb_10, hx]
    · have z0 : ¬ x = 0 := fun z => by subst z; exact absurd hx (by decide)
      have z1 : ¬ x = 1 := fun z => by subst z; exact absurd hx (by decide)
      simp only [f_X13_goBack, if_true, ite_true, reduceIte, Option.bind_some, Option.bind_none, bT1_some, io_LD, io_Rd, io_Mt, io_Nt, io_Pl, io_Ro, io_Pa, io_Te, io_Bo, io_Ia, io_Ib, io_Mo, io_Ra, io_Rb, gr_LD_0, gr_LD_1, gr_LD_2, gr_LD_3, gr_LD_4, gr_LD_5, gr_LD_6, gr_LD_7, gr_LD_8, gr_Rd_0, gr_Mt_0, gr_Mt_1, gr_Nt_0, gr_Nt_1, gr_Nt_2, gr_Nt_3, gr_Nt_4, gr_Nt_5, gr_Nt_6, gr_Pl_0, gr_Pl_1, gr_Ro_0, gr_Ro_1, gr_Ro_2, gr_Pa_0, gr_Te_0, gr_Te_1, gr_Bo_0, gr_Bo_1, gr_Ia_0, gr_Ib_0, gr_Mo_0, gr_Mo_7, gr_Mo_8, gr_Mo_9, gr_Mo_10, gr_Mo_11, gr_Mo_12, gr_Mo_15, gr_Mo_16, gr_Mo_17, gr_Mo_18, gr_Mo_20, gr_Mo_28, gr_Mo_29, gr_Mo_32, gr_Mo_33, gr_Mo_34, gr_Mo_35, gr_Mo_36, gr_Mo_37, gr_Ra_0, gr_Ra_1, gr_Ra_2, gr_Ra_3, gr_Ra_4, gr_Ra_5, gr_Ra_6, gr_Rb_0, gr_Rb_1, gr_Rb_2, gr_Rb_3, gr_Rb_4, gr_Rb_5, gr_Rb_6, gi_LD_9, gi_Rd_1, gi_Rd_2, gi_Rd_3, gi_Rd_4, gi_Nt_7, gi_Nt_8, gi_Nt_9, gi_Nt_10, gi_Pl_2, gi_Pl_3, gi_Ro_3, gi_Ro_4, gi_Ro_5, gi_Pa_1, gi_Pa_2, gi_Te_2, gi_Bo_2, gi_Ia_1, gi_Ia_2, gi_Ib_1, gi_Ib_2, gi_Mo_1, gi_Mo_2, gi_Mo_3, gi_Mo_4, gi_Mo_5, gi_Mo_6, gi_Mo_13, gl_Mo_14, gi_Mo_19, gi_Mo_21, gi_Mo_22, gi_Mo_23, gi_Mo_24, gi_Mo_25, gi_Mo_26, gi_Mo_27, gi_Mo_30, gi_Mo_31, gi_Ra_7, gi_Ra_8, gi_Ra_9, gi_Ra_10, gi_Rb_7, gi_Rb_8, gi_Rb_9, gi_Rb_10, z0, z1, if_false]
  · by_cases hx2 : x < 2
    · obtain ⟨i, hi, rfl⟩ := ix2 x hx hx2
      obtain ⟨p1, p2, p3, p4, p5, p6⟩ := id h.2.2.2.2.1
      rcases h.2.2.2.2.2.2.1 i hi with ⟨z1, z2⟩ | ⟨z1, z2, z3, z4, zs, zs1, zs2, zs3⟩
      · refine ⟨-1000000003, sw, σ, ς, sw, σ, ς, ?_, ?_, hI⟩
        · simp only [f_X12_goBack, if_true, ite_true, reduceIte, Option.bind_some, Option.bind_none, bT1_some, io_LD, io_Rd, io_Mt, io_Nt, io_Pl, io_Ro, io_Pa, io_Te, io_Bo, io_Ia, io_Ib, io_Mo, io_Ra, io_Rb, gr_LD_0, gr_LD_1, gr_LD_2, gr_LD_3, gr_LD_4, gr_LD_5, gr_LD_6, gr_LD_7, gr_LD_8, gr_Rd_0, gr_Mt_0, gr_Mt_1, gr_Nt_0, gr_Nt_1, gr_Nt_2, gr_Nt_3, gr_Nt_4, gr_Nt_5, gr_Nt_6, gr_Pl_0, gr_Pl_1, gr_Ro_0, gr_Ro_1, gr_Ro_2, gr_Pa_0, gr_Te_0, gr_Te_1, gr_Bo_0, gr_Bo_1, gr_Ia_0, gr_Ib_0, gr_Mo_0, gr_Mo_7, gr_Mo_8, gr_Mo_9, gr_Mo_10, gr_Mo_11, gr_Mo_12, gr_Mo_15, gr_Mo_16, gr_Mo_17, gr_Mo_18, gr_Mo_20, gr_Mo_28, gr_Mo_29, gr_Mo_32, gr_Mo_33, gr_Mo_34, gr_Mo_35, gr_Mo_36, gr_Mo_37, gr_Ra_0, gr_Ra_1, gr_Ra_2, gr_Ra_3, gr_Ra_4, gr_Ra_5, gr_Ra_6, gr_Rb_0, gr_Rb_1, gr_Rb_2, gr_Rb_3, gr_Rb_4, gr_Rb_5, gr_Rb_6, gi_LD_9, gi_Rd_1, gi_Rd_2, gi_Rd_3, gi_Rd_4, gi_Nt_7, gi_Nt_8, gi_Nt_9, gi_Nt_10, gi_Pl_2, gi_Pl_3, gi_Ro_3, gi_Ro_4, gi_Ro_5, gi_Pa_1, gi_Pa_2, gi_Te_2, gi_Bo_2, gi_Ia_1, gi_Ia_2, gi_Ib_1, gi_Ib_2, gi_Mo_1, gi_Mo_2, gi_Mo_3, gi_Mo_4, gi_Mo_5, gi_Mo_6, gi_Mo_13, gl_Mo_14, gi_Mo_19, gi_Mo_21, gi_Mo_22, gi_Mo_23, gi_Mo_24, gi_Mo_25, gi_Mo_26, gi_Mo_27, gi_Mo_30, gi_Mo_31, gi_Ra_7, gi_Ra_8, gi_Ra_9, gi_Ra_10, gi_Rb_7, gi_Rb_8, gi_Rb_9, gi_Rb_10, hx, hx2, ar_img hi, gi_im2 hi, z1]
        · simp only [f_X13_goBack, if01 hi]
          simp only [f_X13_goBack_12, if_true, ite_true, reduceIte, Option.bind_some, Option.bind_none, bT1_some, io_LD, io_Rd, io_Mt, io_Nt, io_Pl, io_Ro, io_Pa, io_Te, io_Bo, io_Ia, io_Ib, io_Mo, io_Ra, io_Rb, gr_LD_0, gr_LD_1, gr_LD_2, gr_LD_3, gr_LD_4, gr_LD_5, gr_LD_6, gr_LD_7, gr_LD_8, gr_Rd_0, gr_Mt_0, gr_Mt_1, gr_Nt_0, gr_Nt_1, gr_Nt_2, gr_Nt_3, gr_Nt_4, gr_Nt_5, gr_Nt_6, gr_Pl_0, gr_Pl_1, gr_Ro_0, gr_Ro_1, gr_Ro_2, gr_Pa_0, gr_Te_0, gr_Te_1, gr_Bo_0, gr_Bo_1, gr_Ia_0, gr_Ib_0, gr_Mo_0, gr_Mo_7, gr_Mo_8, gr_Mo_9, gr_Mo_10, gr_Mo_11, gr_Mo_12, gr_Mo_15, gr_Mo_16, gr_Mo_17, gr_Mo_18, gr_Mo_20, gr_Mo_28, gr_Mo_29, gr_Mo_32, gr_Mo_33, gr_Mo_34, gr_Mo_35, gr_Mo_36, gr_Mo_37, gr_Ra_0, gr_Ra_1, gr_Ra_2, gr_Ra_3, gr_Ra_4, gr_Ra_5, gr_Ra_6, gr_Rb_0, gr_Rb_1, gr_Rb_2, gr_Rb_3, gr_Rb_4, gr_Rb_5, gr_Rb_6, gi_LD_9, gi_Rd_1, gi_Rd_2, gi_Rd_3, gi_Rd_4, gi_Nt_7, gi_Nt_8, gi_Nt_9, gi_Nt_10, gi_Pl_2, gi_Pl_3, gi_Ro_3, gi_Ro_4, gi_Ro_5, gi_Pa_1, gi_Pa_2, gi_Te_2, gi_Bo_2, gi_Ia_1, gi_Ia_2, gi_Ib_1, gi_Ib_2, gi_Mo_1, gi_Mo_2, gi_Mo_3, gi_Mo_4, gi_Mo_5, gi_Mo_6, gi_Mo_13, gl_Mo_14, gi_Mo_19, gi_Mo_21, gi_Mo_22, gi_Mo_23, gi_Mo_24, gi_Mo_25, gi_Mo_26, gi_Mo_27, gi_Mo_30, gi_Mo_31, gi_Ra_7, gi_Ra_8, gi_Ra_9, gi_Ra_10, gi_Rb_7, gi_Rb_8, gi_Rb_9, gi_Rb_10, ai_312 hi, z2]
      · have ne : ¬ (1 : Int32) = 0 := by decide
        obtain ⟨σ1, f1, o1, a1, b1⟩ := copy_ok (σ := σ) (ς := ς) (Nsh_4 sw) (Nsh_img hi) (by omega)
        obtain ⟨σ3, f3, o3, a3⟩ := back_loop (sw := sw) (ς := ς) hi 51 0 1000000 (uA (uA σ1 0 (upd (σ1 0) 9 (nI zs))) 27 (upd (σ 27) 2 0)) (by omega) (by omega)
        have f3' : f_X13_goBack_L26 1000000 302 (nI i) (0 : Int32) (enc sw (uA (uA σ1 0 (upd (σ1 0) 9 (nI zs))) 27 (upd (σ 27) 2 0)) ς) = some (enc sw σ3 ς) := f3
        have w1 : σ1 (284 + 9 * i) 1 = nI zs := by rw [o1 _ (by omega)]; exact zs2
        have w27 : σ1 27 = σ 27 := o1 27 (by omega)
        have n27 : 27 ≠ 0 := by omega
        have hup : ∀ a, (a < 4 ∨ 12 ≤ a) → a ≠ 27 → a ≠ 0 → a ≠ 308 → σ3 a = σ a := fun a z1 z2 z3 z4 => by rw [o3 a z4, uA_n z2, uA_n z3, o1 a (by omega)]
        have w313 : (uA (uA σ1 0 (upd (σ1 0) 9 (nI zs))) 27 (upd (σ 27) 2 0)) 312 i = 1 := by rw [uA_n (by omega), uA_n (by omega), o1 312 (by omega)]; exact z2
        have v3 : ∀ q, q < 51 → σ3 308 q = σ 310 (51 * i + q) := fun q hq => by rw [a3, if_pos (by omega), uA_n (by omega), uA_n (by omega), o1 310 (by omega)]
        refine ⟨1, sw, uA (uA σ1 0 (upd (σ1 0) 9 (nI zs))) 27 (upd (σ 27) 2 0), ς, sw, uA σ3 302 (upd (σ3 302) 13 0), uL ς 302 (vp_updL (ς 302) 14 (ς 311 i)), ?_, ?_, ?_⟩
        · simp only [f_X12_goBack, f_X6_forget, if_true, ite_true, reduceIte, Option.bind_some, Option.bind_none, bT1_some, io_LD, io_Rd, io_Mt, io_Nt, io_Pl, io_Ro, io_Pa, io_Te, io_Bo, io_Ia, io_Ib, io_Mo, io_Ra, io_Rb, gr_LD_0, gr_LD_1, gr_LD_2, gr_LD_3, gr_LD_4, gr_LD_5, gr_LD_6, gr_LD_7, gr_LD_8, gr_Rd_0, gr_Mt_0, gr_Mt_1, gr_Nt_0, gr_Nt_1, gr_Nt_2, gr_Nt_3, gr_Nt_4, gr_Nt_5, gr_Nt_6, gr_Pl_0, gr_Pl_1, gr_Ro_0, gr_Ro_1, gr_Ro_2, gr_Pa_0, gr_Te_0, gr_Te_1, gr_Bo_0, gr_Bo_1, gr_Ia_0, gr_Ib_0, gr_Mo_0, gr_Mo_7, gr_Mo_8, gr_Mo_9, gr_Mo_10, gr_Mo_11, gr_Mo_12, gr_Mo_15, gr_Mo_16, gr_Mo_17, gr_Mo_18, gr_Mo_20, gr_Mo_28, gr_Mo_29, gr_Mo_32, gr_Mo_33, gr_Mo_34, gr_Mo_35, gr_Mo_36, gr_Mo_37, gr_Ra_0, gr_Ra_1, gr_Ra_2, gr_Ra_3, gr_Ra_4, gr_Ra_5, gr_Ra_6, gr_Rb_0, gr_Rb_1, gr_Rb_2, gr_Rb_3, gr_Rb_4, gr_Rb_5, gr_Rb_6, gi_LD_9, gi_Rd_1, gi_Rd_2, gi_Rd_3, gi_Rd_4, gi_Nt_7, gi_Nt_8, gi_Nt_9, gi_Nt_10, gi_Pl_2, gi_Pl_3, gi_Ro_3, gi_Ro_4, gi_Ro_5, gi_Pa_1, gi_Pa_2, gi_Te_2, gi_Bo_2, gi_Ia_1, gi_Ia_2, gi_Ib_1, gi_Ib_2, gi_Mo_1, gi_Mo_2, gi_Mo_3, gi_Mo_4, gi_Mo_5, gi_Mo_6, gi_Mo_13, gl_Mo_14, gi_Mo_19, gi_Mo_21, gi_Mo_22, gi_Mo_23, gi_Mo_24, gi_Mo_25, gi_Mo_26, gi_Mo_27, gi_Mo_30, gi_Mo_31, gi_Ra_7, gi_Ra_8, gi_Ra_9, gi_Ra_10, gi_Rb_7, gi_Rb_8, gi_Rb_9, gi_Rb_10, pf_LD_9, pf_Rd_1, pf_Rd_2, pf_Rd_3, pf_Rd_4, pf_Nt_7, pf_Nt_8, pf_Nt_9, pf_Nt_10, pf_Pl_2, pf_Pl_3, pf_Ro_3, pf_Ro_4, pf_Ro_5, pf_Pa_1, pf_Pa_2, pf_Te_2, pf_Bo_2, pf_Ia_1, pf_Ia_2, pf_Ib_1, pf_Ib_2, pf_Mo_1, pf_Mo_2, pf_Mo_3, pf_Mo_4, pf_Mo_5, pf_Mo_6, pf_Mo_13, pl_Mo_14, pf_Mo_19, pf_Mo_21, pf_Mo_22, pf_Mo_23, pf_Mo_24, pf_Mo_25, pf_Mo_26, pf_Mo_27, pf_Mo_30, pf_Mo_31, pf_Ra_7, pf_Ra_8, pf_Ra_9, pf_Ra_10, pf_Rb_7, pf_Rb_8, pf_Rb_9, pf_Rb_10, hx, hx2, ar_img hi, gi_im2 hi, z1, ne, if_false, gr_im hi, f1, gi_im1 hi, w1, uA_n n27, w27]
        · simp only [f_X13_goBack, if01 hi]
          simp only [f_X13_goBack_12, if_true, ite_true, reduceIte, Option.bind_some, Option.bind_none, bT1_some, io_LD, io_Rd, io_Mt, io_Nt, io_Pl, io_Ro, io_Pa, io_Te, io_Bo, io_Ia, io_Ib, io_Mo, io_Ra, io_Rb, gr_LD_0, gr_LD_1, gr_LD_2, gr_LD_3, gr_LD_4, gr_LD_5, gr_LD_6, gr_LD_7, gr_LD_8, gr_Rd_0, gr_Mt_0, gr_Mt_1, gr_Nt_0, gr_Nt_1, gr_Nt_2, gr_Nt_3, gr_Nt_4, gr_Nt_5, gr_Nt_6, gr_Pl_0, gr_Pl_1, gr_Ro_0, gr_Ro_1, gr_Ro_2, gr_Pa_0, gr_Te_0, gr_Te_1, gr_Bo_0, gr_Bo_1, gr_Ia_0, gr_Ib_0, gr_Mo_0, gr_Mo_7, gr_Mo_8, gr_Mo_9, gr_Mo_10, gr_Mo_11, gr_Mo_12, gr_Mo_15, gr_Mo_16, gr_Mo_17, gr_Mo_18, gr_Mo_20, gr_Mo_28, gr_Mo_29, gr_Mo_32, gr_Mo_33, gr_Mo_34, gr_Mo_35, gr_Mo_36, gr_Mo_37, gr_Ra_0, gr_Ra_1, gr_Ra_2, gr_Ra_3, gr_Ra_4, gr_Ra_5, gr_Ra_6, gr_Rb_0, gr_Rb_1, gr_Rb_2, gr_Rb_3, gr_Rb_4, gr_Rb_5, gr_Rb_6, gi_LD_9, gi_Rd_1, gi_Rd_2, gi_Rd_3, gi_Rd_4, gi_Nt_7, gi_Nt_8, gi_Nt_9, gi_Nt_10, gi_Pl_2, gi_Pl_3, gi_Ro_3, gi_Ro_4, gi_Ro_5, gi_Pa_1, gi_Pa_2, gi_Te_2, gi_Bo_2, gi_Ia_1, gi_Ia_2, gi_Ib_1, gi_Ib_2, gi_Mo_1, gi_Mo_2, gi_Mo_3, gi_Mo_4, gi_Mo_5, gi_Mo_6, gi_Mo_13, gl_Mo_14, gi_Mo_19, gi_Mo_21, gi_Mo_22, gi_Mo_23, gi_Mo_24, gi_Mo_25, gi_Mo_26, gi_Mo_27, gi_Mo_30, gi_Mo_31, gi_Ra_7, gi_Ra_8, gi_Ra_9, gi_Ra_10, gi_Rb_7, gi_Rb_8, gi_Rb_9, gi_Rb_10, pf_LD_9, pf_Rd_1, pf_Rd_2, pf_Rd_3, pf_Rd_4, pf_Nt_7, pf_Nt_8, pf_Nt_9, pf_Nt_10, pf_Pl_2, pf_Pl_3, pf_Ro_3, pf_Ro_4, pf_Ro_5, pf_Pa_1, pf_Pa_2, pf_Te_2, pf_Bo_2, pf_Ia_1, pf_Ia_2, pf_Ib_1, pf_Ib_2, pf_Mo_1, pf_Mo_2, pf_Mo_3, pf_Mo_4, pf_Mo_5, pf_Mo_6, pf_Mo_13, pl_Mo_14, pf_Mo_19, pf_Mo_21, pf_Mo_22, pf_Mo_23, pf_Mo_24, pf_Mo_25, pf_Mo_26, pf_Mo_27, pf_Mo_30, pf_Mo_31, pf_Ra_7, pf_Ra_8, pf_Ra_9, pf_Ra_10, pf_Rb_7, pf_Rb_8, pf_Rb_9, pf_Rb_10, ai_312 hi, w313, ne, if_false, f3', al_311 hi, pl_Mo_14]
        · refine h.deedS (σ1 := uA (uA σ1 0 (upd (σ1 0) 9 (nI zs))) 27 (upd (σ 27) 2 0)) (k' := 0) (nx' := nx) (L' := fun j q => σ 309 (51 * j + q)) (V' := σ3 308) ⟨hcc.1.c ?_ ?_ ?_, ?_, ?_⟩ ?_ (fun a ha => ?_) ⟨?_, fun j hj => absurd hj (by omega)⟩ (fun a y1 y2 y3 => ?_) (fun j hj => ?_) ?_ (fun j hj => absurd hj (by omega)) ⟨zs, zs1, ?_, ?_⟩ ?_
          · intro j hj; rw [uA_n (by omega), uA_n (by omega), o1 _ (by omega)]
          · intro j y1 y2; rw [uA_n (by omega), uA_n (by omega), o1 _ (by omega)]
          · intro j y1 y2; rw [uA_n (by omega), uA_n (by omega), o1 _ (by omega)]
          · refine NR.c ((NR.copied z3 r3 r4 a1 b1).congr r3 r4 fun q hq => (v3 q hq).symm) fun j hj => ?_
            rw [uA_n (by omega), uA_n (by omega)]
          · rw [uA_n (by omega), uA_n (by omega), o1 306 (by omega), uA_n (by omega), uA_n (by omega), o1 307 (by omega)]
            exact z4.congr r3 r4 fun q hq => (v3 q hq).symm
          · refine ⟨by omega, p2, by rw [uA_s, pk_un (by omega)]; exact p3, by rw [uA_s, pk_us]; rfl, fun j hj => absurd hj (by omega)⟩
          · by_cases ha27 : a = 27
            · omega
            · rw [uA_n ha27, uA_n (by omega), o1 a (by omega)]
          · rw [uA_s, pk_us]; rfl
          · rw [uA_n y1, o3 a y2]
          · rw [uA_s, pk_un hj, o3 302 (by omega)]
          · rw [uA_n (by omega)]
          · rw [uA_n (by omega), o3 0 (by omega), uA_n (by omega), uA_s, pk_us]
          · rw [uL_s, pk_uLs]; exact zs3
          · rw [uL_n (by omega)]
    · refine ⟨-1000000001, sw, σ, ς, sw, σ, ς, ?_, ?_, hI⟩
      · simp only [f_X12_goBack, if_true, ite_true, reduceIte, Option.bind_some, Option.bind_none, bT1_some, io_LD, io_Rd, io_Mt, io_Nt, io_Pl, io_Ro, io_Pa, io_Te, io_Bo, io_Ia, io_Ib, io_Mo, io_Ra, io_Rb, gr_LD_0, gr_LD_1, gr_LD_2, gr_LD_3, gr_LD_4, gr_LD_5, gr_LD_6, gr_LD_7, gr_LD_8, gr_Rd_0, gr_Mt_0, gr_Mt_1, gr_Nt_0, gr_Nt_1, gr_Nt_2, gr_Nt_3, gr_Nt_4, gr_Nt_5, gr_Nt_6, gr_Pl_0, gr_Pl_1, gr_Ro_0, gr_Ro_1, gr_Ro_2, gr_Pa_0, gr_Te_0, gr_Te_1, gr_Bo_0, gr_Bo_1, gr_Ia_0, gr_Ib_0, gr_Mo_0, gr_Mo_7, gr_Mo_8, gr_Mo_9, gr_Mo_10, gr_Mo_11, gr_Mo_12, gr_Mo_15, gr_Mo_16, gr_Mo_17, gr_Mo_18, gr_Mo_20, gr_Mo_28, gr_Mo_29, gr_Mo_32, gr_Mo_33, gr_Mo_34, gr_Mo_35, gr_Mo_36, gr_Mo_37, gr_Ra_0, gr_Ra_1, gr_Ra_2, gr_Ra_3, gr_Ra_4, gr_Ra_5, gr_Ra_6, gr_Rb_0, gr_Rb_1, gr_Rb_2, gr_Rb_3, gr_Rb_4, gr_Rb_5, gr_Rb_6, gi_LD_9, gi_Rd_1, gi_Rd_2, gi_Rd_3, gi_Rd_4, gi_Nt_7, gi_Nt_8, gi_Nt_9, gi_Nt_10, gi_Pl_2, gi_Pl_3, gi_Ro_3, gi_Ro_4, gi_Ro_5, gi_Pa_1, gi_Pa_2, gi_Te_2, gi_Bo_2, gi_Ia_1, gi_Ia_2, gi_Ib_1, gi_Ib_2, gi_Mo_1, gi_Mo_2, gi_Mo_3, gi_Mo_4, gi_Mo_5, gi_Mo_6, gi_Mo_13, gl_Mo_14, gi_Mo_19, gi_Mo_21, gi_Mo_22, gi_Mo_23, gi_Mo_24, gi_Mo_25, gi_Mo_26, gi_Mo_27, gi_Mo_30, gi_Mo_31, gi_Ra_7, gi_Ra_8, gi_Ra_9, gi_Ra_10, gi_Rb_7, gi_Rb_8, gi_Rb_9, gi_Rb_10, hx, hx2, if_false]
      · have z0 : ¬ x = 0 := fun z => by subst z; exact hx2 (by decide)
        have z1 : ¬ x = 1 := fun z => by subst z; exact hx2 (by decide)
        simp only [f_X13_goBack, if_true, ite_true, reduceIte, Option.bind_some, Option.bind_none, bT1_some, io_LD, io_Rd, io_Mt, io_Nt, io_Pl, io_Ro, io_Pa, io_Te, io_Bo, io_Ia, io_Ib, io_Mo, io_Ra, io_Rb, gr_LD_0, gr_LD_1, gr_LD_2, gr_LD_3, gr_LD_4, gr_LD_5, gr_LD_6, gr_LD_7, gr_LD_8, gr_Rd_0, gr_Mt_0, gr_Mt_1, gr_Nt_0, gr_Nt_1, gr_Nt_2, gr_Nt_3, gr_Nt_4, gr_Nt_5, gr_Nt_6, gr_Pl_0, gr_Pl_1, gr_Ro_0, gr_Ro_1, gr_Ro_2, gr_Pa_0, gr_Te_0, gr_Te_1, gr_Bo_0, gr_Bo_1, gr_Ia_0, gr_Ib_0, gr_Mo_0, gr_Mo_7, gr_Mo_8, gr_Mo_9, gr_Mo_10, gr_Mo_11, gr_Mo_12, gr_Mo_15, gr_Mo_16, gr_Mo_17, gr_Mo_18, gr_Mo_20, gr_Mo_28, gr_Mo_29, gr_Mo_32, gr_Mo_33, gr_Mo_34, gr_Mo_35, gr_Mo_36, gr_Mo_37, gr_Ra_0, gr_Ra_1, gr_Ra_2, gr_Ra_3, gr_Ra_4, gr_Ra_5, gr_Ra_6, gr_Rb_0, gr_Rb_1, gr_Rb_2, gr_Rb_3, gr_Rb_4, gr_Rb_5, gr_Rb_6, gi_LD_9, gi_Rd_1, gi_Rd_2, gi_Rd_3, gi_Rd_4, gi_Nt_7, gi_Nt_8, gi_Nt_9, gi_Nt_10, gi_Pl_2, gi_Pl_3, gi_Ro_3, gi_Ro_4, gi_Ro_5, gi_Pa_1, gi_Pa_2, gi_Te_2, gi_Bo_2, gi_Ia_1, gi_Ia_2, gi_Ib_1, gi_Ib_2, gi_Mo_1, gi_Mo_2, gi_Mo_3, gi_Mo_4, gi_Mo_5, gi_Mo_6, gi_Mo_13, gl_Mo_14, gi_Mo_19, gi_Mo_21, gi_Mo_22, gi_Mo_23, gi_Mo_24, gi_Mo_25, gi_Mo_26, gi_Mo_27, gi_Mo_30, gi_Mo_31, gi_Ra_7, gi_Ra_8, gi_Ra_9, gi_Ra_10, gi_Rb_7, gi_Rb_8, gi_Rb_9, gi_Rb_10, z0, z1, if_false]
