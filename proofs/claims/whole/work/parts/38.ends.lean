theorem ones_ok : ∀ m, m < 7 → ((1 : Int32) <<< (nI m &&& 31)) - (1 : Int32) = nI (2 ^ m - 1) := by decide +kernel
section EV
variable {sw : Bool} {σ : Sg} {ς : Lg} {V : Nat → Int32} {H D n m : Nat}
theorem endEvening_C (h : CC sw σ V H D n m) (he : nV V 50 + 1 ≤ 20000) :
    ∃ σ', f_X3_endEvening 3 (enc sw σ ς) = some (enc sw σ' ς) ∧ CC sw σ' (tEnd V (σ 305) D n m) H D n m ∧ ∀ a, (a < 4 ∨ 12 ≤ a) → σ' a = σ a := by
  obtain ⟨⟨r1, r2, r3, r4⟩, r5, r6, ⟨c1, c2, c3, c4⟩, -, r7, r8⟩ := id h.1
  have hra := rA_or sw
  obtain ⟨n1, n2, n3, n4, n5, n6⟩ := id h.2.1
  have hev := h.2.2.ev
  have hold := h.2.2.old
  have hhome : ∀ s, s < n → ∃ v, σ 305 s = nI v ∧ v < H := fun s hs => ⟨_, h.1.home hs⟩
  -- the evening's number
  obtain ⟨σa, f1, oa, a7, a8⟩ := begin_L2 (sw := sw) (ς := ς) (D := D) r3 n 0 1000000 (uA σ 4 (upd (σ 4) 8 (nI (nV V 50 + 1)))) (by omega) (by omega) (by rw [uA_n (by omega)]; exact c3) (by rw [uA_n (by omega)]; exact c2)
  obtain ⟨σb, f2, ob, b10⟩ := begin_L73 (sw := sw) (ς := ς) r4 m 0 1000000 (uA σa 4 (upd (σa 4) 7 (nI (2 ^ m - 1)))) (by omega) (by omega) (by rw [uA_n (by omega), oa _ (by omega) (by omega), uA_n (by omega)]; exact c4)
  have f1' : f_X3_beginEvening_L2 1000000 3 (0 : Int32) (enc sw (uA σ 4 (upd (σ 4) 8 (nI (nV V 50 + 1)))) ς) = some (enc sw σa ς) := f1
  have f2' : f_X3_beginEvening_L73 1000000 3 (0 : Int32) (enc sw (uA σa 4 (upd (σa 4) 7 (nI (2 ^ m - 1)))) ς) = some (enc sw σb ς) := f2
  have c4a : σa (rA sw) 10 = nI m := by rw [oa _ (by omega) (by omega), uA_n (by omega)]; exact c4
  have hbe : f_X3_beginEvening 3 (enc sw (uA σ 4 (upd (σ 4) 8 (nI (nV V 50 + 1)))) ς) = some (enc sw σb ς) := by
    simp only [f_X3_beginEvening, if_true, ite_true, reduceIte, Option.bind_some, Option.bind_none, bT1_some, io_LD, io_Rd, io_Mt, io_Nt, io_Pl, io_Ro, io_Pa, io_Te, io_Bo, io_Ia, io_Ib, io_Mo, io_Ra, io_Rb, gr_LD_0, gr_LD_1, gr_LD_2, gr_LD_3, gr_LD_4, gr_LD_5, gr_LD_6, gr_LD_7, gr_LD_8, gr_Rd_0, gr_Mt_0, gr_Mt_1, gr_Nt_0, gr_Nt_1, gr_Nt_2, gr_Nt_3, gr_Nt_4, gr_Nt_5, gr_Nt_6, gr_Pl_0, gr_Pl_1, gr_Ro_0, gr_Ro_1, gr_Ro_2, gr_Pa_0, gr_Te_0, gr_Te_1, gr_Bo_0, gr_Bo_1, gr_Ia_0, gr_Ib_0, gr_Mo_0, gr_Mo_7, gr_Mo_8, gr_Mo_9, gr_Mo_10, gr_Mo_11, gr_Mo_12, gr_Mo_15, gr_Mo_16, gr_Mo_17, gr_Mo_18, gr_Mo_20, gr_Mo_28, gr_Mo_29, gr_Mo_32, gr_Mo_33, gr_Mo_34, gr_Mo_35, gr_Mo_36, gr_Mo_37, gr_Ra_0, gr_Ra_1, gr_Ra_2, gr_Ra_3, gr_Ra_4, gr_Ra_5, gr_Ra_6, gr_Rb_0, gr_Rb_1, gr_Rb_2, gr_Rb_3, gr_Rb_4, gr_Rb_5, gr_Rb_6, gi_LD_9, gi_Rd_1, gi_Rd_2, gi_Rd_3, gi_Rd_4, gi_Nt_7, gi_Nt_8, gi_Nt_9, gi_Nt_10, gi_Pl_2, gi_Pl_3, gi_Ro_3, gi_Ro_4, gi_Ro_5, gi_Pa_1, gi_Pa_2, gi_Te_2, gi_Bo_2, gi_Ia_1, gi_Ia_2, gi_Ib_1, gi_Ib_2, gi_Mo_1, gi_Mo_2, gi_Mo_3, gi_Mo_4, gi_Mo_5, gi_Mo_6, gi_Mo_13, gl_Mo_14, gi_Mo_19, gi_Mo_21, gi_Mo_22, gi_Mo_23, gi_Mo_24, gi_Mo_25, gi_Mo_26, gi_Mo_27, gi_Mo_30, gi_Mo_31, gi_Ra_7, gi_Ra_8, gi_Ra_9, gi_Ra_10, gi_Rb_7, gi_Rb_8, gi_Rb_9, gi_Rb_10, pf_LD_9, pf_Rd_1, pf_Rd_2, pf_Rd_3, pf_Rd_4, pf_Nt_7, pf_Nt_8, pf_Nt_9, pf_Nt_10, pf_Pl_2, pf_Pl_3, pf_Ro_3, pf_Ro_4, pf_Ro_5, pf_Pa_1, pf_Pa_2, pf_Te_2, pf_Bo_2, pf_Ia_1, pf_Ia_2, pf_Ib_1, pf_Ib_2, pf_Mo_1, pf_Mo_2, pf_Mo_3, pf_Mo_4, pf_Mo_5, pf_Mo_6, pf_Mo_13, pl_Mo_14, pf_Mo_19, pf_Mo_21, pf_Mo_22, pf_Mo_23, pf_Mo_24, pf_Mo_25, pf_Mo_26, pf_Mo_27, pf_Mo_30, pf_Mo_31, pf_Ra_7, pf_Ra_8, pf_Ra_9, pf_Ra_10, pf_Rb_7, pf_Rb_8, pf_Rb_9, pf_Rb_10, f1', c4a, ones_ok m (by omega), f2']
  have ua4 : σa 4 = upd (σ 4) 8 (nI (nV V 50 + 1)) := by rw [oa 4 (by omega) (by omega), uA_s]
  have ub4 : σb 4 = upd (upd (σ 4) 8 (nI (nV V 50 + 1))) 7 (nI (2 ^ m - 1)) := by rw [ob 4 (by omega), uA_s, ua4]
  have ub : ∀ a, a ≠ 4 → a ≠ 7 → a ≠ 8 → a ≠ 10 → σb a = σ a := fun a z1 z2 z3 z4 => by rw [ob a z4, uA_n z1, oa a z2 z3, uA_n z1]
  have ub7 : ∀ j, j < n → σb 7 j = σ 305 j := fun j hj => by rw [ob 7 (by omega), uA_n (by omega), a7, if_pos (by omega), uA_n (by omega)]; exact (r7 j hj).2.1
  have ub8 : ∀ j, j < n → σb 8 j = nI D := fun j hj => by rw [ob 8 (by omega), uA_n (by omega), a8, if_pos (by omega)]
  have ub10 : ∀ j, j < m → σb 10 j = 0 := fun j hj => by rw [b10, if_pos (by omega)]
  have hev8 : upd (upd (σ 4) 8 (nI (nV V 50 + 1))) 7 (nI (2 ^ m - 1)) 8 = nI (nV V 50 + 1) := rfl
  have hmod : nI (nV V 50 + 1) - nI (nV V 50 + 1) / (4 : Int32) * (4 : Int32) = nI ((nV V 50 + 1) % 4) := pk_rem (d := 4) (by omega) (by omega) (by omega)
  -- what holds at the end, however the ages went
  have fin : ∀ σ' : Sg, (∀ a, a ≠ 4 → a ≠ 5 → σ' a = σb a) → (∀ j, j < n → σ' 5 j = zAge (zYr V) V j) → (∀ j, j ≠ 9 → σ' 4 j = σb 4 j) → σ' 4 9 = nI (oldR (zYr V) V (nV V 49) 0 n) → CC sw σ' (tEnd V (σ 305) D n m) H D n m ∧ ∀ a, (a < 4 ∨ 12 ≤ a) → σ' a = σ a := by
    intro σ' o5 q5 q4 q9
    have fr : ∀ a, (a < 4 ∨ 12 ≤ a) → σ' a = σ a := fun a ha => by rw [o5 a (by omega) (by omega), ub a (by omega) (by omega) (by omega) (by omega)]
    refine ⟨⟨h.1.c ?_ ?_ ?_, ?_, ?_⟩, fr⟩
    · intro j hj; exact fr _ (by omega)
    · intro j z1 z2; rw [fr 302 (by omega)]
    · intro j z1 z2; exact fr _ (by omega)
    · refine NR.intro (fun j hj => ?_) (fun j hj => ?_) (fun j hj => ?_) (fun j hj => ?_) (fun j hj => ?_) (fun j hj => ?_) (fun j hj => ?_) ?_ ?_ ?_ ?_
      · rw [tEnd_age r3 hj]; exact q5 j hj
      · rw [tEnd_debt r3 hj, o5 _ (by omega) (by omega), ub _ (by omega) (by omega) (by omega) (by omega)]; exact (n1 j hj).2.1
      · rw [tEnd_at hj, o5 _ (by omega) (by omega)]; exact ub7 j hj
      · rw [tEnd_left r3 hj, o5 _ (by omega) (by omega)]; exact ub8 j hj
      · rw [tEnd_lies r3 r4 hj, o5 _ (by omega) (by omega), ub _ (by omega) (by omega) (by omega) (by omega)]; exact (n2 j hj).1
      · rw [tEnd_heard r3 r4 hj, o5 _ (by omega) (by omega)]; exact ub10 j hj
      · rw [tEnd_sung r3 r4 hj, o5 _ (by omega) (by omega), ub _ (by omega) (by omega) (by omega) (by omega)]; exact (n2 j hj).2.2
      · refine ⟨2 ^ m - 1, by have := Nat.two_pow_pos m; omega, by rw [q4 7 (by omega), ub4]; rfl, fun c hc => ?_⟩
        rw [tEnd_aw r3 r4 hc, Nat.testBit_two_pow_sub_one, decide_eq_true hc]; rfl
      · rw [tEnd_ev r3 r4, q4 8 (by omega), ub4]; rfl
      · rw [tEnd_old r3 r4, q9]
      · rw [tEnd_late r3 r4, q4 10 (by omega), ub4]; exact n6
    · rw [fr 306 (by omega), fr 307 (by omega)]
      exact h.2.2.end_ r3 r4 r1 r2 hhome he
  have h48 : σb 4 8 = nI (nV V 50 + 1) := by rw [ub4]; rfl
  by_cases hy : (nV V 50 + 1) % 4 = 0
  · have hyr : zYr V = true := decide_eq_true hy
    obtain ⟨σc, f3, oc, c5, c4', c9⟩ := year_L2 (sw := sw) (ς := ς) (V := V) r3 (fun s hs => ⟨h.2.2.age hs, h.2.2.debt hs⟩) n 0 1000000 (nV V 49) σb (by omega) (by omega) (by rw [ub _ (by omega) (by omega) (by omega) (by omega)]; exact c3) (by rw [ub4]; exact n5.trans hold.1) hold.2
      (fun s z1 z2 => by rw [ub 5 (by omega) (by omega) (by omega) (by omega), ub 6 (by omega) (by omega) (by omega) (by omega)]; exact ⟨(n1 s z2).1, (n1 s z2).2.1⟩)
    have f3' : f_X3_addYear_L2 1000000 3 (0 : Int32) (enc sw σb ς) = some (enc sw σc ς) := f3
    refine ⟨σc, ?_, fin σc oc (fun j hj => ?_) c4' (by rw [hyr]; exact c9)⟩
    · have t0 : (nI 0 = 0) = True := eq_true rfl
      simp only [f_X3_endEvening, f_X3_addYear, if_true, ite_true, reduceIte, Option.bind_some, Option.bind_none, bT1_some, io_LD, io_Rd, io_Mt, io_Nt, io_Pl, io_Ro, io_Pa, io_Te, io_Bo, io_Ia, io_Ib, io_Mo, io_Ra, io_Rb, gr_LD_0, gr_LD_1, gr_LD_2, gr_LD_3, gr_LD_4, gr_LD_5, gr_LD_6, gr_LD_7, gr_LD_8, gr_Rd_0, gr_Mt_0, gr_Mt_1, gr_Nt_0, gr_Nt_1, gr_Nt_2, gr_Nt_3, gr_Nt_4, gr_Nt_5, gr_Nt_6, gr_Pl_0, gr_Pl_1, gr_Ro_0, gr_Ro_1, gr_Ro_2, gr_Pa_0, gr_Te_0, gr_Te_1, gr_Bo_0, gr_Bo_1, gr_Ia_0, gr_Ib_0, gr_Mo_0, gr_Mo_7, gr_Mo_8, gr_Mo_9, gr_Mo_10, gr_Mo_11, gr_Mo_12, gr_Mo_15, gr_Mo_16, gr_Mo_17, gr_Mo_18, gr_Mo_20, gr_Mo_28, gr_Mo_29, gr_Mo_32, gr_Mo_33, gr_Mo_34, gr_Mo_35, gr_Mo_36, gr_Mo_37, gr_Ra_0, gr_Ra_1, gr_Ra_2, gr_Ra_3, gr_Ra_4, gr_Ra_5, gr_Ra_6, gr_Rb_0, gr_Rb_1, gr_Rb_2, gr_Rb_3, gr_Rb_4, gr_Rb_5, gr_Rb_6, gi_LD_9, gi_Rd_1, gi_Rd_2, gi_Rd_3, gi_Rd_4, gi_Nt_7, gi_Nt_8, gi_Nt_9, gi_Nt_10, gi_Pl_2, gi_Pl_3, gi_Ro_3, gi_Ro_4, gi_Ro_5, gi_Pa_1, gi_Pa_2, gi_Te_2, gi_Bo_2, gi_Ia_1, gi_Ia_2, gi_Ib_1, gi_Ib_2, gi_Mo_1, gi_Mo_2, gi_Mo_3, gi_Mo_4, gi_Mo_5, gi_Mo_6, gi_Mo_13, gl_Mo_14, gi_Mo_19, gi_Mo_21, gi_Mo_22, gi_Mo_23, gi_Mo_24, gi_Mo_25, gi_Mo_26, gi_Mo_27, gi_Mo_30, gi_Mo_31, gi_Ra_7, gi_Ra_8, gi_Ra_9, gi_Ra_10, gi_Rb_7, gi_Rb_8, gi_Rb_9, gi_Rb_10, pf_LD_9, pf_Rd_1, pf_Rd_2, pf_Rd_3, pf_Rd_4, pf_Nt_7, pf_Nt_8, pf_Nt_9, pf_Nt_10, pf_Pl_2, pf_Pl_3, pf_Ro_3, pf_Ro_4, pf_Ro_5, pf_Pa_1, pf_Pa_2, pf_Te_2, pf_Bo_2, pf_Ia_1, pf_Ia_2, pf_Ib_1, pf_Ib_2, pf_Mo_1, pf_Mo_2, pf_Mo_3, pf_Mo_4, pf_Mo_5, pf_Mo_6, pf_Mo_13, pl_Mo_14, pf_Mo_19, pf_Mo_21, pf_Mo_22, pf_Mo_23, pf_Mo_24, pf_Mo_25, pf_Mo_26, pf_Mo_27, pf_Mo_30, pf_Mo_31, pf_Ra_7, pf_Ra_8, pf_Ra_9, pf_Ra_10, pf_Rb_7, pf_Rb_8, pf_Rb_9, pf_Rb_10, n4, hev.1, nI_1, hbe, h48, hmod, hy, t0, f3']
    · rw [hyr, c5 j, if_pos (by omega)]
  · have hyr : zYr V = false := decide_eq_false hy
    have hne : (nI ((nV V 50 + 1) % 4) = 0) = False := eq_false (nI_ne0 (by omega) (by omega))
    refine ⟨σb, ?_, fin σb (fun _ _ _ => rfl) (fun j hj => ?_) (fun _ _ => rfl) ?_⟩
    · simp only [f_X3_endEvening, if_true, ite_true, reduceIte, Option.bind_some, Option.bind_none, bT1_some, io_LD, io_Rd, io_Mt, io_Nt, io_Pl, io_Ro, io_Pa, io_Te, io_Bo, io_Ia, io_Ib, io_Mo, io_Ra, io_Rb, gr_LD_0, gr_LD_1, gr_LD_2, gr_LD_3, gr_LD_4, gr_LD_5, gr_LD_6, gr_LD_7, gr_LD_8, gr_Rd_0, gr_Mt_0, gr_Mt_1, gr_Nt_0, gr_Nt_1, gr_Nt_2, gr_Nt_3, gr_Nt_4, gr_Nt_5, gr_Nt_6, gr_Pl_0, gr_Pl_1, gr_Ro_0, gr_Ro_1, gr_Ro_2, gr_Pa_0, gr_Te_0, gr_Te_1, gr_Bo_0, gr_Bo_1, gr_Ia_0, gr_Ib_0, gr_Mo_0, gr_Mo_7, gr_Mo_8, gr_Mo_9, gr_Mo_10, gr_Mo_11, gr_Mo_12, gr_Mo_15, gr_Mo_16, gr_Mo_17, gr_Mo_18, gr_Mo_20, gr_Mo_28, gr_Mo_29, gr_Mo_32, gr_Mo_33, gr_Mo_34, gr_Mo_35, gr_Mo_36, gr_Mo_37, gr_Ra_0, gr_Ra_1, gr_Ra_2, gr_Ra_3, gr_Ra_4, gr_Ra_5, gr_Ra_6, gr_Rb_0, gr_Rb_1, gr_Rb_2, gr_Rb_3, gr_Rb_4, gr_Rb_5, gr_Rb_6, gi_LD_9, gi_Rd_1, gi_Rd_2, gi_Rd_3, gi_Rd_4, gi_Nt_7, gi_Nt_8, gi_Nt_9, gi_Nt_10, gi_Pl_2, gi_Pl_3, gi_Ro_3, gi_Ro_4, gi_Ro_5, gi_Pa_1, gi_Pa_2, gi_Te_2, gi_Bo_2, gi_Ia_1, gi_Ia_2, gi_Ib_1, gi_Ib_2, gi_Mo_1, gi_Mo_2, gi_Mo_3, gi_Mo_4, gi_Mo_5, gi_Mo_6, gi_Mo_13, gl_Mo_14, gi_Mo_19, gi_Mo_21, gi_Mo_22, gi_Mo_23, gi_Mo_24, gi_Mo_25, gi_Mo_26, gi_Mo_27, gi_Mo_30, gi_Mo_31, gi_Ra_7, gi_Ra_8, gi_Ra_9, gi_Ra_10, gi_Rb_7, gi_Rb_8, gi_Rb_9, gi_Rb_10, pf_LD_9, pf_Rd_1, pf_Rd_2, pf_Rd_3, pf_Rd_4, pf_Nt_7, pf_Nt_8, pf_Nt_9, pf_Nt_10, pf_Pl_2, pf_Pl_3, pf_Ro_3, pf_Ro_4, pf_Ro_5, pf_Pa_1, pf_Pa_2, pf_Te_2, pf_Bo_2, pf_Ia_1, pf_Ia_2, pf_Ib_1, pf_Ib_2, pf_Mo_1, pf_Mo_2, pf_Mo_3, pf_Mo_4, pf_Mo_5, pf_Mo_6, pf_Mo_13, pl_Mo_14, pf_Mo_19, pf_Mo_21, pf_Mo_22, pf_Mo_23, pf_Mo_24, pf_Mo_25, pf_Mo_26, pf_Mo_27, pf_Mo_30, pf_Mo_31, pf_Ra_7, pf_Ra_8, pf_Ra_9, pf_Ra_10, pf_Rb_7, pf_Rb_8, pf_Rb_9, pf_Rb_10, n4, hev.1, nI_1, hbe, h48, hmod, hne, if_false]
    · rw [hyr, ub 5 (by omega) (by omega) (by omega) (by omega)]; exact (n1 j hj).1
    · rw [hyr, ub4]
      have : ∀ d w i, oldR false V w i d = w := by
        intro d
        induction d with
        | zero => intro w i; rfl
        | succ d ih => intro w i; unfold oldR; rw [ih, if_neg (by simp)]
      rw [this]
      exact n5.trans hold.1
end EV
section EM
variable {sw : Bool} {ς : Lg}
theorem ends_L2 {m : Nat} (hm6 : m ≤ 6) : ∀ (d i f : Nat) (σ : Sg), i + d = m → d < f → σ 302 6 = nI m →
    ∃ σ', f_X13_ends_L2 f 302 (nI i) (enc sw σ ς) = some (enc sw σ' ς) ∧ (∀ a, a ≠ 308 → σ' a = σ a) ∧ (∀ j, σ' 308 j = if (30 + i ≤ j ∧ j < 30 + m) ∨ (36 + i ≤ j ∧ j < 36 + m) then 0 else σ 308 j) := by
  intro d
  induction d with
  | zero =>
    intro i f σ hi hf h9
    obtain ⟨f, rfl⟩ : ∃ f', f = f' + 1 := ⟨f - 1, by omega⟩
    refine ⟨σ, ?_, fun _ _ => rfl, fun j => ?_⟩
    · show F_X13_ends_L2 (f_X13_ends_L2 f) 302 (nI i) (enc sw σ ς) = _
      simp only [F_X13_ends_L2, if_true, ite_true, reduceIte, Option.bind_some, Option.bind_none, bT1_some, io_LD, io_Rd, io_Mt, io_Nt, io_Pl, io_Ro, io_Pa, io_Te, io_Bo, io_Ia, io_Ib, io_Mo, io_Ra, io_Rb, gr_LD_0, gr_LD_1, gr_LD_2, gr_LD_3, gr_LD_4, gr_LD_5, gr_LD_6, gr_LD_7, gr_LD_8, gr_Rd_0, gr_Mt_0, gr_Mt_1, gr_Nt_0, gr_Nt_1, gr_Nt_2, gr_Nt_3, gr_Nt_4, gr_Nt_5, gr_Nt_6, gr_Pl_0, gr_Pl_1, gr_Ro_0, gr_Ro_1, gr_Ro_2, gr_Pa_0, gr_Te_0, gr_Te_1, gr_Bo_0, gr_Bo_1, gr_Ia_0, gr_Ib_0, gr_Mo_0, gr_Mo_7, gr_Mo_8, gr_Mo_9, gr_Mo_10, gr_Mo_11, gr_Mo_12, gr_Mo_15, gr_Mo_16, gr_Mo_17, gr_Mo_18, gr_Mo_20, gr_Mo_28, gr_Mo_29, gr_Mo_32, gr_Mo_33, gr_Mo_34, gr_Mo_35, gr_Mo_36, gr_Mo_37, gr_Ra_0, gr_Ra_1, gr_Ra_2, gr_Ra_3, gr_Ra_4, gr_Ra_5, gr_Ra_6, gr_Rb_0, gr_Rb_1, gr_Rb_2, gr_Rb_3, gr_Rb_4, gr_Rb_5, gr_Rb_6, gi_LD_9, gi_Rd_1, gi_Rd_2, gi_Rd_3, gi_Rd_4, gi_Nt_7, gi_Nt_8, gi_Nt_9, gi_Nt_10, gi_Pl_2, gi_Pl_3, gi_Ro_3, gi_Ro_4, gi_Ro_5, gi_Pa_1, gi_Pa_2, gi_Te_2, gi_Bo_2, gi_Ia_1, gi_Ia_2, gi_Ib_1, gi_Ib_2, gi_Mo_1, gi_Mo_2, gi_Mo_3, gi_Mo_4, gi_Mo_5, gi_Mo_6, gi_Mo_13, gl_Mo_14, gi_Mo_19, gi_Mo_21, gi_Mo_22, gi_Mo_23, gi_Mo_24, gi_Mo_25, gi_Mo_26, gi_Mo_27, gi_Mo_30, gi_Mo_31, gi_Ra_7, gi_Ra_8, gi_Ra_9, gi_Ra_10, gi_Rb_7, gi_Rb_8, gi_Rb_9, gi_Rb_10, h9, if_pos (nI_le (show m ≤ i by omega) (by omega))]
    · rw [if_neg (by omega)]
  | succ d ih =>
    intro i f σ hi hf h9
    obtain ⟨f, rfl⟩ : ∃ f', f = f' + 1 := ⟨f - 1, by omega⟩
    have l1 : 30 + i < 51 := by omega
    have l2 : 36 + i < 51 := by omega
    have i1 : (30 : Int32) + nI i = nI (30 + i) := nI_add 30 i
    have i2 : (36 : Int32) + nI i = nI (36 + i) := nI_add 36 i
    obtain ⟨σ', g1, g2, g3⟩ := ih (i + 1) f (uA σ 308 (upd (upd (σ 308) (30 + i) 0) (36 + i) 0)) (by omega) (by omega) (by rw [uA_n (by omega)]; exact h9)
    have hng : ¬ nI m ≤ nI i := nI_ge (by omega) (by omega)
    refine ⟨σ', ?_, fun a h1 => ?_, fun j => ?_⟩
    · show F_X13_ends_L2 (f_X13_ends_L2 f) 302 (nI i) (enc sw σ ς) = _
      simp only [F_X13_ends_L2, if_true, ite_true, reduceIte, Option.bind_some, Option.bind_none, bT1_some, io_LD, io_Rd, io_Mt, io_Nt, io_Pl, io_Ro, io_Pa, io_Te, io_Bo, io_Ia, io_Ib, io_Mo, io_Ra, io_Rb, gr_LD_0, gr_LD_1, gr_LD_2, gr_LD_3, gr_LD_4, gr_LD_5, gr_LD_6, gr_LD_7, gr_LD_8, gr_Rd_0, gr_Mt_0, gr_Mt_1, gr_Nt_0, gr_Nt_1, gr_Nt_2, gr_Nt_3, gr_Nt_4, gr_Nt_5, gr_Nt_6, gr_Pl_0, gr_Pl_1, gr_Ro_0, gr_Ro_1, gr_Ro_2, gr_Pa_0, gr_Te_0, gr_Te_1, gr_Bo_0, gr_Bo_1, gr_Ia_0, gr_Ib_0, gr_Mo_0, gr_Mo_7, gr_Mo_8, gr_Mo_9, gr_Mo_10, gr_Mo_11, gr_Mo_12, gr_Mo_15, gr_Mo_16, gr_Mo_17, gr_Mo_18, gr_Mo_20, gr_Mo_28, gr_Mo_29, gr_Mo_32, gr_Mo_33, gr_Mo_34, gr_Mo_35, gr_Mo_36, gr_Mo_37, gr_Ra_0, gr_Ra_1, gr_Ra_2, gr_Ra_3, gr_Ra_4, gr_Ra_5, gr_Ra_6, gr_Rb_0, gr_Rb_1, gr_Rb_2, gr_Rb_3, gr_Rb_4, gr_Rb_5, gr_Rb_6, gi_LD_9, gi_Rd_1, gi_Rd_2, gi_Rd_3, gi_Rd_4, gi_Nt_7, gi_Nt_8, gi_Nt_9, gi_Nt_10, gi_Pl_2, gi_Pl_3, gi_Ro_3, gi_Ro_4, gi_Ro_5, gi_Pa_1, gi_Pa_2, gi_Te_2, gi_Bo_2, gi_Ia_1, gi_Ia_2, gi_Ib_1, gi_Ib_2, gi_Mo_1, gi_Mo_2, gi_Mo_3, gi_Mo_4, gi_Mo_5, gi_Mo_6, gi_Mo_13, gl_Mo_14, gi_Mo_19, gi_Mo_21, gi_Mo_22, gi_Mo_23, gi_Mo_24, gi_Mo_25, gi_Mo_26, gi_Mo_27, gi_Mo_30, gi_Mo_31, gi_Ra_7, gi_Ra_8, gi_Ra_9, gi_Ra_10, gi_Rb_7, gi_Rb_8, gi_Rb_9, gi_Rb_10, h9, hng, if_false, i1, i2, aw_308 l1, aw_308 l2, uA_uA, uA_s, nI_1]
      exact g1
    · rw [g2 a h1, uA_n h1]
    · rw [g3 j, uA_s]
      by_cases z : (30 + (i + 1) ≤ j ∧ j < 30 + m) ∨ (36 + (i + 1) ≤ j ∧ j < 36 + m)
      · rw [if_pos z, if_pos (by omega)]
      · rw [if_neg z]
        by_cases z2 : j = 36 + i
        · subst z2; rw [pk_us, if_pos (by omega)]
        · rw [pk_un z2]
          by_cases z3 : j = 30 + i
          · subst z3; rw [pk_us, if_pos (by omega)]
          · rw [pk_un z3, if_neg (by omega)]
theorem ends_L49 {n D ev : Nat} {V : Nat → Int32} (hn6 : n ≤ 6) (hev : ev ≤ 20000) (y : Bool) (hy : y = decide (ev % 4 = 0)) (hV : ∀ s, s < n → (V s = nI (nV V s) ∧ nV V s ≤ 99) ∧ (V (6 + s) = nI (nV V (6 + s)) ∧ nV V (6 + s) ≤ 198)) : ∀ (d i f w : Nat) (σ : Sg), i + d = n → d < f → σ 302 5 = nI n → σ 302 4 = nI D → σ 308 50 = nI ev → σ 308 49 = nI w → w < 64 → (∀ s, i ≤ s → s < n → σ 308 s = V s ∧ σ 308 (6 + s) = V (6 + s)) →
    ∃ σ', f_X13_ends_L49 f 302 (nI i) (enc sw σ ς) = some (enc sw σ' ς) ∧ (∀ a, a ≠ 308 → σ' a = σ a) ∧ (∀ j, σ' 308 j = if 12 + i ≤ j ∧ j < 12 + n then σ 305 (j - 12) else if 18 + i ≤ j ∧ j < 18 + n then nI D else if i ≤ j ∧ j < n then zAge y V j else if j = 49 then nI (oldR y V w i d) else σ 308 j) := by
  intro d
  induction d with
  | zero =>
    intro i f w σ hi hf h5 h4 h50 h49 hw hs
    obtain ⟨f, rfl⟩ : ∃ f', f = f' + 1 := ⟨f - 1, by omega⟩
    refine ⟨σ, ?_, fun _ _ => rfl, fun j => ?_⟩
    · show F_X13_ends_L49 (f_X13_ends_L49 f) 302 (nI i) (enc sw σ ς) = _
      simp only [F_X13_ends_L49, if_true, ite_true, reduceIte, Option.bind_some, Option.bind_none, bT1_some, io_LD, io_Rd, io_Mt, io_Nt, io_Pl, io_Ro, io_Pa, io_Te, io_Bo, io_Ia, io_Ib, io_Mo, io_Ra, io_Rb, gr_LD_0, gr_LD_1, gr_LD_2, gr_LD_3, gr_LD_4, gr_LD_5, gr_LD_6, gr_LD_7, gr_LD_8, gr_Rd_0, gr_Mt_0, gr_Mt_1, gr_Nt_0, gr_Nt_1, gr_Nt_2, gr_Nt_3, gr_Nt_4, gr_Nt_5, gr_Nt_6, gr_Pl_0, gr_Pl_1, gr_Ro_0, gr_Ro_1, gr_Ro_2, gr_Pa_0, gr_Te_0, gr_Te_1, gr_Bo_0, gr_Bo_1, gr_Ia_0, gr_Ib_0, gr_Mo_0, gr_Mo_7, gr_Mo_8, gr_Mo_9, gr_Mo_10, gr_Mo_11, gr_Mo_12, gr_Mo_15, gr_Mo_16, gr_Mo_17, gr_Mo_18, gr_Mo_20, gr_Mo_28, gr_Mo_29, gr_Mo_32, gr_Mo_33, gr_Mo_34, gr_Mo_35, gr_Mo_36, gr_Mo_37, gr_Ra_0, gr_Ra_1, gr_Ra_2, gr_Ra_3, gr_Ra_4, gr_Ra_5, gr_Ra_6, gr_Rb_0, gr_Rb_1, gr_Rb_2, gr_Rb_3, gr_Rb_4, gr_Rb_5, gr_Rb_6, gi_LD_9, gi_Rd_1, gi_Rd_2, gi_Rd_3, gi_Rd_4, gi_Nt_7, gi_Nt_8, gi_Nt_9, gi_Nt_10, gi_Pl_2, gi_Pl_3, gi_Ro_3, gi_Ro_4, gi_Ro_5, gi_Pa_1, gi_Pa_2, gi_Te_2, gi_Bo_2, gi_Ia_1, gi_Ia_2, gi_Ib_1, gi_Ib_2, gi_Mo_1, gi_Mo_2, gi_Mo_3, gi_Mo_4, gi_Mo_5, gi_Mo_6, gi_Mo_13, gl_Mo_14, gi_Mo_19, gi_Mo_21, gi_Mo_22, gi_Mo_23, gi_Mo_24, gi_Mo_25, gi_Mo_26, gi_Mo_27, gi_Mo_30, gi_Mo_31, gi_Ra_7, gi_Ra_8, gi_Ra_9, gi_Ra_10, gi_Rb_7, gi_Rb_8, gi_Rb_9, gi_Rb_10, h5, if_pos (nI_le (show n ≤ i by omega) (by omega))]
    · rw [if_neg (by omega), if_neg (by omega), if_neg (by omega)]
      by_cases z : j = 49
      · subst z; rw [if_pos rfl, h49]; rfl
      · rw [if_neg z]
  | succ d ih =>
    intro i f w σ hi hf h5 h4 h50 h49 hw hs
    obtain ⟨f, rfl⟩ : ∃ f', f = f' + 1 := ⟨f - 1, by omega⟩
    have l0 : i < 6 := by omega
    have l1 : i < 51 := by omega
    have l6 : 6 + i < 51 := by omega
    have l12 : 12 + i < 51 := by omega
    have l18 : 18 + i < 51 := by omega
    have l49 : 49 < 51 := by omega
    have l50 : 50 < 51 := by omega
    have i0 : (0 : Int32) + nI i = nI i := by rw [show (0 : Int32) = nI 0 from rfl, nI_add, Nat.zero_add]
    have i6 : (6 : Int32) + nI i = nI (6 + i) := nI_add 6 i
    have i12 : (12 : Int32) + nI i = nI (12 + i) := nI_add 12 i
    have i18 : (18 : Int32) + nI i = nI (18 + i) := nI_add 18 i
    have i49 : (49 : Int32) = nI 49 := rfl
    have i50 : (50 : Int32) = nI 50 := rfl
    have hng : ¬ nI n ≤ nI i := nI_ge (by omega) (by omega)
    have hn3 : 302 ≠ 308 := by omega
    obtain ⟨⟨va, va9⟩, ⟨vd, vd9⟩⟩ := hV i (by omega)
    obtain ⟨s5, s6⟩ := hs i (by omega) (by omega)
    rw [va] at s5
    rw [vd] at s6
    have hmod : nI ev - nI ev / (4 : Int32) * (4 : Int32) = nI (ev % 4) := pk_rem (d := 4) (by omega) (by omega) (by omega)
    have fin : ∀ (W : Nat → Int32) (w' : Nat), w' < 64 → (∀ j, j ≠ i → j ≠ 12 + i → j ≠ 18 + i → j ≠ 49 → W j = σ 308 j) → W i = zAge y V i → W (12 + i) = σ 305 i → W (18 + i) = nI D → W 49 = nI w' → w' = (if y = true ∧ nV V i = 49 ∧ 0 < nV V (6 + i) then w ||| 2 ^ i else w) →
        ∃ σ', f_X13_ends_L49 f 302 (nI (i + 1)) (enc sw (uA σ 308 W) ς) = some (enc sw σ' ς) ∧ (∀ a, a ≠ 308 → σ' a = σ a) ∧ (∀ j, σ' 308 j = if 12 + i ≤ j ∧ j < 12 + n then σ 305 (j - 12) else if 18 + i ≤ j ∧ j < 18 + n then nI D else if i ≤ j ∧ j < n then zAge y V j else if j = 49 then nI (oldR y V w i (d + 1)) else σ 308 j) := by
      intro W w' hw' hW hW0 hW12 hW18 hW49 e
      obtain ⟨σ', g1, g2, g3⟩ := ih (i + 1) f w' (uA σ 308 W) (by omega) (by omega) (by rw [uA_n (by omega)]; exact h5) (by rw [uA_n (by omega)]; exact h4) (by rw [uA_s, hW 50 (by omega) (by omega) (by omega) (by omega)]; exact h50) (by rw [uA_s]; exact hW49) hw'
        (fun s z1 z2 => by rw [uA_s, hW s (by omega) (by omega) (by omega) (by omega), hW (6 + s) (by omega) (by omega) (by omega) (by omega)]; exact hs s (by omega) z2)
      refine ⟨σ', g1, fun a z1 => ?_, fun j => ?_⟩
      · rw [g2 a z1, uA_n z1]
      · rw [g3 j, uA_s, uA_n (by omega)]
        have hold : oldR y V w' (i + 1) d = oldR y V w i (d + 1) := by rw [e]; rfl
        rw [hold]
        by_cases z1 : 12 + (i + 1) ≤ j ∧ j < 12 + n
        · rw [if_pos z1, if_pos (by omega)]
        · rw [if_neg z1]
          by_cases z2 : j = 12 + i
          · rw [if_neg (by omega), if_neg (by omega), if_neg (by omega), if_pos (by omega), z2, show 12 + i - 12 = i by omega, hW12]
          · rw [if_neg (show ¬ (12 + i ≤ j ∧ j < 12 + n) by omega)]
            by_cases z3 : 18 + (i + 1) ≤ j ∧ j < 18 + n
            · rw [if_pos z3, if_pos (by omega)]
            · rw [if_neg z3]
              by_cases z4 : j = 18 + i
              · rw [if_neg (by omega), if_neg (by omega), if_pos (by omega), z4, hW18]
              · rw [if_neg (show ¬ (18 + i ≤ j ∧ j < 18 + n) by omega)]
                by_cases z5 : i + 1 ≤ j ∧ j < n
                · rw [if_pos z5, if_pos (by omega)]
                · rw [if_neg z5]
                  by_cases z6 : j = i
                  · rw [if_neg (by omega), if_pos (by omega), z6, hW0]
                  · rw [if_neg (show ¬ (i ≤ j ∧ j < n) by omega)]
                    by_cases z7 : j = 49
                    · rw [if_pos z7, if_pos z7]
                    · rw [if_neg z7, if_neg z7, hW j z6 z2 z4 z7]
    have ne12 : 12 + i ≠ 18 + i := by omega
    have e50 : ∀ x z, upd (upd (σ 308) (12 + i) x) (18 + i) z 50 = nI ev := fun x z => by rw [pk_un (by omega), pk_un (by omega)]; exact h50
    have e0 : ∀ x z, upd (upd (σ 308) (12 + i) x) (18 + i) z i = nI (nV V i) := fun x z => by rw [pk_un (by omega), pk_un (by omega)]; exact s5
    have e6 : ∀ x z t, upd (upd (upd (σ 308) (12 + i) x) (18 + i) z) i t (6 + i) = nI (nV V (6 + i)) := fun x z t => by rw [pk_un (by omega), pk_un (by omega), pk_un (by omega)]; exact s6
    have e49 : ∀ x z t, upd (upd (upd (σ 308) (12 + i) x) (18 + i) z) i t 49 = nI w := fun x z t => by rw [pk_un (by omega), pk_un (by omega), pk_un (by omega)]; exact h49
    by_cases hyr : ev % 4 = 0
    · have hy1 : y = true := by rw [hy]; exact decide_eq_true hyr
      have t0 : (nI (ev % 4) = 0) = True := eq_true (by rw [hyr]; rfl)
      by_cases h99 : nV V i = 99
      · have t1 : ((99 : Int32) ≤ nI (nV V i)) = True := eq_true (by rw [h99]; decide)
        obtain ⟨σ', g1, g2⟩ := fin (upd (upd (σ 308) (12 + i) (σ 305 i)) (18 + i) (nI D)) w hw (fun j z1 z2 z3 z4 => by rw [pk_un z3, pk_un z2]) (by rw [e0]; unfold zAge; rw [if_pos hy1, h99]; rfl) (by rw [pk_un (by omega), pk_us]) pk_us (by rw [pk_un (by omega), pk_un (by omega)]; exact h49) (by rw [if_neg (by omega)])
        refine ⟨σ', ?_, g2⟩
        show F_X13_ends_L49 (f_X13_ends_L49 f) 302 (nI i) (enc sw σ ς) = _
        simp only [F_X13_ends_L49, if_true, ite_true, reduceIte, Option.bind_some, Option.bind_none, bT1_some, io_LD, io_Rd, io_Mt, io_Nt, io_Pl, io_Ro, io_Pa, io_Te, io_Bo, io_Ia, io_Ib, io_Mo, io_Ra, io_Rb, gr_LD_0, gr_LD_1, gr_LD_2, gr_LD_3, gr_LD_4, gr_LD_5, gr_LD_6, gr_LD_7, gr_LD_8, gr_Rd_0, gr_Mt_0, gr_Mt_1, gr_Nt_0, gr_Nt_1, gr_Nt_2, gr_Nt_3, gr_Nt_4, gr_Nt_5, gr_Nt_6, gr_Pl_0, gr_Pl_1, gr_Ro_0, gr_Ro_1, gr_Ro_2, gr_Pa_0, gr_Te_0, gr_Te_1, gr_Bo_0, gr_Bo_1, gr_Ia_0, gr_Ib_0, gr_Mo_0, gr_Mo_7, gr_Mo_8, gr_Mo_9, gr_Mo_10, gr_Mo_11, gr_Mo_12, gr_Mo_15, gr_Mo_16, gr_Mo_17, gr_Mo_18, gr_Mo_20, gr_Mo_28, gr_Mo_29, gr_Mo_32, gr_Mo_33, gr_Mo_34, gr_Mo_35, gr_Mo_36, gr_Mo_37, gr_Ra_0, gr_Ra_1, gr_Ra_2, gr_Ra_3, gr_Ra_4, gr_Ra_5, gr_Ra_6, gr_Rb_0, gr_Rb_1, gr_Rb_2, gr_Rb_3, gr_Rb_4, gr_Rb_5, gr_Rb_6, gi_LD_9, gi_Rd_1, gi_Rd_2, gi_Rd_3, gi_Rd_4, gi_Nt_7, gi_Nt_8, gi_Nt_9, gi_Nt_10, gi_Pl_2, gi_Pl_3, gi_Ro_3, gi_Ro_4, gi_Ro_5, gi_Pa_1, gi_Pa_2, gi_Te_2, gi_Bo_2, gi_Ia_1, gi_Ia_2, gi_Ib_1, gi_Ib_2, gi_Mo_1, gi_Mo_2, gi_Mo_3, gi_Mo_4, gi_Mo_5, gi_Mo_6, gi_Mo_13, gl_Mo_14, gi_Mo_19, gi_Mo_21, gi_Mo_22, gi_Mo_23, gi_Mo_24, gi_Mo_25, gi_Mo_26, gi_Mo_27, gi_Mo_30, gi_Mo_31, gi_Ra_7, gi_Ra_8, gi_Ra_9, gi_Ra_10, gi_Rb_7, gi_Rb_8, gi_Rb_9, gi_Rb_10, h5, hng, if_false, ai_305 l0, i12, aw_308 l12, uA_n hn3, h4, i18, aw_308 l18, uA_s, uA_uA, i50, ai_308 l50, e50, hmod, t0, i0, ai_308 l1, e0, t1, nI_1]
        exact g1
      · have t1 : ((99 : Int32) ≤ nI (nV V i)) = False := eq_false (nI_ge (b := 99) (by omega) (by omega))
        have hz : zAge y V i = nI (nV V i + 1) := by unfold zAge; rw [if_pos hy1, show min 99 (nV V i + 1) = nV V i + 1 by omega]
        by_cases hage : nV V i = 49
        · have h50' : (nI (nV V i + 1) = nI 50) = True := eq_true (by rw [hage])
          by_cases hd : 0 < nV V (6 + i)
          · have t2 : (nI (nV V (6 + i)) ≤ 0) = False := eq_false (nI_nle hd (by omega))
            obtain ⟨σ', g1, g2⟩ := fin (upd (upd (upd (upd (σ 308) (12 + i) (σ 305 i)) (18 + i) (nI D)) i (nI (nV V i + 1))) 49 (nI (w ||| 2 ^ i))) (w ||| 2 ^ i) (or_lt hw l0) (fun j z1 z2 z3 z4 => by rw [pk_un z4, pk_un z1, pk_un z3, pk_un z2]) (by rw [pk_un (by omega), pk_us, hz]) (by rw [pk_un (by omega), pk_un (by omega), pk_un (by omega), pk_us]) (by rw [pk_un (by omega), pk_un (by omega), pk_us]) pk_us (by rw [if_pos ⟨hy1, hage, hd⟩])
            refine ⟨σ', ?_, g2⟩
            show F_X13_ends_L49 (f_X13_ends_L49 f) 302 (nI i) (enc sw σ ς) = _
            simp only [F_X13_ends_L49, if_true, ite_true, reduceIte, Option.bind_some, Option.bind_none, bT1_some, io_LD, io_Rd, io_Mt, io_Nt, io_Pl, io_Ro, io_Pa, io_Te, io_Bo, io_Ia, io_Ib, io_Mo, io_Ra, io_Rb, gr_LD_0, gr_LD_1, gr_LD_2, gr_LD_3, gr_LD_4, gr_LD_5, gr_LD_6, gr_LD_7, gr_LD_8, gr_Rd_0, gr_Mt_0, gr_Mt_1, gr_Nt_0, gr_Nt_1, gr_Nt_2, gr_Nt_3, gr_Nt_4, gr_Nt_5, gr_Nt_6, gr_Pl_0, gr_Pl_1, gr_Ro_0, gr_Ro_1, gr_Ro_2, gr_Pa_0, gr_Te_0, gr_Te_1, gr_Bo_0, gr_Bo_1, gr_Ia_0, gr_Ib_0, gr_Mo_0, gr_Mo_7, gr_Mo_8, gr_Mo_9, gr_Mo_10, gr_Mo_11, gr_Mo_12, gr_Mo_15, gr_Mo_16, gr_Mo_17, gr_Mo_18, gr_Mo_20, gr_Mo_28, gr_Mo_29, gr_Mo_32, gr_Mo_33, gr_Mo_34, gr_Mo_35, gr_Mo_36, gr_Mo_37, gr_Ra_0, gr_Ra_1, gr_Ra_2, gr_Ra_3, gr_Ra_4, gr_Ra_5, gr_Ra_6, gr_Rb_0, gr_Rb_1, gr_Rb_2, gr_Rb_3, gr_Rb_4, gr_Rb_5, gr_Rb_6, gi_LD_9, gi_Rd_1, gi_Rd_2, gi_Rd_3, gi_Rd_4, gi_Nt_7, gi_Nt_8, gi_Nt_9, gi_Nt_10, gi_Pl_2, gi_Pl_3, gi_Ro_3, gi_Ro_4, gi_Ro_5, gi_Pa_1, gi_Pa_2, gi_Te_2, gi_Bo_2, gi_Ia_1, gi_Ia_2, gi_Ib_1, gi_Ib_2, gi_Mo_1, gi_Mo_2, gi_Mo_3, gi_Mo_4, gi_Mo_5, gi_Mo_6, gi_Mo_13, gl_Mo_14, gi_Mo_19, gi_Mo_21, gi_Mo_22, gi_Mo_23, gi_Mo_24, gi_Mo_25, gi_Mo_26, gi_Mo_27, gi_Mo_30, gi_Mo_31, gi_Ra_7, gi_Ra_8, gi_Ra_9, gi_Ra_10, gi_Rb_7, gi_Rb_8, gi_Rb_9, gi_Rb_10, h5, hng, if_false, ai_305 l0, i12, aw_308 l12, uA_n hn3, h4, i18, aw_308 l18, uA_s, uA_uA, i50, ai_308 l50, e50, hmod, t0, i0, ai_308 l1, e0, t1, nI_1, aw_308 l1, pk_us, h50', i6, ai_308 l6, e6, t2, i49, ai_308 l49, e49, or_ok w hw i l0, aw_308 l49]
            exact g1
          · have t2 : (nI (nV V (6 + i)) ≤ 0) = True := eq_true (by rw [show nV V (6 + i) = 0 by omega]; decide)
            obtain ⟨σ', g1, g2⟩ := fin (upd (upd (upd (σ 308) (12 + i) (σ 305 i)) (18 + i) (nI D)) i (nI (nV V i + 1))) w hw (fun j z1 z2 z3 z4 => by rw [pk_un z1, pk_un z3, pk_un z2]) (by rw [pk_us, hz]) (by rw [pk_un (by omega), pk_un (by omega), pk_us]) (by rw [pk_un (by omega), pk_us]) (e49 _ _ _) (by rw [if_neg (fun z => hd z.2.2)])
            refine ⟨σ', ?_, g2⟩
            show F_X13_ends_L49 (f_X13_ends_L49 f) 302 (nI i) (enc sw σ ς) = _
            simp only [F_X13_ends_L49, if_true, ite_true, reduceIte, Option.bind_some, Option.bind_none, bT1_some, io_LD, io_Rd, io_Mt, io_Nt, io_Pl, io_Ro, io_Pa, io_Te, io_Bo, io_Ia, io_Ib, io_Mo, io_Ra, io_Rb, gr_LD_0, gr_LD_1, gr_LD_2, gr_LD_3, gr_LD_4, gr_LD_5, gr_LD_6, gr_LD_7, gr_LD_8, gr_Rd_0, gr_Mt_0, gr_Mt_1, gr_Nt_0, gr_Nt_1, gr_Nt_2, gr_Nt_3, gr_Nt_4, gr_Nt_5, gr_Nt_6, gr_Pl_0, gr_Pl_1, gr_Ro_0, gr_Ro_1, gr_Ro_2, gr_Pa_0, gr_Te_0, gr_Te_1, gr_Bo_0, gr_Bo_1, gr_Ia_0, gr_Ib_0, gr_Mo_0, gr_Mo_7, gr_Mo_8, gr_Mo_9, gr_Mo_10, gr_Mo_11, gr_Mo_12, gr_Mo_15, gr_Mo_16, gr_Mo_17, gr_Mo_18, gr_Mo_20, gr_Mo_28, gr_Mo_29, gr_Mo_32, gr_Mo_33, gr_Mo_34, gr_Mo_35, gr_Mo_36, gr_Mo_37, gr_Ra_0, gr_Ra_1, gr_Ra_2, gr_Ra_3, gr_Ra_4, gr_Ra_5, gr_Ra_6, gr_Rb_0, gr_Rb_1, gr_Rb_2, gr_Rb_3, gr_Rb_4, gr_Rb_5, gr_Rb_6, gi_LD_9, gi_Rd_1, gi_Rd_2, gi_Rd_3, gi_Rd_4, gi_Nt_7, gi_Nt_8, gi_Nt_9, gi_Nt_10, gi_Pl_2, gi_Pl_3, gi_Ro_3, gi_Ro_4, gi_Ro_5, gi_Pa_1, gi_Pa_2, gi_Te_2, gi_Bo_2, gi_Ia_1, gi_Ia_2, gi_Ib_1, gi_Ib_2, gi_Mo_1, gi_Mo_2, gi_Mo_3, gi_Mo_4, gi_Mo_5, gi_Mo_6, gi_Mo_13, gl_Mo_14, gi_Mo_19, gi_Mo_21, gi_Mo_22, gi_Mo_23, gi_Mo_24, gi_Mo_25, gi_Mo_26, gi_Mo_27, gi_Mo_30, gi_Mo_31, gi_Ra_7, gi_Ra_8, gi_Ra_9, gi_Ra_10, gi_Rb_7, gi_Rb_8, gi_Rb_9, gi_Rb_10, h5, hng, if_false, ai_305 l0, i12, aw_308 l12, uA_n hn3, h4, i18, aw_308 l18, uA_s, uA_uA, i50, ai_308 l50, e50, hmod, t0, i0, ai_308 l1, e0, t1, nI_1, aw_308 l1, pk_us, h50', i6, ai_308 l6, e6, t2]
            exact g1
        · have h50' : (nI (nV V i + 1) = nI 50) = False := eq_false (fun z => hage (by have := (nI_eq (by omega) (by omega)).mp z; omega))
          obtain ⟨σ', g1, g2⟩ := fin (upd (upd (upd (σ 308) (12 + i) (σ 305 i)) (18 + i) (nI D)) i (nI (nV V i + 1))) w hw (fun j z1 z2 z3 z4 => by rw [pk_un z1, pk_un z3, pk_un z2]) (by rw [pk_us, hz]) (by rw [pk_un (by omega), pk_un (by omega), pk_us]) (by rw [pk_un (by omega), pk_us]) (e49 _ _ _) (by rw [if_neg (fun z => hage z.2.1)])
          refine ⟨σ', ?_, g2⟩
          show F_X13_ends_L49 (f_X13_ends_L49 f) 302 (nI i) (enc sw σ ς) = _
          simp only [F_X13_ends_L49, if_true, ite_true, reduceIte, Option.bind_some, Option.bind_none, bT1_some, io_LD, io_Rd, io_Mt, io_Nt, io_Pl, io_Ro, io_Pa, io_Te, io_Bo, io_Ia, io_Ib, io_Mo, io_Ra, io_Rb, gr_LD_0, gr_LD_1, gr_LD_2, gr_LD_3, gr_LD_4, gr_LD_5, gr_LD_6, gr_LD_7, gr_LD_8, gr_Rd_0, gr_Mt_0, gr_Mt_1, gr_Nt_0, gr_Nt_1, gr_Nt_2, gr_Nt_3, gr_Nt_4, gr_Nt_5, gr_Nt_6, gr_Pl_0, gr_Pl_1, gr_Ro_0, gr_Ro_1, gr_Ro_2, gr_Pa_0, gr_Te_0, gr_Te_1, gr_Bo_0, gr_Bo_1, gr_Ia_0, gr_Ib_0, gr_Mo_0, gr_Mo_7, gr_Mo_8, gr_Mo_9, gr_Mo_10, gr_Mo_11, gr_Mo_12, gr_Mo_15, gr_Mo_16, gr_Mo_17, gr_Mo_18, gr_Mo_20, gr_Mo_28, gr_Mo_29, gr_Mo_32, gr_Mo_33, gr_Mo_34, gr_Mo_35, gr_Mo_36, gr_Mo_37, gr_Ra_0, gr_Ra_1, gr_Ra_2, gr_Ra_3, gr_Ra_4, gr_Ra_5, gr_Ra_6, gr_Rb_0, gr_Rb_1, gr_Rb_2, gr_Rb_3, gr_Rb_4, gr_Rb_5, gr_Rb_6, gi_LD_9, gi_Rd_1, gi_Rd_2, gi_Rd_3, gi_Rd_4, gi_Nt_7, gi_Nt_8, gi_Nt_9, gi_Nt_10, gi_Pl_2, gi_Pl_3, gi_Ro_3, gi_Ro_4, gi_Ro_5, gi_Pa_1, gi_Pa_2, gi_Te_2, gi_Bo_2, gi_Ia_1, gi_Ia_2, gi_Ib_1, gi_Ib_2, gi_Mo_1, gi_Mo_2, gi_Mo_3, gi_Mo_4, gi_Mo_5, gi_Mo_6, gi_Mo_13, gl_Mo_14, gi_Mo_19, gi_Mo_21, gi_Mo_22, gi_Mo_23, gi_Mo_24, gi_Mo_25, gi_Mo_26, gi_Mo_27, gi_Mo_30, gi_Mo_31, gi_Ra_7, gi_Ra_8, gi_Ra_9, gi_Ra_10, gi_Rb_7, gi_Rb_8, gi_Rb_9, gi_Rb_10, h5, hng, if_false, ai_305 l0, i12, aw_308 l12, uA_n hn3, h4, i18, aw_308 l18, uA_s, uA_uA, i50, ai_308 l50, e50, hmod, t0, i0, ai_308 l1, e0, t1, nI_1, aw_308 l1, pk_us, h50']
          exact g1
    · have hy1 : ¬ y = true := by rw [hy, decide_eq_true_eq]; exact hyr
      have t0 : (nI (ev % 4) = 0) = False := eq_false (nI_ne0 (by omega) (by omega))
      obtain ⟨σ', g1, g2⟩ := fin (upd (upd (σ 308) (12 + i) (σ 305 i)) (18 + i) (nI D)) w hw (fun j z1 z2 z3 z4 => by rw [pk_un z3, pk_un z2]) (by rw [e0]; unfold zAge; rw [if_neg hy1]; exact va.symm) (by rw [pk_un (by omega), pk_us]) pk_us (by rw [pk_un (by omega), pk_un (by omega)]; exact h49) (by rw [if_neg (fun z => hy1 z.1)])
      refine ⟨σ', ?_, g2⟩
      show F_X13_ends_L49 (f_X13_ends_L49 f) 302 (nI i) (enc sw σ ς) = _
      simp only [F_X13_ends_L49, if_true, ite_true, reduceIte, Option.bind_some, Option.bind_none, bT1_some, io_LD, io_Rd, io_Mt, io_Nt, io_Pl, io_Ro, io_Pa, io_Te, io_Bo, io_Ia, io_Ib, io_Mo, io_Ra, io_Rb, gr_LD_0, gr_LD_1, gr_LD_2, gr_LD_3, gr_LD_4, gr_LD_5, gr_LD_6, gr_LD_7, gr_LD_8, gr_Rd_0, gr_Mt_0, gr_Mt_1, gr_Nt_0, gr_Nt_1, gr_Nt_2, gr_Nt_3, gr_Nt_4, gr_Nt_5, gr_Nt_6, gr_Pl_0, gr_Pl_1, gr_Ro_0, gr_Ro_1, gr_Ro_2, gr_Pa_0, gr_Te_0, gr_Te_1, gr_Bo_0, gr_Bo_1, gr_Ia_0, gr_Ib_0, gr_Mo_0, gr_Mo_7, gr_Mo_8, gr_Mo_9, gr_Mo_10, gr_Mo_11, gr_Mo_12, gr_Mo_15, gr_Mo_16, gr_Mo_17, gr_Mo_18, gr_Mo_20, gr_Mo_28, gr_Mo_29, gr_Mo_32, gr_Mo_33, gr_Mo_34, gr_Mo_35, gr_Mo_36, gr_Mo_37, gr_Ra_0, gr_Ra_1, gr_Ra_2, gr_Ra_3, gr_Ra_4, gr_Ra_5, gr_Ra_6, gr_Rb_0, gr_Rb_1, gr_Rb_2, gr_Rb_3, gr_Rb_4, gr_Rb_5, gr_Rb_6, gi_LD_9, gi_Rd_1, gi_Rd_2, gi_Rd_3, gi_Rd_4, gi_Nt_7, gi_Nt_8, gi_Nt_9, gi_Nt_10, gi_Pl_2, gi_Pl_3, gi_Ro_3, gi_Ro_4, gi_Ro_5, gi_Pa_1, gi_Pa_2, gi_Te_2, gi_Bo_2, gi_Ia_1, gi_Ia_2, gi_Ib_1, gi_Ib_2, gi_Mo_1, gi_Mo_2, gi_Mo_3, gi_Mo_4, gi_Mo_5, gi_Mo_6, gi_Mo_13, gl_Mo_14, gi_Mo_19, gi_Mo_21, gi_Mo_22, gi_Mo_23, gi_Mo_24, gi_Mo_25, gi_Mo_26, gi_Mo_27, gi_Mo_30, gi_Mo_31, gi_Ra_7, gi_Ra_8, gi_Ra_9, gi_Ra_10, gi_Rb_7, gi_Rb_8, gi_Rb_9, gi_Rb_10, h5, hng, if_false, ai_305 l0, i12, aw_308 l12, uA_n hn3, h4, i18, aw_308 l18, uA_s, uA_uA, i50, ai_308 l50, e50, hmod, t0, nI_1]
      exact g1
theorem ends_M {σ : Sg} {H D n m : Nat} (h : I_row (rA sw) σ H D n m) (hN : NB n m H (σ 306) (σ 307) (σ 308)) (he : nV (σ 308) 50 + 1 ≤ 20000) : f_X13_ends 302 (enc sw σ ς) = some (enc sw (uA σ 308 (tEnd (σ 308) (σ 305) D n m)) ς) := by
  obtain ⟨⟨r1, r2, r3, r4⟩, r5, r6, -, ⟨d1, d2, d3, d4⟩, r7, r8⟩ := id h
  have hev := hN.ev
  have hold := hN.old
  obtain ⟨σa, f1, oa, a1⟩ := ends_L2 (sw := sw) (ς := ς) r4 m 0 1000000 σ (by omega) (by omega) d4
  have f1' : f_X13_ends_L2 1000000 302 (0 : Int32) (enc sw σ ς) = some (enc sw σa ς) := f1
  have a50 : σa 308 50 = nI (nV (σ 308) 50) := by rw [a1, if_neg (by omega)]; exact hev.1
  have n3 : 302 ≠ 308 := by omega
  obtain ⟨σb, f2, ob, b1⟩ := ends_L49 (sw := sw) (ς := ς) (V := σ 308) (n := n) (D := D) (ev := nV (σ 308) 50 + 1) r3 he (zYr (σ 308)) rfl (fun s hs => ⟨hN.age hs, hN.debt hs⟩) n 0 1000000 (nV (σ 308) 49) (uA σa 308 (upd (σa 308) 50 (nI (nV (σ 308) 50 + 1)))) (by omega) (by omega) (by rw [uA_n n3, oa 302 n3]; exact d3) (by rw [uA_n n3, oa 302 n3]; exact d2) (by rw [uA_s, pk_us]) (by rw [uA_s, pk_un (by omega), a1, if_neg (by omega)]; exact hold.1) hold.2
    (fun s z1 z2 => by rw [uA_s, pk_un (by omega), pk_un (by omega), a1, if_neg (by omega), a1, if_neg (by omega)]; exact ⟨rfl, rfl⟩)
  have f2' : f_X13_ends_L49 1000000 302 (0 : Int32) (enc sw (uA σa 308 (upd (σa 308) 50 (nI (nV (σ 308) 50 + 1)))) ς) = some (enc sw σb ς) := f2
  have i50 : (50 : Int32) = nI 50 := rfl
  have l50 : 50 < 51 := by omega
  have hfin : σb = uA σ 308 (tEnd (σ 308) (σ 305) D n m) := by
    funext a
    by_cases ha : a = 308
    · subst ha
      rw [uA_s]
      funext j
      rw [b1 j, uA_n (by omega), oa 305 (by omega), uA_s]
      unfold tEnd
      by_cases z1 : 12 ≤ j ∧ j < 12 + n
      · rw [if_pos (by omega), if_pos z1]
      · rw [if_neg (by omega), if_neg z1]
        by_cases z2 : 18 ≤ j ∧ j < 18 + n
        · rw [if_pos (by omega), if_pos z2]
        · rw [if_neg (by omega), if_neg z2]
          by_cases z3 : j < n
          · rw [if_pos (by omega), if_pos z3]
          · rw [if_neg (by omega), if_neg z3]
            by_cases z4 : j = 49
            · rw [if_pos z4, if_pos z4]
            · rw [if_neg z4, if_neg z4]
              by_cases z5 : j = 50
              · rw [if_pos z5, z5, pk_us]
              · rw [if_neg z5, pk_un z5, a1]
                by_cases z6 : 30 ≤ j ∧ j < 30 + m
                · rw [if_pos (by omega), if_pos z6]
                · rw [if_neg z6]
                  by_cases z7 : 36 ≤ j ∧ j < 36 + m
                  · rw [if_pos (by omega), if_pos z7]
                  · rw [if_neg (by omega), if_neg z7]
    · rw [ob a ha, uA_n ha, oa a ha, uA_n ha]
  rw [← hfin]
  simp only [f_X13_ends, if_true, ite_true, reduceIte, Option.bind_some, Option.bind_none, bT1_some, io_LD, io_Rd, io_Mt, io_Nt, io_Pl, io_Ro, io_Pa, io_Te, io_Bo, io_Ia, io_Ib, io_Mo, io_Ra, io_Rb, gr_LD_0, gr_LD_1, gr_LD_2, gr_LD_3, gr_LD_4, gr_LD_5, gr_LD_6, gr_LD_7, gr_LD_8, gr_Rd_0, gr_Mt_0, gr_Mt_1, gr_Nt_0, gr_Nt_1, gr_Nt_2, gr_Nt_3, gr_Nt_4, gr_Nt_5, gr_Nt_6, gr_Pl_0, gr_Pl_1, gr_Ro_0, gr_Ro_1, gr_Ro_2, gr_Pa_0, gr_Te_0, gr_Te_1, gr_Bo_0, gr_Bo_1, gr_Ia_0, gr_Ib_0, gr_Mo_0, gr_Mo_7, gr_Mo_8, gr_Mo_9, gr_Mo_10, gr_Mo_11, gr_Mo_12, gr_Mo_15, gr_Mo_16, gr_Mo_17, gr_Mo_18, gr_Mo_20, gr_Mo_28, gr_Mo_29, gr_Mo_32, gr_Mo_33, gr_Mo_34, gr_Mo_35, gr_Mo_36, gr_Mo_37, gr_Ra_0, gr_Ra_1, gr_Ra_2, gr_Ra_3, gr_Ra_4, gr_Ra_5, gr_Ra_6, gr_Rb_0, gr_Rb_1, gr_Rb_2, gr_Rb_3, gr_Rb_4, gr_Rb_5, gr_Rb_6, gi_LD_9, gi_Rd_1, gi_Rd_2, gi_Rd_3, gi_Rd_4, gi_Nt_7, gi_Nt_8, gi_Nt_9, gi_Nt_10, gi_Pl_2, gi_Pl_3, gi_Ro_3, gi_Ro_4, gi_Ro_5, gi_Pa_1, gi_Pa_2, gi_Te_2, gi_Bo_2, gi_Ia_1, gi_Ia_2, gi_Ib_1, gi_Ib_2, gi_Mo_1, gi_Mo_2, gi_Mo_3, gi_Mo_4, gi_Mo_5, gi_Mo_6, gi_Mo_13, gl_Mo_14, gi_Mo_19, gi_Mo_21, gi_Mo_22, gi_Mo_23, gi_Mo_24, gi_Mo_25, gi_Mo_26, gi_Mo_27, gi_Mo_30, gi_Mo_31, gi_Ra_7, gi_Ra_8, gi_Ra_9, gi_Ra_10, gi_Rb_7, gi_Rb_8, gi_Rb_9, gi_Rb_10, f1', i50, ai_308 l50, a50, nI_1, aw_308 l50, f2']
end EM
