section LU
variable {sw : Bool} {σ : Sg} {ς : Lg} {V : Nat → Int32} {H D n m s c b : Nat}
theorem lull_C (h : CC sw σ V H D n m) (hs : s < n) (hc : c < m) (hmay : zMay V s c = true) :
    ∃ σ', f_X3_lull 3 (nI s) (nI c) (enc sw σ ς) = some (nI (zG V (σ 306) (σ 307) s c), enc sw σ' ς) ∧ CC sw σ' (tSing V (σ 306) (σ 307) (σ 304) (σ 305) s c) H D n m ∧ ∀ a, (a < 4 ∨ 12 ≤ a) → σ' a = σ a := by
  obtain ⟨⟨r1, r2, r3, r4⟩, -⟩ := id h.1
  have hs6 : s < 6 := by omega
  have hc6 : c < 6 := by omega
  obtain ⟨n1, n2, n3, n4, n5, n6⟩ := id h.2.1
  obtain ⟨w, w1, w2, w3⟩ := id n3
  have hw64 := two_le w1 r4
  have ev1 := (n1 s hs).2.1
  have ev4 := (n1 s hs).2.2.2
  have ec1 := (n2 c hc).2.1
  have ec2 := (n2 c hc).2.2
  have hN := h.2.2
  have hd := hN.debt hs
  have hl := hN.left hs
  have hx := hN.heard hc
  have hu := hN.sung hc
  have hlt := hN.late
  have hz := zN_le hN hc
  have hp := zPay_or V (σ 304) (σ 305) s c
  have hw0 : V (30 + c) = 0 := (of_decide_eq_true hmay).1
  have hg1 : zG V (σ 306) (σ 307) s c ≤ zN V (σ 306) (σ 307) c := Nat.min_le_left _ _
  have hg2 : zG V (σ 306) (σ 307) s c ≤ nV V (18 + s) := Nat.min_le_right _ _
  have hmin : (if nI (nV V (18 + s)) < nI (zN V (σ 306) (σ 307) c) then nI (nV V (18 + s)) else nI (zN V (σ 306) (σ 307) c)) = nI (zG V (σ 306) (σ 307) s c) := min_C (by omega) (by omega)
  have hsg := hN.sing (vo := σ 304) (ho := σ 305) hs hc r3 r4 r1 hw0
  have hgp : zG V (σ 306) (σ 307) s c * zPay V (σ 304) (σ 305) s c ≤ 60 := by rcases hp with e | e <;> rw [e] <;> omega
  have hrel := relu_C (a := nV V (6 + s)) (b := zG V (σ 306) (σ 307) s c * zPay V (σ 304) (σ 305) s c) (by omega) (by omega)
  have hmx : (if nI (nV V (42 + c) + 1) < (99 : Int32) then nI (nV V (42 + c) + 1) else (99 : Int32)) = nI (min 99 (nV V (42 + c) + 1)) := min_C (a := 99) (by omega) (by omega)
  have hml : (if nI (nV V 48 + 1) < (999 : Int32) then nI (nV V 48 + 1) else (999 : Int32)) = nI (min 999 (nV V 48 + 1)) := min_C (a := 999) (by omega) (by omega)
  have s1 : nI (nV V (18 + s)) - nI (zG V (σ 306) (σ 307) s c) = nI (nV V (18 + s) - zG V (σ 306) (σ 307) s c) := pk_sub hg2
  unfold tSing at hsg ⊢
  by_cases hq : zG V (σ 306) (σ 307) s c = zN V (σ 306) (σ 307) c
  · rw [if_pos hq] at hsg ⊢
    have hq1 : nI (zG V (σ 306) (σ 307) s c) = nI (zN V (σ 306) (σ 307) c) := by rw [hq]
    refine ⟨uA (uA (uA (uA (uA σ 6 (upd (σ 6) s (nI (nV V (6 + s) - zG V (σ 306) (σ 307) s c * zPay V (σ 304) (σ 305) s c)))) 8 (upd (σ 8) s (nI (nV V (18 + s) - zG V (σ 306) (σ 307) s c)))) 10 (upd (σ 10) c (nI (nV V (36 + c) + zG V (σ 306) (σ 307) s c)))) 4 (upd (σ 4) 7 (nI (if w.testBit c then w - 2 ^ c else w)))) 11 (upd (σ 11) c (nI (min 99 (nV V (42 + c) + 1)))), ?_, ⟨h.1.c ?_ ?_ ?_, ?_, ?_⟩, ?_⟩
    · simp only [f_X3_lull, if_true, ite_true, reduceIte, Option.bind_some, Option.bind_none, bT1_some, io_LD, io_Rd, io_Mt, io_Nt, io_Pl, io_Ro, io_Pa, io_Te, io_Bo, io_Ia, io_Ib, io_Mo, io_Ra, io_Rb, gr_LD_0, gr_LD_1, gr_LD_2, gr_LD_3, gr_LD_4, gr_LD_5, gr_LD_6, gr_LD_7, gr_LD_8, gr_Rd_0, gr_Mt_0, gr_Mt_1, gr_Nt_0, gr_Nt_1, gr_Nt_2, gr_Nt_3, gr_Nt_4, gr_Nt_5, gr_Nt_6, gr_Pl_0, gr_Pl_1, gr_Ro_0, gr_Ro_1, gr_Ro_2, gr_Pa_0, gr_Te_0, gr_Te_1, gr_Bo_0, gr_Bo_1, gr_Ia_0, gr_Ib_0, gr_Mo_0, gr_Mo_7, gr_Mo_8, gr_Mo_9, gr_Mo_10, gr_Mo_11, gr_Mo_12, gr_Mo_15, gr_Mo_16, gr_Mo_17, gr_Mo_18, gr_Mo_20, gr_Mo_28, gr_Mo_29, gr_Mo_32, gr_Mo_33, gr_Mo_34, gr_Mo_35, gr_Mo_36, gr_Mo_37, gr_Ra_0, gr_Ra_1, gr_Ra_2, gr_Ra_3, gr_Ra_4, gr_Ra_5, gr_Ra_6, gr_Rb_0, gr_Rb_1, gr_Rb_2, gr_Rb_3, gr_Rb_4, gr_Rb_5, gr_Rb_6, gi_LD_9, gi_Rd_1, gi_Rd_2, gi_Rd_3, gi_Rd_4, gi_Nt_7, gi_Nt_8, gi_Nt_9, gi_Nt_10, gi_Pl_2, gi_Pl_3, gi_Ro_3, gi_Ro_4, gi_Ro_5, gi_Pa_1, gi_Pa_2, gi_Te_2, gi_Bo_2, gi_Ia_1, gi_Ia_2, gi_Ib_1, gi_Ib_2, gi_Mo_1, gi_Mo_2, gi_Mo_3, gi_Mo_4, gi_Mo_5, gi_Mo_6, gi_Mo_13, gl_Mo_14, gi_Mo_19, gi_Mo_21, gi_Mo_22, gi_Mo_23, gi_Mo_24, gi_Mo_25, gi_Mo_26, gi_Mo_27, gi_Mo_30, gi_Mo_31, gi_Ra_7, gi_Ra_8, gi_Ra_9, gi_Ra_10, gi_Rb_7, gi_Rb_8, gi_Rb_9, gi_Rb_10, pf_LD_9, pf_Rd_1, pf_Rd_2, pf_Rd_3, pf_Rd_4, pf_Nt_7, pf_Nt_8, pf_Nt_9, pf_Nt_10, pf_Pl_2, pf_Pl_3, pf_Ro_3, pf_Ro_4, pf_Ro_5, pf_Pa_1, pf_Pa_2, pf_Te_2, pf_Bo_2, pf_Ia_1, pf_Ia_2, pf_Ib_1, pf_Ib_2, pf_Mo_1, pf_Mo_2, pf_Mo_3, pf_Mo_4, pf_Mo_5, pf_Mo_6, pf_Mo_13, pl_Mo_14, pf_Mo_19, pf_Mo_21, pf_Mo_22, pf_Mo_23, pf_Mo_24, pf_Mo_25, pf_Mo_26, pf_Mo_27, pf_Mo_30, pf_Mo_31, pf_Ra_7, pf_Ra_8, pf_Ra_9, pf_Ra_10, pf_Rb_7, pf_Rb_8, pf_Rb_9, pf_Rb_10, needs_C h hc, ai_8 hs6, ev4, hl.1, hmin, ai_6 hs6, ev1, hd.1, payTo_C h hs hc, pk_mul, hrel, aw_6 hs6, uA, upd, vp_updL, uL, reduceIte, Nat.reduceEqDiff, eq_self, s1, aw_8 hs6, ai_10 hc6, ec1, hx.1, nI_add, aw_10 hc6, eq_true hq1, w2, clr_ok w hw64 c hc6, ai_11 hc6, ec2, hu.1, nI_1, hmx, aw_11 hc6]
    · (intros; have hra := rA_or sw; first | rfl | (simp only [uA, upd, vp_updL, uL, reduceIte, Nat.reduceEqDiff, eq_self]; done) | (simp only [uA, upd, vp_updL, uL, reduceIte, Nat.reduceEqDiff, eq_self]; repeat rw [if_neg (by omega)]))
    · (intros; have hra := rA_or sw; first | rfl | (simp only [uA, upd, vp_updL, uL, reduceIte, Nat.reduceEqDiff, eq_self]; done) | (simp only [uA, upd, vp_updL, uL, reduceIte, Nat.reduceEqDiff, eq_self]; repeat rw [if_neg (by omega)]))
    · (intros; have hra := rA_or sw; first | rfl | (simp only [uA, upd, vp_updL, uL, reduceIte, Nat.reduceEqDiff, eq_self]; done) | (simp only [uA, upd, vp_updL, uL, reduceIte, Nat.reduceEqDiff, eq_self]; repeat rw [if_neg (by omega)]))
    · refine NR.intro (fun j hj => ?_) (fun j hj => ?_) (fun j hj => ?_) (fun j hj => ?_) (fun j hj => ?_) (fun j hj => ?_) (fun j hj => ?_) ?_ ?_ ?_ ?_
      · unfold tSong; simp only [uA, upd, vp_updL, uL, reduceIte, Nat.reduceEqDiff, eq_self]; (repeat rw [if_neg (by omega)]); exact (n1 j hj).1
      · unfold tSong; simp only [uA, upd, vp_updL, uL, reduceIte, Nat.reduceEqDiff, eq_self]
        by_cases e : j = s
        · rw [if_pos e, if_neg (by omega), if_neg (by omega), if_neg (by omega), if_neg (by omega), if_pos (by omega)]
        · rw [if_neg e]; (repeat rw [if_neg (by omega)]); exact (n1 j hj).2.1
      · unfold tSong; simp only [uA, upd, vp_updL, uL, reduceIte, Nat.reduceEqDiff, eq_self]; (repeat rw [if_neg (by omega)]); exact (n1 j hj).2.2.1
      · unfold tSong; simp only [uA, upd, vp_updL, uL, reduceIte, Nat.reduceEqDiff, eq_self]
        by_cases e : j = s
        · rw [if_pos e, if_neg (by omega), if_neg (by omega), if_neg (by omega), if_pos (by omega)]
        · rw [if_neg e]; (repeat rw [if_neg (by omega)]); exact (n1 j hj).2.2.2
      · unfold tSong; simp only [uA, upd, vp_updL, uL, reduceIte, Nat.reduceEqDiff, eq_self]; (repeat rw [if_neg (by omega)]); exact (n2 j hj).1
      · unfold tSong; simp only [uA, upd, vp_updL, uL, reduceIte, Nat.reduceEqDiff, eq_self]
        by_cases e : j = c
        · rw [if_pos e, if_neg (by omega), if_neg (by omega), if_pos (by omega)]
        · rw [if_neg e]; (repeat rw [if_neg (by omega)]); exact (n2 j hj).2.1
      · unfold tSong; simp only [uA, upd, vp_updL, uL, reduceIte, Nat.reduceEqDiff, eq_self]
        by_cases e : j = c
        · rw [if_pos e, if_pos (by omega)]
        · rw [if_neg e]; (repeat rw [if_neg (by omega)]); exact (n2 j hj).2.2
      · refine ⟨if w.testBit c then w - 2 ^ c else w, ?_, by simp only [uA, upd, vp_updL, uL, reduceIte, Nat.reduceEqDiff, eq_self], fun j hj => ?_⟩
        · refine Nat.lt_of_le_of_lt ?_ w1
          split
          · exact Nat.sub_le _ _
          · exact Nat.le_refl _
        · rw [clr_bit w hw64 c hc6 j (by omega)]
          unfold tSong
          by_cases e : j = c
          · subst e
            rw [pk_un (by omega), pk_us]; simp
          · (repeat rw [pk_un (by omega)])
            rw [w3 j hj]
            simp [e]
      · unfold tSong; simp only [uA, upd, vp_updL, uL, reduceIte, Nat.reduceEqDiff, eq_self]; (repeat rw [if_neg (by omega)]); exact n4
      · unfold tSong; simp only [uA, upd, vp_updL, uL, reduceIte, Nat.reduceEqDiff, eq_self]; (repeat rw [if_neg (by omega)]); exact n5
      · unfold tSong; simp only [uA, upd, vp_updL, uL, reduceIte, Nat.reduceEqDiff, eq_self]; (repeat rw [if_neg (by omega)]); exact n6
    · simp only [uA, upd, vp_updL, uL, reduceIte, Nat.reduceEqDiff, eq_self]
      exact hsg
    · intro a ha
      simp only [uA]
      (repeat rw [if_neg (by omega)])
  · rw [if_neg hq] at hsg ⊢
    have hq2 : ¬ nI (zG V (σ 306) (σ 307) s c) = nI (zN V (σ 306) (σ 307) c) := fun z => hq ((nI_eq (by omega) (by omega)).mp z)
    refine ⟨uA (uA (uA (uA σ 6 (upd (σ 6) s (nI (nV V (6 + s) - zG V (σ 306) (σ 307) s c * zPay V (σ 304) (σ 305) s c)))) 8 (upd (σ 8) s (nI (nV V (18 + s) - zG V (σ 306) (σ 307) s c)))) 10 (upd (σ 10) c (nI (nV V (36 + c) + zG V (σ 306) (σ 307) s c)))) 4 (upd (σ 4) 10 (nI (min 999 (nV V 48 + 1)))), ?_, ⟨h.1.c ?_ ?_ ?_, ?_, ?_⟩, ?_⟩
    · simp only [f_X3_lull, if_true, ite_true, reduceIte, Option.bind_some, Option.bind_none, bT1_some, io_LD, io_Rd, io_Mt, io_Nt, io_Pl, io_Ro, io_Pa, io_Te, io_Bo, io_Ia, io_Ib, io_Mo, io_Ra, io_Rb, gr_LD_0, gr_LD_1, gr_LD_2, gr_LD_3, gr_LD_4, gr_LD_5, gr_LD_6, gr_LD_7, gr_LD_8, gr_Rd_0, gr_Mt_0, gr_Mt_1, gr_Nt_0, gr_Nt_1, gr_Nt_2, gr_Nt_3, gr_Nt_4, gr_Nt_5, gr_Nt_6, gr_Pl_0, gr_Pl_1, gr_Ro_0, gr_Ro_1, gr_Ro_2, gr_Pa_0, gr_Te_0, gr_Te_1, gr_Bo_0, gr_Bo_1, gr_Ia_0, gr_Ib_0, gr_Mo_0, gr_Mo_7, gr_Mo_8, gr_Mo_9, gr_Mo_10, gr_Mo_11, gr_Mo_12, gr_Mo_15, gr_Mo_16, gr_Mo_17, gr_Mo_18, gr_Mo_20, gr_Mo_28, gr_Mo_29, gr_Mo_32, gr_Mo_33, gr_Mo_34, gr_Mo_35, gr_Mo_36, gr_Mo_37, gr_Ra_0, gr_Ra_1, gr_Ra_2, gr_Ra_3, gr_Ra_4, gr_Ra_5, gr_Ra_6, gr_Rb_0, gr_Rb_1, gr_Rb_2, gr_Rb_3, gr_Rb_4, gr_Rb_5, gr_Rb_6, gi_LD_9, gi_Rd_1, gi_Rd_2, gi_Rd_3, gi_Rd_4, gi_Nt_7, gi_Nt_8, gi_Nt_9, gi_Nt_10, gi_Pl_2, gi_Pl_3, gi_Ro_3, gi_Ro_4, gi_Ro_5, gi_Pa_1, gi_Pa_2, gi_Te_2, gi_Bo_2, gi_Ia_1, gi_Ia_2, gi_Ib_1, gi_Ib_2, gi_Mo_1, gi_Mo_2, gi_Mo_3, gi_Mo_4, gi_Mo_5, gi_Mo_6, gi_Mo_13, gl_Mo_14, gi_Mo_19, gi_Mo_21, gi_Mo_22, gi_Mo_23, gi_Mo_24, gi_Mo_25, gi_Mo_26, gi_Mo_27, gi_Mo_30, gi_Mo_31, gi_Ra_7, gi_Ra_8, gi_Ra_9, gi_Ra_10, gi_Rb_7, gi_Rb_8, gi_Rb_9, gi_Rb_10, pf_LD_9, pf_Rd_1, pf_Rd_2, pf_Rd_3, pf_Rd_4, pf_Nt_7, pf_Nt_8, pf_Nt_9, pf_Nt_10, pf_Pl_2, pf_Pl_3, pf_Ro_3, pf_Ro_4, pf_Ro_5, pf_Pa_1, pf_Pa_2, pf_Te_2, pf_Bo_2, pf_Ia_1, pf_Ia_2, pf_Ib_1, pf_Ib_2, pf_Mo_1, pf_Mo_2, pf_Mo_3, pf_Mo_4, pf_Mo_5, pf_Mo_6, pf_Mo_13, pl_Mo_14, pf_Mo_19, pf_Mo_21, pf_Mo_22, pf_Mo_23, pf_Mo_24, pf_Mo_25, pf_Mo_26, pf_Mo_27, pf_Mo_30, pf_Mo_31, pf_Ra_7, pf_Ra_8, pf_Ra_9, pf_Ra_10, pf_Rb_7, pf_Rb_8, pf_Rb_9, pf_Rb_10, needs_C h hc, ai_8 hs6, ev4, hl.1, hmin, ai_6 hs6, ev1, hd.1, payTo_C h hs hc, pk_mul, hrel, aw_6 hs6, uA, upd, vp_updL, uL, reduceIte, Nat.reduceEqDiff, eq_self, s1, aw_8 hs6, ai_10 hc6, ec1, hx.1, nI_add, aw_10 hc6, hq2, if_false, n6, hlt.1, nI_1, hml]
    · (intros; have hra := rA_or sw; first | rfl | (simp only [uA, upd, vp_updL, uL, reduceIte, Nat.reduceEqDiff, eq_self]; done) | (simp only [uA, upd, vp_updL, uL, reduceIte, Nat.reduceEqDiff, eq_self]; repeat rw [if_neg (by omega)]))
    · (intros; have hra := rA_or sw; first | rfl | (simp only [uA, upd, vp_updL, uL, reduceIte, Nat.reduceEqDiff, eq_self]; done) | (simp only [uA, upd, vp_updL, uL, reduceIte, Nat.reduceEqDiff, eq_self]; repeat rw [if_neg (by omega)]))
    · (intros; have hra := rA_or sw; first | rfl | (simp only [uA, upd, vp_updL, uL, reduceIte, Nat.reduceEqDiff, eq_self]; done) | (simp only [uA, upd, vp_updL, uL, reduceIte, Nat.reduceEqDiff, eq_self]; repeat rw [if_neg (by omega)]))
    · refine NR.intro (fun j hj => ?_) (fun j hj => ?_) (fun j hj => ?_) (fun j hj => ?_) (fun j hj => ?_) (fun j hj => ?_) (fun j hj => ?_) ?_ ?_ ?_ ?_
      · unfold tSong; simp only [uA, upd, vp_updL, uL, reduceIte, Nat.reduceEqDiff, eq_self]; (repeat rw [if_neg (by omega)]); exact (n1 j hj).1
      · unfold tSong; simp only [uA, upd, vp_updL, uL, reduceIte, Nat.reduceEqDiff, eq_self]
        by_cases e : j = s
        · rw [if_pos e, if_neg (by omega), if_neg (by omega), if_neg (by omega), if_pos (by omega)]
        · rw [if_neg e]; (repeat rw [if_neg (by omega)]); exact (n1 j hj).2.1
      · unfold tSong; simp only [uA, upd, vp_updL, uL, reduceIte, Nat.reduceEqDiff, eq_self]; (repeat rw [if_neg (by omega)]); exact (n1 j hj).2.2.1
      · unfold tSong; simp only [uA, upd, vp_updL, uL, reduceIte, Nat.reduceEqDiff, eq_self]
        by_cases e : j = s
        · rw [if_pos e, if_neg (by omega), if_neg (by omega), if_pos (by omega)]
        · rw [if_neg e]; (repeat rw [if_neg (by omega)]); exact (n1 j hj).2.2.2
      · unfold tSong; simp only [uA, upd, vp_updL, uL, reduceIte, Nat.reduceEqDiff, eq_self]; (repeat rw [if_neg (by omega)]); exact (n2 j hj).1
      · unfold tSong; simp only [uA, upd, vp_updL, uL, reduceIte, Nat.reduceEqDiff, eq_self]
        by_cases e : j = c
        · rw [if_pos e, if_neg (by omega), if_pos (by omega)]
        · rw [if_neg e]; (repeat rw [if_neg (by omega)]); exact (n2 j hj).2.1
      · unfold tSong; simp only [uA, upd, vp_updL, uL, reduceIte, Nat.reduceEqDiff, eq_self]; (repeat rw [if_neg (by omega)]); exact (n2 j hj).2.2
      · refine ⟨w, w1, by simp only [uA, upd, vp_updL, uL, reduceIte, Nat.reduceEqDiff, eq_self]; exact w2, fun j hj => ?_⟩
        unfold tSong
        (repeat rw [pk_un (by omega)])
        exact w3 j hj
      · unfold tSong; simp only [uA, upd, vp_updL, uL, reduceIte, Nat.reduceEqDiff, eq_self]; (repeat rw [if_neg (by omega)]); exact n4
      · unfold tSong; simp only [uA, upd, vp_updL, uL, reduceIte, Nat.reduceEqDiff, eq_self]; (repeat rw [if_neg (by omega)]); exact n5
      · simp only [uA, upd, vp_updL, uL, reduceIte, Nat.reduceEqDiff, eq_self]
    · simp only [uA, upd, vp_updL, uL, reduceIte, Nat.reduceEqDiff, eq_self]
      exact hsg
    · intro a ha
      simp only [uA]
      (repeat rw [if_neg (by omega)])
theorem upd_ext {f g : Nat → Int32} (h : ∀ j, f j = g j) : f = g := funext h
theorem sings_M (h : I_row (rA sw) σ H D n m) (hN : NB n m H (σ 306) (σ 307) (σ 308)) (hs : s < n) (hc : c < m) (hmay : zMay (σ 308) s c = true) :
    f_X13_sings 302 (nI s) (nI c) (enc sw σ ς) = some (nI (zG (σ 308) (σ 306) (σ 307) s c), enc sw (uA σ 308 (tSing (σ 308) (σ 306) (σ 307) (σ 304) (σ 305) s c)) ς) := by
  obtain ⟨⟨r1, r2, r3, r4⟩, -⟩ := id h
  have i6 : (6 : Int32) + nI s = nI (6 + s) := nI_add 6 s
  have i18 : (18 : Int32) + nI s = nI (18 + s) := nI_add 18 s
  have i30 : (30 : Int32) + nI c = nI (30 + c) := nI_add 30 c
  have i36 : (36 : Int32) + nI c = nI (36 + c) := nI_add 36 c
  have i42 : (42 : Int32) + nI c = nI (42 + c) := nI_add 42 c
  have i48 : (48 : Int32) = nI 48 := rfl
  have l6 : 6 + s < 51 := by omega
  have l18 : 18 + s < 51 := by omega
  have l30 : 30 + c < 51 := by omega
  have l36 : 36 + c < 51 := by omega
  have l42 : 42 + c < 51 := by omega
  have l48 : 48 < 51 := by omega
  have hd := hN.debt hs
  have hl := hN.left hs
  have hx := hN.heard hc
  have hu := hN.sung hc
  have hlt := hN.late
  have hz := zN_le hN hc
  have hp := zPay_or (σ 308) (σ 304) (σ 305) s c
  have hw0 : σ 308 (30 + c) = 0 := (of_decide_eq_true hmay).1
  have hg1 : zG (σ 308) (σ 306) (σ 307) s c ≤ zN (σ 308) (σ 306) (σ 307) c := Nat.min_le_left _ _
  have hg2 : zG (σ 308) (σ 306) (σ 307) s c ≤ nV (σ 308) (18 + s) := Nat.min_le_right _ _
  have hgp : zG (σ 308) (σ 306) (σ 307) s c * zPay (σ 308) (σ 304) (σ 305) s c ≤ 60 := by rcases hp with e | e <;> rw [e] <;> omega
  have hrel := relu_M (a := nV (σ 308) (6 + s)) (b := zG (σ 308) (σ 306) (σ 307) s c * zPay (σ 308) (σ 304) (σ 305) s c) (by omega) (by omega)
  have hmaxM : ∀ (sw : Bool) (σ' : Sg) (ς : Lg), f_X13_max 302 (0 : Int32) (nI (nV (σ 308) (6 + s)) - nI (zG (σ 308) (σ 306) (σ 307) s c * zPay (σ 308) (σ 304) (σ 305) s c)) (enc sw σ' ς) = some (nI (nV (σ 308) (6 + s) - zG (σ 308) (σ 306) (σ 307) s c * zPay (σ 308) (σ 304) (σ 305) s c), enc sw σ' ς) := by
    intro sw σ' ς
    simp only [f_X13_max, if_true, ite_true, reduceIte, Option.bind_some, Option.bind_none, bT1_some, io_LD, io_Rd, io_Mt, io_Nt, io_Pl, io_Ro, io_Pa, io_Te, io_Bo, io_Ia, io_Ib, io_Mo, io_Ra, io_Rb, gr_LD_0, gr_LD_1, gr_LD_2, gr_LD_3, gr_LD_4, gr_LD_5, gr_LD_6, gr_LD_7, gr_LD_8, gr_Rd_0, gr_Mt_0, gr_Mt_1, gr_Nt_0, gr_Nt_1, gr_Nt_2, gr_Nt_3, gr_Nt_4, gr_Nt_5, gr_Nt_6, gr_Pl_0, gr_Pl_1, gr_Ro_0, gr_Ro_1, gr_Ro_2, gr_Pa_0, gr_Te_0, gr_Te_1, gr_Bo_0, gr_Bo_1, gr_Ia_0, gr_Ib_0, gr_Mo_0, gr_Mo_7, gr_Mo_8, gr_Mo_9, gr_Mo_10, gr_Mo_11, gr_Mo_12, gr_Mo_15, gr_Mo_16, gr_Mo_17, gr_Mo_18, gr_Mo_20, gr_Mo_28, gr_Mo_29, gr_Mo_32, gr_Mo_33, gr_Mo_34, gr_Mo_35, gr_Mo_36, gr_Mo_37, gr_Ra_0, gr_Ra_1, gr_Ra_2, gr_Ra_3, gr_Ra_4, gr_Ra_5, gr_Ra_6, gr_Rb_0, gr_Rb_1, gr_Rb_2, gr_Rb_3, gr_Rb_4, gr_Rb_5, gr_Rb_6, gi_LD_9, gi_Rd_1, gi_Rd_2, gi_Rd_3, gi_Rd_4, gi_Nt_7, gi_Nt_8, gi_Nt_9, gi_Nt_10, gi_Pl_2, gi_Pl_3, gi_Ro_3, gi_Ro_4, gi_Ro_5, gi_Pa_1, gi_Pa_2, gi_Te_2, gi_Bo_2, gi_Ia_1, gi_Ia_2, gi_Ib_1, gi_Ib_2, gi_Mo_1, gi_Mo_2, gi_Mo_3, gi_Mo_4, gi_Mo_5, gi_Mo_6, gi_Mo_13, gl_Mo_14, gi_Mo_19, gi_Mo_21, gi_Mo_22, gi_Mo_23, gi_Mo_24, gi_Mo_25, gi_Mo_26, gi_Mo_27, gi_Mo_30, gi_Mo_31, gi_Ra_7, gi_Ra_8, gi_Ra_9, gi_Ra_10, gi_Rb_7, gi_Rb_8, gi_Rb_9, gi_Rb_10]
    rw [← hrel]
    split <;> rfl
  have hmn : f_X13_min 302 (nI (zN (σ 308) (σ 306) (σ 307) c)) (nI (nV (σ 308) (18 + s))) (enc sw σ ς) = some (nI (zG (σ 308) (σ 306) (σ 307) s c), enc sw σ ς) := min_M (by omega) (by omega)
  have s1 : nI (nV (σ 308) (18 + s)) - nI (zG (σ 308) (σ 306) (σ 307) s c) = nI (nV (σ 308) (18 + s) - zG (σ 308) (σ 306) (σ 307) s c) := pk_sub hg2
  have m99 : ∀ (sw : Bool) (σ' : Sg) (ς : Lg), f_X13_min 302 (99 : Int32) (nI (nV (σ 308) (42 + c) + 1)) (enc sw σ' ς) = some (nI (min 99 (nV (σ 308) (42 + c) + 1)), enc sw σ' ς) := fun sw σ' ς => min_M (a := 99) (by omega) (by omega)
  have m999 : ∀ (sw : Bool) (σ' : Sg) (ς : Lg), f_X13_min 302 (999 : Int32) (nI (nV (σ 308) 48 + 1)) (enc sw σ' ς) = some (nI (min 999 (nV (σ 308) 48 + 1)), enc sw σ' ς) := fun sw σ' ς => min_M (a := 999) (by omega) (by omega)
  have e18 : ∀ x, upd (σ 308) (6 + s) x (18 + s) = nI (nV (σ 308) (18 + s)) := fun x => by rw [pk_un (by omega)]; exact hl.1
  have e36 : ∀ x y, upd (upd (σ 308) (6 + s) x) (18 + s) y (36 + c) = nI (nV (σ 308) (36 + c)) := fun x y => by rw [pk_un (by omega), pk_un (by omega)]; exact hx.1
  have e42 : ∀ x y z v, upd (upd (upd (upd (σ 308) (6 + s) x) (18 + s) y) (36 + c) z) (30 + c) v (42 + c) = nI (nV (σ 308) (42 + c)) := fun x y z v => by rw [pk_un (by omega), pk_un (by omega), pk_un (by omega), pk_un (by omega)]; exact hu.1
  have e48 : ∀ x y z, upd (upd (upd (σ 308) (6 + s) x) (18 + s) y) (36 + c) z 48 = nI (nV (σ 308) 48) := fun x y z => by rw [pk_un (by omega), pk_un (by omega), pk_un (by omega)]; exact hlt.1
  unfold tSing tSong
  by_cases hq : zG (σ 308) (σ 306) (σ 307) s c = zN (σ 308) (σ 306) (σ 307) c
  · have hq1 : nI (zG (σ 308) (σ 306) (σ 307) s c) = nI (zN (σ 308) (σ 306) (σ 307) c) := by rw [hq]
    rw [if_pos hq]
    simp only [f_X13_sings, if_true, ite_true, reduceIte, Option.bind_some, Option.bind_none, bT1_some, io_LD, io_Rd, io_Mt, io_Nt, io_Pl, io_Ro, io_Pa, io_Te, io_Bo, io_Ia, io_Ib, io_Mo, io_Ra, io_Rb, gr_LD_0, gr_LD_1, gr_LD_2, gr_LD_3, gr_LD_4, gr_LD_5, gr_LD_6, gr_LD_7, gr_LD_8, gr_Rd_0, gr_Mt_0, gr_Mt_1, gr_Nt_0, gr_Nt_1, gr_Nt_2, gr_Nt_3, gr_Nt_4, gr_Nt_5, gr_Nt_6, gr_Pl_0, gr_Pl_1, gr_Ro_0, gr_Ro_1, gr_Ro_2, gr_Pa_0, gr_Te_0, gr_Te_1, gr_Bo_0, gr_Bo_1, gr_Ia_0, gr_Ib_0, gr_Mo_0, gr_Mo_7, gr_Mo_8, gr_Mo_9, gr_Mo_10, gr_Mo_11, gr_Mo_12, gr_Mo_15, gr_Mo_16, gr_Mo_17, gr_Mo_18, gr_Mo_20, gr_Mo_28, gr_Mo_29, gr_Mo_32, gr_Mo_33, gr_Mo_34, gr_Mo_35, gr_Mo_36, gr_Mo_37, gr_Ra_0, gr_Ra_1, gr_Ra_2, gr_Ra_3, gr_Ra_4, gr_Ra_5, gr_Ra_6, gr_Rb_0, gr_Rb_1, gr_Rb_2, gr_Rb_3, gr_Rb_4, gr_Rb_5, gr_Rb_6, gi_LD_9, gi_Rd_1, gi_Rd_2, gi_Rd_3, gi_Rd_4, gi_Nt_7, gi_Nt_8, gi_Nt_9, gi_Nt_10, gi_Pl_2, gi_Pl_3, gi_Ro_3, gi_Ro_4, gi_Ro_5, gi_Pa_1, gi_Pa_2, gi_Te_2, gi_Bo_2, gi_Ia_1, gi_Ia_2, gi_Ib_1, gi_Ib_2, gi_Mo_1, gi_Mo_2, gi_Mo_3, gi_Mo_4, gi_Mo_5, gi_Mo_6, gi_Mo_13, gl_Mo_14, gi_Mo_19, gi_Mo_21, gi_Mo_22, gi_Mo_23, gi_Mo_24, gi_Mo_25, gi_Mo_26, gi_Mo_27, gi_Mo_30, gi_Mo_31, gi_Ra_7, gi_Ra_8, gi_Ra_9, gi_Ra_10, gi_Rb_7, gi_Rb_8, gi_Rb_9, gi_Rb_10, needs_M hN (Or.inl hw0) hc r4, i18, ai_308 l18, hl.1, hmn, i6, ai_308 l6, hd.1, pay_M h hN hs hc, pk_mul, hmaxM, aw_308 l6, uA_uA, uA_s, e18, s1, aw_308 l18, i36, ai_308 l36, e36, nI_add, aw_308 l36, eq_true hq1, i30, aw_308 l30, i42, ai_308 l42, e42, nI_1, m99, aw_308 l42]
  · have hq2 : ¬ nI (zG (σ 308) (σ 306) (σ 307) s c) = nI (zN (σ 308) (σ 306) (σ 307) c) := fun z => hq ((nI_eq (by omega) (by omega)).mp z)
    rw [if_neg hq]
    simp only [f_X13_sings, if_true, ite_true, reduceIte, Option.bind_some, Option.bind_none, bT1_some, io_LD, io_Rd, io_Mt, io_Nt, io_Pl, io_Ro, io_Pa, io_Te, io_Bo, io_Ia, io_Ib, io_Mo, io_Ra, io_Rb, gr_LD_0, gr_LD_1, gr_LD_2, gr_LD_3, gr_LD_4, gr_LD_5, gr_LD_6, gr_LD_7, gr_LD_8, gr_Rd_0, gr_Mt_0, gr_Mt_1, gr_Nt_0, gr_Nt_1, gr_Nt_2, gr_Nt_3, gr_Nt_4, gr_Nt_5, gr_Nt_6, gr_Pl_0, gr_Pl_1, gr_Ro_0, gr_Ro_1, gr_Ro_2, gr_Pa_0, gr_Te_0, gr_Te_1, gr_Bo_0, gr_Bo_1, gr_Ia_0, gr_Ib_0, gr_Mo_0, gr_Mo_7, gr_Mo_8, gr_Mo_9, gr_Mo_10, gr_Mo_11, gr_Mo_12, gr_Mo_15, gr_Mo_16, gr_Mo_17, gr_Mo_18, gr_Mo_20, gr_Mo_28, gr_Mo_29, gr_Mo_32, gr_Mo_33, gr_Mo_34, gr_Mo_35, gr_Mo_36, gr_Mo_37, gr_Ra_0, gr_Ra_1, gr_Ra_2, gr_Ra_3, gr_Ra_4, gr_Ra_5, gr_Ra_6, gr_Rb_0, gr_Rb_1, gr_Rb_2, gr_Rb_3, gr_Rb_4, gr_Rb_5, gr_Rb_6, gi_LD_9, gi_Rd_1, gi_Rd_2, gi_Rd_3, gi_Rd_4, gi_Nt_7, gi_Nt_8, gi_Nt_9, gi_Nt_10, gi_Pl_2, gi_Pl_3, gi_Ro_3, gi_Ro_4, gi_Ro_5, gi_Pa_1, gi_Pa_2, gi_Te_2, gi_Bo_2, gi_Ia_1, gi_Ia_2, gi_Ib_1, gi_Ib_2, gi_Mo_1, gi_Mo_2, gi_Mo_3, gi_Mo_4, gi_Mo_5, gi_Mo_6, gi_Mo_13, gl_Mo_14, gi_Mo_19, gi_Mo_21, gi_Mo_22, gi_Mo_23, gi_Mo_24, gi_Mo_25, gi_Mo_26, gi_Mo_27, gi_Mo_30, gi_Mo_31, gi_Ra_7, gi_Ra_8, gi_Ra_9, gi_Ra_10, gi_Rb_7, gi_Rb_8, gi_Rb_9, gi_Rb_10, needs_M hN (Or.inl hw0) hc r4, i18, ai_308 l18, hl.1, hmn, i6, ai_308 l6, hd.1, pay_M h hN hs hc, pk_mul, hmaxM, aw_308 l6, uA_uA, uA_s, e18, s1, aw_308 l18, i36, ai_308 l36, e36, nI_add, aw_308 l36, hq2, if_false, i48, ai_308 l48, e48, nI_1, m999, aw_308 l48]
end LU
