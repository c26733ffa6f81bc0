/-! draws -/
theorem l_a : (1103515245 : Int64) = lN 1103515245 := rfl
theorem l_b : (12345 : Int64) = lN 12345 := rfl
theorem l_c : (2147483648 : Int64) = lN 2147483648 := rfl
theorem l_d : (65536 : Int64) = lN 65536 := rfl
theorem l_e : (65536 : Int32) = nI 65536 := rfl
/-- what a draw makes of the state: kept shut, so that no numeral is ever unfolded -/
def DZ (dz : Nat → Nat) : Prop := (∀ z, dz z < 2147483648) ∧ ∀ z, z < 2147483648 → lN z * (1103515245 : Int64) + (12345 : Int64) - (lN z * (1103515245 : Int64) + (12345 : Int64)) / (2147483648 : Int64) * (2147483648 : Int64) = lN (dz z)
theorem DZ_ex : ∃ dz, DZ dz := by
  refine ⟨fun z => (z * 1103515245 + 12345) % 2147483648, fun z => Nat.mod_lt _ (by omega), fun z hz => ?_⟩
  rw [l_a, l_b, l_c, lN_mul, lN_add]
  exact pk_lRem (by omega) (by omega) (by omega)
section DR
variable {sw : Bool} {σ : Sg} {ς : Lg} {z k : Nat} {dz : Nat → Nat}
theorem draw_C (hdz : DZ dz) (hz : z < 2147483648) (h : σ 0 9 = nI z) (hk : 0 < k) (hk6 : k ≤ 6) : f_X12_drawOf 0 (nI k) (enc sw σ ς) = some (nI (dz z / 65536 % k), enc sw (uA σ 0 (upd (σ 0) 9 (nI (dz z)))) ς) := by
  have h1 : Int64.toInt32 (lN z * (1103515245 : Int64) + (12345 : Int64) - (lN z * (1103515245 : Int64) + (12345 : Int64)) / (2147483648 : Int64) * (2147483648 : Int64)) = nI (dz z) := by rw [hdz.2 z hz, lN_i]
  have h2 : Int32.toInt64 (nI z) = lN z := nI_l (by omega)
  have h3 : (nI k ≤ 0) = False := eq_false (nI_nle hk (by omega))
  have h4 : (nI k = 0) = False := eq_false (nI_ne0 hk (by omega))
  have hd := hdz.1 z
  have h5 : nI (dz z) / (65536 : Int32) = nI (dz z / 65536) := by rw [l_e]; exact pk_div (by omega) (by omega) (by omega)
  have h6 : nI (dz z / 65536) - nI (dz z / 65536) / nI k * nI k = nI (dz z / 65536 % k) := pk_rem (by omega) hk (by omega)
  simp only [f_X12_drawOf, if_true, ite_true, reduceIte, Option.bind_some, Option.bind_none, bT1_some, io_LD, io_Rd, io_Mt, io_Nt, io_Pl, io_Ro, io_Pa, io_Te, io_Bo, io_Ia, io_Ib, io_Mo, io_Ra, io_Rb, gr_LD_0, gr_LD_1, gr_LD_2, gr_LD_3, gr_LD_4, gr_LD_5, gr_LD_6, gr_LD_7, gr_LD_8, gr_Rd_0, gr_Mt_0, gr_Mt_1, gr_Nt_0, gr_Nt_1, gr_Nt_2, gr_Nt_3, gr_Nt_4, gr_Nt_5, gr_Nt_6, gr_Pl_0, gr_Pl_1, gr_Ro_0, gr_Ro_1, gr_Ro_2, gr_Pa_0, gr_Te_0, gr_Te_1, gr_Bo_0, gr_Bo_1, gr_Ia_0, gr_Ib_0, gr_Mo_0, gr_Mo_7, gr_Mo_8, gr_Mo_9, gr_Mo_10, gr_Mo_11, gr_Mo_12, gr_Mo_15, gr_Mo_16, gr_Mo_17, gr_Mo_18, gr_Mo_20, gr_Mo_28, gr_Mo_29, gr_Mo_32, gr_Mo_33, gr_Mo_34, gr_Mo_35, gr_Mo_36, gr_Mo_37, gr_Ra_0, gr_Ra_1, gr_Ra_2, gr_Ra_3, gr_Ra_4, gr_Ra_5, gr_Ra_6, gr_Rb_0, gr_Rb_1, gr_Rb_2, gr_Rb_3, gr_Rb_4, gr_Rb_5, gr_Rb_6, gi_LD_9, gi_Rd_1, gi_Rd_2, gi_Rd_3, gi_Rd_4, gi_Nt_7, gi_Nt_8, gi_Nt_9, gi_Nt_10, gi_Pl_2, gi_Pl_3, gi_Ro_3, gi_Ro_4, gi_Ro_5, gi_Pa_1, gi_Pa_2, gi_Te_2, gi_Bo_2, gi_Ia_1, gi_Ia_2, gi_Ib_1, gi_Ib_2, gi_Mo_1, gi_Mo_2, gi_Mo_3, gi_Mo_4, gi_Mo_5, gi_Mo_6, gi_Mo_13, gl_Mo_14, gi_Mo_19, gi_Mo_21, gi_Mo_22, gi_Mo_23, gi_Mo_24, gi_Mo_25, gi_Mo_26, gi_Mo_27, gi_Mo_30, gi_Mo_31, gi_Ra_7, gi_Ra_8, gi_Ra_9, gi_Ra_10, gi_Rb_7, gi_Rb_8, gi_Rb_9, gi_Rb_10, pf_LD_9, pf_Rd_1, pf_Rd_2, pf_Rd_3, pf_Rd_4, pf_Nt_7, pf_Nt_8, pf_Nt_9, pf_Nt_10, pf_Pl_2, pf_Pl_3, pf_Ro_3, pf_Ro_4, pf_Ro_5, pf_Pa_1, pf_Pa_2, pf_Te_2, pf_Bo_2, pf_Ia_1, pf_Ia_2, pf_Ib_1, pf_Ib_2, pf_Mo_1, pf_Mo_2, pf_Mo_3, pf_Mo_4, pf_Mo_5, pf_Mo_6, pf_Mo_13, pl_Mo_14, pf_Mo_19, pf_Mo_21, pf_Mo_22, pf_Mo_23, pf_Mo_24, pf_Mo_25, pf_Mo_26, pf_Mo_27, pf_Mo_30, pf_Mo_31, pf_Ra_7, pf_Ra_8, pf_Ra_9, pf_Ra_10, pf_Rb_7, pf_Rb_8, pf_Rb_9, pf_Rb_10, h, h2, h1, h3, h4, if_false, uA_s, pk_us, h5, h6]
theorem draw_M (hdz : DZ dz) (hz : z < 2147483648) (h : ς 302 14 = lN z) (hk : 0 < k) (hk6 : k ≤ 6) : f_X13_draw 302 (nI k) (enc sw σ ς) = some (nI (dz z / 65536 % k), enc sw σ (uL ς 302 (vp_updL (ς 302) 14 (lN (dz z))))) := by
  have h2 : Int32.toInt64 (nI k) = lN k := nI_l (by omega)
  have h4 : (lN k = 0) = False := eq_false (fun e => by
    have := (lN_eq (a := k) (b := 0) (by omega) (by omega)).mp e
    omega)
  have hd := hdz.1 z
  have h5 : lN (dz z) / (65536 : Int64) = lN (dz z / 65536) := by rw [l_d]; exact pk_lDiv (by omega) (by omega) (by omega)
  have h6 : lN (dz z / 65536) - lN (dz z / 65536) / lN k * lN k = lN (dz z / 65536 % k) := pk_lRem (by omega) hk (by omega)
  simp only [f_X13_draw, if_true, ite_true, reduceIte, Option.bind_some, Option.bind_none, bT1_some, io_LD, io_Rd, io_Mt, io_Nt, io_Pl, io_Ro, io_Pa, io_Te, io_Bo, io_Ia, io_Ib, io_Mo, io_Ra, io_Rb, gr_LD_0, gr_LD_1, gr_LD_2, gr_LD_3, gr_LD_4, gr_LD_5, gr_LD_6, gr_LD_7, gr_LD_8, gr_Rd_0, gr_Mt_0, gr_Mt_1, gr_Nt_0, gr_Nt_1, gr_Nt_2, gr_Nt_3, gr_Nt_4, gr_Nt_5, gr_Nt_6, gr_Pl_0, gr_Pl_1, gr_Ro_0, gr_Ro_1, gr_Ro_2, gr_Pa_0, gr_Te_0, gr_Te_1, gr_Bo_0, gr_Bo_1, gr_Ia_0, gr_Ib_0, gr_Mo_0, gr_Mo_7, gr_Mo_8, gr_Mo_9, gr_Mo_10, gr_Mo_11, gr_Mo_12, gr_Mo_15, gr_Mo_16, gr_Mo_17, gr_Mo_18, gr_Mo_20, gr_Mo_28, gr_Mo_29, gr_Mo_32, gr_Mo_33, gr_Mo_34, gr_Mo_35, gr_Mo_36, gr_Mo_37, gr_Ra_0, gr_Ra_1, gr_Ra_2, gr_Ra_3, gr_Ra_4, gr_Ra_5, gr_Ra_6, gr_Rb_0, gr_Rb_1, gr_Rb_2, gr_Rb_3, gr_Rb_4, gr_Rb_5, gr_Rb_6, gi_LD_9, gi_Rd_1, gi_Rd_2, gi_Rd_3, gi_Rd_4, gi_Nt_7, gi_Nt_8, gi_Nt_9, gi_Nt_10, gi_Pl_2, gi_Pl_3, gi_Ro_3, gi_Ro_4, gi_Ro_5, gi_Pa_1, gi_Pa_2, gi_Te_2, gi_Bo_2, gi_Ia_1, gi_Ia_2, gi_Ib_1, gi_Ib_2, gi_Mo_1, gi_Mo_2, gi_Mo_3, gi_Mo_4, gi_Mo_5, gi_Mo_6, gi_Mo_13, gl_Mo_14, gi_Mo_19, gi_Mo_21, gi_Mo_22, gi_Mo_23, gi_Mo_24, gi_Mo_25, gi_Mo_26, gi_Mo_27, gi_Mo_30, gi_Mo_31, gi_Ra_7, gi_Ra_8, gi_Ra_9, gi_Ra_10, gi_Rb_7, gi_Rb_8, gi_Rb_9, gi_Rb_10, pf_LD_9, pf_Rd_1, pf_Rd_2, pf_Rd_3, pf_Rd_4, pf_Nt_7, pf_Nt_8, pf_Nt_9, pf_Nt_10, pf_Pl_2, pf_Pl_3, pf_Ro_3, pf_Ro_4, pf_Ro_5, pf_Pa_1, pf_Pa_2, pf_Te_2, pf_Bo_2, pf_Ia_1, pf_Ia_2, pf_Ib_1, pf_Ib_2, pf_Mo_1, pf_Mo_2, pf_Mo_3, pf_Mo_4, pf_Mo_5, pf_Mo_6, pf_Mo_13, pl_Mo_14, pf_Mo_19, pf_Mo_21, pf_Mo_22, pf_Mo_23, pf_Mo_24, pf_Mo_25, pf_Mo_26, pf_Mo_27, pf_Mo_30, pf_Mo_31, pf_Ra_7, pf_Ra_8, pf_Ra_9, pf_Ra_10, pf_Rb_7, pf_Rb_8, pf_Rb_9, pf_Rb_10, pl_Mo_14, h, hdz.2 z hz, uL_s, pk_uLs, h2, h4, if_false, h5, h6, lN_i]
end DR
/-- goes to the child and sings, each as far as that can be -/
def tVa (V kd sl vo ho : Nat → Int32) (s c : Nat) : Nat → Int32 := if zMay V s c = true then tSing V kd sl vo ho s c else V
def tVb (V : Nat → Int32) (s c : Nat) : Nat → Int32 := if zSt V s c ≤ nV V (18 + s) then tWalk V s (nV V (24 + c)) else V
def tDr (dz : Nat → Nat) (H D n m : Nat) (vo ho kd sl : Nat → Int32) : VZ → VZ := fun x =>
  if n = 0 ∨ m = 0 then x else
    (if dz x.2 / 65536 % 6 = 5 then tEnd x.1 ho D n m
     else if dz x.2 / 65536 % 6 = 4 then (if zMv x.1 (nI H) (dz (dz (dz x.2)) / 65536 % m) 1 = true then tCarry x.1 (dz (dz (dz x.2)) / 65536 % m) (x.1 (24 + dz (dz (dz x.2)) / 65536 % m) + 1) else x.1)
     else tVa (tVb x.1 (dz (dz x.2) / 65536 % n) (dz (dz (dz x.2)) / 65536 % m)) kd sl vo ho (dz (dz x.2) / 65536 % n) (dz (dz (dz x.2)) / 65536 % m), dz (dz (dz x.2)))
theorem nV_50 {V W : Nat → Int32} (h : V 50 = W 50) : nV V 50 = nV W 50 := by unfold nV; rw [h]
section VI
variable {sw : Bool} {σ : Sg} {ς : Lg} {V : Nat → Int32} {H D n m s c : Nat}
theorem tVb_NB {kd sl : Nat → Int32} (h : NB n m H kd sl V) (hs : s < n) (hc : c < m) (hn : n ≤ 6) (hm : m ≤ 6) (hH : H ≤ 20) : NB n m H kd sl (tVb V s c) ∧ tVb V s c 50 = V 50 := by
  unfold tVb
  split
  · refine ⟨h.walk hs hn hm (h.lies hc hH).2 hH, ?_⟩
    unfold tWalk; rw [pk_un (by omega), pk_un (by omega)]
  · exact ⟨h, rfl⟩
theorem tVa_NB {kd sl vo ho : Nat → Int32} (h : NB n m H kd sl V) (hs : s < n) (hc : c < m) (hn : n ≤ 6) (hm : m ≤ 6) (hH : H ≤ 20) : NB n m H kd sl (tVa V kd sl vo ho s c) ∧ tVa V kd sl vo ho s c 50 = V 50 := by
  unfold tVa
  split
  · rename_i hmay
    refine ⟨h.sing hs hc hn hm hH (of_decide_eq_true hmay).1, ?_⟩
    unfold tSing tSong
    split
    · rw [pk_un (by omega), pk_un (by omega), pk_un (by omega), pk_un (by omega), pk_un (by omega)]
    · rw [pk_un (by omega), pk_un (by omega), pk_un (by omega), pk_un (by omega)]
  · exact ⟨h, rfl⟩
theorem tDr_NB {dz : Nat → Nat} {vo ho kd sl : Nat → Int32} (hn : n ≤ 6) (hm : m ≤ 6) (hH : H ≤ 20) (hD : D ≤ 30) (hho : ∀ s, s < n → ∃ v, ho s = nI v ∧ v < H) : ∀ x : VZ, NB n m H kd sl x.1 → nV x.1 50 + 1 ≤ 20000 → NB n m H kd sl (tDr dz H D n m vo ho kd sl x).1 ∧ nV (tDr dz H D n m vo ho kd sl x).1 50 ≤ nV x.1 50 + 1 := by
  intro x h he
  unfold tDr
  by_cases h0 : n = 0 ∨ m = 0
  · rw [if_pos h0]; exact ⟨h, by omega⟩
  · rw [if_neg h0]
    have hs : dz (dz x.2) / 65536 % n < n := Nat.mod_lt _ (by omega)
    have hc : dz (dz (dz x.2)) / 65536 % m < m := Nat.mod_lt _ (by omega)
    generalize dz (dz x.2) / 65536 % n = s at *
    generalize dz (dz (dz x.2)) / 65536 % m = c at *
    by_cases h5 : dz x.2 / 65536 % 6 = 5
    · rw [if_pos h5]
      exact tEv_NB hn hm hH hD hho x h he
    · rw [if_neg h5]
      by_cases h4 : dz x.2 / 65536 % 6 = 4
      · rw [if_pos h4]
        by_cases hv : zMv x.1 (nI H) c 1 = true
        · rw [if_pos hv]
          obtain ⟨b, b1, b2⟩ := zMv_to hv hH
          have : nV (tCarry x.1 c (x.1 (24 + c) + 1)) 50 = nV x.1 50 := nV_50 (by unfold tCarry; rw [pk_un (by omega), pk_un (by omega)])
          refine ⟨?_, by show nV (tCarry x.1 c (x.1 (24 + c) + 1)) 50 ≤ _; omega⟩
          rw [b1]
          exact h.carry hc hn hm b2 hH
        · rw [if_neg hv]; exact ⟨h, by show nV x.1 50 ≤ _; omega⟩
      · rw [if_neg h4]
        have hb := tVb_NB h hs hc hn hm hH
        have ha := tVa_NB (vo := vo) (ho := ho) hb.1 hs hc hn hm hH
        refine ⟨ha.1, ?_⟩
        have : nV (tVa (tVb x.1 s c) kd sl vo ho s c) 50 = nV x.1 50 := nV_50 (ha.2.trans hb.2)
        show nV (tVa (tVb x.1 s c) kd sl vo ho s c) 50 ≤ _
        omega
theorem CC.off {σ' : Sg} (h : CC sw σ V H D n m) (e : ∀ a, a ≠ 0 → σ' a = σ a) : CC sw σ' V H D n m := by
  have hra := rA_or sw
  refine ⟨h.1.c (fun j hj => e _ (by omega)) (fun j _ _ => by rw [e 302 (by omega)]) (fun j _ _ => e _ (by omega)), h.2.1.c (fun j hj => e _ (by omega)), ?_⟩
  rw [e 306 (by omega), e 307 (by omega)]; exact h.2.2
theorem visitA_C (h : CC sw σ V H D n m) (hs : s < n) (hc : c < m) : ∃ σ', f_X3_visit_31 3 (nI s) (nI c) (enc sw σ ς) = some (enc sw σ' ς) ∧ CC sw σ' (tVa V (σ 306) (σ 307) (σ 304) (σ 305) s c) H D n m ∧ ∀ a, (a < 4 ∨ 12 ≤ a) → σ' a = σ a := by
  have ne : ¬ (1 : Int32) = 0 := by decide
  unfold tVa
  by_cases hmay : zMay V s c = true
  · obtain ⟨σb, f2, cb, ob⟩ := lull_C (ς := ς) h hs hc hmay
    refine ⟨σb, ?_, by rw [if_pos hmay]; exact cb, ob⟩
    simp only [f_X3_visit_31, mayLull_C h hs hc, if_pos hmay, bT1_some, ne, if_false, f2]
  · refine ⟨σ, ?_, by rw [if_neg hmay]; exact h, fun _ _ => rfl⟩
    simp only [f_X3_visit_31, mayLull_C h hs hc, if_neg hmay, bT1_some, if_true]
theorem visit_C (h : CC sw σ V H D n m) (hs : s < n) (hc : c < m) : ∃ σ', f_X3_visit 3 (nI s) (nI c) (enc sw σ ς) = some (enc sw σ' ς) ∧ CC sw σ' (tVa (tVb V s c) (σ 306) (σ 307) (σ 304) (σ 305) s c) H D n m ∧ ∀ a, (a < 4 ∨ 12 ≤ a) → σ' a = σ a := by
  obtain ⟨⟨r1, r2, r3, r4⟩, -⟩ := id h.1
  have ne : ¬ (1 : Int32) = 0 := by decide
  have hc6 : c < 6 := by omega
  have hb := h.2.2.lies hc r1
  have e9 : σ 9 c = nI (nV V (24 + c)) := ((h.2.1.2.1 c hc).1).trans hb.1
  have hmw := mayWalk_C (ς := ς) h hs (b := nV V (24 + c)) (by omega)
  by_cases hw : zSt V s c ≤ nV V (18 + s)
  · obtain ⟨σa, f1, ca, oa⟩ := walk_C (ς := ς) h hs hb.2 hw
    obtain ⟨σb, f2, cb, ob⟩ := visitA_C (ς := ς) ca hs hc
    rw [oa 306 (by omega), oa 307 (by omega), oa 304 (by omega), oa 305 (by omega)] at cb
    have hw' : (nV V (12 + s) - nV V (24 + c)) + (nV V (24 + c) - nV V (12 + s)) ≤ nV V (18 + s) := hw
    refine ⟨σb, ?_, by unfold tVb; rw [if_pos hw]; exact cb, fun a ha => by rw [ob a ha, oa a ha]⟩
    simp only [f_X3_visit, if_true, ite_true, reduceIte, Option.bind_some, Option.bind_none, bT1_some, io_LD, io_Rd, io_Mt, io_Nt, io_Pl, io_Ro, io_Pa, io_Te, io_Bo, io_Ia, io_Ib, io_Mo, io_Ra, io_Rb, gr_LD_0, gr_LD_1, gr_LD_2, gr_LD_3, gr_LD_4, gr_LD_5, gr_LD_6, gr_LD_7, gr_LD_8, gr_Rd_0, gr_Mt_0, gr_Mt_1, gr_Nt_0, gr_Nt_1, gr_Nt_2, gr_Nt_3, gr_Nt_4, gr_Nt_5, gr_Nt_6, gr_Pl_0, gr_Pl_1, gr_Ro_0, gr_Ro_1, gr_Ro_2, gr_Pa_0, gr_Te_0, gr_Te_1, gr_Bo_0, gr_Bo_1, gr_Ia_0, gr_Ib_0, gr_Mo_0, gr_Mo_7, gr_Mo_8, gr_Mo_9, gr_Mo_10, gr_Mo_11, gr_Mo_12, gr_Mo_15, gr_Mo_16, gr_Mo_17, gr_Mo_18, gr_Mo_20, gr_Mo_28, gr_Mo_29, gr_Mo_32, gr_Mo_33, gr_Mo_34, gr_Mo_35, gr_Mo_36, gr_Mo_37, gr_Ra_0, gr_Ra_1, gr_Ra_2, gr_Ra_3, gr_Ra_4, gr_Ra_5, gr_Ra_6, gr_Rb_0, gr_Rb_1, gr_Rb_2, gr_Rb_3, gr_Rb_4, gr_Rb_5, gr_Rb_6, gi_LD_9, gi_Rd_1, gi_Rd_2, gi_Rd_3, gi_Rd_4, gi_Nt_7, gi_Nt_8, gi_Nt_9, gi_Nt_10, gi_Pl_2, gi_Pl_3, gi_Ro_3, gi_Ro_4, gi_Ro_5, gi_Pa_1, gi_Pa_2, gi_Te_2, gi_Bo_2, gi_Ia_1, gi_Ia_2, gi_Ib_1, gi_Ib_2, gi_Mo_1, gi_Mo_2, gi_Mo_3, gi_Mo_4, gi_Mo_5, gi_Mo_6, gi_Mo_13, gl_Mo_14, gi_Mo_19, gi_Mo_21, gi_Mo_22, gi_Mo_23, gi_Mo_24, gi_Mo_25, gi_Mo_26, gi_Mo_27, gi_Mo_30, gi_Mo_31, gi_Ra_7, gi_Ra_8, gi_Ra_9, gi_Ra_10, gi_Rb_7, gi_Rb_8, gi_Rb_9, gi_Rb_10, ai_9 hc6, e9, hmw, if_pos hw', ne, if_false, f1, f2]
  · have hw' : ¬ (nV V (12 + s) - nV V (24 + c)) + (nV V (24 + c) - nV V (12 + s)) ≤ nV V (18 + s) := hw
    obtain ⟨σb, f2, cb, ob⟩ := visitA_C (ς := ς) h hs hc
    refine ⟨σb, ?_, by unfold tVb; rw [if_neg hw]; exact cb, ob⟩
    simp only [f_X3_visit, if_true, ite_true, reduceIte, Option.bind_some, Option.bind_none, bT1_some, io_LD, io_Rd, io_Mt, io_Nt, io_Pl, io_Ro, io_Pa, io_Te, io_Bo, io_Ia, io_Ib, io_Mo, io_Ra, io_Rb, gr_LD_0, gr_LD_1, gr_LD_2, gr_LD_3, gr_LD_4, gr_LD_5, gr_LD_6, gr_LD_7, gr_LD_8, gr_Rd_0, gr_Mt_0, gr_Mt_1, gr_Nt_0, gr_Nt_1, gr_Nt_2, gr_Nt_3, gr_Nt_4, gr_Nt_5, gr_Nt_6, gr_Pl_0, gr_Pl_1, gr_Ro_0, gr_Ro_1, gr_Ro_2, gr_Pa_0, gr_Te_0, gr_Te_1, gr_Bo_0, gr_Bo_1, gr_Ia_0, gr_Ib_0, gr_Mo_0, gr_Mo_7, gr_Mo_8, gr_Mo_9, gr_Mo_10, gr_Mo_11, gr_Mo_12, gr_Mo_15, gr_Mo_16, gr_Mo_17, gr_Mo_18, gr_Mo_20, gr_Mo_28, gr_Mo_29, gr_Mo_32, gr_Mo_33, gr_Mo_34, gr_Mo_35, gr_Mo_36, gr_Mo_37, gr_Ra_0, gr_Ra_1, gr_Ra_2, gr_Ra_3, gr_Ra_4, gr_Ra_5, gr_Ra_6, gr_Rb_0, gr_Rb_1, gr_Rb_2, gr_Rb_3, gr_Rb_4, gr_Rb_5, gr_Rb_6, gi_LD_9, gi_Rd_1, gi_Rd_2, gi_Rd_3, gi_Rd_4, gi_Nt_7, gi_Nt_8, gi_Nt_9, gi_Nt_10, gi_Pl_2, gi_Pl_3, gi_Ro_3, gi_Ro_4, gi_Ro_5, gi_Pa_1, gi_Pa_2, gi_Te_2, gi_Bo_2, gi_Ia_1, gi_Ia_2, gi_Ib_1, gi_Ib_2, gi_Mo_1, gi_Mo_2, gi_Mo_3, gi_Mo_4, gi_Mo_5, gi_Mo_6, gi_Mo_13, gl_Mo_14, gi_Mo_19, gi_Mo_21, gi_Mo_22, gi_Mo_23, gi_Mo_24, gi_Mo_25, gi_Mo_26, gi_Mo_27, gi_Mo_30, gi_Mo_31, gi_Ra_7, gi_Ra_8, gi_Ra_9, gi_Ra_10, gi_Rb_7, gi_Rb_8, gi_Rb_9, gi_Rb_10, ai_9 hc6, e9, hmw, if_neg hw', f2]
theorem do_C {dz : Nat → Nat} (hdz : DZ dz) {z : Nat} (h : CC sw σ V H D n m) (hz : z < 2147483648) (hs0 : σ 0 9 = nI z) (he : nV V 50 + 1 ≤ 20000) :
    ∃ σ', f_X12_doByDraws 0 (enc sw σ ς) = some (enc sw σ' ς) ∧ CC sw σ' (tDr dz H D n m (σ 304) (σ 305) (σ 306) (σ 307) (V, z)).1 H D n m ∧ σ' 0 9 = nI (tDr dz H D n m (σ 304) (σ 305) (σ 306) (σ 307) (V, z)).2 ∧ ∀ a, (a < 4 ∨ 12 ≤ a) → a ≠ 0 → σ' a = σ a := by
  obtain ⟨⟨r1, r2, r3, r4⟩, r5, r6, ⟨c1, c2, c3, c4⟩, -⟩ := id h.1
  have hra := rA_or sw
  have ne : ¬ (1 : Int32) = 0 := by decide
  have t00 : (nI 0 = 0) = True := eq_true rfl
  unfold tDr
  by_cases hn0 : n = 0
  · refine ⟨σ, ?_, by rw [if_pos (Or.inl hn0)]; exact h, by rw [if_pos (Or.inl hn0)]; exact hs0, fun _ _ _ => rfl⟩
    rw [hn0] at c3
    simp only [f_X12_doByDraws, if_true, ite_true, reduceIte, Option.bind_some, Option.bind_none, bT1_some, io_LD, io_Rd, io_Mt, io_Nt, io_Pl, io_Ro, io_Pa, io_Te, io_Bo, io_Ia, io_Ib, io_Mo, io_Ra, io_Rb, gr_LD_0, gr_LD_1, gr_LD_2, gr_LD_3, gr_LD_4, gr_LD_5, gr_LD_6, gr_LD_7, gr_LD_8, gr_Rd_0, gr_Mt_0, gr_Mt_1, gr_Nt_0, gr_Nt_1, gr_Nt_2, gr_Nt_3, gr_Nt_4, gr_Nt_5, gr_Nt_6, gr_Pl_0, gr_Pl_1, gr_Ro_0, gr_Ro_1, gr_Ro_2, gr_Pa_0, gr_Te_0, gr_Te_1, gr_Bo_0, gr_Bo_1, gr_Ia_0, gr_Ib_0, gr_Mo_0, gr_Mo_7, gr_Mo_8, gr_Mo_9, gr_Mo_10, gr_Mo_11, gr_Mo_12, gr_Mo_15, gr_Mo_16, gr_Mo_17, gr_Mo_18, gr_Mo_20, gr_Mo_28, gr_Mo_29, gr_Mo_32, gr_Mo_33, gr_Mo_34, gr_Mo_35, gr_Mo_36, gr_Mo_37, gr_Ra_0, gr_Ra_1, gr_Ra_2, gr_Ra_3, gr_Ra_4, gr_Ra_5, gr_Ra_6, gr_Rb_0, gr_Rb_1, gr_Rb_2, gr_Rb_3, gr_Rb_4, gr_Rb_5, gr_Rb_6, gi_LD_9, gi_Rd_1, gi_Rd_2, gi_Rd_3, gi_Rd_4, gi_Nt_7, gi_Nt_8, gi_Nt_9, gi_Nt_10, gi_Pl_2, gi_Pl_3, gi_Ro_3, gi_Ro_4, gi_Ro_5, gi_Pa_1, gi_Pa_2, gi_Te_2, gi_Bo_2, gi_Ia_1, gi_Ia_2, gi_Ib_1, gi_Ib_2, gi_Mo_1, gi_Mo_2, gi_Mo_3, gi_Mo_4, gi_Mo_5, gi_Mo_6, gi_Mo_13, gl_Mo_14, gi_Mo_19, gi_Mo_21, gi_Mo_22, gi_Mo_23, gi_Mo_24, gi_Mo_25, gi_Mo_26, gi_Mo_27, gi_Mo_30, gi_Mo_31, gi_Ra_7, gi_Ra_8, gi_Ra_9, gi_Ra_10, gi_Rb_7, gi_Rb_8, gi_Rb_9, gi_Rb_10, c3, t00]
  · have tn : (nI n = 0) = False := eq_false (nI_ne0 (by omega) (by omega))
    by_cases hm0 : m = 0
    · refine ⟨σ, ?_, by rw [if_pos (Or.inr hm0)]; exact h, by rw [if_pos (Or.inr hm0)]; exact hs0, fun _ _ _ => rfl⟩
      rw [hm0] at c4
      simp only [f_X12_doByDraws, if_true, ite_true, reduceIte, Option.bind_some, Option.bind_none, bT1_some, io_LD, io_Rd, io_Mt, io_Nt, io_Pl, io_Ro, io_Pa, io_Te, io_Bo, io_Ia, io_Ib, io_Mo, io_Ra, io_Rb, gr_LD_0, gr_LD_1, gr_LD_2, gr_LD_3, gr_LD_4, gr_LD_5, gr_LD_6, gr_LD_7, gr_LD_8, gr_Rd_0, gr_Mt_0, gr_Mt_1, gr_Nt_0, gr_Nt_1, gr_Nt_2, gr_Nt_3, gr_Nt_4, gr_Nt_5, gr_Nt_6, gr_Pl_0, gr_Pl_1, gr_Ro_0, gr_Ro_1, gr_Ro_2, gr_Pa_0, gr_Te_0, gr_Te_1, gr_Bo_0, gr_Bo_1, gr_Ia_0, gr_Ib_0, gr_Mo_0, gr_Mo_7, gr_Mo_8, gr_Mo_9, gr_Mo_10, gr_Mo_11, gr_Mo_12, gr_Mo_15, gr_Mo_16, gr_Mo_17, gr_Mo_18, gr_Mo_20, gr_Mo_28, gr_Mo_29, gr_Mo_32, gr_Mo_33, gr_Mo_34, gr_Mo_35, gr_Mo_36, gr_Mo_37, gr_Ra_0, gr_Ra_1, gr_Ra_2, gr_Ra_3, gr_Ra_4, gr_Ra_5, gr_Ra_6, gr_Rb_0, gr_Rb_1, gr_Rb_2, gr_Rb_3, gr_Rb_4, gr_Rb_5, gr_Rb_6, gi_LD_9, gi_Rd_1, gi_Rd_2, gi_Rd_3, gi_Rd_4, gi_Nt_7, gi_Nt_8, gi_Nt_9, gi_Nt_10, gi_Pl_2, gi_Pl_3, gi_Ro_3, gi_Ro_4, gi_Ro_5, gi_Pa_1, gi_Pa_2, gi_Te_2, gi_Bo_2, gi_Ia_1, gi_Ia_2, gi_Ib_1, gi_Ib_2, gi_Mo_1, gi_Mo_2, gi_Mo_3, gi_Mo_4, gi_Mo_5, gi_Mo_6, gi_Mo_13, gl_Mo_14, gi_Mo_19, gi_Mo_21, gi_Mo_22, gi_Mo_23, gi_Mo_24, gi_Mo_25, gi_Mo_26, gi_Mo_27, gi_Mo_30, gi_Mo_31, gi_Ra_7, gi_Ra_8, gi_Ra_9, gi_Ra_10, gi_Rb_7, gi_Rb_8, gi_Rb_9, gi_Rb_10, c3, tn, if_false, c4, t00]
    · have tm : (nI m = 0) = False := eq_false (nI_ne0 (by omega) (by omega))
      rw [if_neg (by omega)]
      have hr5 : rA sw ≠ 0 := by omega
      let σ1 : Sg := uA σ 0 (upd (σ 0) 9 (nI (dz z)))
      let σ2 : Sg := uA σ1 0 (upd (σ1 0) 9 (nI (dz (dz z))))
      let σ3 : Sg := uA σ2 0 (upd (σ2 0) 9 (nI (dz (dz (dz z)))))
      have d1 : f_X12_drawOf 0 (6 : Int32) (enc sw σ ς) = some (nI (dz z / 65536 % 6), enc sw σ1 ς) := draw_C hdz (k := 6) hz hs0 (by omega) (by omega)
      have d2 : f_X12_drawOf 0 (nI n) (enc sw σ1 ς) = some (nI (dz (dz z) / 65536 % n), enc sw σ2 ς) := draw_C hdz (k := n) (hdz.1 z) (by show uA σ 0 _ 0 9 = _; rw [uA_s, pk_us]) (by omega) (by omega)
      have d3 : f_X12_drawOf 0 (nI m) (enc sw σ2 ς) = some (nI (dz (dz (dz z)) / 65536 % m), enc sw σ3 ς) := draw_C hdz (k := m) (hdz.1 _) (by show uA σ1 0 _ 0 9 = _; rw [uA_s, pk_us]) (by omega) (by omega)
      have o1 : ∀ a, a ≠ 0 → σ1 a = σ a := fun a ha => uA_n ha
      have o2 : ∀ a, a ≠ 0 → σ2 a = σ a := fun a ha => (uA_n ha).trans (o1 a ha)
      have o3 : ∀ a, a ≠ 0 → σ3 a = σ a := fun a ha => (uA_n ha).trans (o2 a ha)
      have s3 : σ3 0 9 = nI (dz (dz (dz z))) := by show uA σ2 0 _ 0 9 = _; rw [uA_s, pk_us]
      have h3 : CC sw σ3 V H D n m := CC.off h o3
      have c31 : σ1 (rA sw) 9 = nI n := by rw [o1 _ hr5]; exact c3
      have c42 : σ2 (rA sw) 10 = nI m := by rw [o2 _ hr5]; exact c4
      have hs : dz (dz z) / 65536 % n < n := Nat.mod_lt _ (by omega)
      have hc : dz (dz (dz z)) / 65536 % m < m := Nat.mod_lt _ (by omega)
      have hw6 : dz z / 65536 % 6 < 6 := Nat.mod_lt _ (by omega)
      have wrap : ∀ σ' : Sg, (∀ a, (a < 4 ∨ 12 ≤ a) → σ' a = σ3 a) → σ' 0 9 = nI (dz (dz (dz z))) ∧ ∀ a, (a < 4 ∨ 12 ≤ a) → a ≠ 0 → σ' a = σ a := fun σ' ho => ⟨by rw [ho 0 (by omega)]; exact s3, fun a ha hb => by rw [ho a ha, o3 a hb]⟩
      generalize dz z / 65536 % 6 = w at *
      generalize dz (dz z) / 65536 % n = s at *
      generalize dz (dz (dz z)) / 65536 % m = c at *
      by_cases h5 : w = 5
      · obtain ⟨σb, f2, cb, ob⟩ := endEvening_C (ς := ς) h3 he
        rw [o3 305 (by omega)] at cb
        have t5 : (nI w = (5 : Int32)) = True := eq_true (by rw [h5]; rfl)
        refine ⟨σb, ?_, by rw [if_pos h5]; exact cb, wrap σb ob⟩
        simp only [f_X12_doByDraws, if_true, ite_true, reduceIte, Option.bind_some, Option.bind_none, bT1_some, io_LD, io_Rd, io_Mt, io_Nt, io_Pl, io_Ro, io_Pa, io_Te, io_Bo, io_Ia, io_Ib, io_Mo, io_Ra, io_Rb, gr_LD_0, gr_LD_1, gr_LD_2, gr_LD_3, gr_LD_4, gr_LD_5, gr_LD_6, gr_LD_7, gr_LD_8, gr_Rd_0, gr_Mt_0, gr_Mt_1, gr_Nt_0, gr_Nt_1, gr_Nt_2, gr_Nt_3, gr_Nt_4, gr_Nt_5, gr_Nt_6, gr_Pl_0, gr_Pl_1, gr_Ro_0, gr_Ro_1, gr_Ro_2, gr_Pa_0, gr_Te_0, gr_Te_1, gr_Bo_0, gr_Bo_1, gr_Ia_0, gr_Ib_0, gr_Mo_0, gr_Mo_7, gr_Mo_8, gr_Mo_9, gr_Mo_10, gr_Mo_11, gr_Mo_12, gr_Mo_15, gr_Mo_16, gr_Mo_17, gr_Mo_18, gr_Mo_20, gr_Mo_28, gr_Mo_29, gr_Mo_32, gr_Mo_33, gr_Mo_34, gr_Mo_35, gr_Mo_36, gr_Mo_37, gr_Ra_0, gr_Ra_1, gr_Ra_2, gr_Ra_3, gr_Ra_4, gr_Ra_5, gr_Ra_6, gr_Rb_0, gr_Rb_1, gr_Rb_2, gr_Rb_3, gr_Rb_4, gr_Rb_5, gr_Rb_6, gi_LD_9, gi_Rd_1, gi_Rd_2, gi_Rd_3, gi_Rd_4, gi_Nt_7, gi_Nt_8, gi_Nt_9, gi_Nt_10, gi_Pl_2, gi_Pl_3, gi_Ro_3, gi_Ro_4, gi_Ro_5, gi_Pa_1, gi_Pa_2, gi_Te_2, gi_Bo_2, gi_Ia_1, gi_Ia_2, gi_Ib_1, gi_Ib_2, gi_Mo_1, gi_Mo_2, gi_Mo_3, gi_Mo_4, gi_Mo_5, gi_Mo_6, gi_Mo_13, gl_Mo_14, gi_Mo_19, gi_Mo_21, gi_Mo_22, gi_Mo_23, gi_Mo_24, gi_Mo_25, gi_Mo_26, gi_Mo_27, gi_Mo_30, gi_Mo_31, gi_Ra_7, gi_Ra_8, gi_Ra_9, gi_Ra_10, gi_Rb_7, gi_Rb_8, gi_Rb_9, gi_Rb_10, c3, tn, if_false, c4, tm, d1, c31, d2, c42, d3, t5, f2]
      · have t5 : (nI w = (5 : Int32)) = False := eq_false (fun e => h5 ((nI_eq (b := 5) (by omega) (by omega)).mp e))
        rw [if_neg h5]
        by_cases h4 : w = 4
        · have t4 : (nI w = (4 : Int32)) = True := eq_true (by rw [h4]; rfl)
          rw [if_pos h4]
          by_cases hv : zMv V (nI H) c 1 = true
          · obtain ⟨b, b1, b2⟩ := zMv_to hv r1
            obtain ⟨σb, f2, cb, ob⟩ := pass_C (ς := ς) h3 hc 1 b1 b2
            refine ⟨σb, ?_, by rw [if_pos hv]; show CC sw σb (tCarry V c (V (24 + c) + 1)) H D n m; rw [b1]; exact cb, wrap σb ob⟩
            simp only [f_X12_doByDraws, if_true, ite_true, reduceIte, Option.bind_some, Option.bind_none, bT1_some, io_LD, io_Rd, io_Mt, io_Nt, io_Pl, io_Ro, io_Pa, io_Te, io_Bo, io_Ia, io_Ib, io_Mo, io_Ra, io_Rb, gr_LD_0, gr_LD_1, gr_LD_2, gr_LD_3, gr_LD_4, gr_LD_5, gr_LD_6, gr_LD_7, gr_LD_8, gr_Rd_0, gr_Mt_0, gr_Mt_1, gr_Nt_0, gr_Nt_1, gr_Nt_2, gr_Nt_3, gr_Nt_4, gr_Nt_5, gr_Nt_6, gr_Pl_0, gr_Pl_1, gr_Ro_0, gr_Ro_1, gr_Ro_2, gr_Pa_0, gr_Te_0, gr_Te_1, gr_Bo_0, gr_Bo_1, gr_Ia_0, gr_Ib_0, gr_Mo_0, gr_Mo_7, gr_Mo_8, gr_Mo_9, gr_Mo_10, gr_Mo_11, gr_Mo_12, gr_Mo_15, gr_Mo_16, gr_Mo_17, gr_Mo_18, gr_Mo_20, gr_Mo_28, gr_Mo_29, gr_Mo_32, gr_Mo_33, gr_Mo_34, gr_Mo_35, gr_Mo_36, gr_Mo_37, gr_Ra_0, gr_Ra_1, gr_Ra_2, gr_Ra_3, gr_Ra_4, gr_Ra_5, gr_Ra_6, gr_Rb_0, gr_Rb_1, gr_Rb_2, gr_Rb_3, gr_Rb_4, gr_Rb_5, gr_Rb_6, gi_LD_9, gi_Rd_1, gi_Rd_2, gi_Rd_3, gi_Rd_4, gi_Nt_7, gi_Nt_8, gi_Nt_9, gi_Nt_10, gi_Pl_2, gi_Pl_3, gi_Ro_3, gi_Ro_4, gi_Ro_5, gi_Pa_1, gi_Pa_2, gi_Te_2, gi_Bo_2, gi_Ia_1, gi_Ia_2, gi_Ib_1, gi_Ib_2, gi_Mo_1, gi_Mo_2, gi_Mo_3, gi_Mo_4, gi_Mo_5, gi_Mo_6, gi_Mo_13, gl_Mo_14, gi_Mo_19, gi_Mo_21, gi_Mo_22, gi_Mo_23, gi_Mo_24, gi_Mo_25, gi_Mo_26, gi_Mo_27, gi_Mo_30, gi_Mo_31, gi_Ra_7, gi_Ra_8, gi_Ra_9, gi_Ra_10, gi_Rb_7, gi_Rb_8, gi_Rb_9, gi_Rb_10, c3, tn, if_false, c4, tm, d1, c31, d2, c42, d3, t5, t4, mayPass_C h3 hc 1, if_pos hv, ne, f2]
          · refine ⟨σ3, ?_, by rw [if_neg hv]; exact h3, wrap σ3 (fun _ _ => rfl)⟩
            simp only [f_X12_doByDraws, if_true, ite_true, reduceIte, Option.bind_some, Option.bind_none, bT1_some, io_LD, io_Rd, io_Mt, io_Nt, io_Pl, io_Ro, io_Pa, io_Te, io_Bo, io_Ia, io_Ib, io_Mo, io_Ra, io_Rb, gr_LD_0, gr_LD_1, gr_LD_2, gr_LD_3, gr_LD_4, gr_LD_5, gr_LD_6, gr_LD_7, gr_LD_8, gr_Rd_0, gr_Mt_0, gr_Mt_1, gr_Nt_0, gr_Nt_1, gr_Nt_2, gr_Nt_3, gr_Nt_4, gr_Nt_5, gr_Nt_6, gr_Pl_0, gr_Pl_1, gr_Ro_0, gr_Ro_1, gr_Ro_2, gr_Pa_0, gr_Te_0, gr_Te_1, gr_Bo_0, gr_Bo_1, gr_Ia_0, gr_Ib_0, gr_Mo_0, gr_Mo_7, gr_Mo_8, gr_Mo_9, gr_Mo_10, gr_Mo_11, gr_Mo_12, gr_Mo_15, gr_Mo_16, gr_Mo_17, gr_Mo_18, gr_Mo_20, gr_Mo_28, gr_Mo_29, gr_Mo_32, gr_Mo_33, gr_Mo_34, gr_Mo_35, gr_Mo_36, gr_Mo_37, gr_Ra_0, gr_Ra_1, gr_Ra_2, gr_Ra_3, gr_Ra_4, gr_Ra_5, gr_Ra_6, gr_Rb_0, gr_Rb_1, gr_Rb_2, gr_Rb_3, gr_Rb_4, gr_Rb_5, gr_Rb_6, gi_LD_9, gi_Rd_1, gi_Rd_2, gi_Rd_3, gi_Rd_4, gi_Nt_7, gi_Nt_8, gi_Nt_9, gi_Nt_10, gi_Pl_2, gi_Pl_3, gi_Ro_3, gi_Ro_4, gi_Ro_5, gi_Pa_1, gi_Pa_2, gi_Te_2, gi_Bo_2, gi_Ia_1, gi_Ia_2, gi_Ib_1, gi_Ib_2, gi_Mo_1, gi_Mo_2, gi_Mo_3, gi_Mo_4, gi_Mo_5, gi_Mo_6, gi_Mo_13, gl_Mo_14, gi_Mo_19, gi_Mo_21, gi_Mo_22, gi_Mo_23, gi_Mo_24, gi_Mo_25, gi_Mo_26, gi_Mo_27, gi_Mo_30, gi_Mo_31, gi_Ra_7, gi_Ra_8, gi_Ra_9, gi_Ra_10, gi_Rb_7, gi_Rb_8, gi_Rb_9, gi_Rb_10, c3, tn, if_false, c4, tm, d1, c31, d2, c42, d3, t5, t4, mayPass_C h3 hc 1, if_neg hv]
        · have t4 : (nI w = (4 : Int32)) = False := eq_false (fun e => h4 ((nI_eq (b := 4) (by omega) (by omega)).mp e))
          rw [if_neg h4]
          obtain ⟨σb, f2, cb, ob⟩ := visit_C (ς := ς) h3 hs hc
          rw [o3 306 (by omega), o3 307 (by omega), o3 304 (by omega), o3 305 (by omega)] at cb
          refine ⟨σb, ?_, cb, wrap σb ob⟩
          simp only [f_X12_doByDraws, if_true, ite_true, reduceIte, Option.bind_some, Option.bind_none, bT1_some, io_LD, io_Rd, io_Mt, io_Nt, io_Pl, io_Ro, io_Pa, io_Te, io_Bo, io_Ia, io_Ib, io_Mo, io_Ra, io_Rb, gr_LD_0, gr_LD_1, gr_LD_2, gr_LD_3, gr_LD_4, gr_LD_5, gr_LD_6, gr_LD_7, gr_LD_8, gr_Rd_0, gr_Mt_0, gr_Mt_1, gr_Nt_0, gr_Nt_1, gr_Nt_2, gr_Nt_3, gr_Nt_4, gr_Nt_5, gr_Nt_6, gr_Pl_0, gr_Pl_1, gr_Ro_0, gr_Ro_1, gr_Ro_2, gr_Pa_0, gr_Te_0, gr_Te_1, gr_Bo_0, gr_Bo_1, gr_Ia_0, gr_Ib_0, gr_Mo_0, gr_Mo_7, gr_Mo_8, gr_Mo_9, gr_Mo_10, gr_Mo_11, gr_Mo_12, gr_Mo_15, gr_Mo_16, gr_Mo_17, gr_Mo_18, gr_Mo_20, gr_Mo_28, gr_Mo_29, gr_Mo_32, gr_Mo_33, gr_Mo_34, gr_Mo_35, gr_Mo_36, gr_Mo_37, gr_Ra_0, gr_Ra_1, gr_Ra_2, gr_Ra_3, gr_Ra_4, gr_Ra_5, gr_Ra_6, gr_Rb_0, gr_Rb_1, gr_Rb_2, gr_Rb_3, gr_Rb_4, gr_Rb_5, gr_Rb_6, gi_LD_9, gi_Rd_1, gi_Rd_2, gi_Rd_3, gi_Rd_4, gi_Nt_7, gi_Nt_8, gi_Nt_9, gi_Nt_10, gi_Pl_2, gi_Pl_3, gi_Ro_3, gi_Ro_4, gi_Ro_5, gi_Pa_1, gi_Pa_2, gi_Te_2, gi_Bo_2, gi_Ia_1, gi_Ia_2, gi_Ib_1, gi_Ib_2, gi_Mo_1, gi_Mo_2, gi_Mo_3, gi_Mo_4, gi_Mo_5, gi_Mo_6, gi_Mo_13, gl_Mo_14, gi_Mo_19, gi_Mo_21, gi_Mo_22, gi_Mo_23, gi_Mo_24, gi_Mo_25, gi_Mo_26, gi_Mo_27, gi_Mo_30, gi_Mo_31, gi_Ra_7, gi_Ra_8, gi_Ra_9, gi_Ra_10, gi_Rb_7, gi_Rb_8, gi_Rb_9, gi_Rb_10, c3, tn, if_false, c4, tm, d1, c31, d2, c42, d3, t5, t4, f2]
theorem visitA_M (h : I_row (rA sw) σ H D n m) (hN : NB n m H (σ 306) (σ 307) (σ 308)) (hs : s < n) (hc : c < m) : f_X13_drifts_100 302 (nI s) (nI c) (enc sw σ ς) = some (enc sw (uA σ 308 (tVa (σ 308) (σ 306) (σ 307) (σ 304) (σ 305) s c)) ς) := by
  have ne : ¬ (1 : Int32) = 0 := by decide
  unfold tVa
  have hm := may_M (sw := sw) (ς := ς) hN hs hc h.1.2.2.1 h.1.2.2.2
  by_cases hmay : zMay (σ 308) s c = true
  · rw [if_pos hmay]
    simp only [f_X13_drifts_100, f_X13_drifts_116, hm, if_pos hmay, bT1_some, ne, if_false, sings_M h hN hs hc hmay]
  · rw [if_neg hmay, uA_id]
    simp only [f_X13_drifts_100, f_X13_drifts_116, hm, if_neg hmay, bT1_some, if_true]
theorem drifts_M {dz : Nat → Nat} (hdz : DZ dz) {z : Nat} (h : I_row (rA sw) σ H D n m) (hN : NB n m H (σ 306) (σ 307) (σ 308)) (hn0 : 0 < n) (hm0 : 0 < m) (hz : z < 2147483648) (hs0 : ς 302 14 = lN z) (he : nV (σ 308) 50 + 1 ≤ 20000) :
    ∃ ς', f_X13_drifts 302 (enc sw σ ς) = some (enc sw (uA σ 308 (tDr dz H D n m (σ 304) (σ 305) (σ 306) (σ 307) (σ 308, z)).1) ς') ∧ ς' 302 14 = lN (tDr dz H D n m (σ 304) (σ 305) (σ 306) (σ 307) (σ 308, z)).2 ∧ ς' 311 = ς 311 := by
  obtain ⟨⟨r1, r2, r3, r4⟩, r5, r6, -, ⟨d1, d2, d3, d4⟩, -⟩ := id h
  have hra := rA_or sw
  have ne : ¬ (1 : Int32) = 0 := by decide
  unfold tDr
  rw [if_neg (by omega)]
  let ς1 : Lg := uL ς 302 (vp_updL (ς 302) 14 (lN (dz z)))
  let ς2 : Lg := uL ς1 302 (vp_updL (ς1 302) 14 (lN (dz (dz z))))
  let ς3 : Lg := uL ς2 302 (vp_updL (ς2 302) 14 (lN (dz (dz (dz z)))))
  have w1 : f_X13_draw 302 (6 : Int32) (enc sw σ ς) = some (nI (dz z / 65536 % 6), enc sw σ ς1) := draw_M hdz (k := 6) hz hs0 (by omega) (by omega)
  have w2 : f_X13_draw 302 (nI n) (enc sw σ ς1) = some (nI (dz (dz z) / 65536 % n), enc sw σ ς2) := draw_M hdz (k := n) (hdz.1 z) (by show uL ς 302 _ 302 14 = _; rw [uL_s, pk_uLs]) (by omega) (by omega)
  have w3 : f_X13_draw 302 (nI m) (enc sw σ ς2) = some (nI (dz (dz (dz z)) / 65536 % m), enc sw σ ς3) := draw_M hdz (k := m) (hdz.1 _) (by show uL ς1 302 _ 302 14 = _; rw [uL_s, pk_uLs]) (by omega) (by omega)
  have hs : dz (dz z) / 65536 % n < n := Nat.mod_lt _ (by omega)
  have hc : dz (dz (dz z)) / 65536 % m < m := Nat.mod_lt _ (by omega)
  have hw6 : dz z / 65536 % 6 < 6 := Nat.mod_lt _ (by omega)
  have q14 : ς3 302 14 = lN (dz (dz (dz z))) := by show uL ς2 302 _ 302 14 = _; rw [uL_s, pk_uLs]
  have q312 : ς3 311 = ς 311 := by show uL (uL (uL ς 302 _) 302 _) 302 _ 311 = _; rw [uL_n (by omega), uL_n (by omega), uL_n (by omega)]
  refine ⟨ς3, ?_, q14, q312⟩
  generalize dz z / 65536 % 6 = w at *
  generalize dz (dz z) / 65536 % n = s at *
  generalize dz (dz (dz z)) / 65536 % m = c at *
  by_cases h5 : w = 5
  · have t5 : (nI w = (5 : Int32)) = True := eq_true (by rw [h5]; rfl)
    have t3 : ((3 : Int32) < nI w) = True := eq_true (by rw [h5]; decide)
    rw [if_pos h5]
    simp only [f_X13_drifts, if_true, ite_true, reduceIte, Option.bind_some, Option.bind_none, bT1_some, io_LD, io_Rd, io_Mt, io_Nt, io_Pl, io_Ro, io_Pa, io_Te, io_Bo, io_Ia, io_Ib, io_Mo, io_Ra, io_Rb, gr_LD_0, gr_LD_1, gr_LD_2, gr_LD_3, gr_LD_4, gr_LD_5, gr_LD_6, gr_LD_7, gr_LD_8, gr_Rd_0, gr_Mt_0, gr_Mt_1, gr_Nt_0, gr_Nt_1, gr_Nt_2, gr_Nt_3, gr_Nt_4, gr_Nt_5, gr_Nt_6, gr_Pl_0, gr_Pl_1, gr_Ro_0, gr_Ro_1, gr_Ro_2, gr_Pa_0, gr_Te_0, gr_Te_1, gr_Bo_0, gr_Bo_1, gr_Ia_0, gr_Ib_0, gr_Mo_0, gr_Mo_7, gr_Mo_8, gr_Mo_9, gr_Mo_10, gr_Mo_11, gr_Mo_12, gr_Mo_15, gr_Mo_16, gr_Mo_17, gr_Mo_18, gr_Mo_20, gr_Mo_28, gr_Mo_29, gr_Mo_32, gr_Mo_33, gr_Mo_34, gr_Mo_35, gr_Mo_36, gr_Mo_37, gr_Ra_0, gr_Ra_1, gr_Ra_2, gr_Ra_3, gr_Ra_4, gr_Ra_5, gr_Ra_6, gr_Rb_0, gr_Rb_1, gr_Rb_2, gr_Rb_3, gr_Rb_4, gr_Rb_5, gr_Rb_6, gi_LD_9, gi_Rd_1, gi_Rd_2, gi_Rd_3, gi_Rd_4, gi_Nt_7, gi_Nt_8, gi_Nt_9, gi_Nt_10, gi_Pl_2, gi_Pl_3, gi_Ro_3, gi_Ro_4, gi_Ro_5, gi_Pa_1, gi_Pa_2, gi_Te_2, gi_Bo_2, gi_Ia_1, gi_Ia_2, gi_Ib_1, gi_Ib_2, gi_Mo_1, gi_Mo_2, gi_Mo_3, gi_Mo_4, gi_Mo_5, gi_Mo_6, gi_Mo_13, gl_Mo_14, gi_Mo_19, gi_Mo_21, gi_Mo_22, gi_Mo_23, gi_Mo_24, gi_Mo_25, gi_Mo_26, gi_Mo_27, gi_Mo_30, gi_Mo_31, gi_Ra_7, gi_Ra_8, gi_Ra_9, gi_Ra_10, gi_Rb_7, gi_Rb_8, gi_Rb_9, gi_Rb_10, w1, d3, w2, d4, w3, t3, t5, ends_M h hN he]
  · have t5 : (nI w = (5 : Int32)) = False := eq_false (fun e => h5 ((nI_eq (b := 5) (by omega) (by omega)).mp e))
    rw [if_neg h5]
    by_cases h4 : w = 4
    · have t3 : ((3 : Int32) < nI w) = True := eq_true (by rw [h4]; decide)
      rw [if_pos h4]
      by_cases hv : zMv (σ 308) (nI H) c 1 = true
      · rw [if_pos hv]
        simp only [f_X13_drifts, if_true, ite_true, reduceIte, Option.bind_some, Option.bind_none, bT1_some, io_LD, io_Rd, io_Mt, io_Nt, io_Pl, io_Ro, io_Pa, io_Te, io_Bo, io_Ia, io_Ib, io_Mo, io_Ra, io_Rb, gr_LD_0, gr_LD_1, gr_LD_2, gr_LD_3, gr_LD_4, gr_LD_5, gr_LD_6, gr_LD_7, gr_LD_8, gr_Rd_0, gr_Mt_0, gr_Mt_1, gr_Nt_0, gr_Nt_1, gr_Nt_2, gr_Nt_3, gr_Nt_4, gr_Nt_5, gr_Nt_6, gr_Pl_0, gr_Pl_1, gr_Ro_0, gr_Ro_1, gr_Ro_2, gr_Pa_0, gr_Te_0, gr_Te_1, gr_Bo_0, gr_Bo_1, gr_Ia_0, gr_Ib_0, gr_Mo_0, gr_Mo_7, gr_Mo_8, gr_Mo_9, gr_Mo_10, gr_Mo_11, gr_Mo_12, gr_Mo_15, gr_Mo_16, gr_Mo_17, gr_Mo_18, gr_Mo_20, gr_Mo_28, gr_Mo_29, gr_Mo_32, gr_Mo_33, gr_Mo_34, gr_Mo_35, gr_Mo_36, gr_Mo_37, gr_Ra_0, gr_Ra_1, gr_Ra_2, gr_Ra_3, gr_Ra_4, gr_Ra_5, gr_Ra_6, gr_Rb_0, gr_Rb_1, gr_Rb_2, gr_Rb_3, gr_Rb_4, gr_Rb_5, gr_Rb_6, gi_LD_9, gi_Rd_1, gi_Rd_2, gi_Rd_3, gi_Rd_4, gi_Nt_7, gi_Nt_8, gi_Nt_9, gi_Nt_10, gi_Pl_2, gi_Pl_3, gi_Ro_3, gi_Ro_4, gi_Ro_5, gi_Pa_1, gi_Pa_2, gi_Te_2, gi_Bo_2, gi_Ia_1, gi_Ia_2, gi_Ib_1, gi_Ib_2, gi_Mo_1, gi_Mo_2, gi_Mo_3, gi_Mo_4, gi_Mo_5, gi_Mo_6, gi_Mo_13, gl_Mo_14, gi_Mo_19, gi_Mo_21, gi_Mo_22, gi_Mo_23, gi_Mo_24, gi_Mo_25, gi_Mo_26, gi_Mo_27, gi_Mo_30, gi_Mo_31, gi_Ra_7, gi_Ra_8, gi_Ra_9, gi_Ra_10, gi_Rb_7, gi_Rb_8, gi_Rb_9, gi_Rb_10, w1, d3, w2, d4, w3, t3, t5, if_false, canBe_M h hc 1, if_pos hv, ne, carries_M (show c < 6 by omega) 1]
      · rw [if_neg hv]
        simp only [f_X13_drifts, if_true, ite_true, reduceIte, Option.bind_some, Option.bind_none, bT1_some, io_LD, io_Rd, io_Mt, io_Nt, io_Pl, io_Ro, io_Pa, io_Te, io_Bo, io_Ia, io_Ib, io_Mo, io_Ra, io_Rb, gr_LD_0, gr_LD_1, gr_LD_2, gr_LD_3, gr_LD_4, gr_LD_5, gr_LD_6, gr_LD_7, gr_LD_8, gr_Rd_0, gr_Mt_0, gr_Mt_1, gr_Nt_0, gr_Nt_1, gr_Nt_2, gr_Nt_3, gr_Nt_4, gr_Nt_5, gr_Nt_6, gr_Pl_0, gr_Pl_1, gr_Ro_0, gr_Ro_1, gr_Ro_2, gr_Pa_0, gr_Te_0, gr_Te_1, gr_Bo_0, gr_Bo_1, gr_Ia_0, gr_Ib_0, gr_Mo_0, gr_Mo_7, gr_Mo_8, gr_Mo_9, gr_Mo_10, gr_Mo_11, gr_Mo_12, gr_Mo_15, gr_Mo_16, gr_Mo_17, gr_Mo_18, gr_Mo_20, gr_Mo_28, gr_Mo_29, gr_Mo_32, gr_Mo_33, gr_Mo_34, gr_Mo_35, gr_Mo_36, gr_Mo_37, gr_Ra_0, gr_Ra_1, gr_Ra_2, gr_Ra_3, gr_Ra_4, gr_Ra_5, gr_Ra_6, gr_Rb_0, gr_Rb_1, gr_Rb_2, gr_Rb_3, gr_Rb_4, gr_Rb_5, gr_Rb_6, gi_LD_9, gi_Rd_1, gi_Rd_2, gi_Rd_3, gi_Rd_4, gi_Nt_7, gi_Nt_8, gi_Nt_9, gi_Nt_10, gi_Pl_2, gi_Pl_3, gi_Ro_3, gi_Ro_4, gi_Ro_5, gi_Pa_1, gi_Pa_2, gi_Te_2, gi_Bo_2, gi_Ia_1, gi_Ia_2, gi_Ib_1, gi_Ib_2, gi_Mo_1, gi_Mo_2, gi_Mo_3, gi_Mo_4, gi_Mo_5, gi_Mo_6, gi_Mo_13, gl_Mo_14, gi_Mo_19, gi_Mo_21, gi_Mo_22, gi_Mo_23, gi_Mo_24, gi_Mo_25, gi_Mo_26, gi_Mo_27, gi_Mo_30, gi_Mo_31, gi_Ra_7, gi_Ra_8, gi_Ra_9, gi_Ra_10, gi_Rb_7, gi_Rb_8, gi_Rb_9, gi_Rb_10, w1, d3, w2, d4, w3, t3, t5, if_false, canBe_M h hc 1, if_neg hv, uA_id]
    · have t3 : ((3 : Int32) < nI w) = False := eq_false (nI_nlt (b := w) (a := 3) (by omega) (by omega))
      rw [if_neg h4]
      have i12 : (12 : Int32) + nI s = nI (12 + s) := nI_add 12 s
      have i18 : (18 : Int32) + nI s = nI (18 + s) := nI_add 18 s
      have i24 : (24 : Int32) + nI c = nI (24 + c) := nI_add 24 c
      have l12 : 12 + s < 51 := by omega
      have l18 : 18 + s < 51 := by omega
      have l24 : 24 + c < 51 := by omega
      have ha := hN.at_ hs r1
      have hb := hN.lies hc r1
      have hl := hN.left hs
      have hap := apart_M (sw := sw) (σ := σ) (ς := ς3) (a := nV (σ 308) (12 + s)) (b := nV (σ 308) (24 + c)) (by omega) (by omega)
      have hst : (nV (σ 308) (12 + s) - nV (σ 308) (24 + c)) + (nV (σ 308) (24 + c) - nV (σ 308) (12 + s)) = zSt (σ 308) s c := rfl
      have hst2 := zSt_lt hN hs hc r1
      by_cases hw : zSt (σ 308) s c ≤ nV (σ 308) (18 + s)
      · have tl : (nI (nV (σ 308) (18 + s)) < nI (zSt (σ 308) s c)) = False := eq_false (nI_nlt hw (by omega))
        have hv : tVb (σ 308) s c = tWalk (σ 308) s (nV (σ 308) (24 + c)) := by unfold tVb; rw [if_pos hw]
        have hN2 := (tVb_NB hN hs hc r3 r4 r1).1
        rw [hv] at hN2
        rw [hv]
        have e24 : ∀ x, upd (σ 308) (18 + s) x (24 + c) = nI (nV (σ 308) (24 + c)) := fun x => by rw [pk_un (by omega)]; exact hb.1
        have hrow : I_row (rA sw) (uA σ 308 (tWalk (σ 308) s (nV (σ 308) (24 + c)))) H D n m := h.c (fun j hj => uA_n (by omega)) (fun j a b => by rw [uA_n (by omega)]) (fun j a b => uA_n (by omega))
        have hva := visitA_M (ς := ς3) (s := s) (c := c) hrow (by rw [uA_n (by omega), uA_n (by omega), uA_s]; exact hN2) hs hc
        rw [uA_s, uA_uA, uA_n (by omega), uA_n (by omega), uA_n (by omega), uA_n (by omega)] at hva
        have htw : upd (upd (σ 308) (18 + s) (nI (nV (σ 308) (18 + s) - zSt (σ 308) s c))) (12 + s) (nI (nV (σ 308) (24 + c))) = tWalk (σ 308) s (nV (σ 308) (24 + c)) := rfl
        simp only [f_X13_drifts, if_true, ite_true, reduceIte, Option.bind_some, Option.bind_none, bT1_some, io_LD, io_Rd, io_Mt, io_Nt, io_Pl, io_Ro, io_Pa, io_Te, io_Bo, io_Ia, io_Ib, io_Mo, io_Ra, io_Rb, gr_LD_0, gr_LD_1, gr_LD_2, gr_LD_3, gr_LD_4, gr_LD_5, gr_LD_6, gr_LD_7, gr_LD_8, gr_Rd_0, gr_Mt_0, gr_Mt_1, gr_Nt_0, gr_Nt_1, gr_Nt_2, gr_Nt_3, gr_Nt_4, gr_Nt_5, gr_Nt_6, gr_Pl_0, gr_Pl_1, gr_Ro_0, gr_Ro_1, gr_Ro_2, gr_Pa_0, gr_Te_0, gr_Te_1, gr_Bo_0, gr_Bo_1, gr_Ia_0, gr_Ib_0, gr_Mo_0, gr_Mo_7, gr_Mo_8, gr_Mo_9, gr_Mo_10, gr_Mo_11, gr_Mo_12, gr_Mo_15, gr_Mo_16, gr_Mo_17, gr_Mo_18, gr_Mo_20, gr_Mo_28, gr_Mo_29, gr_Mo_32, gr_Mo_33, gr_Mo_34, gr_Mo_35, gr_Mo_36, gr_Mo_37, gr_Ra_0, gr_Ra_1, gr_Ra_2, gr_Ra_3, gr_Ra_4, gr_Ra_5, gr_Ra_6, gr_Rb_0, gr_Rb_1, gr_Rb_2, gr_Rb_3, gr_Rb_4, gr_Rb_5, gr_Rb_6, gi_LD_9, gi_Rd_1, gi_Rd_2, gi_Rd_3, gi_Rd_4, gi_Nt_7, gi_Nt_8, gi_Nt_9, gi_Nt_10, gi_Pl_2, gi_Pl_3, gi_Ro_3, gi_Ro_4, gi_Ro_5, gi_Pa_1, gi_Pa_2, gi_Te_2, gi_Bo_2, gi_Ia_1, gi_Ia_2, gi_Ib_1, gi_Ib_2, gi_Mo_1, gi_Mo_2, gi_Mo_3, gi_Mo_4, gi_Mo_5, gi_Mo_6, gi_Mo_13, gl_Mo_14, gi_Mo_19, gi_Mo_21, gi_Mo_22, gi_Mo_23, gi_Mo_24, gi_Mo_25, gi_Mo_26, gi_Mo_27, gi_Mo_30, gi_Mo_31, gi_Ra_7, gi_Ra_8, gi_Ra_9, gi_Ra_10, gi_Rb_7, gi_Rb_8, gi_Rb_9, gi_Rb_10, w1, d3, w2, d4, w3, t3, if_false, i12, i24, i18, ai_308 l12, ai_308 l24, ai_308 l18, ha.1, hb.1, hap, hst, hl.1, tl, pk_sub hw, aw_308 l18, uA_s, e24, aw_308 l12, uA_uA, htw, hva]
      · have tl : (nI (nV (σ 308) (18 + s)) < nI (zSt (σ 308) s c)) = True := eq_true (nI_lt (by omega) (by omega))
        have hv : tVb (σ 308) s c = σ 308 := by unfold tVb; rw [if_neg hw]
        rw [hv]
        simp only [f_X13_drifts, if_true, ite_true, reduceIte, Option.bind_some, Option.bind_none, bT1_some, io_LD, io_Rd, io_Mt, io_Nt, io_Pl, io_Ro, io_Pa, io_Te, io_Bo, io_Ia, io_Ib, io_Mo, io_Ra, io_Rb, gr_LD_0, gr_LD_1, gr_LD_2, gr_LD_3, gr_LD_4, gr_LD_5, gr_LD_6, gr_LD_7, gr_LD_8, gr_Rd_0, gr_Mt_0, gr_Mt_1, gr_Nt_0, gr_Nt_1, gr_Nt_2, gr_Nt_3, gr_Nt_4, gr_Nt_5, gr_Nt_6, gr_Pl_0, gr_Pl_1, gr_Ro_0, gr_Ro_1, gr_Ro_2, gr_Pa_0, gr_Te_0, gr_Te_1, gr_Bo_0, gr_Bo_1, gr_Ia_0, gr_Ib_0, gr_Mo_0, gr_Mo_7, gr_Mo_8, gr_Mo_9, gr_Mo_10, gr_Mo_11, gr_Mo_12, gr_Mo_15, gr_Mo_16, gr_Mo_17, gr_Mo_18, gr_Mo_20, gr_Mo_28, gr_Mo_29, gr_Mo_32, gr_Mo_33, gr_Mo_34, gr_Mo_35, gr_Mo_36, gr_Mo_37, gr_Ra_0, gr_Ra_1, gr_Ra_2, gr_Ra_3, gr_Ra_4, gr_Ra_5, gr_Ra_6, gr_Rb_0, gr_Rb_1, gr_Rb_2, gr_Rb_3, gr_Rb_4, gr_Rb_5, gr_Rb_6, gi_LD_9, gi_Rd_1, gi_Rd_2, gi_Rd_3, gi_Rd_4, gi_Nt_7, gi_Nt_8, gi_Nt_9, gi_Nt_10, gi_Pl_2, gi_Pl_3, gi_Ro_3, gi_Ro_4, gi_Ro_5, gi_Pa_1, gi_Pa_2, gi_Te_2, gi_Bo_2, gi_Ia_1, gi_Ia_2, gi_Ib_1, gi_Ib_2, gi_Mo_1, gi_Mo_2, gi_Mo_3, gi_Mo_4, gi_Mo_5, gi_Mo_6, gi_Mo_13, gl_Mo_14, gi_Mo_19, gi_Mo_21, gi_Mo_22, gi_Mo_23, gi_Mo_24, gi_Mo_25, gi_Mo_26, gi_Mo_27, gi_Mo_30, gi_Mo_31, gi_Ra_7, gi_Ra_8, gi_Ra_9, gi_Ra_10, gi_Rb_7, gi_Rb_8, gi_Rb_9, gi_Rb_10, w1, d3, w2, d4, w3, t3, if_false, i12, i24, i18, ai_308 l12, ai_308 l24, ai_308 l18, ha.1, hb.1, hap, hst, hl.1, tl, visitA_M h hN hs hc]
end VI
