/-! the reference's numbers as natural ones, and what is reckoned of them -/
def nV (V : Nat → Int32) (k : Nat) : Nat := (V k).toNatClampNeg
theorem nV_of {V : Nat → Int32} {k a : Nat} (h : V k = nI a) (ha : a < 2 ^ 31) : nV V k = a := by unfold nV; rw [h]; exact nI_clamp ha
def zN (V kd sl : Nat → Int32) (c : Nat) : Nat := if V (30 + c) = 0 then tot (nV kd c) (nV sl c) (nV V (42 + c)) - nV V (36 + c) else 0
def zSt (V : Nat → Int32) (s c : Nat) : Nat := (nV V (12 + s) - nV V (24 + c)) + (nV V (24 + c) - nV V (12 + s))
def zPay (V vo ho : Nat → Int32) (s c : Nat) : Nat := if nV vo s = 1 ∨ (nV vo s = 2 ∧ nV V (24 + c) = nV ho s) ∨ (nV vo s = 3 ∧ nV V 50 % 2 = 1) then 1 else 2
def zCan (V kd sl : Nat → Int32) (s c : Nat) : Bool := decide (V (30 + c) = 0 ∧ 0 < nV V (6 + s) ∧ zSt V s c + zN V kd sl c ≤ nV V (18 + s))
/-- notches that a singer would pay by putting a child down -/
def zPm (V kd sl vo ho : Nat → Int32) (s c : Nat) : Nat := if zCan V kd sl s c = true then min (nV V (6 + s)) (zN V kd sl c * zPay V vo ho s c) else 0
theorem tot_le {K Pp u : Nat} (h1 : Pp ≤ 20) (h2 : u ≤ 99) : tot K Pp u ≤ 119 := by unfold tot; split <;> (try split) <;> (try split) <;> omega
theorem tot_pos {K Pp u : Nat} (h1 : 1 ≤ Pp) : 1 ≤ tot K Pp u := by unfold tot; split <;> (try split) <;> (try split) <;> omega
theorem nI_0lt {b : Nat} (h : 0 < b) (hb : b < 2 ^ 31) : (0 : Int32) < nI b := nI_lt (a := 0) h hb
section NBs
variable {n m H s c : Nat} {kd sl V : Nat → Int32}
theorem NB.age (h : NB n m H kd sl V) (hs : s < n) : V s = nI (nV V s) ∧ nV V s ≤ 99 := by
  obtain ⟨a, d, x, l, ⟨e1, e2⟩, -⟩ := h.1 s hs
  rw [nV_of e1 (by omega)]; exact ⟨e1, e2⟩
theorem NB.debt (h : NB n m H kd sl V) (hs : s < n) : V (6 + s) = nI (nV V (6 + s)) ∧ nV V (6 + s) ≤ 198 := by
  obtain ⟨a, d, x, l, -, ⟨e1, e2⟩, -⟩ := h.1 s hs
  rw [nV_of e1 (by omega)]; exact ⟨e1, e2⟩
theorem NB.at_ (h : NB n m H kd sl V) (hs : s < n) (hH : H ≤ 20) : V (12 + s) = nI (nV V (12 + s)) ∧ nV V (12 + s) < H := by
  obtain ⟨a, d, x, l, -, -, ⟨e1, e2⟩, -⟩ := h.1 s hs
  rw [nV_of e1 (by omega)]; exact ⟨e1, e2⟩
theorem NB.left (h : NB n m H kd sl V) (hs : s < n) : V (18 + s) = nI (nV V (18 + s)) ∧ nV V (18 + s) ≤ 30 := by
  obtain ⟨a, d, x, l, -, -, -, ⟨e1, e2⟩⟩ := h.1 s hs
  rw [nV_of e1 (by omega)]; exact ⟨e1, e2⟩
theorem NB.lies (h : NB n m H kd sl V) (hc : c < m) (hH : H ≤ 20) : V (24 + c) = nI (nV V (24 + c)) ∧ nV V (24 + c) < H := by
  obtain ⟨b, x, u, K, Pp, ⟨e1, e2⟩, -⟩ := h.2.1 c hc
  rw [nV_of e1 (by omega)]; exact ⟨e1, e2⟩
theorem NB.heard (h : NB n m H kd sl V) (hc : c < m) : V (36 + c) = nI (nV V (36 + c)) ∧ nV V (36 + c) ≤ 200 := by
  obtain ⟨b, x, u, K, Pp, -, ⟨e1, e2⟩, -⟩ := h.2.1 c hc
  rw [nV_of e1 (by omega)]; exact ⟨e1, e2⟩
theorem NB.sung (h : NB n m H kd sl V) (hc : c < m) : V (42 + c) = nI (nV V (42 + c)) ∧ nV V (42 + c) ≤ 99 := by
  obtain ⟨b, x, u, K, Pp, -, -, ⟨e1, e2⟩, -⟩ := h.2.1 c hc
  rw [nV_of e1 (by omega)]; exact ⟨e1, e2⟩
theorem NB.kind (h : NB n m H kd sl V) (hc : c < m) : kd c = nI (nV kd c) ∧ nV kd c ≤ 3 := by
  obtain ⟨b, x, u, K, Pp, -, -, -, ⟨e1, e2⟩, -⟩ := h.2.1 c hc
  rw [nV_of e1 (by omega)]; exact ⟨e1, e2⟩
theorem NB.slow (h : NB n m H kd sl V) (hc : c < m) : sl c = nI (nV sl c) ∧ 1 ≤ nV sl c ∧ nV sl c ≤ 20 := by
  obtain ⟨b, x, u, K, Pp, -, -, -, -, ⟨e1, e2⟩, -⟩ := h.2.1 c hc
  rw [nV_of e1 (by omega)]; exact ⟨e1, e2⟩
theorem NB.wake (h : NB n m H kd sl V) (hc : c < m) (h0 : V (30 + c) = 0) : nV V (36 + c) < tot (nV kd c) (nV sl c) (nV V (42 + c)) := by
  obtain ⟨b, x, u, K, Pp, -, ⟨x1, x2⟩, ⟨u1, u2⟩, ⟨k1, k2⟩, ⟨p1, p2⟩, hw⟩ := h.2.1 c hc
  rw [nV_of x1 (by omega), nV_of u1 (by omega), nV_of k1 (by omega), nV_of p1 (by omega)]
  exact hw h0
theorem NB.ev (h : NB n m H kd sl V) : V 50 = nI (nV V 50) ∧ nV V 50 ≤ 20000 := by
  obtain ⟨e, e1, e2⟩ := h.2.2.1
  rw [nV_of e1 (by omega)]; exact ⟨e1, e2⟩
theorem zN_le (h : NB n m H kd sl V) (hc : c < m) : zN V kd sl c ≤ 119 := by
  unfold zN
  have h1 := tot_le (K := nV kd c) (h.slow hc).2.2 (h.sung hc).2
  split <;> omega
theorem zN_pos (h : NB n m H kd sl V) (hc : c < m) (h0 : V (30 + c) = 0) : 0 < zN V kd sl c := by
  unfold zN
  have := h.wake hc h0
  rw [if_pos h0]
  omega
theorem zSt_lt (h : NB n m H kd sl V) (hs : s < n) (hc : c < m) (hH : H ≤ 20) : zSt V s c < 20 := by
  unfold zSt
  have := (h.at_ hs hH).2
  have := (h.lies hc hH).2
  omega
theorem zPay_or (V vo ho : Nat → Int32) (s c : Nat) : zPay V vo ho s c = 1 ∨ zPay V vo ho s c = 2 := by unfold zPay; split <;> simp
end NBs
/-- the class's row and night, as the reference's numbers V tell them -/
def CC (sw : Bool) (σ : Sg) (V : Nat → Int32) (H D n m : Nat) : Prop := I_row (rA sw) σ H D n m ∧ NR n m σ 4 V ∧ NB n m H (σ 306) (σ 307) V
theorem bit_ok : ∀ w, w < 64 → ∀ c, c < 6 → ((nI w >>> (nI c &&& 31)) &&& (1 : Int32)) = if w.testBit c then 1 else 0 := by decide +kernel
theorem two_le {w m : Nat} (h : w < 2 ^ m) (hm : m ≤ 6) : w < 64 := Nat.lt_of_lt_of_le h (Nat.pow_le_pow_right (by omega) hm)
section MC
variable {sw : Bool} {σ : Sg} {ς : Lg} {V : Nat → Int32} {H D n m s c : Nat}
theorem NR.asleep (h : NR n m σ 4 V) (hc : c < m) : V (30 + c) = 0 ∨ V (30 + c) = 1 := by
  obtain ⟨w, -, -, hb⟩ := h.2.2.1
  rw [hb c hc]
  split
  · exact Or.inl rfl
  · exact Or.inr rfl
theorem awake_C (h : CC sw σ V H D n m) (hc : c < m) : f_X3_isAwake 3 (nI c) (enc sw σ ς) = some (if V (30 + c) = 0 then 1 else 0, enc sw σ ς) := by
  obtain ⟨w, hw, e, hb⟩ := h.2.1.2.2.1
  have hm6 := h.1.1.2.2.2
  simp only [f_X3_isAwake, if_true, ite_true, reduceIte, Option.bind_some, Option.bind_none, bT1_some, io_LD, io_Rd, io_Mt, io_Nt, io_Pl, io_Ro, io_Pa, io_Te, io_Bo, io_Ia, io_Ib, io_Mo, io_Ra, io_Rb, gr_LD_0, gr_LD_1, gr_LD_2, gr_LD_3, gr_LD_4, gr_LD_5, gr_LD_6, gr_LD_7, gr_LD_8, gr_Rd_0, gr_Mt_0, gr_Mt_1, gr_Nt_0, gr_Nt_1, gr_Nt_2, gr_Nt_3, gr_Nt_4, gr_Nt_5, gr_Nt_6, gr_Pl_0, gr_Pl_1, gr_Ro_0, gr_Ro_1, gr_Ro_2, gr_Pa_0, gr_Te_0, gr_Te_1, gr_Bo_0, gr_Bo_1, gr_Ia_0, gr_Ib_0, gr_Mo_0, gr_Mo_7, gr_Mo_8, gr_Mo_9, gr_Mo_10, gr_Mo_11, gr_Mo_12, gr_Mo_15, gr_Mo_16, gr_Mo_17, gr_Mo_18, gr_Mo_20, gr_Mo_28, gr_Mo_29, gr_Mo_32, gr_Mo_33, gr_Mo_34, gr_Mo_35, gr_Mo_36, gr_Mo_37, gr_Ra_0, gr_Ra_1, gr_Ra_2, gr_Ra_3, gr_Ra_4, gr_Ra_5, gr_Ra_6, gr_Rb_0, gr_Rb_1, gr_Rb_2, gr_Rb_3, gr_Rb_4, gr_Rb_5, gr_Rb_6, gi_LD_9, gi_Rd_1, gi_Rd_2, gi_Rd_3, gi_Rd_4, gi_Nt_7, gi_Nt_8, gi_Nt_9, gi_Nt_10, gi_Pl_2, gi_Pl_3, gi_Ro_3, gi_Ro_4, gi_Ro_5, gi_Pa_1, gi_Pa_2, gi_Te_2, gi_Bo_2, gi_Ia_1, gi_Ia_2, gi_Ib_1, gi_Ib_2, gi_Mo_1, gi_Mo_2, gi_Mo_3, gi_Mo_4, gi_Mo_5, gi_Mo_6, gi_Mo_13, gl_Mo_14, gi_Mo_19, gi_Mo_21, gi_Mo_22, gi_Mo_23, gi_Mo_24, gi_Mo_25, gi_Mo_26, gi_Mo_27, gi_Mo_30, gi_Mo_31, gi_Ra_7, gi_Ra_8, gi_Ra_9, gi_Ra_10, gi_Rb_7, gi_Rb_8, gi_Rb_9, gi_Rb_10, e, bit_ok w (two_le hw hm6) c (by omega), hb c hc]
  by_cases ht : w.testBit c = true
  · simp only [ht, if_true, ite_true, reduceIte, Option.bind_some, Option.bind_none, bT1_some, io_LD, io_Rd, io_Mt, io_Nt, io_Pl, io_Ro, io_Pa, io_Te, io_Bo, io_Ia, io_Ib, io_Mo, io_Ra, io_Rb, gr_LD_0, gr_LD_1, gr_LD_2, gr_LD_3, gr_LD_4, gr_LD_5, gr_LD_6, gr_LD_7, gr_LD_8, gr_Rd_0, gr_Mt_0, gr_Mt_1, gr_Nt_0, gr_Nt_1, gr_Nt_2, gr_Nt_3, gr_Nt_4, gr_Nt_5, gr_Nt_6, gr_Pl_0, gr_Pl_1, gr_Ro_0, gr_Ro_1, gr_Ro_2, gr_Pa_0, gr_Te_0, gr_Te_1, gr_Bo_0, gr_Bo_1, gr_Ia_0, gr_Ib_0, gr_Mo_0, gr_Mo_7, gr_Mo_8, gr_Mo_9, gr_Mo_10, gr_Mo_11, gr_Mo_12, gr_Mo_15, gr_Mo_16, gr_Mo_17, gr_Mo_18, gr_Mo_20, gr_Mo_28, gr_Mo_29, gr_Mo_32, gr_Mo_33, gr_Mo_34, gr_Mo_35, gr_Mo_36, gr_Mo_37, gr_Ra_0, gr_Ra_1, gr_Ra_2, gr_Ra_3, gr_Ra_4, gr_Ra_5, gr_Ra_6, gr_Rb_0, gr_Rb_1, gr_Rb_2, gr_Rb_3, gr_Rb_4, gr_Rb_5, gr_Rb_6, gi_LD_9, gi_Rd_1, gi_Rd_2, gi_Rd_3, gi_Rd_4, gi_Nt_7, gi_Nt_8, gi_Nt_9, gi_Nt_10, gi_Pl_2, gi_Pl_3, gi_Ro_3, gi_Ro_4, gi_Ro_5, gi_Pa_1, gi_Pa_2, gi_Te_2, gi_Bo_2, gi_Ia_1, gi_Ia_2, gi_Ib_1, gi_Ib_2, gi_Mo_1, gi_Mo_2, gi_Mo_3, gi_Mo_4, gi_Mo_5, gi_Mo_6, gi_Mo_13, gl_Mo_14, gi_Mo_19, gi_Mo_21, gi_Mo_22, gi_Mo_23, gi_Mo_24, gi_Mo_25, gi_Mo_26, gi_Mo_27, gi_Mo_30, gi_Mo_31, gi_Ra_7, gi_Ra_8, gi_Ra_9, gi_Ra_10, gi_Rb_7, gi_Rb_8, gi_Rb_9, gi_Rb_10, show ¬ (1 : Int32) = 0 by decide]
  · simp only [ht, if_true, ite_true, reduceIte, Option.bind_some, Option.bind_none, bT1_some, io_LD, io_Rd, io_Mt, io_Nt, io_Pl, io_Ro, io_Pa, io_Te, io_Bo, io_Ia, io_Ib, io_Mo, io_Ra, io_Rb, gr_LD_0, gr_LD_1, gr_LD_2, gr_LD_3, gr_LD_4, gr_LD_5, gr_LD_6, gr_LD_7, gr_LD_8, gr_Rd_0, gr_Mt_0, gr_Mt_1, gr_Nt_0, gr_Nt_1, gr_Nt_2, gr_Nt_3, gr_Nt_4, gr_Nt_5, gr_Nt_6, gr_Pl_0, gr_Pl_1, gr_Ro_0, gr_Ro_1, gr_Ro_2, gr_Pa_0, gr_Te_0, gr_Te_1, gr_Bo_0, gr_Bo_1, gr_Ia_0, gr_Ib_0, gr_Mo_0, gr_Mo_7, gr_Mo_8, gr_Mo_9, gr_Mo_10, gr_Mo_11, gr_Mo_12, gr_Mo_15, gr_Mo_16, gr_Mo_17, gr_Mo_18, gr_Mo_20, gr_Mo_28, gr_Mo_29, gr_Mo_32, gr_Mo_33, gr_Mo_34, gr_Mo_35, gr_Mo_36, gr_Mo_37, gr_Ra_0, gr_Ra_1, gr_Ra_2, gr_Ra_3, gr_Ra_4, gr_Ra_5, gr_Ra_6, gr_Rb_0, gr_Rb_1, gr_Rb_2, gr_Rb_3, gr_Rb_4, gr_Rb_5, gr_Rb_6, gi_LD_9, gi_Rd_1, gi_Rd_2, gi_Rd_3, gi_Rd_4, gi_Nt_7, gi_Nt_8, gi_Nt_9, gi_Nt_10, gi_Pl_2, gi_Pl_3, gi_Ro_3, gi_Ro_4, gi_Ro_5, gi_Pa_1, gi_Pa_2, gi_Te_2, gi_Bo_2, gi_Ia_1, gi_Ia_2, gi_Ib_1, gi_Ib_2, gi_Mo_1, gi_Mo_2, gi_Mo_3, gi_Mo_4, gi_Mo_5, gi_Mo_6, gi_Mo_13, gl_Mo_14, gi_Mo_19, gi_Mo_21, gi_Mo_22, gi_Mo_23, gi_Mo_24, gi_Mo_25, gi_Mo_26, gi_Mo_27, gi_Mo_30, gi_Mo_31, gi_Ra_7, gi_Ra_8, gi_Ra_9, gi_Ra_10, gi_Rb_7, gi_Rb_8, gi_Rb_9, gi_Rb_10, show ¬ (1 : Int32) = 0 by decide, Bool.false_eq_true, if_false]
theorem needs_C (h : CC sw σ V H D n m) (hc : c < m) : f_X3_needsOf 3 (nI c) (enc sw σ ς) = some (nI (zN V (σ 306) (σ 307) c), enc sw σ ς) := by
  have hm6 := h.1.1.2.2.2
  have hc6 : c < 6 := by omega
  have hN := h.2.2
  obtain ⟨b1, b2, b3⟩ := h.2.1.2.1 c hc
  obtain ⟨a1, a2⟩ := h.1.2.2.2.2.2.2 c hc
  simp only [f_X3_needsOf, if_true, ite_true, reduceIte, Option.bind_some, Option.bind_none, bT1_some, io_LD, io_Rd, io_Mt, io_Nt, io_Pl, io_Ro, io_Pa, io_Te, io_Bo, io_Ia, io_Ib, io_Mo, io_Ra, io_Rb, gr_LD_0, gr_LD_1, gr_LD_2, gr_LD_3, gr_LD_4, gr_LD_5, gr_LD_6, gr_LD_7, gr_LD_8, gr_Rd_0, gr_Mt_0, gr_Mt_1, gr_Nt_0, gr_Nt_1, gr_Nt_2, gr_Nt_3, gr_Nt_4, gr_Nt_5, gr_Nt_6, gr_Pl_0, gr_Pl_1, gr_Ro_0, gr_Ro_1, gr_Ro_2, gr_Pa_0, gr_Te_0, gr_Te_1, gr_Bo_0, gr_Bo_1, gr_Ia_0, gr_Ib_0, gr_Mo_0, gr_Mo_7, gr_Mo_8, gr_Mo_9, gr_Mo_10, gr_Mo_11, gr_Mo_12, gr_Mo_15, gr_Mo_16, gr_Mo_17, gr_Mo_18, gr_Mo_20, gr_Mo_28, gr_Mo_29, gr_Mo_32, gr_Mo_33, gr_Mo_34, gr_Mo_35, gr_Mo_36, gr_Mo_37, gr_Ra_0, gr_Ra_1, gr_Ra_2, gr_Ra_3, gr_Ra_4, gr_Ra_5, gr_Ra_6, gr_Rb_0, gr_Rb_1, gr_Rb_2, gr_Rb_3, gr_Rb_4, gr_Rb_5, gr_Rb_6, gi_LD_9, gi_Rd_1, gi_Rd_2, gi_Rd_3, gi_Rd_4, gi_Nt_7, gi_Nt_8, gi_Nt_9, gi_Nt_10, gi_Pl_2, gi_Pl_3, gi_Ro_3, gi_Ro_4, gi_Ro_5, gi_Pa_1, gi_Pa_2, gi_Te_2, gi_Bo_2, gi_Ia_1, gi_Ia_2, gi_Ib_1, gi_Ib_2, gi_Mo_1, gi_Mo_2, gi_Mo_3, gi_Mo_4, gi_Mo_5, gi_Mo_6, gi_Mo_13, gl_Mo_14, gi_Mo_19, gi_Mo_21, gi_Mo_22, gi_Mo_23, gi_Mo_24, gi_Mo_25, gi_Mo_26, gi_Mo_27, gi_Mo_30, gi_Mo_31, gi_Ra_7, gi_Ra_8, gi_Ra_9, gi_Ra_10, gi_Rb_7, gi_Rb_8, gi_Rb_9, gi_Rb_10, awake_C h hc]
  by_cases h0 : V (30 + c) = 0
  · have hk := hN.kind hc
    have hp := hN.slow hc
    have hu := hN.sung hc
    have hx := hN.heard hc
    have hw := hN.wake hc h0
    have ht := tot_le (K := nV (σ 306) c) hp.2.2 hu.2
    have fin : ∀ v3 : Int32, v3 = nI (tot (nV (σ 306) c) (nV (σ 307) c) (nV V (42 + c))) → f_X3_needsOf_89 3 (nI c) v3 (enc sw σ ς) = some (nI (zN V (σ 306) (σ 307) c), enc sw σ ς) := by
      intro v3 e3
      simp only [f_X3_needsOf_89, if_true, ite_true, reduceIte, Option.bind_some, Option.bind_none, bT1_some, io_LD, io_Rd, io_Mt, io_Nt, io_Pl, io_Ro, io_Pa, io_Te, io_Bo, io_Ia, io_Ib, io_Mo, io_Ra, io_Rb, gr_LD_0, gr_LD_1, gr_LD_2, gr_LD_3, gr_LD_4, gr_LD_5, gr_LD_6, gr_LD_7, gr_LD_8, gr_Rd_0, gr_Mt_0, gr_Mt_1, gr_Nt_0, gr_Nt_1, gr_Nt_2, gr_Nt_3, gr_Nt_4, gr_Nt_5, gr_Nt_6, gr_Pl_0, gr_Pl_1, gr_Ro_0, gr_Ro_1, gr_Ro_2, gr_Pa_0, gr_Te_0, gr_Te_1, gr_Bo_0, gr_Bo_1, gr_Ia_0, gr_Ib_0, gr_Mo_0, gr_Mo_7, gr_Mo_8, gr_Mo_9, gr_Mo_10, gr_Mo_11, gr_Mo_12, gr_Mo_15, gr_Mo_16, gr_Mo_17, gr_Mo_18, gr_Mo_20, gr_Mo_28, gr_Mo_29, gr_Mo_32, gr_Mo_33, gr_Mo_34, gr_Mo_35, gr_Mo_36, gr_Mo_37, gr_Ra_0, gr_Ra_1, gr_Ra_2, gr_Ra_3, gr_Ra_4, gr_Ra_5, gr_Ra_6, gr_Rb_0, gr_Rb_1, gr_Rb_2, gr_Rb_3, gr_Rb_4, gr_Rb_5, gr_Rb_6, gi_LD_9, gi_Rd_1, gi_Rd_2, gi_Rd_3, gi_Rd_4, gi_Nt_7, gi_Nt_8, gi_Nt_9, gi_Nt_10, gi_Pl_2, gi_Pl_3, gi_Ro_3, gi_Ro_4, gi_Ro_5, gi_Pa_1, gi_Pa_2, gi_Te_2, gi_Bo_2, gi_Ia_1, gi_Ia_2, gi_Ib_1, gi_Ib_2, gi_Mo_1, gi_Mo_2, gi_Mo_3, gi_Mo_4, gi_Mo_5, gi_Mo_6, gi_Mo_13, gl_Mo_14, gi_Mo_19, gi_Mo_21, gi_Mo_22, gi_Mo_23, gi_Mo_24, gi_Mo_25, gi_Mo_26, gi_Mo_27, gi_Mo_30, gi_Mo_31, gi_Ra_7, gi_Ra_8, gi_Ra_9, gi_Ra_10, gi_Rb_7, gi_Rb_8, gi_Rb_9, gi_Rb_10, ai_10 hc6, b2, e3, hx.1]
      rw [pk_sub (Nat.le_of_lt hw), if_pos (nI_0lt (Nat.sub_pos_of_lt hw) (by omega))]
      unfold zN
      rw [if_pos h0]
    simp only [h0, if_true, ite_true, reduceIte, Option.bind_some, Option.bind_none, bT1_some, io_LD, io_Rd, io_Mt, io_Nt, io_Pl, io_Ro, io_Pa, io_Te, io_Bo, io_Ia, io_Ib, io_Mo, io_Ra, io_Rb, gr_LD_0, gr_LD_1, gr_LD_2, gr_LD_3, gr_LD_4, gr_LD_5, gr_LD_6, gr_LD_7, gr_LD_8, gr_Rd_0, gr_Mt_0, gr_Mt_1, gr_Nt_0, gr_Nt_1, gr_Nt_2, gr_Nt_3, gr_Nt_4, gr_Nt_5, gr_Nt_6, gr_Pl_0, gr_Pl_1, gr_Ro_0, gr_Ro_1, gr_Ro_2, gr_Pa_0, gr_Te_0, gr_Te_1, gr_Bo_0, gr_Bo_1, gr_Ia_0, gr_Ib_0, gr_Mo_0, gr_Mo_7, gr_Mo_8, gr_Mo_9, gr_Mo_10, gr_Mo_11, gr_Mo_12, gr_Mo_15, gr_Mo_16, gr_Mo_17, gr_Mo_18, gr_Mo_20, gr_Mo_28, gr_Mo_29, gr_Mo_32, gr_Mo_33, gr_Mo_34, gr_Mo_35, gr_Mo_36, gr_Mo_37, gr_Ra_0, gr_Ra_1, gr_Ra_2, gr_Ra_3, gr_Ra_4, gr_Ra_5, gr_Ra_6, gr_Rb_0, gr_Rb_1, gr_Rb_2, gr_Rb_3, gr_Rb_4, gr_Rb_5, gr_Rb_6, gi_LD_9, gi_Rd_1, gi_Rd_2, gi_Rd_3, gi_Rd_4, gi_Nt_7, gi_Nt_8, gi_Nt_9, gi_Nt_10, gi_Pl_2, gi_Pl_3, gi_Ro_3, gi_Ro_4, gi_Ro_5, gi_Pa_1, gi_Pa_2, gi_Te_2, gi_Bo_2, gi_Ia_1, gi_Ia_2, gi_Ib_1, gi_Ib_2, gi_Mo_1, gi_Mo_2, gi_Mo_3, gi_Mo_4, gi_Mo_5, gi_Mo_6, gi_Mo_13, gl_Mo_14, gi_Mo_19, gi_Mo_21, gi_Mo_22, gi_Mo_23, gi_Mo_24, gi_Mo_25, gi_Mo_26, gi_Mo_27, gi_Mo_30, gi_Mo_31, gi_Ra_7, gi_Ra_8, gi_Ra_9, gi_Ra_10, gi_Rb_7, gi_Rb_8, gi_Rb_9, gi_Rb_10, show ¬ (1 : Int32) = 0 by decide, ai_Ra_5 hc6, ai_Ra_4 hc6, ai_11 hc6, a1, a2, b3]
    generalize nV (σ 306) c = K at *
    rw [hk.1]
    obtain rfl | rfl | rfl | rfl : K = 0 ∨ K = 1 ∨ K = 2 ∨ K = 3 := by omega
    · rw [if_neg (by decide), if_neg (by decide), if_neg (by decide)]
      exact fin _ (by rw [hp.1]; rfl)
    · rw [if_pos (by decide)]
      exact fin _ (by rw [hp.1]; exact pk_mul 2 _)
    · rw [if_neg (by decide), if_pos (by decide)]
      exact fin _ (by rw [hp.1]; rw [show (2 : Int32) = nI 2 from rfl, pk_div (by omega) (by omega) (by omega), nI_1]; rfl)
    · rw [if_neg (by decide), if_neg (by decide), if_pos (by decide)]
      exact fin _ (by rw [hp.1, hu.1, nI_add]; rfl)
  · simp only [h0, if_true, ite_true, reduceIte, Option.bind_some, Option.bind_none, bT1_some, io_LD, io_Rd, io_Mt, io_Nt, io_Pl, io_Ro, io_Pa, io_Te, io_Bo, io_Ia, io_Ib, io_Mo, io_Ra, io_Rb, gr_LD_0, gr_LD_1, gr_LD_2, gr_LD_3, gr_LD_4, gr_LD_5, gr_LD_6, gr_LD_7, gr_LD_8, gr_Rd_0, gr_Mt_0, gr_Mt_1, gr_Nt_0, gr_Nt_1, gr_Nt_2, gr_Nt_3, gr_Nt_4, gr_Nt_5, gr_Nt_6, gr_Pl_0, gr_Pl_1, gr_Ro_0, gr_Ro_1, gr_Ro_2, gr_Pa_0, gr_Te_0, gr_Te_1, gr_Bo_0, gr_Bo_1, gr_Ia_0, gr_Ib_0, gr_Mo_0, gr_Mo_7, gr_Mo_8, gr_Mo_9, gr_Mo_10, gr_Mo_11, gr_Mo_12, gr_Mo_15, gr_Mo_16, gr_Mo_17, gr_Mo_18, gr_Mo_20, gr_Mo_28, gr_Mo_29, gr_Mo_32, gr_Mo_33, gr_Mo_34, gr_Mo_35, gr_Mo_36, gr_Mo_37, gr_Ra_0, gr_Ra_1, gr_Ra_2, gr_Ra_3, gr_Ra_4, gr_Ra_5, gr_Ra_6, gr_Rb_0, gr_Rb_1, gr_Rb_2, gr_Rb_3, gr_Rb_4, gr_Rb_5, gr_Rb_6, gi_LD_9, gi_Rd_1, gi_Rd_2, gi_Rd_3, gi_Rd_4, gi_Nt_7, gi_Nt_8, gi_Nt_9, gi_Nt_10, gi_Pl_2, gi_Pl_3, gi_Ro_3, gi_Ro_4, gi_Ro_5, gi_Pa_1, gi_Pa_2, gi_Te_2, gi_Bo_2, gi_Ia_1, gi_Ia_2, gi_Ib_1, gi_Ib_2, gi_Mo_1, gi_Mo_2, gi_Mo_3, gi_Mo_4, gi_Mo_5, gi_Mo_6, gi_Mo_13, gl_Mo_14, gi_Mo_19, gi_Mo_21, gi_Mo_22, gi_Mo_23, gi_Mo_24, gi_Mo_25, gi_Mo_26, gi_Mo_27, gi_Mo_30, gi_Mo_31, gi_Ra_7, gi_Ra_8, gi_Ra_9, gi_Ra_10, gi_Rb_7, gi_Rb_8, gi_Rb_9, gi_Rb_10, if_false]
    unfold zN
    rw [if_neg h0]
    rfl
/-- the reference's own -/
theorem needs_M (hN : NB n m H (σ 306) (σ 307) (σ 308)) (ha : σ 308 (30 + c) = 0 ∨ σ 308 (30 + c) = 1) (hc : c < m) (hm6 : m ≤ 6) : f_X13_needs 302 (nI c) (enc sw σ ς) = some (nI (zN (σ 308) (σ 306) (σ 307) c), enc sw σ ς) := by
  have hc6 : c < 6 := by omega
  have i30 : (30 : Int32) + nI c = nI (30 + c) := nI_add 30 c
  have i36 : (36 : Int32) + nI c = nI (36 + c) := nI_add 36 c
  have i42 : (42 : Int32) + nI c = nI (42 + c) := nI_add 42 c
  have l30 : 30 + c < 51 := by omega
  have l36 : 36 + c < 51 := by omega
  have l42 : 42 + c < 51 := by omega
  simp only [f_X13_needs, if_true, ite_true, reduceIte, Option.bind_some, Option.bind_none, bT1_some, io_LD, io_Rd, io_Mt, io_Nt, io_Pl, io_Ro, io_Pa, io_Te, io_Bo, io_Ia, io_Ib, io_Mo, io_Ra, io_Rb, gr_LD_0, gr_LD_1, gr_LD_2, gr_LD_3, gr_LD_4, gr_LD_5, gr_LD_6, gr_LD_7, gr_LD_8, gr_Rd_0, gr_Mt_0, gr_Mt_1, gr_Nt_0, gr_Nt_1, gr_Nt_2, gr_Nt_3, gr_Nt_4, gr_Nt_5, gr_Nt_6, gr_Pl_0, gr_Pl_1, gr_Ro_0, gr_Ro_1, gr_Ro_2, gr_Pa_0, gr_Te_0, gr_Te_1, gr_Bo_0, gr_Bo_1, gr_Ia_0, gr_Ib_0, gr_Mo_0, gr_Mo_7, gr_Mo_8, gr_Mo_9, gr_Mo_10, gr_Mo_11, gr_Mo_12, gr_Mo_15, gr_Mo_16, gr_Mo_17, gr_Mo_18, gr_Mo_20, gr_Mo_28, gr_Mo_29, gr_Mo_32, gr_Mo_33, gr_Mo_34, gr_Mo_35, gr_Mo_36, gr_Mo_37, gr_Ra_0, gr_Ra_1, gr_Ra_2, gr_Ra_3, gr_Ra_4, gr_Ra_5, gr_Ra_6, gr_Rb_0, gr_Rb_1, gr_Rb_2, gr_Rb_3, gr_Rb_4, gr_Rb_5, gr_Rb_6, gi_LD_9, gi_Rd_1, gi_Rd_2, gi_Rd_3, gi_Rd_4, gi_Nt_7, gi_Nt_8, gi_Nt_9, gi_Nt_10, gi_Pl_2, gi_Pl_3, gi_Ro_3, gi_Ro_4, gi_Ro_5, gi_Pa_1, gi_Pa_2, gi_Te_2, gi_Bo_2, gi_Ia_1, gi_Ia_2, gi_Ib_1, gi_Ib_2, gi_Mo_1, gi_Mo_2, gi_Mo_3, gi_Mo_4, gi_Mo_5, gi_Mo_6, gi_Mo_13, gl_Mo_14, gi_Mo_19, gi_Mo_21, gi_Mo_22, gi_Mo_23, gi_Mo_24, gi_Mo_25, gi_Mo_26, gi_Mo_27, gi_Mo_30, gi_Mo_31, gi_Ra_7, gi_Ra_8, gi_Ra_9, gi_Ra_10, gi_Rb_7, gi_Rb_8, gi_Rb_9, gi_Rb_10, i30, ai_308 l30]
  rcases ha with h0 | h0
  · have hk := hN.kind hc
    have hp := hN.slow hc
    have hu := hN.sung hc
    have hx := hN.heard hc
    have hw := hN.wake hc h0
    have ht := tot_le (K := nV (σ 306) c) hp.2.2 hu.2
    have fin : ∀ v3 : Int32, v3 = nI (tot (nV (σ 306) c) (nV (σ 307) c) (nV (σ 308) (42 + c))) → f_X13_needs_74 302 (nI c) v3 (enc sw σ ς) = some (nI (zN (σ 308) (σ 306) (σ 307) c), enc sw σ ς) := by
      intro v3 e3
      simp only [f_X13_needs_74, f_X13_max, if_true, ite_true, reduceIte, Option.bind_some, Option.bind_none, bT1_some, io_LD, io_Rd, io_Mt, io_Nt, io_Pl, io_Ro, io_Pa, io_Te, io_Bo, io_Ia, io_Ib, io_Mo, io_Ra, io_Rb, gr_LD_0, gr_LD_1, gr_LD_2, gr_LD_3, gr_LD_4, gr_LD_5, gr_LD_6, gr_LD_7, gr_LD_8, gr_Rd_0, gr_Mt_0, gr_Mt_1, gr_Nt_0, gr_Nt_1, gr_Nt_2, gr_Nt_3, gr_Nt_4, gr_Nt_5, gr_Nt_6, gr_Pl_0, gr_Pl_1, gr_Ro_0, gr_Ro_1, gr_Ro_2, gr_Pa_0, gr_Te_0, gr_Te_1, gr_Bo_0, gr_Bo_1, gr_Ia_0, gr_Ib_0, gr_Mo_0, gr_Mo_7, gr_Mo_8, gr_Mo_9, gr_Mo_10, gr_Mo_11, gr_Mo_12, gr_Mo_15, gr_Mo_16, gr_Mo_17, gr_Mo_18, gr_Mo_20, gr_Mo_28, gr_Mo_29, gr_Mo_32, gr_Mo_33, gr_Mo_34, gr_Mo_35, gr_Mo_36, gr_Mo_37, gr_Ra_0, gr_Ra_1, gr_Ra_2, gr_Ra_3, gr_Ra_4, gr_Ra_5, gr_Ra_6, gr_Rb_0, gr_Rb_1, gr_Rb_2, gr_Rb_3, gr_Rb_4, gr_Rb_5, gr_Rb_6, gi_LD_9, gi_Rd_1, gi_Rd_2, gi_Rd_3, gi_Rd_4, gi_Nt_7, gi_Nt_8, gi_Nt_9, gi_Nt_10, gi_Pl_2, gi_Pl_3, gi_Ro_3, gi_Ro_4, gi_Ro_5, gi_Pa_1, gi_Pa_2, gi_Te_2, gi_Bo_2, gi_Ia_1, gi_Ia_2, gi_Ib_1, gi_Ib_2, gi_Mo_1, gi_Mo_2, gi_Mo_3, gi_Mo_4, gi_Mo_5, gi_Mo_6, gi_Mo_13, gl_Mo_14, gi_Mo_19, gi_Mo_21, gi_Mo_22, gi_Mo_23, gi_Mo_24, gi_Mo_25, gi_Mo_26, gi_Mo_27, gi_Mo_30, gi_Mo_31, gi_Ra_7, gi_Ra_8, gi_Ra_9, gi_Ra_10, gi_Rb_7, gi_Rb_8, gi_Rb_9, gi_Rb_10, i36, ai_308 l36, e3]
      rw [hx.1, pk_sub (Nat.le_of_lt hw), if_pos (nI_pos' (by omega)), bT1_some]
      unfold zN
      rw [if_pos h0]
    simp only [h0, if_true, ite_true, reduceIte, Option.bind_some, Option.bind_none, bT1_some, io_LD, io_Rd, io_Mt, io_Nt, io_Pl, io_Ro, io_Pa, io_Te, io_Bo, io_Ia, io_Ib, io_Mo, io_Ra, io_Rb, gr_LD_0, gr_LD_1, gr_LD_2, gr_LD_3, gr_LD_4, gr_LD_5, gr_LD_6, gr_LD_7, gr_LD_8, gr_Rd_0, gr_Mt_0, gr_Mt_1, gr_Nt_0, gr_Nt_1, gr_Nt_2, gr_Nt_3, gr_Nt_4, gr_Nt_5, gr_Nt_6, gr_Pl_0, gr_Pl_1, gr_Ro_0, gr_Ro_1, gr_Ro_2, gr_Pa_0, gr_Te_0, gr_Te_1, gr_Bo_0, gr_Bo_1, gr_Ia_0, gr_Ib_0, gr_Mo_0, gr_Mo_7, gr_Mo_8, gr_Mo_9, gr_Mo_10, gr_Mo_11, gr_Mo_12, gr_Mo_15, gr_Mo_16, gr_Mo_17, gr_Mo_18, gr_Mo_20, gr_Mo_28, gr_Mo_29, gr_Mo_32, gr_Mo_33, gr_Mo_34, gr_Mo_35, gr_Mo_36, gr_Mo_37, gr_Ra_0, gr_Ra_1, gr_Ra_2, gr_Ra_3, gr_Ra_4, gr_Ra_5, gr_Ra_6, gr_Rb_0, gr_Rb_1, gr_Rb_2, gr_Rb_3, gr_Rb_4, gr_Rb_5, gr_Rb_6, gi_LD_9, gi_Rd_1, gi_Rd_2, gi_Rd_3, gi_Rd_4, gi_Nt_7, gi_Nt_8, gi_Nt_9, gi_Nt_10, gi_Pl_2, gi_Pl_3, gi_Ro_3, gi_Ro_4, gi_Ro_5, gi_Pa_1, gi_Pa_2, gi_Te_2, gi_Bo_2, gi_Ia_1, gi_Ia_2, gi_Ib_1, gi_Ib_2, gi_Mo_1, gi_Mo_2, gi_Mo_3, gi_Mo_4, gi_Mo_5, gi_Mo_6, gi_Mo_13, gl_Mo_14, gi_Mo_19, gi_Mo_21, gi_Mo_22, gi_Mo_23, gi_Mo_24, gi_Mo_25, gi_Mo_26, gi_Mo_27, gi_Mo_30, gi_Mo_31, gi_Ra_7, gi_Ra_8, gi_Ra_9, gi_Ra_10, gi_Rb_7, gi_Rb_8, gi_Rb_9, gi_Rb_10, show ¬ (0 : Int32) = 1 by decide, f_X13_needs_36, f_X13_needs_52, ai_306 hc6, ai_307 hc6, i42, ai_308 l42]
    generalize nV (σ 306) c = K at *
    rw [hk.1]
    obtain rfl | rfl | rfl | rfl : K = 0 ∨ K = 1 ∨ K = 2 ∨ K = 3 := by omega
    · rw [if_neg (by decide), if_neg (by decide), if_neg (by decide)]
      exact fin _ (by rw [hp.1]; rfl)
    · rw [if_pos (by decide), if_neg (by decide), if_neg (by decide)]
      exact fin _ (by rw [hp.1]; exact pk_mul 2 _)
    · rw [if_neg (by decide), if_pos (by decide), if_neg (by decide)]
      exact fin _ (by rw [hp.1]; rw [show (2 : Int32) = nI 2 from rfl, pk_div (by omega) (by omega) (by omega), nI_1]; rfl)
    · rw [if_neg (by decide), if_neg (by decide), if_pos (by decide)]
      exact fin _ (by rw [hp.1, hu.1, nI_add]; rfl)
  · simp only [h0, if_true, ite_true, reduceIte, Option.bind_some, Option.bind_none, bT1_some, io_LD, io_Rd, io_Mt, io_Nt, io_Pl, io_Ro, io_Pa, io_Te, io_Bo, io_Ia, io_Ib, io_Mo, io_Ra, io_Rb, gr_LD_0, gr_LD_1, gr_LD_2, gr_LD_3, gr_LD_4, gr_LD_5, gr_LD_6, gr_LD_7, gr_LD_8, gr_Rd_0, gr_Mt_0, gr_Mt_1, gr_Nt_0, gr_Nt_1, gr_Nt_2, gr_Nt_3, gr_Nt_4, gr_Nt_5, gr_Nt_6, gr_Pl_0, gr_Pl_1, gr_Ro_0, gr_Ro_1, gr_Ro_2, gr_Pa_0, gr_Te_0, gr_Te_1, gr_Bo_0, gr_Bo_1, gr_Ia_0, gr_Ib_0, gr_Mo_0, gr_Mo_7, gr_Mo_8, gr_Mo_9, gr_Mo_10, gr_Mo_11, gr_Mo_12, gr_Mo_15, gr_Mo_16, gr_Mo_17, gr_Mo_18, gr_Mo_20, gr_Mo_28, gr_Mo_29, gr_Mo_32, gr_Mo_33, gr_Mo_34, gr_Mo_35, gr_Mo_36, gr_Mo_37, gr_Ra_0, gr_Ra_1, gr_Ra_2, gr_Ra_3, gr_Ra_4, gr_Ra_5, gr_Ra_6, gr_Rb_0, gr_Rb_1, gr_Rb_2, gr_Rb_3, gr_Rb_4, gr_Rb_5, gr_Rb_6, gi_LD_9, gi_Rd_1, gi_Rd_2, gi_Rd_3, gi_Rd_4, gi_Nt_7, gi_Nt_8, gi_Nt_9, gi_Nt_10, gi_Pl_2, gi_Pl_3, gi_Ro_3, gi_Ro_4, gi_Ro_5, gi_Pa_1, gi_Pa_2, gi_Te_2, gi_Bo_2, gi_Ia_1, gi_Ia_2, gi_Ib_1, gi_Ib_2, gi_Mo_1, gi_Mo_2, gi_Mo_3, gi_Mo_4, gi_Mo_5, gi_Mo_6, gi_Mo_13, gl_Mo_14, gi_Mo_19, gi_Mo_21, gi_Mo_22, gi_Mo_23, gi_Mo_24, gi_Mo_25, gi_Mo_26, gi_Mo_27, gi_Mo_30, gi_Mo_31, gi_Ra_7, gi_Ra_8, gi_Ra_9, gi_Ra_10, gi_Rb_7, gi_Rb_8, gi_Rb_9, gi_Rb_10, if_true]
    unfold zN
    rw [if_neg (by rw [h0]; decide)]
    rfl
end MC
