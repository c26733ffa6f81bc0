theorem clr_ok : ∀ w, w < 64 → ∀ c, c < 6 → nI w &&& (((1 : Int32) <<< (nI c &&& 31)) ^^^ (-1 : Int32)) = nI (if w.testBit c then w - 2 ^ c else w) := by decide +kernel
theorem clr_bit : ∀ w, w < 64 → ∀ c, c < 6 → ∀ j, j < 6 → (if w.testBit c then w - 2 ^ c else w).testBit j = (w.testBit j && (j != c)) := by decide +kernel
/-- carried -/
def tCarry (V : Nat → Int32) (c : Nat) (x : Int32) : Nat → Int32 := upd (upd V (24 + c) x) (36 + c) 0
def zMv (V : Nat → Int32) (Hh : Int32) (c : Nat) (w : Int32) : Bool := decide (V (30 + c) = 0 ∧ ¬ (V (24 + c) + w < 0) ∧ ¬ (Hh ≤ V (24 + c) + w))
/-- sung to: g songs, each of p notches -/
def tSong (V : Nat → Int32) (s c g p : Nat) : Nat → Int32 := upd (upd (upd V (6 + s) (nI (nV V (6 + s) - g * p))) (18 + s) (nI (nV V (18 + s) - g))) (36 + c) (nI (nV V (36 + c) + g))
def zG (V kd sl : Nat → Int32) (s c : Nat) : Nat := min (zN V kd sl c) (nV V (18 + s))
def tSing (V kd sl vo ho : Nat → Int32) (s c : Nat) : Nat → Int32 :=
  if zG V kd sl s c = zN V kd sl c then upd (upd (tSong V s c (zG V kd sl s c) (zPay V vo ho s c)) (30 + c) 1) (42 + c) (nI (min 99 (nV V (42 + c) + 1)))
  else upd (tSong V s c (zG V kd sl s c) (zPay V vo ho s c)) 48 (nI (min 999 (nV V 48 + 1)))
def zMay (V : Nat → Int32) (s c : Nat) : Bool := decide (V (30 + c) = 0 ∧ V (24 + c) = V (12 + s) ∧ 0 < nV V (6 + s) ∧ 0 < nV V (18 + s))
theorem NB.carry {n m H c b : Nat} {kd sl V : Nat → Int32} (h : NB n m H kd sl V) (hc : c < m) (hn : n ≤ 6) (hm : m ≤ 6) (hb : b < H) (hH : H ≤ 20) : NB n m H kd sl (tCarry V c (nI b)) := by
  have hl := h.slow hc
  refine NB.intro (fun j hj => ?_) (fun j hj => ?_) (fun j hj => ?_) (fun j hj => ?_) (fun j hj => ?_) (fun j hj => ?_) (fun j hj => ?_) (fun j hj => ⟨_, h.kind hj⟩) (fun j hj => ⟨_, h.slow hj⟩) (fun j hj h0 => ?_) ?_ ?_ ?_
  · unfold tCarry; (repeat rw [pk_un (by omega)]); exact ⟨_, h.age hj⟩
  · unfold tCarry; (repeat rw [pk_un (by omega)]); exact ⟨_, h.debt hj⟩
  · unfold tCarry; (repeat rw [pk_un (by omega)]); exact ⟨_, h.at_ hj hH⟩
  · unfold tCarry; (repeat rw [pk_un (by omega)]); exact ⟨_, h.left hj⟩
  · unfold tCarry
    by_cases e : j = c
    · subst e; rw [pk_un (by omega), pk_us]; exact ⟨_, rfl, hb⟩
    · rw [pk_un (by omega), pk_un (by omega)]; exact ⟨_, h.lies hj hH⟩
  · unfold tCarry
    by_cases e : j = c
    · subst e; rw [pk_us]; exact ⟨0, rfl, by omega⟩
    · rw [pk_un (by omega), pk_un (by omega)]; exact ⟨_, h.heard hj⟩
  · unfold tCarry; (repeat rw [pk_un (by omega)]); exact ⟨_, h.sung hj⟩
  · unfold tCarry at h0 ⊢
    rw [pk_un (by omega), pk_un (by omega)] at h0
    rw [nV_un (k := 36 + c) (j := 42 + j) (by omega), nV_un (k := 24 + c) (j := 42 + j) (by omega)]
    by_cases e : j = c
    · subst e
      rw [show (0 : Int32) = nI 0 from rfl, nV_us (by omega)]
      exact tot_pos hl.2.1
    · rw [nV_un (by omega), nV_un (by omega)]
      exact h.wake hj h0
  · unfold tCarry; (repeat rw [pk_un (by omega)]); exact ⟨_, h.ev⟩
  · unfold tCarry; (repeat rw [pk_un (by omega)]); exact ⟨_, h.old⟩
  · unfold tCarry; (repeat rw [pk_un (by omega)]); exact ⟨_, h.late⟩
theorem NB.sing {n m H s c : Nat} {kd sl vo ho V : Nat → Int32} (h : NB n m H kd sl V) (hs : s < n) (hc : c < m) (hn : n ≤ 6) (hm : m ≤ 6) (hH : H ≤ 20) (hw : V (30 + c) = 0) : NB n m H kd sl (tSing V kd sl vo ho s c) := by
  have hd := h.debt hs
  have hl := h.left hs
  have hx := h.heard hc
  have hk := h.wake hc hw
  have ht := tot_le (K := nV kd c) (h.slow hc).2.2 (h.sung hc).2
  have hz : zN V kd sl c = tot (nV kd c) (nV sl c) (nV V (42 + c)) - nV V (36 + c) := by unfold zN; rw [if_pos hw]
  have hg : zG V kd sl s c ≤ zN V kd sl c := Nat.min_le_left _ _
  have hg2 : zG V kd sl s c ≤ nV V (18 + s) := Nat.min_le_right _ _
  unfold tSing
  generalize zG V kd sl s c = g at *
  generalize zPay V vo ho s c = p at *
  have hsub : nV V (6 + s) - g * p ≤ 198 := by have := Nat.sub_le (nV V (6 + s)) (g * p); omega
  split
  · rename_i hq
    refine NB.intro (fun j hj => ?_) (fun j hj => ?_) (fun j hj => ?_) (fun j hj => ?_) (fun j hj => ?_) (fun j hj => ?_) (fun j hj => ?_) (fun j hj => ⟨_, h.kind hj⟩) (fun j hj => ⟨_, h.slow hj⟩) (fun j hj h0 => ?_) ?_ ?_ ?_
    · unfold tSong; (repeat rw [pk_un (by omega)]); exact ⟨_, h.age hj⟩
    · unfold tSong
      by_cases e : j = s
      · subst e; (repeat rw [pk_un (by omega)]); rw [pk_us]; exact ⟨_, rfl, hsub⟩
      · (repeat rw [pk_un (by omega)]); exact ⟨_, h.debt hj⟩
    · unfold tSong; (repeat rw [pk_un (by omega)]); exact ⟨_, h.at_ hj hH⟩
    · unfold tSong
      by_cases e : j = s
      · subst e; (repeat rw [pk_un (by omega)]); rw [pk_us]; exact ⟨_, rfl, by omega⟩
      · (repeat rw [pk_un (by omega)]); exact ⟨_, h.left hj⟩
    · unfold tSong; (repeat rw [pk_un (by omega)]); exact ⟨_, h.lies hj hH⟩
    · unfold tSong
      by_cases e : j = c
      · subst e; (repeat rw [pk_un (by omega)]); rw [pk_us]; exact ⟨_, rfl, by omega⟩
      · (repeat rw [pk_un (by omega)]); exact ⟨_, h.heard hj⟩
    · unfold tSong
      by_cases e : j = c
      · subst e; rw [pk_us]; exact ⟨_, rfl, by omega⟩
      · (repeat rw [pk_un (by omega)]); exact ⟨_, h.sung hj⟩
    · by_cases e : j = c
      · subst e
        rw [pk_un (by omega), pk_us] at h0
        exact absurd h0 (by decide)
      · unfold tSong at h0 ⊢
        rw [pk_un (by omega), pk_un (by omega), pk_un (by omega), pk_un (by omega), pk_un (by omega)] at h0
        rw [nV_un (by omega), nV_un (by omega), nV_un (by omega), nV_un (by omega), nV_un (by omega), nV_un (by omega), nV_un (by omega), nV_un (by omega), nV_un (by omega), nV_un (by omega)]
        exact h.wake hj h0
    · unfold tSong; (repeat rw [pk_un (by omega)]); exact ⟨_, h.ev⟩
    · unfold tSong; (repeat rw [pk_un (by omega)]); exact ⟨_, h.old⟩
    · unfold tSong; (repeat rw [pk_un (by omega)]); exact ⟨_, h.late⟩
  · rename_i hq
    refine NB.intro (fun j hj => ?_) (fun j hj => ?_) (fun j hj => ?_) (fun j hj => ?_) (fun j hj => ?_) (fun j hj => ?_) (fun j hj => ?_) (fun j hj => ⟨_, h.kind hj⟩) (fun j hj => ⟨_, h.slow hj⟩) (fun j hj h0 => ?_) ?_ ?_ ?_
    · unfold tSong; (repeat rw [pk_un (by omega)]); exact ⟨_, h.age hj⟩
    · unfold tSong
      by_cases e : j = s
      · subst e; (repeat rw [pk_un (by omega)]); rw [pk_us]; exact ⟨_, rfl, hsub⟩
      · (repeat rw [pk_un (by omega)]); exact ⟨_, h.debt hj⟩
    · unfold tSong; (repeat rw [pk_un (by omega)]); exact ⟨_, h.at_ hj hH⟩
    · unfold tSong
      by_cases e : j = s
      · subst e; (repeat rw [pk_un (by omega)]); rw [pk_us]; exact ⟨_, rfl, by omega⟩
      · (repeat rw [pk_un (by omega)]); exact ⟨_, h.left hj⟩
    · unfold tSong; (repeat rw [pk_un (by omega)]); exact ⟨_, h.lies hj hH⟩
    · unfold tSong
      by_cases e : j = c
      · subst e; (repeat rw [pk_un (by omega)]); rw [pk_us]; exact ⟨_, rfl, by omega⟩
      · (repeat rw [pk_un (by omega)]); exact ⟨_, h.heard hj⟩
    · unfold tSong; (repeat rw [pk_un (by omega)]); exact ⟨_, h.sung hj⟩
    · unfold tSong at h0 ⊢
      rw [pk_un (by omega), pk_un (by omega), pk_un (by omega), pk_un (by omega)] at h0
      rw [nV_un (j := 42 + j) (by omega), nV_un (j := 42 + j) (by omega), nV_un (j := 42 + j) (by omega), nV_un (j := 42 + j) (by omega)]
      by_cases e : j = c
      · subst e
        rw [nV_un (by omega), nV_us (by omega)]
        omega
      · rw [nV_un (by omega), nV_un (by omega), nV_un (by omega), nV_un (by omega)]
        exact h.wake hj h0
    · unfold tSong; (repeat rw [pk_un (by omega)]); exact ⟨_, h.ev⟩
    · unfold tSong; (repeat rw [pk_un (by omega)]); exact ⟨_, h.old⟩
    · rw [pk_us]; exact ⟨_, rfl, by omega⟩
section SI
variable {sw : Bool} {σ : Sg} {ς : Lg} {V : Nat → Int32} {H D n m s c b : Nat}
theorem mayPass_C (h : CC sw σ V H D n m) (hc : c < m) (w : Int32) : f_X3_mayPass 3 (nI c) w (enc sw σ ς) = some (if zMv V (nI H) c w = true then 1 else 0, enc sw σ ς) := by
  obtain ⟨⟨r1, r2, r3, r4⟩, -, -, ⟨c1, -⟩, -⟩ := id h.1
  have hc6 : c < 6 := by omega
  have e1 := (h.2.1.2.1 c hc).1
  simp only [f_X3_mayPass, if_true, ite_true, reduceIte, Option.bind_some, Option.bind_none, bT1_some, io_LD, io_Rd, io_Mt, io_Nt, io_Pl, io_Ro, io_Pa, io_Te, io_Bo, io_Ia, io_Ib, io_Mo, io_Ra, io_Rb, gr_LD_0, gr_LD_1, gr_LD_2, gr_LD_3, gr_LD_4, gr_LD_5, gr_LD_6, gr_LD_7, gr_LD_8, gr_Rd_0, gr_Mt_0, gr_Mt_1, gr_Nt_0, gr_Nt_1, gr_Nt_2, gr_Nt_3, gr_Nt_4, gr_Nt_5, gr_Nt_6, gr_Pl_0, gr_Pl_1, gr_Ro_0, gr_Ro_1, gr_Ro_2, gr_Pa_0, gr_Te_0, gr_Te_1, gr_Bo_0, gr_Bo_1, gr_Ia_0, gr_Ib_0, gr_Mo_0, gr_Mo_7, gr_Mo_8, gr_Mo_9, gr_Mo_10, gr_Mo_11, gr_Mo_12, gr_Mo_15, gr_Mo_16, gr_Mo_17, gr_Mo_18, gr_Mo_20, gr_Mo_28, gr_Mo_29, gr_Mo_32, gr_Mo_33, gr_Mo_34, gr_Mo_35, gr_Mo_36, gr_Mo_37, gr_Ra_0, gr_Ra_1, gr_Ra_2, gr_Ra_3, gr_Ra_4, gr_Ra_5, gr_Ra_6, gr_Rb_0, gr_Rb_1, gr_Rb_2, gr_Rb_3, gr_Rb_4, gr_Rb_5, gr_Rb_6, gi_LD_9, gi_Rd_1, gi_Rd_2, gi_Rd_3, gi_Rd_4, gi_Nt_7, gi_Nt_8, gi_Nt_9, gi_Nt_10, gi_Pl_2, gi_Pl_3, gi_Ro_3, gi_Ro_4, gi_Ro_5, gi_Pa_1, gi_Pa_2, gi_Te_2, gi_Bo_2, gi_Ia_1, gi_Ia_2, gi_Ib_1, gi_Ib_2, gi_Mo_1, gi_Mo_2, gi_Mo_3, gi_Mo_4, gi_Mo_5, gi_Mo_6, gi_Mo_13, gl_Mo_14, gi_Mo_19, gi_Mo_21, gi_Mo_22, gi_Mo_23, gi_Mo_24, gi_Mo_25, gi_Mo_26, gi_Mo_27, gi_Mo_30, gi_Mo_31, gi_Ra_7, gi_Ra_8, gi_Ra_9, gi_Ra_10, gi_Rb_7, gi_Rb_8, gi_Rb_9, gi_Rb_10, ai_9 hc6, e1, awake_C h hc, c1]
  unfold zMv
  by_cases h0 : V (30 + c) = 0
  · simp only [h0, if_true, ite_true, reduceIte, Option.bind_some, Option.bind_none, bT1_some, io_LD, io_Rd, io_Mt, io_Nt, io_Pl, io_Ro, io_Pa, io_Te, io_Bo, io_Ia, io_Ib, io_Mo, io_Ra, io_Rb, gr_LD_0, gr_LD_1, gr_LD_2, gr_LD_3, gr_LD_4, gr_LD_5, gr_LD_6, gr_LD_7, gr_LD_8, gr_Rd_0, gr_Mt_0, gr_Mt_1, gr_Nt_0, gr_Nt_1, gr_Nt_2, gr_Nt_3, gr_Nt_4, gr_Nt_5, gr_Nt_6, gr_Pl_0, gr_Pl_1, gr_Ro_0, gr_Ro_1, gr_Ro_2, gr_Pa_0, gr_Te_0, gr_Te_1, gr_Bo_0, gr_Bo_1, gr_Ia_0, gr_Ib_0, gr_Mo_0, gr_Mo_7, gr_Mo_8, gr_Mo_9, gr_Mo_10, gr_Mo_11, gr_Mo_12, gr_Mo_15, gr_Mo_16, gr_Mo_17, gr_Mo_18, gr_Mo_20, gr_Mo_28, gr_Mo_29, gr_Mo_32, gr_Mo_33, gr_Mo_34, gr_Mo_35, gr_Mo_36, gr_Mo_37, gr_Ra_0, gr_Ra_1, gr_Ra_2, gr_Ra_3, gr_Ra_4, gr_Ra_5, gr_Ra_6, gr_Rb_0, gr_Rb_1, gr_Rb_2, gr_Rb_3, gr_Rb_4, gr_Rb_5, gr_Rb_6, gi_LD_9, gi_Rd_1, gi_Rd_2, gi_Rd_3, gi_Rd_4, gi_Nt_7, gi_Nt_8, gi_Nt_9, gi_Nt_10, gi_Pl_2, gi_Pl_3, gi_Ro_3, gi_Ro_4, gi_Ro_5, gi_Pa_1, gi_Pa_2, gi_Te_2, gi_Bo_2, gi_Ia_1, gi_Ia_2, gi_Ib_1, gi_Ib_2, gi_Mo_1, gi_Mo_2, gi_Mo_3, gi_Mo_4, gi_Mo_5, gi_Mo_6, gi_Mo_13, gl_Mo_14, gi_Mo_19, gi_Mo_21, gi_Mo_22, gi_Mo_23, gi_Mo_24, gi_Mo_25, gi_Mo_26, gi_Mo_27, gi_Mo_30, gi_Mo_31, gi_Ra_7, gi_Ra_8, gi_Ra_9, gi_Ra_10, gi_Rb_7, gi_Rb_8, gi_Rb_9, gi_Rb_10, show ¬ (1 : Int32) = 0 by decide]
    by_cases h1 : V (24 + c) + w < 0
    · simp [h1]
    · by_cases h2 : nI H ≤ V (24 + c) + w
      · simp [h1, h2]
      · simp [h1, h2]
  · simp [h0]
theorem canBe_M (h : I_row (rA sw) σ H D n m) (hc : c < m) (w : Int32) : f_X13_canBeCarried 302 (nI c) w (enc sw σ ς) = some (if zMv (σ 308) (nI H) c w = true then 1 else 0, enc sw σ ς) := by
  obtain ⟨⟨r1, r2, r3, r4⟩, -, -, -, ⟨d1, -⟩, -⟩ := id h
  have i24 : (24 : Int32) + nI c = nI (24 + c) := nI_add 24 c
  have i30 : (30 : Int32) + nI c = nI (30 + c) := nI_add 30 c
  have l24 : 24 + c < 51 := by omega
  have l30 : 30 + c < 51 := by omega
  simp only [f_X13_canBeCarried, if_true, ite_true, reduceIte, Option.bind_some, Option.bind_none, bT1_some, io_LD, io_Rd, io_Mt, io_Nt, io_Pl, io_Ro, io_Pa, io_Te, io_Bo, io_Ia, io_Ib, io_Mo, io_Ra, io_Rb, gr_LD_0, gr_LD_1, gr_LD_2, gr_LD_3, gr_LD_4, gr_LD_5, gr_LD_6, gr_LD_7, gr_LD_8, gr_Rd_0, gr_Mt_0, gr_Mt_1, gr_Nt_0, gr_Nt_1, gr_Nt_2, gr_Nt_3, gr_Nt_4, gr_Nt_5, gr_Nt_6, gr_Pl_0, gr_Pl_1, gr_Ro_0, gr_Ro_1, gr_Ro_2, gr_Pa_0, gr_Te_0, gr_Te_1, gr_Bo_0, gr_Bo_1, gr_Ia_0, gr_Ib_0, gr_Mo_0, gr_Mo_7, gr_Mo_8, gr_Mo_9, gr_Mo_10, gr_Mo_11, gr_Mo_12, gr_Mo_15, gr_Mo_16, gr_Mo_17, gr_Mo_18, gr_Mo_20, gr_Mo_28, gr_Mo_29, gr_Mo_32, gr_Mo_33, gr_Mo_34, gr_Mo_35, gr_Mo_36, gr_Mo_37, gr_Ra_0, gr_Ra_1, gr_Ra_2, gr_Ra_3, gr_Ra_4, gr_Ra_5, gr_Ra_6, gr_Rb_0, gr_Rb_1, gr_Rb_2, gr_Rb_3, gr_Rb_4, gr_Rb_5, gr_Rb_6, gi_LD_9, gi_Rd_1, gi_Rd_2, gi_Rd_3, gi_Rd_4, gi_Nt_7, gi_Nt_8, gi_Nt_9, gi_Nt_10, gi_Pl_2, gi_Pl_3, gi_Ro_3, gi_Ro_4, gi_Ro_5, gi_Pa_1, gi_Pa_2, gi_Te_2, gi_Bo_2, gi_Ia_1, gi_Ia_2, gi_Ib_1, gi_Ib_2, gi_Mo_1, gi_Mo_2, gi_Mo_3, gi_Mo_4, gi_Mo_5, gi_Mo_6, gi_Mo_13, gl_Mo_14, gi_Mo_19, gi_Mo_21, gi_Mo_22, gi_Mo_23, gi_Mo_24, gi_Mo_25, gi_Mo_26, gi_Mo_27, gi_Mo_30, gi_Mo_31, gi_Ra_7, gi_Ra_8, gi_Ra_9, gi_Ra_10, gi_Rb_7, gi_Rb_8, gi_Rb_9, gi_Rb_10, i24, i30, ai_308 l24, ai_308 l30, d1]
  unfold zMv
  by_cases h0 : σ 308 (30 + c) = 0
  · simp only [h0, if_true, ite_true, reduceIte, Option.bind_some, Option.bind_none, bT1_some, io_LD, io_Rd, io_Mt, io_Nt, io_Pl, io_Ro, io_Pa, io_Te, io_Bo, io_Ia, io_Ib, io_Mo, io_Ra, io_Rb, gr_LD_0, gr_LD_1, gr_LD_2, gr_LD_3, gr_LD_4, gr_LD_5, gr_LD_6, gr_LD_7, gr_LD_8, gr_Rd_0, gr_Mt_0, gr_Mt_1, gr_Nt_0, gr_Nt_1, gr_Nt_2, gr_Nt_3, gr_Nt_4, gr_Nt_5, gr_Nt_6, gr_Pl_0, gr_Pl_1, gr_Ro_0, gr_Ro_1, gr_Ro_2, gr_Pa_0, gr_Te_0, gr_Te_1, gr_Bo_0, gr_Bo_1, gr_Ia_0, gr_Ib_0, gr_Mo_0, gr_Mo_7, gr_Mo_8, gr_Mo_9, gr_Mo_10, gr_Mo_11, gr_Mo_12, gr_Mo_15, gr_Mo_16, gr_Mo_17, gr_Mo_18, gr_Mo_20, gr_Mo_28, gr_Mo_29, gr_Mo_32, gr_Mo_33, gr_Mo_34, gr_Mo_35, gr_Mo_36, gr_Mo_37, gr_Ra_0, gr_Ra_1, gr_Ra_2, gr_Ra_3, gr_Ra_4, gr_Ra_5, gr_Ra_6, gr_Rb_0, gr_Rb_1, gr_Rb_2, gr_Rb_3, gr_Rb_4, gr_Rb_5, gr_Rb_6, gi_LD_9, gi_Rd_1, gi_Rd_2, gi_Rd_3, gi_Rd_4, gi_Nt_7, gi_Nt_8, gi_Nt_9, gi_Nt_10, gi_Pl_2, gi_Pl_3, gi_Ro_3, gi_Ro_4, gi_Ro_5, gi_Pa_1, gi_Pa_2, gi_Te_2, gi_Bo_2, gi_Ia_1, gi_Ia_2, gi_Ib_1, gi_Ib_2, gi_Mo_1, gi_Mo_2, gi_Mo_3, gi_Mo_4, gi_Mo_5, gi_Mo_6, gi_Mo_13, gl_Mo_14, gi_Mo_19, gi_Mo_21, gi_Mo_22, gi_Mo_23, gi_Mo_24, gi_Mo_25, gi_Mo_26, gi_Mo_27, gi_Mo_30, gi_Mo_31, gi_Ra_7, gi_Ra_8, gi_Ra_9, gi_Ra_10, gi_Rb_7, gi_Rb_8, gi_Rb_9, gi_Rb_10, show ¬ (1 : Int32) = 0 by decide]
    by_cases h1 : σ 308 (24 + c) + w < 0
    · simp [h1]
    · by_cases h2 : nI H ≤ σ 308 (24 + c) + w
      · simp [h1, h2]
      · simp [h1, h2]
  · simp [h0]
theorem zMv_to {w : Int32} (h : zMv V (nI H) c w = true) (hH : H ≤ 20) : ∃ b', V (24 + c) + w = nI b' ∧ b' < H := by
  unfold zMv at h
  obtain ⟨-, h1, h2⟩ := of_decide_eq_true h
  obtain ⟨j, j1, j2⟩ := nI_of h1
  refine ⟨j, j2, ?_⟩
  rw [j2] at h2
  rcases Nat.lt_or_ge j H with z | z
  · exact z
  · exact absurd (nI_le z j1) h2
theorem pass_C (h : CC sw σ V H D n m) (hc : c < m) (w : Int32) (hw : V (24 + c) + w = nI b) (hb : b < H) :
    ∃ σ', f_X3_pass 3 (nI c) w (enc sw σ ς) = some (enc sw σ' ς) ∧ CC sw σ' (tCarry V c (nI b)) H D n m ∧ ∀ a, (a < 4 ∨ 12 ≤ a) → σ' a = σ a := by
  obtain ⟨⟨r1, r2, r3, r4⟩, -⟩ := id h.1
  have hc6 : c < 6 := by omega
  obtain ⟨n1, n2, n3, n4, n5, n6⟩ := id h.2.1
  have e1 := (n2 c hc).1
  refine ⟨uA (uA σ 9 (upd (σ 9) c (nI b))) 10 (upd (σ 10) c 0), ?_, ⟨h.1.c ?_ ?_ ?_, ?_, ?_⟩, ?_⟩
  · simp only [f_X3_pass, if_true, ite_true, reduceIte, Option.bind_some, Option.bind_none, bT1_some, io_LD, io_Rd, io_Mt, io_Nt, io_Pl, io_Ro, io_Pa, io_Te, io_Bo, io_Ia, io_Ib, io_Mo, io_Ra, io_Rb, gr_LD_0, gr_LD_1, gr_LD_2, gr_LD_3, gr_LD_4, gr_LD_5, gr_LD_6, gr_LD_7, gr_LD_8, gr_Rd_0, gr_Mt_0, gr_Mt_1, gr_Nt_0, gr_Nt_1, gr_Nt_2, gr_Nt_3, gr_Nt_4, gr_Nt_5, gr_Nt_6, gr_Pl_0, gr_Pl_1, gr_Ro_0, gr_Ro_1, gr_Ro_2, gr_Pa_0, gr_Te_0, gr_Te_1, gr_Bo_0, gr_Bo_1, gr_Ia_0, gr_Ib_0, gr_Mo_0, gr_Mo_7, gr_Mo_8, gr_Mo_9, gr_Mo_10, gr_Mo_11, gr_Mo_12, gr_Mo_15, gr_Mo_16, gr_Mo_17, gr_Mo_18, gr_Mo_20, gr_Mo_28, gr_Mo_29, gr_Mo_32, gr_Mo_33, gr_Mo_34, gr_Mo_35, gr_Mo_36, gr_Mo_37, gr_Ra_0, gr_Ra_1, gr_Ra_2, gr_Ra_3, gr_Ra_4, gr_Ra_5, gr_Ra_6, gr_Rb_0, gr_Rb_1, gr_Rb_2, gr_Rb_3, gr_Rb_4, gr_Rb_5, gr_Rb_6, gi_LD_9, gi_Rd_1, gi_Rd_2, gi_Rd_3, gi_Rd_4, gi_Nt_7, gi_Nt_8, gi_Nt_9, gi_Nt_10, gi_Pl_2, gi_Pl_3, gi_Ro_3, gi_Ro_4, gi_Ro_5, gi_Pa_1, gi_Pa_2, gi_Te_2, gi_Bo_2, gi_Ia_1, gi_Ia_2, gi_Ib_1, gi_Ib_2, gi_Mo_1, gi_Mo_2, gi_Mo_3, gi_Mo_4, gi_Mo_5, gi_Mo_6, gi_Mo_13, gl_Mo_14, gi_Mo_19, gi_Mo_21, gi_Mo_22, gi_Mo_23, gi_Mo_24, gi_Mo_25, gi_Mo_26, gi_Mo_27, gi_Mo_30, gi_Mo_31, gi_Ra_7, gi_Ra_8, gi_Ra_9, gi_Ra_10, gi_Rb_7, gi_Rb_8, gi_Rb_9, gi_Rb_10, ai_9 hc6, e1, aw_9 hc6, aw_10 hc6, uA, upd, vp_updL, uL, reduceIte, Nat.reduceEqDiff, eq_self, hw]
  · (intros; have hra := rA_or sw; first | rfl | (simp only [uA, upd, vp_updL, uL, reduceIte, Nat.reduceEqDiff, eq_self]; done) | (simp only [uA, upd, vp_updL, uL, reduceIte, Nat.reduceEqDiff, eq_self]; repeat rw [if_neg (by omega)]))
  · (intros; have hra := rA_or sw; first | rfl | (simp only [uA, upd, vp_updL, uL, reduceIte, Nat.reduceEqDiff, eq_self]; done) | (simp only [uA, upd, vp_updL, uL, reduceIte, Nat.reduceEqDiff, eq_self]; repeat rw [if_neg (by omega)]))
  · (intros; have hra := rA_or sw; first | rfl | (simp only [uA, upd, vp_updL, uL, reduceIte, Nat.reduceEqDiff, eq_self]; done) | (simp only [uA, upd, vp_updL, uL, reduceIte, Nat.reduceEqDiff, eq_self]; repeat rw [if_neg (by omega)]))
  · refine NR.intro (fun j hj => ?_) (fun j hj => ?_) (fun j hj => ?_) (fun j hj => ?_) (fun j hj => ?_) (fun j hj => ?_) (fun j hj => ?_) ?_ ?_ ?_ ?_
    · unfold tCarry; simp only [uA, upd, vp_updL, uL, reduceIte, Nat.reduceEqDiff, eq_self]; rw [if_neg (by omega), if_neg (by omega)]; exact (n1 j hj).1
    · unfold tCarry; simp only [uA, upd, vp_updL, uL, reduceIte, Nat.reduceEqDiff, eq_self]; rw [if_neg (by omega), if_neg (by omega)]; exact (n1 j hj).2.1
    · unfold tCarry; simp only [uA, upd, vp_updL, uL, reduceIte, Nat.reduceEqDiff, eq_self]; rw [if_neg (by omega), if_neg (by omega)]; exact (n1 j hj).2.2.1
    · unfold tCarry; simp only [uA, upd, vp_updL, uL, reduceIte, Nat.reduceEqDiff, eq_self]; rw [if_neg (by omega), if_neg (by omega)]; exact (n1 j hj).2.2.2
    · unfold tCarry; simp only [uA, upd, vp_updL, uL, reduceIte, Nat.reduceEqDiff, eq_self]
      by_cases e : j = c
      · rw [if_pos e, if_neg (by omega), if_pos (by omega)]
      · rw [if_neg e, if_neg (by omega), if_neg (by omega)]; exact (n2 j hj).1
    · unfold tCarry; simp only [uA, upd, vp_updL, uL, reduceIte, Nat.reduceEqDiff, eq_self]
      by_cases e : j = c
      · rw [if_pos e, if_pos (by omega)]
      · rw [if_neg e, if_neg (by omega), if_neg (by omega)]; exact (n2 j hj).2.1
    · unfold tCarry; simp only [uA, upd, vp_updL, uL, reduceIte, Nat.reduceEqDiff, eq_self]; rw [if_neg (by omega), if_neg (by omega)]; exact (n2 j hj).2.2
    · obtain ⟨w, w1, w2, w3⟩ := n3
      refine ⟨w, w1, by simp only [uA, upd, vp_updL, uL, reduceIte, Nat.reduceEqDiff, eq_self]; exact w2, fun c hc => ?_⟩
      unfold tCarry; rw [pk_un (by omega), pk_un (by omega)]; exact w3 c hc
    · unfold tCarry; simp only [uA, upd, vp_updL, uL, reduceIte, Nat.reduceEqDiff, eq_self]; rw [if_neg (by omega), if_neg (by omega)]; exact n4
    · unfold tCarry; simp only [uA, upd, vp_updL, uL, reduceIte, Nat.reduceEqDiff, eq_self]; rw [if_neg (by omega), if_neg (by omega)]; exact n5
    · unfold tCarry; simp only [uA, upd, vp_updL, uL, reduceIte, Nat.reduceEqDiff, eq_self]; rw [if_neg (by omega), if_neg (by omega)]; exact n6
  · simp only [uA, upd, vp_updL, uL, reduceIte, Nat.reduceEqDiff, eq_self]
    exact h.2.2.carry hc r3 r4 hb r1
  · intro a ha
    simp only [uA]
    rw [if_neg (by omega), if_neg (by omega)]
theorem carries_M (hc : c < 6) (w : Int32) : f_X13_carries 302 (nI c) w (enc sw σ ς) = some (enc sw (uA σ 308 (tCarry (σ 308) c (σ 308 (24 + c) + w))) ς) := by
  have i24 : (24 : Int32) + nI c = nI (24 + c) := nI_add 24 c
  have i36 : (36 : Int32) + nI c = nI (36 + c) := nI_add 36 c
  have l24 : 24 + c < 51 := by omega
  have l36 : 36 + c < 51 := by omega
  simp only [f_X13_carries, if_true, ite_true, reduceIte, Option.bind_some, Option.bind_none, bT1_some, io_LD, io_Rd, io_Mt, io_Nt, io_Pl, io_Ro, io_Pa, io_Te, io_Bo, io_Ia, io_Ib, io_Mo, io_Ra, io_Rb, gr_LD_0, gr_LD_1, gr_LD_2, gr_LD_3, gr_LD_4, gr_LD_5, gr_LD_6, gr_LD_7, gr_LD_8, gr_Rd_0, gr_Mt_0, gr_Mt_1, gr_Nt_0, gr_Nt_1, gr_Nt_2, gr_Nt_3, gr_Nt_4, gr_Nt_5, gr_Nt_6, gr_Pl_0, gr_Pl_1, gr_Ro_0, gr_Ro_1, gr_Ro_2, gr_Pa_0, gr_Te_0, gr_Te_1, gr_Bo_0, gr_Bo_1, gr_Ia_0, gr_Ib_0, gr_Mo_0, gr_Mo_7, gr_Mo_8, gr_Mo_9, gr_Mo_10, gr_Mo_11, gr_Mo_12, gr_Mo_15, gr_Mo_16, gr_Mo_17, gr_Mo_18, gr_Mo_20, gr_Mo_28, gr_Mo_29, gr_Mo_32, gr_Mo_33, gr_Mo_34, gr_Mo_35, gr_Mo_36, gr_Mo_37, gr_Ra_0, gr_Ra_1, gr_Ra_2, gr_Ra_3, gr_Ra_4, gr_Ra_5, gr_Ra_6, gr_Rb_0, gr_Rb_1, gr_Rb_2, gr_Rb_3, gr_Rb_4, gr_Rb_5, gr_Rb_6, gi_LD_9, gi_Rd_1, gi_Rd_2, gi_Rd_3, gi_Rd_4, gi_Nt_7, gi_Nt_8, gi_Nt_9, gi_Nt_10, gi_Pl_2, gi_Pl_3, gi_Ro_3, gi_Ro_4, gi_Ro_5, gi_Pa_1, gi_Pa_2, gi_Te_2, gi_Bo_2, gi_Ia_1, gi_Ia_2, gi_Ib_1, gi_Ib_2, gi_Mo_1, gi_Mo_2, gi_Mo_3, gi_Mo_4, gi_Mo_5, gi_Mo_6, gi_Mo_13, gl_Mo_14, gi_Mo_19, gi_Mo_21, gi_Mo_22, gi_Mo_23, gi_Mo_24, gi_Mo_25, gi_Mo_26, gi_Mo_27, gi_Mo_30, gi_Mo_31, gi_Ra_7, gi_Ra_8, gi_Ra_9, gi_Ra_10, gi_Rb_7, gi_Rb_8, gi_Rb_9, gi_Rb_10, i24, i36, ai_308 l24, aw_308 l24, aw_308 l36, uA_uA, uA_s]
  rfl
theorem mayLull_C (h : CC sw σ V H D n m) (hs : s < n) (hc : c < m) : f_X3_mayLull 3 (nI s) (nI c) (enc sw σ ς) = some (if zMay V s c = true then 1 else 0, enc sw σ ς) := by
  obtain ⟨⟨r1, r2, r3, r4⟩, -⟩ := id h.1
  have hs6 : s < 6 := by omega
  have hc6 : c < 6 := by omega
  have e1 := (h.2.1.2.1 c hc).1
  obtain ⟨-, e2, e3, e4⟩ := h.2.1.1 s hs
  have hd := h.2.2.debt hs
  have hl := h.2.2.left hs
  simp only [f_X3_mayLull, if_true, ite_true, reduceIte, Option.bind_some, Option.bind_none, bT1_some, io_LD, io_Rd, io_Mt, io_Nt, io_Pl, io_Ro, io_Pa, io_Te, io_Bo, io_Ia, io_Ib, io_Mo, io_Ra, io_Rb, gr_LD_0, gr_LD_1, gr_LD_2, gr_LD_3, gr_LD_4, gr_LD_5, gr_LD_6, gr_LD_7, gr_LD_8, gr_Rd_0, gr_Mt_0, gr_Mt_1, gr_Nt_0, gr_Nt_1, gr_Nt_2, gr_Nt_3, gr_Nt_4, gr_Nt_5, gr_Nt_6, gr_Pl_0, gr_Pl_1, gr_Ro_0, gr_Ro_1, gr_Ro_2, gr_Pa_0, gr_Te_0, gr_Te_1, gr_Bo_0, gr_Bo_1, gr_Ia_0, gr_Ib_0, gr_Mo_0, gr_Mo_7, gr_Mo_8, gr_Mo_9, gr_Mo_10, gr_Mo_11, gr_Mo_12, gr_Mo_15, gr_Mo_16, gr_Mo_17, gr_Mo_18, gr_Mo_20, gr_Mo_28, gr_Mo_29, gr_Mo_32, gr_Mo_33, gr_Mo_34, gr_Mo_35, gr_Mo_36, gr_Mo_37, gr_Ra_0, gr_Ra_1, gr_Ra_2, gr_Ra_3, gr_Ra_4, gr_Ra_5, gr_Ra_6, gr_Rb_0, gr_Rb_1, gr_Rb_2, gr_Rb_3, gr_Rb_4, gr_Rb_5, gr_Rb_6, gi_LD_9, gi_Rd_1, gi_Rd_2, gi_Rd_3, gi_Rd_4, gi_Nt_7, gi_Nt_8, gi_Nt_9, gi_Nt_10, gi_Pl_2, gi_Pl_3, gi_Ro_3, gi_Ro_4, gi_Ro_5, gi_Pa_1, gi_Pa_2, gi_Te_2, gi_Bo_2, gi_Ia_1, gi_Ia_2, gi_Ib_1, gi_Ib_2, gi_Mo_1, gi_Mo_2, gi_Mo_3, gi_Mo_4, gi_Mo_5, gi_Mo_6, gi_Mo_13, gl_Mo_14, gi_Mo_19, gi_Mo_21, gi_Mo_22, gi_Mo_23, gi_Mo_24, gi_Mo_25, gi_Mo_26, gi_Mo_27, gi_Mo_30, gi_Mo_31, gi_Ra_7, gi_Ra_8, gi_Ra_9, gi_Ra_10, gi_Rb_7, gi_Rb_8, gi_Rb_9, gi_Rb_10, ai_9 hc6, e1, awake_C h hc, ai_7 hs6, e3, ai_6 hs6, e2, ai_8 hs6, e4]
  unfold zMay
  by_cases h0 : V (30 + c) = 0
  · simp only [h0, if_true, ite_true, reduceIte, Option.bind_some, Option.bind_none, bT1_some, io_LD, io_Rd, io_Mt, io_Nt, io_Pl, io_Ro, io_Pa, io_Te, io_Bo, io_Ia, io_Ib, io_Mo, io_Ra, io_Rb, gr_LD_0, gr_LD_1, gr_LD_2, gr_LD_3, gr_LD_4, gr_LD_5, gr_LD_6, gr_LD_7, gr_LD_8, gr_Rd_0, gr_Mt_0, gr_Mt_1, gr_Nt_0, gr_Nt_1, gr_Nt_2, gr_Nt_3, gr_Nt_4, gr_Nt_5, gr_Nt_6, gr_Pl_0, gr_Pl_1, gr_Ro_0, gr_Ro_1, gr_Ro_2, gr_Pa_0, gr_Te_0, gr_Te_1, gr_Bo_0, gr_Bo_1, gr_Ia_0, gr_Ib_0, gr_Mo_0, gr_Mo_7, gr_Mo_8, gr_Mo_9, gr_Mo_10, gr_Mo_11, gr_Mo_12, gr_Mo_15, gr_Mo_16, gr_Mo_17, gr_Mo_18, gr_Mo_20, gr_Mo_28, gr_Mo_29, gr_Mo_32, gr_Mo_33, gr_Mo_34, gr_Mo_35, gr_Mo_36, gr_Mo_37, gr_Ra_0, gr_Ra_1, gr_Ra_2, gr_Ra_3, gr_Ra_4, gr_Ra_5, gr_Ra_6, gr_Rb_0, gr_Rb_1, gr_Rb_2, gr_Rb_3, gr_Rb_4, gr_Rb_5, gr_Rb_6, gi_LD_9, gi_Rd_1, gi_Rd_2, gi_Rd_3, gi_Rd_4, gi_Nt_7, gi_Nt_8, gi_Nt_9, gi_Nt_10, gi_Pl_2, gi_Pl_3, gi_Ro_3, gi_Ro_4, gi_Ro_5, gi_Pa_1, gi_Pa_2, gi_Te_2, gi_Bo_2, gi_Ia_1, gi_Ia_2, gi_Ib_1, gi_Ib_2, gi_Mo_1, gi_Mo_2, gi_Mo_3, gi_Mo_4, gi_Mo_5, gi_Mo_6, gi_Mo_13, gl_Mo_14, gi_Mo_19, gi_Mo_21, gi_Mo_22, gi_Mo_23, gi_Mo_24, gi_Mo_25, gi_Mo_26, gi_Mo_27, gi_Mo_30, gi_Mo_31, gi_Ra_7, gi_Ra_8, gi_Ra_9, gi_Ra_10, gi_Rb_7, gi_Rb_8, gi_Rb_9, gi_Rb_10, show ¬ (1 : Int32) = 0 by decide]
    by_cases h1 : V (24 + c) = V (12 + s)
    · simp only [h1, if_true, ite_true, reduceIte, Option.bind_some, Option.bind_none, bT1_some, io_LD, io_Rd, io_Mt, io_Nt, io_Pl, io_Ro, io_Pa, io_Te, io_Bo, io_Ia, io_Ib, io_Mo, io_Ra, io_Rb, gr_LD_0, gr_LD_1, gr_LD_2, gr_LD_3, gr_LD_4, gr_LD_5, gr_LD_6, gr_LD_7, gr_LD_8, gr_Rd_0, gr_Mt_0, gr_Mt_1, gr_Nt_0, gr_Nt_1, gr_Nt_2, gr_Nt_3, gr_Nt_4, gr_Nt_5, gr_Nt_6, gr_Pl_0, gr_Pl_1, gr_Ro_0, gr_Ro_1, gr_Ro_2, gr_Pa_0, gr_Te_0, gr_Te_1, gr_Bo_0, gr_Bo_1, gr_Ia_0, gr_Ib_0, gr_Mo_0, gr_Mo_7, gr_Mo_8, gr_Mo_9, gr_Mo_10, gr_Mo_11, gr_Mo_12, gr_Mo_15, gr_Mo_16, gr_Mo_17, gr_Mo_18, gr_Mo_20, gr_Mo_28, gr_Mo_29, gr_Mo_32, gr_Mo_33, gr_Mo_34, gr_Mo_35, gr_Mo_36, gr_Mo_37, gr_Ra_0, gr_Ra_1, gr_Ra_2, gr_Ra_3, gr_Ra_4, gr_Ra_5, gr_Ra_6, gr_Rb_0, gr_Rb_1, gr_Rb_2, gr_Rb_3, gr_Rb_4, gr_Rb_5, gr_Rb_6, gi_LD_9, gi_Rd_1, gi_Rd_2, gi_Rd_3, gi_Rd_4, gi_Nt_7, gi_Nt_8, gi_Nt_9, gi_Nt_10, gi_Pl_2, gi_Pl_3, gi_Ro_3, gi_Ro_4, gi_Ro_5, gi_Pa_1, gi_Pa_2, gi_Te_2, gi_Bo_2, gi_Ia_1, gi_Ia_2, gi_Ib_1, gi_Ib_2, gi_Mo_1, gi_Mo_2, gi_Mo_3, gi_Mo_4, gi_Mo_5, gi_Mo_6, gi_Mo_13, gl_Mo_14, gi_Mo_19, gi_Mo_21, gi_Mo_22, gi_Mo_23, gi_Mo_24, gi_Mo_25, gi_Mo_26, gi_Mo_27, gi_Mo_30, gi_Mo_31, gi_Ra_7, gi_Ra_8, gi_Ra_9, gi_Ra_10, gi_Rb_7, gi_Rb_8, gi_Rb_9, gi_Rb_10]
      rw [hd.1, hl.1]
      by_cases h2 : 0 < nV V (6 + s)
      · rw [if_neg (nI_nle h2 (by omega))]
        by_cases h3 : 0 < nV V (18 + s)
        · rw [if_neg (nI_nle h3 (by omega))]; simp [h2, h3]
        · rw [show nV V (18 + s) = 0 by omega, if_pos (by decide)]; simp
      · rw [show nV V (6 + s) = 0 by omega, if_pos (by decide)]; simp
    · simp [h1]
  · simp [h0]
theorem may_M (hN : NB n m H (σ 306) (σ 307) (σ 308)) (hs : s < n) (hc : c < m) (hn : n ≤ 6) (hm : m ≤ 6) : f_X13_may 302 (nI s) (nI c) (enc sw σ ς) = some (if zMay (σ 308) s c = true then 1 else 0, enc sw σ ς) := by
  have i24 : (24 : Int32) + nI c = nI (24 + c) := nI_add 24 c
  have i30 : (30 : Int32) + nI c = nI (30 + c) := nI_add 30 c
  have i12 : (12 : Int32) + nI s = nI (12 + s) := nI_add 12 s
  have i6 : (6 : Int32) + nI s = nI (6 + s) := nI_add 6 s
  have i18 : (18 : Int32) + nI s = nI (18 + s) := nI_add 18 s
  have l24 : 24 + c < 51 := by omega
  have l30 : 30 + c < 51 := by omega
  have l12 : 12 + s < 51 := by omega
  have l6 : 6 + s < 51 := by omega
  have l18 : 18 + s < 51 := by omega
  have hd := hN.debt hs
  have hl := hN.left hs
  simp only [f_X13_may, if_true, ite_true, reduceIte, Option.bind_some, Option.bind_none, bT1_some, io_LD, io_Rd, io_Mt, io_Nt, io_Pl, io_Ro, io_Pa, io_Te, io_Bo, io_Ia, io_Ib, io_Mo, io_Ra, io_Rb, gr_LD_0, gr_LD_1, gr_LD_2, gr_LD_3, gr_LD_4, gr_LD_5, gr_LD_6, gr_LD_7, gr_LD_8, gr_Rd_0, gr_Mt_0, gr_Mt_1, gr_Nt_0, gr_Nt_1, gr_Nt_2, gr_Nt_3, gr_Nt_4, gr_Nt_5, gr_Nt_6, gr_Pl_0, gr_Pl_1, gr_Ro_0, gr_Ro_1, gr_Ro_2, gr_Pa_0, gr_Te_0, gr_Te_1, gr_Bo_0, gr_Bo_1, gr_Ia_0, gr_Ib_0, gr_Mo_0, gr_Mo_7, gr_Mo_8, gr_Mo_9, gr_Mo_10, gr_Mo_11, gr_Mo_12, gr_Mo_15, gr_Mo_16, gr_Mo_17, gr_Mo_18, gr_Mo_20, gr_Mo_28, gr_Mo_29, gr_Mo_32, gr_Mo_33, gr_Mo_34, gr_Mo_35, gr_Mo_36, gr_Mo_37, gr_Ra_0, gr_Ra_1, gr_Ra_2, gr_Ra_3, gr_Ra_4, gr_Ra_5, gr_Ra_6, gr_Rb_0, gr_Rb_1, gr_Rb_2, gr_Rb_3, gr_Rb_4, gr_Rb_5, gr_Rb_6, gi_LD_9, gi_Rd_1, gi_Rd_2, gi_Rd_3, gi_Rd_4, gi_Nt_7, gi_Nt_8, gi_Nt_9, gi_Nt_10, gi_Pl_2, gi_Pl_3, gi_Ro_3, gi_Ro_4, gi_Ro_5, gi_Pa_1, gi_Pa_2, gi_Te_2, gi_Bo_2, gi_Ia_1, gi_Ia_2, gi_Ib_1, gi_Ib_2, gi_Mo_1, gi_Mo_2, gi_Mo_3, gi_Mo_4, gi_Mo_5, gi_Mo_6, gi_Mo_13, gl_Mo_14, gi_Mo_19, gi_Mo_21, gi_Mo_22, gi_Mo_23, gi_Mo_24, gi_Mo_25, gi_Mo_26, gi_Mo_27, gi_Mo_30, gi_Mo_31, gi_Ra_7, gi_Ra_8, gi_Ra_9, gi_Ra_10, gi_Rb_7, gi_Rb_8, gi_Rb_9, gi_Rb_10, i24, i30, i12, i6, i18, ai_308 l24, ai_308 l30, ai_308 l12, ai_308 l6, ai_308 l18]
  unfold zMay
  by_cases h1 : σ 308 (24 + c) = σ 308 (12 + s)
  · simp only [h1, if_true, ite_true, reduceIte, Option.bind_some, Option.bind_none, bT1_some, io_LD, io_Rd, io_Mt, io_Nt, io_Pl, io_Ro, io_Pa, io_Te, io_Bo, io_Ia, io_Ib, io_Mo, io_Ra, io_Rb, gr_LD_0, gr_LD_1, gr_LD_2, gr_LD_3, gr_LD_4, gr_LD_5, gr_LD_6, gr_LD_7, gr_LD_8, gr_Rd_0, gr_Mt_0, gr_Mt_1, gr_Nt_0, gr_Nt_1, gr_Nt_2, gr_Nt_3, gr_Nt_4, gr_Nt_5, gr_Nt_6, gr_Pl_0, gr_Pl_1, gr_Ro_0, gr_Ro_1, gr_Ro_2, gr_Pa_0, gr_Te_0, gr_Te_1, gr_Bo_0, gr_Bo_1, gr_Ia_0, gr_Ib_0, gr_Mo_0, gr_Mo_7, gr_Mo_8, gr_Mo_9, gr_Mo_10, gr_Mo_11, gr_Mo_12, gr_Mo_15, gr_Mo_16, gr_Mo_17, gr_Mo_18, gr_Mo_20, gr_Mo_28, gr_Mo_29, gr_Mo_32, gr_Mo_33, gr_Mo_34, gr_Mo_35, gr_Mo_36, gr_Mo_37, gr_Ra_0, gr_Ra_1, gr_Ra_2, gr_Ra_3, gr_Ra_4, gr_Ra_5, gr_Ra_6, gr_Rb_0, gr_Rb_1, gr_Rb_2, gr_Rb_3, gr_Rb_4, gr_Rb_5, gr_Rb_6, gi_LD_9, gi_Rd_1, gi_Rd_2, gi_Rd_3, gi_Rd_4, gi_Nt_7, gi_Nt_8, gi_Nt_9, gi_Nt_10, gi_Pl_2, gi_Pl_3, gi_Ro_3, gi_Ro_4, gi_Ro_5, gi_Pa_1, gi_Pa_2, gi_Te_2, gi_Bo_2, gi_Ia_1, gi_Ia_2, gi_Ib_1, gi_Ib_2, gi_Mo_1, gi_Mo_2, gi_Mo_3, gi_Mo_4, gi_Mo_5, gi_Mo_6, gi_Mo_13, gl_Mo_14, gi_Mo_19, gi_Mo_21, gi_Mo_22, gi_Mo_23, gi_Mo_24, gi_Mo_25, gi_Mo_26, gi_Mo_27, gi_Mo_30, gi_Mo_31, gi_Ra_7, gi_Ra_8, gi_Ra_9, gi_Ra_10, gi_Rb_7, gi_Rb_8, gi_Rb_9, gi_Rb_10]
    by_cases h0 : σ 308 (30 + c) = 0
    · simp only [h0, if_true, ite_true, reduceIte, Option.bind_some, Option.bind_none, bT1_some, io_LD, io_Rd, io_Mt, io_Nt, io_Pl, io_Ro, io_Pa, io_Te, io_Bo, io_Ia, io_Ib, io_Mo, io_Ra, io_Rb, gr_LD_0, gr_LD_1, gr_LD_2, gr_LD_3, gr_LD_4, gr_LD_5, gr_LD_6, gr_LD_7, gr_LD_8, gr_Rd_0, gr_Mt_0, gr_Mt_1, gr_Nt_0, gr_Nt_1, gr_Nt_2, gr_Nt_3, gr_Nt_4, gr_Nt_5, gr_Nt_6, gr_Pl_0, gr_Pl_1, gr_Ro_0, gr_Ro_1, gr_Ro_2, gr_Pa_0, gr_Te_0, gr_Te_1, gr_Bo_0, gr_Bo_1, gr_Ia_0, gr_Ib_0, gr_Mo_0, gr_Mo_7, gr_Mo_8, gr_Mo_9, gr_Mo_10, gr_Mo_11, gr_Mo_12, gr_Mo_15, gr_Mo_16, gr_Mo_17, gr_Mo_18, gr_Mo_20, gr_Mo_28, gr_Mo_29, gr_Mo_32, gr_Mo_33, gr_Mo_34, gr_Mo_35, gr_Mo_36, gr_Mo_37, gr_Ra_0, gr_Ra_1, gr_Ra_2, gr_Ra_3, gr_Ra_4, gr_Ra_5, gr_Ra_6, gr_Rb_0, gr_Rb_1, gr_Rb_2, gr_Rb_3, gr_Rb_4, gr_Rb_5, gr_Rb_6, gi_LD_9, gi_Rd_1, gi_Rd_2, gi_Rd_3, gi_Rd_4, gi_Nt_7, gi_Nt_8, gi_Nt_9, gi_Nt_10, gi_Pl_2, gi_Pl_3, gi_Ro_3, gi_Ro_4, gi_Ro_5, gi_Pa_1, gi_Pa_2, gi_Te_2, gi_Bo_2, gi_Ia_1, gi_Ia_2, gi_Ib_1, gi_Ib_2, gi_Mo_1, gi_Mo_2, gi_Mo_3, gi_Mo_4, gi_Mo_5, gi_Mo_6, gi_Mo_13, gl_Mo_14, gi_Mo_19, gi_Mo_21, gi_Mo_22, gi_Mo_23, gi_Mo_24, gi_Mo_25, gi_Mo_26, gi_Mo_27, gi_Mo_30, gi_Mo_31, gi_Ra_7, gi_Ra_8, gi_Ra_9, gi_Ra_10, gi_Rb_7, gi_Rb_8, gi_Rb_9, gi_Rb_10]
      rw [hd.1, hl.1]
      by_cases h2 : 0 < nV (σ 308) (6 + s)
      · rw [if_neg (nI_nle h2 (by omega))]
        by_cases h3 : 0 < nV (σ 308) (18 + s)
        · rw [if_neg (nI_nle h3 (by omega))]; simp [h2, h3]
        · rw [show nV (σ 308) (18 + s) = 0 by omega, if_pos (by decide)]; simp
      · rw [show nV (σ 308) (6 + s) = 0 by omega, if_pos (by decide)]; simp
    · simp [h0]
  · simp [h1]
end SI
