theorem bT1_some {α γ : Type} (x : α) (h : AH) (F : α → AH → Option γ) : bT1 (some (x, h)) F = F x h := rfl
theorem bT2_some {α β γ : Type} (x : α) (y : β) (h : AH) (F : α → β → AH → Option γ) : bT2 (some (x, y, h)) F = F x y h := rfl
theorem rA_or (sw : Bool) : rA sw = 12 ∨ rA sw = 276 := by cases sw <;> simp [rA]
theorem rB_or (sw : Bool) : rB sw = 12 ∨ rB sw = 276 := by cases sw <;> simp [rB]
/-- a night of the class at p holds what V tells (V in the reference's order), for n singers and m children -/
def NR (n m : Nat) (σ : Sg) (p : Nat) (V : Nat → Int32) : Prop :=
  (∀ s, s < n → σ (p + 1) s = V s ∧ σ (p + 2) s = V (6 + s) ∧ σ (p + 3) s = V (12 + s) ∧ σ (p + 4) s = V (18 + s)) ∧
  (∀ c, c < m → σ (p + 5) c = V (24 + c) ∧ σ (p + 6) c = V (36 + c) ∧ σ (p + 7) c = V (42 + c)) ∧
  (∃ w, w < 2 ^ m ∧ σ p 7 = nI w ∧ ∀ c, c < m → V (30 + c) = if w.testBit c then 0 else 1) ∧
  σ p 8 = V 50 ∧ σ p 9 = V 49 ∧ σ p 10 = V 48
/-- songs till a child of kind K, P, sung to u times, sleeps -/
def tot (K Pp u : Nat) : Nat := if K = 1 then 2 * Pp else if K = 2 then Pp / 2 + 1 else if K = 3 then Pp + u else Pp
/-- what a night's numbers keep to -/
def NB (n m H : Nat) (kd sl : Nat → Int32) (V : Nat → Int32) : Prop :=
  (∀ s, s < n → ∃ a d h l, (V s = nI a ∧ a ≤ 99) ∧ (V (6 + s) = nI d ∧ d ≤ 198) ∧ (V (12 + s) = nI h ∧ h < H) ∧ (V (18 + s) = nI l ∧ l ≤ 30)) ∧
  (∀ c, c < m → ∃ b x u K Pp, (V (24 + c) = nI b ∧ b < H) ∧ (V (36 + c) = nI x ∧ x ≤ 200) ∧ (V (42 + c) = nI u ∧ u ≤ 99) ∧ (kd c = nI K ∧ K ≤ 3) ∧ (sl c = nI Pp ∧ 1 ≤ Pp ∧ Pp ≤ 20) ∧ (V (30 + c) = 0 → x < tot K Pp u)) ∧
  (∃ ev, V 50 = nI ev ∧ ev ≤ 20000) ∧ (∃ o, V 49 = nI o ∧ o < 64) ∧ (∃ lt, V 48 = nI lt ∧ lt ≤ 999)
/-- the text, as fed so far -/
def I_tx (σ : Sg) (len : Nat) : Prop := len ≤ 240 ∧ σ 1 1 = nI len ∧ σ 302 1 = nI len ∧ ∀ i, i < len → σ 2 i = σ 303 i ∧ ∃ z, z < 256 ∧ σ 303 i = nI z
/-- the row -/
def I_row (ra : Nat) (σ : Sg) (H D n m : Nat) : Prop :=
  (H ≤ 20 ∧ D ≤ 30 ∧ n ≤ 6 ∧ m ≤ 6) ∧ (H = 0 → n = 0 ∧ m = 0) ∧ (0 < H → 0 < D) ∧
  (σ ra 7 = nI H ∧ σ ra 8 = nI D ∧ σ ra 9 = nI n ∧ σ ra 10 = nI m) ∧ (σ 302 3 = nI H ∧ σ 302 4 = nI D ∧ σ 302 5 = nI n ∧ σ 302 6 = nI m) ∧
  (∀ s, s < n → σ (ra + 1) s = σ 304 s ∧ σ (ra + 4) s = σ 305 s ∧ (∃ v, σ 304 s = nI v ∧ v ≤ 3) ∧ (∃ v, σ 305 s = nI v ∧ v < H)) ∧
  (∀ c, c < m → σ (ra + 5) c = σ 306 c ∧ σ (ra + 6) c = σ 307 c)
def I_now (σ : Sg) (H n m : Nat) : Prop := NR n m σ 4 (σ 308) ∧ NB n m H (σ 306) (σ 307) (σ 308)
/-- what can be undone: the ring of the class, the rows of the reference -/
def I_past (σ : Sg) (H n m k nx : Nat) : Prop := k ≤ 30 ∧ nx < 30 ∧ σ 27 1 = nI nx ∧ σ 27 2 = nI k ∧ σ 302 13 = nI k ∧
  ∀ j, j < k → NR n m σ (29 + 8 * ((nx + 30 - k + j) % 30)) (fun q => σ 309 (51 * j + q)) ∧ NB n m H (σ 306) (σ 307) (fun q => σ 309 (51 * j + q))
def I_seed (σ : Sg) (ς : Lg) : Prop := ∃ z, z < 2 ^ 31 ∧ σ 0 9 = nI z ∧ ς 302 14 = lN z
def I_img (σ : Sg) (ς : Lg) (H n m : Nat) : Prop := ∀ i, i < 2 → (σ (284 + 9 * i) 2 = 0 ∧ σ 312 i = 0) ∨
  (σ (284 + 9 * i) 2 = 1 ∧ σ 312 i = 1 ∧ NR n m σ (285 + 9 * i) (fun q => σ 310 (51 * i + q)) ∧ NB n m H (σ 306) (σ 307) (fun q => σ 310 (51 * i + q)) ∧ ∃ z, z < 2 ^ 31 ∧ σ (284 + 9 * i) 1 = nI z ∧ ς 311 i = lN z)
def I_ask (σ : Sg) (q : Nat) : Prop := q ≤ 6 ∧ σ 269 2 = nI q ∧ σ 302 19 = nI q ∧ ∀ j, j < q → σ 270 j = σ 313 (2 * j) ∧ σ 271 j = σ 313 (2 * j + 1) ∧ (σ 313 (2 * j + 1) = 0 ∨ σ 313 (2 * j + 1) = 1)
def I_book (σ : Sg) (n e : Nat) : Prop := e ≤ 20 ∧ σ 272 2 = nI e ∧ σ 302 21 = nI e ∧ ∀ j, j < e → σ 273 j = σ 314 (2 * j) ∧ σ 274 j = σ 314 (2 * j + 1) ∧ ∃ s, s < n ∧ σ 314 (2 * j) = nI s
def InvG (sw : Bool) (σ : Sg) (ς : Lg) (len H D n m k nx q e : Nat) : Prop :=
  I_tx σ len ∧ σ 1 2 = σ 302 2 ∧ I_row (rA sw) σ H D n m ∧ I_now σ H n m ∧ I_past σ H n m k nx ∧ I_seed σ ς ∧ I_img σ ς H n m ∧ I_ask σ q ∧ I_book σ n e
def Inv (sw : Bool) (σ : Sg) (ς : Lg) : Prop := ∃ len H D n m k nx q e, InvG sw σ ς len H D n m k nx q e
/-- a call of the class and the same call of the reference answer alike, and what holds goes on holding -/
def Alike (fc fm : AH → Option (Int32 × AH)) : Prop := ∀ sw σ ς, Inv sw σ ς → ∃ r s1 σ1 ς1 s2 σ2 ς2, fc (enc sw σ ς) = some (r, enc s1 σ1 ς1) ∧ fm (enc s1 σ1 ς1) = some (r, enc s2 σ2 ς2) ∧ Inv s2 σ2 ς2
theorem al_fault : Alike (f_X12_fault 0) (f_X13_fault 302) := by
  intro sw σ ς h
  refine ⟨σ 1 2, sw, σ, ς, sw, σ, ς, ?_, ?_, h⟩
  · simp only [f_X12_fault, if_true, ite_true, reduceIte, Option.bind_some, Option.bind_none, bT1_some, io_LD, io_Rd, io_Mt, io_Nt, io_Pl, io_Ro, io_Pa, io_Te, io_Bo, io_Ia, io_Ib, io_Mo, io_Ra, io_Rb, gr_LD_0, gr_LD_1, gr_LD_2, gr_LD_3, gr_LD_4, gr_LD_5, gr_LD_6, gr_LD_7, gr_LD_8, gr_Rd_0, gr_Mt_0, gr_Mt_1, gr_Nt_0, gr_Nt_1, gr_Nt_2, gr_Nt_3, gr_Nt_4, gr_Nt_5, gr_Nt_6, gr_Pl_0, gr_Pl_1, gr_Ro_0, gr_Ro_1, gr_Ro_2, gr_Pa_0, gr_Te_0, gr_Te_1, gr_Bo_0, gr_Bo_1, gr_Ia_0, gr_Ib_0, gr_Mo_0, gr_Mo_7, gr_Mo_8, gr_Mo_9, gr_Mo_10, gr_Mo_11, gr_Mo_12, gr_Mo_15, gr_Mo_16, gr_Mo_17, gr_Mo_18, gr_Mo_20, gr_Mo_28, gr_Mo_29, gr_Mo_32, gr_Mo_33, gr_Mo_34, gr_Mo_35, gr_Mo_36, gr_Mo_37, gr_Ra_0, gr_Ra_1, gr_Ra_2, gr_Ra_3, gr_Ra_4, gr_Ra_5, gr_Ra_6, gr_Rb_0, gr_Rb_1, gr_Rb_2, gr_Rb_3, gr_Rb_4, gr_Rb_5, gr_Rb_6, gi_LD_9, gi_Rd_1, gi_Rd_2, gi_Rd_3, gi_Rd_4, gi_Nt_7, gi_Nt_8, gi_Nt_9, gi_Nt_10, gi_Pl_2, gi_Pl_3, gi_Ro_3, gi_Ro_4, gi_Ro_5, gi_Pa_1, gi_Pa_2, gi_Te_2, gi_Bo_2, gi_Ia_1, gi_Ia_2, gi_Ib_1, gi_Ib_2, gi_Mo_1, gi_Mo_2, gi_Mo_3, gi_Mo_4, gi_Mo_5, gi_Mo_6, gi_Mo_13, gl_Mo_14, gi_Mo_19, gi_Mo_21, gi_Mo_22, gi_Mo_23, gi_Mo_24, gi_Mo_25, gi_Mo_26, gi_Mo_27, gi_Mo_30, gi_Mo_31, gi_Ra_7, gi_Ra_8, gi_Ra_9, gi_Ra_10, gi_Rb_7, gi_Rb_8, gi_Rb_9, gi_Rb_10]
  · obtain ⟨len, H, D, n, m, k, nx, q, e, h⟩ := h
    simp only [f_X13_fault, if_true, ite_true, reduceIte, Option.bind_some, Option.bind_none, bT1_some, io_LD, io_Rd, io_Mt, io_Nt, io_Pl, io_Ro, io_Pa, io_Te, io_Bo, io_Ia, io_Ib, io_Mo, io_Ra, io_Rb, gr_LD_0, gr_LD_1, gr_LD_2, gr_LD_3, gr_LD_4, gr_LD_5, gr_LD_6, gr_LD_7, gr_LD_8, gr_Rd_0, gr_Mt_0, gr_Mt_1, gr_Nt_0, gr_Nt_1, gr_Nt_2, gr_Nt_3, gr_Nt_4, gr_Nt_5, gr_Nt_6, gr_Pl_0, gr_Pl_1, gr_Ro_0, gr_Ro_1, gr_Ro_2, gr_Pa_0, gr_Te_0, gr_Te_1, gr_Bo_0, gr_Bo_1, gr_Ia_0, gr_Ib_0, gr_Mo_0, gr_Mo_7, gr_Mo_8, gr_Mo_9, gr_Mo_10, gr_Mo_11, gr_Mo_12, gr_Mo_15, gr_Mo_16, gr_Mo_17, gr_Mo_18, gr_Mo_20, gr_Mo_28, gr_Mo_29, gr_Mo_32, gr_Mo_33, gr_Mo_34, gr_Mo_35, gr_Mo_36, gr_Mo_37, gr_Ra_0, gr_Ra_1, gr_Ra_2, gr_Ra_3, gr_Ra_4, gr_Ra_5, gr_Ra_6, gr_Rb_0, gr_Rb_1, gr_Rb_2, gr_Rb_3, gr_Rb_4, gr_Rb_5, gr_Rb_6, gi_LD_9, gi_Rd_1, gi_Rd_2, gi_Rd_3, gi_Rd_4, gi_Nt_7, gi_Nt_8, gi_Nt_9, gi_Nt_10, gi_Pl_2, gi_Pl_3, gi_Ro_3, gi_Ro_4, gi_Ro_5, gi_Pa_1, gi_Pa_2, gi_Te_2, gi_Bo_2, gi_Ia_1, gi_Ia_2, gi_Ib_1, gi_Ib_2, gi_Mo_1, gi_Mo_2, gi_Mo_3, gi_Mo_4, gi_Mo_5, gi_Mo_6, gi_Mo_13, gl_Mo_14, gi_Mo_19, gi_Mo_21, gi_Mo_22, gi_Mo_23, gi_Mo_24, gi_Mo_25, gi_Mo_26, gi_Mo_27, gi_Mo_30, gi_Mo_31, gi_Ra_7, gi_Ra_8, gi_Ra_9, gi_Ra_10, gi_Rb_7, gi_Rb_8, gi_Rb_9, gi_Rb_10, h.2.1]
/-! each part of what holds looks at few cells -/
theorem I_tx.c {σ σ' : Sg} {len : Nat} (h : I_tx σ len) (e1 : σ' 1 1 = σ 1 1) (e2 : σ' 302 1 = σ 302 1) (e3 : σ' 2 = σ 2) (e4 : σ' 303 = σ 303) : I_tx σ' len := by
  unfold I_tx at h ⊢
  rw [e1, e2, e3, e4]; exact h
theorem I_row.c {ra : Nat} {σ σ' : Sg} {H D n m : Nat} (h : I_row ra σ H D n m) (e1 : ∀ j, j < 8 → σ' (ra + j) = σ (ra + j)) (e2 : ∀ j, 3 ≤ j → j ≤ 6 → σ' 302 j = σ 302 j) (e3 : ∀ j, 304 ≤ j → j ≤ 307 → σ' j = σ j) : I_row ra σ' H D n m := by
  unfold I_row at h ⊢
  rw [show σ' ra = σ ra from e1 0 (by omega), e1 1 (by omega), e1 4 (by omega), e1 5 (by omega), e1 6 (by omega), e2 3 (by omega) (by omega), e2 4 (by omega) (by omega), e2 5 (by omega) (by omega), e2 6 (by omega) (by omega), e3 304 (by omega) (by omega), e3 305 (by omega) (by omega), e3 306 (by omega) (by omega), e3 307 (by omega) (by omega)]
  exact h
theorem NR.c {n m p : Nat} {σ σ' : Sg} {V : Nat → Int32} (h : NR n m σ p V) (e : ∀ j, j < 8 → σ' (p + j) = σ (p + j)) : NR n m σ' p V := by
  unfold NR at h ⊢
  rw [show σ' p = σ p from e 0 (by omega), e 1 (by omega), e 2 (by omega), e 3 (by omega), e 4 (by omega), e 5 (by omega), e 6 (by omega), e 7 (by omega)]
  exact h
theorem I_now.c {σ σ' : Sg} {H n m : Nat} (h : I_now σ H n m) (e1 : ∀ j, j < 8 → σ' (4 + j) = σ (4 + j)) (e2 : ∀ j, 306 ≤ j → j ≤ 308 → σ' j = σ j) : I_now σ' H n m := by
  unfold I_now at h ⊢
  rw [e2 306 (by omega) (by omega), e2 307 (by omega) (by omega), e2 308 (by omega) (by omega)]
  exact ⟨h.1.c e1, h.2⟩
theorem I_past.c {σ σ' : Sg} {H n m k nx : Nat} (h : I_past σ H n m k nx) (e1 : ∀ j, 27 ≤ j → j < 269 → σ' j = σ j) (e2 : σ' 302 13 = σ 302 13) (e3 : σ' 309 = σ 309) (e4 : ∀ j, 306 ≤ j → j ≤ 307 → σ' j = σ j) : I_past σ' H n m k nx := by
  unfold I_past at h ⊢
  rw [e1 27 (by omega) (by omega), e2, e3, e4 306 (by omega) (by omega), e4 307 (by omega) (by omega)]
  obtain ⟨h1, h2, h3, h4, h5, h6⟩ := h
  refine ⟨h1, h2, h3, h4, h5, fun j hj => ⟨(h6 j hj).1.c fun i hi => e1 _ (by omega) ?_, (h6 j hj).2⟩⟩
  have := Nat.mod_lt (nx + 30 - k + j) (show 0 < 30 by omega)
  omega
theorem I_seed.c {σ σ' : Sg} {ς ς' : Lg} (h : I_seed σ ς) (e1 : σ' 0 9 = σ 0 9) (e2 : ς' 302 14 = ς 302 14) : I_seed σ' ς' := by
  unfold I_seed at h ⊢
  rw [e1, e2]; exact h
theorem I_img.c {σ σ' : Sg} {ς ς' : Lg} {H n m : Nat} (h : I_img σ ς H n m) (e1 : ∀ j, 284 ≤ j → j < 302 → σ' j = σ j) (e2 : σ' 312 = σ 312) (e3 : σ' 310 = σ 310) (e4 : ς' 311 = ς 311) (e5 : ∀ j, 306 ≤ j → j ≤ 307 → σ' j = σ j) : I_img σ' ς' H n m := by
  intro i hi
  have h := h i hi
  rw [e1 _ (by omega) (by omega), e2, e3, e4, e5 306 (by omega) (by omega), e5 307 (by omega) (by omega)]
  rcases h with h | ⟨h1, h2, h3, h4⟩
  · exact Or.inl h
  · exact Or.inr ⟨h1, h2, h3.c fun j hj => e1 _ (by omega) (by omega), h4⟩
theorem I_ask.c {σ σ' : Sg} {q : Nat} (h : I_ask σ q) (e1 : σ' 269 2 = σ 269 2) (e2 : σ' 302 19 = σ 302 19) (e3 : σ' 270 = σ 270) (e4 : σ' 271 = σ 271) (e5 : σ' 313 = σ 313) : I_ask σ' q := by
  unfold I_ask at h ⊢
  rw [e1, e2, e3, e4, e5]; exact h
theorem I_book.c {σ σ' : Sg} {n e : Nat} (h : I_book σ n e) (e1 : σ' 272 2 = σ 272 2) (e2 : σ' 302 21 = σ 302 21) (e3 : σ' 273 = σ 273) (e4 : σ' 274 = σ 274) (e5 : σ' 314 = σ 314) : I_book σ' n e := by
  unfold I_book at h ⊢
  rw [e1, e2, e3, e4, e5]; exact h
theorem I_ask.zero {σ : Sg} (e1 : σ 269 2 = 0) (e2 : σ 302 19 = 0) : I_ask σ 0 := ⟨by omega, e1, e2, fun j hj => absurd hj (by omega)⟩
theorem I_book.zero {σ : Sg} {n : Nat} (e1 : σ 272 2 = 0) (e2 : σ 302 21 = 0) : I_book σ n 0 := ⟨by omega, e1, e2, fun j hj => absurd hj (by omega)⟩
theorem al_tear : Alike (f_X12_tear 0) (f_X13_tear 302) := by
  intro sw σ ς h
  obtain ⟨len, H, D, n, m, k, nx, q, e, h1, h2, h3, h4, h5, h6, h7, h8, h9⟩ := h
  obtain ⟨q1, q2, q3, q4⟩ := id h8
  obtain ⟨e1, e2, e3, e4⟩ := id h9
  apply Exists.intro; apply Exists.intro; apply Exists.intro; apply Exists.intro; apply Exists.intro; apply Exists.intro; apply Exists.intro
  refine ⟨?_, ?_, ?_⟩
  · simp only [f_X12_tear, f_X11_clear, f_X0_clear, if_true, ite_true, reduceIte, Option.bind_some, Option.bind_none, bT1_some, io_LD, io_Rd, io_Mt, io_Nt, io_Pl, io_Ro, io_Pa, io_Te, io_Bo, io_Ia, io_Ib, io_Mo, io_Ra, io_Rb, gr_LD_0, gr_LD_1, gr_LD_2, gr_LD_3, gr_LD_4, gr_LD_5, gr_LD_6, gr_LD_7, gr_LD_8, gr_Rd_0, gr_Mt_0, gr_Mt_1, gr_Nt_0, gr_Nt_1, gr_Nt_2, gr_Nt_3, gr_Nt_4, gr_Nt_5, gr_Nt_6, gr_Pl_0, gr_Pl_1, gr_Ro_0, gr_Ro_1, gr_Ro_2, gr_Pa_0, gr_Te_0, gr_Te_1, gr_Bo_0, gr_Bo_1, gr_Ia_0, gr_Ib_0, gr_Mo_0, gr_Mo_7, gr_Mo_8, gr_Mo_9, gr_Mo_10, gr_Mo_11, gr_Mo_12, gr_Mo_15, gr_Mo_16, gr_Mo_17, gr_Mo_18, gr_Mo_20, gr_Mo_28, gr_Mo_29, gr_Mo_32, gr_Mo_33, gr_Mo_34, gr_Mo_35, gr_Mo_36, gr_Mo_37, gr_Ra_0, gr_Ra_1, gr_Ra_2, gr_Ra_3, gr_Ra_4, gr_Ra_5, gr_Ra_6, gr_Rb_0, gr_Rb_1, gr_Rb_2, gr_Rb_3, gr_Rb_4, gr_Rb_5, gr_Rb_6, gi_LD_9, gi_Rd_1, gi_Rd_2, gi_Rd_3, gi_Rd_4, gi_Nt_7, gi_Nt_8, gi_Nt_9, gi_Nt_10, gi_Pl_2, gi_Pl_3, gi_Ro_3, gi_Ro_4, gi_Ro_5, gi_Pa_1, gi_Pa_2, gi_Te_2, gi_Bo_2, gi_Ia_1, gi_Ia_2, gi_Ib_1, gi_Ib_2, gi_Mo_1, gi_Mo_2, gi_Mo_3, gi_Mo_4, gi_Mo_5, gi_Mo_6, gi_Mo_13, gl_Mo_14, gi_Mo_19, gi_Mo_21, gi_Mo_22, gi_Mo_23, gi_Mo_24, gi_Mo_25, gi_Mo_26, gi_Mo_27, gi_Mo_30, gi_Mo_31, gi_Ra_7, gi_Ra_8, gi_Ra_9, gi_Ra_10, gi_Rb_7, gi_Rb_8, gi_Rb_9, gi_Rb_10, pf_LD_9, pf_Rd_1, pf_Rd_2, pf_Rd_3, pf_Rd_4, pf_Nt_7, pf_Nt_8, pf_Nt_9, pf_Nt_10, pf_Pl_2, pf_Pl_3, pf_Ro_3, pf_Ro_4, pf_Ro_5, pf_Pa_1, pf_Pa_2, pf_Te_2, pf_Bo_2, pf_Ia_1, pf_Ia_2, pf_Ib_1, pf_Ib_2, pf_Mo_1, pf_Mo_2, pf_Mo_3, pf_Mo_4, pf_Mo_5, pf_Mo_6, pf_Mo_13, pl_Mo_14, pf_Mo_19, pf_Mo_21, pf_Mo_22, pf_Mo_23, pf_Mo_24, pf_Mo_25, pf_Mo_26, pf_Mo_27, pf_Mo_30, pf_Mo_31, pf_Ra_7, pf_Ra_8, pf_Ra_9, pf_Ra_10, pf_Rb_7, pf_Rb_8, pf_Rb_9, pf_Rb_10, q2, e2]
    rfl
  · simp only [f_X13_tear, if_true, ite_true, reduceIte, Option.bind_some, Option.bind_none, bT1_some, io_LD, io_Rd, io_Mt, io_Nt, io_Pl, io_Ro, io_Pa, io_Te, io_Bo, io_Ia, io_Ib, io_Mo, io_Ra, io_Rb, gr_LD_0, gr_LD_1, gr_LD_2, gr_LD_3, gr_LD_4, gr_LD_5, gr_LD_6, gr_LD_7, gr_LD_8, gr_Rd_0, gr_Mt_0, gr_Mt_1, gr_Nt_0, gr_Nt_1, gr_Nt_2, gr_Nt_3, gr_Nt_4, gr_Nt_5, gr_Nt_6, gr_Pl_0, gr_Pl_1, gr_Ro_0, gr_Ro_1, gr_Ro_2, gr_Pa_0, gr_Te_0, gr_Te_1, gr_Bo_0, gr_Bo_1, gr_Ia_0, gr_Ib_0, gr_Mo_0, gr_Mo_7, gr_Mo_8, gr_Mo_9, gr_Mo_10, gr_Mo_11, gr_Mo_12, gr_Mo_15, gr_Mo_16, gr_Mo_17, gr_Mo_18, gr_Mo_20, gr_Mo_28, gr_Mo_29, gr_Mo_32, gr_Mo_33, gr_Mo_34, gr_Mo_35, gr_Mo_36, gr_Mo_37, gr_Ra_0, gr_Ra_1, gr_Ra_2, gr_Ra_3, gr_Ra_4, gr_Ra_5, gr_Ra_6, gr_Rb_0, gr_Rb_1, gr_Rb_2, gr_Rb_3, gr_Rb_4, gr_Rb_5, gr_Rb_6, gi_LD_9, gi_Rd_1, gi_Rd_2, gi_Rd_3, gi_Rd_4, gi_Nt_7, gi_Nt_8, gi_Nt_9, gi_Nt_10, gi_Pl_2, gi_Pl_3, gi_Ro_3, gi_Ro_4, gi_Ro_5, gi_Pa_1, gi_Pa_2, gi_Te_2, gi_Bo_2, gi_Ia_1, gi_Ia_2, gi_Ib_1, gi_Ib_2, gi_Mo_1, gi_Mo_2, gi_Mo_3, gi_Mo_4, gi_Mo_5, gi_Mo_6, gi_Mo_13, gl_Mo_14, gi_Mo_19, gi_Mo_21, gi_Mo_22, gi_Mo_23, gi_Mo_24, gi_Mo_25, gi_Mo_26, gi_Mo_27, gi_Mo_30, gi_Mo_31, gi_Ra_7, gi_Ra_8, gi_Ra_9, gi_Ra_10, gi_Rb_7, gi_Rb_8, gi_Rb_9, gi_Rb_10, pf_LD_9, pf_Rd_1, pf_Rd_2, pf_Rd_3, pf_Rd_4, pf_Nt_7, pf_Nt_8, pf_Nt_9, pf_Nt_10, pf_Pl_2, pf_Pl_3, pf_Ro_3, pf_Ro_4, pf_Ro_5, pf_Pa_1, pf_Pa_2, pf_Te_2, pf_Bo_2, pf_Ia_1, pf_Ia_2, pf_Ib_1, pf_Ib_2, pf_Mo_1, pf_Mo_2, pf_Mo_3, pf_Mo_4, pf_Mo_5, pf_Mo_6, pf_Mo_13, pl_Mo_14, pf_Mo_19, pf_Mo_21, pf_Mo_22, pf_Mo_23, pf_Mo_24, pf_Mo_25, pf_Mo_26, pf_Mo_27, pf_Mo_30, pf_Mo_31, pf_Ra_7, pf_Ra_8, pf_Ra_9, pf_Ra_10, pf_Rb_7, pf_Rb_8, pf_Rb_9, pf_Rb_10, uA, upd, vp_updL, uL, reduceIte, Nat.reduceEqDiff, eq_self, q3, e3]
    rfl
  · refine ⟨len, H, D, n, m, k, nx, 0, 0, h1.c ?_ ?_ ?_ ?_, ?h2, h3.c ?_ ?_ ?_, h4.c ?_ ?_, h5.c ?_ ?_ ?_ ?_, h6.c ?_ ?_, h7.c ?_ ?_ ?_ ?_ ?_, I_ask.zero ?_ ?_, I_book.zero ?_ ?_⟩
    case h2 => simp only [uA, upd, vp_updL, uL, reduceIte, Nat.reduceEqDiff, eq_self, h2]
    all_goals (intros; have hra := rA_or sw; first | rfl | (simp only [uA, upd, vp_updL, uL, reduceIte, Nat.reduceEqDiff, eq_self]; done) | (simp only [uA, upd, vp_updL, uL, reduceIte, Nat.reduceEqDiff, eq_self]; repeat rw [if_neg (by omega)]))
