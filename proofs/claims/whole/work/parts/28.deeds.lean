theorem uA_uA (σ : Sg) (a : Nat) (f g : Nat → Int32) : uA (uA σ a f) a g = uA σ a g := by funext b; by_cases h : b = a <;> simp [uA, h]
theorem NR.intro {n m p : Nat} {σ : Sg} {V : Nat → Int32} (h1 : ∀ s, s < n → σ (p + 1) s = V s) (h2 : ∀ s, s < n → σ (p + 2) s = V (6 + s)) (h3 : ∀ s, s < n → σ (p + 3) s = V (12 + s)) (h4 : ∀ s, s < n → σ (p + 4) s = V (18 + s))
    (h5 : ∀ c, c < m → σ (p + 5) c = V (24 + c)) (h6 : ∀ c, c < m → σ (p + 6) c = V (36 + c)) (h7 : ∀ c, c < m → σ (p + 7) c = V (42 + c)) (h8 : ∃ w, w < 2 ^ m ∧ σ p 7 = nI w ∧ ∀ c, c < m → V (30 + c) = if w.testBit c then 0 else 1)
    (h9 : σ p 8 = V 50) (h10 : σ p 9 = V 49) (h11 : σ p 10 = V 48) : NR n m σ p V :=
  ⟨fun s hs => ⟨h1 s hs, h2 s hs, h3 s hs, h4 s hs⟩, fun c hc => ⟨h5 c hc, h6 c hc, h7 c hc⟩, h8, h9, h10, h11⟩
theorem NB.intro {n m H : Nat} {kd sl V : Nat → Int32} (h1 : ∀ s, s < n → ∃ a, V s = nI a ∧ a ≤ 99) (h2 : ∀ s, s < n → ∃ a, V (6 + s) = nI a ∧ a ≤ 198) (h3 : ∀ s, s < n → ∃ a, V (12 + s) = nI a ∧ a < H) (h4 : ∀ s, s < n → ∃ a, V (18 + s) = nI a ∧ a ≤ 30)
    (h5 : ∀ c, c < m → ∃ a, V (24 + c) = nI a ∧ a < H) (h6 : ∀ c, c < m → ∃ a, V (36 + c) = nI a ∧ a ≤ 200) (h7 : ∀ c, c < m → ∃ a, V (42 + c) = nI a ∧ a ≤ 99) (hk : ∀ c, c < m → ∃ a, kd c = nI a ∧ a ≤ 3) (hp : ∀ c, c < m → ∃ a, sl c = nI a ∧ 1 ≤ a ∧ a ≤ 20)
    (hw : ∀ c, c < m → V (30 + c) = 0 → nV V (36 + c) < tot (nV kd c) (nV sl c) (nV V (42 + c))) (he : ∃ a, V 50 = nI a ∧ a ≤ 20000) (ho : ∃ a, V 49 = nI a ∧ a < 64) (hl : ∃ a, V 48 = nI a ∧ a ≤ 999) : NB n m H kd sl V := by
  refine ⟨fun s hs => ?_, fun c hc => ?_, he, ho, hl⟩
  · obtain ⟨a, a1⟩ := h1 s hs
    obtain ⟨b, b1⟩ := h2 s hs
    obtain ⟨c, c1⟩ := h3 s hs
    obtain ⟨d, d1⟩ := h4 s hs
    exact ⟨a, b, c, d, a1, b1, c1, d1⟩
  · obtain ⟨a, a1⟩ := h5 c hc
    obtain ⟨b, b1⟩ := h6 c hc
    obtain ⟨d, d1⟩ := h7 c hc
    obtain ⟨e, e1⟩ := hk c hc
    obtain ⟨f, f1⟩ := hp c hc
    refine ⟨a, b, d, e, f, a1, b1, d1, e1, f1, fun h0 => ?_⟩
    have := hw c hc h0
    rw [nV_of b1.1 (by omega), nV_of d1.1 (by omega), nV_of e1.1 (by omega), nV_of f1.1 (by omega)] at this
    exact this
theorem NB.old {n m H : Nat} {kd sl V : Nat → Int32} (h : NB n m H kd sl V) : V 49 = nI (nV V 49) ∧ nV V 49 < 64 := by
  obtain ⟨e, e1, e2⟩ := h.2.2.2.1
  rw [nV_of e1 (by omega)]; exact ⟨e1, e2⟩
theorem NB.late {n m H : Nat} {kd sl V : Nat → Int32} (h : NB n m H kd sl V) : V 48 = nI (nV V 48) ∧ nV V 48 ≤ 999 := by
  obtain ⟨e, e1, e2⟩ := h.2.2.2.2
  rw [nV_of e1 (by omega)]; exact ⟨e1, e2⟩
theorem nV_un {V : Nat → Int32} {k j : Nat} {x : Int32} (h : j ≠ k) : nV (upd V k x) j = nV V j := by unfold nV; rw [pk_un h]
theorem nV_us {V : Nat → Int32} {k a : Nat} (h : a < 2 ^ 31) : nV (upd V k (nI a)) k = a := by unfold nV; rw [pk_us]; exact nI_clamp h
theorem relu_C {a b : Nat} (ha : a < 2 ^ 30) (hb : b < 2 ^ 30) : (if (0 : Int32) < nI a - nI b then nI a - nI b else 0) = nI (a - b) := by
  by_cases h : b < a
  · rw [pk_sub (by omega), if_pos (nI_0lt (by omega) (by omega))]
  · rw [show a - b = 0 by omega]
    by_cases h2 : a = b
    · subst h2
      rw [pk_sub (Nat.le_refl a), Nat.sub_self, if_neg (by decide)]; rfl
    · have := pk_sneg (a := a) (b := b) hb (by omega)
      rw [if_neg (Int32.not_lt.mpr (Int32.le_of_lt this))]; rfl
theorem relu_M {a b : Nat} (ha : a < 2 ^ 30) (hb : b < 2 ^ 30) : (if (0 : Int32) ≤ nI a - nI b then nI a - nI b else 0) = nI (a - b) := by
  by_cases h : b ≤ a
  · rw [pk_sub h, if_pos (nI_pos' (by omega))]
  · rw [show a - b = 0 by omega]
    have := pk_sneg (a := a) (b := b) hb (by omega)
    rw [if_neg (Int32.not_le.mpr this)]; rfl
theorem min_C {a b : Nat} (ha : a < 2 ^ 31) (hb : b < 2 ^ 31) : (if nI b < nI a then nI b else nI a) = nI (min a b) := by
  by_cases h : b < a
  · rw [if_pos (nI_lt h ha), Nat.min_eq_right (by omega)]
  · rw [if_neg (nI_nlt (by omega) hb), Nat.min_eq_left (by omega)]
theorem min_M {sw : Bool} {σ : Sg} {ς : Lg} {a b : Nat} (ha : a < 2 ^ 31) (hb : b < 2 ^ 31) : f_X13_min 302 (nI a) (nI b) (enc sw σ ς) = some (nI (min a b), enc sw σ ς) := by
  simp only [f_X13_min, if_true, ite_true, reduceIte, Option.bind_some, Option.bind_none, bT1_some, io_LD, io_Rd, io_Mt, io_Nt, io_Pl, io_Ro, io_Pa, io_Te, io_Bo, io_Ia, io_Ib, io_Mo, io_Ra, io_Rb, gr_LD_0, gr_LD_1, gr_LD_2, gr_LD_3, gr_LD_4, gr_LD_5, gr_LD_6, gr_LD_7, gr_LD_8, gr_Rd_0, gr_Mt_0, gr_Mt_1, gr_Nt_0, gr_Nt_1, gr_Nt_2, gr_Nt_3, gr_Nt_4, gr_Nt_5, gr_Nt_6, gr_Pl_0, gr_Pl_1, gr_Ro_0, gr_Ro_1, gr_Ro_2, gr_Pa_0, gr_Te_0, gr_Te_1, gr_Bo_0, gr_Bo_1, gr_Ia_0, gr_Ib_0, gr_Mo_0, gr_Mo_7, gr_Mo_8, gr_Mo_9, gr_Mo_10, gr_Mo_11, gr_Mo_12, gr_Mo_15, gr_Mo_16, gr_Mo_17, gr_Mo_18, gr_Mo_20, gr_Mo_28, gr_Mo_29, gr_Mo_32, gr_Mo_33, gr_Mo_34, gr_Mo_35, gr_Mo_36, gr_Mo_37, gr_Ra_0, gr_Ra_1, gr_Ra_2, gr_Ra_3, gr_Ra_4, gr_Ra_5, gr_Ra_6, gr_Rb_0, gr_Rb_1, gr_Rb_2, gr_Rb_3, gr_Rb_4, gr_Rb_5, gr_Rb_6, gi_LD_9, gi_Rd_1, gi_Rd_2, gi_Rd_3, gi_Rd_4, gi_Nt_7, gi_Nt_8, gi_Nt_9, gi_Nt_10, gi_Pl_2, gi_Pl_3, gi_Ro_3, gi_Ro_4, gi_Ro_5, gi_Pa_1, gi_Pa_2, gi_Te_2, gi_Bo_2, gi_Ia_1, gi_Ia_2, gi_Ib_1, gi_Ib_2, gi_Mo_1, gi_Mo_2, gi_Mo_3, gi_Mo_4, gi_Mo_5, gi_Mo_6, gi_Mo_13, gl_Mo_14, gi_Mo_19, gi_Mo_21, gi_Mo_22, gi_Mo_23, gi_Mo_24, gi_Mo_25, gi_Mo_26, gi_Mo_27, gi_Mo_30, gi_Mo_31, gi_Ra_7, gi_Ra_8, gi_Ra_9, gi_Ra_10, gi_Rb_7, gi_Rb_8, gi_Rb_9, gi_Rb_10]
  by_cases h : b ≤ a
  · rw [if_pos (nI_le h ha), Nat.min_eq_right h]
  · rw [if_neg (nI_ge (by omega) hb), Nat.min_eq_left (by omega)]
/-- a singer goes -/
def tWalk (V : Nat → Int32) (s b : Nat) : Nat → Int32 := upd (upd V (18 + s) (nI (nV V (18 + s) - ((nV V (12 + s) - b) + (b - nV V (12 + s)))))) (12 + s) (nI b)
theorem NB.walk {n m H s b : Nat} {kd sl V : Nat → Int32} (h : NB n m H kd sl V) (hs : s < n) (hn : n ≤ 6) (hm : m ≤ 6) (hb : b < H) (hH : H ≤ 20) : NB n m H kd sl (tWalk V s b) := by
  have hl := h.left hs
  refine NB.intro (fun j hj => ?_) (fun j hj => ?_) (fun j hj => ?_) (fun j hj => ?_) (fun j hj => ?_) (fun j hj => ?_) (fun j hj => ?_) (fun j hj => ⟨_, h.kind hj⟩) (fun j hj => ⟨_, h.slow hj⟩) (fun j hj h0 => ?_) ?_ ?_ ?_
  · unfold tWalk; (repeat rw [pk_un (by omega)]); exact ⟨_, h.age hj⟩
  · unfold tWalk; (repeat rw [pk_un (by omega)]); exact ⟨_, h.debt hj⟩
  · unfold tWalk
    by_cases e : j = s
    · subst e; rw [pk_us]; exact ⟨_, rfl, hb⟩
    · rw [pk_un (by omega), pk_un (by omega)]; exact ⟨_, h.at_ hj hH⟩
  · unfold tWalk
    by_cases e : j = s
    · subst e; rw [pk_un (by omega), pk_us]; exact ⟨_, rfl, by omega⟩
    · rw [pk_un (by omega), pk_un (by omega)]; exact ⟨_, h.left hj⟩
  · unfold tWalk; (repeat rw [pk_un (by omega)]); exact ⟨_, h.lies hj hH⟩
  · unfold tWalk; (repeat rw [pk_un (by omega)]); exact ⟨_, h.heard hj⟩
  · unfold tWalk; (repeat rw [pk_un (by omega)]); exact ⟨_, h.sung hj⟩
  · unfold tWalk at h0 ⊢
    rw [pk_un (by omega), pk_un (by omega)] at h0
    rw [nV_un (by omega), nV_un (by omega), nV_un (by omega), nV_un (by omega)]
    exact h.wake hj h0
  · unfold tWalk; (repeat rw [pk_un (by omega)]); exact ⟨_, h.ev⟩
  · unfold tWalk; (repeat rw [pk_un (by omega)]); exact ⟨_, h.old⟩
  · unfold tWalk; (repeat rw [pk_un (by omega)]); exact ⟨_, h.late⟩
section DE
variable {sw : Bool} {σ : Sg} {ς : Lg} {V : Nat → Int32} {H D n m s c b : Nat}
theorem walk_C (h : CC sw σ V H D n m) (hs : s < n) (hb : b < H) (hle : (nV V (12 + s) - b) + (b - nV V (12 + s)) ≤ nV V (18 + s)) :
    ∃ σ', f_X3_walk 3 (nI s) (nI b) (enc sw σ ς) = some (enc sw σ' ς) ∧ CC sw σ' (tWalk V s b) H D n m ∧ ∀ a, (a < 4 ∨ 12 ≤ a) → σ' a = σ a := by
  obtain ⟨⟨r1, r2, r3, r4⟩, -⟩ := id h.1
  have hs6 : s < 6 := by omega
  have hl := h.2.2.left hs
  obtain ⟨n1, n2, n3, n4, n5, n6⟩ := id h.2.1
  have e4 := (n1 s hs).2.2.2
  refine ⟨uA (uA σ 8 (upd (σ 8) s (nI (nV V (18 + s) - ((nV V (12 + s) - b) + (b - nV V (12 + s))))))) 7 (upd (σ 7) s (nI b)), ?_, ⟨h.1.c ?_ ?_ ?_, ?_, ?_⟩, ?_⟩
  · simp only [f_X3_walk, if_true, ite_true, reduceIte, Option.bind_some, Option.bind_none, bT1_some, io_LD, io_Rd, io_Mt, io_Nt, io_Pl, io_Ro, io_Pa, io_Te, io_Bo, io_Ia, io_Ib, io_Mo, io_Ra, io_Rb, gr_LD_0, gr_LD_1, gr_LD_2, gr_LD_3, gr_LD_4, gr_LD_5, gr_LD_6, gr_LD_7, gr_LD_8, gr_Rd_0, gr_Mt_0, gr_Mt_1, gr_Nt_0, gr_Nt_1, gr_Nt_2, gr_Nt_3, gr_Nt_4, gr_Nt_5, gr_Nt_6, gr_Pl_0, gr_Pl_1, gr_Ro_0, gr_Ro_1, gr_Ro_2, gr_Pa_0, gr_Te_0, gr_Te_1, gr_Bo_0, gr_Bo_1, gr_Ia_0, gr_Ib_0, gr_Mo_0, gr_Mo_7, gr_Mo_8, gr_Mo_9, gr_Mo_10, gr_Mo_11, gr_Mo_12, gr_Mo_15, gr_Mo_16, gr_Mo_17, gr_Mo_18, gr_Mo_20, gr_Mo_28, gr_Mo_29, gr_Mo_32, gr_Mo_33, gr_Mo_34, gr_Mo_35, gr_Mo_36, gr_Mo_37, gr_Ra_0, gr_Ra_1, gr_Ra_2, gr_Ra_3, gr_Ra_4, gr_Ra_5, gr_Ra_6, gr_Rb_0, gr_Rb_1, gr_Rb_2, gr_Rb_3, gr_Rb_4, gr_Rb_5, gr_Rb_6, gi_LD_9, gi_Rd_1, gi_Rd_2, gi_Rd_3, gi_Rd_4, gi_Nt_7, gi_Nt_8, gi_Nt_9, gi_Nt_10, gi_Pl_2, gi_Pl_3, gi_Ro_3, gi_Ro_4, gi_Ro_5, gi_Pa_1, gi_Pa_2, gi_Te_2, gi_Bo_2, gi_Ia_1, gi_Ia_2, gi_Ib_1, gi_Ib_2, gi_Mo_1, gi_Mo_2, gi_Mo_3, gi_Mo_4, gi_Mo_5, gi_Mo_6, gi_Mo_13, gl_Mo_14, gi_Mo_19, gi_Mo_21, gi_Mo_22, gi_Mo_23, gi_Mo_24, gi_Mo_25, gi_Mo_26, gi_Mo_27, gi_Mo_30, gi_Mo_31, gi_Ra_7, gi_Ra_8, gi_Ra_9, gi_Ra_10, gi_Rb_7, gi_Rb_8, gi_Rb_9, gi_Rb_10, ai_8 hs6, e4, stepsTo_C h hs (show b < 20 by omega), aw_8 hs6, aw_7 hs6, uA, upd, vp_updL, uL, reduceIte, Nat.reduceEqDiff, eq_self]
    rw [hl.1, pk_sub hle]
  · (intros; have hra := rA_or sw; first | rfl | (simp only [uA, upd, vp_updL, uL, reduceIte, Nat.reduceEqDiff, eq_self]; done) | (simp only [uA, upd, vp_updL, uL, reduceIte, Nat.reduceEqDiff, eq_self]; repeat rw [if_neg (by omega)]))
  · (intros; have hra := rA_or sw; first | rfl | (simp only [uA, upd, vp_updL, uL, reduceIte, Nat.reduceEqDiff, eq_self]; done) | (simp only [uA, upd, vp_updL, uL, reduceIte, Nat.reduceEqDiff, eq_self]; repeat rw [if_neg (by omega)]))
  · (intros; have hra := rA_or sw; first | rfl | (simp only [uA, upd, vp_updL, uL, reduceIte, Nat.reduceEqDiff, eq_self]; done) | (simp only [uA, upd, vp_updL, uL, reduceIte, Nat.reduceEqDiff, eq_self]; repeat rw [if_neg (by omega)]))
  · refine NR.intro (fun j hj => ?_) (fun j hj => ?_) (fun j hj => ?_) (fun j hj => ?_) (fun j hj => ?_) (fun j hj => ?_) (fun j hj => ?_) ?_ ?_ ?_ ?_
    · unfold tWalk; simp only [uA, upd, vp_updL, uL, reduceIte, Nat.reduceEqDiff, eq_self]; rw [if_neg (by omega), if_neg (by omega)]; exact (n1 j hj).1
    · unfold tWalk; simp only [uA, upd, vp_updL, uL, reduceIte, Nat.reduceEqDiff, eq_self]; rw [if_neg (by omega), if_neg (by omega)]; exact (n1 j hj).2.1
    · unfold tWalk; simp only [uA, upd, vp_updL, uL, reduceIte, Nat.reduceEqDiff, eq_self]
      by_cases e : j = s
      · rw [if_pos e, if_pos (by omega)]
      · rw [if_neg e, if_neg (by omega), if_neg (by omega)]; exact (n1 j hj).2.2.1
    · unfold tWalk; simp only [uA, upd, vp_updL, uL, reduceIte, Nat.reduceEqDiff, eq_self]
      by_cases e : j = s
      · rw [if_pos e, if_neg (by omega), if_pos (by omega)]
      · rw [if_neg e, if_neg (by omega), if_neg (by omega)]; exact (n1 j hj).2.2.2
    · unfold tWalk; simp only [uA, upd, vp_updL, uL, reduceIte, Nat.reduceEqDiff, eq_self]; rw [if_neg (by omega), if_neg (by omega)]; exact (n2 j hj).1
    · unfold tWalk; simp only [uA, upd, vp_updL, uL, reduceIte, Nat.reduceEqDiff, eq_self]; rw [if_neg (by omega), if_neg (by omega)]; exact (n2 j hj).2.1
    · unfold tWalk; simp only [uA, upd, vp_updL, uL, reduceIte, Nat.reduceEqDiff, eq_self]; rw [if_neg (by omega), if_neg (by omega)]; exact (n2 j hj).2.2
    · obtain ⟨w, w1, w2, w3⟩ := n3
      refine ⟨w, w1, by simp only [uA, upd, vp_updL, uL, reduceIte, Nat.reduceEqDiff, eq_self]; exact w2, fun c hc => ?_⟩
      unfold tWalk; rw [pk_un (by omega), pk_un (by omega)]; exact w3 c hc
    · unfold tWalk; simp only [uA, upd, vp_updL, uL, reduceIte, Nat.reduceEqDiff, eq_self]; rw [if_neg (by omega), if_neg (by omega)]; exact n4
    · unfold tWalk; simp only [uA, upd, vp_updL, uL, reduceIte, Nat.reduceEqDiff, eq_self]; rw [if_neg (by omega), if_neg (by omega)]; exact n5
    · unfold tWalk; simp only [uA, upd, vp_updL, uL, reduceIte, Nat.reduceEqDiff, eq_self]; rw [if_neg (by omega), if_neg (by omega)]; exact n6
  · simp only [uA, upd, vp_updL, uL, reduceIte, Nat.reduceEqDiff, eq_self]
    exact h.2.2.walk hs r3 r4 hb r1
  · intro a ha
    simp only [uA]
    rw [if_neg (by omega), if_neg (by omega)]
end DE
