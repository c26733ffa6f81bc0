/-! the law: every call of the class is answered as the reference answers it -/
theorem step_A {γ : Type} {fc fm : AH → Option (Int32 × AH)} (h : Alike fc fm) {sw : Bool} {σ : Sg} {ς : Lg} (hI : Inv sw σ ς) (K Z : AH → Option γ) : ∃ s2 σ2 ς2, Inv s2 σ2 ς2 ∧ bT1 (fc (enc sw σ ς)) (fun x h1 => bT1 (fm h1) (fun y h2 => if x = y then K h2 else Z h2)) = K (enc s2 σ2 ς2) := by
  obtain ⟨r, s1, σ1, ς1, s2, σ2, ς2, e1, e2, e3⟩ := h sw σ ς hI
  refine ⟨s2, σ2, ς2, e3, ?_⟩
  rw [e1, bT1_some, e2, bT1_some, if_pos rfl]
theorem si_nI {X : SX} {j : Nat} (h : j < X.1) (hX : X.1 ≤ 1536) : si X (nI j) = some (X.2 j) := by
  unfold si
  rw [if_pos (nI_inb h (by omega)), nI_clamp (by omega)]
theorem law_step {X : SX} {sw : Bool} {σ : Sg} {ς : Lg} {j : Nat} (rec : Nat → Nat → Int32 → AH → Option ((Int32 × AH) ⊕ AH)) (hI : Inv sw σ ς) (hX : X.1 ≤ 1536) (hj : j + 2 < X.1) : ∃ s2 σ2 ς2, Inv s2 σ2 ς2 ∧ F_L_law_L18 X rec 0 302 (nI j) (enc sw σ ς) = rec 0 302 (nI (j + 3)) (enc s2 σ2 ς2) := by
  have h0 : si X (nI j) = some (X.2 j) := si_nI (by omega) hX
  have h1 : si X (nI j + (1 : Int32)) = some (X.2 (j + 1)) := by rw [nI_1]; exact si_nI (by omega) hX
  have h2 : si X (nI j + (2 : Int32)) = some (X.2 (j + 2)) := by rw [show nI j + (2 : Int32) = nI (j + 2) from nI_add j 2]; exact si_nI (by omega) hX
  have e3 : nI j + 3 = nI (j + 3) := nI_add j 3
  have hout : ¬ ((Int32.ofNat X.1) - (3 : Int32)) < nI j := by
    rw [show (Int32.ofNat X.1) - (3 : Int32) = nI (X.1 - 3) from pk_sub (b := 3) (by omega)]
    exact nI_nlt (by omega) (by omega)
  unfold F_L_law_L18
  rw [if_neg hout, h0, Option.bind_some]
  generalize hop : X.2 j &&& (31 : Int32) = op
  generalize X.2 (j + 1) = x at h1
  generalize X.2 (j + 2) = y at h2
  by_cases c0 : op = 0
  · rw [if_pos c0]
    rw [h1, ← e3]
    exact step_A (al_feed x) hI (fun h => rec 0 302 (nI j + 3) h) (fun h => some (.inl ((0 : Int32), h)))
  rw [if_neg c0]
  by_cases c1 : op = 1
  · rw [if_pos c1]
    rw [← e3]
    exact step_A al_row hI (fun h => rec 0 302 (nI j + 3) h) (fun h => some (.inl ((0 : Int32), h)))
  rw [if_neg c1]
  by_cases c2 : op = 2
  · rw [if_pos c2]
    rw [← e3]
    exact step_A al_fault hI (fun h => rec 0 302 (nI j + 3) h) (fun h => some (.inl ((0 : Int32), h)))
  rw [if_neg c2]
  by_cases c3 : op = 3
  · rw [if_pos c3]
    rw [h1, ← e3]
    exact step_A (al_told x) hI (fun h => rec 0 302 (nI j + 3) h) (fun h => some (.inl ((0 : Int32), h)))
  rw [if_neg c3]
  by_cases c4 : op = 4
  · rw [if_pos c4]
    rw [h1, h2, ← e3]
    exact step_A (al_singer x y) hI (fun h => rec 0 302 (nI j + 3) h) (fun h => some (.inl ((0 : Int32), h)))
  rw [if_neg c4]
  by_cases c5 : op = 5
  · rw [if_pos c5]
    rw [h1, h2, ← e3]
    exact step_A (al_child x y) hI (fun h => rec 0 302 (nI j + 3) h) (fun h => some (.inl ((0 : Int32), h)))
  rw [if_neg c5]
  by_cases c6 : op = 6
  · rw [if_pos c6]
    rw [h1, h2, ← e3]
    exact step_A (al_go x y) hI (fun h => rec 0 302 (nI j + 3) h) (fun h => some (.inl ((0 : Int32), h)))
  rw [if_neg c6]
  by_cases c7 : op = 7
  · rw [if_pos c7]
    rw [h1, h2, ← e3]
    exact step_A (al_sing x y) hI (fun h => rec 0 302 (nI j + 3) h) (fun h => some (.inl ((0 : Int32), h)))
  rw [if_neg c7]
  by_cases c8 : op = 8
  · rw [if_pos c8]
    rw [h1, h2, ← e3]
    exact step_A (al_carry x y) hI (fun h => rec 0 302 (nI j + 3) h) (fun h => some (.inl ((0 : Int32), h)))
  rw [if_neg c8]
  by_cases c9 : op = 9
  · rw [if_pos c9]
    rw [h1, ← e3]
    exact step_A (al_evening x) hI (fun h => rec 0 302 (nI j + 3) h) (fun h => some (.inl ((0 : Int32), h)))
  rw [if_neg c9]
  by_cases c10 : op = 10
  · rw [if_pos c10]
    rw [h1, ← e3]
    exact step_A (al_drift x) hI (fun h => rec 0 302 (nI j + 3) h) (fun h => some (.inl ((0 : Int32), h)))
  rw [if_neg c10]
  by_cases c11 : op = 11
  · rw [if_pos c11]
    rw [h1, ← e3]
    exact step_A (al_undo x) hI (fun h => rec 0 302 (nI j + 3) h) (fun h => some (.inl ((0 : Int32), h)))
  rw [if_neg c11]
  by_cases c12 : op = 12
  · rw [if_pos c12]
    rw [h1, h2, ← e3]
    exact step_A (al_steps x y) hI (fun h => rec 0 302 (nI j + 3) h) (fun h => some (.inl ((0 : Int32), h)))
  rw [if_neg c12]
  by_cases c13 : op = 13
  · rw [if_pos c13]
    rw [h1, h2, ← e3]
    exact step_A (al_can x y) hI (fun h => rec 0 302 (nI j + 3) h) (fun h => some (.inl ((0 : Int32), h)))
  rw [if_neg c13]
  by_cases c14 : op = 14
  · rw [if_pos c14]
    rw [h1, h2, ← e3]
    exact step_A (al_pays x y) hI (fun h => rec 0 302 (nI j + 3) h) (fun h => some (.inl ((0 : Int32), h)))
  rw [if_neg c14]
  by_cases c15 : op = 15
  · rw [if_pos c15]
    rw [h1, ← e3]
    exact step_A (al_plan x) hI (fun h => rec 0 302 (nI j + 3) h) (fun h => some (.inl ((0 : Int32), h)))
  rw [if_neg c15]
  by_cases c16 : op = 16
  · rw [if_pos c16]
    rw [h1, h2, ← e3]
    exact step_A (al_round x y) hI (fun h => rec 0 302 (nI j + 3) h) (fun h => some (.inl ((0 : Int32), h)))
  rw [if_neg c16]
  by_cases c17 : op = 17
  · rw [if_pos c17]
    rw [h1, h2, ← e3]
    exact step_A (al_colic x y) hI (fun h => rec 0 302 (nI j + 3) h) (fun h => some (.inl ((0 : Int32), h)))
  rw [if_neg c17]
  by_cases c18 : op = 18
  · rw [if_pos c18]
    rw [h1, Option.bind_some, h2, Option.bind_some, ← e3]
    unfold f_L_law_669 f_L_law_691
    rw [h1, h2]
    by_cases z : y = 0
    · rw [if_pos z]
      obtain ⟨r, s1, σ1, ς1, s2, σ2, ς2, e1, e2, e4⟩ := al_owed x 0 (Or.inl rfl) sw σ ς hI
      refine ⟨s2, σ2, ς2, e4, ?_⟩
      rw [e1, bT1_some, Option.bind_some, Option.bind_some, if_pos z, e2, bT1_some, if_pos rfl]
    · rw [if_neg z]
      obtain ⟨r, s1, σ1, ς1, s2, σ2, ς2, e1, e2, e4⟩ := al_owed x 1 (Or.inr rfl) sw σ ς hI
      refine ⟨s2, σ2, ς2, e4, ?_⟩
      rw [e1, bT1_some, Option.bind_some, Option.bind_some, if_neg z, e2, bT1_some, if_pos rfl]
  rw [if_neg c18]
  by_cases c19 : op = 19
  · rw [if_pos c19]
    rw [← e3]
    exact step_A al_couldBe hI (fun h => rec 0 302 (nI j + 3) h) (fun h => some (.inl ((0 : Int32), h)))
  rw [if_neg c19]
  by_cases c20 : op = 20
  · rw [if_pos c20]
    rw [← e3]
    exact step_A al_ask hI (fun h => rec 0 302 (nI j + 3) h) (fun h => some (.inl ((0 : Int32), h)))
  rw [if_neg c20]
  by_cases c21 : op = 21
  · rw [if_pos c21]
    rw [h1, h2, ← e3]
    exact step_A (al_write x y) hI (fun h => rec 0 302 (nI j + 3) h) (fun h => some (.inl ((0 : Int32), h)))
  rw [if_neg c21]
  by_cases c22 : op = 22
  · rw [if_pos c22]
    rw [← e3]
    exact step_A al_judge hI (fun h => rec 0 302 (nI j + 3) h) (fun h => some (.inl ((0 : Int32), h)))
  rw [if_neg c22]
  by_cases c23 : op = 23
  · rw [if_pos c23]
    rw [← e3]
    exact step_A al_tear hI (fun h => rec 0 302 (nI j + 3) h) (fun h => some (.inl ((0 : Int32), h)))
  rw [if_neg c23]
  by_cases c24 : op = 24
  · rw [if_pos c24]
    rw [h1, ← e3]
    exact step_A (al_seed x) hI (fun h => rec 0 302 (nI j + 3) h) (fun h => some (.inl ((0 : Int32), h)))
  rw [if_neg c24]
  by_cases c25 : op = 25
  · rw [if_pos c25]
    rw [h1, ← e3]
    exact step_A (al_keep x) hI (fun h => rec 0 302 (nI j + 3) h) (fun h => some (.inl ((0 : Int32), h)))
  rw [if_neg c25]
  by_cases c26 : op = 26
  · rw [if_pos c26]
    rw [h1, ← e3]
    exact step_A (al_goBack x) hI (fun h => rec 0 302 (nI j + 3) h) (fun h => some (.inl ((0 : Int32), h)))
  rw [if_neg c26]
  rw [e3]
  exact ⟨sw, σ, ς, hI, rfl⟩
theorem law_out {X : SX} {j : Nat} (hX : X.1 ≤ 1536) (h : X.1 ≤ j + 2) (hj : j ≤ 1600) : ((Int32.ofNat X.1) - (3 : Int32)) < nI j := by
  by_cases z : 3 ≤ X.1
  · rw [show (Int32.ofNat X.1) - (3 : Int32) = nI (X.1 - 3) from pk_sub (b := 3) z]
    exact nI_lt (by omega) (by omega)
  · have neg : ∀ a, a < 3 → Int32.ofNat a - (3 : Int32) < 0 := by decide +kernel
    exact Int32.lt_of_lt_of_le (neg X.1 (by omega)) (nI_le (a := 0) (by omega) (by omega))
theorem law_L {X : SX} (hX : X.1 ≤ 1536) : ∀ (d j f : Nat) (sw : Bool) (σ : Sg) (ς : Lg), Inv sw σ ς → X.1 - j ≤ d → j ≤ 1600 → d + 1 < f → ∃ s2 σ2 ς2, f_L_law_L18 X f 0 302 (nI j) (enc sw σ ς) = some (.inr (enc s2 σ2 ς2)) := by
  intro d
  induction d with
  | zero =>
    intro j f sw σ ς hI hd hj hf
    obtain ⟨f, rfl⟩ : ∃ f', f = f' + 1 := ⟨f - 1, by omega⟩
    refine ⟨sw, σ, ς, ?_⟩
    show F_L_law_L18 X (f_L_law_L18 X f) 0 302 (nI j) (enc sw σ ς) = _
    unfold F_L_law_L18
    rw [if_pos (law_out hX (by omega) hj)]
  | succ d ih =>
    intro j f sw σ ς hI hd hj hf
    obtain ⟨f, rfl⟩ : ∃ f', f = f' + 1 := ⟨f - 1, by omega⟩
    by_cases hin : j + 2 < X.1
    · obtain ⟨s2, σ2, ς2, g1, g2⟩ := law_step (f_L_law_L18 X f) hI hX hin
      obtain ⟨s3, σ3, ς3, g3⟩ := ih (j + 3) f s2 σ2 ς2 g1 (by omega) (by omega) (by omega)
      exact ⟨s3, σ3, ς3, (show F_L_law_L18 X (f_L_law_L18 X f) 0 302 (nI j) (enc sw σ ς) = _ from g2.trans g3)⟩
    · refine ⟨sw, σ, ς, ?_⟩
      show F_L_law_L18 X (f_L_law_L18 X f) 0 302 (nI j) (enc sw σ ς) = _
      unfold F_L_law_L18
      rw [if_pos (law_out hX (by omega) hj)]
