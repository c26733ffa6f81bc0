/-! the reference's ways: rows of numbers in the place of calls -/
def kd (m : Nat) (Bd N P : Nat → Nat) : Nat → Nat → Nat → Nat → Nat → Nat → Nat → Nat → Nat → Nat × Nat → Nat × Nat
  | 0, _, _, _, _, _, _, _, _, q => q
  | e + 1, d, g, x, ho, le, de, c, k, q => if de = 0 then q else kidsF (fun c q => vis m Bd N P e (d + 1) (g ||| 2 ^ c) (x * 10 + c + 1) (Bd c) (le - (dst (Bd c) ho + N c)) (de - P c) q) (opq Bd N g ho le) c k q
theorem vis_kd (m : Nat) (Bd N P : Nat → Nat) (e d g x ho le de : Nat) (q : Nat × Nat) : vis m Bd N P e d g x ho le de q = kd m Bd N P e d g x ho le de 0 m (upL d x q) := by
  cases e with
  | zero => rfl
  | succ e => rw [vis_s]; rfl
theorem kd_z (m : Nat) (Bd N P : Nat → Nat) (e d g x ho le de c : Nat) (q : Nat × Nat) : kd m Bd N P e d g x ho le de c 0 q = q := by
  cases e with
  | zero => rfl
  | succ e =>
    show (if de = 0 then q else q) = q
    split <;> rfl
theorem kd_0 (m : Nat) (Bd N P : Nat → Nat) (e d g x ho le c k : Nat) (q : Nat × Nat) : kd m Bd N P e d g x ho le 0 c k q = q := by
  cases e with
  | zero => rfl
  | succ e => rfl
theorem kd_no {m : Nat} {Bd N P : Nat → Nat} {e d g x ho le de c k : Nat} {q : Nat × Nat} (h : opq Bd N g ho le c = false) : kd m Bd N P e d g x ho le de c (k + 1) q = kd m Bd N P e d g x ho le de (c + 1) k q := by
  cases e with
  | zero => rfl
  | succ e =>
    show (if de = 0 then q else _) = (if de = 0 then q else _)
    rw [kidsF_s, h, if_neg Bool.false_ne_true]
theorem kd_yes {m : Nat} {Bd N P : Nat → Nat} {e d g x ho le de c k : Nat} {q : Nat × Nat} (hd : 0 < de) (h : opq Bd N g ho le c = true) : kd m Bd N P (e + 1) d g x ho le de c (k + 1) q = kd m Bd N P (e + 1) d g x ho le de (c + 1) k (vis m Bd N P e (d + 1) (g ||| 2 ^ c) (x * 10 + c + 1) (Bd c) (le - (dst (Bd c) ho + N c)) (de - P c) q) := by
  show (if de = 0 then q else _) = (if de = 0 then _ else _)
  rw [if_neg (by omega), if_neg (by omega), kidsF_s, if_pos h]
/-- how many steps it takes -/
def tT : Nat → Nat
  | 0 => 7
  | e + 1 => 6 * (1 + tT e) + 1
def tK : Nat → Nat → Nat
  | 0, k => k + 1
  | e + 1, k => k * (1 + tT e) + 1
theorem tK_le {e k : Nat} (h : k ≤ 6) : tK e k ≤ tT e := by
  cases e with
  | zero => show k + 1 ≤ 7; omega
  | succ e => show k * (1 + tT e) + 1 ≤ 6 * (1 + tT e) + 1; exact Nat.succ_le_succ (Nat.mul_le_mul_right _ h)
theorem tK_s (e k : Nat) : tK e k + 1 ≤ tK e (k + 1) := by
  cases e with
  | zero => exact Nat.le_refl _
  | succ e => show k * (1 + tT e) + 1 + 1 ≤ (k + 1) * (1 + tT e) + 1; rw [Nat.succ_mul]; omega
theorem cnt_or : ∀ g, g < 64 → ∀ c, c < 6 → g.testBit c = false → cnt (g ||| 2 ^ c).testBit 0 6 = cnt g.testBit 0 6 + 1 := by decide +kernel
theorem cnt_full : ∀ g, g < 64 → cnt g.testBit 0 6 = 6 → ∀ c, c < 6 → g.testBit c = true := by decide +kernel
/-- a level of the rows -/
def ND (σ : Sg) (d c g x ho le de : Nat) : Prop := σ 317 d = nI c ∧ σ 318 d = nI ho ∧ σ 319 d = nI le ∧ σ 320 d = nI de ∧ σ 321 d = nI g ∧ σ 322 d = nI x
/-- what the rows' cells leave as it is -/
def FM (σ σ' : Sg) (d : Nat) : Prop := (∀ a, a < 317 → a ≠ 302 → σ' a = σ a) ∧ (∀ j, j ≠ 30 → j ≠ 31 → σ' 302 j = σ 302 j) ∧ ∀ a, 317 ≤ a → a ≤ 322 → ∀ i, i < d → σ' a i = σ a i
theorem FM.refl (σ : Sg) (d : Nat) : FM σ σ d := ⟨fun _ _ _ => rfl, fun _ _ _ => rfl, fun _ _ _ _ _ => rfl⟩
theorem FM.trans {σ1 σ2 σ3 : Sg} {d : Nat} (h : FM σ1 σ2 d) (h' : FM σ2 σ3 d) : FM σ1 σ3 d := ⟨fun a z1 z2 => (h'.1 a z1 z2).trans (h.1 a z1 z2), fun j z1 z2 => (h'.2.1 j z1 z2).trans (h.2.1 j z1 z2), fun a z1 z2 i z3 => (h'.2.2 a z1 z2 i z3).trans (h.2.2 a z1 z2 i z3)⟩
theorem FM.less {σ σ' : Sg} {d d' : Nat} (h : FM σ σ' d) (hd : d' ≤ d) : FM σ σ' d' := ⟨h.1, h.2.1, fun a z1 z2 i z3 => h.2.2 a z1 z2 i (by omega)⟩
theorem ND.c {σ σ' : Sg} {d d' c g x ho le de : Nat} (h : ND σ d c g x ho le de) (f : FM σ σ' d') (hd : d < d') : ND σ' d c g x ho le de := by
  obtain ⟨h1, h2, h3, h4, h5, h6⟩ := h
  exact ⟨by rw [f.2.2 317 (by omega) (by omega) d hd]; exact h1, by rw [f.2.2 318 (by omega) (by omega) d hd]; exact h2, by rw [f.2.2 319 (by omega) (by omega) d hd]; exact h3, by rw [f.2.2 320 (by omega) (by omega) d hd]; exact h4, by rw [f.2.2 321 (by omega) (by omega) d hd]; exact h5, by rw [f.2.2 322 (by omega) (by omega) d hd]; exact h6⟩
section RO
variable {sw : Bool} {ς : Lg} {H D n m s : Nat} {σ0 : Sg}
/-- one step: the level is done -/
theorem rs_end {σ : Sg} {d c g x ho le de f : Nat} (hd : d ≤ 6) (h6 : σ 302 6 = nI m) (hm : m ≤ 6) (hn : ND σ d c g x ho le de) (hc : c ≤ m) (he : c = m ∨ de = 0) : f_X13_rounds_L68 (f + 1) 302 (nI s) (nI d) (enc sw σ ς) = f_X13_rounds_L68 f 302 (nI s) (nI d + (-1)) (enc sw σ ς) := by
  obtain ⟨h1, h2, h3, h4, h5, h7⟩ := hn
  have l1 : d < 7 := by omega
  show F_X13_rounds_L68 (f_X13_rounds_L68 f) 302 (nI s) (nI d) (enc sw σ ς) = _
  unfold F_X13_rounds_L68
  rw [if_neg (nI_pos (by omega)), gr_Mo_32, Option.bind_some, ai_317 l1, Option.bind_some, gi_Mo_6, Option.bind_some, h1, h6]
  by_cases hcm : c = m
  · rw [if_pos (by rw [hcm])]
  · rw [if_neg (fun z => hcm ((nI_eq (by omega) (by omega)).mp z)), gr_Mo_35, Option.bind_some, ai_320 l1, Option.bind_some, h4, if_pos (by rw [he.resolve_left hcm]; rfl)]
/-- one step: the next child, up to the question whether it's gone to -/
theorem rs_try {σ : Sg} {d c g x ho le de f : Nat} (hr : I_row (rA sw) σ0 H D n m) (hN : NB n m H (σ0 306) (σ0 307) (σ0 308)) (ha : ∀ c, c < m → σ0 308 (30 + c) = 0 ∨ σ0 308 (30 + c) = 1) (hF : FM σ0 σ 0) (hd : d ≤ 6) (hn : ND σ d c g x ho le de) (hc : c < m) (hde : 0 < de) (hg : g < 64) (hho : ho < 20) (hle : le ≤ 30) (hde2 : de ≤ 198) (hno : opq (fun c => nV (σ0 308) (24 + c)) (zN (σ0 308) (σ0 306) (σ0 307)) g ho le c = false) :
    f_X13_rounds_L68 (f + 1) 302 (nI s) (nI d) (enc sw σ ς) = f_X13_rounds_L68 f 302 (nI s) (nI d) (enc sw (uA σ 317 (upd (σ 317) d (nI (c + 1)))) ς) := by
  obtain ⟨h1, h2, h3, h4, h5, h7⟩ := hn
  obtain ⟨⟨r1, r2, r3, r4⟩, r5, r6, -, ⟨d1, d2, d3, d4⟩, -⟩ := id hr
  have l1 : d < 7 := by omega
  have h6 : σ 302 6 = nI m := by rw [hF.2.1 6 (by omega) (by omega)]; exact d4
  have i24 : (24 : Int32) + nI c = nI (24 + c) := nI_add 24 c
  have i30 : (30 : Int32) + nI c = nI (30 + c) := nI_add 30 c
  have l24 : 24 + c < 51 := by omega
  have l30 : 30 + c < 51 := by omega
  have hB := hN.lies hc r1
  let σ1 : Sg := uA σ 317 (upd (σ 317) d (nI (c + 1)))
  have e1 : uA σ 317 (upd (σ 317) d (nI (c + 1))) = σ1 := rfl
  have o1 : ∀ a, a ≠ 317 → σ1 a = σ a := fun a z => uA_n z
  have q309 : σ1 308 = σ0 308 := by rw [o1 308 (by omega), hF.1 308 (by omega) (by omega)]
  have q307 : σ1 306 = σ0 306 := by rw [o1 306 (by omega), hF.1 306 (by omega) (by omega)]
  have q308 : σ1 307 = σ0 307 := by rw [o1 307 (by omega), hF.1 307 (by omega) (by omega)]
  have hap : f_X13_apart 302 (nI ho) (nI (nV (σ0 308) (24 + c))) (enc sw σ1 ς) = some (nI (dst (nV (σ0 308) (24 + c)) ho), enc sw σ1 ς) := by
    rw [dst_comm]; exact apart_M hho (by omega)
  have hnd : f_X13_needs 302 (nI c) (enc sw σ1 ς) = some (nI (zN (σ0 308) (σ0 306) (σ0 307) c), enc sw σ1 ς) := by
    have := needs_M (sw := sw) (σ := σ1) (ς := ς) (n := n) (H := H) (by rw [q307, q308, q309]; exact hN) (by rw [q309]; exact ha c hc) hc r4
    rw [q307, q308, q309] at this
    exact this
  have hzl := zN_le hN hc
  have hdl : dst (nV (σ0 308) (24 + c)) ho < 20 := by unfold dst; omega
  show F_X13_rounds_L68 (f_X13_rounds_L68 f) 302 (nI s) (nI d) (enc sw σ ς) = _
  unfold F_X13_rounds_L68
  rw [if_neg (nI_pos (by omega)), gr_Mo_32, Option.bind_some, ai_317 l1, Option.bind_some, gi_Mo_6, Option.bind_some, h1, h6, if_neg (fun z => absurd ((nI_eq (by omega) (by omega)).mp z) (by omega)), gr_Mo_35, Option.bind_some, ai_320 l1, Option.bind_some, h4, if_neg (nI_ne0 hde (by omega)), Option.bind_some, ai_317 l1, Option.bind_some, h1, Option.bind_some, ai_317 l1, Option.bind_some, h1, nI_1, aw_317 l1, Option.bind_some, e1, gr_Mo_34, Option.bind_some, ai_319 l1, Option.bind_some, gr_Mo_33, Option.bind_some, ai_318 l1, Option.bind_some, gr_Mo_11, Option.bind_some, i24, ai_308 l24, Option.bind_some, o1 319 (by omega), o1 318 (by omega), h3, h2, q309, hB.1, hap, bT1_some, hnd, bT1_some, gr_Mo_36, Option.bind_some, ai_321 l1, Option.bind_some, o1 321 (by omega), h5, bit_ok g hg c (by omega), gr_Mo_11, Option.bind_some, i30, ai_308 l30, Option.bind_some, q309, sub_sub_ok]
  by_cases hbit : g.testBit c = true
  · rw [if_pos hbit, if_neg (by decide)]
  · rw [if_neg hbit, if_pos rfl]
    by_cases h0 : σ0 308 (30 + c) = 0
    · rw [if_pos h0]
      have hz := zN_pos hN hc h0
      by_cases hfit : dst (nV (σ0 308) (24 + c)) ho + zN (σ0 308) (σ0 306) (σ0 307) c ≤ le
      · exfalso
        unfold opq at hno
        simp [hz, hbit, hfit] at hno
      · rw [if_pos (pk_sneg (by omega) (by omega))]
    · rw [if_neg h0]
end RO
