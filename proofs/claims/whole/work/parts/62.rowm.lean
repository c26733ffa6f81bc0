section RM
variable {sw : Bool} {ς : Lg}
theorem rowm_L58 : ∀ (d i f : Nat) (σ : Sg), i + d = 51 → d < f →
    ∃ σ', f_X13_row_L58 f 302 (nI i) (enc sw σ ς) = some (enc sw σ' ς) ∧ (∀ a, a ≠ 308 → σ' a = σ a) ∧ (∀ j, σ' 308 j = if i ≤ j ∧ j < 51 then 0 else σ 308 j) := by
  intro d
  induction d with
  | zero =>
    intro i f σ hi hf
    obtain ⟨f, rfl⟩ : ∃ f', f = f' + 1 := ⟨f - 1, by omega⟩
    refine ⟨σ, ?_, fun _ _ => rfl, fun j => ?_⟩
    · show F_X13_row_L58 (f_X13_row_L58 f) 302 (nI i) (enc sw σ ς) = _
      unfold F_X13_row_L58
      rw [if_pos (show (51 : Int32) ≤ nI i from nI_le (a := 51) (by omega) (by omega))]
    · rw [if_neg (by omega)]
  | succ d ih =>
    intro i f σ hi hf
    obtain ⟨f, rfl⟩ : ∃ f', f = f' + 1 := ⟨f - 1, by omega⟩
    have l1 : i < 51 := by omega
    obtain ⟨σ', g1, g2, g3⟩ := ih (i + 1) f (uA σ 308 (upd (σ 308) i 0)) (by omega) (by omega)
    refine ⟨σ', ?_, fun a h1 => ?_, fun j => ?_⟩
    · show F_X13_row_L58 (f_X13_row_L58 f) 302 (nI i) (enc sw σ ς) = _
      unfold F_X13_row_L58
      rw [if_neg (show ¬ (51 : Int32) ≤ nI i from nI_ge (b := 51) l1 (by omega)), gr_Mo_11, Option.bind_some, aw_308 l1, Option.bind_some, nI_1]
      exact g1
    · rw [g2 a h1, uA_n h1]
    · rw [g3 j, uA_s]
      by_cases z : i + 1 ≤ j ∧ j < 51
      · rw [if_pos z, if_pos (by omega)]
      · rw [if_neg z]
        by_cases z2 : j = i
        · subst z2; rw [pk_us, if_pos (by omega)]
        · rw [pk_un z2, if_neg (by omega)]
theorem rowm_L79 {n : Nat} (hn6 : n ≤ 6) : ∀ (d i f : Nat) (σ : Sg), i + d = n → d < f → σ 302 5 = nI n →
    ∃ σ', f_X13_row_L79 f 302 (nI i) (enc sw σ ς) = some (enc sw σ' ς) ∧ (∀ a, a ≠ 304 → a ≠ 305 → a ≠ 308 → σ' a = σ a) ∧
      (∀ s, i ≤ s → s < n → (σ' 304 s = σ 315 s ∧ σ' 305 s = σ 315 (18 + s)) ∧ σ' 308 s = σ 315 (6 + s) ∧ σ' 308 (6 + s) = 2 * σ 315 (12 + s) ∧ σ' 308 (12 + s) = σ 315 (18 + s) ∧ σ' 308 (18 + s) = σ 302 4) ∧
      (∀ s, s < i → (σ' 304 s = σ 304 s ∧ σ' 305 s = σ 305 s) ∧ σ' 308 s = σ 308 s ∧ σ' 308 (6 + s) = σ 308 (6 + s) ∧ σ' 308 (12 + s) = σ 308 (12 + s) ∧ σ' 308 (18 + s) = σ 308 (18 + s)) ∧
      ∀ j, 24 ≤ j → σ' 308 j = σ 308 j := by
  intro d
  induction d with
  | zero =>
    intro i f σ hi hf h9
    obtain ⟨f, rfl⟩ : ∃ f', f = f' + 1 := ⟨f - 1, by omega⟩
    refine ⟨σ, ?_, fun _ _ _ _ => rfl, fun s z1 z2 => absurd z2 (by omega), fun s _ => ⟨⟨rfl, rfl⟩, rfl, rfl, rfl, rfl⟩, fun _ _ => rfl⟩
    show F_X13_row_L79 (f_X13_row_L79 f) 302 (nI i) (enc sw σ ς) = _
    unfold F_X13_row_L79
    rw [gi_Mo_5, Option.bind_some, h9, if_pos (nI_le (show n ≤ i by omega) (by omega))]
  | succ d ih =>
    intro i f σ hi hf h9
    obtain ⟨f, rfl⟩ : ∃ f', f = f' + 1 := ⟨f - 1, by omega⟩
    have l1 : i < 6 := by omega
    have hng : ¬ nI n ≤ nI i := nI_ge (by omega) (by omega)
    let τ1 : Sg := uA σ 304 (upd (σ 304) i (σ 315 i))
    let τ2 : Sg := uA τ1 308 (upd (σ 308) i (σ 315 (6 + i)))
    let τ3 : Sg := uA τ2 308 (upd (upd (σ 308) i (σ 315 (6 + i))) (6 + i) (2 * σ 315 (12 + i)))
    let τ4 : Sg := uA τ3 305 (upd (σ 305) i (σ 315 (18 + i)))
    let τ5 : Sg := uA τ4 308 (upd (upd (upd (σ 308) i (σ 315 (6 + i))) (6 + i) (2 * σ 315 (12 + i))) (12 + i) (σ 315 (18 + i)))
    let τ6 : Sg := uA τ5 308 (upd (upd (upd (upd (σ 308) i (σ 315 (6 + i))) (6 + i) (2 * σ 315 (12 + i))) (12 + i) (σ 315 (18 + i))) (18 + i) (σ 302 4))
    have o6 : ∀ a, a ≠ 304 → a ≠ 305 → a ≠ 308 → τ6 a = σ a := fun a z1 z2 z3 => by
      show uA (uA (uA (uA (uA (uA σ 304 _) 308 _) 308 _) 305 _) 308 _) 308 _ a = _
      rw [uA_n z3, uA_n z3, uA_n z2, uA_n z3, uA_n z3, uA_n z1]
    have v5 : τ6 304 = upd (σ 304) i (σ 315 i) := by
      show uA (uA (uA (uA (uA (uA σ 304 _) 308 _) 308 _) 305 _) 308 _) 308 _ 304 = _
      rw [uA_n (by omega), uA_n (by omega), uA_n (by omega), uA_n (by omega), uA_n (by omega), uA_s]
    have v6 : τ6 305 = upd (σ 305) i (σ 315 (18 + i)) := by
      show uA (uA (uA (uA (uA (uA σ 304 _) 308 _) 308 _) 305 _) 308 _) 308 _ 305 = _
      rw [uA_n (by omega), uA_n (by omega), uA_s]
    have v9 : τ6 308 = upd (upd (upd (upd (σ 308) i (σ 315 (6 + i))) (6 + i) (2 * σ 315 (12 + i))) (12 + i) (σ 315 (18 + i))) (18 + i) (σ 302 4) := uA_s _ _ _
    have hstep : f_X13_row_L79 (f + 1) 302 (nI i) (enc sw σ ς) = f_X13_row_L79 f 302 (nI (i + 1)) (enc sw τ6 ς) := by
      have i0 : (0 : Int32) + nI i = nI i := by rw [show (0 : Int32) = nI 0 from rfl, nI_add, Nat.zero_add]
      have i6 : (6 : Int32) + nI i = nI (6 + i) := nI_add 6 _
      have i12 : (12 : Int32) + nI i = nI (12 + i) := nI_add 12 _
      have i18 : (18 : Int32) + nI i = nI (18 + i) := nI_add 18 _
      have e1 : ∀ a, a ≠ 304 → τ1 a = σ a := fun a z => uA_n z
      have e2 : ∀ a, a ≠ 304 → a ≠ 308 → τ2 a = σ a := fun a z1 z2 => by show uA τ1 308 _ a = _; rw [uA_n z2, e1 a z1]
      have e3 : ∀ a, a ≠ 304 → a ≠ 308 → τ3 a = σ a := fun a z1 z2 => by show uA τ2 308 _ a = _; rw [uA_n z2, e2 a z1 z2]
      have e4 : ∀ a, a ≠ 304 → a ≠ 308 → a ≠ 305 → τ4 a = σ a := fun a z1 z2 z3 => by show uA τ3 305 _ a = _; rw [uA_n z3, e3 a z1 z2]
      have w1 : enc sw (uA σ 304 (upd (σ 304) i (σ 315 i))) ς = enc sw τ1 ς := rfl
      have w2 : enc sw (uA τ1 308 (upd (σ 308) i (σ 315 (6 + i)))) ς = enc sw τ2 ς := rfl
      have w3 : enc sw (uA τ2 308 (upd (τ2 308) (6 + i) (2 * σ 315 (12 + i)))) ς = enc sw τ3 ς := by rw [show τ2 308 = upd (σ 308) i (σ 315 (6 + i)) from uA_s _ _ _]
      have w4 : enc sw (uA τ3 305 (upd (σ 305) i (σ 315 (18 + i)))) ς = enc sw τ4 ς := rfl
      have q4 : τ4 308 = upd (upd (σ 308) i (σ 315 (6 + i))) (6 + i) (2 * σ 315 (12 + i)) := by show uA τ3 305 _ 308 = _; rw [uA_n (by omega)]; exact uA_s _ _ _
      have w5 : enc sw (uA τ4 308 (upd (τ4 308) (12 + i) (σ 315 (18 + i)))) ς = enc sw τ5 ς := by rw [q4]
      have w6 : enc sw (uA τ5 308 (upd (τ5 308) (18 + i) (σ 302 4))) ς = enc sw τ6 ς := by rw [show τ5 308 = upd (upd (upd (σ 308) i (σ 315 (6 + i))) (6 + i) (2 * σ 315 (12 + i))) (12 + i) (σ 315 (18 + i)) from uA_s _ _ _]
      have h46 : τ4 305 i = σ 315 (18 + i) := by show uA τ3 305 _ 305 i = _; rw [uA_s, pk_us]
      have h53 : τ5 302 4 = σ 302 4 := by show uA τ4 308 _ 302 4 = _; rw [uA_n (by omega), e4 302 (by omega) (by omega) (by omega)]
      show F_X13_row_L79 (f_X13_row_L79 f) 302 (nI i) (enc sw σ ς) = _
      unfold F_X13_row_L79
      rw [gi_Mo_5, Option.bind_some, h9, if_neg hng, gr_Mo_7, Option.bind_some, gr_Mo_28, Option.bind_some, ai_315 (by omega), Option.bind_some, aw_304 l1, Option.bind_some, w1, gr_Mo_11, Option.bind_some, gr_Mo_28, Option.bind_some, i6, ai_315 (by omega), Option.bind_some, i0, aw_308 (by omega), Option.bind_some, e1 315 (by omega), e1 308 (by omega), w2,
        gr_Mo_11, Option.bind_some, gr_Mo_28, Option.bind_some, i12, ai_315 (by omega), Option.bind_some, aw_308 (by omega), Option.bind_some, e2 315 (by omega) (by omega), w3, gr_Mo_8, Option.bind_some, gr_Mo_28, Option.bind_some, i18, ai_315 (by omega), Option.bind_some, aw_305 l1, Option.bind_some, e3 315 (by omega) (by omega), e3 305 (by omega) (by omega), w4,
        gr_Mo_11, Option.bind_some, gr_Mo_8, Option.bind_some, ai_305 l1, Option.bind_some, h46, aw_308 (by omega), Option.bind_some, w5, gr_Mo_11, Option.bind_some, gi_Mo_4, Option.bind_some, h53, aw_308 (by omega), Option.bind_some, w6, nI_1]
    obtain ⟨σ', g1, g2, g3, g4, g5⟩ := ih (i + 1) f τ6 (by omega) (by omega) (by rw [o6 302 (by omega) (by omega) (by omega)]; exact h9)
    refine ⟨σ', hstep.trans g1, fun a h1 h2 h3 => by rw [g2 a h1 h2 h3, o6 a h1 h2 h3], fun s z1 z2 => ?_, fun s z => ?_, fun j hj => ?_⟩
    · by_cases e : s = i
      · subst e
        obtain ⟨⟨k1, k2⟩, k3, k4, k5, k6⟩ := g4 s (by omega)
        refine ⟨⟨?_, ?_⟩, ?_, ?_, ?_, ?_⟩
        · rw [k1, v5, pk_us]
        · rw [k2, v6, pk_us]
        · rw [k3, v9, pk_un (by omega), pk_un (by omega), pk_un (by omega), pk_us]
        · rw [k4, v9, pk_un (by omega), pk_un (by omega), pk_us]
        · rw [k5, v9, pk_un (by omega), pk_us]
        · rw [k6, v9, pk_us]
      · have := g3 s (by omega) z2
        rw [o6 315 (by omega) (by omega) (by omega), o6 302 (by omega) (by omega) (by omega)] at this
        exact this
    · obtain ⟨⟨k1, k2⟩, k3, k4, k5, k6⟩ := g4 s (by omega)
      refine ⟨⟨?_, ?_⟩, ?_, ?_, ?_, ?_⟩
      · rw [k1, v5, pk_un (by omega)]
      · rw [k2, v6, pk_un (by omega)]
      · rw [k3, v9, pk_un (by omega), pk_un (by omega), pk_un (by omega), pk_un (by omega)]
      · rw [k4, v9, pk_un (by omega), pk_un (by omega), pk_un (by omega), pk_un (by omega)]
      · rw [k5, v9, pk_un (by omega), pk_un (by omega), pk_un (by omega), pk_un (by omega)]
      · rw [k6, v9, pk_un (by omega), pk_un (by omega), pk_un (by omega), pk_un (by omega)]
    · rw [g5 j hj, v9, pk_un (by omega), pk_un (by omega), pk_un (by omega), pk_un (by omega)]
theorem rowm_L187 {m : Nat} (hm6 : m ≤ 6) : ∀ (d i f : Nat) (σ : Sg), i + d = m → d < f → σ 302 6 = nI m →
    ∃ σ', f_X13_row_L187 f 302 (nI i) (enc sw σ ς) = some (enc sw σ' ς) ∧ (∀ a, a ≠ 306 → a ≠ 307 → a ≠ 308 → σ' a = σ a) ∧
      (∀ c, i ≤ c → c < m → (σ' 306 c = σ 315 (24 + c) ∧ σ' 307 c = σ 315 (30 + c)) ∧ σ' 308 (24 + c) = σ 315 (36 + c)) ∧
      (∀ c, c < i → σ' 306 c = σ 306 c ∧ σ' 307 c = σ 307 c) ∧
      ∀ j, (j < 24 + i ∨ 30 ≤ j) → σ' 308 j = σ 308 j := by
  intro d
  induction d with
  | zero =>
    intro i f σ hi hf h9
    obtain ⟨f, rfl⟩ : ∃ f', f = f' + 1 := ⟨f - 1, by omega⟩
    refine ⟨σ, ?_, fun _ _ _ _ => rfl, fun s z1 z2 => absurd z2 (by omega), fun s _ => ⟨rfl, rfl⟩, fun _ _ => rfl⟩
    show F_X13_row_L187 (f_X13_row_L187 f) 302 (nI i) (enc sw σ ς) = _
    unfold F_X13_row_L187
    rw [gi_Mo_6, Option.bind_some, h9, if_pos (nI_le (show m ≤ i by omega) (by omega))]
  | succ d ih =>
    intro i f σ hi hf h9
    obtain ⟨f, rfl⟩ : ∃ f', f = f' + 1 := ⟨f - 1, by omega⟩
    have l1 : i < 6 := by omega
    have hng : ¬ nI m ≤ nI i := nI_ge (by omega) (by omega)
    let τ1 : Sg := uA σ 306 (upd (σ 306) i (σ 315 (24 + i)))
    let τ2 : Sg := uA τ1 307 (upd (σ 307) i (σ 315 (30 + i)))
    let τ3 : Sg := uA τ2 308 (upd (σ 308) (24 + i) (σ 315 (36 + i)))
    have o3 : ∀ a, a ≠ 306 → a ≠ 307 → a ≠ 308 → τ3 a = σ a := fun a z1 z2 z3 => by
      show uA (uA (uA σ 306 _) 307 _) 308 _ a = _
      rw [uA_n z3, uA_n z2, uA_n z1]
    have v7 : τ3 306 = upd (σ 306) i (σ 315 (24 + i)) := by
      show uA (uA (uA σ 306 _) 307 _) 308 _ 306 = _
      rw [uA_n (by omega), uA_n (by omega), uA_s]
    have v8 : τ3 307 = upd (σ 307) i (σ 315 (30 + i)) := by
      show uA (uA (uA σ 306 _) 307 _) 308 _ 307 = _
      rw [uA_n (by omega), uA_s]
    have v9 : τ3 308 = upd (σ 308) (24 + i) (σ 315 (36 + i)) := uA_s _ _ _
    have hstep : f_X13_row_L187 (f + 1) 302 (nI i) (enc sw σ ς) = f_X13_row_L187 f 302 (nI (i + 1)) (enc sw τ3 ς) := by
      have i24 : (24 : Int32) + nI i = nI (24 + i) := nI_add 24 _
      have i30 : (30 : Int32) + nI i = nI (30 + i) := nI_add 30 _
      have i36 : (36 : Int32) + nI i = nI (36 + i) := nI_add 36 _
      have e1 : ∀ a, a ≠ 306 → τ1 a = σ a := fun a z => uA_n z
      have e2 : ∀ a, a ≠ 306 → a ≠ 307 → τ2 a = σ a := fun a z1 z2 => by show uA τ1 307 _ a = _; rw [uA_n z2, e1 a z1]
      have w1 : enc sw (uA σ 306 (upd (σ 306) i (σ 315 (24 + i)))) ς = enc sw τ1 ς := rfl
      have w2 : enc sw (uA τ1 307 (upd (σ 307) i (σ 315 (30 + i)))) ς = enc sw τ2 ς := rfl
      have w3 : enc sw (uA τ2 308 (upd (σ 308) (24 + i) (σ 315 (36 + i)))) ς = enc sw τ3 ς := rfl
      show F_X13_row_L187 (f_X13_row_L187 f) 302 (nI i) (enc sw σ ς) = _
      unfold F_X13_row_L187
      rw [gi_Mo_6, Option.bind_some, h9, if_neg hng, gr_Mo_9, Option.bind_some, gr_Mo_28, Option.bind_some, i24, ai_315 (by omega), Option.bind_some, aw_306 l1, Option.bind_some, w1, gr_Mo_10, Option.bind_some, gr_Mo_28, Option.bind_some, i30, ai_315 (by omega), Option.bind_some, aw_307 l1, Option.bind_some, e1 315 (by omega), e1 307 (by omega), w2,
        gr_Mo_11, Option.bind_some, gr_Mo_28, Option.bind_some, i36, ai_315 (by omega), Option.bind_some, aw_308 (by omega), Option.bind_some, e2 315 (by omega) (by omega), e2 308 (by omega) (by omega), w3, nI_1]
    obtain ⟨σ', g1, g2, g3, g4, g5⟩ := ih (i + 1) f τ3 (by omega) (by omega) (by rw [o3 302 (by omega) (by omega) (by omega)]; exact h9)
    refine ⟨σ', hstep.trans g1, fun a h1 h2 h3 => by rw [g2 a h1 h2 h3, o3 a h1 h2 h3], fun c z1 z2 => ?_, fun c z => ?_, fun j hj => ?_⟩
    · by_cases e : c = i
      · subst e
        obtain ⟨k1, k2⟩ := g4 c (by omega)
        refine ⟨⟨?_, ?_⟩, ?_⟩
        · rw [k1, v7, pk_us]
        · rw [k2, v8, pk_us]
        · rw [g5 (24 + c) (by omega), v9, pk_us]
      · have := g3 c (by omega) z2
        rw [o3 315 (by omega) (by omega) (by omega)] at this
        exact this
    · obtain ⟨k1, k2⟩ := g4 c (by omega)
      refine ⟨?_, ?_⟩
      · rw [k1, v7, pk_un (by omega)]
      · rw [k2, v8, pk_un (by omega)]
    · rw [g5 j (by omega), v9, pk_un (by omega)]
/-- the reference takes a row -/
theorem row_M {σ : Sg} {T : Nat → Nat} {len : Nat} {R : RW} (hT : TXm σ T len) (hp : prs T len 240 (skp T len 0) R0 = .ok R) :
    ∃ σ', f_X13_row 302 (enc sw σ ς) = some (nI R.n, enc sw σ' ς) ∧ (∀ a, a < 302 → σ' a = σ a) ∧
      (σ' 302 1 = 0 ∧ σ' 302 2 = -1 ∧ σ' 302 3 = nI R.H ∧ σ' 302 4 = nI R.D ∧ σ' 302 5 = nI R.n ∧ σ' 302 6 = nI R.m ∧ σ' 302 13 = 0 ∧ σ' 302 19 = 0 ∧ σ' 302 21 = 0) ∧
      (∀ s, s < R.n → (σ' 304 s = nI (R.vo s) ∧ σ' 305 s = nI (R.ho s)) ∧ σ' 308 s = nI (R.ag s) ∧ σ' 308 (6 + s) = nI (2 * R.ow s) ∧ σ' 308 (12 + s) = nI (R.ho s) ∧ σ' 308 (18 + s) = nI R.D) ∧
      (∀ c, c < R.m → (σ' 306 c = nI (R.ki c) ∧ σ' 307 c = nI (R.pa c)) ∧ σ' 308 (24 + c) = nI (R.be c)) ∧ (∀ j, 30 ≤ j → j < 51 → σ' 308 j = 0) ∧ σ' 312 0 = 0 ∧ σ' 312 1 = 0 := by
  obtain ⟨σ1, k1, k2, k3⟩ := reads_M (sw := sw) (ς := ς) hT
  rw [hp] at k3
  obtain ⟨k4, k5, k6⟩ := k3
  obtain ⟨⟨y1, y2, y3, y4⟩, ⟨y5, y6, y7⟩, y8, y9⟩ := id k6
  let V : Nat → Int32 := upd (upd (upd (upd (upd (σ1 302) 1 0) 3 (nI R.H)) 4 (nI R.D)) 5 (nI R.n)) 6 (nI R.m)
  let σ2 : Sg := uA σ1 302 V
  have w2 : enc sw (uA (uA (uA (uA (uA σ1 302 (upd (σ1 302) 1 0)) 302 (upd (upd (σ1 302) 1 0) 3 (nI R.H))) 302 (upd (upd (upd (σ1 302) 1 0) 3 (nI R.H)) 4 (nI R.D))) 302 (upd (upd (upd (upd (σ1 302) 1 0) 3 (nI R.H)) 4 (nI R.D)) 5 (nI R.n))) 302 (upd (upd (upd (upd (upd (σ1 302) 1 0) 3 (nI R.H)) 4 (nI R.D)) 5 (nI R.n)) 6 (nI R.m))) ς = enc sw σ2 ς := by rw [uA_uA, uA_uA, uA_uA, uA_uA]
  have o2 : ∀ a, a ≠ 302 → σ2 a = σ1 a := fun a z => uA_n z
  have v2 : σ2 302 = V := uA_s _ _ _
  have run1 : ∀ F, 51 < F → ∃ σ', f_X13_row_L58 F 302 (0 : Int32) (enc sw σ2 ς) = some (enc sw σ' ς) ∧ (∀ a, a ≠ 308 → σ' a = σ2 a) ∧ (∀ j, σ' 308 j = if 0 ≤ j ∧ j < 51 then 0 else σ2 308 j) := fun F hF => rowm_L58 51 0 F σ2 (by omega) (by omega)
  obtain ⟨σ3, a1, a2, a3⟩ := run1 1000000 (by omega)
  have run2 : ∀ F, 6 < F → ∃ σ', f_X13_row_L79 F 302 (0 : Int32) (enc sw σ3 ς) = some (enc sw σ' ς) ∧ (∀ a, a ≠ 304 → a ≠ 305 → a ≠ 308 → σ' a = σ3 a) ∧
      (∀ s, 0 ≤ s → s < R.n → (σ' 304 s = σ3 315 s ∧ σ' 305 s = σ3 315 (18 + s)) ∧ σ' 308 s = σ3 315 (6 + s) ∧ σ' 308 (6 + s) = 2 * σ3 315 (12 + s) ∧ σ' 308 (12 + s) = σ3 315 (18 + s) ∧ σ' 308 (18 + s) = σ3 302 4) ∧
      (∀ s, s < 0 → (σ' 304 s = σ3 304 s ∧ σ' 305 s = σ3 305 s) ∧ σ' 308 s = σ3 308 s ∧ σ' 308 (6 + s) = σ3 308 (6 + s) ∧ σ' 308 (12 + s) = σ3 308 (12 + s) ∧ σ' 308 (18 + s) = σ3 308 (18 + s)) ∧
      ∀ j, 24 ≤ j → σ' 308 j = σ3 308 j := fun F hF => rowm_L79 y6 R.n 0 F σ3 (by omega) (by omega) (by rw [a2 302 (by omega), v2]; rfl)
  obtain ⟨σ4, b1, b2, b3, -, b4⟩ := run2 1000000 (by omega)
  have run3 : ∀ F, 6 < F → ∃ σ', f_X13_row_L187 F 302 (0 : Int32) (enc sw σ4 ς) = some (enc sw σ' ς) ∧ (∀ a, a ≠ 306 → a ≠ 307 → a ≠ 308 → σ' a = σ4 a) ∧
      (∀ c, 0 ≤ c → c < R.m → (σ' 306 c = σ4 315 (24 + c) ∧ σ' 307 c = σ4 315 (30 + c)) ∧ σ' 308 (24 + c) = σ4 315 (36 + c)) ∧
      (∀ c, c < 0 → σ' 306 c = σ4 306 c ∧ σ' 307 c = σ4 307 c) ∧
      ∀ j, (j < 24 + 0 ∨ 30 ≤ j) → σ' 308 j = σ4 308 j := fun F hF => rowm_L187 y7 R.m 0 F σ4 (by omega) (by omega) (by rw [b2 302 (by omega) (by omega) (by omega), a2 302 (by omega), v2]; rfl)
  obtain ⟨σ5, c1, c2, c3, -, c4⟩ := run3 1000000 (by omega)
  let W : Nat → Int32 := upd (upd (upd (σ5 302) 19 0) 21 0) 13 0
  let σ6 : Sg := uA (uA σ5 302 W) 312 (upd (upd (σ5 312) 0 0) 1 0)
  have e303 : σ5 302 = V := by rw [c2 302 (by omega) (by omega) (by omega), b2 302 (by omega) (by omega) (by omega), a2 302 (by omega), v2]
  have e316 : σ5 315 = σ1 315 := by rw [c2 315 (by omega) (by omega) (by omega), b2 315 (by omega) (by omega) (by omega), a2 315 (by omega), o2 315 (by omega)]
  have f316 : σ4 315 = σ1 315 := by rw [b2 315 (by omega) (by omega) (by omega), a2 315 (by omega), o2 315 (by omega)]
  have g316 : σ3 315 = σ1 315 := by rw [a2 315 (by omega), o2 315 (by omega)]
  have u303 : σ6 302 = upd (upd (upd V 19 0) 21 0) 13 0 := by show uA (uA σ5 302 _) 312 _ 302 = _; rw [uA_n (by omega), uA_s]; show upd (upd (upd (σ5 302) 19 0) 21 0) 13 0 = _; rw [e303]
  have o6 : ∀ a, a ≠ 302 → a ≠ 312 → σ6 a = σ5 a := fun a z1 z2 => by show uA (uA σ5 302 _) 312 _ a = _; rw [uA_n z2, uA_n z1]
  have hst : f_X13_row 302 (enc sw σ ς) = some (nI R.n, enc sw σ6 ς) := by
    have t1 : uA σ1 302 (upd (σ1 302) 1 0) 302 23 = 0 := by rw [uA_s, pk_un (by omega)]; exact k4
    have t2 : upd (σ1 302) 1 0 24 = nI R.H := by rw [pk_un (by omega)]; exact y1
    have t3 : upd (upd (σ1 302) 1 0) 3 (nI R.H) 25 = nI R.D := by rw [pk_un (by omega), pk_un (by omega)]; exact y2
    have t4 : upd (upd (upd (σ1 302) 1 0) 3 (nI R.H)) 4 (nI R.D) 26 = nI R.n := by rw [pk_un (by omega), pk_un (by omega), pk_un (by omega)]; exact y3
    have t5 : upd (upd (upd (upd (σ1 302) 1 0) 3 (nI R.H)) 4 (nI R.D)) 5 (nI R.n) 27 = nI R.m := by rw [pk_un (by omega), pk_un (by omega), pk_un (by omega), pk_un (by omega)]; exact y4
    have w6 : enc sw (uA (uA (uA (uA (uA σ5 302 (upd (σ5 302) 19 0)) 302 (upd (upd (σ5 302) 19 0) 21 0)) 302 (upd (upd (upd (σ5 302) 19 0) 21 0) 13 0)) 312 (upd (σ5 312) 0 0)) 312 (upd (upd (σ5 312) 0 0) 1 0)) ς = enc sw σ6 ς := by rw [uA_uA, uA_uA, uA_uA]
    have h313 : 312 ≠ 302 := by omega
    have e0 : (0 : Int32) = nI 0 := rfl
    have aw0 : ∀ (τ : Sg), aw (enc sw τ ς) 0 312 (0 : Int32) (0 : Int32) = some (enc sw (uA τ 312 (upd (τ 312) 0 0)) ς) := fun τ => aw_312 (j := 0) (by omega) 0
    have aw1 : ∀ (τ : Sg), aw (enc sw τ ς) 0 312 (1 : Int32) (0 : Int32) = some (enc sw (uA τ 312 (upd (τ 312) 1 0)) ς) := fun τ => aw_312 (j := 1) (by omega) 0
    have z5 : σ6 302 5 = nI R.n := by rw [u303]; rfl
    unfold f_X13_row
    rw [if_pos io_Mo, k1, Option.bind_some, pf_Mo_1, Option.bind_some, gi_Mo_23, Option.bind_some, t1, if_pos rfl, gi_Mo_24, Option.bind_some, uA_s, t2, pf_Mo_3, Option.bind_some, gi_Mo_25, Option.bind_some, uA_s, uA_s, t3, pf_Mo_4, Option.bind_some, gi_Mo_26, Option.bind_some, uA_s, uA_s, t4, pf_Mo_5, Option.bind_some, gi_Mo_27, Option.bind_some, uA_s, uA_s, t5, pf_Mo_6, Option.bind_some, uA_s, w2, a1, Option.bind_some, b1, Option.bind_some, c1, Option.bind_some,
      pf_Mo_19, Option.bind_some, pf_Mo_21, Option.bind_some, uA_s, pf_Mo_13, Option.bind_some, uA_s, gr_Mo_17, Option.bind_some, aw0, Option.bind_some, gr_Mo_17, Option.bind_some, aw1, Option.bind_some, uA_s, uA_n h313, uA_n h313, uA_n h313, w6, gi_Mo_5, Option.bind_some, z5]
  refine ⟨σ6, hst, fun a ha => ?_, ⟨?_, ?_, ?_, ?_, ?_, ?_, ?_, ?_, ?_⟩, fun s hs => ?_, fun c hc => ?_, fun j z1 z2 => ?_, ?_, ?_⟩
  · rw [o6 a (by omega) (by omega), c2 a (by omega) (by omega) (by omega), b2 a (by omega) (by omega) (by omega), a2 a (by omega), o2 a (by omega), k2.1 a (by omega) (by omega)]
  · rw [u303]; rfl
  · rw [u303]; exact k5
  · rw [u303]; rfl
  · rw [u303]; rfl
  · rw [u303]; rfl
  · rw [u303]; rfl
  · rw [u303]; rfl
  · rw [u303]; rfl
  · rw [u303]; rfl
  · obtain ⟨⟨h1, h2⟩, h3, h4, h5, h6⟩ := b3 s (by omega) hs
    obtain ⟨x1, x2, x3, x4⟩ := y8 s hs
    refine ⟨⟨?_, ?_⟩, ?_, ?_, ?_, ?_⟩
    · rw [o6 _ (by omega) (by omega), c2 _ (by omega) (by omega) (by omega), h1, g316, x1]
    · rw [o6 _ (by omega) (by omega), c2 _ (by omega) (by omega) (by omega), h2, g316, x4]
    · rw [o6 _ (by omega) (by omega), c4 _ (by omega), h3, g316, x2]
    · rw [o6 _ (by omega) (by omega), c4 _ (by omega), h4, g316, x3, show (2 : Int32) = nI 2 from rfl, pk_mul]
    · rw [o6 _ (by omega) (by omega), c4 _ (by omega), h5, g316, x4]
    · rw [o6 _ (by omega) (by omega), c4 _ (by omega), h6, a2 302 (by omega), v2]; rfl
  · obtain ⟨⟨h1, h2⟩, h3⟩ := c3 c (by omega) hc
    obtain ⟨x1, x2, x3⟩ := y9 c hc
    refine ⟨⟨?_, ?_⟩, ?_⟩
    · rw [o6 _ (by omega) (by omega), h1, f316, x1]
    · rw [o6 _ (by omega) (by omega), h2, f316, x2]
    · rw [o6 _ (by omega) (by omega), h3, f316, x3]
  · rw [o6 _ (by omega) (by omega), c4 _ (by omega), b4 _ (by omega), a3, if_pos (by omega)]
  · show uA (uA σ5 302 _) 312 _ 312 0 = _; rw [uA_s]; rfl
  · show uA (uA σ5 302 _) 312 _ 312 1 = _; rw [uA_s]; rfl
theorem row_ME {σ : Sg} {T : Nat → Nat} {len : Nat} {e : Flt} (hT : TXm σ T len) (hp : prs T len 240 (skp T len 0) R0 = .error e) (he : 1 ≤ e.1 ∧ e.1 ≤ 3) :
    ∃ σ', f_X13_row 302 (enc sw σ ς) = some ((-10 : Int32) - nI e.1, enc sw σ' ς) ∧ (∀ a, a ≠ 302 → a ≠ 315 → σ' a = σ a) ∧ (∀ j, j < 22 → j ≠ 1 → j ≠ 2 → σ' 302 j = σ 302 j) ∧ σ' 302 1 = 0 ∧ σ' 302 2 = nI e.2 := by
  obtain ⟨σ1, k1, k2, k3⟩ := reads_M (sw := sw) (ς := ς) hT
  rw [hp] at k3
  obtain ⟨k4, k5⟩ := k3
  refine ⟨uA σ1 302 (upd (σ1 302) 1 0), ?_, fun a z1 z2 => by rw [uA_n z1, k2.1 a z1 z2], fun j z1 z2 z3 => by rw [uA_s, pk_un z2, k2.2 j z1 z3], by rw [uA_s, pk_us], by rw [uA_s, pk_un (by omega)]; exact k5⟩
  have t1 : uA σ1 302 (upd (σ1 302) 1 0) 302 23 = nI e.1 := by rw [uA_s, pk_un (by omega)]; exact k4
  unfold f_X13_row
  rw [if_pos io_Mo, k1, Option.bind_some, pf_Mo_1, Option.bind_some, gi_Mo_23, Option.bind_some, t1, if_neg (nI_ne0 (by omega) (by omega)), Option.bind_some]
end RM
