section SE
variable {sw : Bool} {ς : Lg} {V : Nat → Int32} {H D n m s : Nat} {σ0 : Sg}
theorem search_L19 (h0 : CC sw σ0 V H D n m) (hs : s < n) : ∀ (d i f : Nat) (σ : Sg), i + d = m → d < f → (∀ a, (a < 23 ∨ 27 ≤ a) → σ a = σ0 a) → σ 23 3 = nI m → (∀ c, c < i → σ 24 c = nI (nV V (24 + c)) ∧ σ 25 c = nI (zN V (σ0 306) (σ0 307) c) ∧ σ 26 c = nI (zN V (σ0 306) (σ0 307) c * zPay V (σ0 304) (σ0 305) s c)) →
    ∃ σ', f_X9_search_L19 f 23 3 (nI s) 4 (nI i) (enc sw σ ς) = some (enc sw σ' ς) ∧ (∀ a, a ≠ 24 → a ≠ 25 → a ≠ 26 → σ' a = σ a) ∧ ∀ c, c < m → σ' 24 c = nI (nV V (24 + c)) ∧ σ' 25 c = nI (zN V (σ0 306) (σ0 307) c) ∧ σ' 26 c = nI (zN V (σ0 306) (σ0 307) c * zPay V (σ0 304) (σ0 305) s c) := by
  obtain ⟨⟨r1, r2, r3, r4⟩, -⟩ := id h0.1
  intro d
  induction d with
  | zero =>
    intro i f σ hi hf hag h3 hv
    obtain ⟨f, rfl⟩ : ∃ f', f = f' + 1 := ⟨f - 1, by omega⟩
    refine ⟨σ, ?_, fun _ _ _ _ => rfl, fun c hc => hv c (by omega)⟩
    show F_X9_search_L19 (f_X9_search_L19 f) 23 3 (nI s) 4 (nI i) (enc sw σ ς) = _
    unfold F_X9_search_L19
    rw [gi_Ro_3, Option.bind_some, h3, if_pos (nI_le (show m ≤ i by omega) (by omega))]
  | succ d ih =>
    intro i f σ hi hf hag h3 hv
    obtain ⟨f, rfl⟩ : ∃ f', f = f' + 1 := ⟨f - 1, by omega⟩
    have him : i < m := by omega
    have l1 : i < 6 := by omega
    have hC : CC sw σ V H D n m := h0.fr fun a z1 z2 => hag a (by omega)
    have hx := h0.2.2.lies him r1
    have e9 : σ 9 i = nI (nV V (24 + i)) := ((hC.2.1.2.1 i him).1).trans hx.1
    let σ1 : Sg := uA σ 24 (upd (σ 24) i (nI (nV V (24 + i))))
    have o1 : ∀ a, a ≠ 24 → σ1 a = σ a := fun a ha => uA_n ha
    have hC1 : CC sw σ1 V H D n m := hC.fr fun a z1 z2 => o1 a (by omega)
    have hn1 : f_X3_needsOf 3 (nI i) (enc sw σ1 ς) = some (nI (zN V (σ0 306) (σ0 307) i), enc sw σ1 ς) := by
      have := needs_C (ς := ς) hC1 him
      rw [o1 306 (by omega), o1 307 (by omega), hag 306 (by omega), hag 307 (by omega)] at this
      exact this
    let σ2 : Sg := uA σ1 25 (upd (σ1 25) i (nI (zN V (σ0 306) (σ0 307) i)))
    have o2 : ∀ a, a ≠ 24 → a ≠ 25 → σ2 a = σ a := fun a z1 z2 => (uA_n z2).trans (o1 a z1)
    have hC2 : CC sw σ2 V H D n m := hC.fr fun a z1 z2 => o2 a (by omega) (by omega)
    have hp2 : f_X3_songPaysTo 3 (nI s) (nI i) (enc sw σ2 ς) = some (nI (zPay V (σ0 304) (σ0 305) s i), enc sw σ2 ς) := by
      have := payTo_C (ς := ς) hC2 hs him
      rw [o2 304 (by omega) (by omega), o2 305 (by omega) (by omega), hag 304 (by omega), hag 305 (by omega)] at this
      exact this
    have v25 : σ2 25 i = nI (zN V (σ0 306) (σ0 307) i) := by show uA σ1 25 _ 25 i = _; rw [uA_s, pk_us]
    let σ3 : Sg := uA σ2 26 (upd (σ2 26) i (nI (zN V (σ0 306) (σ0 307) i * zPay V (σ0 304) (σ0 305) s i)))
    have o3 : ∀ a, a ≠ 24 → a ≠ 25 → a ≠ 26 → σ3 a = σ a := fun a z1 z2 z3 => (uA_n z3).trans (o2 a z1 z2)
    have q24 : σ3 24 = upd (σ 24) i (nI (nV V (24 + i))) := by show uA σ2 26 _ 24 = _; rw [uA_n (by omega)]; show uA σ1 25 _ 24 = _; rw [uA_n (by omega)]; show uA σ 24 _ 24 = _; rw [uA_s]
    have q25 : σ3 25 = upd (σ 25) i (nI (zN V (σ0 306) (σ0 307) i)) := by show uA σ2 26 _ 25 = _; rw [uA_n (by omega)]; show uA σ1 25 _ 25 = _; rw [uA_s, o1 25 (by omega)]
    have q26 : σ3 26 = upd (σ 26) i (nI (zN V (σ0 306) (σ0 307) i * zPay V (σ0 304) (σ0 305) s i)) := by show uA σ2 26 _ 26 = _; rw [uA_s, o2 26 (by omega) (by omega)]
    obtain ⟨σ', g1, g2, g3⟩ := ih (i + 1) f σ3 (by omega) (by omega) (fun a ha => by rw [o3 a (by omega) (by omega) (by omega)]; exact hag a ha) (by rw [o3 23 (by omega) (by omega) (by omega)]; exact h3) (fun c hc => by
      rw [q24, q25, q26]
      by_cases e : c = i
      · subst e; rw [pk_us, pk_us, pk_us]; exact ⟨rfl, rfl, rfl⟩
      · rw [pk_un e, pk_un e, pk_un e]; exact hv c (by omega))
    refine ⟨σ', ?_, fun a z1 z2 z3 => by rw [g2 a z1 z2 z3, o3 a z1 z2 z3], g3⟩
    show F_X9_search_L19 (f_X9_search_L19 f) 23 3 (nI s) 4 (nI i) (enc sw σ ς) = _
    unfold F_X9_search_L19
    rw [gi_Ro_3, Option.bind_some, h3, if_neg (nI_ge him (by omega)), gr_Ro_0, Option.bind_some, gr_Nt_4, Option.bind_some, ai_9 l1, Option.bind_some, e9, aw_24 l1, Option.bind_some, gr_Ro_1, Option.bind_some]
    rw [show enc sw (uA σ 24 (upd (σ 24) i (nI (nV V (24 + i))))) ς = enc sw σ1 ς from rfl, hn1, bT1_some, aw_25 l1, Option.bind_some, gr_Ro_2, Option.bind_some, gr_Ro_1, Option.bind_some, ai_25 l1, Option.bind_some]
    rw [show enc sw (uA σ1 25 (upd (σ1 25) i (nI (zN V (σ0 306) (σ0 307) i)))) ς = enc sw σ2 ς from rfl, hp2, bT1_some, show uA σ1 25 (upd (σ1 25) i (nI (zN V (σ0 306) (σ0 307) i))) 25 i = nI (zN V (σ0 306) (σ0 307) i) from v25, pk_mul, aw_26 l1, Option.bind_some, nI_1]
    exact g1
theorem search_C (h0 : CC sw σ0 V H D n m) (hs : s < n) : ∃ σ', f_X9_search 23 3 (nI s) (enc sw σ0 ς) = some (enc sw σ' ς) ∧ (∀ a, (a < 23 ∨ 27 ≤ a) → σ' a = σ0 a) ∧
    σ' 23 4 = nI (vis m (fun c => nV V (24 + c)) (zN V (σ0 306) (σ0 307)) (fun c => zN V (σ0 306) (σ0 307) c * zPay V (σ0 304) (σ0 305) s c) 6 0 0 0 (nV V (12 + s)) (nV V (18 + s)) (nV V (6 + s)) (0, 0)).1 ∧ σ' 23 5 = nI (vis m (fun c => nV V (24 + c)) (zN V (σ0 306) (σ0 307)) (fun c => zN V (σ0 306) (σ0 307) c * zPay V (σ0 304) (σ0 305) s c) 6 0 0 0 (nV V (12 + s)) (nV V (18 + s)) (nV V (6 + s)) (0, 0)).2 := by
  obtain ⟨⟨r1, r2, r3, r4⟩, r5, r6, ⟨c1, c2, c3, c4⟩, -⟩ := id h0.1
  have hra := rA_or sw
  have hs6 : s < 6 := by omega
  have hat := h0.2.2.at_ hs r1
  have hlf := h0.2.2.left hs
  have hdb := h0.2.2.debt hs
  obtain ⟨-, t2, t3, t4⟩ := h0.2.1.1 s hs
  have hrun : ∀ f, 6 < f → ∃ σ', f_X9_search_L19 f 23 3 (nI s) 4 (0 : Int32) (enc sw (uA σ0 23 (upd (σ0 23) 3 (nI m))) ς) = some (enc sw σ' ς) ∧ (∀ a, a ≠ 24 → a ≠ 25 → a ≠ 26 → σ' a = (uA σ0 23 (upd (σ0 23) 3 (nI m))) a) ∧ ∀ c, c < m → σ' 24 c = nI (nV V (24 + c)) ∧ σ' 25 c = nI (zN V (σ0 306) (σ0 307) c) ∧ σ' 26 c = nI (zN V (σ0 306) (σ0 307) c * zPay V (σ0 304) (σ0 305) s c) := fun f hf =>
    search_L19 h0 hs m 0 f (uA σ0 23 (upd (σ0 23) 3 (nI m))) (by omega) (by omega) (fun a ha => uA_n (by omega)) (by rw [uA_s, pk_us]) (fun c hc => absurd hc (by omega))
  obtain ⟨σa, y1, y2, y3⟩ := hrun 1000000 (by omega)
  have ha23 : σa 23 = upd (σ0 23) 3 (nI m) := by rw [y2 23 (by omega) (by omega) (by omega), uA_s]
  have hoff : ∀ a, (a < 23 ∨ 27 ≤ a) → σa a = σ0 a := fun a ha => by rw [y2 a (by omega) (by omega) (by omega), uA_n (by omega)]
  let σb : Sg := uA (uA σa 23 (upd (σa 23) 4 0)) 23 (upd (uA σa 23 (upd (σa 23) 4 0) 23) 5 0)
  have ob : ∀ a, a ≠ 23 → σb a = σa a := fun a ha => by show uA _ 23 _ a = _; rw [uA_n ha, uA_n ha]
  have hb23 : σb 23 = upd (upd (upd (σ0 23) 3 (nI m)) 4 0) 5 0 := by show uA _ 23 _ 23 = _; rw [uA_s, uA_s, ha23]
  have hR : RR σb m (fun c => nV V (24 + c)) (zN V (σ0 306) (σ0 307)) (fun c => zN V (σ0 306) (σ0 307) c * zPay V (σ0 304) (σ0 305) s c) := ⟨by rw [hb23]; rfl, fun c hc => by rw [ob 24 (by omega), ob 25 (by omega), ob 26 (by omega)]; exact y3 c hc⟩
  obtain ⟨σ', z1, z2, z3, z4, z5⟩ := ext_C (sw := sw) (ς := ς) (m := m) (Bd := fun c => nV V (24 + c)) (N := zN V (σ0 306) (σ0 307)) (P := fun c => zN V (σ0 306) (σ0 307) c * zPay V (σ0 304) (σ0 305) s c) r4 (fun c hc => by
      have q1 := h0.2.2.lies hc r1
      have q2 := zN_le h0.2.2 hc
      have q3 := zPay_or V (σ0 304) (σ0 305) s c
      refine ⟨by show nV V (24 + c) < 20; omega, q2, ?_⟩
      show zN V (σ0 306) (σ0 307) c * zPay V (σ0 304) (σ0 305) s c ≤ 238
      rcases q3 with e | e <;> rw [e] <;> omega) 6 0 8 0 0 (nV V (12 + s)) (nV V (18 + s)) (nV V (6 + s)) (nI (nV V (6 + s))) (0, 0) σb (by omega) (by omega) (by omega) (by omega) hlf.2 hdb.2 ⟨fun _ => rfl, fun e => by rw [e]; decide⟩ hR (by rw [hb23]; rfl) (by rw [hb23]; rfl) (by show 0 ≤ 6; omega)
  refine ⟨σ', ?_, fun a ha => by rw [z2 a (by omega), ob a (by omega), hoff a ha], z4, z5⟩
  have z1' : f_X9_extend 8 23 (0 : Int32) (0 : Int32) (0 : Int32) (nI (nV V (12 + s))) (nI (nV V (18 + s))) (nI (nV V (6 + s))) (enc sw (uA (uA σa 23 (upd (σa 23) 4 0)) 23 (upd (uA σa 23 (upd (σa 23) 4 0) 23) 5 0)) ς) = some (enc sw σ' ς) := z1
  have b7 : ∀ a, a < 23 → uA (uA σa 23 (upd (σa 23) 4 0)) 23 (upd (uA σa 23 (upd (σa 23) 4 0) 23) 5 0) a = σ0 a := fun a ha => by rw [uA_n (by omega), uA_n (by omega), hoff a (by omega)]
  unfold f_X9_search
  rw [if_pos io_Ro, gr_Mt_0, Option.bind_some, gr_Mt_1, Option.bind_some, gi_Ra_10, Option.bind_some, c4, pf_Ro_3, Option.bind_some, y1, Option.bind_some, pf_Ro_4, Option.bind_some, pf_Ro_5, Option.bind_some, gr_Nt_2, Option.bind_some, ai_7 hs6, Option.bind_some, gr_Nt_3, Option.bind_some, ai_8 hs6, Option.bind_some, gr_Nt_1, Option.bind_some, ai_6 hs6, Option.bind_some, b7 7 (by omega), b7 8 (by omega), b7 6 (by omega), t3, t4, t2, hat.1, hlf.1, hdb.1, z1', Option.bind_some]
end SE
/-! ways of one length come in the order of their figures -/
def IV (q : Nat × Nat) (d x c : Nat) : Prop := d ≤ q.1 ∧ (q.1 = d → q.2 ≤ x) ∧ (d < q.1 → q.2 < (x * 10 + c + 1) * 10 ^ (q.1 - d - 1))
theorem IV.mono {q : Nat × Nat} {d x c c' : Nat} (h : IV q d x c) (hc : c ≤ c') : IV q d x c' :=
  ⟨h.1, h.2.1, fun z => Nat.lt_of_lt_of_le (h.2.2 z) (Nat.mul_le_mul_right _ (by omega))⟩
theorem p10 {a : Nat} (h : 0 < a) : 10 ^ a = 10 ^ (a - 1) * 10 := by
  obtain ⟨b, rfl⟩ : ∃ b, a = b + 1 := ⟨a - 1, by omega⟩
  rw [Nat.pow_succ, Nat.add_sub_cancel]
theorem IV.enter {q : Nat × Nat} {d x c : Nat} (h : IV q d x c) : IV (upL (d + 1) (x * 10 + c + 1) q) (d + 1) (x * 10 + c + 1) 0 := by
  obtain ⟨h1, h2, h3⟩ := h
  unfold upL
  by_cases hlt : q.1 < d + 1
  · rw [if_pos hlt]
    exact ⟨Nat.le_refl _, fun _ => Nat.le_refl _, fun z => absurd z (Nat.lt_irrefl _)⟩
  · rw [if_neg hlt]
    have h4 := h3 (by omega)
    refine ⟨by omega, fun z => ?_, fun z => ?_⟩
    · rw [show q.1 - d - 1 = 0 by omega, Nat.pow_zero, Nat.mul_one] at h4
      omega
    · rw [p10 (show 0 < q.1 - d - 1 by omega)] at h4
      refine Nat.lt_of_lt_of_le h4 ?_
      rw [show q.1 - (d + 1) - 1 = q.1 - d - 1 - 1 by omega, Nat.mul_comm (10 ^ (q.1 - d - 1 - 1)) 10, ← Nat.mul_assoc]
      exact Nat.mul_le_mul_right _ (by omega)
theorem IV.leave {q : Nat × Nat} {d x c c' : Nat} (h : IV q (d + 1) (x * 10 + c + 1) c') (hc : c' ≤ 9) : IV q d x (c + 1) := by
  obtain ⟨h1, h2, h3⟩ := h
  refine ⟨by omega, fun z => absurd z (by omega), fun z => ?_⟩
  by_cases he : q.1 = d + 1
  · have := h2 he
    rw [show q.1 - d - 1 = 0 by omega, Nat.pow_zero, Nat.mul_one]
    omega
  · have h4 := h3 (by omega)
    refine Nat.lt_of_lt_of_le h4 ?_
    rw [p10 (show 0 < q.1 - d - 1 by omega), show q.1 - (d + 1) - 1 = q.1 - d - 1 - 1 by omega, Nat.mul_comm (10 ^ (q.1 - d - 1 - 1)) 10, ← Nat.mul_assoc]
    exact Nat.mul_le_mul_right _ (by omega)
theorem kidsI {m : Nat} {sub : Nat → Nat × Nat → Nat × Nat} {P : Nat → Bool} {d x : Nat} (hs : ∀ c q, IV q d x c → IV (sub c q) d x (c + 1)) : ∀ k c q, c + k = m → IV q d x c → IV (kidsF sub P c k q) d x m
  | 0, c, q, hc, h => by rw [← hc]; exact h
  | k + 1, c, q, hc, h => by
    rw [kidsF_s]
    refine kidsI hs k (c + 1) _ (by omega) ?_
    split
    · exact hs c q h
    · exact h.mono (by omega)
theorem visI {m : Nat} (hm : m ≤ 6) (Bd N P : Nat → Nat) : ∀ e d g x c ho le de q, IV q d x c → IV (vis m Bd N P e (d + 1) g (x * 10 + c + 1) ho le de q) d x (c + 1)
  | 0, d, g, x, c, ho, le, de, q, h => by rw [vis_0]; exact h.enter.leave (by omega)
  | e + 1, d, g, x, c, ho, le, de, q, h => by
    rw [vis_s]
    split
    · exact h.enter.leave (by omega)
    · exact (kidsI (m := m) (fun c' q' h' => visI hm Bd N P e (d + 1) _ (x * 10 + c + 1) c' _ _ _ q' h') m 0 _ (by omega) h.enter).leave (by omega)
