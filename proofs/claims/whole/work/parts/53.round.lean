section RG
variable {sw : Bool} {ς : Lg} {H D n m s : Nat} {σ0 : Sg}
/-- one step: a child is gone to -/
theorem rs_goU {σ : Sg} {d c g x ho le de : Nat} {q : Nat × Nat} (hr : I_row (rA sw) σ0 H D n m) (hN : NB n m H (σ0 306) (σ0 307) (σ0 308)) (ha : ∀ c, c < m → σ0 308 (30 + c) = 0 ∨ σ0 308 (30 + c) = 1) (hs : s < n) (hF : FM σ0 σ 0) (hd : d < 6) (hn : ND σ d c g x ho le de) (hc : c < m) (hde : 0 < de) (hg : g < 64) (hho : ho < 20) (hle : le ≤ 30) (hde2 : de ≤ 198) (hx : x < 100000)
    (hop : opq (fun c => nV (σ0 308) (24 + c)) (zN (σ0 308) (σ0 306) (σ0 307)) g ho le c = true) (h30 : σ 302 30 = nI q.1) (h31 : σ 302 31 = nI q.2) (hq6 : q.1 ≤ 6) (hiv : IV q d x c) :
    ∃ σ', (∀ f, f_X13_rounds_L68 (f + 1) 302 (nI s) (nI d) (enc sw σ ς) = f_X13_rounds_L68 f 302 (nI s) (nI (d + 1)) (enc sw σ' ς)) ∧ FM σ σ' d ∧ ND σ' d (c + 1) g x ho le de ∧
      ND σ' (d + 1) 0 (g ||| 2 ^ c) (x * 10 + c + 1) (nV (σ0 308) (24 + c)) (le - (dst (nV (σ0 308) (24 + c)) ho + zN (σ0 308) (σ0 306) (σ0 307) c)) (de - zN (σ0 308) (σ0 306) (σ0 307) c * zPay (σ0 308) (σ0 304) (σ0 305) s c) ∧ σ' 302 30 = nI (upL (d + 1) (x * 10 + c + 1) q).1 ∧ σ' 302 31 = nI (upL (d + 1) (x * 10 + c + 1) q).2 := by
  obtain ⟨h1, h2, h3, h4, h5, h7⟩ := id hn
  obtain ⟨⟨r1, r2, r3, r4⟩, r5, r6, -, ⟨d1, d2, d3, d4⟩, -⟩ := id hr
  have hra := rA_or sw
  have l1 : d < 7 := by omega
  have l2 : d + 1 < 7 := by omega
  have h6 : σ 302 6 = nI m := by rw [hF.2.1 6 (by omega) (by omega)]; exact d4
  have i24 : (24 : Int32) + nI c = nI (24 + c) := nI_add 24 c
  have i30 : (30 : Int32) + nI c = nI (30 + c) := nI_add 30 c
  have l24 : 24 + c < 51 := by omega
  have l30 : 30 + c < 51 := by omega
  have hB := hN.lies hc r1
  have hzl := zN_le hN hc
  have hpy := zPay_or (σ0 308) (σ0 304) (σ0 305) s c
  have hdl : dst (nV (σ0 308) (24 + c)) ho < 20 := by unfold dst; omega
  unfold opq at hop
  simp only [Bool.and_eq_true, decide_eq_true_eq, Bool.not_eq_true'] at hop
  obtain ⟨hz, hbit, hfit⟩ := hop
  have h0 : σ0 308 (30 + c) = 0 := by
    rcases ha c hc with z | z
    · exact z
    · exfalso
      have : zN (σ0 308) (σ0 306) (σ0 307) c = 0 := by unfold zN; rw [if_neg (by rw [z]; decide)]
      omega
  let σ1 : Sg := uA σ 317 (upd (σ 317) d (nI (c + 1)))
  have e1 : uA σ 317 (upd (σ 317) d (nI (c + 1))) = σ1 := rfl
  have o1 : ∀ a, a ≠ 317 → σ1 a = σ a := fun a z => uA_n z
  have q309 : σ1 308 = σ0 308 := by rw [o1 308 (by omega), hF.1 308 (by omega) (by omega)]
  have q307 : σ1 306 = σ0 306 := by rw [o1 306 (by omega), hF.1 306 (by omega) (by omega)]
  have q308 : σ1 307 = σ0 307 := by rw [o1 307 (by omega), hF.1 307 (by omega) (by omega)]
  have hap : f_X13_apart 302 (nI ho) (nI (nV (σ0 308) (24 + c))) (enc sw σ1 ς) = some (nI (dst (nV (σ0 308) (24 + c)) ho), enc sw σ1 ς) := by
    rw [dst_comm]; exact apart_M hho (by omega)
  have hnd : f_X13_needs 302 (nI c) (enc sw σ1 ς) = some (nI (zN (σ0 308) (σ0 306) (σ0 307) c), enc sw σ1 ς) := by
    have := needs_M (sw := sw) (σ := σ1) (ς := ς) (n := n) (H := H) (by rw [q307, q308, q309]; exact hN) (by rw [q309]; exact ha c hc) hc r4
    rw [q307, q308, q309] at this
    exact this
  let rest : Nat := le - (dst (nV (σ0 308) (24 + c)) ho + zN (σ0 308) (σ0 306) (σ0 307) c)
  have hrest : nI le - nI (dst (nV (σ0 308) (24 + c)) ho + zN (σ0 308) (σ0 306) (σ0 307) c) = nI rest := pk_sub hfit
  let σ4 : Sg := uA (uA (uA σ1 317 (upd (σ1 317) (d + 1) 0)) 318 (upd (σ1 318) (d + 1) (nI (nV (σ0 308) (24 + c))))) 319 (upd (σ1 319) (d + 1) (nI rest))
  have o4 : ∀ a, a ≠ 317 → a ≠ 318 → a ≠ 319 → σ4 a = σ a := fun a z1 z2 z3 => by show uA (uA (uA σ1 317 _) 318 _) 319 _ a = _; rw [uA_n z3, uA_n z2, uA_n z1, o1 a z1]
  have hrow4 : I_row (rA sw) σ4 H D n m := hr.c (fun j hj => by rw [o4 _ (by omega) (by omega) (by omega), hF.1 _ (by omega) (by omega)]) (fun j a b => by rw [o4 302 (by omega) (by omega) (by omega), hF.2.1 j (by omega) (by omega)]) (fun j a b => by rw [o4 _ (by omega) (by omega) (by omega), hF.1 _ (by omega) (by omega)])
  have w309 : σ4 308 = σ0 308 := by rw [o4 308 (by omega) (by omega) (by omega), hF.1 308 (by omega) (by omega)]
  have w307 : σ4 306 = σ0 306 := by rw [o4 306 (by omega) (by omega) (by omega), hF.1 306 (by omega) (by omega)]
  have w308 : σ4 307 = σ0 307 := by rw [o4 307 (by omega) (by omega) (by omega), hF.1 307 (by omega) (by omega)]
  have w305 : σ4 304 = σ0 304 := by rw [o4 304 (by omega) (by omega) (by omega), hF.1 304 (by omega) (by omega)]
  have w306 : σ4 305 = σ0 305 := by rw [o4 305 (by omega) (by omega) (by omega), hF.1 305 (by omega) (by omega)]
  have hN4 : NB n m H (σ4 306) (σ4 307) (σ4 308) := by rw [w307, w308, w309]; exact hN
  have hnd4 : f_X13_needs 302 (nI c) (enc sw σ4 ς) = some (nI (zN (σ0 308) (σ0 306) (σ0 307) c), enc sw σ4 ς) := by
    have := needs_M (sw := sw) (σ := σ4) (ς := ς) hN4 (by rw [w309]; exact ha c hc) hc r4
    rw [w307, w308, w309] at this
    exact this
  have hpy4 : f_X13_pay 302 (nI s) (nI c) (enc sw σ4 ς) = some (nI (zPay (σ0 308) (σ0 304) (σ0 305) s c), enc sw σ4 ς) := by
    have := pay_M (ς := ς) hrow4 hN4 hs hc
    rw [w309, w305, w306] at this
    exact this
  have hPb : zN (σ0 308) (σ0 306) (σ0 307) c * zPay (σ0 308) (σ0 304) (σ0 305) s c ≤ 238 := by rcases hpy with e | e <;> rw [e] <;> omega
  have hmx4 : f_X13_max 302 (0 : Int32) (nI de - nI (zN (σ0 308) (σ0 306) (σ0 307) c * zPay (σ0 308) (σ0 304) (σ0 305) s c)) (enc sw σ4 ς) = some (nI (de - zN (σ0 308) (σ0 306) (σ0 307) c * zPay (σ0 308) (σ0 304) (σ0 305) s c), enc sw σ4 ς) := by
    rw [maxI_M, relu_M (by omega) (by omega)]
  let σ7 : Sg := uA (uA (uA σ4 320 (upd (σ4 320) (d + 1) (nI (de - zN (σ0 308) (σ0 306) (σ0 307) c * zPay (σ0 308) (σ0 304) (σ0 305) s c)))) 321 (upd (σ4 321) (d + 1) (nI (g ||| 2 ^ c)))) 322 (upd (σ4 322) (d + 1) (nI (x * 10 + c + 1)))
  have hdm : nI (d + 1) - (1 : Int32) = nI d := nI_pred d
  have hten : (10 : Int32) * nI x + nI c + (1 : Int32) = nI (x * 10 + c + 1) := by rw [show (10 : Int32) = nI 10 from rfl, pk_mul, nI_add, nI_1, Nat.mul_comm 10]
  -- the numbers of the new state
  have v318 : σ7 317 = upd (upd (σ 317) d (nI (c + 1))) (d + 1) 0 := by show uA (uA (uA σ4 320 _) 321 _) 322 _ 317 = _; rw [uA_n (by omega), uA_n (by omega), uA_n (by omega)]; show uA (uA (uA σ1 317 _) 318 _) 319 _ 317 = _; rw [uA_n (by omega), uA_n (by omega), uA_s]; show upd (uA σ 317 _ 317) _ _ = _; rw [uA_s]
  have v319 : σ7 318 = upd (σ 318) (d + 1) (nI (nV (σ0 308) (24 + c))) := by show uA (uA (uA σ4 320 _) 321 _) 322 _ 318 = _; rw [uA_n (by omega), uA_n (by omega), uA_n (by omega)]; show uA (uA (uA σ1 317 _) 318 _) 319 _ 318 = _; rw [uA_n (by omega), uA_s, o1 318 (by omega)]
  have v320 : σ7 319 = upd (σ 319) (d + 1) (nI rest) := by show uA (uA (uA σ4 320 _) 321 _) 322 _ 319 = _; rw [uA_n (by omega), uA_n (by omega), uA_n (by omega)]; show uA (uA (uA σ1 317 _) 318 _) 319 _ 319 = _; rw [uA_s, o1 319 (by omega)]
  have v321 : σ7 320 = upd (σ 320) (d + 1) (nI (de - zN (σ0 308) (σ0 306) (σ0 307) c * zPay (σ0 308) (σ0 304) (σ0 305) s c)) := by show uA (uA (uA σ4 320 _) 321 _) 322 _ 320 = _; rw [uA_n (by omega), uA_n (by omega), uA_s, o4 320 (by omega) (by omega) (by omega)]
  have v322 : σ7 321 = upd (σ 321) (d + 1) (nI (g ||| 2 ^ c)) := by show uA (uA (uA σ4 320 _) 321 _) 322 _ 321 = _; rw [uA_n (by omega), uA_s, o4 321 (by omega) (by omega) (by omega)]
  have v323 : σ7 322 = upd (σ 322) (d + 1) (nI (x * 10 + c + 1)) := by show uA (uA (uA σ4 320 _) 321 _) 322 _ 322 = _; rw [uA_s, o4 322 (by omega) (by omega) (by omega)]
  have o7 : ∀ a, a < 317 → σ7 a = σ a := fun a z => by show uA (uA (uA σ4 320 _) 321 _) 322 _ a = _; rw [uA_n (by omega), uA_n (by omega), uA_n (by omega), o4 a (by omega) (by omega) (by omega)]
  have body : ∀ f r, (if nI q.1 < nI (d + 1) then f_X13_rounds_314 (f_X13_rounds_L68 f) 302 (nI s) (nI (d + 1)) (enc sw σ7 ς) else if nI (d + 1) = nI q.1 then (if nI q.2 ≤ nI (x * 10 + c + 1) then f_X13_rounds_L68 f 302 (nI s) (nI (d + 1)) (enc sw σ7 ς) else f_X13_rounds_314 (f_X13_rounds_L68 f) 302 (nI s) (nI (d + 1)) (enc sw σ7 ς)) else f_X13_rounds_L68 f 302 (nI s) (nI (d + 1)) (enc sw σ7 ς)) = r → f_X13_rounds_L68 (f + 1) 302 (nI s) (nI d) (enc sw σ ς) = r := by
    intro f r hr'
    have s30 : σ7 302 30 = nI q.1 := by rw [o7 302 (by omega)]; exact h30
    have s31 : σ7 302 31 = nI q.2 := by rw [o7 302 (by omega)]; exact h31
    have s23 : σ7 322 (d + 1) = nI (x * 10 + c + 1) := by rw [v323, pk_us]
    show F_X13_rounds_L68 (f_X13_rounds_L68 f) 302 (nI s) (nI d) (enc sw σ ς) = _
    unfold F_X13_rounds_L68
    rw [if_neg (nI_pos (by omega)), gr_Mo_32, Option.bind_some, ai_317 l1, Option.bind_some, gi_Mo_6, Option.bind_some, h1, h6, if_neg (fun z => absurd ((nI_eq (by omega) (by omega)).mp z) (by omega)), gr_Mo_35, Option.bind_some, ai_320 l1, Option.bind_some, h4, if_neg (nI_ne0 hde (by omega)), Option.bind_some, ai_317 l1, Option.bind_some, h1, Option.bind_some, ai_317 l1, Option.bind_some, h1, nI_1, aw_317 l1, Option.bind_some, e1, gr_Mo_34, Option.bind_some, ai_319 l1, Option.bind_some, gr_Mo_33, Option.bind_some, ai_318 l1, Option.bind_some, gr_Mo_11, Option.bind_some, i24, ai_308 l24, Option.bind_some, o1 319 (by omega), o1 318 (by omega), h3, h2, q309, hB.1, hap, bT1_some, hnd, bT1_some, gr_Mo_36, Option.bind_some, ai_321 l1, Option.bind_some, o1 321 (by omega), h5, bit_ok g hg c (by omega), gr_Mo_11, Option.bind_some, i30, ai_308 l30, Option.bind_some, q309, sub_sub_ok, if_pos (show (if g.testBit c = true then (1 : Int32) else 0) = 0 by rw [hbit]; rfl), if_pos h0, hrest, if_neg (nI_pos (show rest < 2 ^ 31 by show le - _ < 2 ^ 31; omega))]
    rw [gr_Mo_32, Option.bind_some, nI_1, aw_317 l2, Option.bind_some, gr_Mo_33, Option.bind_some, gr_Mo_11, Option.bind_some, ai_308 l24, Option.bind_some, uA_n (show 308 ≠ 317 by omega), q309, hB.1, aw_318 l2, Option.bind_some, gr_Mo_34, Option.bind_some, aw_319 l2, Option.bind_some, uA_n (show 318 ≠ 317 by omega), uA_n (show 319 ≠ 318 by omega), uA_n (show 319 ≠ 317 by omega)]
    rw [show enc sw (uA (uA (uA σ1 317 (upd (σ1 317) (d + 1) 0)) 318 (upd (σ1 318) (d + 1) (nI (nV (σ0 308) (24 + c))))) 319 (upd (σ1 319) (d + 1) (nI rest))) ς = enc sw σ4 ς from rfl]
    rw [gr_Mo_35, Option.bind_some, Option.bind_some, hdm, ai_320 l1, Option.bind_some, o4 320 (by omega) (by omega) (by omega), h4, hnd4, bT1_some, hpy4, bT1_some, pk_mul, hmx4, bT1_some, aw_320 l2, Option.bind_some, gr_Mo_36, Option.bind_some, Option.bind_some, ai_321 l1, Option.bind_some, uA_n (show 321 ≠ 320 by omega), o4 321 (by omega) (by omega) (by omega), h5, or_ok g hg c (by omega), aw_321 l2, Option.bind_some, gr_Mo_37, Option.bind_some, Option.bind_some, ai_322 l1, Option.bind_some, uA_n (show 322 ≠ 321 by omega), uA_n (show 322 ≠ 320 by omega), o4 322 (by omega) (by omega) (by omega), h7, hten, aw_322 l2, Option.bind_some, uA_n (show 322 ≠ 321 by omega), uA_n (show 322 ≠ 320 by omega), uA_n (show 321 ≠ 320 by omega)]
    rw [show enc sw (uA (uA (uA σ4 320 (upd (σ4 320) (d + 1) (nI (de - zN (σ0 308) (σ0 306) (σ0 307) c * zPay (σ0 308) (σ0 304) (σ0 305) s c)))) 321 (upd (σ4 321) (d + 1) (nI (g ||| 2 ^ c)))) 322 (upd (σ4 322) (d + 1) (nI (x * 10 + c + 1)))) ς = enc sw σ7 ς from rfl]
    rw [gi_Mo_30, Option.bind_some, s30, Option.bind_some, gr_Mo_37, Option.bind_some, ai_322 l2, Option.bind_some, s23, gi_Mo_31, Option.bind_some, s31]
    exact hr'
  have hfr : ∀ (σ' : Sg), (∀ a, a < 317 → a ≠ 302 → σ' a = σ7 a) → (∀ j, j ≠ 30 → j ≠ 31 → σ' 302 j = σ7 302 j) → (∀ a, 317 ≤ a → σ' a = σ7 a) → FM σ σ' d ∧ ND σ' d (c + 1) g x ho le de ∧ ND σ' (d + 1) 0 (g ||| 2 ^ c) (x * 10 + c + 1) (nV (σ0 308) (24 + c)) rest (de - zN (σ0 308) (σ0 306) (σ0 307) c * zPay (σ0 308) (σ0 304) (σ0 305) s c) := by
    intro σ' f1 f2 f3
    refine ⟨⟨fun a z1 z2 => by rw [f1 a z1 z2, o7 a z1], fun j z1 z2 => by rw [f2 j z1 z2, o7 302 (by omega)], fun a z1 z2 i z3 => ?_⟩, ⟨?_, ?_, ?_, ?_, ?_, ?_⟩, ⟨?_, ?_, ?_, ?_, ?_, ?_⟩⟩
    · rw [f3 a z1]
      obtain rfl | rfl | rfl | rfl | rfl | rfl : a = 317 ∨ a = 318 ∨ a = 319 ∨ a = 320 ∨ a = 321 ∨ a = 322 := by omega
      · rw [v318, pk_un (by omega), pk_un (by omega)]
      · rw [v319, pk_un (by omega)]
      · rw [v320, pk_un (by omega)]
      · rw [v321, pk_un (by omega)]
      · rw [v322, pk_un (by omega)]
      · rw [v323, pk_un (by omega)]
    · rw [f3 317 (by omega), v318, pk_un (by omega), pk_us]
    · rw [f3 318 (by omega), v319, pk_un (by omega)]; exact h2
    · rw [f3 319 (by omega), v320, pk_un (by omega)]; exact h3
    · rw [f3 320 (by omega), v321, pk_un (by omega)]; exact h4
    · rw [f3 321 (by omega), v322, pk_un (by omega)]; exact h5
    · rw [f3 322 (by omega), v323, pk_un (by omega)]; exact h7
    · rw [f3 317 (by omega), v318, pk_us]; rfl
    · rw [f3 318 (by omega), v319, pk_us]
    · rw [f3 319 (by omega), v320, pk_us]
    · rw [f3 320 (by omega), v321, pk_us]
    · rw [f3 321 (by omega), v322, pk_us]
    · rw [f3 322 (by omega), v323, pk_us]
  obtain ⟨i1, i2, i3⟩ := hiv
  unfold upL
  by_cases hlt : q.1 < d + 1
  · have s23 : σ7 322 (d + 1) = nI (x * 10 + c + 1) := by rw [v323, pk_us]
    let σ8 : Sg := uA (uA σ7 302 (upd (σ7 302) 30 (nI (d + 1)))) 302 (upd (uA σ7 302 (upd (σ7 302) 30 (nI (d + 1))) 302) 31 (nI (x * 10 + c + 1)))
    have o8 : ∀ a, a ≠ 302 → σ8 a = σ7 a := fun a z => by show uA (uA σ7 302 _) 302 _ a = _; rw [uA_n z, uA_n z]
    have v8 : σ8 302 = upd (upd (σ7 302) 30 (nI (d + 1))) 31 (nI (x * 10 + c + 1)) := by show uA (uA σ7 302 _) 302 _ 302 = _; rw [uA_s, uA_s]
    obtain ⟨g1, g2, g3⟩ := hfr σ8 (fun a z1 z2 => o8 a z2) (fun j z1 z2 => by rw [v8, pk_un z2, pk_un z1]) (fun a z => o8 a (by omega))
    refine ⟨σ8, fun f => body f _ ?_, g1, g2, g3, ?_, ?_⟩
    · rw [if_pos (nI_lt hlt (by omega))]
      unfold f_X13_rounds_314
      rw [pf_Mo_30, Option.bind_some, gr_Mo_37, Option.bind_some, ai_322 l2, Option.bind_some, uA_n (show 322 ≠ 302 by omega), s23, pf_Mo_31, Option.bind_some]
    · rw [if_pos hlt, v8, pk_un (by omega), pk_us]
    · rw [if_pos hlt, v8, pk_us]
  · obtain ⟨g1, g2, g3⟩ := hfr σ7 (fun _ _ _ => rfl) (fun _ _ _ => rfl) (fun _ _ => rfl)
    refine ⟨σ7, fun f => body f _ ?_, g1, g2, g3, ?_, ?_⟩
    · rw [if_neg (nI_nlt (by omega) (by omega))]
      by_cases he : d + 1 = q.1
      · have h4 := i3 (by omega)
        rw [show q.1 - d - 1 = 0 by omega, Nat.pow_zero, Nat.mul_one] at h4
        rw [if_pos (by rw [he]), if_pos (nI_le (by omega) (by omega))]
      · rw [if_neg (fun z => he ((nI_eq (by omega) (by omega)).mp z))]
    · rw [if_neg hlt, o7 302 (by omega)]; exact h30
    · rw [if_neg hlt, o7 302 (by omega)]; exact h31
end RG
