theorem al_row : Alike (f_X12_row 0) (f_X13_row 302) := by
  intro sw σ ς h
  obtain ⟨len, H, D, n, m, k, nx, q, e, h1, h2, h3, h4, h5, h6, h7, h8, h9⟩ := h
  obtain ⟨t1, t2, t3, t4⟩ := id h1
  have hz : ∀ i, i < len → σ 303 i = nI (nV (σ 303) i) ∧ nV (σ 303) i < 256 := by
    intro i hi
    obtain ⟨-, z, z1, z2⟩ := t4 i hi
    rw [nV_of z2 (by omega)]; exact ⟨z2, z1⟩
  have hTc : TXc σ (nV (σ 303)) len := ⟨t1, t2, fun i hi => by rw [(t4 i hi).1]; exact hz i hi⟩
  have hTm : ∀ σ' : Sg, (σ' 302 1 = σ 302 1) → σ' 303 = σ 303 → TXm σ' (nV (σ 303)) len := fun σ' e1 e2 => ⟨t1, by rw [e1]; exact t3, fun i hi => by rw [e2]; exact hz i hi⟩
  have hra := rA_or sw
  have hrb := rB_or sw
  have hne : rA sw = 12 ∧ rB sw = 276 ∨ rA sw = 276 ∧ rB sw = 12 := by cases sw <;> simp [rA, rB]
  cases hp : prs (nV (σ 303)) len 240 (skp (nV (σ 303)) len 0) R0 with
  | error er =>
    obtain ⟨σ1, f1, o1, ⟨p1, p2⟩, he⟩ := row_CE (sw := sw) (ς := ς) hTc hp
    obtain ⟨σ2, f2, o2, o3, p3, p4⟩ := row_ME (sw := sw) (ς := ς) (hTm σ1 (by rw [o1 302 (by omega) (by omega)]) (o1 303 (by omega) (by omega))) hp he
    refine ⟨(-10 : Int32) - nI er.1, sw, σ1, ς, sw, σ2, ς, f1, f2, 0, H, D, n, m, k, nx, q, e, ⟨by omega, ?_, p3, fun i hi => absurd hi (by omega)⟩, ?_, h3.c ?_ ?_ ?_, h4.c ?_ ?_, h5.c ?_ ?_ ?_ ?_, h6.c ?_ rfl, h7.c ?_ ?_ ?_ rfl ?_, h8.c ?_ ?_ ?_ ?_ ?_, h9.c ?_ ?_ ?_ ?_ ?_⟩
    · rw [o2 1 (by omega) (by omega)]; exact p1
    · rw [o2 1 (by omega) (by omega), p2, p4]
    · intro j hj; rw [o2 _ (by omega) (by omega), o1 _ (by omega) (by omega)]
    · intro j a b; rw [o3 j (by omega) (by omega) (by omega), o1 302 (by omega) (by omega)]
    · intro j a b; rw [o2 _ (by omega) (by omega), o1 _ (by omega) (by omega)]
    · intro j hj; rw [o2 _ (by omega) (by omega), o1 _ (by omega) (by omega)]
    · intro j a b; rw [o2 _ (by omega) (by omega), o1 _ (by omega) (by omega)]
    · intro j a b; rw [o2 _ (by omega) (by omega), o1 _ (by omega) (by omega)]
    · rw [o3 _ (by omega) (by omega) (by omega), o1 302 (by omega) (by omega)]
    · rw [o2 _ (by omega) (by omega), o1 _ (by omega) (by omega)]
    · intro j a b; rw [o2 _ (by omega) (by omega), o1 _ (by omega) (by omega)]
    · rw [o2 _ (by omega) (by omega), o1 _ (by omega) (by omega)]
    · intro j a b; rw [o2 _ (by omega) (by omega), o1 _ (by omega) (by omega)]
    · rw [o2 _ (by omega) (by omega), o1 _ (by omega) (by omega)]
    · rw [o2 _ (by omega) (by omega), o1 _ (by omega) (by omega)]
    · intro j a b; rw [o2 _ (by omega) (by omega), o1 _ (by omega) (by omega)]
    · rw [o2 _ (by omega) (by omega), o1 _ (by omega) (by omega)]
    · rw [o3 _ (by omega) (by omega) (by omega), o1 302 (by omega) (by omega)]
    · rw [o2 _ (by omega) (by omega), o1 _ (by omega) (by omega)]
    · rw [o2 _ (by omega) (by omega), o1 _ (by omega) (by omega)]
    · rw [o2 _ (by omega) (by omega), o1 _ (by omega) (by omega)]
    · rw [o2 _ (by omega) (by omega), o1 _ (by omega) (by omega)]
    · rw [o3 _ (by omega) (by omega) (by omega), o1 302 (by omega) (by omega)]
    · rw [o2 _ (by omega) (by omega), o1 _ (by omega) (by omega)]
    · rw [o2 _ (by omega) (by omega), o1 _ (by omega) (by omega)]
    · rw [o2 _ (by omega) (by omega), o1 _ (by omega) (by omega)]
  | ok R =>
    have hV : VR R := prsV _ _ _ R VR0 hp
    obtain ⟨⟨v1, v2, v3, v4⟩, v5, v6, v7, v8⟩ := id hV
    obtain ⟨σ1, f1, o1, ⟨a1, a2⟩, a3, ⟨a4, a5, a6, a7⟩, a8, a9, ⟨b1, b2⟩, b3, b4, b5, b6, b7⟩ := row_C (sw := sw) (ς := ς) hTc hp
    obtain ⟨σ2, f2, o2, ⟨c1, c2, c3, c4, c5, c6, c7, c8, c9⟩, d1, d2, d3, d4, d5⟩ := row_M (sw := !sw) (ς := ς) (hTm σ1 (by rw [o1 302 (by omega)]) (o1 303 (by omega))) hp
    have hra' := rA_or (!sw)
    obtain ⟨⟨y1, y2, y3, y4⟩, -, y8, y9⟩ := id a3
    obtain ⟨g1, g2, g3, g4, g5, g6⟩ := h5
    refine ⟨nI R.n, !sw, σ1, ς, !sw, σ2, ς, f1, f2, 0, R.H, R.D, R.n, R.m, 0, nx, 0, 0, ⟨by omega, ?_, c1, fun i hi => absurd hi (by omega)⟩, ?_, ⟨⟨v1, v2, v3, v4⟩, v5, v6, ⟨?_, ?_, ?_, ?_⟩, ⟨c3, c4, c5, c6⟩, fun s hs => ?_, fun c hc => ?_⟩, ⟨NR.intro (fun s hs => ?_) (fun s hs => ?_) (fun s hs => ?_) (fun s hs => ?_) (fun c hc => ?_) (fun c hc => ?_) (fun c hc => ?_) ⟨2 ^ R.m - 1, by have := Nat.two_pow_pos R.m; omega, ?_, fun c hc => ?_⟩ ?_ ?_ ?_, ⟨fun s hs => ?_, fun c hc => ?_, ⟨0, d3 50 (by omega) (by omega), by omega⟩, ⟨0, d3 49 (by omega) (by omega), by omega⟩, ⟨0, d3 48 (by omega) (by omega), by omega⟩⟩⟩, I_past.zero g2 ?_ ?_ c7, h6.c ?_ rfl, fun i hi => Or.inl ?_, I_ask.zero ?_ c8, I_book.zero ?_ c9⟩
    · rw [o2 1 (by omega)]; exact a1
    · rw [o2 1 (by omega), a2, c2]
    · rw [o2 _ (by omega)]; exact y1
    · rw [o2 _ (by omega)]; exact y2
    · rw [o2 _ (by omega)]; exact y3
    · rw [o2 _ (by omega)]; exact y4
    · obtain ⟨⟨z1, z2⟩, -⟩ := d1 s hs
      obtain ⟨x1, -, -, x4⟩ := y8 s hs
      obtain ⟨w1, -, -, w4⟩ := v7 s hs
      refine ⟨?_, ?_, ⟨R.vo s, z1, w1⟩, ⟨R.ho s, z2, w4⟩⟩
      · rw [o2 _ (by omega), x1, z1]
      · rw [o2 _ (by omega), x4, z2]
    · obtain ⟨⟨z1, z2⟩, -⟩ := d2 c hc
      obtain ⟨x1, x2, -⟩ := y9 c hc
      refine ⟨?_, ?_⟩
      · rw [o2 _ (by omega), x1, z1]
      · rw [o2 _ (by omega), x2, z2]
    · rw [o2 _ (by omega), (d1 s hs).2.1]; exact (a8 s hs).1
    · rw [o2 _ (by omega), (d1 s hs).2.2.1]; exact (a8 s hs).2.1
    · rw [o2 _ (by omega), (d1 s hs).2.2.2.1]; exact (a8 s hs).2.2.1
    · rw [o2 _ (by omega), (d1 s hs).2.2.2.2]; exact (a8 s hs).2.2.2
    · rw [o2 _ (by omega), (d2 c hc).2]; exact (a9 c hc).1
    · rw [o2 _ (by omega), d3 _ (by omega) (by omega)]; exact (a9 c hc).2.1
    · rw [o2 _ (by omega), d3 _ (by omega) (by omega)]; exact (a9 c hc).2.2
    · rw [o2 _ (by omega)]; exact a4
    · rw [d3 _ (by omega) (by omega), Nat.testBit_two_pow_sub_one, decide_eq_true hc]; rfl
    · rw [o2 _ (by omega), d3 _ (by omega) (by omega)]; exact a5
    · rw [o2 _ (by omega), d3 _ (by omega) (by omega)]; exact a6
    · rw [o2 _ (by omega), d3 _ (by omega) (by omega)]; exact a7
    · obtain ⟨-, z3, z4, z5, z6⟩ := d1 s hs
      obtain ⟨w1, w2, w3, w4⟩ := v7 s hs
      exact ⟨R.ag s, 2 * R.ow s, R.ho s, R.D, ⟨z3, by omega⟩, ⟨z4, by omega⟩, ⟨z5, w4⟩, ⟨z6, v2⟩⟩
    · obtain ⟨⟨z1, z2⟩, z3⟩ := d2 c hc
      obtain ⟨w1, ⟨w2, w2'⟩, w3⟩ := v8 c hc
      exact ⟨R.be c, 0, 0, R.ki c, R.pa c, ⟨z3, w3⟩, ⟨d3 _ (by omega) (by omega), by omega⟩, ⟨d3 _ (by omega) (by omega), by omega⟩, ⟨z1, w1⟩, ⟨z2, w2, w2'⟩, fun _ => tot_pos w2⟩
    · rw [o2 27 (by omega), b1]; exact g3
    · rw [o2 27 (by omega)]; exact b2
    · rw [o2 0 (by omega), b5]
    · obtain rfl | rfl : i = 0 ∨ i = 1 := by omega
      · exact ⟨by rw [o2 _ (by omega)]; exact b6, d4⟩
      · exact ⟨by rw [o2 _ (by omega)]; exact b7, d5⟩
    · rw [o2 269 (by omega)]; exact b3
    · rw [o2 272 (by omega)]; exact b4
