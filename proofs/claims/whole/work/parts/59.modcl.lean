def RWm (σ : Sg) (R : RW) : Prop := (σ 302 24 = nI R.H ∧ σ 302 25 = nI R.D ∧ σ 302 26 = nI R.n ∧ σ 302 27 = nI R.m) ∧ (R.H ≤ 20 ∧ R.n ≤ 6 ∧ R.m ≤ 6) ∧
  (∀ s, s < R.n → σ 315 s = nI (R.vo s) ∧ σ 315 (6 + s) = nI (R.ag s) ∧ σ 315 (12 + s) = nI (R.ow s) ∧ σ 315 (18 + s) = nI (R.ho s)) ∧
  ∀ c, c < R.m → σ 315 (24 + c) = nI (R.ki c) ∧ σ 315 (30 + c) = nI (R.pa c) ∧ σ 315 (36 + c) = nI (R.be c)
theorem RWm.c {σ σ' : Sg} {R : RW} (h : RWm σ R) (e : ∀ j, 24 ≤ j → j < 28 → σ' 302 j = σ 302 j) (e2 : σ' 315 = σ 315) : RWm σ' R := by
  unfold RWm at h ⊢
  rw [e 24 (by omega) (by omega), e 25 (by omega) (by omega), e 26 (by omega) (by omega), e 27 (by omega) (by omega), e2]
  exact h
theorem RWm.f {σ σ' : Sg} {R : RW} (h : RWm σ R) (f : FRm σ σ') : RWm σ' R := h.c (fun j z1 z2 => f.2 j (by omega) (by omega) (by omega)) (f.1 315 (by omega))
/-- off the reference's reader nothing changes -/
def FRn (σ σ' : Sg) : Prop := (∀ a, a ≠ 302 → a ≠ 315 → σ' a = σ a) ∧ ∀ j, j < 22 → j ≠ 2 → σ' 302 j = σ 302 j
theorem FRn.refl (σ : Sg) : FRn σ σ := ⟨fun _ _ _ => rfl, fun _ _ _ => rfl⟩
theorem FRn.trans {σ1 σ2 σ3 : Sg} (h : FRn σ1 σ2) (h' : FRn σ2 σ3) : FRn σ1 σ3 := ⟨fun a z1 z2 => (h'.1 a z1 z2).trans (h.1 a z1 z2), fun j z1 z2 => (h'.2 j z1 z2).trans (h.2 j z1 z2)⟩
theorem FRm.n {σ σ' : Sg} (h : FRm σ σ') : FRn σ σ' := ⟨fun a z1 _ => h.1 a z1, fun j z1 z2 => h.2 j z2 (by omega) (by omega)⟩
theorem FRn.w3 {σ : Sg} {k : Nat} {x : Int32} (h : 22 ≤ k) : FRn σ (uA σ 302 (upd (σ 302) k x)) := ⟨fun a z1 _ => uA_n z1, fun j z1 _ => by rw [uA_s, pk_un (by omega)]⟩
theorem FRn.w6 {σ : Sg} {f : Nat → Int32} : FRn σ (uA σ 315 f) := ⟨fun a _ z => uA_n z, fun j _ _ => by rw [uA_n (by omega)]⟩
theorem TXm.n {σ σ' : Sg} {T : Nat → Nat} {len : Nat} (h : TXm σ T len) (f : FRn σ σ') : TXm σ' T len := h.c (f.2 1 (by omega) (by omega)) (f.1 303 (by omega) (by omega))
section CM1
variable {sw : Bool} {ς : Lg} {T : Nat → Nat} {len a : Nat} {R : RW}
theorem RMs.w3 {σ : Sg} {B : Nat} {s : St} {k : Nat} {x : Int32} (h : RMs σ B s) (hk : 24 ≤ k) : RMs (uA σ 302 (upd (σ 302) k x)) B s := h.c (by rw [uA_s, pk_un (by omega)]) (by rw [uA_s, pk_un (by omega)]) (by rw [uA_s, pk_un (by omega)])
theorem RMs.w6 {σ : Sg} {B : Nat} {s : St} {f : Nat → Int32} (h : RMs σ B s) : RMs (uA σ 315 f) B s := h.c (by rw [uA_n (by omega)]) (by rw [uA_n (by omega)]) (by rw [uA_n (by omega)])
theorem house_M {σ : Sg} (hT : TXm σ T len) (hs : RMs σ len (.ok a)) (ha : a < len) (hR : RWm σ R) :
    ∃ σ', f_X13_clause_98 302 (114 : Int32) (enc sw σ ς) = some (enc sw σ' ς) ∧ FRn σ σ' ∧ RMs σ' (len + 1) (rE T len a) ∧ (okS (rE T len a) → RWm σ' (rR T len a R)) := by
  obtain ⟨b1, b2, b3, b4⟩ := id hs
  let σ0 : Sg := uA σ 302 (upd (σ 302) 22 (nI (a + 1)))
  have f0 : FRm σ σ0 := ⟨fun x hx => uA_n hx, fun j z1 z2 z3 => by show uA σ 302 _ 302 j = _; rw [uA_s, pk_un z2]⟩
  have q0 : RMs σ0 len (.ok (a + 1)) := hs.move (a := a + 1) (B' := len) (by omega) (by show uA σ 302 _ 302 22 = _; rw [uA_s, pk_us]) (by show uA σ 302 _ 302 23 = _; rw [uA_s, pk_un (by omega)]) (by show uA σ 302 _ 302 2 = _; rw [uA_s, pk_un (by omega)])
  have hT0 := hT.f f0
  obtain ⟨x1, σ1, k1, f1, q1, v1⟩ := num_M (sw := sw) (ς := ς) (lo := 1) (hi := 20) hT0 q0 (by omega) (by omega)
  let τ1 : Sg := uA σ1 302 (upd (σ1 302) 24 x1)
  have hT1 : TXm τ1 T len := (hT0.f f1).n (FRn.w3 (by omega))
  obtain ⟨x2, σ2, k2, f2, q2, v2⟩ := num_M (sw := sw) (ς := ς) (lo := 1) (hi := 30) hT1 (q1.w3 (by omega)) (by omega) (by omega)
  let τ2 : Sg := uA σ2 302 (upd (σ2 302) 25 x2)
  have hT2 : TXm τ2 T len := (hT1.f f2).n (FRn.w3 (by omega))
  obtain ⟨σ3, k3, f3, q3⟩ := end_M (sw := sw) (ς := ς) hT2 (q2.w3 (by omega))
  have k1' : f_X13_number 302 (1 : Int32) (20 : Int32) (enc sw (uA σ 302 (upd (σ 302) 22 (nI (a + 1)))) ς) = some (x1, enc sw σ1 ς) := k1
  have k2' : f_X13_number 302 (1 : Int32) (30 : Int32) (enc sw (uA σ1 302 (upd (σ1 302) 24 x1)) ς) = some (x2, enc sw σ2 ς) := k2
  have k3' : f_X13_clause_304 302 (enc sw (uA σ2 302 (upd (σ2 302) 25 x2)) ς) = some (enc sw σ3 ς) := k3
  have hst : f_X13_clause_98 302 (114 : Int32) (enc sw σ ς) = some (enc sw σ3 ς) := by
    unfold f_X13_clause_98
    rw [gi_Mo_22, Option.bind_some, b2, nI_1, pf_Mo_22, Option.bind_some, if_pos rfl, k1', bT1_some, pf_Mo_24, Option.bind_some, k2', bT1_some, pf_Mo_25, Option.bind_some, k3']
  have ff : FRn σ σ3 := ((((f0.n.trans f1.n).trans (FRn.w3 (by omega))).trans f2.n).trans (FRn.w3 (by omega))).trans f3.n
  refine ⟨σ3, hst, ff, q3, fun hok => ?_⟩
  have hok2 : okS (r2 T len a) := ok_pos (ok_end (T := T) (len := len) hok)
  have hok1 : okS (r1 T len a) := ok_pos (ok_num hok2)
  have w1 := v1 hok1
  have w2 := v2 hok2
  have bb := num_b hok1
  obtain ⟨⟨y1, y2, y3, y4⟩, ⟨y5, y6, y7⟩, y8, y9⟩ := hR
  have o6 : σ3 315 = σ 315 := by
    rw [f3.1 315 (by omega)]; show uA σ2 302 _ 315 = _; rw [uA_n (by omega), f2.1 315 (by omega)]; show uA σ1 302 _ 315 = _; rw [uA_n (by omega), f1.1 315 (by omega), f0.1 315 (by omega)]
  have o3 : ∀ j, 24 ≤ j → σ3 302 j = if j = 25 then x2 else if j = 24 then x1 else σ 302 j := by
    intro j hj
    rw [f3.2 j (by omega) (by omega) (by omega)]; show uA σ2 302 _ 302 j = _; rw [uA_s]
    by_cases e25 : j = 25
    · rw [if_pos e25, e25, pk_us]
    · rw [if_neg e25, pk_un e25, f2.2 j (by omega) (by omega) (by omega)]; show uA σ1 302 _ 302 j = _; rw [uA_s]
      by_cases e24 : j = 24
      · rw [if_pos e24, e24, pk_us]
      · rw [if_neg e24, pk_un e24, f1.2 j (by omega) (by omega) (by omega), f0.2 j (by omega) (by omega) (by omega)]
  refine ⟨⟨?_, ?_, ?_, ?_⟩, ⟨bb.2, y6, y7⟩, fun s hs => ?_, fun c hc => ?_⟩
  · rw [o3 24 (by omega), if_neg (by omega), if_pos rfl]; exact w1
  · rw [o3 25 (by omega), if_pos rfl]; exact w2
  · rw [o3 26 (by omega), if_neg (by omega), if_neg (by omega)]; exact y3
  · rw [o3 27 (by omega), if_neg (by omega), if_neg (by omega)]; exact y4
  · rw [o6]; exact y8 s hs
  · rw [o6]; exact y9 c hc
theorem singer_M {σ : Sg} (hT : TXm σ T len) (hs : RMs σ len (.ok a)) (ha : a < len) (hR : RWm σ R) (h0 : ¬ R.H = 0) (hn : R.n < 6) :
    ∃ σ', f_X13_clause_98 302 (115 : Int32) (enc sw σ ς) = some (enc sw σ' ς) ∧ FRn σ σ' ∧ RMs σ' (len + 1) (sE T len a R) ∧ (okS (sE T len a R) → RWm σ' (sR T len a R)) := by
  obtain ⟨b1, b2, b3, b4⟩ := id hs
  obtain ⟨⟨y1, y2, y3, y4⟩, ⟨y5, y6, y7⟩, y8, y9⟩ := id hR
  let σ0 : Sg := uA σ 302 (upd (σ 302) 22 (nI (a + 1)))
  have f0 : FRm σ σ0 := ⟨fun x hx => uA_n hx, fun j z1 z2 z3 => by show uA σ 302 _ 302 j = _; rw [uA_s, pk_un z2]⟩
  have q0 : RMs σ0 len (.ok (a + 1)) := hs.move (a := a + 1) (B' := len) (by omega) (by show uA σ 302 _ 302 22 = _; rw [uA_s, pk_us]) (by show uA σ 302 _ 302 23 = _; rw [uA_s, pk_un (by omega)]) (by show uA σ 302 _ 302 2 = _; rw [uA_s, pk_un (by omega)])
  have hT0 := hT.f f0
  obtain ⟨x1, σ1, k1, f1, q1, v1⟩ := num_M (sw := sw) (ς := ς) (lo := 0) (hi := 3) hT0 q0 (by omega) (by omega)
  let τ1 : Sg := uA σ1 315 (upd (σ1 315) R.n x1)
  have hT1 : TXm τ1 T len := (hT0.f f1).n FRn.w6
  obtain ⟨x2, σ2, k2, f2, q2, v2⟩ := num_M (sw := sw) (ς := ς) (lo := 1) (hi := 60) hT1 q1.w6 (by omega) (by omega)
  let τ2 : Sg := uA σ2 315 (upd (σ2 315) (6 + R.n) x2)
  have hT2 : TXm τ2 T len := (hT1.f f2).n FRn.w6
  obtain ⟨x3, σ3, k3, f3, q3, v3⟩ := num_M (sw := sw) (ς := ς) (lo := 0) (hi := 99) hT2 q2.w6 (by omega) (by omega)
  let τ3 : Sg := uA σ3 315 (upd (σ3 315) (12 + R.n) x3)
  have hT3 : TXm τ3 T len := (hT2.f f3).n FRn.w6
  obtain ⟨x4, σ4, k4, f4, q4, v4⟩ := num_M (sw := sw) (ς := ς) (lo := 0) (hi := R.H - 1) hT3 q3.w6 (by omega) (by omega)
  let τ4 : Sg := uA σ4 315 (upd (σ4 315) (18 + R.n) x4)
  have hT4 : TXm τ4 T len := (hT3.f f4).n FRn.w6
  let τ5 : Sg := uA τ4 302 (upd (τ4 302) 26 (nI (R.n + 1)))
  have hT5 : TXm τ5 T len := hT4.n (FRn.w3 (by omega))
  obtain ⟨σ5, k5, f5, q5⟩ := end_M (sw := sw) (ς := ς) hT5 (q4.w6.w3 (by omega))
  have e1 : ∀ j, 24 ≤ j → σ1 302 j = σ 302 j := fun j hj => by rw [f1.2 j (by omega) (by omega) (by omega), f0.2 j (by omega) (by omega) (by omega)]
  have e2 : ∀ j, 24 ≤ j → σ2 302 j = σ 302 j := fun j hj => by rw [f2.2 j (by omega) (by omega) (by omega)]; show uA σ1 315 _ 302 j = _; rw [uA_n (by omega), e1 j hj]
  have e3 : ∀ j, 24 ≤ j → σ3 302 j = σ 302 j := fun j hj => by rw [f3.2 j (by omega) (by omega) (by omega)]; show uA σ2 315 _ 302 j = _; rw [uA_n (by omega), e2 j hj]
  have e4 : ∀ j, 24 ≤ j → σ4 302 j = σ 302 j := fun j hj => by rw [f4.2 j (by omega) (by omega) (by omega)]; show uA σ3 315 _ 302 j = _; rw [uA_n (by omega), e3 j hj]
  have k1' : f_X13_number 302 (0 : Int32) (3 : Int32) (enc sw (uA σ 302 (upd (σ 302) 22 (nI (a + 1)))) ς) = some (x1, enc sw σ1 ς) := k1
  have k2' : f_X13_number 302 (1 : Int32) (60 : Int32) (enc sw (uA σ1 315 (upd (σ1 315) R.n x1)) ς) = some (x2, enc sw σ2 ς) := k2
  have k3' : f_X13_number 302 (0 : Int32) (99 : Int32) (enc sw (uA σ2 315 (upd (σ2 315) (6 + R.n) x2)) ς) = some (x3, enc sw σ3 ς) := k3
  have k4' : f_X13_number 302 (0 : Int32) (nI (R.H - 1)) (enc sw (uA σ3 315 (upd (σ3 315) (12 + R.n) x3)) ς) = some (x4, enc sw σ4 ς) := k4
  have k5' : f_X13_clause_304 302 (enc sw (uA (uA σ4 315 (upd (σ4 315) (18 + R.n) x4)) 302 (upd (uA σ4 315 (upd (σ4 315) (18 + R.n) x4) 302) 26 (nI (R.n + 1)))) ς) = some (enc sw σ5 ς) := k5
  have hst : f_X13_clause_98 302 (115 : Int32) (enc sw σ ς) = some (enc sw σ5 ς) := by
    have c0 : uA σ 302 (upd (σ 302) 22 (nI (a + 1))) 302 26 = nI R.n := by rw [uA_s, pk_un (by omega)]; exact y3
    have c1 : uA σ1 315 (upd (σ1 315) R.n x1) 302 26 = nI R.n := by rw [uA_n (by omega), e1 26 (by omega)]; exact y3
    have c2 : uA σ2 315 (upd (σ2 315) (6 + R.n) x2) 302 26 = nI R.n := by rw [uA_n (by omega), e2 26 (by omega)]; exact y3
    have c3 : uA σ3 315 (upd (σ3 315) (12 + R.n) x3) 302 26 = nI R.n := by rw [uA_n (by omega), e3 26 (by omega)]; exact y3
    have c3' : uA σ3 315 (upd (σ3 315) (12 + R.n) x3) 302 24 = nI R.H := by rw [uA_n (by omega), e3 24 (by omega)]; exact y1
    have c4 : uA σ4 315 (upd (σ4 315) (18 + R.n) x4) 302 26 = nI R.n := by rw [uA_n (by omega), e4 26 (by omega)]; exact y3
    have hH1 : nI R.H - (1 : Int32) = nI (R.H - 1) := pk_sub (b := 1) (by omega)
    have i6 : (6 : Int32) + nI R.n = nI (6 + R.n) := nI_add 6 _
    have i12 : (12 : Int32) + nI R.n = nI (12 + R.n) := nI_add 12 _
    have i18 : (18 : Int32) + nI R.n = nI (18 + R.n) := nI_add 18 _
    unfold f_X13_clause_98
    rw [gi_Mo_22, Option.bind_some, b2, nI_1, pf_Mo_22, Option.bind_some, if_neg (by decide), if_pos rfl, gr_Mo_28, Option.bind_some, gi_Mo_26, Option.bind_some, c0, k1', bT1_some, aw_315 (by omega), Option.bind_some, gr_Mo_28, Option.bind_some, gi_Mo_26, Option.bind_some, c1, k2', bT1_some, i6, aw_315 (by omega), Option.bind_some, gr_Mo_28, Option.bind_some, gi_Mo_26, Option.bind_some, c2, k3', bT1_some, i12, aw_315 (by omega), Option.bind_some, gr_Mo_28, Option.bind_some, gi_Mo_26, Option.bind_some, gi_Mo_24, Option.bind_some, c3, c3', hH1, k4', bT1_some, i18, aw_315 (by omega), Option.bind_some, gi_Mo_26, Option.bind_some, c4, nI_1, pf_Mo_26, Option.bind_some, k5']
  have ff : FRn σ σ5 := (((((((((f0.n.trans f1.n).trans FRn.w6).trans f2.n).trans FRn.w6).trans f3.n).trans FRn.w6).trans f4.n).trans FRn.w6).trans (FRn.w3 (by omega))).trans f5.n
  refine ⟨σ5, hst, ff, q5, fun hok => ?_⟩
  have hok4 : okS (s4 T len a R) := ok_pos (ok_end hok)
  have hok3 : okS (s3 T len a) := ok_pos (ok_num hok4)
  have hok2 : okS (s2 T len a) := ok_pos (ok_num hok3)
  have hok1 : okS (s1 T len a) := ok_pos (ok_num hok2)
  have w1 := v1 hok1
  have w2 := v2 hok2
  have w3 := v3 hok3
  have w4 := v4 hok4
  have u3 : ∀ j, 24 ≤ j → σ5 302 j = upd (σ 302) 26 (nI (R.n + 1)) j := by
    intro j hj
    rw [f5.2 j (by omega) (by omega) (by omega)]
    show uA τ4 302 (upd (τ4 302) 26 (nI (R.n + 1))) 302 j = _
    rw [uA_s]
    by_cases e : j = 26
    · rw [e, pk_us, pk_us]
    · rw [pk_un e, pk_un e]; show uA σ4 315 _ 302 j = _; rw [uA_n (by omega), e4 j hj]
  have u6 : σ5 315 = upd (upd (upd (upd (σ 315) R.n x1) (6 + R.n) x2) (12 + R.n) x3) (18 + R.n) x4 := by
    rw [f5.1 315 (by omega)]
    show uA τ4 302 _ 315 = _
    rw [uA_n (by omega)]
    show uA σ4 315 _ 315 = _
    rw [uA_s, f4.1 315 (by omega)]
    show upd (uA σ3 315 _ 315) _ _ = _
    rw [uA_s, f3.1 315 (by omega)]
    show upd (upd (uA σ2 315 _ 315) _ _) _ _ = _
    rw [uA_s, f2.1 315 (by omega)]
    show upd (upd (upd (uA σ1 315 _ 315) _ _) _ _) _ _ = _
    rw [uA_s, f1.1 315 (by omega), f0.1 315 (by omega)]
  refine ⟨⟨?_, ?_, ?_, ?_⟩, ⟨y5, by show R.n + 1 ≤ 6; omega, y7⟩, fun s hs => ?_, fun c hc => ?_⟩
  · rw [u3 24 (by omega), pk_un (by omega)]; exact y1
  · rw [u3 25 (by omega), pk_un (by omega)]; exact y2
  · rw [u3 26 (by omega), pk_us]; rfl
  · rw [u3 27 (by omega), pk_un (by omega)]; exact y4
  · rw [u6]
    have hs' : s < R.n + 1 := hs
    show _ = nI (updN R.vo R.n _ s) ∧ _ = nI (updN R.ag R.n _ s) ∧ _ = nI (updN R.ow R.n _ s) ∧ _ = nI (updN R.ho R.n _ s)
    by_cases e : s = R.n
    · rw [e, updN_s, updN_s, updN_s, updN_s]
      refine ⟨?_, ?_, ?_, ?_⟩
      · rw [pk_un (by omega), pk_un (by omega), pk_un (by omega), pk_us]; exact w1
      · rw [pk_un (by omega), pk_un (by omega), pk_us]; exact w2
      · rw [pk_un (by omega), pk_us]; exact w3
      · rw [pk_us]; exact w4
    · rw [updN_n e, updN_n e, updN_n e, updN_n e]
      have hb := y8 s (by omega)
      refine ⟨?_, ?_, ?_, ?_⟩
      · rw [pk_un (by omega), pk_un (by omega), pk_un (by omega), pk_un (by omega)]; exact hb.1
      · rw [pk_un (by omega), pk_un (by omega), pk_un (by omega), pk_un (by omega)]; exact hb.2.1
      · rw [pk_un (by omega), pk_un (by omega), pk_un (by omega), pk_un (by omega)]; exact hb.2.2.1
      · rw [pk_un (by omega), pk_un (by omega), pk_un (by omega), pk_un (by omega)]; exact hb.2.2.2
  · rw [u6, pk_un (by omega), pk_un (by omega), pk_un (by omega), pk_un (by omega), pk_un (by omega), pk_un (by omega), pk_un (by omega), pk_un (by omega), pk_un (by omega), pk_un (by omega), pk_un (by omega), pk_un (by omega)]
    exact y9 c hc
theorem child_M {σ : Sg} (hT : TXm σ T len) (hs : RMs σ len (.ok a)) (ha : a < len) (hR : RWm σ R) (h0 : ¬ R.H = 0) (hn : R.m < 6) :
    ∃ σ', f_X13_clause_98 302 (99 : Int32) (enc sw σ ς) = some (enc sw σ' ς) ∧ FRn σ σ' ∧ RMs σ' (len + 1) (cE T len a R) ∧ (okS (cE T len a R) → RWm σ' (cR T len a R)) := by
  obtain ⟨b1, b2, b3, b4⟩ := id hs
  obtain ⟨⟨y1, y2, y3, y4⟩, ⟨y5, y6, y7⟩, y8, y9⟩ := id hR
  let σ0 : Sg := uA σ 302 (upd (σ 302) 22 (nI (a + 1)))
  have f0 : FRm σ σ0 := ⟨fun x hx => uA_n hx, fun j z1 z2 z3 => by show uA σ 302 _ 302 j = _; rw [uA_s, pk_un z2]⟩
  have q0 : RMs σ0 len (.ok (a + 1)) := hs.move (a := a + 1) (B' := len) (by omega) (by show uA σ 302 _ 302 22 = _; rw [uA_s, pk_us]) (by show uA σ 302 _ 302 23 = _; rw [uA_s, pk_un (by omega)]) (by show uA σ 302 _ 302 2 = _; rw [uA_s, pk_un (by omega)])
  have hT0 := hT.f f0
  obtain ⟨x1, σ1, k1, f1, q1, v1⟩ := num_M (sw := sw) (ς := ς) (lo := 0) (hi := 3) hT0 q0 (by omega) (by omega)
  let τ1 : Sg := uA σ1 315 (upd (σ1 315) (24 + R.m) x1)
  have hT1 : TXm τ1 T len := (hT0.f f1).n FRn.w6
  obtain ⟨x2, σ2, k2, f2, q2, v2⟩ := num_M (sw := sw) (ς := ς) (lo := 1) (hi := 20) hT1 q1.w6 (by omega) (by omega)
  let τ2 : Sg := uA σ2 315 (upd (σ2 315) (30 + R.m) x2)
  have hT2 : TXm τ2 T len := (hT1.f f2).n FRn.w6
  obtain ⟨x4, σ4, k4, f4, q4, v4⟩ := num_M (sw := sw) (ς := ς) (lo := 0) (hi := R.H - 1) hT2 q2.w6 (by omega) (by omega)
  let τ4 : Sg := uA σ4 315 (upd (σ4 315) (36 + R.m) x4)
  have hT4 : TXm τ4 T len := (hT2.f f4).n FRn.w6
  let τ5 : Sg := uA τ4 302 (upd (τ4 302) 27 (nI (R.m + 1)))
  have hT5 : TXm τ5 T len := hT4.n (FRn.w3 (by omega))
  obtain ⟨σ5, k5, f5, q5⟩ := end_M (sw := sw) (ς := ς) hT5 (q4.w6.w3 (by omega))
  have e1 : ∀ j, 24 ≤ j → σ1 302 j = σ 302 j := fun j hj => by rw [f1.2 j (by omega) (by omega) (by omega), f0.2 j (by omega) (by omega) (by omega)]
  have e2 : ∀ j, 24 ≤ j → σ2 302 j = σ 302 j := fun j hj => by rw [f2.2 j (by omega) (by omega) (by omega)]; show uA σ1 315 _ 302 j = _; rw [uA_n (by omega), e1 j hj]
  have e4 : ∀ j, 24 ≤ j → σ4 302 j = σ 302 j := fun j hj => by rw [f4.2 j (by omega) (by omega) (by omega)]; show uA σ2 315 _ 302 j = _; rw [uA_n (by omega), e2 j hj]
  have k1' : f_X13_number 302 (0 : Int32) (3 : Int32) (enc sw (uA σ 302 (upd (σ 302) 22 (nI (a + 1)))) ς) = some (x1, enc sw σ1 ς) := k1
  have k2' : f_X13_number 302 (1 : Int32) (20 : Int32) (enc sw (uA σ1 315 (upd (σ1 315) (24 + R.m) x1)) ς) = some (x2, enc sw σ2 ς) := k2
  have k4' : f_X13_number 302 (0 : Int32) (nI (R.H - 1)) (enc sw (uA σ2 315 (upd (σ2 315) (30 + R.m) x2)) ς) = some (x4, enc sw σ4 ς) := k4
  have k5' : f_X13_clause_304 302 (enc sw (uA (uA σ4 315 (upd (σ4 315) (36 + R.m) x4)) 302 (upd (uA σ4 315 (upd (σ4 315) (36 + R.m) x4) 302) 27 (nI (R.m + 1)))) ς) = some (enc sw σ5 ς) := k5
  have hst : f_X13_clause_98 302 (99 : Int32) (enc sw σ ς) = some (enc sw σ5 ς) := by
    have c0 : uA σ 302 (upd (σ 302) 22 (nI (a + 1))) 302 27 = nI R.m := by rw [uA_s, pk_un (by omega)]; exact y4
    have c1 : uA σ1 315 (upd (σ1 315) (24 + R.m) x1) 302 27 = nI R.m := by rw [uA_n (by omega), e1 27 (by omega)]; exact y4
    have c2 : uA σ2 315 (upd (σ2 315) (30 + R.m) x2) 302 27 = nI R.m := by rw [uA_n (by omega), e2 27 (by omega)]; exact y4
    have c2' : uA σ2 315 (upd (σ2 315) (30 + R.m) x2) 302 24 = nI R.H := by rw [uA_n (by omega), e2 24 (by omega)]; exact y1
    have c4 : uA σ4 315 (upd (σ4 315) (36 + R.m) x4) 302 27 = nI R.m := by rw [uA_n (by omega), e4 27 (by omega)]; exact y4
    have hH1 : nI R.H - (1 : Int32) = nI (R.H - 1) := pk_sub (b := 1) (by omega)
    have i24 : (24 : Int32) + nI R.m = nI (24 + R.m) := nI_add 24 _
    have i30 : (30 : Int32) + nI R.m = nI (30 + R.m) := nI_add 30 _
    have i36 : (36 : Int32) + nI R.m = nI (36 + R.m) := nI_add 36 _
    unfold f_X13_clause_98
    rw [gi_Mo_22, Option.bind_some, b2, nI_1, pf_Mo_22, Option.bind_some, if_neg (by decide), if_neg (by decide), gr_Mo_28, Option.bind_some, gi_Mo_27, Option.bind_some, c0, k1', bT1_some, i24, aw_315 (by omega), Option.bind_some, gr_Mo_28, Option.bind_some, gi_Mo_27, Option.bind_some, c1, k2', bT1_some, i30, aw_315 (by omega), Option.bind_some, gr_Mo_28, Option.bind_some, gi_Mo_27, Option.bind_some, gi_Mo_24, Option.bind_some, c2, c2', hH1, k4', bT1_some, i36, aw_315 (by omega), Option.bind_some, gi_Mo_27, Option.bind_some, c4, nI_1, pf_Mo_27, Option.bind_some, k5']
  have ff : FRn σ σ5 := (((((((f0.n.trans f1.n).trans FRn.w6).trans f2.n).trans FRn.w6).trans f4.n).trans FRn.w6).trans (FRn.w3 (by omega))).trans f5.n
  refine ⟨σ5, hst, ff, q5, fun hok => ?_⟩
  have hok4 : okS (c3 T len a R) := ok_pos (ok_end hok)
  have hok2 : okS (c2 T len a) := ok_pos (ok_num hok4)
  have hok1 : okS (c1 T len a) := ok_pos (ok_num hok2)
  have w1 := v1 hok1
  have w2 := v2 hok2
  have w4 := v4 hok4
  have u3 : ∀ j, 24 ≤ j → σ5 302 j = upd (σ 302) 27 (nI (R.m + 1)) j := by
    intro j hj
    rw [f5.2 j (by omega) (by omega) (by omega)]
    show uA τ4 302 (upd (τ4 302) 27 (nI (R.m + 1))) 302 j = _
    rw [uA_s]
    by_cases e : j = 27
    · rw [e, pk_us, pk_us]
    · rw [pk_un e, pk_un e]; show uA σ4 315 _ 302 j = _; rw [uA_n (by omega), e4 j hj]
  have u6 : σ5 315 = upd (upd (upd (σ 315) (24 + R.m) x1) (30 + R.m) x2) (36 + R.m) x4 := by
    rw [f5.1 315 (by omega)]
    show uA τ4 302 _ 315 = _
    rw [uA_n (by omega)]
    show uA σ4 315 _ 315 = _
    rw [uA_s, f4.1 315 (by omega)]
    show upd (uA σ2 315 _ 315) _ _ = _
    rw [uA_s, f2.1 315 (by omega)]
    show upd (upd (uA σ1 315 _ 315) _ _) _ _ = _
    rw [uA_s, f1.1 315 (by omega), f0.1 315 (by omega)]
  refine ⟨⟨?_, ?_, ?_, ?_⟩, ⟨y5, y6, by show R.m + 1 ≤ 6; omega⟩, fun s hs => ?_, fun c hc => ?_⟩
  · rw [u3 24 (by omega), pk_un (by omega)]; exact y1
  · rw [u3 25 (by omega), pk_un (by omega)]; exact y2
  · rw [u3 26 (by omega), pk_un (by omega)]; exact y3
  · rw [u3 27 (by omega), pk_us]; rfl
  · have hs' : s < R.n := hs
    rw [u6, pk_un (by omega), pk_un (by omega), pk_un (by omega), pk_un (by omega), pk_un (by omega), pk_un (by omega), pk_un (by omega), pk_un (by omega), pk_un (by omega), pk_un (by omega), pk_un (by omega), pk_un (by omega)]
    exact y8 s hs
  · rw [u6]
    have hc' : c < R.m + 1 := hc
    show _ = nI (updN R.ki R.m _ c) ∧ _ = nI (updN R.pa R.m _ c) ∧ _ = nI (updN R.be R.m _ c)
    by_cases e : c = R.m
    · rw [e, updN_s, updN_s, updN_s]
      refine ⟨?_, ?_, ?_⟩
      · rw [pk_un (by omega), pk_un (by omega), pk_us]; exact w1
      · rw [pk_un (by omega), pk_us]; exact w2
      · rw [pk_us]; exact w4
    · rw [updN_n e, updN_n e, updN_n e]
      have hb := y9 c (by omega)
      refine ⟨?_, ?_, ?_⟩
      · rw [pk_un (by omega), pk_un (by omega), pk_un (by omega)]; exact hb.1
      · rw [pk_un (by omega), pk_un (by omega), pk_un (by omega)]; exact hb.2.1
      · rw [pk_un (by omega), pk_un (by omega), pk_un (by omega)]; exact hb.2.2
end CM1
