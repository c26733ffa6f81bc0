/-! a row that is told -/
abbrev RW : Type := (Nat × Nat × Nat × Nat) × ((Nat → Nat) × (Nat → Nat) × (Nat → Nat) × (Nat → Nat)) × ((Nat → Nat) × (Nat → Nat) × (Nat → Nat))
def mkRW (H D n m : Nat) (vo ag ow ho ki pa be : Nat → Nat) : RW := ((H, D, n, m), (vo, ag, ow, ho), (ki, pa, be))
def RW.H (R : RW) : Nat := R.1.1
def RW.D (R : RW) : Nat := R.1.2.1
def RW.n (R : RW) : Nat := R.1.2.2.1
def RW.m (R : RW) : Nat := R.1.2.2.2
def RW.vo (R : RW) : Nat → Nat := R.2.1.1
def RW.ag (R : RW) : Nat → Nat := R.2.1.2.1
def RW.ow (R : RW) : Nat → Nat := R.2.1.2.2.1
def RW.ho (R : RW) : Nat → Nat := R.2.1.2.2.2
def RW.ki (R : RW) : Nat → Nat := R.2.2.1
def RW.pa (R : RW) : Nat → Nat := R.2.2.2.1
def RW.be (R : RW) : Nat → Nat := R.2.2.2.2
def updN (f : Nat → Nat) (k v : Nat) : Nat → Nat := fun j => if j = k then v else f j
theorem updN_s (f : Nat → Nat) (k v : Nat) : updN f k v k = v := by simp [updN]
theorem updN_n {f : Nat → Nat} {k v j : Nat} (h : j ≠ k) : updN f k v j = f j := by simp [updN, h]
section CLS
variable (T : Nat → Nat) (len a : Nat) (R : RW)
def r1 : Except Flt (Nat × Nat) := numS T len 1 20 (.ok (a + 1))
def r2 : Except Flt (Nat × Nat) := numS T len 1 30 (posS (r1 T len a))
def rE : St := endS T len (posS (r2 T len a))
def s1 : Except Flt (Nat × Nat) := numS T len 0 3 (.ok (a + 1))
def s2 : Except Flt (Nat × Nat) := numS T len 1 60 (posS (s1 T len a))
def s3 : Except Flt (Nat × Nat) := numS T len 0 99 (posS (s2 T len a))
def s4 : Except Flt (Nat × Nat) := numS T len 0 (R.H - 1) (posS (s3 T len a))
def sE : St := endS T len (posS (s4 T len a R))
def c1 : Except Flt (Nat × Nat) := numS T len 0 3 (.ok (a + 1))
def c2 : Except Flt (Nat × Nat) := numS T len 1 20 (posS (c1 T len a))
def c3 : Except Flt (Nat × Nat) := numS T len 0 (R.H - 1) (posS (c2 T len a))
def cE : St := endS T len (posS (c3 T len a R))
def rR : RW := mkRW (valS (r1 T len a)) (valS (r2 T len a)) R.n R.m R.vo R.ag R.ow R.ho R.ki R.pa R.be
def sR : RW := mkRW R.H R.D (R.n + 1) R.m (updN R.vo R.n (valS (s1 T len a))) (updN R.ag R.n (valS (s2 T len a))) (updN R.ow R.n (valS (s3 T len a))) (updN R.ho R.n (valS (s4 T len a R))) R.ki R.pa R.be
def cR : RW := mkRW R.H R.D R.n (R.m + 1) R.vo R.ag R.ow R.ho (updN R.ki R.m (valS (c1 T len a))) (updN R.pa R.m (valS (c2 T len a))) (updN R.be R.m (valS (c3 T len a R)))
/-- a clause: where reading goes on -/
def clsP : St :=
  if T a = 114 then (if R.H = 0 then rE T len a else .error (3, a))
  else if T a = 115 ∧ ¬ R.H = 0 then (if R.n = 6 then .error (3, a) else sE T len a R)
  else if T a = 99 ∧ ¬ R.H = 0 then (if R.m = 6 then .error (3, a) else cE T len a R)
  else .error (1, a)
/-- and the row with it -/
def clsR : RW := if T a = 114 then rR T len a R else if T a = 115 then sR T len a R else cR T len a R
end CLS
def RWc (σ : Sg) (rb : Nat) (R : RW) : Prop := (σ rb 7 = nI R.H ∧ σ rb 8 = nI R.D ∧ σ rb 9 = nI R.n ∧ σ rb 10 = nI R.m) ∧ (R.H ≤ 20 ∧ R.n ≤ 6 ∧ R.m ≤ 6) ∧
  (∀ s, s < R.n → σ (rb + 1) s = nI (R.vo s) ∧ σ (rb + 2) s = nI (R.ag s) ∧ σ (rb + 3) s = nI (R.ow s) ∧ σ (rb + 4) s = nI (R.ho s)) ∧
  ∀ c, c < R.m → σ (rb + 5) c = nI (R.ki c) ∧ σ (rb + 6) c = nI (R.pa c) ∧ σ (rb + 7) c = nI (R.be c)
theorem RWc.c {σ σ' : Sg} {rb : Nat} {R : RW} (h : RWc σ rb R) (e : ∀ j, j < 8 → σ' (rb + j) = σ (rb + j)) : RWc σ' rb R := by
  unfold RWc at h ⊢
  rw [show σ' rb = σ rb from e 0 (by omega), e 1 (by omega), e 2 (by omega), e 3 (by omega), e 4 (by omega), e 5 (by omega), e 6 (by omega), e 7 (by omega)]
  exact h
/-- off the reader and the spare row nothing changes -/
def FRr (rb : Nat) (σ σ' : Sg) : Prop := (∀ a, a ≠ 1 → (a < rb ∨ rb + 8 ≤ a) → σ' a = σ a) ∧ σ' 1 1 = σ 1 1
theorem FRr.refl (rb : Nat) (σ : Sg) : FRr rb σ σ := ⟨fun _ _ _ => rfl, rfl⟩
theorem FRr.trans {rb : Nat} {σ1 σ2 σ3 : Sg} (h : FRr rb σ1 σ2) (h' : FRr rb σ2 σ3) : FRr rb σ1 σ3 := ⟨fun a z1 z2 => (h'.1 a z1 z2).trans (h.1 a z1 z2), h'.2.trans h.2⟩
theorem FRc.r {rb : Nat} {σ σ' : Sg} (h : FRc σ σ') : FRr rb σ σ' := ⟨fun a z1 _ => h.1 a z1, h.2⟩
theorem FRr.w {rb x : Nat} {σ : Sg} {f : Nat → Int32} (h1 : rb ≤ x) (h2 : x < rb + 8) (h3 : x ≠ 1) : FRr rb σ (uA σ x f) := ⟨fun a z1 z2 => uA_n (by omega), by rw [uA_n (by omega)]⟩
section CC1
variable {sw : Bool} {ς : Lg} {T : Nat → Nat} {len a : Nat} {R : RW}
theorem house_C {σ : Sg} (hT : TXc σ T len) (hs : RCs σ len (.ok a)) (ha : a < len) (hR : RWc σ (rB sw) R) (h0 : R.H = 0) :
    ∃ σ', f_X8_readHouses 1 (rB sw) (1 : Int32) (enc sw σ ς) = some (enc sw σ' ς) ∧ FRr (rB sw) σ σ' ∧ RCs σ' len (rE T len a) ∧ (okS (rE T len a) → RWc σ' (rB sw) (rR T len a R)) := by
  have hrb := rB_or sw
  obtain ⟨b1, b2, b3, b4⟩ := id hs
  let σ0 : Sg := uA σ 1 (upd (σ 1) 4 (nI (a + 1)))
  have f0 : FRc σ σ0 := ⟨fun x hx => uA_n hx, by show uA σ 1 _ 1 1 = _; rw [uA_s, pk_un (by omega)]⟩
  have q0 : RCs σ0 len (.ok (a + 1)) := hs.move (a := a + 1) (by omega) (by show uA σ 1 _ 1 4 = _; rw [uA_s, pk_us]) (by show uA σ 1 _ 1 3 = _; rw [uA_s, pk_un (by omega)]) (by show uA σ 1 _ 1 2 = _; rw [uA_s, pk_un (by omega)])
  obtain ⟨x1, σ1, k1, f1, q1, v1⟩ := num_C (sw := sw) (ς := ς) (lo := 1) (hi := 20) (hT.f f0) q0 (by omega) (by omega)
  obtain ⟨x2, σ2, k2, f2, q2, v2⟩ := num_C (sw := sw) (ς := ς) (lo := 1) (hi := 30) ((hT.f f0).f f1) q1 (by omega) (by omega)
  obtain ⟨σ3, k3, f3, q3⟩ := end_C (sw := sw) (ς := ς) (((hT.f f0).f f1).f f2) q2
  have k1' : f_X8_readNumber 1 (1 : Int32) (20 : Int32) (enc sw (uA σ 1 (upd (σ 1) 4 (nI (a + 1)))) ς) = some (x1, enc sw σ1 ς) := k1
  have k2' : f_X8_readNumber 1 (1 : Int32) (30 : Int32) (enc sw σ1 ς) = some (x2, enc sw σ2 ς) := k2
  have ff : FRc σ σ3 := ((f0.trans f1).trans f2).trans f3
  have hhead : ∀ r, (if σ3 1 3 = 0 then some (enc sw (uA (uA σ3 (rB sw) (upd (σ3 (rB sw)) 7 x1)) (rB sw) (upd (uA σ3 (rB sw) (upd (σ3 (rB sw)) 7 x1) (rB sw)) 8 x2)) ς) else some (enc sw σ3 ς)) = r → f_X8_readHouses 1 (rB sw) (1 : Int32) (enc sw σ ς) = r := by
    intro r hr
    unfold f_X8_readHouses
    rw [if_pos io_Rd, if_neg (by decide), gi_Rd_4, Option.bind_some, b2, nI_1, pf_Rd_4, Option.bind_some, k1', bT1_some, k2', bT1_some, k3, Option.bind_some, gi_Rd_3, Option.bind_some, pf_Rb_7, Option.bind_some, pf_Rb_8, Option.bind_some]
    exact hr
  have q3' : RCs σ3 len (rE T len a) := q3
  generalize hE : rE T len a = E at *
  cases E with
  | ok e =>
    have hok2 : okS (r2 T len a) := ok_pos (ok_end (T := T) (len := len) (by show okS (rE T len a); rw [hE]; trivial))
    have hok1 : okS (r1 T len a) := ok_pos (ok_num hok2)
    have w1 := v1 hok1
    have w2 := v2 hok2
    have bb := num_b hok1
    refine ⟨_, hhead _ (if_pos q3'.2.2.1), ff.r.trans ((FRr.w (by omega) (by omega) (by omega)).trans (FRr.w (by omega) (by omega) (by omega))), q3'.c (by rw [uA_n (by omega), uA_n (by omega)]), fun _ => ?_⟩
    obtain ⟨⟨y1, y2, y3, y4⟩, ⟨y5, y6, y7⟩, y8, y9⟩ := hR
    have o3 : ∀ x, x ≠ 1 → σ3 x = σ x := ff.1
    refine ⟨⟨?_, ?_, ?_, ?_⟩, ⟨bb.2, y6, y7⟩, fun s hs => ?_, fun c hc => ?_⟩
    · rw [uA_s, pk_un (by omega), uA_s, pk_us]; exact w1
    · rw [uA_s, pk_us]; exact w2
    · rw [uA_s, pk_un (by omega), uA_s, pk_un (by omega), o3 _ (by omega)]; exact y3
    · rw [uA_s, pk_un (by omega), uA_s, pk_un (by omega), o3 _ (by omega)]; exact y4
    · rw [uA_n (by omega), uA_n (by omega), uA_n (by omega), uA_n (by omega), uA_n (by omega), uA_n (by omega), uA_n (by omega), uA_n (by omega), o3 _ (by omega), o3 _ (by omega), o3 _ (by omega), o3 _ (by omega)]; exact y8 s hs
    · rw [uA_n (by omega), uA_n (by omega), uA_n (by omega), uA_n (by omega), uA_n (by omega), uA_n (by omega), o3 _ (by omega), o3 _ (by omega), o3 _ (by omega)]; exact y9 c hc
  | error e =>
    exact ⟨σ3, hhead _ (if_neg (by rw [q3'.2.2.1]; exact nI_ne0 (by have := q3'.2.1; omega) (by have := q3'.2.1; omega))), ff.r, q3', fun z => absurd z (fun z => z)⟩
theorem singer_C {σ : Sg} (hT : TXc σ T len) (hs : RCs σ len (.ok a)) (ha : a < len) (hR : RWc σ (rB sw) R) (h0 : ¬ R.H = 0) (hn : R.n < 6) :
    ∃ σ', f_X8_readSinger 1 (rB sw) (enc sw σ ς) = some (enc sw σ' ς) ∧ FRr (rB sw) σ σ' ∧ RCs σ' len (sE T len a R) ∧ (okS (sE T len a R) → RWc σ' (rB sw) (sR T len a R)) := by
  have hrb := rB_or sw
  obtain ⟨b1, b2, b3, b4⟩ := id hs
  obtain ⟨⟨y1, y2, y3, y4⟩, ⟨y5, y6, y7⟩, y8, y9⟩ := id hR
  let σ0 : Sg := uA σ 1 (upd (σ 1) 4 (nI (a + 1)))
  have f0 : FRc σ σ0 := ⟨fun x hx => uA_n hx, by show uA σ 1 _ 1 1 = _; rw [uA_s, pk_un (by omega)]⟩
  have q0 : RCs σ0 len (.ok (a + 1)) := hs.move (a := a + 1) (by omega) (by show uA σ 1 _ 1 4 = _; rw [uA_s, pk_us]) (by show uA σ 1 _ 1 3 = _; rw [uA_s, pk_un (by omega)]) (by show uA σ 1 _ 1 2 = _; rw [uA_s, pk_un (by omega)])
  have hT0 := hT.f f0
  obtain ⟨x1, σ1, k1, f1, q1, v1⟩ := num_C (sw := sw) (ς := ς) (lo := 0) (hi := 3) hT0 q0 (by omega) (by omega)
  let τ1 : Sg := uA σ1 (rB sw + 1) (upd (σ1 (rB sw + 1)) R.n x1)
  have g1 : ∀ x, x ≠ rB sw + 1 → τ1 x = σ1 x := fun x hx => uA_n hx
  have hT1 : TXc τ1 T len := (hT0.f f1).c (by rw [g1 1 (by omega)]) (g1 2 (by omega))
  obtain ⟨x2, σ2, k2, f2, q2, v2⟩ := num_C (sw := sw) (ς := ς) (lo := 1) (hi := 60) hT1 (q1.c (g1 1 (by omega))) (by omega) (by omega)
  let τ2 : Sg := uA σ2 (rB sw + 2) (upd (σ2 (rB sw + 2)) R.n x2)
  have g2 : ∀ x, x ≠ rB sw + 2 → τ2 x = σ2 x := fun x hx => uA_n hx
  have hT2 : TXc τ2 T len := (hT1.f f2).c (by rw [g2 1 (by omega)]) (g2 2 (by omega))
  obtain ⟨x3, σ3, k3, f3, q3, v3⟩ := num_C (sw := sw) (ς := ς) (lo := 0) (hi := 99) hT2 (q2.c (g2 1 (by omega))) (by omega) (by omega)
  let τ3 : Sg := uA σ3 (rB sw + 3) (upd (σ3 (rB sw + 3)) R.n x3)
  have g3 : ∀ x, x ≠ rB sw + 3 → τ3 x = σ3 x := fun x hx => uA_n hx
  have hT3 : TXc τ3 T len := (hT2.f f3).c (by rw [g3 1 (by omega)]) (g3 2 (by omega))
  obtain ⟨x4, σ4, k4, f4, q4, v4⟩ := num_C (sw := sw) (ς := ς) (lo := 0) (hi := R.H - 1) hT3 (q3.c (g3 1 (by omega))) (by omega) (by omega)
  let τ4 : Sg := uA σ4 (rB sw + 4) (upd (σ4 (rB sw + 4)) R.n x4)
  have g4 : ∀ x, x ≠ rB sw + 4 → τ4 x = σ4 x := fun x hx => uA_n hx
  have hT4 : TXc τ4 T len := (hT3.f f4).c (by rw [g4 1 (by omega)]) (g4 2 (by omega))
  obtain ⟨σ5, k5, f5, q5⟩ := end_C (sw := sw) (ς := ς) hT4 (q4.c (g4 1 (by omega)))
  let τ5 : Sg := uA σ5 (rB sw) (upd (σ5 (rB sw)) 9 (nI (R.n + 1)))
  have k1' : f_X8_readNumber 1 (0 : Int32) (3 : Int32) (enc sw (uA σ 1 (upd (σ 1) 4 (nI (a + 1)))) ς) = some (x1, enc sw σ1 ς) := k1
  have k2' : f_X8_readNumber 1 (1 : Int32) (60 : Int32) (enc sw (uA σ1 (rB sw + 1) (upd (σ1 (rB sw + 1)) R.n x1)) ς) = some (x2, enc sw σ2 ς) := k2
  have k3' : f_X8_readNumber 1 (0 : Int32) (99 : Int32) (enc sw (uA σ2 (rB sw + 2) (upd (σ2 (rB sw + 2)) R.n x2)) ς) = some (x3, enc sw σ3 ς) := k3
  have k4' : f_X8_readNumber 1 (0 : Int32) (nI (R.H - 1)) (enc sw (uA σ3 (rB sw + 3) (upd (σ3 (rB sw + 3)) R.n x3)) ς) = some (x4, enc sw σ4 ς) := k4
  have k5' : f_X8_readEnd 1 (enc sw (uA σ4 (rB sw + 4) (upd (σ4 (rB sw + 4)) R.n x4)) ς) = some (enc sw σ5 ς) := k5
  -- cells of the row, on the way
  have e1 : ∀ x, x ≠ 1 → σ1 x = σ x := fun x hx => by rw [f1.1 x hx, f0.1 x hx]
  have e2 : ∀ x, x ≠ 1 → x ≠ rB sw + 1 → σ2 x = σ x := fun x h1 h2 => by rw [f2.1 x h1, g1 x h2, e1 x h1]
  have e3 : ∀ x, x ≠ 1 → x ≠ rB sw + 1 → x ≠ rB sw + 2 → σ3 x = σ x := fun x h1 h2 h3 => by rw [f3.1 x h1, g2 x h3, e2 x h1 h2]
  have e4 : ∀ x, x ≠ 1 → x ≠ rB sw + 1 → x ≠ rB sw + 2 → x ≠ rB sw + 3 → σ4 x = σ x := fun x h1 h2 h3 h4 => by rw [f4.1 x h1, g3 x h4, e3 x h1 h2 h3]
  have e5 : ∀ x, x ≠ 1 → x ≠ rB sw + 1 → x ≠ rB sw + 2 → x ≠ rB sw + 3 → x ≠ rB sw + 4 → σ5 x = σ x := fun x h1 h2 h3 h4 h5 => by rw [f5.1 x h1, g4 x h5, e4 x h1 h2 h3 h4]
  have hfr : FRr (rB sw) σ τ5 := by
    refine ⟨fun x z1 z2 => ?_, ?_⟩
    · show uA σ5 (rB sw) _ x = _; rw [uA_n (by omega), e5 x z1 (by omega) (by omega) (by omega) (by omega)]
    · show uA σ5 (rB sw) _ 1 1 = _; rw [uA_n (by omega), f5.2, g4 1 (by omega), f4.2, g3 1 (by omega), f3.2, g2 1 (by omega), f2.2, g1 1 (by omega), f1.2, f0.2]
  have hst : f_X8_readSinger 1 (rB sw) (enc sw σ ς) = some (enc sw τ5 ς) := by
    have c7 : uA σ3 (rB sw + 3) (upd (σ3 (rB sw + 3)) R.n x3) (rB sw) 7 = nI R.H := by rw [uA_n (by omega), e3 _ (by omega) (by omega) (by omega)]; exact y1
    have c9 : σ5 (rB sw) 9 = nI R.n := by rw [e5 _ (by omega) (by omega) (by omega) (by omega) (by omega)]; exact y3
    have hH1 : nI R.H - (1 : Int32) = nI (R.H - 1) := pk_sub (b := 1) (by omega)
    unfold f_X8_readSinger
    rw [if_pos io_Rd, gi_Rb_9, Option.bind_some, y3, if_pos (show nI R.n < (6 : Int32) from nI_lt (b := 6) hn (by omega)), gi_Rd_4, Option.bind_some, b2, nI_1, pf_Rd_4, Option.bind_some, gr_Rb_0, Option.bind_some, k1', bT1_some, aw_Rb_0 hn, Option.bind_some, gr_Rb_1, Option.bind_some, k2', bT1_some, aw_Rb_1 hn, Option.bind_some, gr_Rb_2, Option.bind_some, k3', bT1_some, aw_Rb_2 hn, Option.bind_some, gr_Rb_3, Option.bind_some, gi_Rb_7, Option.bind_some, c7, hH1, k4', bT1_some, aw_Rb_3 hn, Option.bind_some, k5', Option.bind_some, gi_Rb_9, Option.bind_some, c9, nI_1, pf_Rb_9, Option.bind_some]
  refine ⟨τ5, hst, hfr, q5.c (by show uA σ5 (rB sw) _ 1 = _; rw [uA_n (by omega)]), fun hok => ?_⟩
  have hok4 : okS (s4 T len a R) := ok_pos (ok_end hok)
  have hok3 : okS (s3 T len a) := ok_pos (ok_num hok4)
  have hok2 : okS (s2 T len a) := ok_pos (ok_num hok3)
  have hok1 : okS (s1 T len a) := ok_pos (ok_num hok2)
  have w1 := v1 hok1
  have w2 := v2 hok2
  have w3 := v3 hok3
  have w4 := v4 hok4
  have u0 : τ5 (rB sw) = upd (σ (rB sw)) 9 (nI (R.n + 1)) := by show uA σ5 (rB sw) _ (rB sw) = _; rw [uA_s, e5 _ (by omega) (by omega) (by omega) (by omega) (by omega)]
  have u1 : τ5 (rB sw + 1) = upd (σ (rB sw + 1)) R.n x1 := by show uA σ5 (rB sw) _ _ = _; rw [uA_n (by omega), f5.1 _ (by omega), g4 _ (by omega), f4.1 _ (by omega), g3 _ (by omega), f3.1 _ (by omega), g2 _ (by omega), f2.1 _ (by omega)]; show uA σ1 _ _ _ = _; rw [uA_s, e1 _ (by omega)]
  have u2 : τ5 (rB sw + 2) = upd (σ (rB sw + 2)) R.n x2 := by show uA σ5 (rB sw) _ _ = _; rw [uA_n (by omega), f5.1 _ (by omega), g4 _ (by omega), f4.1 _ (by omega), g3 _ (by omega), f3.1 _ (by omega)]; show uA σ2 _ _ _ = _; rw [uA_s, e2 _ (by omega) (by omega)]
  have u3 : τ5 (rB sw + 3) = upd (σ (rB sw + 3)) R.n x3 := by show uA σ5 (rB sw) _ _ = _; rw [uA_n (by omega), f5.1 _ (by omega), g4 _ (by omega), f4.1 _ (by omega)]; show uA σ3 _ _ _ = _; rw [uA_s, e3 _ (by omega) (by omega) (by omega)]
  have u4 : τ5 (rB sw + 4) = upd (σ (rB sw + 4)) R.n x4 := by show uA σ5 (rB sw) _ _ = _; rw [uA_n (by omega), f5.1 _ (by omega)]; show uA σ4 _ _ _ = _; rw [uA_s, e4 _ (by omega) (by omega) (by omega) (by omega)]
  have u5 : ∀ x, 5 ≤ x → x < 8 → τ5 (rB sw + x) = σ (rB sw + x) := fun x z1 z2 => by show uA σ5 (rB sw) _ _ = _; rw [uA_n (by omega), e5 _ (by omega) (by omega) (by omega) (by omega) (by omega)]
  refine ⟨⟨?_, ?_, ?_, ?_⟩, ⟨y5, by show R.n + 1 ≤ 6; omega, y7⟩, fun s hs => ?_, fun c hc => ?_⟩
  · rw [u0, pk_un (by omega)]; exact y1
  · rw [u0, pk_un (by omega)]; exact y2
  · rw [u0, pk_us]; rfl
  · rw [u0, pk_un (by omega)]; exact y4
  · rw [u1, u2, u3, u4]
    show _ = nI (updN R.vo R.n _ s) ∧ _ = nI (updN R.ag R.n _ s) ∧ _ = nI (updN R.ow R.n _ s) ∧ _ = nI (updN R.ho R.n _ s)
    by_cases e : s = R.n
    · rw [e, pk_us, pk_us, pk_us, pk_us, updN_s, updN_s, updN_s, updN_s]; exact ⟨w1, w2, w3, w4⟩
    · rw [pk_un e, pk_un e, pk_un e, pk_un e, updN_n e, updN_n e, updN_n e, updN_n e]
      have hs' : s < R.n + 1 := hs
      exact y8 s (by omega)
  · rw [u5 5 (by omega) (by omega), u5 6 (by omega) (by omega), u5 7 (by omega) (by omega)]; exact y9 c hc
theorem child_C {σ : Sg} (hT : TXc σ T len) (hs : RCs σ len (.ok a)) (ha : a < len) (hR : RWc σ (rB sw) R) (h0 : ¬ R.H = 0) (hn : R.m < 6) :
    ∃ σ', f_X8_readChild 1 (rB sw) (enc sw σ ς) = some (enc sw σ' ς) ∧ FRr (rB sw) σ σ' ∧ RCs σ' len (cE T len a R) ∧ (okS (cE T len a R) → RWc σ' (rB sw) (cR T len a R)) := by
  have hrb := rB_or sw
  obtain ⟨b1, b2, b3, b4⟩ := id hs
  obtain ⟨⟨y1, y2, y3, y4⟩, ⟨y5, y6, y7⟩, y8, y9⟩ := id hR
  let σ0 : Sg := uA σ 1 (upd (σ 1) 4 (nI (a + 1)))
  have f0 : FRc σ σ0 := ⟨fun x hx => uA_n hx, by show uA σ 1 _ 1 1 = _; rw [uA_s, pk_un (by omega)]⟩
  have q0 : RCs σ0 len (.ok (a + 1)) := hs.move (a := a + 1) (by omega) (by show uA σ 1 _ 1 4 = _; rw [uA_s, pk_us]) (by show uA σ 1 _ 1 3 = _; rw [uA_s, pk_un (by omega)]) (by show uA σ 1 _ 1 2 = _; rw [uA_s, pk_un (by omega)])
  have hT0 := hT.f f0
  obtain ⟨x1, σ1, k1, f1, q1, v1⟩ := num_C (sw := sw) (ς := ς) (lo := 0) (hi := 3) hT0 q0 (by omega) (by omega)
  let τ1 : Sg := uA σ1 (rB sw + 5) (upd (σ1 (rB sw + 5)) R.m x1)
  have g1 : ∀ x, x ≠ rB sw + 5 → τ1 x = σ1 x := fun x hx => uA_n hx
  have hT1 : TXc τ1 T len := (hT0.f f1).c (by rw [g1 1 (by omega)]) (g1 2 (by omega))
  obtain ⟨x2, σ2, k2, f2, q2, v2⟩ := num_C (sw := sw) (ς := ς) (lo := 1) (hi := 20) hT1 (q1.c (g1 1 (by omega))) (by omega) (by omega)
  let τ2 : Sg := uA σ2 (rB sw + 6) (upd (σ2 (rB sw + 6)) R.m x2)
  have g2 : ∀ x, x ≠ rB sw + 6 → τ2 x = σ2 x := fun x hx => uA_n hx
  have hT2 : TXc τ2 T len := (hT1.f f2).c (by rw [g2 1 (by omega)]) (g2 2 (by omega))
  obtain ⟨x4, σ4, k4, f4, q4, v4⟩ := num_C (sw := sw) (ς := ς) (lo := 0) (hi := R.H - 1) hT2 (q2.c (g2 1 (by omega))) (by omega) (by omega)
  let τ4 : Sg := uA σ4 (rB sw + 7) (upd (σ4 (rB sw + 7)) R.m x4)
  have g4 : ∀ x, x ≠ rB sw + 7 → τ4 x = σ4 x := fun x hx => uA_n hx
  have hT4 : TXc τ4 T len := (hT2.f f4).c (by rw [g4 1 (by omega)]) (g4 2 (by omega))
  obtain ⟨σ5, k5, f5, q5⟩ := end_C (sw := sw) (ς := ς) hT4 (q4.c (g4 1 (by omega)))
  let τ5 : Sg := uA σ5 (rB sw) (upd (σ5 (rB sw)) 10 (nI (R.m + 1)))
  have k1' : f_X8_readNumber 1 (0 : Int32) (3 : Int32) (enc sw (uA σ 1 (upd (σ 1) 4 (nI (a + 1)))) ς) = some (x1, enc sw σ1 ς) := k1
  have k2' : f_X8_readNumber 1 (1 : Int32) (20 : Int32) (enc sw (uA σ1 (rB sw + 5) (upd (σ1 (rB sw + 5)) R.m x1)) ς) = some (x2, enc sw σ2 ς) := k2
  have k4' : f_X8_readNumber 1 (0 : Int32) (nI (R.H - 1)) (enc sw (uA σ2 (rB sw + 6) (upd (σ2 (rB sw + 6)) R.m x2)) ς) = some (x4, enc sw σ4 ς) := k4
  have k5' : f_X8_readEnd 1 (enc sw (uA σ4 (rB sw + 7) (upd (σ4 (rB sw + 7)) R.m x4)) ς) = some (enc sw σ5 ς) := k5
  have e1 : ∀ x, x ≠ 1 → σ1 x = σ x := fun x hx => by rw [f1.1 x hx, f0.1 x hx]
  have e2 : ∀ x, x ≠ 1 → x ≠ rB sw + 5 → σ2 x = σ x := fun x h1 h2 => by rw [f2.1 x h1, g1 x h2, e1 x h1]
  have e4 : ∀ x, x ≠ 1 → x ≠ rB sw + 5 → x ≠ rB sw + 6 → σ4 x = σ x := fun x h1 h2 h3 => by rw [f4.1 x h1, g2 x h3, e2 x h1 h2]
  have e5 : ∀ x, x ≠ 1 → x ≠ rB sw + 5 → x ≠ rB sw + 6 → x ≠ rB sw + 7 → σ5 x = σ x := fun x h1 h2 h3 h4 => by rw [f5.1 x h1, g4 x h4, e4 x h1 h2 h3]
  have hfr : FRr (rB sw) σ τ5 := by
    refine ⟨fun x z1 z2 => ?_, ?_⟩
    · show uA σ5 (rB sw) _ x = _; rw [uA_n (by omega), e5 x z1 (by omega) (by omega) (by omega)]
    · show uA σ5 (rB sw) _ 1 1 = _; rw [uA_n (by omega), f5.2, g4 1 (by omega), f4.2, g2 1 (by omega), f2.2, g1 1 (by omega), f1.2, f0.2]
  have hst : f_X8_readChild 1 (rB sw) (enc sw σ ς) = some (enc sw τ5 ς) := by
    have c7 : uA σ2 (rB sw + 6) (upd (σ2 (rB sw + 6)) R.m x2) (rB sw) 7 = nI R.H := by rw [uA_n (by omega), e2 _ (by omega) (by omega)]; exact y1
    have c10 : σ5 (rB sw) 10 = nI R.m := by rw [e5 _ (by omega) (by omega) (by omega) (by omega)]; exact y4
    have hH1 : nI R.H - (1 : Int32) = nI (R.H - 1) := pk_sub (b := 1) (by omega)
    unfold f_X8_readChild
    rw [if_pos io_Rd, gi_Rb_10, Option.bind_some, y4, if_pos (show nI R.m < (6 : Int32) from nI_lt (b := 6) hn (by omega)), gi_Rd_4, Option.bind_some, b2, nI_1, pf_Rd_4, Option.bind_some, gr_Rb_4, Option.bind_some, k1', bT1_some, aw_Rb_4 hn, Option.bind_some, gr_Rb_5, Option.bind_some, k2', bT1_some, aw_Rb_5 hn, Option.bind_some, gr_Rb_6, Option.bind_some, gi_Rb_7, Option.bind_some, c7, hH1, k4', bT1_some, aw_Rb_6 hn, Option.bind_some, k5', Option.bind_some, gi_Rb_10, Option.bind_some, c10, nI_1, pf_Rb_10, Option.bind_some]
  refine ⟨τ5, hst, hfr, q5.c (by show uA σ5 (rB sw) _ 1 = _; rw [uA_n (by omega)]), fun hok => ?_⟩
  have hok4 : okS (c3 T len a R) := ok_pos (ok_end hok)
  have hok2 : okS (c2 T len a) := ok_pos (ok_num hok4)
  have hok1 : okS (c1 T len a) := ok_pos (ok_num hok2)
  have w1 := v1 hok1
  have w2 := v2 hok2
  have w4 := v4 hok4
  have u0 : τ5 (rB sw) = upd (σ (rB sw)) 10 (nI (R.m + 1)) := by show uA σ5 (rB sw) _ (rB sw) = _; rw [uA_s, e5 _ (by omega) (by omega) (by omega) (by omega)]
  have u1 : τ5 (rB sw + 5) = upd (σ (rB sw + 5)) R.m x1 := by show uA σ5 (rB sw) _ _ = _; rw [uA_n (by omega), f5.1 _ (by omega), g4 _ (by omega), f4.1 _ (by omega), g2 _ (by omega), f2.1 _ (by omega)]; show uA σ1 _ _ _ = _; rw [uA_s, e1 _ (by omega)]
  have u2 : τ5 (rB sw + 6) = upd (σ (rB sw + 6)) R.m x2 := by show uA σ5 (rB sw) _ _ = _; rw [uA_n (by omega), f5.1 _ (by omega), g4 _ (by omega), f4.1 _ (by omega)]; show uA σ2 _ _ _ = _; rw [uA_s, e2 _ (by omega) (by omega)]
  have u4 : τ5 (rB sw + 7) = upd (σ (rB sw + 7)) R.m x4 := by show uA σ5 (rB sw) _ _ = _; rw [uA_n (by omega), f5.1 _ (by omega)]; show uA σ4 _ _ _ = _; rw [uA_s, e4 _ (by omega) (by omega) (by omega)]
  have u5 : ∀ x, 1 ≤ x → x < 5 → τ5 (rB sw + x) = σ (rB sw + x) := fun x z1 z2 => by show uA σ5 (rB sw) _ _ = _; rw [uA_n (by omega), e5 _ (by omega) (by omega) (by omega) (by omega)]
  refine ⟨⟨?_, ?_, ?_, ?_⟩, ⟨y5, y6, by show R.m + 1 ≤ 6; omega⟩, fun s hs => ?_, fun c hc => ?_⟩
  · rw [u0, pk_un (by omega)]; exact y1
  · rw [u0, pk_un (by omega)]; exact y2
  · rw [u0, pk_un (by omega)]; exact y3
  · rw [u0, pk_us]; rfl
  · rw [u5 1 (by omega) (by omega), u5 2 (by omega) (by omega), u5 3 (by omega) (by omega), u5 4 (by omega) (by omega)]; exact y8 s hs
  · rw [u1, u2, u4]
    show _ = nI (updN R.ki R.m _ c) ∧ _ = nI (updN R.pa R.m _ c) ∧ _ = nI (updN R.be R.m _ c)
    by_cases e : c = R.m
    · rw [e, pk_us, pk_us, pk_us, updN_s, updN_s, updN_s]; exact ⟨w1, w2, w4⟩
    · rw [pk_un e, pk_un e, pk_un e, updN_n e, updN_n e, updN_n e]
      have hc' : c < R.m + 1 := hc
      exact y9 c (by omega)
end CC1
