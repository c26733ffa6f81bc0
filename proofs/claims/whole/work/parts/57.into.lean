def prs (T : Nat → Nat) (len : Nat) : Nat → Nat → RW → Except Flt RW
  | 0, _, R => .ok R
  | f + 1, a, R => if len ≤ a then .ok R else (match clsP T len a R with
    | .ok a' => prs T len f (skp T len a') (clsR T len a R)
    | .error e => .error e)
def R0 : RW := mkRW 0 0 0 0 (fun _ => 0) (fun _ => 0) (fun _ => 0) (fun _ => 0) (fun _ => 0) (fun _ => 0) (fun _ => 0)
/-- what a row keeps to -/
def VR (R : RW) : Prop := (R.H ≤ 20 ∧ R.D ≤ 30 ∧ R.n ≤ 6 ∧ R.m ≤ 6) ∧ (R.H = 0 → R.n = 0 ∧ R.m = 0) ∧ (0 < R.H → 0 < R.D) ∧
  (∀ s, s < R.n → R.vo s ≤ 3 ∧ R.ag s ≤ 60 ∧ R.ow s ≤ 99 ∧ R.ho s < R.H) ∧ ∀ c, c < R.m → R.ki c ≤ 3 ∧ (1 ≤ R.pa c ∧ R.pa c ≤ 20) ∧ R.be c < R.H
theorem VR0 : VR R0 := ⟨⟨Nat.zero_le _, Nat.zero_le _, Nat.zero_le _, Nat.zero_le _⟩, fun _ => ⟨rfl, rfl⟩, fun z => absurd z (Nat.lt_irrefl 0), fun s hs => absurd hs (Nat.not_lt_zero s), fun c hc => absurd hc (Nat.not_lt_zero c)⟩
theorem clsV {T : Nat → Nat} {len a : Nat} {R : RW} (h : VR R) (hok : okS (clsP T len a R)) : VR (clsR T len a R) := by
  obtain ⟨⟨h1, h2, h3, h4⟩, h5, h6, h7, h8⟩ := h
  unfold clsP at hok
  unfold clsR
  by_cases w1 : T a = 114
  · rw [if_pos w1] at hok ⊢
    by_cases z : R.H = 0
    · rw [if_pos z] at hok
      have k2 : okS (r2 T len a) := ok_pos (ok_end hok)
      have k1 : okS (r1 T len a) := ok_pos (ok_num k2)
      have b1 := num_b k1
      have b2 := num_b k2
      obtain ⟨z1, z2⟩ := h5 z
      refine ⟨⟨b1.2, b2.2, h3, h4⟩, fun e => ⟨z1, z2⟩, fun _ => b2.1, fun s hs => ?_, fun c hc => ?_⟩
      · have hs' : s < R.n := hs
        omega
      · have hc' : c < R.m := hc
        omega
    · rw [if_neg z] at hok
      exact absurd hok (fun z => z)
  · rw [if_neg w1] at hok ⊢
    by_cases w2 : T a = 115 ∧ ¬ R.H = 0
    · rw [if_pos w2] at hok
      rw [if_pos w2.1]
      by_cases z : R.n = 6
      · rw [if_pos z] at hok
        exact absurd hok (fun z => z)
      · rw [if_neg z] at hok
        have k4 : okS (s4 T len a R) := ok_pos (ok_end hok)
        have k3 : okS (s3 T len a) := ok_pos (ok_num k4)
        have k2 : okS (s2 T len a) := ok_pos (ok_num k3)
        have k1 : okS (s1 T len a) := ok_pos (ok_num k2)
        have b1 := num_b k1
        have b2 := num_b k2
        have b3 := num_b k3
        have b4 := num_b k4
        refine ⟨⟨h1, h2, by show R.n + 1 ≤ 6; omega, h4⟩, fun e => absurd e w2.2, h6, fun s hs => ?_, h8⟩
        have hs' : s < R.n + 1 := hs
        show updN R.vo R.n _ s ≤ 3 ∧ updN R.ag R.n _ s ≤ 60 ∧ updN R.ow R.n _ s ≤ 99 ∧ updN R.ho R.n _ s < R.H
        by_cases e : s = R.n
        · rw [e, updN_s, updN_s, updN_s, updN_s]
          refine ⟨b1.2, b2.2, b3.2, ?_⟩
          have : valS (s4 T len a R) ≤ R.H - 1 := b4.2
          have := w2.2
          omega
        · rw [updN_n e, updN_n e, updN_n e, updN_n e]
          exact h7 s (by omega)
    · rw [if_neg w2] at hok
      by_cases w3 : T a = 99 ∧ ¬ R.H = 0
      · rw [if_pos w3] at hok
        rw [if_neg (by rw [w3.1]; decide)]
        by_cases z : R.m = 6
        · rw [if_pos z] at hok
          exact absurd hok (fun z => z)
        · rw [if_neg z] at hok
          have k4 : okS (c3 T len a R) := ok_pos (ok_end hok)
          have k2 : okS (c2 T len a) := ok_pos (ok_num k4)
          have k1 : okS (c1 T len a) := ok_pos (ok_num k2)
          have b1 := num_b k1
          have b2 := num_b k2
          have b4 := num_b k4
          refine ⟨⟨h1, h2, h3, by show R.m + 1 ≤ 6; omega⟩, fun e => absurd e w3.2, h6, h7, fun c hc => ?_⟩
          have hc' : c < R.m + 1 := hc
          show updN R.ki R.m _ c ≤ 3 ∧ (1 ≤ updN R.pa R.m _ c ∧ updN R.pa R.m _ c ≤ 20) ∧ updN R.be R.m _ c < R.H
          by_cases e : c = R.m
          · rw [e, updN_s, updN_s, updN_s]
            refine ⟨b1.2, b2, ?_⟩
            have : valS (c3 T len a R) ≤ R.H - 1 := b4.2
            have := w3.2
            omega
          · rw [updN_n e, updN_n e, updN_n e]
            exact h8 c (by omega)
      · rw [if_neg w3] at hok
        exact absurd hok (fun z => z)
theorem prsV {T : Nat → Nat} {len : Nat} : ∀ f a (R R' : RW), VR R → prs T len f a R = .ok R' → VR R'
  | 0, a, R, R', h, e => by cases e; exact h
  | f + 1, a, R, R', h, e => by
    unfold prs at e
    by_cases hl : len ≤ a
    · rw [if_pos hl] at e; cases e; exact h
    · rw [if_neg hl] at e
      cases hc : clsP T len a R with
      | ok a' =>
        rw [hc] at e
        exact prsV f _ _ R' (clsV h (by rw [hc]; trivial)) e
      | error x => rw [hc] at e; cases e
theorem clsP_pos {T : Nat → Nat} {len a a' : Nat} {R : RW} (ha : a < len) (h : clsP T len a R = .ok a') : a < a' ∧ a' ≤ len := by
  unfold clsP at h
  by_cases w1 : T a = 114
  · rw [if_pos w1] at h
    by_cases z : R.H = 0
    · rw [if_pos z] at h
      obtain ⟨b, b1, b2⟩ := end_pos h
      obtain ⟨c, c1, c2⟩ := num_pos b1
      obtain ⟨d, d1, d2⟩ := num_pos c1
      cases d1
      have := d2 (by omega)
      have := c2 (by omega)
      have := b2 (by omega)
      omega
    · rw [if_neg z] at h; cases h
  · rw [if_neg w1] at h
    by_cases w2 : T a = 115 ∧ ¬ R.H = 0
    · rw [if_pos w2] at h
      by_cases z : R.n = 6
      · rw [if_pos z] at h; cases h
      · rw [if_neg z] at h
        obtain ⟨b, b1, b2⟩ := end_pos h
        obtain ⟨c, c1, c2⟩ := num_pos b1
        obtain ⟨d, d1, d2⟩ := num_pos c1
        obtain ⟨e, e1, e2⟩ := num_pos d1
        obtain ⟨g, g1, g2⟩ := num_pos e1
        cases g1
        have := g2 (by omega)
        have := e2 (by omega)
        have := d2 (by omega)
        have := c2 (by omega)
        have := b2 (by omega)
        omega
    · rw [if_neg w2] at h
      by_cases w3 : T a = 99 ∧ ¬ R.H = 0
      · rw [if_pos w3] at h
        by_cases z : R.m = 6
        · rw [if_pos z] at h; cases h
        · rw [if_neg z] at h
          obtain ⟨b, b1, b2⟩ := end_pos h
          obtain ⟨c, c1, c2⟩ := num_pos b1
          obtain ⟨d, d1, d2⟩ := num_pos c1
          obtain ⟨e, e1, e2⟩ := num_pos d1
          cases e1
          have := e2 (by omega)
          have := d2 (by omega)
          have := c2 (by omega)
          have := b2 (by omega)
          omega
      · rw [if_neg w3] at h; cases h
section CI
variable {sw : Bool} {ς : Lg} {T : Nat → Nat} {len a : Nat} {R : RW}
theorem nTI {x k : Nat} (hx : x < 256) (hk : k < 2 ^ 31) (h : ¬ x = k) : ¬ nI x = nI k := fun z => h ((nI_eq (by omega) hk).mp z)
theorem clause_C {σ : Sg} (hT : TXc σ T len) (hs : RCs σ len (.ok a)) (ha : a < len) (hR : RWc σ (rB sw) R) :
    ∃ σ', f_X8_readClause 1 (rB sw) (enc sw σ ς) = some (enc sw σ' ς) ∧ FRr (rB sw) σ σ' ∧ RCs σ' len (clsP T len a R) ∧ (okS (clsP T len a R) → RWc σ' (rB sw) (clsR T len a R)) := by
  have hrb := rB_or sw
  obtain ⟨b1, b2, b3, b4⟩ := id hs
  obtain ⟨t1, t2, t3⟩ := id hT
  obtain ⟨⟨y1, y2, y3, y4⟩, ⟨y5, y6, y7⟩, y8, y9⟩ := id hR
  have la : a < 240 := by omega
  obtain ⟨u1, u2⟩ := t3 a ha
  have hhead : ∀ r, f_X8_readClause_22 1 (rB sw) (nI (T a)) (if R.H = 0 then 1 else 0) (enc sw σ ς) = r → f_X8_readClause 1 (rB sw) (enc sw σ ς) = r := by
    intro r hr
    unfold f_X8_readClause
    rw [if_pos io_Rd, gr_Rd_0, Option.bind_some, gi_Rd_4, Option.bind_some, b2, ai_2 la, Option.bind_some, u1, gi_Rb_7, Option.bind_some, y1]
    by_cases z : R.H = 0
    · rw [if_pos (by rw [z]; rfl)]
      rw [if_pos z] at hr
      exact hr
    · rw [if_neg (nI_ne0 (by omega) (by omega))]
      rw [if_neg z] at hr
      exact hr
  -- a fault of kind k at this place
  have flt : ∀ k, 1 ≤ k ∧ k ≤ 3 → ∃ σ', f_X8_blame 1 (nI k) (nI a) (enc sw σ ς) = some (enc sw σ' ς) ∧ FRr (rB sw) σ σ' ∧ RCs σ' len (.error (k, a)) := by
    intro k hk
    obtain ⟨σ3, x1, x2, x3⟩ := blame_C (sw := sw) (ς := ς) (k := k) (p := a) hs (by omega) b2 hk
    exact ⟨σ3, x1, x2.r, x3⟩
  have flt74 : ∃ σ', f_X8_readClause_74 1 (enc sw σ ς) = some (enc sw σ' ς) ∧ FRr (rB sw) σ σ' ∧ RCs σ' len (.error (1, a)) := by
    obtain ⟨σ', x1, x2, x3⟩ := flt 1 (by omega)
    refine ⟨σ', ?_, x2, x3⟩
    unfold f_X8_readClause_74
    rw [gi_Rd_4, Option.bind_some, b2, show (1 : Int32) = nI 1 from rfl, x1, Option.bind_some]
  have e114 : (114 : Int32) = nI 114 := rfl
  have e115 : (115 : Int32) = nI 115 := rfl
  have e99 : (99 : Int32) = nI 99 := rfl
  unfold clsP clsR
  by_cases w1 : T a = 114
  · rw [if_pos w1, if_pos w1]
    by_cases z : R.H = 0
    · obtain ⟨σ', k1, k2, k3, k4⟩ := house_C (ς := ς) hT hs ha hR z
      rw [if_pos z]
      refine ⟨σ', hhead _ ?_, k2, k3, k4⟩
      unfold f_X8_readClause_22
      rw [if_pos (by rw [w1]; rfl), if_pos z, k1, Option.bind_some]
    · obtain ⟨σ', k1, k2, k3⟩ := flt 3 (by omega)
      rw [if_neg z]
      refine ⟨σ', hhead _ ?_, k2, k3, fun z => absurd z (fun z => z)⟩
      unfold f_X8_readClause_22 f_X8_readHouses
      rw [if_pos (by rw [w1]; rfl), if_neg z, if_pos io_Rd, if_pos rfl, gi_Rd_4, Option.bind_some, b2, show (3 : Int32) = nI 3 from rfl, k1, Option.bind_some, Option.bind_some]
  · rw [if_neg w1, if_neg w1]
    have n114 : ¬ nI (T a) = (114 : Int32) := nTI u2 (k := 114) (by omega) w1
    by_cases w2 : T a = 115 ∧ ¬ R.H = 0
    · rw [if_pos w2, if_pos w2.1]
      have h115 : nI (T a) = (115 : Int32) := by rw [w2.1]; rfl
      by_cases z : R.n = 6
      · obtain ⟨σ', k1, k2, k3⟩ := flt 3 (by omega)
        rw [if_pos z]
        refine ⟨σ', hhead _ ?_, k2, k3, fun z => absurd z (fun z => z)⟩
        unfold f_X8_readClause_22 f_X8_readSinger
        rw [if_neg n114, if_pos h115, if_neg w2.2, if_pos rfl, if_pos io_Rd, gi_Rb_9, Option.bind_some, y3, if_neg (show ¬ nI R.n < (6 : Int32) from nI_nlt (b := 6) (by omega) (by omega)), gi_Rd_4, Option.bind_some, b2, show (3 : Int32) = nI 3 from rfl, k1, Option.bind_some, Option.bind_some]
      · obtain ⟨σ', k1, k2, k3, k4⟩ := singer_C (ς := ς) hT hs ha hR w2.2 (by omega)
        rw [if_neg z]
        refine ⟨σ', hhead _ ?_, k2, k3, k4⟩
        unfold f_X8_readClause_22
        rw [if_neg n114, if_pos h115, if_neg w2.2, if_pos rfl, k1, Option.bind_some]
    · rw [if_neg w2]
      have to56 : f_X8_readClause_22 1 (rB sw) (nI (T a)) (if R.H = 0 then 1 else 0) (enc sw σ ς) = f_X8_readClause_56 1 (rB sw) (nI (T a)) (if R.H = 0 then 1 else 0) (enc sw σ ς) := by
        unfold f_X8_readClause_22
        rw [if_neg n114]
        by_cases h115 : T a = 115
        · have z : R.H = 0 := Classical.byContradiction fun z => w2 ⟨h115, z⟩
          rw [if_pos (by rw [h115]; rfl), if_pos z, if_neg (by decide)]
        · rw [if_neg (show ¬ nI (T a) = (115 : Int32) from nTI u2 (k := 115) (by omega) h115)]
      by_cases w3 : T a = 99 ∧ ¬ R.H = 0
      · rw [if_pos w3, if_neg (show ¬ T a = 115 by rw [w3.1]; decide)]
        have h99 : nI (T a) = (99 : Int32) := by rw [w3.1]; rfl
        by_cases z : R.m = 6
        · obtain ⟨σ', k1, k2, k3⟩ := flt 3 (by omega)
          rw [if_pos z]
          refine ⟨σ', hhead _ ?_, k2, k3, fun z => absurd z (fun z => z)⟩
          rw [to56]
          unfold f_X8_readClause_56 f_X8_readChild
          rw [if_pos h99, if_neg w3.2, if_pos rfl, if_pos io_Rd, gi_Rb_10, Option.bind_some, y4, if_neg (show ¬ nI R.m < (6 : Int32) from nI_nlt (b := 6) (by omega) (by omega)), gi_Rd_4, Option.bind_some, b2, show (3 : Int32) = nI 3 from rfl, k1, Option.bind_some, Option.bind_some]
        · obtain ⟨σ', k1, k2, k3, k4⟩ := child_C (ς := ς) hT hs ha hR w3.2 (by omega)
          rw [if_neg z]
          refine ⟨σ', hhead _ ?_, k2, k3, k4⟩
          rw [to56]
          unfold f_X8_readClause_56
          rw [if_pos h99, if_neg w3.2, if_pos rfl, k1, Option.bind_some]
      · rw [if_neg w3]
        obtain ⟨σ', k1, k2, k3⟩ := flt74
        refine ⟨σ', hhead _ ?_, k2, k3, fun z => absurd z (fun z => z)⟩
        rw [to56]
        unfold f_X8_readClause_56
        by_cases h99 : T a = 99
        · have z : R.H = 0 := Classical.byContradiction fun z => w3 ⟨h99, z⟩
          rw [if_pos (by rw [h99]; rfl), if_pos z, if_neg (by decide), k1]
        · rw [if_neg (show ¬ nI (T a) = (99 : Int32) from nTI u2 (k := 99) (by omega) h99), k1]
/-- what reading comes to -/
def RESc (sw : Bool) (σ : Sg) (len : Nat) : Except Flt RW → Prop
  | .ok R => σ 1 3 = 0 ∧ σ 1 2 = -1 ∧ RWc σ (rB sw) R
  | .error e => RCs σ len (.error e)
theorem TXc.r {σ σ' : Sg} (h : TXc σ T len) (f : FRr (rB sw) σ σ') : TXc σ' T len := h.c f.2 (f.1 2 (by omega) (by have := rB_or sw; omega))
theorem into_L : ∀ (f i F a : Nat) (R : RW) (σ : Sg), i + f = 240 → f < F → TXc σ T len → RCs σ len (.ok a) → RWc σ (rB sw) R →
    ∃ σ', f_X8_readInto_L25 F 1 (rB sw) (nI i) (enc sw σ ς) = some (enc sw σ' ς) ∧ FRr (rB sw) σ σ' ∧ RESc sw σ' len (prs T len f a R) := by
  intro f
  induction f with
  | zero =>
    intro i F a R σ hi hF hT hs hR
    obtain ⟨F, rfl⟩ : ∃ F', F = F' + 1 := ⟨F - 1, by omega⟩
    refine ⟨σ, ?_, FRr.refl _ σ, hs.2.2.1, hs.2.2.2, hR⟩
    show F_X8_readInto_L25 (f_X8_readInto_L25 F) 1 (rB sw) (nI i) (enc sw σ ς) = _
    unfold F_X8_readInto_L25
    rw [if_pos (show (240 : Int32) ≤ nI i from nI_le (a := 240) (by omega) (by omega))]
  | succ f ih =>
    intro i F a R σ hi hF hT hs hR
    obtain ⟨F, rfl⟩ : ∃ F', F = F' + 1 := ⟨F - 1, by omega⟩
    obtain ⟨b1, b2, b3, b4⟩ := id hs
    obtain ⟨t1, t2, t3⟩ := id hT
    have n240 : ¬ (240 : Int32) ≤ nI i := nI_ge (b := 240) (by omega) (by omega)
    unfold prs
    by_cases hl : len ≤ a
    · rw [if_pos hl]
      refine ⟨σ, ?_, FRr.refl _ σ, b3, b4, hR⟩
      show F_X8_readInto_L25 (f_X8_readInto_L25 F) 1 (rB sw) (nI i) (enc sw σ ς) = _
      unfold F_X8_readInto_L25
      rw [if_neg n240, gi_Rd_4, Option.bind_some, gi_Rd_1, Option.bind_some, b2, t2, if_pos (nI_le hl (by omega))]
    · rw [if_neg hl]
      obtain ⟨σ1, k1, k2, k3, k4⟩ := clause_C (ς := ς) hT hs (by omega) hR
      have hT1 := hT.r k2
      have hhead : ∀ σ2 : Sg, f_X8_skipBlanks 1 (enc sw σ1 ς) = some (enc sw σ2 ς) → f_X8_readInto_L25 (F + 1) 1 (rB sw) (nI i) (enc sw σ ς) = f_X8_readInto_L25 F 1 (rB sw) (nI (i + 1)) (enc sw σ2 ς) := by
        intro σ2 h2
        show F_X8_readInto_L25 (f_X8_readInto_L25 F) 1 (rB sw) (nI i) (enc sw σ ς) = _
        unfold F_X8_readInto_L25
        rw [if_neg n240, gi_Rd_4, Option.bind_some, gi_Rd_1, Option.bind_some, b2, t2, if_neg (nI_ge (by omega) (by omega)), gi_Rd_3, Option.bind_some, b3, if_pos rfl, k1, Option.bind_some, h2, Option.bind_some, nI_1]
      cases hc : clsP T len a R with
      | ok a' =>
        rw [hc] at k3 k4
        have hpos := clsP_pos (show a < len by omega) hc
        obtain ⟨σ2, s1, s2, s3, s4⟩ := skip_C (sw := sw) (ς := ς) hT1 k3.2.1 (by omega)
        have fs : FRc σ1 σ2 := ⟨s2, s3 1 (by omega)⟩
        have hrb := rB_or sw
        obtain ⟨σ', g1, g2, g3⟩ := ih (i + 1) F (skp T len a') (clsR T len a R) σ2 (by omega) (by omega) (hT1.f fs) ⟨(skp_b T hpos.2).2, s4, by rw [s3 3 (by omega)]; exact k3.2.2.1, by rw [s3 2 (by omega)]; exact k3.2.2.2⟩ ((k4 trivial).c fun j hj => s2 _ (by omega))
        exact ⟨σ', (hhead σ2 s1).trans g1, (k2.trans fs.r).trans g2, g3⟩
      | error e =>
        rw [hc] at k3
        obtain ⟨b, bb1, bb2⟩ := k3.1
        obtain ⟨σ2, s1, s2, s3, s4⟩ := skip_C (sw := sw) (ς := ς) hT1 bb2 (by omega)
        have fs : FRc σ1 σ2 := ⟨s2, s3 1 (by omega)⟩
        have q2 : RCs σ2 len (.error e) := ⟨⟨_, (skp_b T bb1).2, s4⟩, k3.2.1, by rw [s3 3 (by omega)]; exact k3.2.2.1, by rw [s3 2 (by omega)]; exact k3.2.2.2⟩
        refine ⟨σ2, (hhead σ2 s1).trans ?_, k2.trans fs.r, q2⟩
        obtain ⟨F, rfl⟩ : ∃ F', F = F' + 1 := ⟨F - 1, by omega⟩
        have hsk := (skp_b T bb1).2
        show F_X8_readInto_L25 (f_X8_readInto_L25 F) 1 (rB sw) (nI (i + 1)) (enc sw σ2 ς) = _
        unfold F_X8_readInto_L25
        rw [gi_Rd_4, Option.bind_some, gi_Rd_1, Option.bind_some, gi_Rd_3, Option.bind_some, q2.2.2.1, if_neg (nI_ne0 (by have := q2.2.1; omega) (by have := q2.2.1; omega))]
        by_cases z1 : (240 : Int32) ≤ nI (i + 1)
        · rw [if_pos z1]
        · rw [if_neg z1]
          by_cases z2 : σ2 1 1 ≤ σ2 1 4
          · rw [if_pos z2]
          · rw [if_neg z2]
theorem into_C {σ : Sg} (hT : TXc σ T len) : ∃ x σ', f_X8_readInto 1 (rB sw) (enc sw σ ς) = some (x, enc sw σ' ς) ∧ (∀ a, a ≠ 1 → (a < rB sw ∨ rB sw + 8 ≤ a) → σ' a = σ a) ∧ σ' 1 1 = 0 ∧
    (match prs T len 240 (skp T len 0) R0 with
      | .ok R => x = 0 ∧ σ' 1 2 = -1 ∧ RWc σ' (rB sw) R
      | .error e => (1 ≤ e.1 ∧ e.1 ≤ 3) ∧ x = nI e.1 ∧ σ' 1 2 = nI e.2) := by
  have hrb := rB_or sw
  let σ1 : Sg := uA σ (rB sw) (upd (upd (upd (upd (σ (rB sw)) 7 0) 8 0) 9 0) 10 0)
  let σ2 : Sg := uA σ1 1 (upd (upd (upd (σ 1) 4 0) 3 0) 2 (-1))
  have o2 : ∀ a, a ≠ 1 → (a < rB sw ∨ rB sw + 8 ≤ a) → σ2 a = σ a := fun a z1 z2 => by show uA (uA σ _ _) 1 _ a = _; rw [uA_n z1, uA_n (by omega)]
  have v2 : σ2 1 = upd (upd (upd (σ 1) 4 0) 3 0) 2 (-1) := by show uA (uA σ _ _) 1 _ 1 = _; rw [uA_s]
  have vr : σ2 (rB sw) = upd (upd (upd (upd (σ (rB sw)) 7 0) 8 0) 9 0) 10 0 := by show uA (uA σ _ _) 1 _ _ = _; rw [uA_n (by omega), uA_s]
  have hT2 : TXc σ2 T len := hT.c (by rw [v2]; rfl) (o2 2 (by omega) (by omega))
  obtain ⟨σ3, s1, s2, s3, s4⟩ := skip_C (sw := sw) (ς := ς) (a := 0) hT2 (by rw [v2]; rfl) (by omega)
  have fs : FRc σ2 σ3 := ⟨s2, s3 1 (by omega)⟩
  have hT3 := hT2.f fs
  have hR3 : RWc σ3 (rB sw) R0 := by
    have e : σ3 (rB sw) = upd (upd (upd (upd (σ (rB sw)) 7 0) 8 0) 9 0) 10 0 := by rw [s2 _ (by omega), vr]
    refine ⟨⟨by rw [e]; rfl, by rw [e]; rfl, by rw [e]; rfl, by rw [e]; rfl⟩, ⟨Nat.zero_le _, Nat.zero_le _, Nat.zero_le _⟩, fun s hs => absurd hs (Nat.not_lt_zero s), fun c hc => absurd hc (Nat.not_lt_zero c)⟩
  have hq3 : RCs σ3 len (.ok (skp T len 0)) := ⟨(skp_b T (Nat.zero_le len)).2, s4, by rw [s3 3 (by omega), v2]; rfl, by rw [s3 2 (by omega), v2]; rfl⟩
  have hrun : ∀ F, 240 < F → ∃ σ', f_X8_readInto_L25 F 1 (rB sw) (0 : Int32) (enc sw σ3 ς) = some (enc sw σ' ς) ∧ FRr (rB sw) σ3 σ' ∧ RESc sw σ' len (prs T len 240 (skp T len 0) R0) := fun F hF => into_L 240 0 F (skp T len 0) R0 σ3 (by omega) hF hT3 hq3 hR3
  obtain ⟨σ4, g1, g2, g3⟩ := hrun 1000000 (by omega)
  have hst : f_X8_readInto 1 (rB sw) (enc sw σ ς) = some (σ4 1 3, enc sw (uA σ4 1 (upd (σ4 1) 1 0)) ς) := by
    have e2 : enc sw (uA (uA (uA (uA (uA (uA (uA σ (rB sw) (upd (σ (rB sw)) 7 0)) (rB sw) (upd (upd (σ (rB sw)) 7 0) 8 0)) (rB sw) (upd (upd (upd (σ (rB sw)) 7 0) 8 0) 9 0)) (rB sw) (upd (upd (upd (upd (σ (rB sw)) 7 0) 8 0) 9 0) 10 0)) 1 (upd (σ 1) 4 0)) 1 (upd (upd (σ 1) 4 0) 3 0)) 1 (upd (upd (upd (σ 1) 4 0) 3 0) 2 (-1))) ς = enc sw σ2 ς := by
      rw [uA_uA, uA_uA, uA_uA, uA_uA, uA_uA]
    have nr : 1 ≠ rB sw := by omega
    unfold f_X8_readInto f_X10_clear f_X8_readInto_65
    rw [if_pos io_Rd, if_pos io_Rb, pf_Rb_7, Option.bind_some, pf_Rb_8, Option.bind_some, pf_Rb_9, Option.bind_some, pf_Rb_10, Option.bind_some, Option.bind_some, pf_Rd_4, Option.bind_some, pf_Rd_3, Option.bind_some, pf_Rd_2, Option.bind_some]
    simp only [uA_s, uA_n nr]
    rw [e2, s1, Option.bind_some, g1, Option.bind_some, pf_Rd_1, Option.bind_some, gi_Rd_3, Option.bind_some, uA_s, pk_un (by omega)]
  refine ⟨σ4 1 3, uA σ4 1 (upd (σ4 1) 1 0), hst, fun x z1 z2 => by rw [uA_n z1, g2.1 x z1 z2, s2 x z1, o2 x z1 z2], by rw [uA_s, pk_us], ?_⟩
  cases hp : prs T len 240 (skp T len 0) R0 with
  | ok R =>
    rw [hp] at g3
    exact ⟨g3.1, by rw [uA_s, pk_un (by omega)]; exact g3.2.1, g3.2.2.c fun j hj => uA_n (by omega)⟩
  | error e =>
    rw [hp] at g3
    exact ⟨g3.2.1, g3.2.2.1, by rw [uA_s, pk_un (by omega)]; exact g3.2.2.2⟩
end CI
