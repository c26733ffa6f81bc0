section CM2
variable {sw : Bool} {ς : Lg} {T : Nat → Nat} {len a : Nat} {R : RW}
theorem clause_M {σ : Sg} (hT : TXm σ T len) (hs : RMs σ len (.ok a)) (ha : a < len) (hR : RWm σ R) :
    ∃ σ', f_X13_clause 302 (if R.H = 0 then 1 else 0) (enc sw σ ς) = some (enc sw σ' ς) ∧ FRn σ σ' ∧ RMs σ' (len + 1) (clsP T len a R) ∧ (okS (clsP T len a R) → RWm σ' (clsR T len a R)) := by
  obtain ⟨b1, b2, b3, b4⟩ := id hs
  obtain ⟨t1, t2, t3⟩ := id hT
  obtain ⟨⟨y1, y2, y3, y4⟩, ⟨y5, y6, y7⟩, y8, y9⟩ := id hR
  have la : a < 240 := by omega
  obtain ⟨u1, u2⟩ := t3 a ha
  have hhead : ∀ r, (if nI (T a) = (114 : Int32) then f_X13_clause_28 302 (if R.H = 0 then 1 else 0) (nI (T a)) (enc sw σ ς) else if nI (T a) = (115 : Int32) then f_X13_clause_28 302 (if R.H = 0 then 1 else 0) (nI (T a)) (enc sw σ ς) else if nI (T a) = (99 : Int32) then f_X13_clause_28 302 (if R.H = 0 then 1 else 0) (nI (T a)) (enc sw σ ς) else f_X13_clause_38 302 (enc sw σ ς)) = r → f_X13_clause 302 (if R.H = 0 then 1 else 0) (enc sw σ ς) = r := by
    intro r hr
    unfold f_X13_clause
    rw [if_pos io_Mo, gr_Mo_0, Option.bind_some, gi_Mo_22, Option.bind_some, b2, ai_303 la, Option.bind_some, u1]
    exact hr
  have flt : ∀ k, 1 ≤ k ∧ k ≤ 3 → ∃ σ', f_X13_faults 302 (nI k) (nI a) (enc sw σ ς) = some (enc sw σ' ς) ∧ FRn σ σ' ∧ RMs σ' (len + 1) (.error (k, a)) := by
    intro k hk
    obtain ⟨σ3, x1, x2, x3, x4⟩ := faults_M (sw := sw) (ς := ς) (k := k) (p := a) (B := len + 1) ⟨by omega, b2, b3, b4⟩ hk
    exact ⟨σ3, x1, x2.n, x3⟩
  have flt38 : ∃ σ', f_X13_clause_38 302 (enc sw σ ς) = some (enc sw σ' ς) ∧ FRn σ σ' ∧ RMs σ' (len + 1) (.error (1, a)) := by
    obtain ⟨σ', x1, x2, x3⟩ := flt 1 (by omega)
    refine ⟨σ', ?_, x2, x3⟩
    unfold f_X13_clause_38
    rw [gi_Mo_22, Option.bind_some, b2, show (1 : Int32) = nI 1 from rfl, x1, Option.bind_some]
  have flt88 : ∃ σ', f_X13_clause_88 302 (enc sw σ ς) = some (enc sw σ' ς) ∧ FRn σ σ' ∧ RMs σ' (len + 1) (.error (3, a)) := by
    obtain ⟨σ', x1, x2, x3⟩ := flt 3 (by omega)
    refine ⟨σ', ?_, x2, x3⟩
    unfold f_X13_clause_88
    rw [gi_Mo_22, Option.bind_some, b2, show (3 : Int32) = nI 3 from rfl, x1, Option.bind_some]
  unfold clsP clsR
  by_cases w1 : T a = 114
  · rw [if_pos w1, if_pos w1]
    have e1 : nI (T a) = (114 : Int32) := by rw [w1]; rfl
    rw [e1] at hhead
    by_cases z : R.H = 0
    · obtain ⟨σ', k1, k2, k3, k4⟩ := house_M (sw := sw) (ς := ς) hT hs ha hR
      rw [if_pos z, if_pos z]
      rw [if_pos z] at hhead
      refine ⟨σ', hhead _ ?_, k2, k3, k4⟩
      unfold f_X13_clause_28 f_X13_clause_48 f_X13_clause_58 f_X13_clause_73
      rw [if_pos rfl, if_neg (by decide), if_pos rfl, if_pos rfl, if_neg (by decide), if_neg (by decide), if_neg (by decide), k1]
    · obtain ⟨σ', k1, k2, k3⟩ := flt88
      rw [if_neg z, if_neg z]
      rw [if_neg z] at hhead
      refine ⟨σ', hhead _ ?_, k2, k3, fun z => absurd z (fun z => z)⟩
      unfold f_X13_clause_28 f_X13_clause_48
      rw [if_pos rfl, if_pos rfl, if_pos rfl, if_pos rfl, k1]
  · rw [if_neg w1, if_neg w1]
    have n114 : ¬ nI (T a) = (114 : Int32) := nTI u2 (k := 114) (by omega) w1
    by_cases w2 : T a = 115 ∧ ¬ R.H = 0
    · rw [if_pos w2, if_pos w2.1]
      have e1 : nI (T a) = (115 : Int32) := by rw [w2.1]; rfl
      rw [e1, if_neg w2.2] at hhead
      rw [if_neg w2.2]
      by_cases z : R.n = 6
      · obtain ⟨σ', k1, k2, k3⟩ := flt88
        rw [if_pos z]
        refine ⟨σ', hhead _ ?_, k2, k3, fun z => absurd z (fun z => z)⟩
        unfold f_X13_clause_28 f_X13_clause_48 f_X13_clause_58
        rw [if_neg (by decide), if_pos rfl, if_pos rfl, if_neg (by decide), if_pos rfl, gi_Mo_26, Option.bind_some, y3, if_pos (by rw [z]; rfl), k1]
      · obtain ⟨σ', k1, k2, k3, k4⟩ := singer_M (sw := sw) (ς := ς) hT hs ha hR w2.2 (by omega)
        rw [if_neg z]
        refine ⟨σ', hhead _ ?_, k2, k3, k4⟩
        unfold f_X13_clause_28 f_X13_clause_48 f_X13_clause_58 f_X13_clause_73
        rw [if_neg (by decide), if_pos rfl, if_pos rfl, if_neg (by decide), if_pos rfl, gi_Mo_26, Option.bind_some, y3, if_neg (show ¬ nI R.n = (6 : Int32) from nTI (by omega) (k := 6) (by omega) z), if_neg (by decide), k1]
    · rw [if_neg w2]
      by_cases w3 : T a = 99 ∧ ¬ R.H = 0
      · rw [if_pos w3, if_neg (show ¬ T a = 115 by rw [w3.1]; decide)]
        have e1 : nI (T a) = (99 : Int32) := by rw [w3.1]; rfl
        rw [e1, if_neg w3.2] at hhead
        rw [if_neg w3.2]
        by_cases z : R.m = 6
        · obtain ⟨σ', k1, k2, k3⟩ := flt88
          rw [if_pos z]
          refine ⟨σ', hhead _ ?_, k2, k3, fun z => absurd z (fun z => z)⟩
          unfold f_X13_clause_28 f_X13_clause_48 f_X13_clause_58 f_X13_clause_73
          rw [if_neg (by decide), if_neg (by decide), if_pos rfl, if_pos rfl, if_neg (by decide), if_neg (by decide), if_pos rfl, gi_Mo_27, Option.bind_some, y4, if_pos (by rw [z]; rfl), k1]
        · obtain ⟨σ', k1, k2, k3, k4⟩ := child_M (sw := sw) (ς := ς) hT hs ha hR w3.2 (by omega)
          rw [if_neg z]
          refine ⟨σ', hhead _ ?_, k2, k3, k4⟩
          unfold f_X13_clause_28 f_X13_clause_48 f_X13_clause_58 f_X13_clause_73
          rw [if_neg (by decide), if_neg (by decide), if_pos rfl, if_pos rfl, if_neg (by decide), if_neg (by decide), if_pos rfl, gi_Mo_27, Option.bind_some, y4, if_neg (show ¬ nI R.m = (6 : Int32) from nTI (by omega) (k := 6) (by omega) z), k1]
      · rw [if_neg w3]
        obtain ⟨σ', k1, k2, k3⟩ := flt38
        refine ⟨σ', hhead _ ?_, k2, k3, fun z => absurd z (fun z => z)⟩
        rw [if_neg n114]
        have h28 : R.H = 0 → f_X13_clause_28 302 (if R.H = 0 then 1 else 0) (nI (T a)) (enc sw σ ς) = some (enc sw σ' ς) := by
          intro z
          unfold f_X13_clause_28
          rw [if_pos z, if_neg (by decide), if_neg n114, k1]
        by_cases h115 : T a = 115
        · have z : R.H = 0 := Classical.byContradiction fun z => w2 ⟨h115, z⟩
          rw [if_pos (by rw [h115]; rfl), h28 z]
        · rw [if_neg (show ¬ nI (T a) = (115 : Int32) from nTI u2 (k := 115) (by omega) h115)]
          by_cases h99 : T a = 99
          · have z : R.H = 0 := Classical.byContradiction fun z => w3 ⟨h99, z⟩
            rw [if_pos (by rw [h99]; rfl), h28 z]
          · rw [if_neg (show ¬ nI (T a) = (99 : Int32) from nTI u2 (k := 99) (by omega) h99), k1]
/-- after a clause there are houses -/
theorem clsR_H {T : Nat → Nat} {len a : Nat} {R : RW} (hok : okS (clsP T len a R)) : ¬ (clsR T len a R).H = 0 := by
  unfold clsP at hok
  unfold clsR
  by_cases w1 : T a = 114
  · rw [if_pos w1] at hok ⊢
    by_cases z : R.H = 0
    · rw [if_pos z] at hok
      have k1 : okS (r1 T len a) := ok_pos (ok_num (ok_pos (ok_end hok)))
      have b1 := num_b k1
      show ¬ valS (r1 T len a) = 0
      have : 1 ≤ valS (r1 T len a) := b1.1
      omega
    · rw [if_neg z] at hok
      exact absurd hok (fun z => z)
  · rw [if_neg w1] at hok ⊢
    by_cases w2 : T a = 115 ∧ ¬ R.H = 0
    · rw [if_pos w2.1]; exact w2.2
    · rw [if_neg w2] at hok
      by_cases w3 : T a = 99 ∧ ¬ R.H = 0
      · rw [if_neg (by rw [w3.1]; decide)]; exact w3.2
      · rw [if_neg w3] at hok
        exact absurd hok (fun z => z)
def RESm (σ : Sg) (len : Nat) : Except Flt RW → Prop
  | .ok R => σ 302 23 = 0 ∧ σ 302 2 = -1 ∧ RWm σ R
  | .error e => RMs σ (len + 1) (.error e)
theorem reads_L : ∀ (f F a : Nat) (R : RW) (σ : Sg), len - a ≤ f → f + 1 < F → TXm σ T len → RMs σ len (.ok a) → RWm σ R →
    ∃ σ', f_X13_reads_L41 F 302 (if R.H = 0 then 1 else 0) (enc sw σ ς) = some (enc sw σ' ς) ∧ FRn σ σ' ∧ RESm σ' len (prs T len f a R) := by
  intro f
  induction f with
  | zero =>
    intro F a R σ hi hF hT hs hR
    obtain ⟨F, rfl⟩ : ∃ F', F = F' + 1 := ⟨F - 1, by omega⟩
    obtain ⟨b1, b2, b3, b4⟩ := id hs
    obtain ⟨t1, t2, t3⟩ := id hT
    refine ⟨σ, ?_, FRn.refl σ, b3, b4, hR⟩
    show F_X13_reads_L41 (f_X13_reads_L41 F) 302 _ (enc sw σ ς) = _
    unfold F_X13_reads_L41
    rw [gi_Mo_23, Option.bind_some, b3, if_pos rfl, gi_Mo_22, Option.bind_some, gi_Mo_1, Option.bind_some, b2, t2, if_pos (nI_le (by omega) (by omega))]
  | succ f ih =>
    intro F a R σ hi hF hT hs hR
    obtain ⟨F, rfl⟩ : ∃ F', F = F' + 1 := ⟨F - 1, by omega⟩
    obtain ⟨b1, b2, b3, b4⟩ := id hs
    obtain ⟨t1, t2, t3⟩ := id hT
    unfold prs
    by_cases hl : len ≤ a
    · rw [if_pos hl]
      refine ⟨σ, ?_, FRn.refl σ, b3, b4, hR⟩
      show F_X13_reads_L41 (f_X13_reads_L41 F) 302 _ (enc sw σ ς) = _
      unfold F_X13_reads_L41
      rw [gi_Mo_23, Option.bind_some, b3, if_pos rfl, gi_Mo_22, Option.bind_some, gi_Mo_1, Option.bind_some, b2, t2, if_pos (nI_le (by omega) (by omega))]
    · rw [if_neg hl]
      obtain ⟨σ1, k1, k2, k3, k4⟩ := clause_M (sw := sw) (ς := ς) hT hs (by omega) hR
      have hT1 := hT.n k2
      have hhead : ∀ σ2 : Sg, f_X13_skips 302 (enc sw σ1 ς) = some (enc sw σ2 ς) → f_X13_reads_L41 (F + 1) 302 (if R.H = 0 then 1 else 0) (enc sw σ ς) = f_X13_reads_L41 F 302 (0 : Int32) (enc sw σ2 ς) := by
        intro σ2 h2
        show F_X13_reads_L41 (f_X13_reads_L41 F) 302 _ (enc sw σ ς) = _
        unfold F_X13_reads_L41
        rw [gi_Mo_23, Option.bind_some, b3, if_pos rfl, gi_Mo_22, Option.bind_some, gi_Mo_1, Option.bind_some, b2, t2, if_neg (nI_ge (by omega) (by omega)), k1, Option.bind_some, h2, Option.bind_some]
      cases hc : clsP T len a R with
      | ok a' =>
        rw [hc] at k3 k4
        have hpos := clsP_pos (show a < len by omega) hc
        obtain ⟨σ2, s1, s2, s3, s4⟩ := skip_M (sw := sw) (ς := ς) hT1 k3.2.1 (by omega)
        have fs : FRm σ1 σ2 := ⟨s2, fun j z1 z2 z3 => s3 j z2⟩
        have hsb := skp_b T hpos.2
        have hH : ¬ (clsR T len a R).H = 0 := clsR_H (by rw [hc]; trivial)
        obtain ⟨σ', g1, g2, g3⟩ := ih F (skp T len a') (clsR T len a R) σ2 (by omega) (by omega) (hT1.f fs) ⟨hsb.2, s4, by rw [s3 23 (by omega)]; exact k3.2.2.1, by rw [s3 2 (by omega)]; exact k3.2.2.2⟩ ((k4 trivial).f fs)
        rw [if_neg hH] at g1
        exact ⟨σ', (hhead σ2 s1).trans g1, (k2.trans fs.n).trans g2, g3⟩
      | error e =>
        rw [hc] at k3
        obtain ⟨b, bb1, bb2⟩ := k3.1
        obtain ⟨σ2, s1, s2, s3, s4⟩ := skip_M (sw := sw) (ς := ς) hT1 bb2 (by omega)
        have fs : FRm σ1 σ2 := ⟨s2, fun j z1 z2 z3 => s3 j z2⟩
        have hsb : skp T len b ≤ len + 1 := by
          by_cases z : b ≤ len
          · have := skp_b T z; omega
          · rw [skp_hi T (by omega)]; omega
        have q2 : RMs σ2 (len + 1) (.error e) := ⟨⟨_, hsb, s4⟩, k3.2.1, by rw [s3 23 (by omega)]; exact k3.2.2.1, by rw [s3 2 (by omega)]; exact k3.2.2.2⟩
        refine ⟨σ2, (hhead σ2 s1).trans ?_, k2.trans fs.n, q2⟩
        obtain ⟨F, rfl⟩ : ∃ F', F = F' + 1 := ⟨F - 1, by omega⟩
        show F_X13_reads_L41 (f_X13_reads_L41 F) 302 (0 : Int32) (enc sw σ2 ς) = _
        unfold F_X13_reads_L41
        rw [gi_Mo_23, Option.bind_some, q2.2.2.1, if_neg (nI_ne0 (by have := q2.2.1; omega) (by have := q2.2.1; omega))]
theorem reads_M {σ : Sg} (hT : TXm σ T len) : ∃ σ', f_X13_reads 302 (enc sw σ ς) = some (enc sw σ' ς) ∧ FRn σ σ' ∧
    (match prs T len 240 (skp T len 0) R0 with
      | .ok R => σ' 302 23 = 0 ∧ σ' 302 2 = -1 ∧ RWm σ' R
      | .error e => σ' 302 23 = nI e.1 ∧ σ' 302 2 = nI e.2) := by
  let σ2 : Sg := uA σ 302 (upd (upd (upd (upd (upd (upd (upd (σ 302) 22 0) 23 0) 2 (-1)) 24 0) 25 0) 26 0) 27 0)
  have v2 : σ2 302 = upd (upd (upd (upd (upd (upd (upd (σ 302) 22 0) 23 0) 2 (-1)) 24 0) 25 0) 26 0) 27 0 := by show uA σ 302 _ 302 = _; rw [uA_s]
  have f2 : FRn σ σ2 := ⟨fun a z1 _ => uA_n z1, fun j z1 z2 => by rw [v2, pk_un (by omega), pk_un (by omega), pk_un (by omega), pk_un (by omega), pk_un (by omega), pk_un (by omega), pk_un (by omega)]⟩
  have hT2 : TXm σ2 T len := hT.n f2
  obtain ⟨σ3, s1, s2, s3, s4⟩ := skip_M (sw := sw) (ς := ς) (a := 0) hT2 (by rw [v2]; rfl) (by omega)
  have fs : FRm σ2 σ3 := ⟨s2, fun j z1 z2 z3 => s3 j z2⟩
  have hT3 := hT2.f fs
  have hR3 : RWm σ3 R0 := by
    refine ⟨⟨by rw [s3 24 (by omega), v2]; rfl, by rw [s3 25 (by omega), v2]; rfl, by rw [s3 26 (by omega), v2]; rfl, by rw [s3 27 (by omega), v2]; rfl⟩, ⟨Nat.zero_le _, Nat.zero_le _, Nat.zero_le _⟩, fun s hs => absurd hs (Nat.not_lt_zero s), fun c hc => absurd hc (Nat.not_lt_zero c)⟩
  have hq3 : RMs σ3 len (.ok (skp T len 0)) := ⟨(skp_b T (Nat.zero_le len)).2, s4, by rw [s3 23 (by omega), v2]; rfl, by rw [s3 2 (by omega), v2]; rfl⟩
  have hlen := hT.1
  have hrun : ∀ F, 241 < F → ∃ σ', f_X13_reads_L41 F 302 (1 : Int32) (enc sw σ3 ς) = some (enc sw σ' ς) ∧ FRn σ3 σ' ∧ RESm σ' len (prs T len 240 (skp T len 0) R0) := fun F hF => reads_L 240 F (skp T len 0) R0 σ3 (by omega) hF hT3 hq3 hR3
  obtain ⟨σ4, g1, g2, g3⟩ := hrun 1000000 (by omega)
  have hst : f_X13_reads 302 (enc sw σ ς) = some (enc sw σ4 ς) := by
    have e2 : enc sw (uA (uA (uA (uA (uA (uA (uA σ 302 (upd (σ 302) 22 0)) 302 (upd (upd (σ 302) 22 0) 23 0)) 302 (upd (upd (upd (σ 302) 22 0) 23 0) 2 (-1))) 302 (upd (upd (upd (upd (σ 302) 22 0) 23 0) 2 (-1)) 24 0)) 302 (upd (upd (upd (upd (upd (σ 302) 22 0) 23 0) 2 (-1)) 24 0) 25 0)) 302 (upd (upd (upd (upd (upd (upd (σ 302) 22 0) 23 0) 2 (-1)) 24 0) 25 0) 26 0)) 302 (upd (upd (upd (upd (upd (upd (upd (σ 302) 22 0) 23 0) 2 (-1)) 24 0) 25 0) 26 0) 27 0)) ς = enc sw σ2 ς := by
      rw [uA_uA, uA_uA, uA_uA, uA_uA, uA_uA, uA_uA]
    unfold f_X13_reads
    rw [if_pos io_Mo, pf_Mo_22, Option.bind_some, pf_Mo_23, Option.bind_some, pf_Mo_2, Option.bind_some, pf_Mo_24, Option.bind_some, pf_Mo_25, Option.bind_some, pf_Mo_26, Option.bind_some, pf_Mo_27, Option.bind_some]
    simp only [uA_s]
    rw [e2, s1, Option.bind_some, g1, Option.bind_some]
  refine ⟨σ4, hst, (f2.trans fs.n).trans g2, ?_⟩
  cases hp : prs T len 240 (skp T len 0) R0 with
  | ok R => rw [hp] at g3; exact g3
  | error e => rw [hp] at g3; exact ⟨g3.2.2.1, g3.2.2.2⟩
end CM2
