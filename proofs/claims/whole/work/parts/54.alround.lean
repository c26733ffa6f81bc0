section RA
variable {sw : Bool} {ς : Lg} {H D n m s : Nat} {σ0 : Sg}
def RSP (sw : Bool) (ς : Lg) (m s : Nat) (σ0 : Sg) (e : Nat) : Prop := ∀ (k d c g x ho le de : Nat) (q : Nat × Nat) (σ : Sg), d + e = 6 → c + k = m → FM σ0 σ 0 → ND σ d c g x ho le de → g < 64 → cnt g.testBit 0 6 = d → ho < 20 → le ≤ 30 → de ≤ 198 → x < 10 ^ d → σ 302 30 = nI q.1 → σ 302 31 = nI q.2 → q.1 ≤ 6 → IV q d x c →
  ∃ kk σ', kk ≤ tK e k ∧ (∀ f, f_X13_rounds_L68 (f + kk) 302 (nI s) (nI d) (enc sw σ ς) = f_X13_rounds_L68 f 302 (nI s) (nI d + (-1)) (enc sw σ' ς)) ∧ FM σ σ' d ∧
    σ' 302 30 = nI (kd m (fun c => nV (σ0 308) (24 + c)) (zN (σ0 308) (σ0 306) (σ0 307)) (fun c => zN (σ0 308) (σ0 306) (σ0 307) c * zPay (σ0 308) (σ0 304) (σ0 305) s c) e d g x ho le de c k q).1 ∧ σ' 302 31 = nI (kd m (fun c => nV (σ0 308) (24 + c)) (zN (σ0 308) (σ0 306) (σ0 307)) (fun c => zN (σ0 308) (σ0 306) (σ0 307) c * zPay (σ0 308) (σ0 304) (σ0 305) s c) e d g x ho le de c k q).2
theorem rs_lv (hr : I_row (rA sw) σ0 H D n m) (hN : NB n m H (σ0 306) (σ0 307) (σ0 308)) (ha : ∀ c, c < m → σ0 308 (30 + c) = 0 ∨ σ0 308 (30 + c) = 1) (hs : s < n) (e : Nat) (sub : ∀ e', e = e' + 1 → RSP sw ς m s σ0 e') : RSP sw ς m s σ0 e := by
  obtain ⟨⟨r1, r2, r3, r4⟩, r5, r6, -, ⟨d1, d2, d3, d4⟩, -⟩ := id hr
  intro k
  induction k with
  | zero =>
    intro d c g x ho le de q σ hd hc hF hn hg hcnt hho hle hde hx h30 h31 hq6 hiv
    refine ⟨1, σ, ?_, fun f => ?_, FM.refl σ d, ?_, ?_⟩
    · cases e with
      | zero => exact Nat.le_refl 1
      | succ e => show 1 ≤ 0 * (1 + tT e) + 1; omega
    · exact rs_end (by omega) (by rw [hF.2.1 6 (by omega) (by omega)]; exact d4) r4 hn (by omega) (Or.inl (by omega))
    · rw [kd_z]; exact h30
    · rw [kd_z]; exact h31
  | succ k ihk =>
    intro d c g x ho le de q σ hd hc hF hn hg hcnt hho hle hde hx h30 h31 hq6 hiv
    have hcm : c < m := by omega
    have hts := tK_s e k
    by_cases hz : de = 0
    · subst hz
      refine ⟨1, σ, ?_, fun f => ?_, FM.refl σ d, ?_, ?_⟩
      · omega
      · exact rs_end (by omega) (by rw [hF.2.1 6 (by omega) (by omega)]; exact d4) r4 hn (by omega) (Or.inr rfl)
      · rw [kd_0]; exact h30
      · rw [kd_0]; exact h31
    · by_cases hop : opq (fun c => nV (σ0 308) (24 + c)) (zN (σ0 308) (σ0 306) (σ0 307)) g ho le c = true
      · -- gone to
        have hbit : g.testBit c = false := by
          unfold opq at hop
          simp only [Bool.and_eq_true, decide_eq_true_eq, Bool.not_eq_true'] at hop
          exact hop.2.1
        have he : e ≠ 0 := by
          intro he
          have := cnt_full g hg (by omega) c (by omega)
          rw [this] at hbit
          exact absurd hbit (by decide)
        obtain ⟨e', rfl⟩ : ∃ e', e = e' + 1 := ⟨e - 1, by omega⟩
        have hx5 : x < 100000 := Nat.lt_of_lt_of_le hx (Nat.pow_le_pow_right (n := 10) (by omega) (show d ≤ 5 by omega))
        have hP : zN (σ0 308) (σ0 306) (σ0 307) c * zPay (σ0 308) (σ0 304) (σ0 305) s c ≤ 238 := by
          have q2 := zN_le hN hcm
          rcases zPay_or (σ0 308) (σ0 304) (σ0 305) s c with z | z <;> rw [z] <;> omega
        obtain ⟨σ2, hstep, gF, gN, gN2, g30, g31⟩ := rs_goU (sw := sw) (ς := ς) hr hN ha hs hF (show d < 6 by omega) hn hcm (by omega) hg hho hle hde hx5 hop h30 h31 hq6 hiv
        have hF2 : FM σ0 σ2 0 := hF.trans (gF.less (by omega))
        have hx1 : x * 10 + c + 1 < 10 ^ (d + 1) := by rw [Nat.pow_succ]; omega
        have hB := hN.lies hcm r1
        obtain ⟨kk1, σ3, b1, b2, b3, b4, b5⟩ := sub e' rfl m (d + 1) 0 (g ||| 2 ^ c) (x * 10 + c + 1) (nV (σ0 308) (24 + c)) (le - (dst (nV (σ0 308) (24 + c)) ho + zN (σ0 308) (σ0 306) (σ0 307) c)) (de - zN (σ0 308) (σ0 306) (σ0 307) c * zPay (σ0 308) (σ0 304) (σ0 305) s c) (upL (d + 1) (x * 10 + c + 1) q) σ2 (by omega) (by omega) hF2 gN2 (or_lt hg (by omega)) (by rw [cnt_or g hg c (by omega) hbit, hcnt]) (by omega) (by omega) (by omega) hx1 g30 g31 (upL_le hq6 (by omega)) hiv.enter
        rw [← vis_kd] at b4 b5
        have hF3 : FM σ0 σ3 0 := hF2.trans (b3.less (by omega))
        have gN3 := gN.c b3 (by omega)
        obtain ⟨kk2, σ4, c1, c2, c3, c4, c5⟩ := ihk d (c + 1) g x ho le de _ σ3 hd (by omega) hF3 gN3 hg hcnt hho hle hde hx b4 b5 (vis_le m _ _ _ e' _ _ _ _ _ _ q (by omega) hq6) (visI r4 _ _ _ e' d _ x c _ _ _ q hiv)
        have hk1 := tK_le (e := e') (k := m) r4
        refine ⟨1 + kk1 + kk2, σ4, ?_, fun f => ?_, (gF.trans (b3.less (by omega))).trans c3, ?_, ?_⟩
        · have : tK (e' + 1) (k + 1) = (k + 1) * (1 + tT e') + 1 := rfl
          have h2 : tK (e' + 1) k = k * (1 + tT e') + 1 := rfl
          rw [this, Nat.succ_mul]
          omega
        · rw [show f + (1 + kk1 + kk2) = (f + kk2 + kk1) + 1 by omega, hstep, b2, pk_m1]
          exact c2 f
        · rw [kd_yes (by omega) hop]; exact c4
        · rw [kd_yes (by omega) hop]; exact c5
      · -- not gone to
        have hno : opq (fun c => nV (σ0 308) (24 + c)) (zN (σ0 308) (σ0 306) (σ0 307)) g ho le c = false := by simpa using hop
        have hn' : ND (uA σ 317 (upd (σ 317) d (nI (c + 1)))) d (c + 1) g x ho le de := by
          obtain ⟨h1, h2, h3, h4, h5, h7⟩ := hn
          exact ⟨by rw [uA_s, pk_us], by rw [uA_n (by omega)]; exact h2, by rw [uA_n (by omega)]; exact h3, by rw [uA_n (by omega)]; exact h4, by rw [uA_n (by omega)]; exact h5, by rw [uA_n (by omega)]; exact h7⟩
        have gF : FM σ (uA σ 317 (upd (σ 317) d (nI (c + 1)))) d := ⟨fun a z1 z2 => uA_n (by omega), fun j _ _ => by rw [uA_n (by omega)], fun a z1 z2 i z3 => by
          by_cases ea : a = 317
          · subst ea; rw [uA_s, pk_un (by omega)]
          · rw [uA_n ea]⟩
        obtain ⟨kk2, σ4, c1, c2, c3, c4, c5⟩ := ihk d (c + 1) g x ho le de q (uA σ 317 (upd (σ 317) d (nI (c + 1)))) hd (by omega) (hF.trans (gF.less (by omega))) hn' hg hcnt hho hle hde hx (by rw [uA_n (by omega)]; exact h30) (by rw [uA_n (by omega)]; exact h31) hq6 (hiv.mono (by omega))
        refine ⟨1 + kk2, σ4, by omega, fun f => ?_, gF.trans c3, ?_, ?_⟩
        · rw [show f + (1 + kk2) = (f + kk2) + 1 by omega, rs_try hr hN ha hF (by omega) hn hcm (by omega) hg hho hle hde hno]
          exact c2 f
        · rw [kd_no hno]; exact c4
        · rw [kd_no hno]; exact c5
theorem rs_all (hr : I_row (rA sw) σ0 H D n m) (hN : NB n m H (σ0 306) (σ0 307) (σ0 308)) (ha : ∀ c, c < m → σ0 308 (30 + c) = 0 ∨ σ0 308 (30 + c) = 1) (hs : s < n) : ∀ e, RSP sw ς m s σ0 e
  | 0 => rs_lv hr hN ha hs 0 (fun e' h => absurd h (by omega))
  | e + 1 => rs_lv hr hN ha hs (e + 1) (fun e' h => by
    obtain rfl : e' = e := by omega
    exact rs_all hr hN ha hs e')
/-- all ways of the reference -/
theorem rounds_M {σ : Sg} (hr : I_row (rA sw) σ H D n m) (hN : NB n m H (σ 306) (σ 307) (σ 308)) (ha : ∀ c, c < m → σ 308 (30 + c) = 0 ∨ σ 308 (30 + c) = 1) (hs : s < n) (h30 : σ 302 30 = nI 0) (h31 : σ 302 31 = nI 0) :
    ∃ σ', f_X13_rounds 302 (nI s) (enc sw σ ς) = some (enc sw σ' ς) ∧ FM σ σ' 0 ∧
      σ' 302 30 = nI (vis m (fun c => nV (σ 308) (24 + c)) (zN (σ 308) (σ 306) (σ 307)) (fun c => zN (σ 308) (σ 306) (σ 307) c * zPay (σ 308) (σ 304) (σ 305) s c) 6 0 0 0 (nV (σ 308) (12 + s)) (nV (σ 308) (18 + s)) (nV (σ 308) (6 + s)) (0, 0)).1 ∧ σ' 302 31 = nI (vis m (fun c => nV (σ 308) (24 + c)) (zN (σ 308) (σ 306) (σ 307)) (fun c => zN (σ 308) (σ 306) (σ 307) c * zPay (σ 308) (σ 304) (σ 305) s c) 6 0 0 0 (nV (σ 308) (12 + s)) (nV (σ 308) (18 + s)) (nV (σ 308) (6 + s)) (0, 0)).2 := by
  obtain ⟨⟨r1, r2, r3, r4⟩, -⟩ := id hr
  have hat := hN.at_ hs r1
  have hlf := hN.left hs
  have hdb := hN.debt hs
  let σ1 : Sg := uA (uA (uA (uA (uA (uA σ 317 (upd (σ 317) 0 0)) 318 (upd (σ 318) 0 (nI (nV (σ 308) (12 + s))))) 319 (upd (σ 319) 0 (nI (nV (σ 308) (18 + s))))) 320 (upd (σ 320) 0 (nI (nV (σ 308) (6 + s))))) 321 (upd (σ 321) 0 0)) 322 (upd (σ 322) 0 0)
  have o1 : ∀ a, a < 317 → σ1 a = σ a := fun a z => by show uA (uA (uA (uA (uA (uA σ 317 _) 318 _) 319 _) 320 _) 321 _) 322 _ a = _; rw [uA_n (by omega), uA_n (by omega), uA_n (by omega), uA_n (by omega), uA_n (by omega), uA_n (by omega)]
  have hF : FM σ σ1 0 := ⟨fun a z1 _ => o1 a z1, fun j _ _ => by rw [o1 302 (by omega)], fun a _ _ i z => absurd z (by omega)⟩
  have hn : ND σ1 0 0 0 0 (nV (σ 308) (12 + s)) (nV (σ 308) (18 + s)) (nV (σ 308) (6 + s)) := by
    refine ⟨?_, ?_, ?_, ?_, ?_, ?_⟩
    · show uA (uA (uA (uA (uA (uA σ 317 _) 318 _) 319 _) 320 _) 321 _) 322 _ 317 0 = _; rw [uA_n (by omega), uA_n (by omega), uA_n (by omega), uA_n (by omega), uA_n (by omega), uA_s, pk_us]; rfl
    · show uA (uA (uA (uA (uA (uA σ 317 _) 318 _) 319 _) 320 _) 321 _) 322 _ 318 0 = _; rw [uA_n (by omega), uA_n (by omega), uA_n (by omega), uA_n (by omega), uA_s, pk_us]
    · show uA (uA (uA (uA (uA (uA σ 317 _) 318 _) 319 _) 320 _) 321 _) 322 _ 319 0 = _; rw [uA_n (by omega), uA_n (by omega), uA_n (by omega), uA_s, pk_us]
    · show uA (uA (uA (uA (uA (uA σ 317 _) 318 _) 319 _) 320 _) 321 _) 322 _ 320 0 = _; rw [uA_n (by omega), uA_n (by omega), uA_s, pk_us]
    · show uA (uA (uA (uA (uA (uA σ 317 _) 318 _) 319 _) 320 _) 321 _) 322 _ 321 0 = _; rw [uA_n (by omega), uA_s, pk_us]; rfl
    · show uA (uA (uA (uA (uA (uA σ 317 _) 318 _) 319 _) 320 _) 321 _) 322 _ 322 0 = _; rw [uA_s, pk_us]; rfl
  obtain ⟨kk, σ2, k1, k2, k3, k4, k5⟩ := rs_all (ς := ς) hr hN ha hs 6 m 0 0 0 0 (nV (σ 308) (12 + s)) (nV (σ 308) (18 + s)) (nV (σ 308) (6 + s)) (0, 0) σ1 (by omega) (by omega) hF hn (by omega) (by decide) (by omega) hlf.2 hdb.2 (by decide) (by rw [o1 302 (by omega)]; exact h30) (by rw [o1 302 (by omega)]; exact h31) (by show 0 ≤ 6; omega) ⟨Nat.le_refl 0, fun _ => Nat.le_refl 0, fun z => absurd z (by show ¬ 0 < 0; omega)⟩
  have hk6 : kk ≤ 391909 := Nat.le_trans k1 (Nat.le_trans (tK_le (e := 6) r4) (by decide))
  have hrun : ∀ F, 391909 < F → f_X13_rounds_L68 F 302 (nI s) (0 : Int32) (enc sw σ1 ς) = some (enc sw σ2 ς) := by
    intro F hF
    obtain ⟨f, rfl⟩ : ∃ f, F = (f + 1) + kk := ⟨F - kk - 1, by omega⟩
    refine (k2 (f + 1)).trans ?_
    show F_X13_rounds_L68 (f_X13_rounds_L68 f) 302 (nI s) (nI 0 + (-1)) (enc sw σ2 ς) = _
    unfold F_X13_rounds_L68
    rw [if_pos (by decide)]
  have hv : vis m (fun c => nV (σ 308) (24 + c)) (zN (σ 308) (σ 306) (σ 307)) (fun c => zN (σ 308) (σ 306) (σ 307) c * zPay (σ 308) (σ 304) (σ 305) s c) 6 0 0 0 (nV (σ 308) (12 + s)) (nV (σ 308) (18 + s)) (nV (σ 308) (6 + s)) (0, 0) = kd m (fun c => nV (σ 308) (24 + c)) (zN (σ 308) (σ 306) (σ 307)) (fun c => zN (σ 308) (σ 306) (σ 307) c * zPay (σ 308) (σ 304) (σ 305) s c) 6 0 0 0 (nV (σ 308) (12 + s)) (nV (σ 308) (18 + s)) (nV (σ 308) (6 + s)) 0 m (0, 0) := vis_kd _ _ _ _ _ _ _ _ _ _ _ _
  refine ⟨σ2, ?_, hF.trans k3, by rw [hv]; exact k4, by rw [hv]; exact k5⟩
  have l0 : 0 < 7 := by omega
  have z0 : (0 : Int32) = nI 0 := rfl
  have i12 : (12 : Int32) + nI s = nI (12 + s) := nI_add 12 s
  have i18 : (18 : Int32) + nI s = nI (18 + s) := nI_add 18 s
  have i6 : (6 : Int32) + nI s = nI (6 + s) := nI_add 6 s
  have l12 : 12 + s < 51 := by omega
  have l18 : 18 + s < 51 := by omega
  have l6 : 6 + s < 51 := by omega
  have w18 : ∀ (σ : Sg) (x : Int32), aw (enc sw σ ς) 0 317 (0 : Int32) x = some (enc sw (uA σ 317 (upd (σ 317) 0 x)) ς) := fun σ x => aw_317 l0 x
  have w19 : ∀ (σ : Sg) (x : Int32), aw (enc sw σ ς) 0 318 (0 : Int32) x = some (enc sw (uA σ 318 (upd (σ 318) 0 x)) ς) := fun σ x => aw_318 l0 x
  have w20 : ∀ (σ : Sg) (x : Int32), aw (enc sw σ ς) 0 319 (0 : Int32) x = some (enc sw (uA σ 319 (upd (σ 319) 0 x)) ς) := fun σ x => aw_319 l0 x
  have w21 : ∀ (σ : Sg) (x : Int32), aw (enc sw σ ς) 0 320 (0 : Int32) x = some (enc sw (uA σ 320 (upd (σ 320) 0 x)) ς) := fun σ x => aw_320 l0 x
  have w22 : ∀ (σ : Sg) (x : Int32), aw (enc sw σ ς) 0 321 (0 : Int32) x = some (enc sw (uA σ 321 (upd (σ 321) 0 x)) ς) := fun σ x => aw_321 l0 x
  have w23 : ∀ (σ : Sg) (x : Int32), aw (enc sw σ ς) 0 322 (0 : Int32) x = some (enc sw (uA σ 322 (upd (σ 322) 0 x)) ς) := fun σ x => aw_322 l0 x
  unfold f_X13_rounds
  rw [if_pos io_Mo, gr_Mo_32, Option.bind_some, w18, Option.bind_some, gr_Mo_33, Option.bind_some, gr_Mo_11, Option.bind_some, i12, ai_308 l12, Option.bind_some, uA_n (show 308 ≠ 317 by omega), hat.1, w19, Option.bind_some, gr_Mo_34, Option.bind_some, gr_Mo_11, Option.bind_some, i18, ai_308 l18, Option.bind_some, uA_n (show 308 ≠ 318 by omega), uA_n (show 308 ≠ 317 by omega), hlf.1, w20, Option.bind_some, gr_Mo_35, Option.bind_some, gr_Mo_11, Option.bind_some, i6, ai_308 l6, Option.bind_some, uA_n (show 308 ≠ 319 by omega), uA_n (show 308 ≠ 318 by omega), uA_n (show 308 ≠ 317 by omega), hdb.1, w21, Option.bind_some, gr_Mo_36, Option.bind_some, w22, Option.bind_some, gr_Mo_37, Option.bind_some, w23, Option.bind_some]
  rw [uA_n (show 318 ≠ 317 by omega), uA_n (show 319 ≠ 318 by omega), uA_n (show 319 ≠ 317 by omega), uA_n (show 320 ≠ 319 by omega), uA_n (show 320 ≠ 318 by omega), uA_n (show 320 ≠ 317 by omega), uA_n (show 321 ≠ 320 by omega), uA_n (show 321 ≠ 319 by omega), uA_n (show 321 ≠ 318 by omega), uA_n (show 321 ≠ 317 by omega), uA_n (show 322 ≠ 321 by omega), uA_n (show 322 ≠ 320 by omega), uA_n (show 322 ≠ 319 by omega), uA_n (show 322 ≠ 318 by omega), uA_n (show 322 ≠ 317 by omega)]
  rw [show enc sw (uA (uA (uA (uA (uA (uA σ 317 (upd (σ 317) 0 0)) 318 (upd (σ 318) 0 (nI (nV (σ 308) (12 + s))))) 319 (upd (σ 319) 0 (nI (nV (σ 308) (18 + s))))) 320 (upd (σ 320) 0 (nI (nV (σ 308) (6 + s))))) 321 (upd (σ 321) 0 0)) 322 (upd (σ 322) 0 0)) ς = enc sw σ1 ς from rfl, hrun 1000000 (by omega), Option.bind_some]
end RA
theorem al_round (x y : Int32) : Alike (f_X12_round 0 x y) (f_X13_round 302 x y) := by
  intro sw σ ς hI
  obtain ⟨len, H, D, n, m, k, nx, q, e, h⟩ := id hI
  have hcc := h.cc
  have hra := rA_or sw
  obtain ⟨⟨r1, r2, r3, r4⟩, r5, r6, ⟨c1, c2, c3, c4⟩, ⟨d1, d2, d3, d4⟩, -, -⟩ := id h.2.2.1
  by_cases hx : x < 0 ∨ nI n ≤ x
  · refine ⟨-1000000001, sw, σ, ς, sw, σ, ς, ?_, ?_, hI⟩
    · unfold f_X12_round
      rw [if_pos io_LD, gr_LD_1, Option.bind_some, hsC_no c3 hx, bT1_some, if_pos rfl]
    · unfold f_X13_round
      rw [if_pos io_Mo, hsM_no d3 hx, bT1_some, if_pos rfl]
  · obtain ⟨s, hs, rfl⟩ : ∃ j, j < n ∧ x = nI j := by
      rcases pk_ix x (n := n) (by omega) with z | z | z
      · exact absurd (Or.inl z) hx
      · exact absurd (Or.inr z) hx
      · exact z
    by_cases hy : y = 0 ∨ y = 1
    · obtain ⟨σ1, y1, y2, y3, y4⟩ := search_C (ς := ς) hcc hs
      let σ2 : Sg := uA (uA σ1 302 (upd (σ1 302) 30 0)) 302 (upd (uA σ1 302 (upd (σ1 302) 30 0) 302) 31 0)
      have o2 : ∀ a, a ≠ 302 → σ2 a = σ1 a := fun a z => by show uA (uA σ1 302 _) 302 _ a = _; rw [uA_n z, uA_n z]
      have v2 : σ2 302 = upd (upd (σ1 302) 30 0) 31 0 := by show uA (uA σ1 302 _) 302 _ 302 = _; rw [uA_s, uA_s]
      have p2 : ∀ a, (a < 23 ∨ 27 ≤ a) → a ≠ 302 → σ2 a = σ a := fun a z1 z2 => by rw [o2 a z2, y2 a z1]
      have hrow2 : I_row (rA sw) σ2 H D n m := hcc.1.c (fun j hj => p2 _ (by omega) (by omega)) (fun j a b => by rw [v2, pk_un (by omega), pk_un (by omega), y2 302 (by omega)]) (fun j a b => p2 _ (by omega) (by omega))
      obtain ⟨σ3, z1, z2, z3, z4⟩ := rounds_M (ς := ς) hrow2 (by rw [p2 306 (by omega) (by omega), p2 307 (by omega) (by omega), p2 308 (by omega) (by omega)]; exact hcc.2.2) (fun c hc => by rw [p2 308 (by omega) (by omega)]; exact hcc.2.1.asleep hc) hs (by rw [v2]; rfl) (by rw [v2]; rfl)
      rw [p2 308 (by omega) (by omega), p2 306 (by omega) (by omega), p2 307 (by omega) (by omega), p2 304 (by omega) (by omega), p2 305 (by omega) (by omega)] at z3 z4
      have hfin : Inv sw σ3 ς := ⟨len, H, D, n, m, k, nx, q, e, h.off (fun a a1 a2 a3 => by rw [z2.1 a (by omega) a3, p2 a (by omega) a3]) (fun j hj => by rw [z2.2.1 j (by omega) (by omega), v2, pk_un (by omega), pk_un (by omega), y2 302 (by omega)])⟩
      have d3' : σ1 302 5 = nI n := by rw [y2 302 (by omega)]; exact d3
      have z1' : f_X13_rounds 302 (nI s) (enc sw (uA (uA σ1 302 (upd (σ1 302) 30 0)) 302 (upd (uA σ1 302 (upd (σ1 302) 30 0) 302) 31 0)) ς) = some (enc sw σ3 ς) := z1
      rcases hy with hy | hy
      · subst hy
        refine ⟨σ3 302 30, sw, σ1, ς, sw, σ3, ς, ?_, ?_, hfin⟩
        · unfold f_X12_round f_X12_round_26
          rw [if_pos io_LD, gr_LD_1, Option.bind_some, hsC_yes c3 hs r3, bT1_some, if_neg (by decide), if_pos rfl, gr_LD_3, Option.bind_some, gr_LD_1, Option.bind_some, y1, Option.bind_some, if_pos rfl, gr_LD_3, Option.bind_some, gi_Ro_4, Option.bind_some, y3, z3]
        · unfold f_X13_round f_X13_round_23
          rw [if_pos io_Mo, hsM_yes d3' hs r3, bT1_some, if_neg (by decide), if_pos rfl, pf_Mo_30, Option.bind_some, pf_Mo_31, Option.bind_some, z1', Option.bind_some, if_pos rfl, gi_Mo_30, Option.bind_some]
      · subst hy
        refine ⟨σ3 302 31, sw, σ1, ς, sw, σ3, ς, ?_, ?_, hfin⟩
        · unfold f_X12_round f_X12_round_26
          rw [if_pos io_LD, gr_LD_1, Option.bind_some, hsC_yes c3 hs r3, bT1_some, if_neg (by decide), if_neg (by decide), if_pos rfl, gr_LD_3, Option.bind_some, gr_LD_1, Option.bind_some, y1, Option.bind_some, if_neg (by decide), gr_LD_3, Option.bind_some, gi_Ro_5, Option.bind_some, y4, z4]
        · unfold f_X13_round f_X13_round_23
          rw [if_pos io_Mo, hsM_yes d3' hs r3, bT1_some, if_neg (by decide), if_neg (by decide), if_pos rfl, pf_Mo_30, Option.bind_some, pf_Mo_31, Option.bind_some, z1', Option.bind_some, if_neg (by decide), gi_Mo_31, Option.bind_some]
    · have y0 : ¬ y = 0 := fun z => hy (Or.inl z)
      have y1 : ¬ y = 1 := fun z => hy (Or.inr z)
      refine ⟨-1000000002, sw, σ, ς, sw, σ, ς, ?_, ?_, hI⟩
      · unfold f_X12_round
        rw [if_pos io_LD, gr_LD_1, Option.bind_some, hsC_yes c3 hs r3, bT1_some, if_neg (by decide), if_neg y0, if_neg y1]
      · unfold f_X13_round
        rw [if_pos io_Mo, hsM_yes d3 hs r3, bT1_some, if_neg (by decide), if_neg y0, if_neg y1]
