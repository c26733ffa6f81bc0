/-! nights: copying one into another -/
def Nsh (sw : Bool) (p : Nat) : Prop := (shp sw)[p]? = some (mkNight p) ∧ ∀ j, 1 ≤ j → j ≤ 7 → (shp sw)[p + j]? = some (mkI 6)
theorem seven {P : Nat → Prop} (h1 : P 1) (h2 : P 2) (h3 : P 3) (h4 : P 4) (h5 : P 5) (h6 : P 6) (h7 : P 7) : ∀ j, 1 ≤ j → j ≤ 7 → P j := by
  intro j a b
  obtain rfl | rfl | rfl | rfl | rfl | rfl | rfl : j = 1 ∨ j = 2 ∨ j = 3 ∨ j = 4 ∨ j = 5 ∨ j = 6 ∨ j = 7 := by omega
  · exact h1
  · exact h2
  · exact h3
  · exact h4
  · exact h5
  · exact h6
  · exact h7
theorem Nsh_4 (sw : Bool) : Nsh sw 4 := ⟨rfl, seven rfl rfl rfl rfl rfl rfl rfl⟩
theorem Nsh_285 (sw : Bool) : Nsh sw 285 := ⟨rfl, seven rfl rfl rfl rfl rfl rfl rfl⟩
theorem Nsh_294 (sw : Bool) : Nsh sw 294 := ⟨rfl, seven rfl rfl rfl rfl rfl rfl rfl⟩
theorem Nsh_ring (sw : Bool) : ∀ i, i < 30 → Nsh sw (29 + 8 * i)
  | 0, _ => ⟨rfl, seven rfl rfl rfl rfl rfl rfl rfl⟩
  | 1, _ => ⟨rfl, seven rfl rfl rfl rfl rfl rfl rfl⟩
  | 2, _ => ⟨rfl, seven rfl rfl rfl rfl rfl rfl rfl⟩
  | 3, _ => ⟨rfl, seven rfl rfl rfl rfl rfl rfl rfl⟩
  | 4, _ => ⟨rfl, seven rfl rfl rfl rfl rfl rfl rfl⟩
  | 5, _ => ⟨rfl, seven rfl rfl rfl rfl rfl rfl rfl⟩
  | 6, _ => ⟨rfl, seven rfl rfl rfl rfl rfl rfl rfl⟩
  | 7, _ => ⟨rfl, seven rfl rfl rfl rfl rfl rfl rfl⟩
  | 8, _ => ⟨rfl, seven rfl rfl rfl rfl rfl rfl rfl⟩
  | 9, _ => ⟨rfl, seven rfl rfl rfl rfl rfl rfl rfl⟩
  | 10, _ => ⟨rfl, seven rfl rfl rfl rfl rfl rfl rfl⟩
  | 11, _ => ⟨rfl, seven rfl rfl rfl rfl rfl rfl rfl⟩
  | 12, _ => ⟨rfl, seven rfl rfl rfl rfl rfl rfl rfl⟩
  | 13, _ => ⟨rfl, seven rfl rfl rfl rfl rfl rfl rfl⟩
  | 14, _ => ⟨rfl, seven rfl rfl rfl rfl rfl rfl rfl⟩
  | 15, _ => ⟨rfl, seven rfl rfl rfl rfl rfl rfl rfl⟩
  | 16, _ => ⟨rfl, seven rfl rfl rfl rfl rfl rfl rfl⟩
  | 17, _ => ⟨rfl, seven rfl rfl rfl rfl rfl rfl rfl⟩
  | 18, _ => ⟨rfl, seven rfl rfl rfl rfl rfl rfl rfl⟩
  | 19, _ => ⟨rfl, seven rfl rfl rfl rfl rfl rfl rfl⟩
  | 20, _ => ⟨rfl, seven rfl rfl rfl rfl rfl rfl rfl⟩
  | 21, _ => ⟨rfl, seven rfl rfl rfl rfl rfl rfl rfl⟩
  | 22, _ => ⟨rfl, seven rfl rfl rfl rfl rfl rfl rfl⟩
  | 23, _ => ⟨rfl, seven rfl rfl rfl rfl rfl rfl rfl⟩
  | 24, _ => ⟨rfl, seven rfl rfl rfl rfl rfl rfl rfl⟩
  | 25, _ => ⟨rfl, seven rfl rfl rfl rfl rfl rfl rfl⟩
  | 26, _ => ⟨rfl, seven rfl rfl rfl rfl rfl rfl rfl⟩
  | 27, _ => ⟨rfl, seven rfl rfl rfl rfl rfl rfl rfl⟩
  | 28, _ => ⟨rfl, seven rfl rfl rfl rfl rfl rfl rfl⟩
  | 29, _ => ⟨rfl, seven rfl rfl rfl rfl rfl rfl rfl⟩
  | i + 30, h => absurd h (by omega)
theorem nfun_ok : ∀ i, i < 30 → nfun i = some (29 + 8 * i) := by decide +kernel
section CPY
variable {sw : Bool} {σ : Sg} {ς : Lg} {p q : Nat}
theorem ar_night {i : Nat} (hi : i < 30) : ar (enc sw σ ς) 4 28 (nI i) = some (29 + 8 * i) := by
  unfold ar
  rw [enc_get (m := mkN) rfl]
  simp only [mkN]
  rw [if_pos ⟨trivial, nI_in hi (by decide)⟩, nI_clamp (by omega)]
  exact nfun_ok i hi
theorem gr_ng (h : Nsh sw p) {k : Nat} (hk : k < 7) : gr (enc sw σ ς) 4 p k = some (p + (k + 1)) := by
  refine gr_of h.1 (fun _ _ => rfl) (fun f g => ?_)
  obtain rfl | rfl | rfl | rfl | rfl | rfl | rfl : k = 0 ∨ k = 1 ∨ k = 2 ∨ k = 3 ∨ k = 4 ∨ k = 5 ∨ k = 6 := by omega
  all_goals rfl
theorem gi_ng (h : Nsh sw p) {k : Nat} (h1 : 7 ≤ k) (h2 : k ≤ 10) : gi (enc sw σ ς) 4 p k = some (σ p k) := by
  refine gi_of h.1 (fun _ _ => rfl) (fun f g => ?_)
  obtain rfl | rfl | rfl | rfl : k = 7 ∨ k = 8 ∨ k = 9 ∨ k = 10 := by omega
  all_goals rfl
theorem pf_ng (h : Nsh sw p) (x : Int32) {k : Nat} (h1 : 7 ≤ k) (h2 : k ≤ 10) : pf (enc sw σ ς) 4 p k (.int x) = some (enc sw (uA σ p (upd (σ p) k x)) ς) := by
  refine pf_of h.1 (fun _ _ => rfl) x (fun f g => ?_)
  obtain rfl | rfl | rfl | rfl : k = 7 ∨ k = 8 ∨ k = 9 ∨ k = 10 := by omega
  all_goals exact ⟨Nat.le_of_ble_eq_true rfl, rfl⟩
theorem acp_ng (hp : Nsh sw p) (hq : Nsh sw q) {j : Nat} (h1 : 1 ≤ j) (h2 : j ≤ 7) : acp (enc sw σ ς) (q + j) (0 : Int32) (p + j) (0 : Int32) (6 : Int32) = some (enc sw (uA σ (p + j) (va_cpy (σ (q + j)) (σ (p + j)) 0 0 6)) ς) := by
  unfold acp
  rw [enc_get (hq.2 j h1 h2), enc_get (hp.2 j h1 h2)]
  simp only [mkI]
  rw [if_pos (by refine ⟨⟨trivial, trivial⟩, ⟨by decide, by decide, by decide⟩, by decide, by decide⟩)]
  have := enc_set (sw := sw) (σ := σ) (ς := ς) (hp.2 j h1 h2) (va_cpy (σ (q + j)) (σ (p + j)) 0 0 6)
  simp only [mkI] at this
  rw [← this]
  rfl
theorem isO_ng (h : Nsh sw p) : isO (enc sw σ ς) 4 p = true := isO_of h.1 (fun _ _ => rfl)
/-- the arrays, one behind the other -/
def cpA (p q : Nat) (σ : Sg) : Nat → Sg
  | 0 => σ
  | j + 1 => uA (cpA p q σ j) (p + (j + 1)) (va_cpy (cpA p q σ j (q + (j + 1))) (cpA p q σ j (p + (j + 1))) 0 0 6)
theorem cpA_off (p q : Nat) (σ : Sg) : ∀ j a, (a ≤ p ∨ p + j < a) → cpA p q σ j a = σ a
  | 0, a, _ => rfl
  | j + 1, a, h => by
    show uA _ _ _ a = _
    rw [uA_n (by omega)]
    exact cpA_off p q σ j a (by omega)
theorem cpA_on {p q : Nat} (σ : Sg) (hpq : p + 8 ≤ q ∨ q + 8 ≤ p) : ∀ j, j ≤ 7 → ∀ i, 1 ≤ i → i ≤ j → ∀ s, s < 6 → cpA p q σ j (p + i) s = σ (q + i) s
  | 0, _, i, h1, h2 => absurd h2 (by omega)
  | j + 1, hj, i, h1, h2 => by
    intro s hs
    show uA _ _ _ (p + i) s = _
    by_cases e : i = j + 1
    · subst e
      rw [uA_s, pk_cpy_in (by omega) (by omega), cpA_off p q σ j _ (by omega)]
      congr 1
      omega
    · rw [uA_n (by omega)]
      exact cpA_on σ hpq j (by omega) i h1 (by omega) s hs
theorem copy_ok (hp : Nsh sw p) (hq : Nsh sw q) (hpq : p + 8 ≤ q ∨ q + 8 ≤ p) :
    ∃ σ', f_X4_copyFrom p q (enc sw σ ς) = some (enc sw σ' ς) ∧ (∀ a, (a < p ∨ p + 8 ≤ a) → σ' a = σ a) ∧ (∀ j, 1 ≤ j → j ≤ 7 → ∀ s, s < 6 → σ' (p + j) s = σ (q + j) s) ∧ (∀ k, 7 ≤ k → k ≤ 10 → σ' p k = σ q k) := by
  have key : ∀ j, j ≤ 6 → acp (enc sw (cpA p q σ j) ς) (q + (j + 1)) (0 : Int32) (p + (j + 1)) (0 : Int32) (6 : Int32) = some (enc sw (cpA p q σ (j + 1)) ς) := fun j hj => acp_ng hp hq (by omega) (by omega)
  refine ⟨uA (uA (uA (uA (cpA p q σ 7) p (upd (σ p) 7 (σ q 7))) p (upd (upd (σ p) 7 (σ q 7)) 8 (σ q 8))) p (upd (upd (upd (σ p) 7 (σ q 7)) 8 (σ q 8)) 9 (σ q 9))) p (upd (upd (upd (upd (σ p) 7 (σ q 7)) 8 (σ q 8)) 9 (σ q 9)) 10 (σ q 10)), ?_, ?_, ?_, ?_⟩
  · have hcp : cpA p q σ 7 p = σ p := cpA_off p q σ 7 p (by omega)
    have hcq : cpA p q σ 7 q = σ q := cpA_off p q σ 7 q (by omega)
    have hne : q ≠ p := by omega
    unfold f_X4_copyFrom
    rw [if_pos (isO_ng hp)]
    have k0 := key 0 (by omega); have k1 := key 1 (by omega); have k2 := key 2 (by omega); have k3 := key 3 (by omega); have k4 := key 4 (by omega); have k5 := key 5 (by omega); have k6 := key 6 (by omega)
    simp only [show cpA p q σ 0 = σ from rfl, Nat.reduceAdd, Nat.zero_add] at k0 k1 k2 k3 k4 k5 k6
    simp only [gr_ng hq (k := 0) (by omega), gr_ng hp (k := 0) (by omega), gr_ng hq (k := 1) (by omega), gr_ng hp (k := 1) (by omega), gr_ng hq (k := 2) (by omega), gr_ng hp (k := 2) (by omega), gr_ng hq (k := 3) (by omega), gr_ng hp (k := 3) (by omega), gr_ng hq (k := 4) (by omega), gr_ng hp (k := 4) (by omega), gr_ng hq (k := 5) (by omega), gr_ng hp (k := 5) (by omega), gr_ng hq (k := 6) (by omega), gr_ng hp (k := 6) (by omega), Option.bind_some, Nat.reduceAdd, Nat.zero_add, k0, k1, k2, k3, k4, k5, k6]
    simp only [gi_ng hq (k := 7) (by omega) (by omega), gi_ng hq (k := 8) (by omega) (by omega), gi_ng hq (k := 9) (by omega) (by omega), gi_ng hq (k := 10) (by omega) (by omega), pf_ng hp _ (k := 7) (by omega) (by omega), pf_ng hp _ (k := 8) (by omega) (by omega), pf_ng hp _ (k := 9) (by omega) (by omega), pf_ng hp _ (k := 10) (by omega) (by omega), Option.bind_some, uA_s, uA_n hne, hcp, hcq]
  · intro a ha
    rw [uA_n (by omega), uA_n (by omega), uA_n (by omega), uA_n (by omega)]
    exact cpA_off p q σ 7 a (by omega)
  · intro j h1 h2 s hs
    rw [uA_n (by omega), uA_n (by omega), uA_n (by omega), uA_n (by omega)]
    exact cpA_on σ hpq 7 (by omega) j h1 h2 s hs
  · intro k h1 h2
    rw [uA_s]
    obtain rfl | rfl | rfl | rfl : k = 7 ∨ k = 8 ∨ k = 9 ∨ k = 10 := by omega
    all_goals rfl
end CPY
theorem NR.copied {n m p q : Nat} {σ σ' : Sg} {V : Nat → Int32} (h : NR n m σ q V) (hn : n ≤ 6) (hm : m ≤ 6) (e1 : ∀ j, 1 ≤ j → j ≤ 7 → ∀ s, s < 6 → σ' (p + j) s = σ (q + j) s) (e2 : ∀ k, 7 ≤ k → k ≤ 10 → σ' p k = σ q k) : NR n m σ' p V := by
  obtain ⟨h1, h2, ⟨w, w1, w2, w3⟩, h4, h5, h6⟩ := h
  refine NR.intro (fun s hs => ?_) (fun s hs => ?_) (fun s hs => ?_) (fun s hs => ?_) (fun s hs => ?_) (fun s hs => ?_) (fun s hs => ?_) ⟨w, w1, ?_, w3⟩ ?_ ?_ ?_
  · rw [e1 1 (by omega) (by omega) s (by omega)]; exact (h1 s hs).1
  · rw [e1 2 (by omega) (by omega) s (by omega)]; exact (h1 s hs).2.1
  · rw [e1 3 (by omega) (by omega) s (by omega)]; exact (h1 s hs).2.2.1
  · rw [e1 4 (by omega) (by omega) s (by omega)]; exact (h1 s hs).2.2.2
  · rw [e1 5 (by omega) (by omega) s (by omega)]; exact (h2 s hs).1
  · rw [e1 6 (by omega) (by omega) s (by omega)]; exact (h2 s hs).2.1
  · rw [e1 7 (by omega) (by omega) s (by omega)]; exact (h2 s hs).2.2
  · rw [e2 7 (by omega) (by omega)]; exact w2
  · rw [e2 8 (by omega) (by omega)]; exact h4
  · rw [e2 9 (by omega) (by omega)]; exact h5
  · rw [e2 10 (by omega) (by omega)]; exact h6
/-- only the first 51 numbers tell -/
theorem NR.congr {n m p : Nat} {σ : Sg} {V V' : Nat → Int32} (h : NR n m σ p V) (hn : n ≤ 6) (hm : m ≤ 6) (e : ∀ q, q < 51 → V q = V' q) : NR n m σ p V' := by
  obtain ⟨h1, h2, ⟨w, w1, w2, w3⟩, h4, h5, h6⟩ := h
  refine NR.intro (fun s hs => ?_) (fun s hs => ?_) (fun s hs => ?_) (fun s hs => ?_) (fun s hs => ?_) (fun s hs => ?_) (fun s hs => ?_) ⟨w, w1, w2, fun c hc => ?_⟩ ?_ ?_ ?_
  · rw [← e _ (by omega)]; exact (h1 s hs).1
  · rw [← e _ (by omega)]; exact (h1 s hs).2.1
  · rw [← e _ (by omega)]; exact (h1 s hs).2.2.1
  · rw [← e _ (by omega)]; exact (h1 s hs).2.2.2
  · rw [← e _ (by omega)]; exact (h2 s hs).1
  · rw [← e _ (by omega)]; exact (h2 s hs).2.1
  · rw [← e _ (by omega)]; exact (h2 s hs).2.2
  · rw [← e _ (by omega)]; exact w3 c hc
  · rw [← e _ (by omega)]; exact h4
  · rw [← e _ (by omega)]; exact h5
  · rw [← e _ (by omega)]; exact h6
theorem NB.congr {n m H : Nat} {kd sl V V' : Nat → Int32} (h : NB n m H kd sl V) (hn : n ≤ 6) (hm : m ≤ 6) (e : ∀ q, q < 51 → V q = V' q) : NB n m H kd sl V' := by
  obtain ⟨h1, h2, h3, h4, h5⟩ := h
  refine ⟨fun s hs => ?_, fun c hc => ?_, ?_, ?_, ?_⟩
  · rw [← e _ (by omega), ← e _ (by omega), ← e _ (by omega), ← e _ (by omega)]; exact h1 s hs
  · rw [← e (24 + c) (by omega), ← e (36 + c) (by omega), ← e (42 + c) (by omega), ← e (30 + c) (by omega)]; exact h2 c hc
  · rw [← e _ (by omega)]; exact h3
  · rw [← e _ (by omega)]; exact h4
  · rw [← e _ (by omega)]; exact h5
/-- the class's ring holds k nights, L 0 the eldest -/
def PC (n m : Nat) (σ : Sg) (k nx : Nat) (L : Nat → Nat → Int32) : Prop := k ≤ 30 ∧ nx < 30 ∧ σ 27 1 = nI nx ∧ σ 27 2 = nI k ∧ ∀ j, j < k → NR n m σ (29 + 8 * ((nx + 30 - k + j) % 30)) (L j)
/-- the reference's rows hold them -/
def PM (σ : Sg) (k : Nat) (L : Nat → Nat → Int32) : Prop := σ 302 13 = nI k ∧ ∀ j, j < k → ∀ q, q < 51 → σ 309 (51 * j + q) = L j q
/-- one more, the eldest gone where there are thirty -/
def kPsh (k : Nat) : Nat := if k = 30 then 30 else k + 1
def lPsh (k : Nat) (L : Nat → Nat → Int32) (V : Nat → Int32) : Nat → Nat → Int32 := fun j => if j + 1 = kPsh k then V else if k = 30 then L (j + 1) else L j
theorem kPsh_le {k : Nat} (h : k ≤ 30) : kPsh k ≤ 30 ∧ 1 ≤ kPsh k := by unfold kPsh; split <;> omega
theorem I_past.pc {σ : Sg} {H n m k nx : Nat} (h : I_past σ H n m k nx) : PC n m σ k nx (fun j q => σ 309 (51 * j + q)) ∧ PM σ k (fun j q => σ 309 (51 * j + q)) ∧ ∀ j, j < k → NB n m H (σ 306) (σ 307) (fun q => σ 309 (51 * j + q)) :=
  ⟨⟨h.1, h.2.1, h.2.2.1, h.2.2.2.1, fun j hj => (h.2.2.2.2.2 j hj).1⟩, ⟨h.2.2.2.2.1, fun _ _ _ _ => rfl⟩, fun j hj => (h.2.2.2.2.2 j hj).2⟩
theorem I_past.of {σ : Sg} {H n m k nx : Nat} {L : Nat → Nat → Int32} (hc : PC n m σ k nx L) (hm : PM σ k L) (hb : ∀ j, j < k → NB n m H (σ 306) (σ 307) (L j)) (hn6 : n ≤ 6) (hm6 : m ≤ 6) : I_past σ H n m k nx := by
  obtain ⟨c1, c2, c3, c4, c5⟩ := hc
  exact ⟨c1, c2, c3, c4, hm.1, fun j hj => ⟨(c5 j hj).congr hn6 hm6 fun q hq => (hm.2 j hj q hq).symm, (hb j hj).congr hn6 hm6 fun q hq => (hm.2 j hj q hq).symm⟩⟩
section REM
variable {sw : Bool} {σ : Sg} {ς : Lg} {V : Nat → Int32} {H D n m k nx : Nat} {L : Nat → Nat → Int32}
theorem remember_C (h : CC sw σ V H D n m) (hp : PC n m σ k nx L) :
    ∃ σ', f_X6_remember 27 4 (enc sw σ ς) = some (enc sw σ' ς) ∧ CC sw σ' V H D n m ∧ PC n m σ' (kPsh k) ((nx + 1) % 30) (lPsh k L V) ∧ ∀ a, (a < 27 ∨ 269 ≤ a) → σ' a = σ a := by
  obtain ⟨⟨r1, r2, r3, r4⟩, -⟩ := id h.1
  obtain ⟨p1, p2, p3, p4, p5⟩ := hp
  obtain ⟨σ1, f1, o1, a1, b1⟩ := copy_ok (σ := σ) (ς := ς) (Nsh_ring sw nx p2) (Nsh_4 sw) (by omega)
  have e27 : σ1 27 = σ 27 := o1 27 (by omega)
  have hrem : nI nx + (1 : Int32) - (nI nx + (1 : Int32)) / (30 : Int32) * (30 : Int32) = nI ((nx + 1) % 30) := by
    rw [nI_1]; exact pk_rem (d := 30) (by omega) (by omega) (by omega)
  have hcnt : (if nI k + (1 : Int32) < (30 : Int32) then nI k + (1 : Int32) else (30 : Int32)) = nI (kPsh k) := by
    rw [nI_1]
    have h0 := min_C (a := 30) (b := k + 1) (by omega) (by omega)
    refine Eq.trans h0 ?_
    congr 1
    unfold kPsh
    split <;> omega
  have hoff : ∀ a, (a < 27 ∨ 269 ≤ a) → uA (uA σ1 27 (upd (σ 27) 1 (nI ((nx + 1) % 30)))) 27 (upd (upd (σ 27) 1 (nI ((nx + 1) % 30))) 2 (nI (kPsh k))) a = σ a := by
    intro a ha
    rw [uA_n (by omega), uA_n (by omega)]
    exact o1 a (by omega)
  have hslot : ∀ a, 29 ≤ a → uA (uA σ1 27 (upd (σ 27) 1 (nI ((nx + 1) % 30)))) 27 (upd (upd (σ 27) 1 (nI ((nx + 1) % 30))) 2 (nI (kPsh k))) a = σ1 a := by
    intro a ha
    rw [uA_n (by omega), uA_n (by omega)]
  refine ⟨uA (uA σ1 27 (upd (σ 27) 1 (nI ((nx + 1) % 30)))) 27 (upd (upd (σ 27) 1 (nI ((nx + 1) % 30))) 2 (nI (kPsh k))), ?_, ⟨h.1.c ?_ ?_ ?_, h.2.1.c ?_, ?_⟩, ?_, hoff⟩
  · simp only [f_X6_remember, if_true, ite_true, reduceIte, Option.bind_some, Option.bind_none, bT1_some, io_LD, io_Rd, io_Mt, io_Nt, io_Pl, io_Ro, io_Pa, io_Te, io_Bo, io_Ia, io_Ib, io_Mo, io_Ra, io_Rb, gr_LD_0, gr_LD_1, gr_LD_2, gr_LD_3, gr_LD_4, gr_LD_5, gr_LD_6, gr_LD_7, gr_LD_8, gr_Rd_0, gr_Mt_0, gr_Mt_1, gr_Nt_0, gr_Nt_1, gr_Nt_2, gr_Nt_3, gr_Nt_4, gr_Nt_5, gr_Nt_6, gr_Pl_0, gr_Pl_1, gr_Ro_0, gr_Ro_1, gr_Ro_2, gr_Pa_0, gr_Te_0, gr_Te_1, gr_Bo_0, gr_Bo_1, gr_Ia_0, gr_Ib_0, gr_Mo_0, gr_Mo_7, gr_Mo_8, gr_Mo_9, gr_Mo_10, gr_Mo_11, gr_Mo_12, gr_Mo_15, gr_Mo_16, gr_Mo_17, gr_Mo_18, gr_Mo_20, gr_Mo_28, gr_Mo_29, gr_Mo_32, gr_Mo_33, gr_Mo_34, gr_Mo_35, gr_Mo_36, gr_Mo_37, gr_Ra_0, gr_Ra_1, gr_Ra_2, gr_Ra_3, gr_Ra_4, gr_Ra_5, gr_Ra_6, gr_Rb_0, gr_Rb_1, gr_Rb_2, gr_Rb_3, gr_Rb_4, gr_Rb_5, gr_Rb_6, gi_LD_9, gi_Rd_1, gi_Rd_2, gi_Rd_3, gi_Rd_4, gi_Nt_7, gi_Nt_8, gi_Nt_9, gi_Nt_10, gi_Pl_2, gi_Pl_3, gi_Ro_3, gi_Ro_4, gi_Ro_5, gi_Pa_1, gi_Pa_2, gi_Te_2, gi_Bo_2, gi_Ia_1, gi_Ia_2, gi_Ib_1, gi_Ib_2, gi_Mo_1, gi_Mo_2, gi_Mo_3, gi_Mo_4, gi_Mo_5, gi_Mo_6, gi_Mo_13, gl_Mo_14, gi_Mo_19, gi_Mo_21, gi_Mo_22, gi_Mo_23, gi_Mo_24, gi_Mo_25, gi_Mo_26, gi_Mo_27, gi_Mo_30, gi_Mo_31, gi_Ra_7, gi_Ra_8, gi_Ra_9, gi_Ra_10, gi_Rb_7, gi_Rb_8, gi_Rb_9, gi_Rb_10, pf_LD_9, pf_Rd_1, pf_Rd_2, pf_Rd_3, pf_Rd_4, pf_Nt_7, pf_Nt_8, pf_Nt_9, pf_Nt_10, pf_Pl_2, pf_Pl_3, pf_Ro_3, pf_Ro_4, pf_Ro_5, pf_Pa_1, pf_Pa_2, pf_Te_2, pf_Bo_2, pf_Ia_1, pf_Ia_2, pf_Ib_1, pf_Ib_2, pf_Mo_1, pf_Mo_2, pf_Mo_3, pf_Mo_4, pf_Mo_5, pf_Mo_6, pf_Mo_13, pl_Mo_14, pf_Mo_19, pf_Mo_21, pf_Mo_22, pf_Mo_23, pf_Mo_24, pf_Mo_25, pf_Mo_26, pf_Mo_27, pf_Mo_30, pf_Mo_31, pf_Ra_7, pf_Ra_8, pf_Ra_9, pf_Ra_10, pf_Rb_7, pf_Rb_8, pf_Rb_9, pf_Rb_10, p3, ar_night p2, f1, e27, hrem, uA_s, show upd (σ 27) 1 (nI ((nx + 1) % 30)) 2 = σ 27 2 from rfl, p4, hcnt]
  · intro j hj; have := rA_or sw; exact hoff _ (by omega)
  · intro j h1 h2; rw [hoff 302 (by omega)]
  · intro j h1 h2; exact hoff j (by omega)
  · intro j hj; exact hoff _ (by omega)
  · rw [hoff 306 (by omega), hoff 307 (by omega)]; exact h.2.2
  · have hk := kPsh_le p1
    refine ⟨hk.1, Nat.mod_lt _ (by omega), by rw [uA_s]; rfl, by rw [uA_s]; rfl, fun j hj => ?_⟩
    unfold lPsh
    by_cases e : j + 1 = kPsh k
    · rw [if_pos e]
      have hs : ((nx + 1) % 30 + 30 - kPsh k + j) % 30 = nx := by omega
      rw [hs]
      refine NR.c (NR.copied h.2.1 r3 r4 a1 b1) fun i hi => hslot _ (by omega)
    · rw [if_neg e]
      unfold kPsh at e hj ⊢
      by_cases e2 : k = 30
      · rw [if_pos e2] at e hj ⊢
        rw [if_pos e2]
        have hs : ((nx + 1) % 30 + 30 - 30 + j) % 30 = (nx + 30 - k + (j + 1)) % 30 := by omega
        rw [hs]
        refine (p5 (j + 1) (by omega)).c fun i hi => ?_
        rw [uA_n (by omega), uA_n (by omega)]
        have hne : (nx + 30 - k + (j + 1)) % 30 ≠ nx := by omega
        exact o1 _ (by omega)
      · rw [if_neg e2] at e hj ⊢
        rw [if_neg e2]
        have hs : ((nx + 1) % 30 + 30 - (k + 1) + j) % 30 = (nx + 30 - k + j) % 30 := by omega
        rw [hs]
        refine (p5 j (by omega)).c fun i hi => ?_
        rw [uA_n (by omega), uA_n (by omega)]
        have hne : (nx + 30 - k + j) % 30 ≠ nx := by omega
        exact o1 _ (by omega)
end REM
