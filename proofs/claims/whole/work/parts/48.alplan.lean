/-- cells that no promise looks at -/
theorem InvG.off {sw : Bool} {σ σ' : Sg} {ς : Lg} {len H D n m k nx q e : Nat} (h : InvG sw σ ς len H D n m k nx q e) (o : ∀ a, (a < 20 ∨ 27 ≤ a) → a < 315 → a ≠ 302 → σ' a = σ a) (o3 : ∀ j, j ≤ 21 → σ' 302 j = σ 302 j) : InvG sw σ' ς len H D n m k nx q e := by
  obtain ⟨h1, h2, h3, h4, h5, h6, h7, h8, h9⟩ := h
  have hra := rA_or sw
  refine ⟨h1.c ?_ ?_ ?_ ?_, ?_, h3.c ?_ ?_ ?_, h4.c ?_ ?_, h5.c ?_ ?_ ?_ ?_, h6.c ?_ rfl, h7.c ?_ ?_ ?_ rfl ?_, h8.c ?_ ?_ ?_ ?_ ?_, h9.c ?_ ?_ ?_ ?_ ?_⟩
  · rw [o 1 (by omega) (by omega) (by omega)]
  · exact o3 1 (by omega)
  · exact o 2 (by omega) (by omega) (by omega)
  · exact o 303 (by omega) (by omega) (by omega)
  · rw [o 1 (by omega) (by omega) (by omega), o3 2 (by omega)]; exact h2
  · intro j hj; exact o _ (by omega) (by omega) (by omega)
  · intro j a b; exact o3 j (by omega)
  · intro j a b; exact o j (by omega) (by omega) (by omega)
  · intro j hj; exact o _ (by omega) (by omega) (by omega)
  · intro j a b; exact o j (by omega) (by omega) (by omega)
  · intro j a b; exact o j (by omega) (by omega) (by omega)
  · exact o3 13 (by omega)
  · exact o 309 (by omega) (by omega) (by omega)
  · intro j a b; exact o j (by omega) (by omega) (by omega)
  · rw [o 0 (by omega) (by omega) (by omega)]
  · intro j a b; exact o j (by omega) (by omega) (by omega)
  · exact o 312 (by omega) (by omega) (by omega)
  · exact o 310 (by omega) (by omega) (by omega)
  · intro j a b; exact o j (by omega) (by omega) (by omega)
  · rw [o 269 (by omega) (by omega) (by omega)]
  · exact o3 19 (by omega)
  · exact o 270 (by omega) (by omega) (by omega)
  · exact o 271 (by omega) (by omega) (by omega)
  · exact o 313 (by omega) (by omega) (by omega)
  · rw [o 272 (by omega) (by omega) (by omega)]
  · exact o3 21 (by omega)
  · exact o 273 (by omega) (by omega) (by omega)
  · exact o 274 (by omega) (by omega) (by omega)
  · exact o 314 (by omega) (by omega) (by omega)
def fstQ (Q : Nat → Bool) : Nat → Nat → Option Nat
  | _, 0 => none
  | i, d + 1 => if Q i = true then some i else fstQ Q (i + 1) d
theorem fstQ_s (Q : Nat → Bool) (i d : Nat) : fstQ Q i (d + 1) = if Q i = true then some i else fstQ Q (i + 1) d := rfl
theorem fstQ_lt {Q : Nat → Bool} : ∀ d i c, fstQ Q i d = some c → i ≤ c ∧ c < i + d
  | 0, i, c, h => by cases h
  | d + 1, i, c, h => by
    rw [fstQ_s] at h
    by_cases hq : Q i = true
    · rw [if_pos hq] at h
      cases h
      omega
    · rw [if_neg hq] at h
      have := fstQ_lt d (i + 1) c h
      omega
/-- the first, or else r -/
def orE (o : Option Nat) (r : Int32) : Int32 := match o with | some c => nI c | none => r
theorem orE_n (r : Int32) : orE none r = r := rfl
theorem orE_s (c : Nat) (r : Int32) : orE (some c) r = nI c := rfl
theorem fstQ_snoc {Q : Nat → Bool} (r : Int32) : ∀ d i, orE (fstQ Q i (d + 1)) r = orE (fstQ Q i d) (if Q (i + d) = true then nI (i + d) else r)
  | 0, i => by
    show orE (if Q i = true then some i else none) r = (if Q i = true then nI i else r)
    by_cases h : Q i = true
    · rw [if_pos h, if_pos h]; rfl
    · rw [if_neg h, if_neg h]; rfl
  | d + 1, i => by
    rw [fstQ_s, fstQ_s Q i d]
    by_cases h : Q i = true
    · rw [if_pos h, if_pos h]; rfl
    · rw [if_neg h, if_neg h, fstQ_snoc r d (i + 1), show i + 1 + d = i + (d + 1) by omega]
theorem neg1 : ∀ c, c < 6 → ¬ nI c = (-1 : Int32) := by decide +kernel
/-- who is sung to first among the best -/
def zQ (W : Nat → Nat → Nat) (n m s t : Nat) : Nat → Bool := fun c => opn W s t c && decide (W s c + bsR W m (n - (s + 1)) (s + 1) (t ||| 2 ^ c) = bsR W m (n - s) s t)
section CH
variable {sw : Bool} {ς : Lg} {H D n m : Nat} {W : Nat → Nat → Nat}
theorem first_L2 {σ : Sg} (h : PL σ n m W) (hT : TB σ 22 n m 0 (2 ^ m) W) (hW : ∀ s c, W s c ≤ 198) {s t : Nat} (hs : s < n) (hn : n ≤ 6) (hm : m ≤ 6) (ht : t < 2 ^ m) : ∀ (d i f : Nat), i + d = m → d < f → f_X7_firstBest_L2 f 20 (nI s) (nI t) (nI i) (enc sw σ ς) = some (match fstQ (zQ W n m s t) i d with | some c => .inl (nI c, enc sw σ ς) | none => .inr (enc sw σ ς)) := by
  have ht6 := two_le ht hm
  intro d
  induction d with
  | zero =>
    intro i f hi hf
    obtain ⟨f, rfl⟩ : ∃ f', f = f' + 1 := ⟨f - 1, by omega⟩
    show F_X7_firstBest_L2 (f_X7_firstBest_L2 f) 20 (nI s) (nI t) (nI i) (enc sw σ ς) = _
    unfold F_X7_firstBest_L2
    rw [gi_Pl_3, Option.bind_some, h.2.1, if_pos (nI_le (show m ≤ i by omega) (by omega))]
    rfl
  | succ d ih =>
    intro i f hi hf
    obtain ⟨f, rfl⟩ : ∃ f', f = f' + 1 := ⟨f - 1, by omega⟩
    have him : i < m := by omega
    have hw := hW s i
    have hbs := bsR_le (m := m) hW (n - (s + 1)) (s + 1) (t ||| 2 ^ i)
    have hbs2 := bsR_le (m := m) hW (n - s) s t
    have hix : nI s * (64 : Int32) + nI t = nI (s * 64 + t) := by rw [show (64 : Int32) = nI 64 from rfl, pk_mul, nI_add]
    have l1 : s * 64 + t < 448 := by omega
    show F_X7_firstBest_L2 (f_X7_firstBest_L2 f) 20 (nI s) (nI t) (nI i) (enc sw σ ς) = _
    unfold F_X7_firstBest_L2
    rw [gi_Pl_3, Option.bind_some, h.2.1, if_neg (nI_ge him (by omega)), open_C h hW hs him hn hm ht6, bT1_some, reach_C (k := n - (s + 1)) h hs him hn hm ht (fun t z => hT (s + 1) (by omega) (by omega) t z), bT1_some, gr_Pl_1, Option.bind_some, hix, ai_22 l1, Option.bind_some, hT s (by omega) (by omega) t ht, nI_1, ih (i + 1) f (by omega) (by omega), fstQ_s]
    unfold zQ
    by_cases hp : opn W s t i = true
    · rw [if_pos hp, if_neg (by decide)]
      by_cases he : W s i + bsR W m (n - (s + 1)) (s + 1) (t ||| 2 ^ i) = bsR W m (n - s) s t
      · rw [if_pos (by rw [he]), if_pos (by simp [hp, he])]
      · rw [if_neg (fun z => he ((nI_eq (by omega) (by omega)).mp z)), if_neg (by simp [he])]
    · rw [if_neg hp, if_pos rfl, if_neg (by simp [hp])]
theorem first_C {σ : Sg} (h : PL σ n m W) (hT : TB σ 22 n m 0 (2 ^ m) W) (hW : ∀ s c, W s c ≤ 198) {s t : Nat} (hs : s < n) (hn : n ≤ 6) (hm : m ≤ 6) (ht : t < 2 ^ m) : f_X7_firstBest 20 (nI s) (nI t) (enc sw σ ς) = some (orE (fstQ (zQ W n m s t) 0 m) (-1), enc sw σ ς) := by
  have hrun : ∀ f, 6 < f → f_X7_firstBest_L2 f 20 (nI s) (nI t) (0 : Int32) (enc sw σ ς) = _ := fun f hf => first_L2 h hT hW hs hn hm ht m 0 f (by omega) (by omega)
  unfold f_X7_firstBest
  rw [if_pos io_Pl, hrun 1000000 (by omega)]
  cases fstQ (zQ W n m s t) 0 m <;> rfl
theorem find_L56 {σ : Sg} (h : I_row (rA sw) σ H D n m) (hN : NB n m H (σ 306) (σ 307) (σ 308)) (ha : ∀ c, c < m → σ 308 (30 + c) = 0 ∨ σ 308 (30 + c) = 1) (hWe : W = zWc false (σ 308) (σ 306) (σ 307) (σ 304) (σ 305) n m) (hT : TB σ 316 n m 0 64 W) {s t : Nat} (v1 : Int32) (hs : s < n) (ht : t < 64) : ∀ (j f : Nat) (r : Int32), j ≤ m → j < f → f_X13_plan_L56 f 302 v1 (nI t) r (nI s) (nI j + (-1)) (enc sw σ ς) = some (orE (fstQ (zQ W n m s t) 0 j) r, enc sw σ ς) := by
  obtain ⟨⟨r1, r2, r3, r4⟩, -⟩ := id h
  have hW : ∀ s c, W s c ≤ 198 := by rw [hWe]; exact zWc_le hN
  intro j
  induction j with
  | zero =>
    intro f r hj hf
    obtain ⟨f, rfl⟩ : ∃ f', f = f' + 1 := ⟨f - 1, by omega⟩
    show F_X13_plan_L56 (f_X13_plan_L56 f) 302 v1 (nI t) r (nI s) (nI 0 + (-1)) (enc sw σ ς) = _
    unfold F_X13_plan_L56
    rw [if_pos (by decide)]
    rfl
  | succ j ih =>
    intro f r hj hf
    obtain ⟨f, rfl⟩ : ∃ f', f = f' + 1 := ⟨f - 1, by omega⟩
    have hjm : j < m := by omega
    have hw := hW s j
    have hbs := bsR_le (m := m) hW (n - (s + 1)) (s + 1) (t ||| 2 ^ j)
    have hbs2 := bsR_le (m := m) hW (n - s) s t
    have hor := or_lt ht (show j < 6 by omega)
    have hix : (64 : Int32) * nI s + nI t = nI (s * 64 + t) := by rw [show (64 : Int32) = nI 64 from rfl, pk_mul, nI_add, Nat.mul_comm 64]
    have l1 : s * 64 + t < 448 := by omega
    have hiy : (64 : Int32) * (nI s + (1 : Int32)) + (nI t ||| ((1 : Int32) <<< (nI j &&& 31))) = nI ((s + 1) * 64 + (t ||| 2 ^ j)) := by rw [or_ok t ht j (by omega), nI_1, show (64 : Int32) = nI 64 from rfl, pk_mul, nI_add, Nat.mul_comm 64]
    have l2 : (s + 1) * 64 + (t ||| 2 ^ j) < 448 := by omega
    have hpay : nI (zPm (σ 308) (σ 306) (σ 307) (σ 304) (σ 305) s j) = nI (W s j) := by rw [hWe, zWc_in hs hjm]; rfl
    rw [fstQ_snoc, Nat.zero_add]
    show F_X13_plan_L56 (f_X13_plan_L56 f) 302 v1 (nI t) r (nI s) (nI (j + 1) + (-1)) (enc sw σ ς) = _
    rw [pk_m1]
    unfold F_X13_plan_L56 f_X13_plan_85 f_X13_plan_86
    rw [if_neg (nI_pos (by omega)), bit_ok t ht j (by omega), could_M h hN (ha j hjm) hs hjm, bT1_some]
    have key : ∀ r', f_X13_plan_L56 f 302 v1 (nI t) r' (nI s) (nI j + (-1)) (enc sw σ ς) = some (orE (fstQ (zQ W n m s t) 0 j) r', enc sw σ ς) := fun r' => ih f r' (by omega) (by omega)
    by_cases hbit : t.testBit j = true
    · have hp : ¬ zQ W n m s t j = true := by unfold zQ opn; simp [hbit]
      rw [if_pos hbit, if_neg (by decide), if_pos rfl, if_neg hp]
      exact key r
    · rw [if_neg hbit, if_pos rfl]
      by_cases hz : zCan (σ 308) (σ 306) (σ 307) s j = true
      · have hp : opn W s t j = true := by
          have := (zWc_pos (hd := false) (vo := σ 304) (ho := σ 305) hN hs hjm).mpr hz
          rw [← hWe] at this
          unfold opn; simp [hbit, this]
        rw [if_pos hz, if_neg (by decide), if_neg (by decide), payment_M h hN (ha j hjm) hs hjm, bT1_some, gr_Mo_29, Option.bind_some, hiy, ai_316 l2, Option.bind_some, Option.bind_some, hix, ai_316 l1, Option.bind_some, hT (s + 1) (by omega) (by omega) _ hor, hT s (by omega) (by omega) t ht, hpay, nI_add]
        by_cases he : W s j + bsR W m (n - (s + 1)) (s + 1) (t ||| 2 ^ j) = bsR W m (n - s) s t
        · rw [if_pos (by rw [he]), if_pos (by unfold zQ; simp [hp, he])]
          exact key (nI j)
        · rw [if_neg (fun z => he ((nI_eq (by omega) (by omega)).mp z)), if_neg (by unfold zQ; simp [he])]
          exact key r
      · have hp : ¬ zQ W n m s t j = true := by
          intro hp
          unfold zQ opn at hp
          simp only [Bool.and_eq_true, decide_eq_true_eq] at hp
          have h2 := hp.1.2
          rw [hWe] at h2
          exact hz ((zWc_pos hN hs hjm).mp h2)
        rw [if_neg hz, if_pos rfl, if_pos rfl, if_neg hp]
        exact key r
theorem child_L {σ1 σ2 : Sg} (hp : PL σ1 n m W) (hT1 : TB σ1 22 n m 0 (2 ^ m) W) (h : I_row (rA sw) σ2 H D n m) (hN : NB n m H (σ2 306) (σ2 307) (σ2 308)) (ha : ∀ c, c < m → σ2 308 (30 + c) = 0 ∨ σ2 308 (30 + c) = 1) (hWe : W = zWc false (σ2 308) (σ2 306) (σ2 307) (σ2 304) (σ2 305) n m) (hT2 : TB σ2 316 n m 0 64 W) {S : Nat} (hS : S < n) : ∀ (d s f g t : Nat) (r : Int32), s + d = S + 1 → d < f → d < g → t < 2 ^ m →
    ∃ r', f_X7_childOf_L18 f 20 (nI S) (nI t) r (nI s) (enc sw σ1 ς) = some (r', enc sw σ1 ς) ∧ f_X13_plan_L40 g 302 (nI S) (nI t) r (nI s) (enc sw σ2 ς) = some (r', enc sw σ2 ς) := by
  obtain ⟨⟨r1, r2, r3, r4⟩, r5, r6, -, ⟨d1, d2, d3, d4⟩, -⟩ := id h
  have hW : ∀ s c, W s c ≤ 198 := by rw [hWe]; exact zWc_le hN
  intro d
  induction d with
  | zero =>
    intro s f g t r hs hf hg ht
    obtain ⟨f, rfl⟩ : ∃ f', f = f' + 1 := ⟨f - 1, by omega⟩
    obtain ⟨g, rfl⟩ : ∃ g', g = g' + 1 := ⟨g - 1, by omega⟩
    refine ⟨r, ?_, ?_⟩
    · show F_X7_childOf_L18 (f_X7_childOf_L18 f) 20 (nI S) (nI t) r (nI s) (enc sw σ1 ς) = _
      unfold F_X7_childOf_L18
      rw [if_pos (nI_lt (by omega) (by omega))]
    · show F_X13_plan_L40 (f_X13_plan_L40 g) 302 (nI S) (nI t) r (nI s) (enc sw σ2 ς) = _
      unfold F_X13_plan_L40
      rw [if_pos (nI_lt (by omega) (by omega))]
  | succ d ih =>
    intro s f g t r hs hf hg ht
    obtain ⟨f, rfl⟩ : ∃ f', f = f' + 1 := ⟨f - 1, by omega⟩
    obtain ⟨g, rfl⟩ : ∃ g', g = g' + 1 := ⟨g - 1, by omega⟩
    have ht6 := two_le ht r4
    have hf1 := first_C (sw := sw) (ς := ς) hp hT1 hW (show s < n by omega) r3 r4 ht
    have hf2 : ∀ k, 6 < k → f_X13_plan_L56 k 302 (nI S) (nI t) (-1) (nI s) (nI m + (-1)) (enc sw σ2 ς) = _ := fun k hk => find_L56 h hN ha hWe hT2 (nI S) (show s < n by omega) ht6 m k (-1) (Nat.le_refl m) (by omega)
    cases hq : fstQ (zQ W n m s t) 0 m with
    | none =>
      rw [hq, orE_n] at hf1 hf2
      obtain ⟨r', x1, x2⟩ := ih (s + 1) f g t (-1) (by omega) (by omega) (by omega) ht
      refine ⟨r', ?_, ?_⟩
      · show F_X7_childOf_L18 (f_X7_childOf_L18 f) 20 (nI S) (nI t) r (nI s) (enc sw σ1 ς) = _
        unfold F_X7_childOf_L18
        rw [if_neg (nI_nlt (by omega) (by omega)), hf1, bT1_some, if_pos rfl, nI_1]
        exact x1
      · show F_X13_plan_L40 (f_X13_plan_L40 g) 302 (nI S) (nI t) r (nI s) (enc sw σ2 ς) = _
        unfold F_X13_plan_L40
        rw [if_neg (nI_nlt (by omega) (by omega)), gi_Mo_6, Option.bind_some, d4, sub1, hf2 1000000 (by omega), bT1_some, if_pos rfl, or_0, nI_1]
        exact x2
    | some c =>
      rw [hq, orE_s] at hf1 hf2
      have hc := fstQ_lt m 0 c hq
      have hne := neg1 c (by omega)
      obtain ⟨r', x1, x2⟩ := ih (s + 1) f g (t ||| 2 ^ c) (nI c) (by omega) (by omega) (by omega) (Nat.or_lt_two_pow ht (Nat.pow_lt_pow_right (by omega) (by omega)))
      have ho := or_ok t ht6 c (by omega)
      refine ⟨r', ?_, ?_⟩
      · show F_X7_childOf_L18 (f_X7_childOf_L18 f) 20 (nI S) (nI t) r (nI s) (enc sw σ1 ς) = _
        unfold F_X7_childOf_L18
        rw [if_neg (nI_nlt (by omega) (by omega)), hf1, bT1_some, if_neg hne, nI_1]
        show f_X7_childOf_L18 f 20 (nI S) (nI t ||| ((1 : Int32) <<< (nI c &&& 31))) (nI c) (nI (s + 1)) (enc sw σ1 ς) = _
        rw [ho]
        exact x1
      · show F_X13_plan_L40 (f_X13_plan_L40 g) 302 (nI S) (nI t) r (nI s) (enc sw σ2 ς) = _
        unfold F_X13_plan_L40
        rw [if_neg (nI_nlt (by omega) (by omega)), gi_Mo_6, Option.bind_some, d4, sub1, hf2 1000000 (by omega), bT1_some, if_neg hne, nI_1]
        show f_X13_plan_L40 g 302 (nI S) (nI t ||| ((1 : Int32) <<< (nI c &&& 31))) (nI c) (nI (s + 1)) (enc sw σ2 ς) = _
        rw [ho]
        exact x2
end CH
/-- both tables, made one behind the other -/
theorem tables {sw : Bool} {σ : Sg} {ς : Lg} {H D n m : Nat} (hd : Bool) (h : CC sw σ (σ 308) H D n m) : ∃ σa σ1 σ2, f_X7_weigh 20 3 (if hd = true then 1 else 0) (enc sw σ ς) = some (enc sw σa ς) ∧ f_X7_solve 20 (enc sw σa ς) = some (enc sw σ1 ς) ∧ f_X13_plans 302 (if hd = true then 0 else 1) (enc sw σ1 ς) = some (enc sw σ2 ς) ∧
    PL σ1 n m (zWc hd (σ 308) (σ 306) (σ 307) (σ 304) (σ 305) n m) ∧ TB σ1 22 n m 0 (2 ^ m) (zWc hd (σ 308) (σ 306) (σ 307) (σ 304) (σ 305) n m) ∧ TB σ2 316 n m 0 64 (zWc hd (σ 308) (σ 306) (σ 307) (σ 304) (σ 305) n m) ∧ (∀ a, a ≠ 20 → a ≠ 21 → a ≠ 22 → σ1 a = σ a) ∧ (∀ a, a ≠ 316 → σ2 a = σ1 a) := by
  obtain ⟨⟨r1, r2, r3, r4⟩, -⟩ := id h.1
  obtain ⟨σa, w1, w2, w3, w4, w5⟩ := weigh_ok (ς := ς) hd h
  have hp : PL σa n m (zWc hd (σ 308) (σ 306) (σ 307) (σ 304) (σ 305) n m) := ⟨w3, w4, fun s c hs hc => by rw [zWc_in hs hc]; exact w5 s c hs hc⟩
  obtain ⟨σ1, s1, s2, s3⟩ := solve_C (sw := sw) (ς := ς) hp (zWc_le h.2.2) r3 r4
  have o1 : ∀ a, a ≠ 20 → a ≠ 21 → a ≠ 22 → σ1 a = σ a := fun a z1 z2 z3 => by rw [s2 a z3, w2 a z1 z2]
  have h1 : CC sw σ1 (σ 308) H D n m := h.fr fun a z1 z2 => o1 a (by omega) (by omega) (by omega)
  obtain ⟨σ2, m1, m2, m3⟩ := plans_M (ς := ς) hd h1.1 (by rw [o1 308 (by omega) (by omega) (by omega)]; exact h1.2.2) (fun c hc => by rw [o1 308 (by omega) (by omega) (by omega)]; exact h.2.1.asleep hc)
  rw [o1 308 (by omega) (by omega) (by omega), o1 307 (by omega) (by omega) (by omega), o1 306 (by omega) (by omega) (by omega), o1 305 (by omega) (by omega) (by omega), o1 304 (by omega) (by omega) (by omega)] at m3
  exact ⟨σa, σ1, σ2, w1, s1, m1, hp.c (s2 20 (by omega)) (s2 21 (by omega)), s3, m3, o1, m2⟩
theorem al_plan (x : Int32) : Alike (f_X12_plan 0 x) (f_X13_plan 302 x) := by
  intro sw σ ς hI
  obtain ⟨len, H, D, n, m, k, nx, q, e, h⟩ := id hI
  have hcc := h.cc
  have hra := rA_or sw
  obtain ⟨⟨r1, r2, r3, r4⟩, r5, r6, ⟨c1, c2, c3, c4⟩, ⟨d1, d2, d3, d4⟩, -, -⟩ := id h.2.2.1
  obtain ⟨σa, σ1, σ2, w1, w2, w3, hP, hT1, hT2, o1, o2⟩ := tables (ς := ς) false hcc
  have w1' : f_X7_weigh 20 3 (0 : Int32) (enc sw σ ς) = some (enc sw σa ς) := w1
  have w3' : f_X13_plans 302 (1 : Int32) (enc sw σ1 ς) = some (enc sw σ2 ς) := w3
  have hfin : Inv sw σ2 ς := ⟨len, H, D, n, m, k, nx, q, e, h.off (fun a z1 z2 z3 => by rw [o2 a (by omega), o1 a (by omega) (by omega) (by omega)]) (fun j hj => by rw [o2 302 (by omega), o1 302 (by omega) (by omega) (by omega)])⟩
  by_cases hx1 : x = -1
  · subst hx1
    have l0 : 0 < 448 := by omega
    have v1 : ai (enc sw σ1 ς) 0 22 (0 : Int32) = some (nI (bsR (zWc false (σ 308) (σ 306) (σ 307) (σ 304) (σ 305) n m) m n 0 0)) := by
      have := hT1 0 (by omega) (by omega) 0 (Nat.two_pow_pos m)
      rw [Nat.zero_mul, Nat.zero_add, Nat.sub_zero] at this
      rw [← this]; exact ai_22 l0
    have v2 : ai (enc sw σ2 ς) 0 316 (0 : Int32) = some (nI (bsR (zWc false (σ 308) (σ 306) (σ 307) (σ 304) (σ 305) n m) m n 0 0)) := by
      have := hT2 0 (by omega) (by omega) 0 (by omega)
      rw [Nat.zero_mul, Nat.zero_add, Nat.sub_zero] at this
      rw [← this]; exact ai_316 l0
    refine ⟨nI (bsR (zWc false (σ 308) (σ 306) (σ 307) (σ 304) (σ 305) n m) m n 0 0), sw, σ1, ς, sw, σ2, ς, ?_, ?_, hfin⟩
    · unfold f_X12_plan f_X7_mostPaid
      rw [if_pos io_LD, if_pos rfl, gr_LD_2, Option.bind_some, gr_LD_1, Option.bind_some, if_pos io_Pl, w1', Option.bind_some, w2, Option.bind_some, gr_Pl_1, Option.bind_some, v1, Option.bind_some, bT1_some]
    · unfold f_X13_plan f_X13_plan_16
      rw [if_pos io_Mo, if_pos rfl, w3', Option.bind_some, if_pos rfl, gr_Mo_29, Option.bind_some, v2, Option.bind_some]
  · by_cases hx : x < 0 ∨ nI n ≤ x
    · refine ⟨-1000000001, sw, σ, ς, sw, σ, ς, ?_, ?_, hI⟩
      · unfold f_X12_plan
        rw [if_pos io_LD, if_neg hx1, gr_LD_1, Option.bind_some, hsC_no c3 hx, bT1_some, if_pos rfl]
      · unfold f_X13_plan
        rw [if_pos io_Mo, if_neg hx1, hsM_no d3 hx, bT1_some, if_pos rfl]
    · obtain ⟨s, hs, rfl⟩ : ∃ j, j < n ∧ x = nI j := by
        rcases pk_ix x (n := n) (by omega) with z | z | z
        · exact absurd (Or.inl z) hx
        · exact absurd (Or.inr z) hx
        · exact z
      have o12 : ∀ a, a ≠ 20 → a ≠ 21 → a ≠ 22 → a ≠ 316 → σ2 a = σ a := fun a z1 z2 z3 z4 => by rw [o2 a z4, o1 a z1 z2 z3]
      have hrow2 : I_row (rA sw) σ2 H D n m := hcc.1.c (fun j hj => o12 _ (by omega) (by omega) (by omega) (by omega)) (fun j _ _ => by rw [o12 302 (by omega) (by omega) (by omega) (by omega)]) (fun j _ _ => o12 _ (by omega) (by omega) (by omega) (by omega))
      have hrun : ∀ f, 7 < f → ∃ r', f_X7_childOf_L18 f 20 (nI s) (0 : Int32) (-1) (0 : Int32) (enc sw σ1 ς) = some (r', enc sw σ1 ς) ∧ f_X13_plan_L40 f 302 (nI s) (0 : Int32) (-1) (0 : Int32) (enc sw σ2 ς) = some (r', enc sw σ2 ς) := fun f hf =>
        child_L hP hT1 hrow2 (by rw [o12 306 (by omega) (by omega) (by omega) (by omega), o12 307 (by omega) (by omega) (by omega) (by omega), o12 308 (by omega) (by omega) (by omega) (by omega)]; exact hcc.2.2) (fun c hc => by rw [o12 308 (by omega) (by omega) (by omega) (by omega)]; exact hcc.2.1.asleep hc) (by rw [o12 306 (by omega) (by omega) (by omega) (by omega), o12 307 (by omega) (by omega) (by omega) (by omega), o12 308 (by omega) (by omega) (by omega) (by omega), o12 304 (by omega) (by omega) (by omega) (by omega), o12 305 (by omega) (by omega) (by omega) (by omega)]) hT2 hs (s + 1) 0 f f 0 (-1) (by omega) (by omega) (by omega) (Nat.two_pow_pos m)
      obtain ⟨r', x1, x2⟩ := hrun 1000000 (by omega)
      have d3' : σ1 302 5 = nI n := by rw [o1 302 (by omega) (by omega) (by omega)]; exact d3
      refine ⟨r', sw, σ1, ς, sw, σ2, ς, ?_, ?_, hfin⟩
      · unfold f_X12_plan f_X7_childOf
        rw [if_pos io_LD, if_neg hx1, gr_LD_1, Option.bind_some, hsC_yes c3 hs r3, bT1_some, if_neg (by decide), gr_LD_2, Option.bind_some, gr_LD_1, Option.bind_some, if_pos io_Pl, w1', Option.bind_some, w2, Option.bind_some, x1, bT1_some, bT1_some]
      · unfold f_X13_plan f_X13_plan_16
        rw [if_pos io_Mo, if_neg hx1, hsM_yes d3' hs r3, bT1_some, if_neg (by decide), w3', Option.bind_some, if_neg hx1, x2, bT1_some]
