def zWc (hd : Bool) (V kd sl vo ho : Nat → Int32) (n m s c : Nat) : Nat := if s < n ∧ c < m then zW hd V kd sl vo ho s c else 0
section PM
variable {sw : Bool} {ς : Lg} {H D n m : Nat}
theorem zWc_in {hd : Bool} {V kd sl vo ho : Nat → Int32} {s c : Nat} (hs : s < n) (hc : c < m) : zWc hd V kd sl vo ho n m s c = zW hd V kd sl vo ho s c := by unfold zWc; rw [if_pos ⟨hs, hc⟩]
theorem zWc_le {hd : Bool} {V kd sl vo ho : Nat → Int32} (h : NB n m H kd sl V) : ∀ s c, zWc hd V kd sl vo ho n m s c ≤ 198 := by
  intro s c
  unfold zWc
  split
  · rename_i z
    have := zPm_le (vo := vo) (ho := ho) (c := c) h z.1
    unfold zW
    split <;> omega
  · omega
theorem zPm_pos {V kd sl vo ho : Nat → Int32} {s c : Nat} (h : NB n m H kd sl V) (hs : s < n) (hc : c < m) : 0 < zPm V kd sl vo ho s c ↔ zCan V kd sl s c = true := by
  unfold zPm
  by_cases hz : zCan V kd sl s c = true
  · rw [if_pos hz]
    obtain ⟨z1, z2, z3⟩ := of_decide_eq_true hz
    have h1 := zN_pos h hc z1
    have h2 := zPay_or V vo ho s c
    refine ⟨fun _ => hz, fun _ => ?_⟩
    have h3 : 0 < zN V kd sl c * zPay V vo ho s c := by rcases h2 with e | e <;> rw [e] <;> omega
    omega
  · rw [if_neg hz]
    exact ⟨fun z => absurd z (by omega), fun z => absurd z hz⟩
theorem zWc_pos {hd : Bool} {V kd sl vo ho : Nat → Int32} {s c : Nat} (h : NB n m H kd sl V) (hs : s < n) (hc : c < m) : 0 < zWc hd V kd sl vo ho n m s c ↔ zCan V kd sl s c = true := by
  rw [zWc_in hs hc, ← zPm_pos (vo := vo) (ho := ho) h hs hc]
  unfold zW
  split
  · omega
  · exact Iff.rfl
theorem worth_M {σ : Sg} (hd : Bool) (h : I_row (rA sw) σ H D n m) (hN : NB n m H (σ 306) (σ 307) (σ 308)) {s c : Nat} (hs : s < n) (hc : c < m) (ha : σ 308 (30 + c) = 0 ∨ σ 308 (30 + c) = 1) (hz : zCan (σ 308) (σ 306) (σ 307) s c = true) : f_X13_worth 302 (nI s) (nI c) (if hd = true then 0 else 1) (enc sw σ ς) = some (nI (zWc hd (σ 308) (σ 306) (σ 307) (σ 304) (σ 305) n m s c), enc sw σ ς) := by
  have hp := (zPm_pos (vo := σ 304) (ho := σ 305) hN hs hc).mpr hz
  rw [zWc_in hs hc]
  unfold f_X13_worth zW
  rw [if_pos io_Mo, payment_M h hN ha hs hc, bT1_some]
  cases hd
  · rw [if_neg Bool.false_ne_true, if_neg (by decide), if_neg Bool.false_ne_true]
  · rw [if_pos rfl, if_pos rfl, if_pos rfl, show min 1 (zPm (σ 308) (σ 306) (σ 307) (σ 304) (σ 305) s c) = 1 by omega]
    rfl
theorem plans_L47 {σ : Sg} (hd : Bool) (h : I_row (rA sw) σ H D n m) (hN : NB n m H (σ 306) (σ 307) (σ 308)) (ha : ∀ c, c < m → σ 308 (30 + c) = 0 ∨ σ 308 (30 + c) = 1) {W : Nat → Nat → Nat} (hWe : W = zWc hd (σ 308) (σ 306) (σ 307) (σ 304) (σ 305) n m) (hW : ∀ s c, W s c ≤ 198) {s t k : Nat} (hs : s < n) (hk : k ≤ 6) (ht : t < 64) (hB : ∀ t, t < 64 → σ 316 ((s + 1) * 64 + t) = nI (bsR W m k (s + 1) t)) : ∀ (d i f a : Nat), i + d = m → d < f → a ≤ 2000 → f_X13_plans_L47 f 302 (if hd = true then 0 else 1) (nI s) (nI t) (nI a) (nI i) (enc sw σ ς) = some (nI (foR (fun c => W s c + bsR W m k (s + 1) (t ||| 2 ^ c)) (opn W s t) a i d), enc sw σ ς) := by
  obtain ⟨⟨r1, r2, r3, r4⟩, r5, r6, -, ⟨d1, d2, d3, d4⟩, -⟩ := id h
  intro d
  induction d with
  | zero =>
    intro i f a hi hf hb
    obtain ⟨f, rfl⟩ : ∃ f', f = f' + 1 := ⟨f - 1, by omega⟩
    show F_X13_plans_L47 (f_X13_plans_L47 f) 302 (if hd = true then 0 else 1) (nI s) (nI t) (nI a) (nI i) (enc sw σ ς) = _
    unfold F_X13_plans_L47
    rw [gi_Mo_6, Option.bind_some, d4, if_pos (nI_le (show m ≤ i by omega) (by omega))]
    rfl
  | succ d ih =>
    intro i f a hi hf hb
    obtain ⟨f, rfl⟩ : ∃ f', f = f' + 1 := ⟨f - 1, by omega⟩
    have him : i < m := by omega
    have hw := hW s i
    have hbs := bsR_le (m := m) hW k (s + 1) (t ||| 2 ^ i)
    have hor := or_lt ht (show i < 6 by omega)
    have hiy : (64 : Int32) * (nI s + (1 : Int32)) + (nI t ||| ((1 : Int32) <<< (nI i &&& 31))) = nI ((s + 1) * 64 + (t ||| 2 ^ i)) := by rw [or_ok t ht i (by omega), nI_1, show (64 : Int32) = nI 64 from rfl, pk_mul, nI_add, Nat.mul_comm 64]
    have l2 : (s + 1) * 64 + (t ||| 2 ^ i) < 448 := by omega
    show F_X13_plans_L47 (f_X13_plans_L47 f) 302 (if hd = true then 0 else 1) (nI s) (nI t) (nI a) (nI i) (enc sw σ ς) = _
    unfold F_X13_plans_L47
    rw [gi_Mo_6, Option.bind_some, d4, if_neg (nI_ge him (by omega)), gi_Mo_5, Option.bind_some, d3, if_neg (nI_ge hs (by omega)), bit_ok t ht i (by omega), could_M h hN (ha i him) hs him, bT1_some, nI_1, foR_s]
    by_cases hbit : t.testBit i = true
    · have hp : ¬ opn W s t i = true := by unfold opn; simp [hbit]
      rw [if_pos hbit, if_neg (by decide), if_neg hp]
      exact ih (i + 1) f _ (by omega) (by omega) hb
    · rw [if_neg hbit, if_pos rfl]
      by_cases hz : zCan (σ 308) (σ 306) (σ 307) s i = true
      · have hp : opn W s t i = true := by
          have := (zWc_pos (hd := hd) (vo := σ 304) (ho := σ 305) hN hs him).mpr hz
          rw [← hWe] at this
          unfold opn; simp [hbit, this]
        rw [if_pos hz, if_neg (by decide), if_pos hp, worth_M hd h hN hs him (ha i him) hz, bT1_some, ← hWe, gr_Mo_29, Option.bind_some, hiy, ai_316 l2, Option.bind_some, hB _ hor, nI_add, max_M (by omega) (by omega), bT1_some]
        exact ih (i + 1) f _ (by omega) (by omega) (by omega)
      · have hp : ¬ opn W s t i = true := by
          intro hp
          unfold opn at hp
          simp only [Bool.and_eq_true, decide_eq_true_eq] at hp
          rw [hWe] at hp
          exact hz ((zWc_pos hN hs him).mp hp.2)
        rw [if_neg hz, if_pos rfl, if_neg hp]
        exact ih (i + 1) f _ (by omega) (by omega) hb
theorem plans_L11 {σ0 : Sg} (hd : Bool) (h0 : I_row (rA sw) σ0 H D n m) (hN0 : NB n m H (σ0 306) (σ0 307) (σ0 308)) (ha0 : ∀ c, c < m → σ0 308 (30 + c) = 0 ∨ σ0 308 (30 + c) = 1) {W : Nat → Nat → Nat} (hWe : W = zWc hd (σ0 308) (σ0 306) (σ0 307) (σ0 304) (σ0 305) n m) {s : Nat} (hs : s ≤ n) : ∀ (d i f : Nat) (σ : Sg), i + d = 64 → d < f → (∀ a, a ≠ 316 → σ a = σ0 a) → TB σ 316 n m (s + 1) 64 W →
    ∃ σ', f_X13_plans_L11 f 302 (if hd = true then 0 else 1) (nI s) (nI i) (enc sw σ ς) = some (enc sw σ' ς) ∧ (∀ a, a ≠ 316 → σ' a = σ a) ∧ ∀ q, σ' 316 q = if s * 64 + i ≤ q ∧ q < s * 64 + 64 then nI (bsR W m (n - s) s (q - s * 64)) else σ 316 q := by
  have hra := rA_or sw
  have hW : ∀ s c, W s c ≤ 198 := by rw [hWe]; exact zWc_le hN0
  intro d
  induction d with
  | zero =>
    intro i f σ hi hf hag hT
    obtain ⟨f, rfl⟩ : ∃ f', f = f' + 1 := ⟨f - 1, by omega⟩
    refine ⟨σ, ?_, fun _ _ => rfl, fun q => ?_⟩
    · show F_X13_plans_L11 (f_X13_plans_L11 f) 302 (if hd = true then 0 else 1) (nI s) (nI i) (enc sw σ ς) = _
      unfold F_X13_plans_L11
      rw [if_pos (show (64 : Int32) ≤ nI i from nI_le (a := 64) (by omega) (by omega))]
    · rw [if_neg (by omega)]
  | succ d ih =>
    intro i f σ hi hf hag hT
    obtain ⟨f, rfl⟩ : ∃ f', f = f' + 1 := ⟨f - 1, by omega⟩
    have h : I_row (rA sw) σ H D n m := h0.c (fun j hj => hag _ (by omega)) (fun j _ _ => by rw [hag 302 (by omega)]) (fun j _ _ => hag _ (by omega))
    have hN : NB n m H (σ 306) (σ 307) (σ 308) := by rw [hag 306 (by omega), hag 307 (by omega), hag 308 (by omega)]; exact hN0
    have ha : ∀ c, c < m → σ 308 (30 + c) = 0 ∨ σ 308 (30 + c) = 1 := by rw [hag 308 (by omega)]; exact ha0
    have hWe' : W = zWc hd (σ 308) (σ 306) (σ 307) (σ 304) (σ 305) n m := by rw [hag 306 (by omega), hag 307 (by omega), hag 308 (by omega), hag 304 (by omega), hag 305 (by omega)]; exact hWe
    obtain ⟨⟨r1, r2, r3, r4⟩, r5, r6, -, ⟨d1, d2, d3, d4⟩, -⟩ := id h
    have hix : (64 : Int32) * nI s + nI i = nI (s * 64 + i) := by rw [show (64 : Int32) = nI 64 from rfl, pk_mul, nI_add, Nat.mul_comm 64]
    have l1 : s * 64 + i < 448 := by omega
    have hbound := bsR_le (m := m) hW (n - s) s i
    obtain ⟨σ', g1, g2, g3⟩ := ih (i + 1) f (uA σ 316 (upd (σ 316) (s * 64 + i) (nI (bsR W m (n - s) s i)))) (by omega) (by omega) (fun a z => by rw [uA_n z]; exact hag a z) (fun s' z1 z2 t z3 => by rw [uA_s, pk_un (by omega)]; exact hT s' z1 z2 t z3)
    refine ⟨σ', ?_, fun a z => by rw [g2 a z, uA_n z], fun q => ?_⟩
    · show F_X13_plans_L11 (f_X13_plans_L11 f) 302 (if hd = true then 0 else 1) (nI s) (nI i) (enc sw σ ς) = _
      unfold F_X13_plans_L11 f_X13_plans_42 f_X13_plans_124
      rw [if_neg (show ¬ (64 : Int32) ≤ nI i from nI_ge (b := 64) (by omega) (by omega)), gi_Mo_5, Option.bind_some, d3]
      by_cases hsn : s = n
      · subst hsn
        have hrun : ∀ g, 0 < g → f_X13_plans_L47 g 302 (if hd = true then 0 else 1) (nI s) (nI i) (0 : Int32) (0 : Int32) (enc sw σ ς) = some (0, enc sw σ ς) := by
          intro g hg
          obtain ⟨g, rfl⟩ : ∃ g', g = g' + 1 := ⟨g - 1, by omega⟩
          show F_X13_plans_L47 (f_X13_plans_L47 g) 302 (if hd = true then 0 else 1) (nI s) (nI i) (0 : Int32) (0 : Int32) (enc sw σ ς) = _
          unfold F_X13_plans_L47
          rw [gi_Mo_6, Option.bind_some, d4, gi_Mo_5, Option.bind_some, d3, if_pos (show nI s ≤ nI s from Int32.le_refl _)]
          by_cases hm0 : nI m ≤ (0 : Int32)
          · rw [if_pos hm0]
          · rw [if_neg hm0]
        have hz : bsR W m (s - s) s i = 0 := by rw [Nat.sub_self]; rfl
        rw [hz] at g1
        rw [if_pos rfl, hrun 1000000 (by omega), bT1_some, gr_Mo_29, Option.bind_some, hix, aw_316 l1, Option.bind_some, nI_1]
        exact g1
      · have hsn' : s < n := by omega
        have hiy : (64 : Int32) * (nI s + (1 : Int32)) + nI i = nI ((s + 1) * 64 + i) := by rw [nI_1, show (64 : Int32) = nI 64 from rfl, pk_mul, nI_add, Nat.mul_comm 64]
        have l2 : (s + 1) * 64 + i < 448 := by omega
        have hbs := bsR_le (m := m) hW (n - (s + 1)) (s + 1) i
        have hrun : ∀ g, 6 < g → f_X13_plans_L47 g 302 (if hd = true then 0 else 1) (nI s) (nI i) (nI (bsR W m (n - (s + 1)) (s + 1) i)) (0 : Int32) (enc sw σ ς) = _ := fun g hg => plans_L47 (k := n - (s + 1)) hd h hN ha hWe' hW hsn' (by omega) (show i < 64 by omega) (fun t z => hT (s + 1) (by omega) (by omega) t z) m 0 g (bsR W m (n - (s + 1)) (s + 1) i) (by omega) (by omega) (by omega)
        have hz : bsR W m (n - s) s i = foR (fun c => W s c + bsR W m (n - (s + 1)) (s + 1) (i ||| 2 ^ c)) (opn W s i) (bsR W m (n - (s + 1)) (s + 1) i) 0 m := by rw [← bsR_s, show n - (s + 1) + 1 = n - s by omega]
        rw [hz] at g1
        rw [if_neg (fun z => hsn ((nI_eq (by omega) (by omega)).mp z)), gr_Mo_29, Option.bind_some, hiy, ai_316 l2, Option.bind_some, hT (s + 1) (by omega) (by omega) i (by omega), hrun 1000000 (by omega), bT1_some, gr_Mo_29, Option.bind_some, hix, aw_316 l1, Option.bind_some, nI_1]
        exact g1
    · rw [g3 q, uA_s]
      by_cases z : s * 64 + (i + 1) ≤ q ∧ q < s * 64 + 64
      · rw [if_pos z, if_pos (by omega)]
      · rw [if_neg z]
        by_cases z2 : q = s * 64 + i
        · subst z2; rw [pk_us, if_pos (by omega), show s * 64 + i - s * 64 = i by omega]
        · rw [pk_un z2, if_neg (by omega)]
theorem plans_L5 {σ0 : Sg} (hd : Bool) (h0 : I_row (rA sw) σ0 H D n m) (hN0 : NB n m H (σ0 306) (σ0 307) (σ0 308)) (ha0 : ∀ c, c < m → σ0 308 (30 + c) = 0 ∨ σ0 308 (30 + c) = 1) {W : Nat → Nat → Nat} (hWe : W = zWc hd (σ0 308) (σ0 306) (σ0 307) (σ0 304) (σ0 305) n m) : ∀ (j f : Nat) (σ : Sg), j ≤ n + 1 → j < f → (∀ a, a ≠ 316 → σ a = σ0 a) → TB σ 316 n m j 64 W →
    ∃ σ', f_X13_plans_L5 f 302 (if hd = true then 0 else 1) (nI j + (-1)) (enc sw σ ς) = some (enc sw σ' ς) ∧ (∀ a, a ≠ 316 → σ' a = σ a) ∧ TB σ' 316 n m 0 64 W := by
  have hn6 := h0.1.2.2.1
  intro j
  induction j with
  | zero =>
    intro f σ hj hf hag ht
    obtain ⟨f, rfl⟩ : ∃ f', f = f' + 1 := ⟨f - 1, by omega⟩
    refine ⟨σ, ?_, fun _ _ => rfl, ht⟩
    show F_X13_plans_L5 (f_X13_plans_L5 f) 302 (if hd = true then 0 else 1) (nI 0 + (-1)) (enc sw σ ς) = _
    unfold F_X13_plans_L5
    rw [if_pos (by decide)]
  | succ j ih =>
    intro f σ hj hf hag ht
    obtain ⟨f, rfl⟩ : ∃ f', f = f' + 1 := ⟨f - 1, by omega⟩
    have hrun : ∀ g, 64 < g → ∃ σ', f_X13_plans_L11 g 302 (if hd = true then 0 else 1) (nI j) (0 : Int32) (enc sw σ ς) = some (enc sw σ' ς) ∧ (∀ a, a ≠ 316 → σ' a = σ a) ∧ ∀ q, σ' 316 q = if j * 64 + 0 ≤ q ∧ q < j * 64 + 64 then nI (bsR W m (n - j) j (q - j * 64)) else σ 316 q := fun g hg => plans_L11 hd h0 hN0 ha0 hWe (show j ≤ n by omega) 64 0 g σ (by omega) (by omega) hag ht
    obtain ⟨σa, y1, y2, y3⟩ := hrun 1000000 (by omega)
    obtain ⟨σ', g1, g2, g3⟩ := ih f σa (by omega) (by omega) (fun a z => by rw [y2 a z]; exact hag a z) (fun s z1 z2 t z3 => by
      rw [y3]
      by_cases e : s = j
      · subst e
        rw [if_pos (by omega), show s * 64 + t - s * 64 = t by omega]
      · rw [if_neg (by omega)]; exact ht s (by omega) z2 t z3)
    refine ⟨σ', ?_, fun a z => by rw [g2 a z, y2 a z], g3⟩
    show F_X13_plans_L5 (f_X13_plans_L5 f) 302 (if hd = true then 0 else 1) (nI (j + 1) + (-1)) (enc sw σ ς) = _
    rw [pk_m1]
    unfold F_X13_plans_L5
    rw [if_neg (nI_pos (by omega)), y1, Option.bind_some]
    exact g1
theorem plans_M {σ : Sg} (hd : Bool) (h : I_row (rA sw) σ H D n m) (hN : NB n m H (σ 306) (σ 307) (σ 308)) (ha : ∀ c, c < m → σ 308 (30 + c) = 0 ∨ σ 308 (30 + c) = 1) :
    ∃ σ', f_X13_plans 302 (if hd = true then 0 else 1) (enc sw σ ς) = some (enc sw σ' ς) ∧ (∀ a, a ≠ 316 → σ' a = σ a) ∧ TB σ' 316 n m 0 64 (zWc hd (σ 308) (σ 306) (σ 307) (σ 304) (σ 305) n m) := by
  have hn6 := h.1.2.2.1
  have d3 := h.2.2.2.2.1.2.2.1
  have hrun : ∀ g, 7 < g → ∃ σ', f_X13_plans_L5 g 302 (if hd = true then 0 else 1) (nI (n + 1) + (-1)) (enc sw σ ς) = some (enc sw σ' ς) ∧ (∀ a, a ≠ 316 → σ' a = σ a) ∧ TB σ' 316 n m 0 64 (zWc hd (σ 308) (σ 306) (σ 307) (σ 304) (σ 305) n m) := fun g hg => plans_L5 hd h hN ha rfl (n + 1) g σ (Nat.le_refl _) (by omega) (fun _ _ => rfl) (fun s z1 z2 => absurd z2 (by omega))
  obtain ⟨σ', y1, y2, y3⟩ := hrun 1000000 (by omega)
  refine ⟨σ', ?_, y2, y3⟩
  rw [pk_m1] at y1
  unfold f_X13_plans
  rw [if_pos io_Mo, gi_Mo_5, Option.bind_some, d3, y1, Option.bind_some]
end PM
