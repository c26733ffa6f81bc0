/-! singers to children: what is reached, as a table -/
def foR (g : Nat → Nat) (P : Nat → Bool) : Nat → Nat → Nat → Nat
  | a, _, 0 => a
  | a, c, d + 1 => foR g P (if P c = true then max a (g c) else a) (c + 1) d
theorem foR_s (g : Nat → Nat) (P : Nat → Bool) (a c d : Nat) : foR g P a c (d + 1) = foR g P (if P c = true then max a (g c) else a) (c + 1) d := rfl
theorem foR_le {g : Nat → Nat} {P : Nat → Bool} {B : Nat} (hg : ∀ c, g c ≤ B) : ∀ d a c, a ≤ B → foR g P a c d ≤ B
  | 0, a, c, h => h
  | d + 1, a, c, h => by
    rw [foR_s]
    refine foR_le hg d _ _ ?_
    have := hg c
    split <;> omega
theorem foR_congr {g g' : Nat → Nat} {P P' : Nat → Bool} : ∀ d a c, (∀ j, c ≤ j → j < c + d → g j = g' j ∧ P j = P' j) → foR g P a c d = foR g' P' a c d
  | 0, a, c, _ => rfl
  | d + 1, a, c, h => by
    rw [foR_s, foR_s, (h c (by omega) (by omega)).1, (h c (by omega) (by omega)).2]
    exact foR_congr d _ _ fun j a b => h j (by omega) (by omega)
def opn (W : Nat → Nat → Nat) (s t : Nat) : Nat → Bool := fun c => !t.testBit c && decide (0 < W s c)
def bsR (W : Nat → Nat → Nat) (m : Nat) : Nat → Nat → Nat → Nat
  | 0, _, _ => 0
  | k + 1, s, t => foR (fun c => W s c + bsR W m k (s + 1) (t ||| 2 ^ c)) (opn W s t) (bsR W m k (s + 1) t) 0 m
theorem bsR_s (W : Nat → Nat → Nat) (m k s t : Nat) : bsR W m (k + 1) s t = foR (fun c => W s c + bsR W m k (s + 1) (t ||| 2 ^ c)) (opn W s t) (bsR W m k (s + 1) t) 0 m := rfl
theorem bsR_le {W : Nat → Nat → Nat} {m : Nat} (hW : ∀ s c, W s c ≤ 198) : ∀ k s t, bsR W m k s t ≤ 198 * k
  | 0, _, _ => Nat.le_refl 0
  | k + 1, s, t => by
    rw [bsR_s]
    refine foR_le (fun c => ?_) m _ _ ?_
    · have := hW s c
      have := bsR_le (m := m) hW k (s + 1) (t ||| 2 ^ c)
      omega
    · have := bsR_le (m := m) hW k (s + 1) t
      omega
theorem CC.fr {sw : Bool} {σ σ' : Sg} {V : Nat → Int32} {H D n m : Nat} (h : CC sw σ V H D n m) (e : ∀ a, (a < 20 ∨ 27 ≤ a) → a < 315 → σ' a = σ a) : CC sw σ' V H D n m := by
  have hra := rA_or sw
  refine ⟨h.1.c (fun j hj => e _ (by omega) (by omega)) (fun j _ _ => by rw [e 302 (by omega) (by omega)]) (fun j _ _ => e _ (by omega) (by omega)), h.2.1.c (fun j hj => e _ (by omega) (by omega)), ?_⟩
  rw [e 306 (by omega) (by omega), e 307 (by omega) (by omega)]; exact h.2.2
/-- what a singer and a child count for -/
def zW (hd : Bool) (V kd sl vo ho : Nat → Int32) (s c : Nat) : Nat := if hd = true then min 1 (zPm V kd sl vo ho s c) else zPm V kd sl vo ho s c
section WE
variable {sw : Bool} {ς : Lg} {V : Nat → Int32} {H D n m : Nat} {σ0 : Sg}
theorem zPm_le {kd sl vo ho : Nat → Int32} (h : NB n m H kd sl V) {s c : Nat} (hs : s < n) : zPm V kd sl vo ho s c ≤ 198 := by
  unfold zPm
  have := (h.debt hs).2
  split <;> omega
theorem weigh_L35 (hd : Bool) (h0 : CC sw σ0 V H D n m) {s : Nat} (hs : s < n) : ∀ (d i f : Nat) (σ : Sg), i + d = m → d < f → (∀ a, a ≠ 20 → a ≠ 21 → σ a = σ0 a) → σ 20 3 = nI m →
    ∃ σ', f_X7_weigh_L35 f 20 3 (if hd = true then 1 else 0) (nI s) (nI i) (enc sw σ ς) = some (enc sw σ' ς) ∧ (∀ a, a ≠ 21 → σ' a = σ a) ∧ ∀ q, σ' 21 q = if s * 6 + i ≤ q ∧ q < s * 6 + m then nI (zW hd V (σ0 306) (σ0 307) (σ0 304) (σ0 305) s (q - s * 6)) else σ 21 q := by
  obtain ⟨⟨r1, r2, r3, r4⟩, -⟩ := id h0.1
  intro d
  induction d with
  | zero =>
    intro i f σ hi hf hag h3
    obtain ⟨f, rfl⟩ : ∃ f', f = f' + 1 := ⟨f - 1, by omega⟩
    refine ⟨σ, ?_, fun _ _ => rfl, fun q => ?_⟩
    · show F_X7_weigh_L35 (f_X7_weigh_L35 f) 20 3 (if hd = true then 1 else 0) (nI s) (nI i) (enc sw σ ς) = _
      unfold F_X7_weigh_L35
      rw [gi_Pl_3, Option.bind_some, h3, if_pos (nI_le (show m ≤ i by omega) (by omega))]
    · rw [if_neg (by omega)]
  | succ d ih =>
    intro i f σ hi hf hag h3
    obtain ⟨f, rfl⟩ : ∃ f', f = f' + 1 := ⟨f - 1, by omega⟩
    have hC : CC sw σ V H D n m := h0.fr fun a h1 h2 => hag a (by omega) (by omega)
    have hw := would_C (ς := ς) hC hs (show i < m by omega)
    rw [hag 306 (by omega) (by omega), hag 307 (by omega) (by omega), hag 304 (by omega) (by omega), hag 305 (by omega) (by omega)] at hw
    have hb := zPm_le (vo := σ0 304) (ho := σ0 305) (c := i) h0.2.2 hs
    have hng : ¬ nI m ≤ nI i := nI_ge (by omega) (by omega)
    have hix : nI s * (6 : Int32) + nI i = nI (s * 6 + i) := by rw [show (6 : Int32) = nI 6 from rfl, pk_mul, nI_add]
    have l1 : s * 6 + i < 36 := by omega
    have hval : (if hd = true then (if nI (zPm V (σ0 306) (σ0 307) (σ0 304) (σ0 305) s i) < (1 : Int32) then nI (zPm V (σ0 306) (σ0 307) (σ0 304) (σ0 305) s i) else (1 : Int32)) else nI (zPm V (σ0 306) (σ0 307) (σ0 304) (σ0 305) s i)) = nI (zW hd V (σ0 306) (σ0 307) (σ0 304) (σ0 305) s i) := by
      unfold zW
      cases hd
      · rfl
      · rw [if_pos rfl, if_pos rfl]; exact min_C (a := 1) (by omega) (by omega)
    obtain ⟨σ', g1, g2, g3⟩ := ih (i + 1) f (uA σ 21 (upd (σ 21) (s * 6 + i) (nI (zW hd V (σ0 306) (σ0 307) (σ0 304) (σ0 305) s i)))) (by omega) (by omega) (fun a z1 z2 => by rw [uA_n z2]; exact hag a z1 z2) (by rw [uA_n (by omega)]; exact h3)
    refine ⟨σ', ?_, fun a z1 => ?_, fun q => ?_⟩
    · show F_X7_weigh_L35 (f_X7_weigh_L35 f) 20 3 (if hd = true then 1 else 0) (nI s) (nI i) (enc sw σ ς) = _
      unfold F_X7_weigh_L35 f_X7_weigh_79
      rw [gi_Pl_3, Option.bind_some, h3, if_neg hng, hw, bT1_some, gr_Pl_0, Option.bind_some, hix, nI_1]
      cases hd
      · rw [if_neg Bool.false_ne_true, if_pos rfl, aw_21 l1, Option.bind_some]
        rw [if_neg Bool.false_ne_true] at hval
        rw [hval]
        exact g1
      · rw [if_pos rfl, if_neg (by decide), aw_21 l1, Option.bind_some]
        rw [if_pos rfl] at hval
        rw [hval]
        exact g1
    · rw [g2 a z1, uA_n z1]
    · rw [g3 q, uA_s]
      by_cases z : s * 6 + (i + 1) ≤ q ∧ q < s * 6 + m
      · rw [if_pos z, if_pos (by omega)]
      · rw [if_neg z]
        by_cases z2 : q = s * 6 + i
        · subst z2; rw [pk_us, if_pos (by omega), show s * 6 + i - s * 6 = i by omega]
        · rw [pk_un z2, if_neg (by omega)]
theorem weigh_L24 (hd : Bool) (h0 : CC sw σ0 V H D n m) : ∀ (d s f : Nat) (σ : Sg), s + d = n → d < f → (∀ a, a ≠ 20 → a ≠ 21 → σ a = σ0 a) → σ 20 3 = nI m → σ 20 2 = nI n → (∀ s' c, s' < s → c < m → σ 21 (s' * 6 + c) = nI (zW hd V (σ0 306) (σ0 307) (σ0 304) (σ0 305) s' c)) →
    ∃ σ', f_X7_weigh_L24 f 20 3 (if hd = true then 1 else 0) (nI s) (enc sw σ ς) = some (enc sw σ' ς) ∧ (∀ a, a ≠ 21 → σ' a = σ a) ∧ ∀ s' c, s' < n → c < m → σ' 21 (s' * 6 + c) = nI (zW hd V (σ0 306) (σ0 307) (σ0 304) (σ0 305) s' c) := by
  obtain ⟨⟨r1, r2, r3, r4⟩, -⟩ := id h0.1
  intro d
  induction d with
  | zero =>
    intro s f σ hi hf hag h3 h2 hW
    obtain ⟨f, rfl⟩ : ∃ f', f = f' + 1 := ⟨f - 1, by omega⟩
    refine ⟨σ, ?_, fun _ _ => rfl, fun s' c z1 z2 => hW s' c (by omega) z2⟩
    show F_X7_weigh_L24 (f_X7_weigh_L24 f) 20 3 (if hd = true then 1 else 0) (nI s) (enc sw σ ς) = _
    unfold F_X7_weigh_L24
    rw [gi_Pl_2, Option.bind_some, h2, if_pos (nI_le (show n ≤ s by omega) (by omega))]
  | succ d ih =>
    intro s f σ hi hf hag h3 h2 hW
    obtain ⟨f, rfl⟩ : ∃ f', f = f' + 1 := ⟨f - 1, by omega⟩
    have hrun : ∀ k, 6 < k → ∃ σ', f_X7_weigh_L35 k 20 3 (if hd = true then 1 else 0) (nI s) (0 : Int32) (enc sw σ ς) = some (enc sw σ' ς) ∧ (∀ a, a ≠ 21 → σ' a = σ a) ∧ ∀ q, σ' 21 q = if s * 6 + 0 ≤ q ∧ q < s * 6 + m then nI (zW hd V (σ0 306) (σ0 307) (σ0 304) (σ0 305) s (q - s * 6)) else σ 21 q := fun k hk => weigh_L35 hd h0 (show s < n by omega) m 0 k σ (by omega) (by omega) hag h3
    obtain ⟨σa, y1, y2, y3⟩ := hrun 1000000 (by omega)
    obtain ⟨σ', g1, g2, g3⟩ := ih (s + 1) f σa (by omega) (by omega) (fun a z1 z2 => by rw [y2 a z2]; exact hag a z1 z2) (by rw [y2 20 (by omega)]; exact h3) (by rw [y2 20 (by omega)]; exact h2) (fun s' c z1 z2 => by
      rw [y3]
      by_cases e : s' = s
      · subst e; rw [if_pos (by omega), show s' * 6 + c - s' * 6 = c by omega]
      · rw [if_neg (by omega)]; exact hW s' c (by omega) z2)
    refine ⟨σ', ?_, fun a z1 => by rw [g2 a z1, y2 a z1], g3⟩
    show F_X7_weigh_L24 (f_X7_weigh_L24 f) 20 3 (if hd = true then 1 else 0) (nI s) (enc sw σ ς) = _
    unfold F_X7_weigh_L24
    rw [gi_Pl_2, Option.bind_some, h2, if_neg (nI_ge (show s < n by omega) (by omega)), y1, Option.bind_some, nI_1]
    exact g1
theorem weigh_ok (hd : Bool) (h0 : CC sw σ0 V H D n m) : ∃ σ', f_X7_weigh 20 3 (if hd = true then 1 else 0) (enc sw σ0 ς) = some (enc sw σ' ς) ∧ (∀ a, a ≠ 20 → a ≠ 21 → σ' a = σ0 a) ∧ σ' 20 2 = nI n ∧ σ' 20 3 = nI m ∧ ∀ s c, s < n → c < m → σ' 21 (s * 6 + c) = nI (zW hd V (σ0 306) (σ0 307) (σ0 304) (σ0 305) s c) := by
  obtain ⟨⟨r1, r2, r3, r4⟩, r5, r6, ⟨c1, c2, c3, c4⟩, -⟩ := id h0.1
  have hra := rA_or sw
  have hrun : ∀ k, 6 < k → ∃ σ', f_X7_weigh_L24 k 20 3 (if hd = true then 1 else 0) (0 : Int32) (enc sw (uA (uA σ0 20 (upd (σ0 20) 2 (nI n))) 20 (upd (upd (σ0 20) 2 (nI n)) 3 (nI m))) ς) = some (enc sw σ' ς) ∧ (∀ a, a ≠ 21 → σ' a = (uA (uA σ0 20 (upd (σ0 20) 2 (nI n))) 20 (upd (upd (σ0 20) 2 (nI n)) 3 (nI m))) a) ∧ ∀ s' c, s' < n → c < m → σ' 21 (s' * 6 + c) = nI (zW hd V (σ0 306) (σ0 307) (σ0 304) (σ0 305) s' c) :=
    fun k hk => weigh_L24 hd h0 n 0 k (uA (uA σ0 20 (upd (σ0 20) 2 (nI n))) 20 (upd (upd (σ0 20) 2 (nI n)) 3 (nI m))) (by omega) (by omega) (fun a z1 z2 => by rw [uA_n z1, uA_n z1]) (by rw [uA_s, pk_us]) (by rw [uA_s, pk_un (by omega), pk_us]) (fun s' c z1 => absurd z1 (by omega))
  obtain ⟨σ', y1, y2, y3⟩ := hrun 1000000 (by omega)
  refine ⟨σ', ?_, fun a z1 z2 => by rw [y2 a z2, uA_n z1, uA_n z1], by rw [y2 20 (by omega), uA_s, pk_un (by omega), pk_us], by rw [y2 20 (by omega), uA_s, pk_us], y3⟩
  have e10 : uA σ0 20 (upd (σ0 20) 2 (nI n)) (rA sw) 10 = nI m := by rw [uA_n (by omega)]; exact c4
  unfold f_X7_weigh
  rw [if_pos io_Pl, gr_Mt_1, Option.bind_some, gi_Ra_9, Option.bind_some, c3, pf_Pl_2, Option.bind_some, gr_Mt_1, Option.bind_some, gi_Ra_10, Option.bind_some, e10, pf_Pl_3, Option.bind_some, uA_s, y1, Option.bind_some]
end WE
/-! the class's table -/
section SO
variable {sw : Bool} {ς : Lg} {n m : Nat} {W : Nat → Nat → Nat}
/-- what the class's planner holds -/
def PL (σ : Sg) (n m : Nat) (W : Nat → Nat → Nat) : Prop := σ 20 2 = nI n ∧ σ 20 3 = nI m ∧ ∀ s c, s < n → c < m → σ 21 (s * 6 + c) = nI (W s c)
theorem PL.c {σ σ' : Sg} (h : PL σ n m W) (e1 : σ' 20 = σ 20) (e2 : σ' 21 = σ 21) : PL σ' n m W := by unfold PL at h ⊢; rw [e1, e2]; exact h
theorem open_C {σ : Sg} (h : PL σ n m W) (hW : ∀ s c, W s c ≤ 198) {s c t : Nat} (hs : s < n) (hc : c < m) (hn : n ≤ 6) (hm : m ≤ 6) (ht : t < 64) : f_X7_isOpen 20 (nI s) (nI c) (nI t) (enc sw σ ς) = some (if opn W s t c = true then 1 else 0, enc sw σ ς) := by
  have hix : nI s * (6 : Int32) + nI c = nI (s * 6 + c) := by rw [show (6 : Int32) = nI 6 from rfl, pk_mul, nI_add]
  have l1 : s * 6 + c < 36 := by omega
  have hw := hW s c
  unfold f_X7_isOpen opn
  rw [if_pos io_Pl, bit_ok t ht c (by omega), gr_Pl_0, Option.bind_some, hix, ai_21 l1, Option.bind_some, h.2.2 s c hs hc]
  by_cases hb : t.testBit c = true
  · rw [if_pos hb, if_neg (by decide)]; simp [hb]
  · rw [if_neg hb, if_pos rfl]
    by_cases hp : 0 < W s c
    · rw [if_neg (nI_nle hp (by omega))]; simp [hb, hp]
    · rw [show W s c = 0 by omega, if_pos (by decide)]; simp
theorem reach_C {σ : Sg} (h : PL σ n m W) {s c t k : Nat} (hs : s < n) (hc : c < m) (hn : n ≤ 6) (hm : m ≤ 6) (ht : t < 2 ^ m) (hB : ∀ t, t < 2 ^ m → σ 22 ((s + 1) * 64 + t) = nI (bsR W m k (s + 1) t)) : f_X7_reachedWith 20 (nI s) (nI c) (nI t) (enc sw σ ς) = some (nI (W s c + bsR W m k (s + 1) (t ||| 2 ^ c)), enc sw σ ς) := by
  have hix : nI s * (6 : Int32) + nI c = nI (s * 6 + c) := by rw [show (6 : Int32) = nI 6 from rfl, pk_mul, nI_add]
  have l1 : s * 6 + c < 36 := by omega
  have ht6 := two_le ht hm
  have hor : t ||| 2 ^ c < 2 ^ m := Nat.or_lt_two_pow ht (Nat.pow_lt_pow_right (by omega) hc)
  have hor6 := two_le hor hm
  have hiy : (nI s + (1 : Int32)) * (64 : Int32) + (nI t ||| ((1 : Int32) <<< (nI c &&& 31))) = nI ((s + 1) * 64 + (t ||| 2 ^ c)) := by rw [or_ok t ht6 c (by omega), nI_1, show (64 : Int32) = nI 64 from rfl, pk_mul, nI_add]
  have l2 : (s + 1) * 64 + (t ||| 2 ^ c) < 448 := by omega
  unfold f_X7_reachedWith
  rw [if_pos io_Pl, gr_Pl_0, Option.bind_some, hix, ai_21 l1, Option.bind_some, h.2.2 s c hs hc, gr_Pl_1, Option.bind_some, hiy, ai_22 l2, Option.bind_some, hB _ hor, nI_add]
theorem best_L17 {σ : Sg} (h : PL σ n m W) (hW : ∀ s c, W s c ≤ 198) {s t k : Nat} (hs : s < n) (hk : k ≤ 6) (hn : n ≤ 6) (hm : m ≤ 6) (ht : t < 2 ^ m) (hB : ∀ t, t < 2 ^ m → σ 22 ((s + 1) * 64 + t) = nI (bsR W m k (s + 1) t)) : ∀ (d i f a : Nat), i + d = m → d < f → a ≤ 2000 → f_X7_bestFrom_L17 f 20 (nI s) (nI t) (nI a) (nI i) (enc sw σ ς) = some (nI (foR (fun c => W s c + bsR W m k (s + 1) (t ||| 2 ^ c)) (opn W s t) a i d), enc sw σ ς) := by
  intro d
  induction d with
  | zero =>
    intro i f a hi hf ha
    obtain ⟨f, rfl⟩ : ∃ f', f = f' + 1 := ⟨f - 1, by omega⟩
    show F_X7_bestFrom_L17 (f_X7_bestFrom_L17 f) 20 (nI s) (nI t) (nI a) (nI i) (enc sw σ ς) = _
    unfold F_X7_bestFrom_L17
    rw [gi_Pl_3, Option.bind_some, h.2.1, if_pos (nI_le (show m ≤ i by omega) (by omega))]
    rfl
  | succ d ih =>
    intro i f a hi hf ha
    obtain ⟨f, rfl⟩ : ∃ f', f = f' + 1 := ⟨f - 1, by omega⟩
    have him : i < m := by omega
    have hw := hW s i
    have hbs := bsR_le (m := m) hW k (s + 1) (t ||| 2 ^ i)
    show F_X7_bestFrom_L17 (f_X7_bestFrom_L17 f) 20 (nI s) (nI t) (nI a) (nI i) (enc sw σ ς) = _
    unfold F_X7_bestFrom_L17
    rw [gi_Pl_3, Option.bind_some, h.2.1, if_neg (nI_ge him (by omega)), open_C h hW hs him hn hm (two_le ht hm), bT1_some, reach_C h hs him hn hm ht hB, bT1_some, max_C (by omega) (by omega), nI_1, foR_s]
    by_cases hp : opn W s t i = true
    · rw [if_pos hp, if_neg (by decide), if_pos hp]
      exact ih (i + 1) f _ (by omega) (by omega) (by omega)
    · rw [if_neg hp, if_pos rfl, if_neg hp]
      exact ih (i + 1) f _ (by omega) (by omega) ha
theorem bestFrom_C {σ : Sg} (h : PL σ n m W) (hW : ∀ s c, W s c ≤ 198) {s t k : Nat} (hs : s < n) (hk : k < 6) (hn : n ≤ 6) (hm : m ≤ 6) (ht : t < 2 ^ m) (hB : ∀ t, t < 2 ^ m → σ 22 ((s + 1) * 64 + t) = nI (bsR W m k (s + 1) t)) : f_X7_bestFrom 20 (nI s) (nI t) (enc sw σ ς) = some (nI (bsR W m (k + 1) s t), enc sw σ ς) := by
  have ht6 := two_le ht hm
  have hiy : (nI s + (1 : Int32)) * (64 : Int32) + nI t = nI ((s + 1) * 64 + t) := by rw [nI_1, show (64 : Int32) = nI 64 from rfl, pk_mul, nI_add]
  have l2 : (s + 1) * 64 + t < 448 := by omega
  have hbs := bsR_le (m := m) hW k (s + 1) t
  have hrun : ∀ f, 6 < f → f_X7_bestFrom_L17 f 20 (nI s) (nI t) (nI (bsR W m k (s + 1) t)) (0 : Int32) (enc sw σ ς) = _ := fun f hf => best_L17 h hW hs (by omega) hn hm ht hB m 0 f (bsR W m k (s + 1) t) (by omega) (by omega) (by omega)
  unfold f_X7_bestFrom
  rw [if_pos io_Pl, gr_Pl_1, Option.bind_some, hiy, ai_22 l2, Option.bind_some, hB t ht, hrun 1000000 (by omega), bT1_some, bsR_s]
theorem solve_L9 (hn : n ≤ 6) (hm : m ≤ 6) : ∀ (d i f : Nat) (σ : Sg), i + d = 2 ^ m → d < f → σ 20 2 = nI n → ∃ σ', f_X7_solve_L9 f 20 (nI (2 ^ m)) (nI i) (enc sw σ ς) = some (enc sw σ' ς) ∧ (∀ a, a ≠ 22 → σ' a = σ a) ∧ ∀ q, σ' 22 q = if n * 64 + i ≤ q ∧ q < n * 64 + 2 ^ m then 0 else σ 22 q := by
  have h64 : 2 ^ m ≤ 64 := Nat.pow_le_pow_right (by omega) hm
  intro d
  induction d with
  | zero =>
    intro i f σ hi hf h2
    obtain ⟨f, rfl⟩ : ∃ f', f = f' + 1 := ⟨f - 1, by omega⟩
    refine ⟨σ, ?_, fun _ _ => rfl, fun q => ?_⟩
    · show F_X7_solve_L9 (f_X7_solve_L9 f) 20 (nI (2 ^ m)) (nI i) (enc sw σ ς) = _
      unfold F_X7_solve_L9
      rw [if_pos (nI_le (show 2 ^ m ≤ i by omega) (by omega))]
    · rw [if_neg (by omega)]
  | succ d ih =>
    intro i f σ hi hf h2
    obtain ⟨f, rfl⟩ : ∃ f', f = f' + 1 := ⟨f - 1, by omega⟩
    have hix : nI n * (64 : Int32) + nI i = nI (n * 64 + i) := by rw [show (64 : Int32) = nI 64 from rfl, pk_mul, nI_add]
    have l1 : n * 64 + i < 448 := by omega
    obtain ⟨σ', g1, g2, g3⟩ := ih (i + 1) f (uA σ 22 (upd (σ 22) (n * 64 + i) 0)) (by omega) (by omega) (by rw [uA_n (by omega)]; exact h2)
    refine ⟨σ', ?_, fun a z => by rw [g2 a z, uA_n z], fun q => ?_⟩
    · show F_X7_solve_L9 (f_X7_solve_L9 f) 20 (nI (2 ^ m)) (nI i) (enc sw σ ς) = _
      unfold F_X7_solve_L9
      rw [if_neg (nI_ge (show i < 2 ^ m by omega) (by omega)), gr_Pl_1, Option.bind_some, gi_Pl_2, Option.bind_some, h2, hix, aw_22 l1, Option.bind_some, nI_1]
      exact g1
    · rw [g3 q, uA_s]
      by_cases z : n * 64 + (i + 1) ≤ q ∧ q < n * 64 + 2 ^ m
      · rw [if_pos z, if_pos (by omega)]
      · rw [if_neg z]
        by_cases z2 : q = n * 64 + i
        · subst z2; rw [pk_us, if_pos (by omega)]
        · rw [pk_un z2, if_neg (by omega)]
theorem solve_L48 (hW : ∀ s c, W s c ≤ 198) {s k : Nat} (hs : s < n) (hk : k < 6) (hn : n ≤ 6) (hm : m ≤ 6) : ∀ (d i f : Nat) (σ : Sg), i + d = 2 ^ m → d < f → PL σ n m W → (∀ t, t < 2 ^ m → σ 22 ((s + 1) * 64 + t) = nI (bsR W m k (s + 1) t)) → ∃ σ', f_X7_solve_L48 f 20 (nI (2 ^ m)) (nI s) (nI i) (enc sw σ ς) = some (enc sw σ' ς) ∧ (∀ a, a ≠ 22 → σ' a = σ a) ∧ ∀ q, σ' 22 q = if s * 64 + i ≤ q ∧ q < s * 64 + 2 ^ m then nI (bsR W m (k + 1) s (q - s * 64)) else σ 22 q := by
  have h64 : 2 ^ m ≤ 64 := Nat.pow_le_pow_right (by omega) hm
  intro d
  induction d with
  | zero =>
    intro i f σ hi hf hp hB
    obtain ⟨f, rfl⟩ : ∃ f', f = f' + 1 := ⟨f - 1, by omega⟩
    refine ⟨σ, ?_, fun _ _ => rfl, fun q => ?_⟩
    · show F_X7_solve_L48 (f_X7_solve_L48 f) 20 (nI (2 ^ m)) (nI s) (nI i) (enc sw σ ς) = _
      unfold F_X7_solve_L48
      rw [if_pos (nI_le (show 2 ^ m ≤ i by omega) (by omega))]
    · rw [if_neg (by omega)]
  | succ d ih =>
    intro i f σ hi hf hp hB
    obtain ⟨f, rfl⟩ : ∃ f', f = f' + 1 := ⟨f - 1, by omega⟩
    have hix : nI s * (64 : Int32) + nI i = nI (s * 64 + i) := by rw [show (64 : Int32) = nI 64 from rfl, pk_mul, nI_add]
    have l1 : s * 64 + i < 448 := by omega
    obtain ⟨σ', g1, g2, g3⟩ := ih (i + 1) f (uA σ 22 (upd (σ 22) (s * 64 + i) (nI (bsR W m (k + 1) s i)))) (by omega) (by omega) (hp.c (uA_n (by omega)) (uA_n (by omega))) (fun t ht => by rw [uA_s, pk_un (by omega)]; exact hB t ht)
    refine ⟨σ', ?_, fun a z => by rw [g2 a z, uA_n z], fun q => ?_⟩
    · show F_X7_solve_L48 (f_X7_solve_L48 f) 20 (nI (2 ^ m)) (nI s) (nI i) (enc sw σ ς) = _
      unfold F_X7_solve_L48
      rw [if_neg (nI_ge (show i < 2 ^ m by omega) (by omega)), gr_Pl_1, Option.bind_some, bestFrom_C hp hW hs hk hn hm (show i < 2 ^ m by omega) hB, bT1_some, hix, aw_22 l1, Option.bind_some, nI_1]
      exact g1
    · rw [g3 q, uA_s]
      by_cases z : s * 64 + (i + 1) ≤ q ∧ q < s * 64 + 2 ^ m
      · rw [if_pos z, if_pos (by omega)]
      · rw [if_neg z]
        by_cases z2 : q = s * 64 + i
        · subst z2; rw [pk_us, if_pos (by omega), show s * 64 + i - s * 64 = i by omega]
        · rw [pk_un z2, if_neg (by omega)]
/-- the table from singer j on -/
def TB (σ : Sg) (a n m j T : Nat) (W : Nat → Nat → Nat) : Prop := ∀ s, j ≤ s → s ≤ n → ∀ t, t < T → σ a (s * 64 + t) = nI (bsR W m (n - s) s t)
theorem solve_L42 (hW : ∀ s c, W s c ≤ 198) (hn : n ≤ 6) (hm : m ≤ 6) : ∀ (j f : Nat) (σ : Sg), j ≤ n → j < f → PL σ n m W → TB σ 22 n m j (2 ^ m) W → ∃ σ', f_X7_solve_L42 f 20 (nI (2 ^ m)) (nI j + (-1)) (enc sw σ ς) = some (enc sw σ' ς) ∧ (∀ a, a ≠ 22 → σ' a = σ a) ∧ TB σ' 22 n m 0 (2 ^ m) W := by
  have h64 : 2 ^ m ≤ 64 := Nat.pow_le_pow_right (by omega) hm
  intro j
  induction j with
  | zero =>
    intro f σ hj hf hp ht
    obtain ⟨f, rfl⟩ : ∃ f', f = f' + 1 := ⟨f - 1, by omega⟩
    refine ⟨σ, ?_, fun _ _ => rfl, ht⟩
    show F_X7_solve_L42 (f_X7_solve_L42 f) 20 (nI (2 ^ m)) (nI 0 + (-1)) (enc sw σ ς) = _
    unfold F_X7_solve_L42
    rw [if_pos (by decide)]
  | succ j ih =>
    intro f σ hj hf hp ht
    obtain ⟨f, rfl⟩ : ∃ f', f = f' + 1 := ⟨f - 1, by omega⟩
    have hrun : ∀ g, 64 < g → ∃ σ', f_X7_solve_L48 g 20 (nI (2 ^ m)) (nI j) (0 : Int32) (enc sw σ ς) = some (enc sw σ' ς) ∧ (∀ a, a ≠ 22 → σ' a = σ a) ∧ ∀ q, σ' 22 q = if j * 64 + 0 ≤ q ∧ q < j * 64 + 2 ^ m then nI (bsR W m (n - (j + 1) + 1) j (q - j * 64)) else σ 22 q := fun g hg => solve_L48 hW (show j < n by omega) (show n - (j + 1) < 6 by omega) hn hm (2 ^ m) 0 g σ (by omega) (by omega) hp (fun t z => ht (j + 1) (by omega) (by omega) t z)
    obtain ⟨σa, y1, y2, y3⟩ := hrun 1000000 (by omega)
    obtain ⟨σ', g1, g2, g3⟩ := ih f σa (by omega) (by omega) (hp.c (y2 20 (by omega)) (y2 21 (by omega))) (fun s z1 z2 t z3 => by
      rw [y3]
      by_cases e : s = j
      · subst e
        rw [if_pos (by omega), show s * 64 + t - s * 64 = t by omega, show n - (s + 1) + 1 = n - s by omega]
      · rw [if_neg (by omega)]; exact ht s (by omega) z2 t z3)
    refine ⟨σ', ?_, fun a z => by rw [g2 a z, y2 a z], g3⟩
    show F_X7_solve_L42 (f_X7_solve_L42 f) 20 (nI (2 ^ m)) (nI (j + 1) + (-1)) (enc sw σ ς) = _
    rw [pk_m1]
    unfold F_X7_solve_L42
    rw [if_neg (nI_pos (by omega)), y1, Option.bind_some]
    exact g1
theorem shl_ok : ∀ m, m < 7 → ((1 : Int32) <<< (nI m &&& 31)) = nI (2 ^ m) := by decide +kernel
theorem sub1 (x : Int32) : x - (1 : Int32) = x + (-1) := Int32.sub_eq_add_neg x 1
theorem solve_C {σ : Sg} (hp : PL σ n m W) (hW : ∀ s c, W s c ≤ 198) (hn : n ≤ 6) (hm : m ≤ 6) : ∃ σ', f_X7_solve 20 (enc sw σ ς) = some (enc sw σ' ς) ∧ (∀ a, a ≠ 22 → σ' a = σ a) ∧ TB σ' 22 n m 0 (2 ^ m) W := by
  have h64 : 2 ^ m ≤ 64 := Nat.pow_le_pow_right (by omega) hm
  have hr1 : ∀ g, 64 < g → ∃ σ', f_X7_solve_L9 g 20 (nI (2 ^ m)) (0 : Int32) (enc sw σ ς) = some (enc sw σ' ς) ∧ (∀ a, a ≠ 22 → σ' a = σ a) ∧ ∀ q, σ' 22 q = if n * 64 + 0 ≤ q ∧ q < n * 64 + 2 ^ m then 0 else σ 22 q := fun g hg => solve_L9 hn hm (2 ^ m) 0 g σ (by omega) (by omega) hp.1
  obtain ⟨σa, y1, y2, y3⟩ := hr1 1000000 (by omega)
  have hr2 : ∀ g, 6 < g → ∃ σ', f_X7_solve_L42 g 20 (nI (2 ^ m)) (nI n + (-1)) (enc sw σa ς) = some (enc sw σ' ς) ∧ (∀ a, a ≠ 22 → σ' a = σa a) ∧ TB σ' 22 n m 0 (2 ^ m) W := fun g hg => solve_L42 hW hn hm n g σa (Nat.le_refl n) (by omega) (hp.c (y2 20 (by omega)) (y2 21 (by omega))) (fun s z1 z2 t z3 => by
    obtain rfl : s = n := by omega
    rw [y3, if_pos (by omega), Nat.sub_self]; rfl)
  obtain ⟨σ', x1, x2, x3⟩ := hr2 1000000 (by omega)
  refine ⟨σ', ?_, fun a z => by rw [x2 a z, y2 a z], x3⟩
  have e2 : σa 20 2 = nI n := by rw [y2 20 (by omega)]; exact hp.1
  unfold f_X7_solve
  rw [if_pos io_Pl, gi_Pl_3, Option.bind_some, hp.2.1, shl_ok m (by omega), y1, Option.bind_some, gi_Pl_2, Option.bind_some, e2, sub1, x1, Option.bind_some]
end SO
