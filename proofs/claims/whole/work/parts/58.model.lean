/-! the reference's reader -/
def TXm (σ : Sg) (T : Nat → Nat) (len : Nat) : Prop := len ≤ 240 ∧ σ 302 1 = nI len ∧ ∀ i, i < len → σ 303 i = nI (T i) ∧ T i < 256
def RMs (σ : Sg) (B : Nat) (s : St) : Prop := match s with
  | .ok a => a ≤ B ∧ σ 302 22 = nI a ∧ σ 302 23 = 0 ∧ σ 302 2 = -1
  | .error e => (∃ a, a ≤ B ∧ σ 302 22 = nI a) ∧ (1 ≤ e.1 ∧ e.1 ≤ 3) ∧ σ 302 23 = nI e.1 ∧ σ 302 2 = nI e.2
def FRm (σ σ' : Sg) : Prop := (∀ a, a ≠ 302 → σ' a = σ a) ∧ ∀ j, j ≠ 2 → j ≠ 22 → j ≠ 23 → σ' 302 j = σ 302 j
theorem FRm.refl (σ : Sg) : FRm σ σ := ⟨fun _ _ => rfl, fun _ _ _ _ => rfl⟩
theorem FRm.trans {σ1 σ2 σ3 : Sg} (h : FRm σ1 σ2) (h' : FRm σ2 σ3) : FRm σ1 σ3 := ⟨fun a ha => (h'.1 a ha).trans (h.1 a ha), fun j z1 z2 z3 => (h'.2 j z1 z2 z3).trans (h.2 j z1 z2 z3)⟩
theorem TXm.c {σ σ' : Sg} {T : Nat → Nat} {len : Nat} (h : TXm σ T len) (e1 : σ' 302 1 = σ 302 1) (e2 : σ' 303 = σ 303) : TXm σ' T len := by unfold TXm at h ⊢; rw [e1, e2]; exact h
theorem TXm.f {σ σ' : Sg} {T : Nat → Nat} {len : Nat} (h : TXm σ T len) (f : FRm σ σ') : TXm σ' T len := h.c (f.2 1 (by omega) (by omega) (by omega)) (f.1 303 (by omega))
theorem RMs.at {σ : Sg} {B : Nat} {s : St} (h : RMs σ B s) : ∃ a, a ≤ B ∧ σ 302 22 = nI a ∧ ∀ b, s = .ok b → a = b := by
  cases s with
  | ok a => exact ⟨a, h.1, h.2.1, fun b hb => by cases hb; rfl⟩
  | error e => obtain ⟨a, a1, a2⟩ := h.1; exact ⟨a, a1, a2, fun b hb => by cases hb⟩
theorem RMs.move {σ σ' : Sg} {B B' a : Nat} {s : St} (h : RMs σ B s) (ha : a ≤ B') (e4 : σ' 302 22 = nI a) (e3 : σ' 302 23 = σ 302 23) (e2 : σ' 302 2 = σ 302 2) : RMs σ' B' (setS a s) := by
  cases s with
  | ok b => exact ⟨ha, e4, by rw [e3]; exact h.2.2.1, by rw [e2]; exact h.2.2.2⟩
  | error e => exact ⟨⟨a, ha, e4⟩, h.2.1, by rw [e3]; exact h.2.2.1, by rw [e2]; exact h.2.2.2⟩
theorem RMs.c {σ σ' : Sg} {B : Nat} {s : St} (h : RMs σ B s) (e4 : σ' 302 22 = σ 302 22) (e3 : σ' 302 23 = σ 302 23) (e2 : σ' 302 2 = σ 302 2) : RMs σ' B s := by
  unfold RMs at h ⊢
  rw [e4, e3, e2]; exact h
theorem dg_no {T : Nat → Nat} {len p : Nat} (h : ¬ (p < len ∧ 48 ≤ T p ∧ T p ≤ 57)) : (dgD T (len - p) p p 0).1 = p := by
  by_cases z : p < len
  · obtain ⟨d, hd⟩ : ∃ d, len - p = d + 1 := ⟨len - p - 1, by omega⟩
    rw [hd]
    unfold dgD
    rw [if_neg (fun w => h ⟨z, w⟩)]
  · rw [show len - p = 0 by omega]; rfl
theorem dg_yes {T : Nat → Nat} {len p : Nat} (h : p < len ∧ 48 ≤ T p ∧ T p ≤ 57) : p < (dgD T (len - p) p p 0).1 := by
  obtain ⟨d, hd⟩ : ∃ d, len - p = d + 1 := ⟨len - p - 1, by omega⟩
  rw [hd]
  unfold dgD
  rw [if_pos h.2]
  have := dgD_b T d (p + 1) p (if p - p < 3 then 0 * 10 + (T p - 48) else 0) (by omega) (by omega) (by intro z; split <;> omega) (by omega) (by split <;> omega)
  omega
section TM
variable {sw : Bool} {ς : Lg} {T : Nat → Nat} {len : Nat}
theorem skip_LM : ∀ (d a f : Nat) (σ : Sg), TXm σ T len → d = len - a → d < f → σ 302 22 = nI a → a ≤ len + 1 →
    ∃ σ', f_X13_skips_L0 f 302 (enc sw σ ς) = some (enc sw σ' ς) ∧ (∀ x, x ≠ 302 → σ' x = σ x) ∧ (∀ j, j ≠ 22 → σ' 302 j = σ 302 j) ∧ σ' 302 22 = nI (skpD T d a) := by
  intro d
  induction d with
  | zero =>
    intro a f σ hT hd hf h4 hb
    obtain ⟨f, rfl⟩ : ∃ f', f = f' + 1 := ⟨f - 1, by omega⟩
    obtain ⟨t1, t2, t3⟩ := hT
    refine ⟨σ, ?_, fun _ _ => rfl, fun _ _ => rfl, h4⟩
    show F_X13_skips_L0 (f_X13_skips_L0 f) 302 (enc sw σ ς) = _
    unfold F_X13_skips_L0
    rw [gi_Mo_22, Option.bind_some, gi_Mo_1, Option.bind_some, h4, t2, if_pos (nI_le (by omega) (by omega))]
  | succ d ih =>
    intro a f σ hT hd hf h4 hb
    obtain ⟨f, rfl⟩ : ∃ f', f = f' + 1 := ⟨f - 1, by omega⟩
    obtain ⟨t1, t2, t3⟩ := id hT
    have hal : a < len := by omega
    have la : a < 240 := by omega
    obtain ⟨u1, u2⟩ := t3 a hal
    have hgo : ∀ r, (if nI (T a) = (32 : Int32) then f_X13_skips_L0 f 302 (enc sw (uA σ 302 (upd (σ 302) 22 (nI (a + 1)))) ς) else some (enc sw σ ς)) = r → f_X13_skips_L0 (f + 1) 302 (enc sw σ ς) = r := by
      intro r hr
      show F_X13_skips_L0 (f_X13_skips_L0 f) 302 (enc sw σ ς) = _
      unfold F_X13_skips_L0
      rw [gi_Mo_22, Option.bind_some, gi_Mo_1, Option.bind_some, h4, t2, if_neg (nI_ge hal (by omega)), gr_Mo_0, Option.bind_some, Option.bind_some, ai_303 la, Option.bind_some, u1, Option.bind_some, nI_1, pf_Mo_22, Option.bind_some]
      exact hr
    unfold skpD
    by_cases h32 : T a = 32
    · obtain ⟨σ', g1, g2, g3, g4⟩ := ih (a + 1) f (uA σ 302 (upd (σ 302) 22 (nI (a + 1)))) (hT.c (by rw [uA_s, pk_un (by omega)]) (uA_n (by omega))) (by omega) (by omega) (by rw [uA_s, pk_us]) (by omega)
      refine ⟨σ', hgo _ ?_, fun x hx => by rw [g2 x hx, uA_n hx], fun j hj => by rw [g3 j hj, uA_s, pk_un hj], by rw [if_pos h32]; exact g4⟩
      rw [if_pos (by rw [h32]; rfl)]; exact g1
    · refine ⟨σ, hgo _ ?_, fun _ _ => rfl, fun _ _ => rfl, by rw [if_neg h32]; exact h4⟩
      rw [if_neg (show ¬ nI (T a) = (32 : Int32) from fun z => h32 ((nI_eq (b := 32) (by omega) (by omega)).mp z))]
theorem skip_M {σ : Sg} {a : Nat} (hT : TXm σ T len) (h4 : σ 302 22 = nI a) (hb : a ≤ len + 1) : ∃ σ', f_X13_skips 302 (enc sw σ ς) = some (enc sw σ' ς) ∧ (∀ x, x ≠ 302 → σ' x = σ x) ∧ (∀ j, j ≠ 22 → σ' 302 j = σ 302 j) ∧ σ' 302 22 = nI (skp T len a) := by
  have hrun : ∀ f, 240 < f → ∃ σ', f_X13_skips_L0 f 302 (enc sw σ ς) = some (enc sw σ' ς) ∧ (∀ x, x ≠ 302 → σ' x = σ x) ∧ (∀ j, j ≠ 22 → σ' 302 j = σ 302 j) ∧ σ' 302 22 = nI (skpD T (len - a) a) := fun f hf => skip_LM (len - a) a f σ hT rfl (by have := hT.1; omega) h4 hb
  obtain ⟨σ', g1, g2⟩ := hrun 1000000 (by omega)
  refine ⟨σ', ?_, g2⟩
  unfold f_X13_skips
  rw [if_pos io_Mo, g1, Option.bind_some]
theorem fig_M {σ : Sg} {a : Nat} (hT : TXm σ T len) (h4 : σ 302 22 = nI a) (hb : a ≤ len) : f_X13_isFigure 302 (enc sw σ ς) = some (if a < len ∧ 48 ≤ T a ∧ T a ≤ 57 then 1 else 0, enc sw σ ς) := by
  obtain ⟨t1, t2, t3⟩ := id hT
  unfold f_X13_isFigure
  rw [if_pos io_Mo, gi_Mo_22, Option.bind_some, gi_Mo_1, Option.bind_some, h4, t2]
  by_cases hl : a < len
  · have la : a < 240 := by omega
    obtain ⟨u1, u2⟩ := t3 a hl
    rw [if_neg (nI_ge hl (by omega)), gr_Mo_0, Option.bind_some, Option.bind_some, ai_303 la, Option.bind_some, u1]
    by_cases c1 : T a < 48
    · rw [if_pos (show nI (T a) < (48 : Int32) from nI_lt (b := 48) c1 (by omega)), if_neg (by omega)]
    · rw [if_neg (show ¬ nI (T a) < (48 : Int32) from nI_nlt (b := 48) (by omega) (by omega)), Option.bind_some, Option.bind_some, ai_303 la, Option.bind_some, u1]
      by_cases c2 : 57 < T a
      · rw [if_pos (show (57 : Int32) < nI (T a) from nI_lt (a := 57) c2 (by omega)), if_neg (by omega)]
      · rw [if_neg (show ¬ (57 : Int32) < nI (T a) from nI_nlt (a := 57) (by omega) (by omega)), if_pos (by omega)]
  · rw [if_pos (nI_le (by omega) (by omega)), if_neg (by omega)]
theorem dig_LM {lo hi : Int32} {st : Nat} : ∀ (d a f v : Nat) (σ : Sg), TXm σ T len → d = len - a → d < f → σ 302 22 = nI a → a ≤ len → st ≤ a →
    ∃ σ', f_X13_number_L39 f 302 lo hi (nI st) (nI v) (enc sw σ ς) = some (nI (dgD T d a st v).2, enc sw σ' ς) ∧ (∀ x, x ≠ 302 → σ' x = σ x) ∧ (∀ j, j ≠ 22 → σ' 302 j = σ 302 j) ∧ σ' 302 22 = nI (dgD T d a st v).1 := by
  intro d
  induction d with
  | zero =>
    intro a f v σ hT hd hf h4 hb hst
    obtain ⟨f, rfl⟩ : ∃ f', f = f' + 1 := ⟨f - 1, by omega⟩
    refine ⟨σ, ?_, fun _ _ => rfl, fun _ _ => rfl, h4⟩
    show F_X13_number_L39 (f_X13_number_L39 f) 302 lo hi (nI st) (nI v) (enc sw σ ς) = _
    unfold F_X13_number_L39
    rw [fig_M hT h4 hb, bT1_some, if_neg (show ¬ (a < len ∧ 48 ≤ T a ∧ T a ≤ 57) by omega), if_pos rfl]
    rfl
  | succ d ih =>
    intro a f v σ hT hd hf h4 hb hst
    obtain ⟨f, rfl⟩ : ∃ f', f = f' + 1 := ⟨f - 1, by omega⟩
    obtain ⟨t1, t2, t3⟩ := id hT
    have hal : a < len := by omega
    have la : a < 240 := by omega
    obtain ⟨u1, u2⟩ := t3 a hal
    have hst2 : nI a - nI st = nI (a - st) := pk_sub hst
    unfold dgD
    by_cases hd1 : 48 ≤ T a ∧ T a ≤ 57
    · obtain ⟨σ', g1, g2, g3, g4⟩ := ih (a + 1) f (if a - st < 3 then v * 10 + (T a - 48) else v) (uA σ 302 (upd (σ 302) 22 (nI (a + 1)))) (hT.c (by rw [uA_s, pk_un (by omega)]) (uA_n (by omega))) (by omega) (by omega) (by rw [uA_s, pk_us]) (by omega) (by omega)
      rw [if_pos hd1]
      refine ⟨σ', ?_, fun x hx => by rw [g2 x hx, uA_n hx], fun j hj => by rw [g3 j hj, uA_s, pk_un hj], g4⟩
      show F_X13_number_L39 (f_X13_number_L39 f) 302 lo hi (nI st) (nI v) (enc sw σ ς) = _
      unfold F_X13_number_L39 f_X13_number_79
      rw [fig_M hT h4 hb, bT1_some, if_pos (show a < len ∧ 48 ≤ T a ∧ T a ≤ 57 from ⟨hal, hd1⟩), if_neg (by decide), gi_Mo_22, Option.bind_some, h4, hst2]
      have hval : ((10 : Int32) * nI v + nI (T a)) - (48 : Int32) = nI (v * 10 + (T a - 48)) := by
        rw [show (10 : Int32) = nI 10 from rfl, pk_mul, nI_add, show nI (10 * v + T a) - (48 : Int32) = nI (10 * v + T a - 48) from pk_sub (b := 48) (by omega), show 10 * v + T a - 48 = v * 10 + (T a - 48) by omega]
      by_cases h3 : a - st < 3
      · rw [if_neg (show ¬ (3 : Int32) ≤ nI (a - st) from nI_ge (b := 3) h3 (by omega)), gr_Mo_0, Option.bind_some, Option.bind_some, ai_303 la, Option.bind_some, u1, Option.bind_some, nI_1, pf_Mo_22, Option.bind_some, hval]
        rw [if_pos h3] at g1 ⊢
        exact g1
      · rw [if_pos (show (3 : Int32) ≤ nI (a - st) from nI_le (a := 3) (by omega) (by omega)), Option.bind_some, nI_1, pf_Mo_22, Option.bind_some]
        rw [if_neg h3] at g1 ⊢
        exact g1
    · rw [if_neg hd1]
      refine ⟨σ, ?_, fun _ _ => rfl, fun _ _ => rfl, h4⟩
      show F_X13_number_L39 (f_X13_number_L39 f) 302 lo hi (nI st) (nI v) (enc sw σ ς) = _
      unfold F_X13_number_L39
      rw [fig_M hT h4 hb, bT1_some, if_neg (show ¬ (a < len ∧ 48 ≤ T a ∧ T a ≤ 57) from fun z => hd1 z.2), if_pos rfl]
theorem faults_M {σ : Sg} {B b k p : Nat} (hs : RMs σ B (.ok b)) (hk : 1 ≤ k ∧ k ≤ 3) : ∃ σ', f_X13_faults 302 (nI k) (nI p) (enc sw σ ς) = some (enc sw σ' ς) ∧ FRm σ σ' ∧ RMs σ' B (.error (k, p)) ∧ σ' 302 22 = nI b := by
  obtain ⟨s1, s2, s3, s4⟩ := hs
  refine ⟨uA (uA σ 302 (upd (σ 302) 23 (nI k))) 302 (upd (uA σ 302 (upd (σ 302) 23 (nI k)) 302) 2 (nI p)), ?_, ⟨fun x hx => by rw [uA_n hx, uA_n hx], fun j z1 z2 z3 => by rw [uA_s, uA_s, pk_un z1, pk_un z3]⟩, ⟨⟨b, s1, ?_⟩, hk, ?_, ?_⟩, ?_⟩
  · unfold f_X13_faults
    rw [if_pos io_Mo, gi_Mo_23, Option.bind_some, s3, if_pos rfl, pf_Mo_23, Option.bind_some, pf_Mo_2, Option.bind_some]
  · rw [uA_s, uA_s, pk_un (by omega), pk_un (by omega)]; exact s2
  · rw [uA_s, uA_s, pk_un (by omega), pk_us]
  · rw [uA_s, pk_us]
  · rw [uA_s, uA_s, pk_un (by omega), pk_un (by omega)]; exact s2
theorem num_M {σ : Sg} {s : St} {lo hi : Nat} (hT : TXm σ T len) (hs : RMs σ len s) (hlo : lo < 2 ^ 31) (hhi : hi < 2 ^ 31) : ∃ x σ', f_X13_number 302 (nI lo) (nI hi) (enc sw σ ς) = some (x, enc sw σ' ς) ∧ FRm σ σ' ∧ RMs σ' len (posS (numS T len lo hi s)) ∧ (okS (numS T len lo hi s) → x = nI (valS (numS T len lo hi s))) := by
  obtain ⟨a, a1, a2, a3⟩ := hs.at
  obtain ⟨σ1, k1, k2, k3, k4⟩ := skip_M (sw := sw) (ς := ς) hT a2 (by omega)
  have hsk := skp_b T a1
  have hlen := hT.1
  have f1 : FRm σ σ1 := ⟨k2, fun j z1 z2 z3 => k3 j z2⟩
  have hT1 : TXm σ1 T len := hT.f f1
  have q1 := hs.move (σ' := σ1) (B' := len) hsk.2 k4 (k3 23 (by omega)) (k3 2 (by omega))
  cases s with
  | error e =>
    refine ⟨0, σ1, ?_, f1, q1, fun z => absurd z (fun z => z)⟩
    unfold f_X13_number
    rw [if_pos io_Mo, k1, Option.bind_some, gi_Mo_23, Option.bind_some, k3 23 (by omega), hs.2.2.1, if_neg (nI_ne0 (by have := hs.2.1; omega) (by have := hs.2.1; omega))]
  | ok b =>
    obtain rfl := a3 b rfl
    have z23 : σ1 302 23 = 0 := by rw [k3 23 (by omega)]; exact hs.2.2.1
    have hfig := fig_M (sw := sw) (ς := ς) hT1 k4 hsk.2
    show ∃ x σ', _ ∧ FRm σ σ' ∧ RMs σ' len (posS (num T len lo hi a)) ∧ (okS (num T len lo hi a) → x = nI (valS (num T len lo hi a)))
    unfold num
    by_cases hf : skp T len a < len ∧ 48 ≤ T (skp T len a) ∧ T (skp T len a) ≤ 57
    · rw [if_pos hf] at hfig
      have hne := dg_yes hf
      rw [if_neg (by omega)]
      have hrun : ∀ f, 240 < f → ∃ σ', f_X13_number_L39 f 302 (nI lo) (nI hi) (nI (skp T len a)) (0 : Int32) (enc sw σ1 ς) = some (nI (dgD T (len - skp T len a) (skp T len a) (skp T len a) 0).2, enc sw σ' ς) ∧ (∀ x, x ≠ 302 → σ' x = σ1 x) ∧ (∀ j, j ≠ 22 → σ' 302 j = σ1 302 j) ∧ σ' 302 22 = nI (dgD T (len - skp T len a) (skp T len a) (skp T len a) 0).1 := fun f hf => dig_LM (len - skp T len a) (skp T len a) f 0 σ1 hT1 rfl (by omega) k4 hsk.2 (Nat.le_refl _)
      obtain ⟨σ2, d1, d2, d3, d4⟩ := hrun 1000000 (by omega)
      have hdb := dgD_b T (len - skp T len a) (skp T len a) (skp T len a) 0 (Nat.le_refl _) (fun _ => rfl) (fun _ => by omega) (fun _ => by omega) (by omega)
      have q2 := q1.move (σ' := σ2) (B' := len) (a := (dgD T (len - skp T len a) (skp T len a) (skp T len a) 0).1) (by omega) d4 (d3 23 (by omega)) (d3 2 (by omega))
      have f2 : FRm σ σ2 := f1.trans ⟨d2, fun j z1 z2 z3 => d3 j z2⟩
      have hsub : nI (dgD T (len - skp T len a) (skp T len a) (skp T len a) 0).1 - nI (skp T len a) = nI ((dgD T (len - skp T len a) (skp T len a) (skp T len a) 0).1 - skp T len a) := pk_sub hdb.1
      have hmid : ∀ r, (if (3 : Int32) < nI ((dgD T (len - skp T len a) (skp T len a) (skp T len a) 0).1 - skp T len a) then f_X13_number_116 302 (nI (skp T len a)) (enc sw σ2 ς) else if nI (dgD T (len - skp T len a) (skp T len a) (skp T len a) 0).2 < nI lo then f_X13_number_116 302 (nI (skp T len a)) (enc sw σ2 ς) else if nI (dgD T (len - skp T len a) (skp T len a) (skp T len a) 0).2 ≤ nI hi then some (nI (dgD T (len - skp T len a) (skp T len a) (skp T len a) 0).2, enc sw σ2 ς) else f_X13_number_116 302 (nI (skp T len a)) (enc sw σ2 ς)) = r → f_X13_number 302 (nI lo) (nI hi) (enc sw σ ς) = r := by
        intro r hr
        unfold f_X13_number
        rw [if_pos io_Mo, k1, Option.bind_some, gi_Mo_23, Option.bind_some, z23, if_pos rfl, hfig, bT1_some, if_neg (by decide), gi_Mo_22, Option.bind_some, k4, d1, bT1_some, gi_Mo_22, Option.bind_some, d4, hsub]
        exact hr
      by_cases e1 : 3 < (dgD T (len - skp T len a) (skp T len a) (skp T len a) 0).1 - skp T len a ∨ (dgD T (len - skp T len a) (skp T len a) (skp T len a) 0).2 < lo ∨ hi < (dgD T (len - skp T len a) (skp T len a) (skp T len a) 0).2
      · rw [if_pos e1]
        obtain ⟨σ3, b1, b2, b3, b4⟩ := faults_M (sw := sw) (ς := ς) (k := 2) (p := skp T len a) q2 (by omega)
        have h116 : f_X13_number_116 302 (nI (skp T len a)) (enc sw σ2 ς) = some (0, enc sw σ3 ς) := by
          unfold f_X13_number_116
          rw [show (2 : Int32) = nI 2 from rfl, b1, Option.bind_some]
        refine ⟨0, σ3, hmid _ ?_, f2.trans b2, b3, fun z => absurd z (fun z => z)⟩
        rw [h116]
        by_cases c1 : 3 < (dgD T (len - skp T len a) (skp T len a) (skp T len a) 0).1 - skp T len a
        · rw [if_pos (show (3 : Int32) < nI _ from nI_lt (a := 3) c1 (by omega))]
        · rw [if_neg (show ¬ (3 : Int32) < nI _ from nI_nlt (a := 3) (by omega) (by omega))]
          by_cases c2 : (dgD T (len - skp T len a) (skp T len a) (skp T len a) 0).2 < lo
          · rw [if_pos (nI_lt c2 hlo)]
          · rw [if_neg (nI_nlt (by omega) (by omega)), if_neg (nI_ge (by omega) (by omega))]
      · rw [if_neg e1]
        refine ⟨nI (dgD T (len - skp T len a) (skp T len a) (skp T len a) 0).2, σ2, hmid _ ?_, f2, q2, fun _ => rfl⟩
        rw [if_neg (show ¬ (3 : Int32) < nI _ from nI_nlt (a := 3) (by omega) (by omega)), if_neg (nI_nlt (by omega) (by omega)), if_pos (nI_le (by omega) hhi)]
    · rw [if_neg hf] at hfig
      rw [if_pos (dg_no hf)]
      obtain ⟨σ3, b1, b2, b3, b4⟩ := faults_M (sw := sw) (ς := ς) (k := 1) (p := skp T len a) q1 (by omega)
      refine ⟨0, σ3, ?_, f1.trans b2, b3, fun z => absurd z (fun z => z)⟩
      unfold f_X13_number
      rw [if_pos io_Mo, k1, Option.bind_some, gi_Mo_23, Option.bind_some, z23, if_pos rfl, hfig, bT1_some, if_pos rfl, gi_Mo_22, Option.bind_some, k4, show (1 : Int32) = nI 1 from rfl, b1, Option.bind_some]
theorem step_M {σ : Sg} {s : St} {a : Nat} (hs : RMs σ len s) (h4 : σ 302 22 = nI a) (ha : a ≤ len) : ∃ σ', f_X13_clause_349 302 (enc sw σ ς) = some (enc sw σ' ς) ∧ FRm σ σ' ∧ RMs σ' (len + 1) (setS (a + 1) s) := by
  refine ⟨uA σ 302 (upd (σ 302) 22 (nI (a + 1))), ?_, ⟨fun x hx => uA_n hx, fun j z1 z2 z3 => by rw [uA_s, pk_un z2]⟩, hs.move (by omega) (by rw [uA_s, pk_us]) (by rw [uA_s, pk_un (by omega)]) (by rw [uA_s, pk_un (by omega)])⟩
  unfold f_X13_clause_349
  rw [gi_Mo_22, Option.bind_some, h4, nI_1, pf_Mo_22, Option.bind_some]
theorem end_M {σ : Sg} {s : St} (hT : TXm σ T len) (hs : RMs σ len s) : ∃ σ', f_X13_clause_304 302 (enc sw σ ς) = some (enc sw σ' ς) ∧ FRm σ σ' ∧ RMs σ' (len + 1) (endS T len s) := by
  obtain ⟨a, a1, a2, a3⟩ := hs.at
  obtain ⟨σ1, k1, k2, k3, k4⟩ := skip_M (sw := sw) (ς := ς) hT a2 (by omega)
  have hsk := skp_b T a1
  have hlen := hT.1
  have f1 : FRm σ σ1 := ⟨k2, fun j z1 z2 z3 => k3 j z2⟩
  have hT1 : TXm σ1 T len := hT.f f1
  obtain ⟨t1, t2, t3⟩ := id hT1
  have q1 := hs.move (σ' := σ1) (B' := len) hsk.2 k4 (k3 23 (by omega)) (k3 2 (by omega))
  unfold f_X13_clause_304
  rw [k1, Option.bind_some, gi_Mo_23, Option.bind_some, k3 23 (by omega)]
  cases s with
  | error e =>
    obtain ⟨σ2, g1, g2, g3⟩ := step_M (sw := sw) (ς := ς) q1 k4 hsk.2
    refine ⟨σ2, ?_, f1.trans g2, g3⟩
    rw [hs.2.2.1, if_neg (nI_ne0 (by have := hs.2.1; omega) (by have := hs.2.1; omega)), g1]
  | ok b =>
    obtain rfl := a3 b rfl
    rw [hs.2.2.1, if_pos rfl, gi_Mo_22, Option.bind_some, gi_Mo_1, Option.bind_some, k4, t2]
    show ∃ σ', _ ∧ FRm σ σ' ∧ RMs σ' (len + 1) (endc T len a)
    unfold endc
    have flt : ∃ σ', f_X13_clause_340 302 (enc sw σ1 ς) = some (enc sw σ' ς) ∧ FRm σ σ' ∧ RMs σ' (len + 1) (.error (1, skp T len a)) := by
      obtain ⟨σ3, b1, b2, b3, b4⟩ := faults_M (sw := sw) (ς := ς) (k := 1) (p := skp T len a) q1 (by omega)
      obtain ⟨σ2, g1, g2, g3⟩ := step_M (sw := sw) (ς := ς) b3 b4 hsk.2
      refine ⟨σ2, ?_, (f1.trans b2).trans g2, g3⟩
      unfold f_X13_clause_340
      rw [gi_Mo_22, Option.bind_some, k4, show (1 : Int32) = nI 1 from rfl, b1, Option.bind_some, g1]
    by_cases hl : skp T len a < len
    · have la : skp T len a < 240 := by omega
      obtain ⟨u1, u2⟩ := t3 _ hl
      rw [if_neg (fun z => absurd ((nI_eq (by omega) (by omega)).mp z) (by omega)), gr_Mo_0, Option.bind_some, Option.bind_some, ai_303 la, Option.bind_some, u1]
      by_cases h59 : T (skp T len a) = 59
      · rw [if_pos (by rw [h59]; rfl), if_pos ⟨hl, h59⟩]
        obtain ⟨σ2, g1, g2, g3⟩ := step_M (sw := sw) (ς := ς) q1 k4 hsk.2
        exact ⟨σ2, g1, f1.trans g2, g3⟩
      · rw [if_neg (show ¬ nI (T (skp T len a)) = (59 : Int32) from fun z => h59 ((nI_eq (b := 59) (by omega) (by omega)).mp z)), if_neg (fun z => h59 z.2)]
        exact flt
    · rw [if_pos (by rw [show skp T len a = len by omega]), if_neg (fun z => hl z.1)]
      exact flt
end TM
