/-! the text, read -/
def skpD (T : Nat → Nat) : Nat → Nat → Nat
  | 0, a => a
  | d + 1, a => if T a = 32 then skpD T d (a + 1) else a
def skp (T : Nat → Nat) (len a : Nat) : Nat := skpD T (len - a) a
theorem skpD_b (T : Nat → Nat) : ∀ d a, a ≤ skpD T d a ∧ skpD T d a ≤ a + d
  | 0, a => ⟨Nat.le_refl a, Nat.le_refl a⟩
  | d + 1, a => by
    unfold skpD
    have := skpD_b T d (a + 1)
    split <;> omega
theorem skp_b (T : Nat → Nat) {len a : Nat} (h : a ≤ len) : a ≤ skp T len a ∧ skp T len a ≤ len := by
  have := skpD_b T (len - a) a
  unfold skp
  omega
theorem skp_hi (T : Nat → Nat) {len a : Nat} (h : len ≤ a) : skp T len a = a := by unfold skp; rw [show len - a = 0 by omega]; rfl
def dgD (T : Nat → Nat) : Nat → Nat → Nat → Nat → Nat × Nat
  | 0, a, _, v => (a, v)
  | d + 1, a, st, v => if 48 ≤ T a ∧ T a ≤ 57 then dgD T d (a + 1) st (if a - st < 3 then v * 10 + (T a - 48) else v) else (a, v)
theorem dgD_b (T : Nat → Nat) : ∀ d a st v, st ≤ a → (a - st = 0 → v = 0) → (a - st = 1 → v ≤ 9) → (a - st = 2 → v ≤ 99) → v ≤ 999 → a ≤ (dgD T d a st v).1 ∧ (dgD T d a st v).1 ≤ a + d ∧ (dgD T d a st v).2 ≤ 999
  | 0, a, st, v, _, _, _, _, h => ⟨Nat.le_refl a, Nat.le_refl a, h⟩
  | d + 1, a, st, v, h0, h1, h2, h3, h4 => by
    unfold dgD
    split
    · have := dgD_b T d (a + 1) st (if a - st < 3 then v * 10 + (T a - 48) else v) (by omega) (by omega) (by intro z; split <;> omega) (by intro z; split <;> omega) (by split <;> omega)
      omega
    · exact ⟨Nat.le_refl a, by omega, h4⟩
abbrev Flt : Type := Nat × Nat
abbrev St : Type := Except Flt Nat
def num (T : Nat → Nat) (len lo hi a : Nat) : Except Flt (Nat × Nat) :=
  if (dgD T (len - skp T len a) (skp T len a) (skp T len a) 0).1 = skp T len a then .error (1, skp T len a)
  else if 3 < (dgD T (len - skp T len a) (skp T len a) (skp T len a) 0).1 - skp T len a ∨ (dgD T (len - skp T len a) (skp T len a) (skp T len a) 0).2 < lo ∨ hi < (dgD T (len - skp T len a) (skp T len a) (skp T len a) 0).2 then .error (2, skp T len a)
  else .ok ((dgD T (len - skp T len a) (skp T len a) (skp T len a) 0).2, (dgD T (len - skp T len a) (skp T len a) (skp T len a) 0).1)
def endc (T : Nat → Nat) (len a : Nat) : St := if skp T len a < len ∧ T (skp T len a) = 59 then .ok (skp T len a + 1) else .error (1, skp T len a)
def numS (T : Nat → Nat) (len lo hi : Nat) : St → Except Flt (Nat × Nat)
  | .ok a => num T len lo hi a
  | .error e => .error e
def posS : Except Flt (Nat × Nat) → St
  | .ok r => .ok r.2
  | .error e => .error e
def valS : Except Flt (Nat × Nat) → Nat
  | .ok r => r.1
  | .error _ => 0
def endS (T : Nat → Nat) (len : Nat) : St → St
  | .ok a => endc T len a
  | .error e => .error e
def setS (a : Nat) : St → St
  | .ok _ => .ok a
  | .error e => .error e
def fltS (e : Flt) : St → St
  | .ok _ => .error e
  | .error e' => .error e'
def okS {α : Type} : Except Flt α → Prop
  | .ok _ => True
  | .error _ => False
theorem ok_end {T : Nat → Nat} {len : Nat} {s : St} (h : okS (endS T len s)) : okS s := by
  cases s with
  | ok a => trivial
  | error e => exact h
theorem ok_pos {r : Except Flt (Nat × Nat)} (h : okS (posS r)) : okS r := by
  cases r with
  | ok a => trivial
  | error e => exact h
theorem ok_num {T : Nat → Nat} {len lo hi : Nat} {s : St} (h : okS (numS T len lo hi s)) : okS s := by
  cases s with
  | ok a => trivial
  | error e => exact h
theorem num_b {T : Nat → Nat} {len lo hi : Nat} {s : St} (h : okS (numS T len lo hi s)) : lo ≤ valS (numS T len lo hi s) ∧ valS (numS T len lo hi s) ≤ hi := by
  cases s with
  | error e => exact absurd h (fun z => z)
  | ok a =>
    simp only [numS] at h ⊢
    unfold num at h ⊢
    split
    · rename_i z; rw [if_pos z] at h; exact absurd h (fun z => z)
    · rename_i z
      rw [if_neg z] at h
      split
      · rename_i z2; rw [if_pos z2] at h; exact absurd h (fun z => z)
      · rename_i z2
        show lo ≤ _ ∧ _ ≤ hi
        simp only [valS]
        omega
theorem num_pos {T : Nat → Nat} {len lo hi : Nat} {s : St} {a : Nat} (h : posS (numS T len lo hi s) = .ok a) : ∃ b, s = .ok b ∧ (b ≤ len → b < a ∧ a ≤ len) := by
  cases s with
  | error e => cases h
  | ok b =>
    refine ⟨b, rfl, fun hb => ?_⟩
    have hs := skp_b T hb
    have hd := dgD_b T (len - skp T len b) (skp T len b) (skp T len b) 0 (Nat.le_refl _) (fun _ => rfl) (fun _ => by omega) (fun _ => by omega) (by omega)
    simp only [numS] at h
    unfold num at h
    split at h
    · cases h
    · split at h
      · cases h
      · simp only [posS, Except.ok.injEq] at h
        omega
theorem end_pos {T : Nat → Nat} {len : Nat} {s : St} {a : Nat} (h : endS T len s = .ok a) : ∃ b, s = .ok b ∧ (b ≤ len → b < a ∧ a ≤ len) := by
  cases s with
  | error e => cases h
  | ok b =>
    refine ⟨b, rfl, fun hb => ?_⟩
    have hs := skp_b T hb
    simp only [endS] at h
    unfold endc at h
    split at h
    · simp only [Except.ok.injEq] at h
      omega
    · cases h
/-! the class's reader -/
def TXc (σ : Sg) (T : Nat → Nat) (len : Nat) : Prop := len ≤ 240 ∧ σ 1 1 = nI len ∧ ∀ i, i < len → σ 2 i = nI (T i) ∧ T i < 256
def RCs (σ : Sg) (len : Nat) (s : St) : Prop := match s with
  | .ok a => a ≤ len ∧ σ 1 4 = nI a ∧ σ 1 3 = 0 ∧ σ 1 2 = -1
  | .error e => (∃ a, a ≤ len ∧ σ 1 4 = nI a) ∧ (1 ≤ e.1 ∧ e.1 ≤ 3) ∧ σ 1 3 = nI e.1 ∧ σ 1 2 = nI e.2
def FRc (σ σ' : Sg) : Prop := (∀ a, a ≠ 1 → σ' a = σ a) ∧ σ' 1 1 = σ 1 1
theorem FRc.refl (σ : Sg) : FRc σ σ := ⟨fun _ _ => rfl, rfl⟩
theorem FRc.trans {σ1 σ2 σ3 : Sg} (h : FRc σ1 σ2) (h' : FRc σ2 σ3) : FRc σ1 σ3 := ⟨fun a ha => (h'.1 a ha).trans (h.1 a ha), h'.2.trans h.2⟩
theorem TXc.c {σ σ' : Sg} {T : Nat → Nat} {len : Nat} (h : TXc σ T len) (e1 : σ' 1 1 = σ 1 1) (e2 : σ' 2 = σ 2) : TXc σ' T len := by unfold TXc at h ⊢; rw [e1, e2]; exact h
theorem TXc.f {σ σ' : Sg} {T : Nat → Nat} {len : Nat} (h : TXc σ T len) (f : FRc σ σ') : TXc σ' T len := h.c f.2 (f.1 2 (by omega))
theorem RCs.at {σ : Sg} {len : Nat} {s : St} (h : RCs σ len s) : ∃ a, a ≤ len ∧ σ 1 4 = nI a ∧ ∀ b, s = .ok b → a = b := by
  cases s with
  | ok a => exact ⟨a, h.1, h.2.1, fun b hb => by cases hb; rfl⟩
  | error e => obtain ⟨a, a1, a2⟩ := h.1; exact ⟨a, a1, a2, fun b hb => by cases hb⟩
theorem RCs.c {σ σ' : Sg} {len : Nat} {s : St} (h : RCs σ len s) (e : σ' 1 = σ 1) : RCs σ' len s := by
  unfold RCs at h ⊢
  rw [e]; exact h
/-- another place, the rest as it was -/
theorem RCs.move {σ σ' : Sg} {len a : Nat} {s : St} (h : RCs σ len s) (ha : a ≤ len) (e4 : σ' 1 4 = nI a) (e3 : σ' 1 3 = σ 1 3) (e2 : σ' 1 2 = σ 1 2) : RCs σ' len (setS a s) := by
  cases s with
  | ok b => exact ⟨ha, e4, by rw [e3]; exact h.2.2.1, by rw [e2]; exact h.2.2.2⟩
  | error e => exact ⟨⟨a, ha, e4⟩, h.2.1, by rw [e3]; exact h.2.2.1, by rw [e2]; exact h.2.2.2⟩
section TC
variable {sw : Bool} {ς : Lg} {T : Nat → Nat} {len : Nat}
theorem skip_LC : ∀ (d a f : Nat) (σ : Sg), TXc σ T len → d = len - a → d < f → σ 1 4 = nI a → a ≤ len + 1 →
    ∃ σ', f_X8_skipBlanks_L0 f 1 (enc sw σ ς) = some (enc sw σ' ς) ∧ (∀ x, x ≠ 1 → σ' x = σ x) ∧ (∀ j, j ≠ 4 → σ' 1 j = σ 1 j) ∧ σ' 1 4 = nI (skpD T d a) := by
  intro d
  induction d with
  | zero =>
    intro a f σ hT hd hf h4 hb
    obtain ⟨f, rfl⟩ : ∃ f', f = f' + 1 := ⟨f - 1, by omega⟩
    obtain ⟨t1, t2, t3⟩ := hT
    refine ⟨σ, ?_, fun _ _ => rfl, fun _ _ => rfl, h4⟩
    show F_X8_skipBlanks_L0 (f_X8_skipBlanks_L0 f) 1 (enc sw σ ς) = _
    unfold F_X8_skipBlanks_L0
    rw [gi_Rd_4, Option.bind_some, gi_Rd_1, Option.bind_some, h4, t2, if_pos (nI_le (by omega) (by omega))]
  | succ d ih =>
    intro a f σ hT hd hf h4 hb
    obtain ⟨f, rfl⟩ : ∃ f', f = f' + 1 := ⟨f - 1, by omega⟩
    obtain ⟨t1, t2, t3⟩ := id hT
    have hal : a < len := by omega
    have la : a < 240 := by omega
    obtain ⟨u1, u2⟩ := t3 a hal
    have hgo : ∀ r, (if nI (T a) = (32 : Int32) then f_X8_skipBlanks_L0 f 1 (enc sw (uA σ 1 (upd (σ 1) 4 (nI (a + 1)))) ς) else some (enc sw σ ς)) = r → f_X8_skipBlanks_L0 (f + 1) 1 (enc sw σ ς) = r := by
      intro r hr
      show F_X8_skipBlanks_L0 (f_X8_skipBlanks_L0 f) 1 (enc sw σ ς) = _
      unfold F_X8_skipBlanks_L0
      rw [gi_Rd_4, Option.bind_some, gi_Rd_1, Option.bind_some, h4, t2, if_neg (nI_ge hal (by omega)), gr_Rd_0, Option.bind_some, Option.bind_some, ai_2 la, Option.bind_some, u1, Option.bind_some, nI_1, pf_Rd_4, Option.bind_some]
      exact hr
    unfold skpD
    by_cases h32 : T a = 32
    · obtain ⟨σ', g1, g2, g3, g4⟩ := ih (a + 1) f (uA σ 1 (upd (σ 1) 4 (nI (a + 1)))) (hT.c (by rw [uA_s, pk_un (by omega)]) (uA_n (by omega))) (by omega) (by omega) (by rw [uA_s, pk_us]) (by omega)
      refine ⟨σ', hgo _ ?_, fun x hx => by rw [g2 x hx, uA_n hx], fun j hj => by rw [g3 j hj, uA_s, pk_un hj], by rw [if_pos h32]; exact g4⟩
      rw [if_pos (by rw [h32]; rfl)]; exact g1
    · refine ⟨σ, hgo _ ?_, fun _ _ => rfl, fun _ _ => rfl, by rw [if_neg h32]; exact h4⟩
      rw [if_neg (show ¬ nI (T a) = (32 : Int32) from fun z => h32 ((nI_eq (b := 32) (by omega) (by omega)).mp z))]
theorem skip_C {σ : Sg} {a : Nat} (hT : TXc σ T len) (h4 : σ 1 4 = nI a) (hb : a ≤ len + 1) : ∃ σ', f_X8_skipBlanks 1 (enc sw σ ς) = some (enc sw σ' ς) ∧ (∀ x, x ≠ 1 → σ' x = σ x) ∧ (∀ j, j ≠ 4 → σ' 1 j = σ 1 j) ∧ σ' 1 4 = nI (skp T len a) := by
  have hrun : ∀ f, 240 < f → ∃ σ', f_X8_skipBlanks_L0 f 1 (enc sw σ ς) = some (enc sw σ' ς) ∧ (∀ x, x ≠ 1 → σ' x = σ x) ∧ (∀ j, j ≠ 4 → σ' 1 j = σ 1 j) ∧ σ' 1 4 = nI (skpD T (len - a) a) := fun f hf => skip_LC (len - a) a f σ hT rfl (by have := hT.1; omega) h4 hb
  obtain ⟨σ', g1, g2⟩ := hrun 1000000 (by omega)
  refine ⟨σ', ?_, g2⟩
  unfold f_X8_skipBlanks
  rw [if_pos io_Rd, g1, Option.bind_some]
theorem dig_LC {lo hi : Int32} {st : Nat} : ∀ (d a f v : Nat) (σ : Sg), TXc σ T len → d = len - a → d < f → σ 1 4 = nI a → a ≤ len → st ≤ a →
    ∃ σ', f_X8_readNumber_L12 f 1 lo hi (nI st) (nI v) (enc sw σ ς) = some (nI (dgD T d a st v).2, enc sw σ' ς) ∧ (∀ x, x ≠ 1 → σ' x = σ x) ∧ (∀ j, j ≠ 4 → σ' 1 j = σ 1 j) ∧ σ' 1 4 = nI (dgD T d a st v).1 := by
  intro d
  induction d with
  | zero =>
    intro a f v σ hT hd hf h4 hb hst
    obtain ⟨f, rfl⟩ : ∃ f', f = f' + 1 := ⟨f - 1, by omega⟩
    obtain ⟨t1, t2, t3⟩ := hT
    refine ⟨σ, ?_, fun _ _ => rfl, fun _ _ => rfl, h4⟩
    show F_X8_readNumber_L12 (f_X8_readNumber_L12 f) 1 lo hi (nI st) (nI v) (enc sw σ ς) = _
    unfold F_X8_readNumber_L12
    rw [gi_Rd_4, Option.bind_some, gi_Rd_1, Option.bind_some, h4, t2, if_pos (nI_le (by omega) (by omega))]
    rfl
  | succ d ih =>
    intro a f v σ hT hd hf h4 hb hst
    obtain ⟨f, rfl⟩ : ∃ f', f = f' + 1 := ⟨f - 1, by omega⟩
    obtain ⟨t1, t2, t3⟩ := id hT
    have hal : a < len := by omega
    have la : a < 240 := by omega
    obtain ⟨u1, u2⟩ := t3 a hal
    have hst2 : nI a - nI st = nI (a - st) := pk_sub hst
    have hfig : ∀ h : AH, f_X8_isFigure (nI (T a)) h = some (if 48 ≤ T a ∧ T a ≤ 57 then 1 else 0, h) := by
      intro h
      unfold f_X8_isFigure
      by_cases c1 : T a < 48
      · rw [if_pos (show nI (T a) < (48 : Int32) from nI_lt (b := 48) c1 (by omega)), if_neg (by omega)]
      · rw [if_neg (show ¬ nI (T a) < (48 : Int32) from nI_nlt (b := 48) (by omega) (by omega))]
        by_cases c2 : 57 < T a
        · rw [if_pos (show (57 : Int32) < nI (T a) from nI_lt (a := 57) c2 (by omega)), if_neg (by omega)]
        · rw [if_neg (show ¬ (57 : Int32) < nI (T a) from nI_nlt (a := 57) (by omega) (by omega)), if_pos (by omega)]
    unfold dgD
    by_cases hd1 : 48 ≤ T a ∧ T a ≤ 57
    · obtain ⟨σ', g1, g2, g3, g4⟩ := ih (a + 1) f (if a - st < 3 then v * 10 + (T a - 48) else v) (uA σ 1 (upd (σ 1) 4 (nI (a + 1)))) (hT.c (by rw [uA_s, pk_un (by omega)]) (uA_n (by omega))) (by omega) (by omega) (by rw [uA_s, pk_us]) (by omega) (by omega)
      rw [if_pos hd1]
      refine ⟨σ', ?_, fun x hx => by rw [g2 x hx, uA_n hx], fun j hj => by rw [g3 j hj, uA_s, pk_un hj], g4⟩
      show F_X8_readNumber_L12 (f_X8_readNumber_L12 f) 1 lo hi (nI st) (nI v) (enc sw σ ς) = _
      unfold F_X8_readNumber_L12 f_X8_readNumber_68
      rw [gi_Rd_4, Option.bind_some, gi_Rd_1, Option.bind_some, h4, t2, if_neg (nI_ge hal (by omega)), gr_Rd_0, Option.bind_some, Option.bind_some, ai_2 la, Option.bind_some, u1, hfig, bT1_some, if_pos hd1, if_neg (by decide), gi_Rd_4, Option.bind_some, h4, hst2]
      have hval : nI v * (10 : Int32) + (nI (T a) - (48 : Int32)) = nI (v * 10 + (T a - 48)) := by
        rw [show nI (T a) - (48 : Int32) = nI (T a - 48) from pk_sub (b := 48) hd1.1, show (10 : Int32) = nI 10 from rfl, pk_mul, nI_add]
      by_cases h3 : a - st < 3
      · rw [if_neg (show ¬ (3 : Int32) ≤ nI (a - st) from nI_ge (b := 3) h3 (by omega)), gr_Rd_0, Option.bind_some, Option.bind_some, ai_2 la, Option.bind_some, u1, Option.bind_some, nI_1, pf_Rd_4, Option.bind_some, hval]
        rw [if_pos h3] at g1 ⊢
        exact g1
      · rw [if_pos (show (3 : Int32) ≤ nI (a - st) from nI_le (a := 3) (by omega) (by omega)), Option.bind_some, nI_1, pf_Rd_4, Option.bind_some]
        rw [if_neg h3] at g1 ⊢
        exact g1
    · rw [if_neg hd1]
      refine ⟨σ, ?_, fun _ _ => rfl, fun _ _ => rfl, h4⟩
      show F_X8_readNumber_L12 (f_X8_readNumber_L12 f) 1 lo hi (nI st) (nI v) (enc sw σ ς) = _
      unfold F_X8_readNumber_L12
      rw [gi_Rd_4, Option.bind_some, gi_Rd_1, Option.bind_some, h4, t2, if_neg (nI_ge hal (by omega)), gr_Rd_0, Option.bind_some, Option.bind_some, ai_2 la, Option.bind_some, u1, hfig, bT1_some, if_neg hd1, if_pos rfl]
/-- a fault is told where there is none yet -/
theorem blame_C {σ : Sg} {s : St} {k p a : Nat} (hs : RCs σ len s) (ha : a ≤ len) (h4 : σ 1 4 = nI a) (hk : 1 ≤ k ∧ k ≤ 3) : ∃ σ', f_X8_blame 1 (nI k) (nI p) (enc sw σ ς) = some (enc sw σ' ς) ∧ FRc σ σ' ∧ RCs σ' len (fltS (k, p) s) := by
  have key : f_X8_blame 1 (nI k) (nI p) (enc sw σ ς) = if σ 1 3 = 0 then some (enc sw (uA (uA σ 1 (upd (σ 1) 3 (nI k))) 1 (upd (uA σ 1 (upd (σ 1) 3 (nI k)) 1) 2 (nI p))) ς) else some (enc sw σ ς) := by
    unfold f_X8_blame
    rw [if_pos io_Rd, gi_Rd_3, Option.bind_some, pf_Rd_3, Option.bind_some, pf_Rd_2, Option.bind_some]
  rw [key]
  cases s with
  | ok b =>
    obtain ⟨s1, s2, s3, s4⟩ := hs
    rw [if_pos s3]
    refine ⟨_, rfl, ⟨fun x hx => by rw [uA_n hx, uA_n hx], by rw [uA_s, uA_s, pk_un (by omega), pk_un (by omega)]⟩, ⟨a, ha, ?_⟩, hk, ?_, ?_⟩
    · rw [uA_s, uA_s, pk_un (by omega), pk_un (by omega)]; exact h4
    · rw [uA_s, uA_s, pk_un (by omega), pk_us]
    · rw [uA_s, pk_us]
  | error e =>
    obtain ⟨s1, s2, s3, s4⟩ := id hs
    rw [if_neg (by rw [s3]; exact nI_ne0 (by omega) (by omega))]
    exact ⟨σ, rfl, FRc.refl σ, hs⟩
theorem num_C {σ : Sg} {s : St} {lo hi : Nat} (hT : TXc σ T len) (hs : RCs σ len s) (hlo : lo < 2 ^ 31) (hhi : hi < 2 ^ 31) : ∃ x σ', f_X8_readNumber 1 (nI lo) (nI hi) (enc sw σ ς) = some (x, enc sw σ' ς) ∧ FRc σ σ' ∧ RCs σ' len (posS (numS T len lo hi s)) ∧ (okS (numS T len lo hi s) → x = nI (valS (numS T len lo hi s))) := by
  obtain ⟨a, a1, a2, a3⟩ := hs.at
  obtain ⟨σ1, k1, k2, k3, k4⟩ := skip_C (sw := sw) (ς := ς) hT a2 (by omega)
  have hsk := skp_b T a1
  have hT1 : TXc σ1 T len := hT.c (k3 1 (by omega)) (k2 2 (by omega))
  have hrun : ∀ f, 240 < f → ∃ σ', f_X8_readNumber_L12 f 1 (nI lo) (nI hi) (nI (skp T len a)) (0 : Int32) (enc sw σ1 ς) = some (nI (dgD T (len - skp T len a) (skp T len a) (skp T len a) 0).2, enc sw σ' ς) ∧ (∀ x, x ≠ 1 → σ' x = σ1 x) ∧ (∀ j, j ≠ 4 → σ' 1 j = σ1 1 j) ∧ σ' 1 4 = nI (dgD T (len - skp T len a) (skp T len a) (skp T len a) 0).1 := fun f hf => dig_LC (len - skp T len a) (skp T len a) f 0 σ1 hT1 rfl (by have := hT.1; omega) k4 hsk.2 (Nat.le_refl _)
  obtain ⟨σ2, d1, d2, d3, d4⟩ := hrun 1000000 (by omega)
  have hdb := dgD_b T (len - skp T len a) (skp T len a) (skp T len a) 0 (Nat.le_refl _) (fun _ => rfl) (fun _ => by omega) (fun _ => by omega) (by omega)
  have hlen := hT.1
  have hs2 : RCs σ2 len (setS (dgD T (len - skp T len a) (skp T len a) (skp T len a) 0).1 s) := hs.move (by omega) d4 (by rw [d3 3 (by omega), k3 3 (by omega)]) (by rw [d3 2 (by omega), k3 2 (by omega)])
  have f2 : FRc σ σ2 := ⟨fun x hx => by rw [d2 x hx, k2 x hx], by rw [d3 1 (by omega), k3 1 (by omega)]⟩
  have hhead : ∀ r, f_X8_readNumber_81 1 (nI lo) (nI hi) (nI (skp T len a)) (nI (dgD T (len - skp T len a) (skp T len a) (skp T len a) 0).2) (enc sw σ2 ς) = r → f_X8_readNumber 1 (nI lo) (nI hi) (enc sw σ ς) = r := by
    intro r hr
    unfold f_X8_readNumber
    rw [if_pos io_Rd, k1, Option.bind_some, gi_Rd_4, Option.bind_some, k4, d1, bT1_some]
    exact hr
  have hnum : ∀ b, s = .ok b → numS T len lo hi s = num T len lo hi a := fun b hb => by rw [a3 b hb, hb]; rfl
  have herr : ∀ e, s = .error e → numS T len lo hi s = .error e := fun e he => by rw [he]; rfl
  -- where it's a fault of kind k
  have flt : ∀ k, 1 ≤ k ∧ k ≤ 3 → (∀ b, s = .ok b → num T len lo hi a = .error (k, skp T len a)) → ∃ σ', f_X8_blame 1 (nI k) (nI (skp T len a)) (enc sw σ2 ς) = some (enc sw σ' ς) ∧ FRc σ σ' ∧ RCs σ' len (posS (numS T len lo hi s)) ∧ ¬ okS (numS T len lo hi s) := by
    intro k hk hnm
    obtain ⟨σ3, b1, b2, b3⟩ := blame_C (sw := sw) (ς := ς) (k := k) (p := skp T len a) hs2 (by omega) d4 hk
    refine ⟨σ3, b1, f2.trans b2, ?_, ?_⟩
    · cases s with
      | ok b => rw [hnum b rfl, hnm b rfl]; exact b3
      | error e => rw [herr e rfl]; exact b3
    · cases s with
      | ok b => rw [hnum b rfl, hnm b rfl]; exact fun z => z
      | error e => rw [herr e rfl]; exact fun z => z
  unfold num at hnum flt
  by_cases e0 : (dgD T (len - skp T len a) (skp T len a) (skp T len a) 0).1 = skp T len a
  · obtain ⟨σ3, b1, b2, b3, b4⟩ := flt 1 (by omega) (fun b _ => by rw [if_pos e0])
    refine ⟨0, σ3, hhead _ ?_, b2, b3, fun z => absurd z b4⟩
    unfold f_X8_readNumber_81
    rw [gi_Rd_4, Option.bind_some, d4, if_pos (by rw [e0]), show (1 : Int32) = nI 1 from rfl, b1, Option.bind_some]
  · rw [if_neg e0] at hnum flt
    have hsub : nI (dgD T (len - skp T len a) (skp T len a) (skp T len a) 0).1 - nI (skp T len a) = nI ((dgD T (len - skp T len a) (skp T len a) (skp T len a) 0).1 - skp T len a) := pk_sub hdb.1
    have hmid : ∀ r, (if (3 : Int32) < nI ((dgD T (len - skp T len a) (skp T len a) (skp T len a) 0).1 - skp T len a) then f_X8_readNumber_119 1 (nI (skp T len a)) (enc sw σ2 ς) else if nI (dgD T (len - skp T len a) (skp T len a) (skp T len a) 0).2 < nI lo then f_X8_readNumber_119 1 (nI (skp T len a)) (enc sw σ2 ς) else if nI (dgD T (len - skp T len a) (skp T len a) (skp T len a) 0).2 ≤ nI hi then some (nI (dgD T (len - skp T len a) (skp T len a) (skp T len a) 0).2, enc sw σ2 ς) else f_X8_readNumber_119 1 (nI (skp T len a)) (enc sw σ2 ς)) = r → f_X8_readNumber 1 (nI lo) (nI hi) (enc sw σ ς) = r := by
      intro r hr
      refine hhead _ ?_
      unfold f_X8_readNumber_81
      rw [gi_Rd_4, Option.bind_some, d4, if_neg (fun z => e0 ((nI_eq (by omega) (by omega)).mp z)), Option.bind_some, hsub]
      exact hr
    by_cases e1 : 3 < (dgD T (len - skp T len a) (skp T len a) (skp T len a) 0).1 - skp T len a ∨ (dgD T (len - skp T len a) (skp T len a) (skp T len a) 0).2 < lo ∨ hi < (dgD T (len - skp T len a) (skp T len a) (skp T len a) 0).2
    · obtain ⟨σ3, b1, b2, b3, b4⟩ := flt 2 (by omega) (fun b _ => by rw [if_pos e1])
      have h119 : f_X8_readNumber_119 1 (nI (skp T len a)) (enc sw σ2 ς) = some (0, enc sw σ3 ς) := by
        unfold f_X8_readNumber_119
        rw [show (2 : Int32) = nI 2 from rfl, b1, Option.bind_some]
      refine ⟨0, σ3, hmid _ ?_, b2, b3, fun z => absurd z b4⟩
      rw [h119]
      by_cases c1 : 3 < (dgD T (len - skp T len a) (skp T len a) (skp T len a) 0).1 - skp T len a
      · rw [if_pos (show (3 : Int32) < nI _ from nI_lt (a := 3) c1 (by omega))]
      · rw [if_neg (show ¬ (3 : Int32) < nI _ from nI_nlt (a := 3) (by omega) (by omega))]
        by_cases c2 : (dgD T (len - skp T len a) (skp T len a) (skp T len a) 0).2 < lo
        · rw [if_pos (nI_lt c2 hlo)]
        · rw [if_neg (nI_nlt (by omega) (by omega)), if_neg (nI_ge (by omega) (by omega))]
    · rw [if_neg e1] at hnum
      refine ⟨nI (dgD T (len - skp T len a) (skp T len a) (skp T len a) 0).2, σ2, hmid _ ?_, f2, ?_, ?_⟩
      · rw [if_neg (show ¬ (3 : Int32) < nI _ from nI_nlt (a := 3) (by omega) (by omega)), if_neg (nI_nlt (by omega) (by omega)), if_pos (nI_le (by omega) hhi)]
      · cases s with
        | ok b => rw [hnum b rfl]; exact hs2
        | error e => rw [herr e rfl]; exact hs2
      · cases s with
        | ok b => rw [hnum b rfl]; exact fun _ => rfl
        | error e => rw [herr e rfl]; exact fun z => absurd z (fun z => z)
theorem end_C {σ : Sg} {s : St} (hT : TXc σ T len) (hs : RCs σ len s) : ∃ σ', f_X8_readEnd 1 (enc sw σ ς) = some (enc sw σ' ς) ∧ FRc σ σ' ∧ RCs σ' len (endS T len s) := by
  obtain ⟨a, a1, a2, a3⟩ := hs.at
  obtain ⟨σ1, k1, k2, k3, k4⟩ := skip_C (sw := sw) (ς := ς) hT a2 (by omega)
  have hsk := skp_b T a1
  have hlen := hT.1
  have f1 : FRc σ σ1 := ⟨k2, k3 1 (by omega)⟩
  have hT1 : TXc σ1 T len := hT.f f1
  obtain ⟨t1, t2, t3⟩ := id hT1
  have hs1 := hs.move (σ' := σ1) hsk.2 k4 (k3 3 (by omega)) (k3 2 (by omega))
  have hen : ∀ b, s = .ok b → endS T len s = endc T len a := fun b hb => by rw [a3 b hb, hb]; rfl
  have herr : ∀ e, s = .error e → endS T len s = .error e := fun e he => by rw [he]; rfl
  unfold endc at hen
  have flt : ¬ (skp T len a < len ∧ T (skp T len a) = 59) → ∃ σ', f_X8_readEnd_42 1 (enc sw σ1 ς) = some (enc sw σ' ς) ∧ FRc σ σ' ∧ RCs σ' len (endS T len s) := by
    intro hno
    obtain ⟨σ3, b1, b2, b3⟩ := blame_C (sw := sw) (ς := ς) (k := 1) (p := skp T len a) hs1 hsk.2 k4 (by omega)
    refine ⟨σ3, ?_, f1.trans b2, ?_⟩
    · unfold f_X8_readEnd_42
      rw [gi_Rd_4, Option.bind_some, k4, show (1 : Int32) = nI 1 from rfl, b1, Option.bind_some]
    · cases s with
      | ok b => rw [hen b rfl, if_neg hno]; exact b3
      | error e => rw [herr e rfl]; exact b3
  unfold f_X8_readEnd
  rw [if_pos io_Rd, k1, Option.bind_some, gi_Rd_4, Option.bind_some, gi_Rd_1, Option.bind_some, k4, t2]
  by_cases hl : skp T len a < len
  · have la : skp T len a < 240 := by omega
    obtain ⟨u1, u2⟩ := t3 _ hl
    rw [if_neg (nI_ge hl (by omega)), gr_Rd_0, Option.bind_some, Option.bind_some, ai_2 la, Option.bind_some, u1]
    by_cases h59 : T (skp T len a) = 59
    · rw [if_pos (by rw [h59]; rfl), Option.bind_some, nI_1, pf_Rd_4, Option.bind_some]
      refine ⟨_, rfl, f1.trans ⟨fun x hx => uA_n hx, by rw [uA_s, pk_un (by omega)]⟩, ?_⟩
      have := hs1.move (σ' := uA σ1 1 (upd (σ1 1) 4 (nI (skp T len a + 1)))) (a := skp T len a + 1) (by omega) (by rw [uA_s, pk_us]) (by rw [uA_s, pk_un (by omega)]) (by rw [uA_s, pk_un (by omega)])
      cases s with
      | ok b => rw [hen b rfl, if_pos ⟨hl, h59⟩]; exact this
      | error e => rw [herr e rfl]; exact this
    · rw [if_neg (show ¬ nI (T (skp T len a)) = (59 : Int32) from fun z => h59 ((nI_eq (b := 59) (by omega) (by omega)).mp z))]
      exact flt (fun z => h59 z.2)
  · rw [if_pos (nI_le (by omega) (by omega))]
    exact flt (fun z => hl z.1)
end TC
