/-! the row that is read takes the place of the one that stands -/
theorem shp_four : ∃ L, ∀ sw, shp sw = (fun f _ => .inr (11, [.ref 1, .ref 3, .ref 20, .ref 23, .ref 27, .ref 269, .ref 272, .ref 275, .ref (rB sw), .int (f 9)])) :: (fun f _ => .inr (7, [.ref 2, .int (f 1), .int (f 2), .int (f 3), .int (f 4)])) :: mkC 240 :: (fun _ _ => .inr (3, [.ref 4, .ref (rA sw)])) :: L := ⟨_, fun sw => rfl⟩
theorem swap {sw : Bool} {σ : Sg} {ς : Lg} : ∃ X, pf (enc sw σ ς) 11 0 8 (.ref (rA sw)) = some X ∧ gr X 11 0 1 = some 3 ∧ isO X 3 3 = true ∧ pf X 3 3 1 (.ref (rB sw)) = some (enc (!sw) σ ς) := by
  obtain ⟨L, hL⟩ := shp_four
  have e : ∀ s, enc s σ ς = .inr (11, [.ref 1, .ref 3, .ref 20, .ref 23, .ref 27, .ref 269, .ref 272, .ref 275, .ref (rB s), .int (σ 0 9)]) :: .inr (7, [.ref 2, .int (σ 1 1), .int (σ 1 2), .int (σ 1 3), .int (σ 1 4)]) :: mkC 240 (σ 2) (ς 2) :: .inr (3, [.ref 4, .ref (rA s)]) :: encl σ ς 4 L := fun s => by unfold enc; rw [hL]; rfl
  have ea : rA sw = rB (!sw) := by cases sw <;> rfl
  have eb : rB sw = rA (!sw) := by cases sw <;> rfl
  rw [e sw, e (!sw), ← ea, ← eb]
  generalize encl σ ς 4 L = Z
  generalize rA sw = A
  generalize rB sw = B
  refine ⟨.inr (11, [.ref 1, .ref 3, .ref 20, .ref 23, .ref 27, .ref 269, .ref 272, .ref 275, .ref A, .int (σ 0 9)]) :: .inr (7, [.ref 2, .int (σ 1 1), .int (σ 1 2), .int (σ 1 3), .int (σ 1 4)]) :: mkC 240 (σ 2) (ς 2) :: .inr (3, [.ref 4, .ref A]) :: Z, ?_, ?_, ?_, ?_⟩
  · simp [pf]
  · simp [gr, oget]
  · simp [isO]
  · simp [pf]
section RC
variable {sw : Bool} {ς : Lg}
theorem rbeg_L31 {n : Nat} (hn6 : n ≤ 6) : ∀ (d i f : Nat) (σ : Sg), i + d = n → d < f → σ (rA sw) 9 = nI n →
    ∃ σ', f_X3_begin_L31 f 3 (rA sw) (nI i) (enc sw σ ς) = some (enc sw σ' ς) ∧ (∀ a, a ≠ 5 → a ≠ 6 → σ' a = σ a) ∧ (∀ j, σ' 5 j = if i ≤ j ∧ j < n then σ (rA sw + 2) j else σ 5 j) ∧ (∀ j, σ' 6 j = if i ≤ j ∧ j < n then 2 * σ (rA sw + 3) j else σ 6 j) := by
  have hra := rA_or sw
  intro d
  induction d with
  | zero =>
    intro i f σ hi hf h9
    obtain ⟨f, rfl⟩ : ∃ f', f = f' + 1 := ⟨f - 1, by omega⟩
    refine ⟨σ, ?_, fun _ _ _ => rfl, fun j => ?_, fun j => ?_⟩
    · show F_X3_begin_L31 (f_X3_begin_L31 f) 3 (rA sw) (nI i) (enc sw σ ς) = _
      unfold F_X3_begin_L31
      rw [gi_Ra_9, Option.bind_some, h9, if_pos (nI_le (show n ≤ i by omega) (by omega))]
    · rw [if_neg (by omega)]
    · rw [if_neg (by omega)]
  | succ d ih =>
    intro i f σ hi hf h9
    obtain ⟨f, rfl⟩ : ∃ f', f = f' + 1 := ⟨f - 1, by omega⟩
    have l1 : i < 6 := by omega
    obtain ⟨σ', g1, g2, g3, g4⟩ := ih (i + 1) f (uA (uA σ 5 (upd (σ 5) i (σ (rA sw + 2) i))) 6 (upd (σ 6) i (2 * σ (rA sw + 3) i))) (by omega) (by omega) (by rw [uA_n (by omega), uA_n (by omega)]; exact h9)
    have hng : ¬ nI n ≤ nI i := nI_ge (by omega) (by omega)
    have hr5 : rA sw + 3 ≠ 5 := by omega
    have h65 : 6 ≠ 5 := by omega
    refine ⟨σ', ?_, fun a h1 h2 => ?_, fun j => ?_, fun j => ?_⟩
    · show F_X3_begin_L31 (f_X3_begin_L31 f) 3 (rA sw) (nI i) (enc sw σ ς) = _
      unfold F_X3_begin_L31
      rw [gi_Ra_9, Option.bind_some, h9, if_neg hng, gr_Mt_0, Option.bind_some, gr_Nt_0, Option.bind_some, gr_Ra_1, Option.bind_some, ai_Ra_1 l1, Option.bind_some, aw_5 l1, Option.bind_some, gr_Mt_0, Option.bind_some, gr_Nt_1, Option.bind_some, gr_Ra_2, Option.bind_some, ai_Ra_2 l1, Option.bind_some, aw_6 l1, Option.bind_some, nI_1, uA_n hr5, uA_n h65]
      exact g1
    · rw [g2 a h1 h2, uA_n h2, uA_n h1]
    · rw [g3 j, uA_n (by omega), uA_n (by omega), uA_n (by omega), uA_s]
      by_cases z : i + 1 ≤ j ∧ j < n
      · rw [if_pos z, if_pos (by omega)]
      · rw [if_neg z]
        by_cases z2 : j = i
        · subst z2; rw [pk_us, if_pos (by omega)]
        · rw [pk_un z2, if_neg (by omega)]
    · rw [g4 j, uA_n (by omega), uA_n (by omega), uA_s]
      by_cases z : i + 1 ≤ j ∧ j < n
      · rw [if_pos z, if_pos (by omega)]
      · rw [if_neg z]
        by_cases z2 : j = i
        · subst z2; rw [pk_us, if_pos (by omega)]
        · rw [pk_un z2, if_neg (by omega)]
theorem rbeg_L79 {m : Nat} (hm6 : m ≤ 6) : ∀ (d i f : Nat) (σ : Sg), i + d = m → d < f → σ (rA sw) 10 = nI m →
    ∃ σ', f_X3_begin_L79 f 3 (rA sw) (nI i) (enc sw σ ς) = some (enc sw σ' ς) ∧ (∀ a, a ≠ 9 → a ≠ 11 → σ' a = σ a) ∧ (∀ j, σ' 9 j = if i ≤ j ∧ j < m then σ (rA sw + 7) j else σ 9 j) ∧ (∀ j, σ' 11 j = if i ≤ j ∧ j < m then 0 else σ 11 j) := by
  have hra := rA_or sw
  intro d
  induction d with
  | zero =>
    intro i f σ hi hf h9
    obtain ⟨f, rfl⟩ : ∃ f', f = f' + 1 := ⟨f - 1, by omega⟩
    refine ⟨σ, ?_, fun _ _ _ => rfl, fun j => ?_, fun j => ?_⟩
    · show F_X3_begin_L79 (f_X3_begin_L79 f) 3 (rA sw) (nI i) (enc sw σ ς) = _
      unfold F_X3_begin_L79
      rw [gi_Ra_10, Option.bind_some, h9, if_pos (nI_le (show m ≤ i by omega) (by omega))]
    · rw [if_neg (by omega)]
    · rw [if_neg (by omega)]
  | succ d ih =>
    intro i f σ hi hf h9
    obtain ⟨f, rfl⟩ : ∃ f', f = f' + 1 := ⟨f - 1, by omega⟩
    have l1 : i < 6 := by omega
    obtain ⟨σ', g1, g2, g3, g4⟩ := ih (i + 1) f (uA (uA σ 9 (upd (σ 9) i (σ (rA sw + 7) i))) 11 (upd (σ 11) i 0)) (by omega) (by omega) (by rw [uA_n (by omega), uA_n (by omega)]; exact h9)
    have hng : ¬ nI m ≤ nI i := nI_ge (by omega) (by omega)
    have h11 : 11 ≠ 9 := by omega
    refine ⟨σ', ?_, fun a h1 h2 => ?_, fun j => ?_, fun j => ?_⟩
    · show F_X3_begin_L79 (f_X3_begin_L79 f) 3 (rA sw) (nI i) (enc sw σ ς) = _
      unfold F_X3_begin_L79
      rw [gi_Ra_10, Option.bind_some, h9, if_neg hng, gr_Mt_0, Option.bind_some, gr_Nt_4, Option.bind_some, gr_Ra_6, Option.bind_some, ai_Ra_6 l1, Option.bind_some, aw_9 l1, Option.bind_some, gr_Mt_0, Option.bind_some, gr_Nt_6, Option.bind_some, aw_11 l1, Option.bind_some, nI_1, uA_n h11]
      exact g1
    · rw [g2 a h1 h2, uA_n h2, uA_n h1]
    · rw [g3 j, uA_n (by omega), uA_n (by omega), uA_n (by omega), uA_s]
      by_cases z : i + 1 ≤ j ∧ j < m
      · rw [if_pos z, if_pos (by omega)]
      · rw [if_neg z]
        by_cases z2 : j = i
        · subst z2; rw [pk_us, if_pos (by omega)]
        · rw [pk_un z2, if_neg (by omega)]
    · rw [g4 j, uA_s]
      by_cases z : i + 1 ≤ j ∧ j < m
      · rw [if_pos z, if_pos (by omega)]
      · rw [if_neg z]
        by_cases z2 : j = i
        · subst z2; rw [pk_us, if_pos (by omega)]
        · rw [pk_un z2, if_neg (by omega)]
/-- a night that is new -/
theorem begin_C {X : AH} {σ : Sg} {R : RW} (hX : isO X 3 3 = true) (hp : pf X 3 3 1 (.ref (rA sw)) = some (enc sw σ ς)) (hR : RWc σ (rA sw) R) :
    ∃ σ', f_X3_begin 3 (rA sw) X = some (enc sw σ' ς) ∧ (∀ a, (a < 4 ∨ 12 ≤ a) → σ' a = σ a) ∧ (σ' 4 7 = nI (2 ^ R.m - 1) ∧ σ' 4 8 = 0 ∧ σ' 4 9 = 0 ∧ σ' 4 10 = 0) ∧
      (∀ s, s < R.n → σ' 5 s = nI (R.ag s) ∧ σ' 6 s = nI (2 * R.ow s) ∧ σ' 7 s = nI (R.ho s) ∧ σ' 8 s = nI R.D) ∧ ∀ c, c < R.m → σ' 9 c = nI (R.be c) ∧ σ' 10 c = 0 ∧ σ' 11 c = 0 := by
  have hra := rA_or sw
  obtain ⟨⟨y1, y2, y3, y4⟩, ⟨y5, y6, y7⟩, y8, y9⟩ := id hR
  let σ1 : Sg := uA σ 4 (upd (upd (upd (σ 4) 8 0) 9 0) 10 0)
  have o1 : ∀ a, a ≠ 4 → σ1 a = σ a := fun a ha => uA_n ha
  have v1 : σ1 4 = upd (upd (upd (σ 4) 8 0) 9 0) 10 0 := uA_s _ _ _
  have w1 : enc sw (uA (uA (uA σ 4 (upd (σ 4) 8 0)) 4 (upd (upd (σ 4) 8 0) 9 0)) 4 (upd (upd (upd (σ 4) 8 0) 9 0) 10 0)) ς = enc sw σ1 ς := by rw [uA_uA, uA_uA]
  have run1 : ∀ F, 6 < F → ∃ σ', f_X3_begin_L31 F 3 (rA sw) (0 : Int32) (enc sw σ1 ς) = some (enc sw σ' ς) ∧ (∀ a, a ≠ 5 → a ≠ 6 → σ' a = σ1 a) ∧ (∀ j, σ' 5 j = if 0 ≤ j ∧ j < R.n then σ1 (rA sw + 2) j else σ1 5 j) ∧ (∀ j, σ' 6 j = if 0 ≤ j ∧ j < R.n then 2 * σ1 (rA sw + 3) j else σ1 6 j) := fun F hF => rbeg_L31 y6 R.n 0 F σ1 (by omega) (by omega) (by rw [o1 _ (by omega)]; exact y3)
  obtain ⟨σ2, a1, a2, a3, a4⟩ := run1 1000000 (by omega)
  have o2 : ∀ a, a ≠ 4 → a ≠ 5 → a ≠ 6 → σ2 a = σ a := fun a z1 z2 z3 => by rw [a2 a z2 z3, o1 a z1]
  have run2 : ∀ F, 6 < F → ∃ σ', f_X3_begin_L79 F 3 (rA sw) (0 : Int32) (enc sw σ2 ς) = some (enc sw σ' ς) ∧ (∀ a, a ≠ 9 → a ≠ 11 → σ' a = σ2 a) ∧ (∀ j, σ' 9 j = if 0 ≤ j ∧ j < R.m then σ2 (rA sw + 7) j else σ2 9 j) ∧ (∀ j, σ' 11 j = if 0 ≤ j ∧ j < R.m then 0 else σ2 11 j) := fun F hF => rbeg_L79 y7 R.m 0 F σ2 (by omega) (by omega) (by rw [o2 _ (by omega) (by omega) (by omega)]; exact y4)
  obtain ⟨σ3, b1, b2, b3, b4⟩ := run2 1000000 (by omega)
  have o3 : ∀ a, a ≠ 4 → a ≠ 5 → a ≠ 6 → a ≠ 9 → a ≠ 11 → σ3 a = σ a := fun a z1 z2 z3 z4 z5 => by rw [b2 a z4 z5, o2 a z1 z2 z3]
  have run3 : ∀ F, 6 < F → ∃ σ', f_X3_beginEvening_L2 F 3 (0 : Int32) (enc sw σ3 ς) = some (enc sw σ' ς) ∧ (∀ a, a ≠ 7 → a ≠ 8 → σ' a = σ3 a) ∧ (∀ j, σ' 7 j = if 0 ≤ j ∧ j < R.n then σ3 (rA sw + 4) j else σ3 7 j) ∧ (∀ j, σ' 8 j = if 0 ≤ j ∧ j < R.n then nI R.D else σ3 8 j) := fun F hF => begin_L2 y6 R.n 0 F σ3 (by omega) (by omega) (by rw [o3 _ (by omega) (by omega) (by omega) (by omega) (by omega)]; exact y3) (by rw [o3 _ (by omega) (by omega) (by omega) (by omega) (by omega)]; exact y2)
  obtain ⟨σ4, c1, c2, c3, c4⟩ := run3 1000000 (by omega)
  have o4 : ∀ a, (a < 4 ∨ 12 ≤ a) → σ4 a = σ a := fun a z => by rw [c2 a (by omega) (by omega), o3 a (by omega) (by omega) (by omega) (by omega) (by omega)]
  let σ5 : Sg := uA σ4 4 (upd (σ4 4) 7 (nI (2 ^ R.m - 1)))
  have run4 : ∀ F, 6 < F → ∃ σ', f_X3_beginEvening_L73 F 3 (0 : Int32) (enc sw σ5 ς) = some (enc sw σ' ς) ∧ (∀ a, a ≠ 10 → σ' a = σ5 a) ∧ (∀ j, σ' 10 j = if 0 ≤ j ∧ j < R.m then 0 else σ5 10 j) := fun F hF => begin_L73 y7 R.m 0 F σ5 (by omega) (by omega) (by show uA σ4 4 _ (rA sw) 10 = _; rw [uA_n (by omega), o4 _ (by omega)]; exact y4)
  obtain ⟨σ6, d1, d2, d3⟩ := run4 1000000 (by omega)
  have d1' : f_X3_beginEvening_L73 1000000 3 (0 : Int32) (enc sw (uA σ4 4 (upd (σ4 4) 7 (nI (2 ^ R.m - 1)))) ς) = some (enc sw σ6 ς) := d1
  have o5 : ∀ a, a ≠ 4 → σ5 a = σ4 a := fun a ha => uA_n ha
  have hbe : f_X3_beginEvening 3 (enc sw σ3 ς) = some (enc sw σ6 ς) := by
    have e10 : σ4 (rA sw) 10 = nI R.m := by rw [o4 _ (by omega)]; exact y4
    unfold f_X3_beginEvening
    rw [if_pos io_Mt, c1, Option.bind_some, gr_Mt_0, Option.bind_some, gr_Mt_1, Option.bind_some, gi_Ra_10, Option.bind_some, e10, ones_ok R.m (by omega), pf_Nt_7, Option.bind_some, d1', Option.bind_some]
  have hst : f_X3_begin 3 (rA sw) X = some (enc sw σ6 ς) := by
    unfold f_X3_begin
    rw [if_pos hX, hp, Option.bind_some, gr_Mt_0, Option.bind_some, pf_Nt_8, Option.bind_some, gr_Mt_0, Option.bind_some, pf_Nt_9, Option.bind_some, gr_Mt_0, Option.bind_some, pf_Nt_10, Option.bind_some]
    simp only [uA_s]
    rw [w1, a1, Option.bind_some, b1, Option.bind_some, hbe, Option.bind_some]
  have u4 : σ6 4 = upd (upd (upd (upd (σ 4) 8 0) 9 0) 10 0) 7 (nI (2 ^ R.m - 1)) := by
    rw [d2 4 (by omega)]
    show uA σ4 4 _ 4 = _
    rw [uA_s, c2 4 (by omega) (by omega), b2 4 (by omega) (by omega), a2 4 (by omega) (by omega), v1]
  refine ⟨σ6, hst, fun a z => ?_, ⟨by rw [u4]; rfl, by rw [u4]; rfl, by rw [u4]; rfl, by rw [u4]; rfl⟩, fun s hs => ⟨?_, ?_, ?_, ?_⟩, fun c hc => ⟨?_, ?_, ?_⟩⟩
  · rw [d2 a (by omega), o5 a (by omega), o4 a z]
  · rw [d2 5 (by omega), o5 5 (by omega), c2 5 (by omega) (by omega), b2 5 (by omega) (by omega), a3, if_pos (by omega), o1 _ (by omega)]
    exact (y8 s hs).2.1
  · rw [d2 6 (by omega), o5 6 (by omega), c2 6 (by omega) (by omega), b2 6 (by omega) (by omega), a4, if_pos (by omega), o1 _ (by omega), (y8 s hs).2.2.1, show (2 : Int32) = nI 2 from rfl, pk_mul]
  · rw [d2 7 (by omega), o5 7 (by omega), c3, if_pos (by omega), o3 _ (by omega) (by omega) (by omega) (by omega) (by omega)]
    exact (y8 s hs).2.2.2
  · rw [d2 8 (by omega), o5 8 (by omega), c4, if_pos (by omega)]
  · rw [d2 9 (by omega), o5 9 (by omega), c2 9 (by omega) (by omega), b3, if_pos (by omega), o2 _ (by omega) (by omega) (by omega)]
    exact (y9 c hc).2.2
  · rw [d3, if_pos (by omega)]
  · rw [d2 11 (by omega), o5 11 (by omega), c2 11 (by omega) (by omega), b4, if_pos (by omega)]
theorem row_L68 {σ : Sg} {r : Nat} : ∀ F, 2 < F → f_X12_row_L68 F 0 r (0 : Int32) (enc sw σ ς) = some (enc sw (uA (uA σ 284 (upd (σ 284) 2 0)) 293 (upd (σ 293) 2 0)) ς) := by
  intro F hF
  obtain ⟨F, rfl⟩ : ∃ F', F = F' + 1 + 1 + 1 := ⟨F - 3, by omega⟩
  have step : ∀ (f i : Nat) (σ : Sg), i < 2 → f_X12_row_L68 (f + 1) 0 r (nI i) (enc sw σ ς) = f_X12_row_L68 f 0 r (nI (i + 1)) (enc sw (uA σ (284 + 9 * i) (upd (σ (284 + 9 * i)) 2 0)) ς) := by
    intro f i σ hi
    show F_X12_row_L68 (f_X12_row_L68 f) 0 r (nI i) (enc sw σ ς) = _
    unfold F_X12_row_L68
    rw [if_neg (show ¬ (2 : Int32) ≤ nI i from nI_ge (b := 2) hi (by omega)), gr_LD_7, Option.bind_some, ar_img hi, Option.bind_some, pf_im2 hi, Option.bind_some, nI_1]
  have e := step (F + 1 + 1) 0 σ (by omega)
  rw [step (F + 1) 1 _ (by omega)] at e
  refine (show f_X12_row_L68 (F + 1 + 1 + 1) 0 r (0 : Int32) (enc sw σ ς) = _ from e).trans ?_
  show F_X12_row_L68 (f_X12_row_L68 F) 0 r (nI 2) (enc sw _ ς) = _
  unfold F_X12_row_L68
  rw [if_pos (show (2 : Int32) ≤ nI 2 by decide)]
  rw [show 284 + 9 * 1 = 293 from rfl, show 284 + 9 * 0 = 284 from rfl, uA_n (show 293 ≠ 284 by omega)]
/-- the class takes a row -/
theorem row_C {σ : Sg} {T : Nat → Nat} {len : Nat} {R : RW} (hT : TXc σ T len) (hp : prs T len 240 (skp T len 0) R0 = .ok R) :
    ∃ σ', f_X12_row 0 (enc sw σ ς) = some (nI R.n, enc (!sw) σ' ς) ∧ (∀ a, 302 ≤ a → σ' a = σ a) ∧ (σ' 1 1 = 0 ∧ σ' 1 2 = -1) ∧ RWc σ' (rA (!sw)) R ∧ (σ' 4 7 = nI (2 ^ R.m - 1) ∧ σ' 4 8 = 0 ∧ σ' 4 9 = 0 ∧ σ' 4 10 = 0) ∧
      (∀ s, s < R.n → σ' 5 s = nI (R.ag s) ∧ σ' 6 s = nI (2 * R.ow s) ∧ σ' 7 s = nI (R.ho s) ∧ σ' 8 s = nI R.D) ∧ (∀ c, c < R.m → σ' 9 c = nI (R.be c) ∧ σ' 10 c = 0 ∧ σ' 11 c = 0) ∧
      (σ' 27 1 = σ 27 1 ∧ σ' 27 2 = 0) ∧ σ' 269 2 = 0 ∧ σ' 272 2 = 0 ∧ σ' 0 = σ 0 ∧ σ' 284 2 = 0 ∧ σ' 293 2 = 0 := by
  have hrb := rB_or sw
  obtain ⟨x, σ1, k1, k2, k3, k4⟩ := into_C (sw := sw) (ς := ς) hT
  rw [hp] at k4
  obtain ⟨rfl, k5, k6⟩ := k4
  obtain ⟨X, x1, x2, x3, x4⟩ := swap (sw := sw) (σ := σ1) (ς := ς)
  have eb : rB sw = rA (!sw) := by cases sw <;> rfl
  have hra := rA_or (!sw)
  rw [eb] at x4
  obtain ⟨σ2, b1, b2, b3, b4, b5⟩ := begin_C (sw := !sw) x3 x4 (by rw [← eb]; exact k6)
  let σ3 : Sg := uA (uA (uA σ2 27 (upd (σ2 27) 2 0)) 269 (upd (σ2 269) 2 0)) 272 (upd (σ2 272) 2 0)
  let σ4 : Sg := uA (uA σ3 284 (upd (σ3 284) 2 0)) 293 (upd (σ3 293) 2 0)
  have o4 : ∀ a, a ≠ 27 → a ≠ 269 → a ≠ 272 → a ≠ 284 → a ≠ 293 → σ4 a = σ2 a := fun a z1 z2 z3 z4 z5 => by
    show uA (uA (uA (uA (uA σ2 27 _) 269 _) 272 _) 284 _) 293 _ a = _
    rw [uA_n z5, uA_n z4, uA_n z3, uA_n z2, uA_n z1]
  have u27 : σ4 27 = upd (σ2 27) 2 0 := by
    show uA (uA (uA (uA (uA σ2 27 _) 269 _) 272 _) 284 _) 293 _ 27 = _
    rw [uA_n (by omega), uA_n (by omega), uA_n (by omega), uA_n (by omega), uA_s]
  have u269 : σ4 269 = upd (σ2 269) 2 0 := by
    show uA (uA (uA (uA (uA σ2 27 _) 269 _) 272 _) 284 _) 293 _ 269 = _
    rw [uA_n (by omega), uA_n (by omega), uA_n (by omega), uA_s]
  have u272 : σ4 272 = upd (σ2 272) 2 0 := by
    show uA (uA (uA (uA (uA σ2 27 _) 269 _) 272 _) 284 _) 293 _ 272 = _
    rw [uA_n (by omega), uA_n (by omega), uA_s]
  have u285 : σ4 284 2 = 0 := by
    show uA (uA (uA (uA (uA σ2 27 _) 269 _) 272 _) 284 _) 293 _ 284 2 = _
    rw [uA_n (by omega), uA_s, pk_us]
  have u294 : σ4 293 2 = 0 := by
    show uA (uA (uA (uA (uA σ2 27 _) 269 _) 272 _) 284 _) 293 _ 293 2 = _
    rw [uA_s, pk_us]
  have b1' : f_X3_begin 3 (rB sw) X = some (enc (!sw) σ2 ς) := by rw [eb]; exact b1
  have e9 : σ4 (rA (!sw)) 9 = nI R.n := by
    rw [o4 _ (by omega) (by omega) (by omega) (by omega) (by omega), b2 _ (by omega), ← eb]; exact k6.1.2.2.1
  have h269 : 269 ≠ 27 := by omega
  have h272 : 272 ≠ 27 := by omega
  have h272' : 272 ≠ 269 := by omega
  have hst : f_X12_row 0 (enc sw σ ς) = some (nI R.n, enc (!sw) σ4 ς) := by
    have hL := row_L68 (sw := !sw) (ς := ς) (σ := σ3) (r := rB sw) 1000000 (by omega)
    have hL' : f_X12_row_L68 1000000 0 (rB sw) (0 : Int32) (enc (!sw) (uA (uA (uA σ2 27 (upd (σ2 27) 2 0)) 269 (upd (σ2 269) 2 0)) 272 (upd (σ2 272) 2 0)) ς) = some (enc (!sw) σ4 ς) := hL
    unfold f_X12_row f_X6_forget f_X11_clear f_X0_clear
    rw [if_pos io_LD, gr_LD_0, Option.bind_some, gr_LD_8, Option.bind_some, k1, bT1_some, if_pos rfl, gr_LD_8, Option.bind_some, gr_LD_1, Option.bind_some, gr_Mt_1, Option.bind_some, x1, Option.bind_some, x2, Option.bind_some, b1', Option.bind_some, gr_LD_4, Option.bind_some, if_pos io_Pa, pf_Pa_2, Option.bind_some, Option.bind_some, gr_LD_5, Option.bind_some, if_pos io_Te, pf_Te_2, Option.bind_some, Option.bind_some, gr_LD_6, Option.bind_some, if_pos io_Bo, pf_Bo_2, Option.bind_some, Option.bind_some]
    rw [uA_n h269, uA_n h272', uA_n h272, hL', Option.bind_some, eb, gi_Ra_9, Option.bind_some, e9]
  refine ⟨σ4, hst, fun a z => ?_, ⟨?_, ?_⟩, ?_, ?_, fun s hs => ?_, fun c hc => ?_, ⟨?_, ?_⟩, ?_, ?_, ?_, u285, u294⟩
  · rw [o4 a (by omega) (by omega) (by omega) (by omega) (by omega), b2 a (by omega), k2 a (by omega) (by omega)]
  · rw [o4 1 (by omega) (by omega) (by omega) (by omega) (by omega), b2 1 (by omega)]; exact k3
  · rw [o4 1 (by omega) (by omega) (by omega) (by omega) (by omega), b2 1 (by omega)]; exact k5
  · rw [← eb]
    exact k6.c fun j hj => by rw [o4 _ (by omega) (by omega) (by omega) (by omega) (by omega), b2 _ (by omega)]
  · rw [o4 4 (by omega) (by omega) (by omega) (by omega) (by omega)]; exact b3
  · rw [o4 5 (by omega) (by omega) (by omega) (by omega) (by omega), o4 6 (by omega) (by omega) (by omega) (by omega) (by omega), o4 7 (by omega) (by omega) (by omega) (by omega) (by omega), o4 8 (by omega) (by omega) (by omega) (by omega) (by omega)]; exact b4 s hs
  · rw [o4 9 (by omega) (by omega) (by omega) (by omega) (by omega), o4 10 (by omega) (by omega) (by omega) (by omega) (by omega), o4 11 (by omega) (by omega) (by omega) (by omega) (by omega)]; exact b5 c hc
  · rw [u27, pk_un (by omega), b2 27 (by omega), k2 27 (by omega) (by omega)]
  · rw [u27, pk_us]
  · rw [u269, pk_us]
  · rw [u272, pk_us]
  · rw [o4 0 (by omega) (by omega) (by omega) (by omega) (by omega), b2 0 (by omega), k2 0 (by omega) (by omega)]
theorem row_CE {σ : Sg} {T : Nat → Nat} {len : Nat} {e : Flt} (hT : TXc σ T len) (hp : prs T len 240 (skp T len 0) R0 = .error e) :
    ∃ σ', f_X12_row 0 (enc sw σ ς) = some ((-10 : Int32) - nI e.1, enc sw σ' ς) ∧ (∀ a, a ≠ 1 → (a < rB sw ∨ rB sw + 8 ≤ a) → σ' a = σ a) ∧ (σ' 1 1 = 0 ∧ σ' 1 2 = nI e.2) ∧ (1 ≤ e.1 ∧ e.1 ≤ 3) := by
  obtain ⟨x, σ1, k1, k2, k3, k4⟩ := into_C (sw := sw) (ς := ς) hT
  rw [hp] at k4
  obtain ⟨k5, rfl, k6⟩ := k4
  refine ⟨σ1, ?_, k2, ⟨k3, k6⟩, k5⟩
  unfold f_X12_row
  rw [if_pos io_LD, gr_LD_0, Option.bind_some, gr_LD_8, Option.bind_some, k1, bT1_some, if_neg (nI_ne0 (by omega) (by omega))]
end RC
