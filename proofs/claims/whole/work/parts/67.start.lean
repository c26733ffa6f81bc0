def sg0 : Sg := fun a k => if a = 1 then (if k = 2 then -1 else 0) else if a = 302 then (if k = 2 then -1 else 0) else 0
def lg0 : Lg := fun _ _ => 0
set_option maxRecDepth 100000 in
theorem lay_enc : hC ++ mB 302 = enc false sg0 lg0 := by rfl
theorem hC_len : hC.length = 302 := by
  unfold hC
  rw [List.length_append, List.length_cons, List.length_append, List.length_append, List.length_append, List.length_append, List.length_append, List.length_append, b5_len]
  rfl
theorem sg0_z {a k : Nat} (h : k ≠ 2) : sg0 a k = 0 := by
  unfold sg0
  rw [if_neg h]
  split
  · rfl
  · split <;> rfl
theorem sg0_y {a k : Nat} (h : a ≠ 1) (h' : a ≠ 302) : sg0 a k = 0 := by
  unfold sg0
  rw [if_neg h, if_neg h']
theorem inv0 : Inv false sg0 lg0 := by
  refine ⟨0, 0, 0, 0, 0, 0, 0, 0, 0, ⟨by omega, sg0_z (by omega), sg0_z (by omega), fun i hi => absurd hi (by omega)⟩, rfl, ⟨⟨by omega, by omega, by omega, by omega⟩, fun _ => ⟨rfl, rfl⟩, fun h => absurd h (by omega), ⟨sg0_z (by omega), sg0_z (by omega), sg0_z (by omega), sg0_z (by omega)⟩, ⟨sg0_z (by omega), sg0_z (by omega), sg0_z (by omega), sg0_z (by omega)⟩, fun s hs => absurd hs (by omega), fun c hc => absurd hc (by omega)⟩, ⟨NR.intro (fun s hs => absurd hs (by omega)) (fun s hs => absurd hs (by omega)) (fun s hs => absurd hs (by omega)) (fun s hs => absurd hs (by omega)) (fun c hc => absurd hc (by omega)) (fun c hc => absurd hc (by omega)) (fun c hc => absurd hc (by omega)) ⟨0, by omega, sg0_z (by omega), fun c hc => absurd hc (by omega)⟩ ?_ ?_ ?_, ⟨fun s hs => absurd hs (by omega), fun c hc => absurd hc (by omega), ⟨0, sg0_z (by omega), by omega⟩, ⟨0, sg0_z (by omega), by omega⟩, ⟨0, sg0_z (by omega), by omega⟩⟩⟩,
    I_past.zero (by omega) (sg0_z (by omega)) (sg0_y (by omega) (by omega)) (sg0_z (by omega)), ⟨0, by omega, sg0_z (by omega), rfl⟩, fun i hi => Or.inl ⟨sg0_y (by omega) (by omega), sg0_y (by omega) (by omega)⟩, I_ask.zero (sg0_y (by omega) (by omega)) (sg0_z (by omega)), I_book.zero (sg0_y (by omega) (by omega)) (sg0_z (by omega))⟩
  · rw [sg0_z (by omega), sg0_z (by omega)]
  · rw [sg0_z (by omega), sg0_z (by omega)]
  · rw [sg0_z (by omega), sg0_z (by omega)]
theorem encl_len (σ : Sg) (ς : Lg) : ∀ (l : List Mk) (i : Nat), (encl σ ς i l).length = l.length
  | [], i => rfl
  | m :: l, i => by simp only [encl, List.length_cons]; rw [encl_len σ ς l (i + 1)]
def okM : List Mk → Prop
  | [] => True
  | m :: l => (∀ f g, ces (m f g) ≤ 1530) ∧ okM l
theorem okM_cons {m : Mk} {l : List Mk} (h : ∀ f g, ces (m f g) ≤ 1530) (h' : okM l) : okM (m :: l) := ⟨h, h'⟩
theorem okM_asz (σ : Sg) (ς : Lg) : ∀ (l : List Mk) (i : Nat), okM l → asz (encl σ ς i l) ≤ 1530 * l.length
  | [], i, _ => by show 0 ≤ _; omega
  | m :: l, i, h => by
    have h1 := h.1 (σ i) (ς i)
    have h2 := okM_asz σ ς l (i + 1) h.2
    have e : asz (encl σ ς i (m :: l)) = ces (m (σ i) (ς i)) + asz (encl σ ς (i + 1) l) := by simp [asz, encl]
    rw [e, List.length_cons]
    omega
set_option maxRecDepth 100000 in
theorem okM_shp (sw : Bool) : okM (shp sw) := by
  unfold shp
  repeat (refine okM_cons (fun f g => Nat.le_of_ble_eq_true rfl) ?_)
  exact trivial
set_option maxRecDepth 100000 in
theorem shp_len (sw : Bool) : (shp sw).length = 323 := by cases sw <;> rfl
theorem enc_len {sw : Bool} {σ : Sg} {ς : Lg} : (enc sw σ ς).length ≤ 600000 := by
  unfold enc
  rw [encl_len, shp_len]
  omega
theorem enc_asz {sw : Bool} {σ : Sg} {ς : Lg} : asz (enc sw σ ς) ≤ 7302250 := by
  have h := okM_asz σ ς (shp sw) 0 (okM_shp sw)
  rw [shp_len] at h
  unfold enc
  omega
theorem law_pure (L : Nat) (xs : Nat → Int32) (hL : L ≤ 1536) : ∃ h', f_L_law (L, xs) [] = some (1, h') ∧ h'.length ≤ 600000 ∧ asz h' ≤ 7302250 := by
  have run : ∀ f, 1537 < f → ∃ s2 σ2 ς2, f_L_law_L18 (L, xs) f 0 302 (0 : Int32) (enc false sg0 lg0) = some (.inr (enc s2 σ2 ς2)) := fun f hf => law_L (X := (L, xs)) hL 1536 0 f false sg0 lg0 inv0 (by show L - 0 ≤ 1536; omega) (by omega) hf
  obtain ⟨s2, σ2, ς2, e⟩ := run 1000000 (by omega)
  refine ⟨enc s2 σ2 ς2, ?_, enc_len, enc_asz⟩
  have e12 : f_X12_init (List.length ([] : AH)) (([] : AH) ++ [.inr (11, [.null, .null, .null, .null, .null, .null, .null, .null, .null, .int 0])]) = some hC := init12
  have e13 := init13 hC
  rw [hC_len, lay_enc] at e13
  unfold f_L_law
  rw [e12, Option.bind_some, hC_len, e13, Option.bind_some]
  show bS (f_L_law_L18 (L, xs) 1000000 0 302 (0 : Int32) (enc false sg0 lg0)) _ = _
  rw [e]
  rfl
