/-! what the constructors lay -/
section IN
variable {h t : AH} {ci k : Nat} {fs : List Value} {v : Value}
theorem get_mid (c : va_E) : (h ++ c :: t)[h.length]? = some c := by simp
theorem set_mid (c c' : va_E) : (h ++ c :: t).set h.length c' = h ++ c' :: t := by simp
theorem pf_mid (hk : k < fs.length) : pf (h ++ .inr (ci, fs) :: t) ci h.length k v = some (h ++ .inr (ci, fs.set k v) :: t) := by
  unfold pf
  rw [get_mid]
  simp only [hk, and_self, if_true]
  rw [set_mid]
theorem app_mid (c c' : va_E) : (h ++ c :: t) ++ [c'] = h ++ c :: (t ++ [c']) := by simp
theorem pf_lay (c' : va_E) (hk : k < fs.length) : pf ((h ++ .inr (ci, fs) :: t) ++ [c']) ci h.length k v = some (h ++ .inr (ci, fs.set k v) :: (t ++ [c'])) := by rw [app_mid, pf_mid hk]
end IN
def zA (n : Nat) : va_E := .inl (0, n, .inl (fun _ => 0))
def nB (p : Nat) : AH := [.inr (4, [.ref (p + 1), .ref (p + 2), .ref (p + 3), .ref (p + 4), .ref (p + 5), .ref (p + 6), .ref (p + 7), .int 0, .int 0, .int 0, .int 0]), zA 6, zA 6, zA 6, zA 6, zA 6, zA 6, zA 6]
def rwB (p : Nat) : AH := [.inr (9, [.ref (p + 1), .ref (p + 2), .ref (p + 3), .ref (p + 4), .ref (p + 5), .ref (p + 6), .ref (p + 7), .int 0, .int 0, .int 0, .int 0]), zA 6, zA 6, zA 6, zA 6, zA 6, zA 6, zA 6]
theorem init4 (h : AH) : f_X4_init h.length (h ++ [.inr (4, [.null, .null, .null, .null, .null, .null, .null, .int 0, .int 0, .int 0, .int 0])]) = some (h ++ nB h.length) := by
  unfold f_X4_init
  rw [pf_lay _ (by simp), Option.bind_some, pf_lay _ (by simp), Option.bind_some, pf_lay _ (by simp), Option.bind_some, pf_lay _ (by simp), Option.bind_some, pf_lay _ (by simp), Option.bind_some, pf_lay _ (by simp), Option.bind_some, pf_lay _ (by simp), Option.bind_some]
  simp [nB, zA]
theorem init10 (h : AH) : f_X10_init h.length (h ++ [.inr (9, [.null, .null, .null, .null, .null, .null, .null, .int 0, .int 0, .int 0, .int 0])]) = some (h ++ rwB h.length) := by
  unfold f_X10_init
  rw [pf_lay _ (by simp), Option.bind_some, pf_lay _ (by simp), Option.bind_some, pf_lay _ (by simp), Option.bind_some, pf_lay _ (by simp), Option.bind_some, pf_lay _ (by simp), Option.bind_some, pf_lay _ (by simp), Option.bind_some, pf_lay _ (by simp), Option.bind_some]
  simp [rwB, zA]
theorem init8 (h : AH) : f_X8_init h.length (h ++ [.inr (7, [.null, .int 0, .int 0, .int 0, .int 0])]) = some (h ++ [.inr (7, [.ref (h.length + 1), .int 0, .int (-1), .int 0, .int 0]), .inl (1, 240, .inl (fun _ => 0))]) := by
  unfold f_X8_init
  rw [pf_lay _ (by simp), Option.bind_some, pf_mid (by simp), Option.bind_some]
  simp
theorem init3 (h : AH) : f_X3_init h.length (h ++ [.inr (3, [.null, .null])]) = some (h ++ .inr (3, [.ref (h.length + 1), .ref (h.length + 9)]) :: (nB (h.length + 1) ++ rwB (h.length + 9))) := by
  have e1 := init4 (h ++ [.inr (3, [.null, .null])])
  have e2 : ∀ t : AH, f_X10_init (h ++ .inr (3, [.ref (h.length + 1), .null]) :: t).length ((h ++ .inr (3, [.ref (h.length + 1), .null]) :: t) ++ [.inr (9, [.null, .null, .null, .null, .null, .null, .null, .int 0, .int 0, .int 0, .int 0])]) = some ((h ++ .inr (3, [.ref (h.length + 1), .null]) :: t) ++ rwB (h ++ .inr (3, [.ref (h.length + 1), .null]) :: t).length) := fun t => init10 _
  have l1 : (h ++ [(.inr (3, [.null, .null]) : va_E)]).length = h.length + 1 := by simp
  have l2 : (h ++ (.inr (3, [.ref (h.length + 1), .null]) : va_E) :: nB (h.length + 1)).length = h.length + 9 := by simp [nB]
  rw [l1] at e1
  have e2' := e2 (nB (h.length + 1))
  rw [l2] at e2'
  unfold f_X3_init
  rw [l1, e1, Option.bind_some, List.append_assoc h, List.cons_append, List.nil_append, pf_mid (by simp), Option.bind_some]
  show (f_X10_init (h ++ .inr (3, [.ref (h.length + 1), .null]) :: nB (h.length + 1)).length ((h ++ .inr (3, [.ref (h.length + 1), .null]) :: nB (h.length + 1)) ++ _)).bind _ = _
  rw [l2, e2', Option.bind_some, List.append_assoc h, List.cons_append, pf_mid (by simp), Option.bind_some]
  rw [show (List.length (h ++ (.inr (3, [Value.null, Value.null].set 0 (.ref (h.length + 1))) : va_E) :: nB (h.length + 1))) = h.length + 9 from l2]
  rfl
theorem init7 (h : AH) : f_X7_init h.length (h ++ [.inr (6, [.null, .null, .int 0, .int 0])]) = some (h ++ [.inr (6, [.ref (h.length + 1), .ref (h.length + 2), .int 0, .int 0]), zA 36, zA 448]) := by
  unfold f_X7_init
  rw [pf_lay _ (by simp), Option.bind_some, pf_lay _ (by simp), Option.bind_some]
  simp [zA]
theorem init9 (h : AH) : f_X9_init h.length (h ++ [.inr (8, [.null, .null, .null, .int 0, .int 0, .int 0])]) = some (h ++ [.inr (8, [.ref (h.length + 1), .ref (h.length + 2), .ref (h.length + 3), .int 0, .int 0, .int 0]), zA 6, zA 6, zA 6]) := by
  unfold f_X9_init
  rw [pf_lay _ (by simp), Option.bind_some, pf_lay _ (by simp), Option.bind_some, pf_lay _ (by simp), Option.bind_some]
  simp [zA]
theorem init11 (h : AH) : f_X11_init h.length (h ++ [.inr (10, [.null, .null, .int 0])]) = some (h ++ [.inr (10, [.ref (h.length + 1), .ref (h.length + 2), .int 0]), zA 6, .inl (2, 6, .inl (fun _ => 0))]) := by
  unfold f_X11_init
  rw [pf_lay _ (by simp), Option.bind_some, pf_lay _ (by simp), Option.bind_some]
  simp [zA]
theorem init0 (h : AH) : f_X0_init h.length (h ++ [.inr (0, [.null, .null, .int 0])]) = some (h ++ [.inr (0, [.ref (h.length + 1), .ref (h.length + 2), .int 0]), zA 20, zA 20]) := by
  unfold f_X0_init
  rw [pf_lay _ (by simp), Option.bind_some, pf_lay _ (by simp), Option.bind_some]
  simp [zA]
theorem init2 (h : AH) : f_X2_init h.length (h ++ [.inr (2, [.null, .int 0, .int 0])]) = some (h ++ .inr (2, [.ref (h.length + 1), .int 0, .int 0]) :: nB (h.length + 1)) := by
  have e1 := init4 (h ++ [.inr (2, [.null, .int 0, .int 0])])
  have l1 : (h ++ [(.inr (2, [.null, .int 0, .int 0]) : va_E)]).length = h.length + 1 := by simp
  rw [l1] at e1
  unfold f_X2_init
  rw [l1, e1, Option.bind_some, List.append_assoc h, List.cons_append, List.nil_append, pf_mid (by simp), Option.bind_some]
  rfl
/-! the thirty nights -/
def nFs (q : Nat) : Nat → Nat → Option Nat
  | 0 => fun _ => none
  | i + 1 => va_up (nFs q i) i (some (q + 8 * i))
def nBs (q : Nat) : Nat → AH
  | 0 => []
  | i + 1 => nBs q i ++ nB (q + 8 * i)
theorem nBs_len (q : Nat) : ∀ i, (nBs q i).length = 8 * i
  | 0 => rfl
  | i + 1 => by unfold nBs; rw [List.length_append, nBs_len q i]; show 8 * i + 8 = _; omega
def pH (h : AH) (i : Nat) : AH := h ++ .inr (5, [.ref (h.length + 1), .int 0, .int 0]) :: .inl (4, 30, .inr (.inr (.inr (.inr (nFs (h.length + 2) i))))) :: nBs (h.length + 2) i
theorem pH_len (h : AH) (i : Nat) : (pH h i).length = h.length + 2 + 8 * i := by unfold pH; simp [nBs_len]; omega
theorem arw_mid {h t u : AH} {fs : List Value} {q ci n i : Nat} {f : Nat → Option Nat} (hi : i < n) (hn : n < 2 ^ 31) :
    arw (h ++ .inl (q, n, .inr (.inr (.inr (.inr f)))) :: (t ++ .inr (ci, fs) :: u)) q ci h.length (nI i) (h.length + 1 + t.length) = some (h ++ .inl (q, n, .inr (.inr (.inr (.inr (va_up f i (some (h.length + 1 + t.length))))))) :: (t ++ .inr (ci, fs) :: u)) := by
  have g : (h ++ (.inl (q, n, .inr (.inr (.inr (.inr f)))) : va_E) :: (t ++ .inr (ci, fs) :: u))[h.length + 1 + t.length]? = some (.inr (ci, fs)) := by
    rw [List.getElem?_append_right (by omega), show h.length + 1 + t.length - h.length = t.length + 1 by omega, List.getElem?_cons_succ]
    simp
  unfold arw
  rw [get_mid, g]
  have hb := nI_inb hi hn
  simp only [and_self, true_and]
  rw [if_pos hb, set_mid, nI_clamp (by omega)]
theorem past_L (h : AH) : ∀ (d i f : Nat), i + d = 30 → d < f → f_X6_init_L15 f h.length (nI i) (pH h i) = some (pH h 30) := by
  intro d
  induction d with
  | zero =>
    intro i f hi hf
    obtain ⟨f, rfl⟩ : ∃ f', f = f' + 1 := ⟨f - 1, by omega⟩
    obtain rfl : i = 30 := by omega
    show F_X6_init_L15 (f_X6_init_L15 f) h.length (nI 30) (pH h 30) = _
    unfold F_X6_init_L15
    rw [if_pos (show (30 : Int32) ≤ nI 30 from nI_le (a := 30) (by omega) (by omega))]
  | succ d ih =>
    intro i f hi hf
    obtain ⟨f, rfl⟩ : ∃ f', f = f' + 1 := ⟨f - 1, by omega⟩
    have hgr : gr (pH h i) 5 h.length 0 = some (h.length + 1) := by
      unfold gr oget pH
      rw [get_mid]
      simp
    have e1 := init4 (pH h i)
    have hl := pH_len h i
    have harw : arw (pH h i ++ nB (pH h i).length) 4 4 (h.length + 1) (nI i) (pH h i).length = some (pH h (i + 1)) := by
      have key := arw_mid (h := h ++ [.inr (5, [.ref (h.length + 1), .int 0, .int 0])]) (t := nBs (h.length + 2) i) (u := [zA 6, zA 6, zA 6, zA 6, zA 6, zA 6, zA 6]) (ci := 4) (q := 4) (n := 30) (i := i) (f := nFs (h.length + 2) i)
        (fs := [.ref ((pH h i).length + 1), .ref ((pH h i).length + 2), .ref ((pH h i).length + 3), .ref ((pH h i).length + 4), .ref ((pH h i).length + 5), .ref ((pH h i).length + 6), .ref ((pH h i).length + 7), .int 0, .int 0, .int 0, .int 0]) (by omega) (by omega)
      have l1 : (h ++ [(.inr (5, [.ref (h.length + 1), .int 0, .int 0]) : va_E)]).length = h.length + 1 := by simp
      have l2 : h.length + 1 + 1 + (nBs (h.length + 2) i).length = (pH h i).length := by rw [hl, nBs_len]
      rw [l1, l2, List.append_assoc h, List.cons_append, List.nil_append] at key
      have a1 : pH h i ++ nB (pH h i).length = h ++ .inr (5, [.ref (h.length + 1), .int 0, .int 0]) :: .inl (4, 30, .inr (.inr (.inr (.inr (nFs (h.length + 2) i))))) :: (nBs (h.length + 2) i ++ nB (pH h i).length) := by
        conv => lhs; unfold pH
        rw [List.append_assoc h, List.cons_append, List.cons_append]
        rfl
      rw [a1]
      refine Eq.trans key ?_
      rw [hl]
      unfold pH
      rw [List.append_assoc h]
      rfl
    show F_X6_init_L15 (f_X6_init_L15 f) h.length (nI i) (pH h i) = _
    unfold F_X6_init_L15
    rw [if_neg (show ¬ (30 : Int32) ≤ nI i from nI_ge (b := 30) (by omega) (by omega)), hgr, Option.bind_some, e1, Option.bind_some, harw, Option.bind_some, nI_1]
    exact ih (i + 1) f (by omega) (by omega)
theorem init6 (h : AH) : f_X6_init h.length (h ++ [.inr (5, [.null, .int 0, .int 0])]) = some (pH h 30) := by
  have run : ∀ f, 30 < f → f_X6_init_L15 f h.length (0 : Int32) (pH h 0) = some (pH h 30) := fun f hf => past_L h 30 0 f (by omega) hf
  have e := run 1000000 (by omega)
  unfold f_X6_init
  rw [pf_lay _ (by simp), Option.bind_some]
  have l1 : (h ++ [(.inr (5, [.null, .int 0, .int 0]) : va_E)]).length = h.length + 1 := by simp
  rw [l1]
  refine Eq.trans ?_ (show (f_X6_init_L15 1000000 h.length (0 : Int32) (pH h 0)).bind (fun h2 => some h2) = some (pH h 30) by rw [e, Option.bind_some])
  rfl
