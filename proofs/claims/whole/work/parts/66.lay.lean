def mB (p : Nat) : AH := [.inr (12, [.ref (p + 1), .int 0, .int (-1), .int 0, .int 0, .int 0, .int 0, .ref (p + 2), .ref (p + 3), .ref (p + 4), .ref (p + 5), .ref (p + 6), .ref (p + 7), .int 0, .long 0, .ref (p + 8), .ref (p + 9), .ref (p + 10), .ref (p + 11), .int 0, .ref (p + 12), .int 0, .int 0, .int 0, .int 0, .int 0, .int 0, .int 0, .ref (p + 13), .ref (p + 14), .int 0, .int 0, .ref (p + 15), .ref (p + 16), .ref (p + 17), .ref (p + 18), .ref (p + 19), .ref (p + 20)]),
  zA 240, zA 6, zA 6, zA 6, zA 6, zA 51, zA 1530, zA 102, .inl (3, 2, .inr (.inl (fun _ => 0))), zA 2, zA 12, zA 40, zA 48, zA 448, zA 7, zA 7, zA 7, zA 7, zA 7, zA 7]
theorem init13 (h : AH) : f_X13_init h.length (h ++ [.inr (12, [.null, .int 0, .int 0, .int 0, .int 0, .int 0, .int 0, .null, .null, .null, .null, .null, .null, .int 0, .long 0, .null, .null, .null, .null, .int 0, .null, .int 0, .int 0, .int 0, .int 0, .int 0, .int 0, .int 0, .null, .null, .int 0, .int 0, .null, .null, .null, .null, .null, .null])]) = some (h ++ mB h.length) := by
  unfold f_X13_init
  rw [pf_lay _ (by simp), Option.bind_some, pf_mid (by simp), Option.bind_some, pf_lay _ (by simp), Option.bind_some, pf_lay _ (by simp), Option.bind_some, pf_lay _ (by simp), Option.bind_some, pf_lay _ (by simp), Option.bind_some, pf_lay _ (by simp), Option.bind_some, pf_lay _ (by simp), Option.bind_some, pf_lay _ (by simp), Option.bind_some, pf_lay _ (by simp), Option.bind_some, pf_lay _ (by simp), Option.bind_some, pf_lay _ (by simp), Option.bind_some, pf_lay _ (by simp), Option.bind_some, pf_lay _ (by simp), Option.bind_some, pf_lay _ (by simp), Option.bind_some, pf_lay _ (by simp), Option.bind_some, pf_lay _ (by simp), Option.bind_some, pf_lay _ (by simp), Option.bind_some, pf_lay _ (by simp), Option.bind_some, pf_lay _ (by simp), Option.bind_some, pf_lay _ (by simp), Option.bind_some]
  simp [mB, zA]
def b1 : AH := [.inr (7, [.ref 2, .int 0, .int (-1), .int 0, .int 0]), .inl (1, 240, .inl (fun _ => 0))]
def b2 : AH := .inr (3, [.ref 4, .ref 12]) :: (nB 4 ++ rwB 12)
def b3 : AH := [.inr (6, [.ref 21, .ref 22, .int 0, .int 0]), zA 36, zA 448]
def b4 : AH := [.inr (8, [.ref 24, .ref 25, .ref 26, .int 0, .int 0, .int 0]), zA 6, zA 6, zA 6]
def b5 : AH := .inr (5, [.ref 28, .int 0, .int 0]) :: .inl (4, 30, .inr (.inr (.inr (.inr (nFs 29 30))))) :: nBs 29 30
def b6 : AH := [.inr (10, [.ref 270, .ref 271, .int 0]), zA 6, .inl (2, 6, .inl (fun _ => 0))]
def b7 : AH := [.inr (0, [.ref 273, .ref 274, .int 0]), zA 20, zA 20]
def gC (f : Nat → Option Nat) : va_E := .inl (5, 2, .inr (.inr (.inr (.inr f))))
def i1 : AH := .inr (2, [.ref 285, .int 0, .int 0]) :: nB 285
def i2 : AH := .inr (2, [.ref 294, .int 0, .int 0]) :: nB 294
theorem pf_0 {ci k : Nat} {fs : List Value} {v : Value} {t : AH} (hk : k < fs.length) : pf (.inr (ci, fs) :: t) ci 0 k v = some (.inr (ci, fs.set k v) :: t) := pf_mid (h := []) hk
theorem b5_len : b5.length = 242 := by unfold b5; rw [List.length_cons, List.length_cons, nBs_len]
def c11 (r0 r1 r2 r3 r4 r5 r6 r7 r8 r9 : Value) : va_E := .inr (11, [r0, r1, r2, r3, r4, r5, r6, r7, r8, r9])
section PFc
variable {t : AH} {v r0 r1 r2 r3 r4 r5 r6 r7 r8 r9 : Value}
theorem pfc0 : pf (c11 r0 r1 r2 r3 r4 r5 r6 r7 r8 r9 :: t) 11 0 0 v = some (c11 v r1 r2 r3 r4 r5 r6 r7 r8 r9 :: t) := pf_0 (by simp)
theorem pfc1 : pf (c11 r0 r1 r2 r3 r4 r5 r6 r7 r8 r9 :: t) 11 0 1 v = some (c11 r0 v r2 r3 r4 r5 r6 r7 r8 r9 :: t) := pf_0 (by simp)
theorem pfc2 : pf (c11 r0 r1 r2 r3 r4 r5 r6 r7 r8 r9 :: t) 11 0 2 v = some (c11 r0 r1 v r3 r4 r5 r6 r7 r8 r9 :: t) := pf_0 (by simp)
theorem pfc3 : pf (c11 r0 r1 r2 r3 r4 r5 r6 r7 r8 r9 :: t) 11 0 3 v = some (c11 r0 r1 r2 v r4 r5 r6 r7 r8 r9 :: t) := pf_0 (by simp)
theorem pfc4 : pf (c11 r0 r1 r2 r3 r4 r5 r6 r7 r8 r9 :: t) 11 0 4 v = some (c11 r0 r1 r2 r3 v r5 r6 r7 r8 r9 :: t) := pf_0 (by simp)
theorem pfc5 : pf (c11 r0 r1 r2 r3 r4 r5 r6 r7 r8 r9 :: t) 11 0 5 v = some (c11 r0 r1 r2 r3 r4 v r6 r7 r8 r9 :: t) := pf_0 (by simp)
theorem pfc6 : pf (c11 r0 r1 r2 r3 r4 r5 r6 r7 r8 r9 :: t) 11 0 6 v = some (c11 r0 r1 r2 r3 r4 r5 v r7 r8 r9 :: t) := pf_0 (by simp)
theorem pfc7 : pf (c11 r0 r1 r2 r3 r4 r5 r6 r7 r8 r9 :: t) 11 0 7 v = some (c11 r0 r1 r2 r3 r4 r5 r6 v r8 r9 :: t) := pf_0 (by simp)
theorem pfc8 : pf (c11 r0 r1 r2 r3 r4 r5 r6 r7 r8 r9 :: t) 11 0 8 v = some (c11 r0 r1 r2 r3 r4 r5 r6 r7 v r9 :: t) := pf_0 (by simp)
theorem pfc9 : pf (c11 r0 r1 r2 r3 r4 r5 r6 r7 r8 r9 :: t) 11 0 9 v = some (c11 r0 r1 r2 r3 r4 r5 r6 r7 r8 v :: t) := pf_0 (by simp)
end PFc
/-- an image and its place -/
theorem imgs_L {c : va_E} {t : AH} {f : Nat → Option Nat} (i : Nat) (hi : i < 2) {u : AH} (hl : (c :: t).length = 275) (hu : u.length = 8 + 9 * i) (hg : ∀ u' g, gr ((c :: t) ++ gC g :: u') 11 0 7 = some 275) (F : Nat) :
    f_X12_init_L102 (F + 1) 0 (nI i) ((c :: t) ++ gC f :: u) = f_X12_init_L102 F 0 (nI (i + 1)) ((c :: t) ++ gC (va_up f i (some (284 + 9 * i))) :: (u ++ .inr (2, [.ref (285 + 9 * i), .int 0, .int 0]) :: nB (285 + 9 * i))) := by
  have e2 := init2 ((c :: t) ++ gC f :: u)
  have l2 : ((c :: t) ++ gC f :: u).length = 284 + 9 * i := by rw [List.length_append, hl, List.length_cons, hu]; omega
  have key := arw_mid (h := c :: t) (t := u) (u := nB (284 + 9 * i + 1)) (ci := 2) (q := 5) (n := 2) (i := i) (f := f) (fs := [.ref (284 + 9 * i + 1), .int 0, .int 0]) hi (by omega)
  rw [hl, hu, show 275 + 1 + (8 + 9 * i) = 284 + 9 * i by omega] at key
  rw [l2] at e2
  have a : ((c :: t) ++ gC f :: u) ++ (.inr (2, [.ref (284 + 9 * i + 1), .int 0, .int 0]) : va_E) :: nB (284 + 9 * i + 1) = (c :: t) ++ gC f :: (u ++ .inr (2, [.ref (284 + 9 * i + 1), .int 0, .int 0]) :: nB (284 + 9 * i + 1)) := by simp
  show F_X12_init_L102 (f_X12_init_L102 F) 0 (nI i) _ = _
  unfold F_X12_init_L102
  rw [if_neg (show ¬ (2 : Int32) ≤ nI i from nI_ge (b := 2) hi (by omega)), hg, Option.bind_some, l2, e2, Option.bind_some, a]
  refine Eq.trans (congrArg (fun z => Option.bind z _) key) ?_
  rw [Option.bind_some, nI_1, show 284 + 9 * i + 1 = 285 + 9 * i by omega]
  rfl
def ldC : va_E := c11 (.ref 1) (.ref 3) (.ref 20) (.ref 23) (.ref 27) (.ref 269) (.ref 272) (.ref 275) (.ref 276) (.int 0)
def hC : AH := ldC :: (b1 ++ b2 ++ b3 ++ b4 ++ b5 ++ b6 ++ b7) ++ gC ifun :: (rwB 276 ++ i1 ++ i2)
theorem gr_ldC {t : AH} : gr (ldC :: t) 11 0 7 = some 275 := by simp [gr, oget, ldC, c11]
theorem init12 : f_X12_init 0 [c11 .null .null .null .null .null .null .null .null .null (.int 0)] = some hC := by
  have l1 : ∀ c : va_E, (c :: b1).length = 3 := fun _ => rfl
  have l2 : ∀ c : va_E, (c :: (b1 ++ b2)).length = 20 := fun _ => rfl
  have l3 : ∀ c : va_E, (c :: (b1 ++ b2 ++ b3)).length = 23 := fun _ => rfl
  have l4 : ∀ c : va_E, (c :: (b1 ++ b2 ++ b3 ++ b4)).length = 27 := fun _ => rfl
  have l5 : ∀ c : va_E, (c :: (b1 ++ b2 ++ b3 ++ b4 ++ b5)).length = 269 := fun c => by rw [← List.cons_append, List.length_append, l4, b5_len]
  have l6 : ∀ c : va_E, (c :: (b1 ++ b2 ++ b3 ++ b4 ++ b5 ++ b6)).length = 272 := fun c => by rw [← List.cons_append, List.length_append, l5]; rfl
  have l7 : ∀ c : va_E, (c :: (b1 ++ b2 ++ b3 ++ b4 ++ b5 ++ b6 ++ b7)).length = 275 := fun c => by rw [← List.cons_append, List.length_append, l6]; rfl
  have s1 : ∀ c : va_E, f_X8_init 1 ([c] ++ [.inr (7, [.null, .int 0, .int 0, .int 0, .int 0])]) = some (c :: b1) := fun c => init8 [c]
  have s2 : ∀ c : va_E, f_X3_init 3 ((c :: b1) ++ [.inr (3, [.null, .null])]) = some (c :: (b1 ++ b2)) := fun c => by have := init3 (c :: b1); rw [l1] at this; exact this
  have s3 : ∀ c : va_E, f_X7_init 20 ((c :: (b1 ++ b2)) ++ [.inr (6, [.null, .null, .int 0, .int 0])]) = some (c :: (b1 ++ b2 ++ b3)) := fun c => by have := init7 (c :: (b1 ++ b2)); rw [l2] at this; exact this
  have s4 : ∀ c : va_E, f_X9_init 23 ((c :: (b1 ++ b2 ++ b3)) ++ [.inr (8, [.null, .null, .null, .int 0, .int 0, .int 0])]) = some (c :: (b1 ++ b2 ++ b3 ++ b4)) := fun c => by have := init9 (c :: (b1 ++ b2 ++ b3)); rw [l3] at this; exact this
  have s5 : ∀ c : va_E, f_X6_init 27 ((c :: (b1 ++ b2 ++ b3 ++ b4)) ++ [.inr (5, [.null, .int 0, .int 0])]) = some (c :: (b1 ++ b2 ++ b3 ++ b4 ++ b5)) := fun c => by have := init6 (c :: (b1 ++ b2 ++ b3 ++ b4)); unfold pH at this; rw [l4] at this; exact this
  have s6 : ∀ c : va_E, f_X11_init 269 ((c :: (b1 ++ b2 ++ b3 ++ b4 ++ b5)) ++ [.inr (10, [.null, .null, .int 0])]) = some (c :: (b1 ++ b2 ++ b3 ++ b4 ++ b5 ++ b6)) := fun c => by have := init11 (c :: (b1 ++ b2 ++ b3 ++ b4 ++ b5)); rw [l5] at this; exact this
  have s7 : ∀ c : va_E, f_X0_init 272 ((c :: (b1 ++ b2 ++ b3 ++ b4 ++ b5 ++ b6)) ++ [.inr (0, [.null, .null, .int 0])]) = some (c :: (b1 ++ b2 ++ b3 ++ b4 ++ b5 ++ b6 ++ b7)) := fun c => by have := init0 (c :: (b1 ++ b2 ++ b3 ++ b4 ++ b5 ++ b6)); rw [l6] at this; exact this
  have l9 : ∀ c : va_E, (c :: (b1 ++ b2 ++ b3 ++ b4 ++ b5 ++ b6 ++ b7 ++ [gC (fun _ => none)])).length = 276 := fun c => by rw [← List.cons_append, List.length_append, l7]; rfl
  have s9 : ∀ c : va_E, f_X10_init 276 ((c :: (b1 ++ b2 ++ b3 ++ b4 ++ b5 ++ b6 ++ b7 ++ [gC (fun _ => none)])) ++ [.inr (9, [.null, .null, .null, .null, .null, .null, .null, .int 0, .int 0, .int 0, .int 0])]) = some (c :: (b1 ++ b2 ++ b3 ++ b4 ++ b5 ++ b6 ++ b7 ++ [gC (fun _ => none)] ++ rwB 276)) := fun c => by have := init10 (c :: (b1 ++ b2 ++ b3 ++ b4 ++ b5 ++ b6 ++ b7 ++ [gC (fun _ => none)])); rw [l9] at this; exact this
  have run : ∀ F, 2 < F → f_X12_init_L102 F 0 (0 : Int32) ((ldC :: (b1 ++ b2 ++ b3 ++ b4 ++ b5 ++ b6 ++ b7)) ++ gC (fun _ => none) :: rwB 276) = some hC := by
    intro F hF
    obtain ⟨F, rfl⟩ : ∃ F', F = F' + 1 + 1 + 1 := ⟨F - 3, by omega⟩
    have g1 := imgs_L (c := ldC) (t := b1 ++ b2 ++ b3 ++ b4 ++ b5 ++ b6 ++ b7) (f := fun _ => none) 0 (by omega) (u := rwB 276) (l7 _) rfl (fun u' g => gr_ldC) (F + 1 + 1)
    have g2 := imgs_L (c := ldC) (t := b1 ++ b2 ++ b3 ++ b4 ++ b5 ++ b6 ++ b7) (f := va_up (fun _ => none) 0 (some 284)) 1 (by omega) (u := rwB 276 ++ i1) (l7 _) rfl (fun u' g => gr_ldC) (F + 1)
    refine Eq.trans g1 (Eq.trans g2 ?_)
    show F_X12_init_L102 (f_X12_init_L102 F) 0 (nI 2) _ = _
    unfold F_X12_init_L102
    rw [if_pos (show (2 : Int32) ≤ nI 2 by decide)]
    rfl
  have hL := run 1000000 (by omega)
  unfold f_X12_init
  rw [show List.length [c11 .null .null .null .null .null .null .null .null .null (.int 0)] = 1 from rfl, s1, Option.bind_some, pfc0, Option.bind_some, l1, s2, Option.bind_some, pfc1, Option.bind_some, l2, s3, Option.bind_some, pfc2, Option.bind_some, l3, s4, Option.bind_some, pfc3, Option.bind_some, l4, s5, Option.bind_some, pfc4, Option.bind_some, l5, s6, Option.bind_some, pfc5, Option.bind_some, l6, s7, Option.bind_some, pfc6, Option.bind_some, l7, List.cons_append, pfc7, Option.bind_some]
  have l9' := l9 (c11 (.ref 1) (.ref 3) (.ref 20) (.ref 23) (.ref 27) (.ref 269) (.ref 272) (.ref 275) .null (.int 0))
  have s9' := s9 (c11 (.ref 1) (.ref 3) (.ref 20) (.ref 23) (.ref 27) (.ref 269) (.ref 272) (.ref 275) .null (.int 0))
  unfold gC at l9' s9'
  rw [l9', s9', Option.bind_some, pfc8, Option.bind_some]
  rw [show (c11 (.ref 1) (.ref 3) (.ref 20) (.ref 23) (.ref 27) (.ref 269) (.ref 272) (.ref 275) (.ref 276) (.int 0) :: (b1 ++ b2 ++ b3 ++ b4 ++ b5 ++ b6 ++ b7 ++ [(.inl (5, 2, .inr (.inr (.inr (.inr (fun _ => none))))) : va_E)] ++ rwB 276)) = (ldC :: (b1 ++ b2 ++ b3 ++ b4 ++ b5 ++ b6 ++ b7)) ++ gC (fun _ => none) :: rwB 276 by rw [List.append_assoc _ [_] (rwB 276)]; rfl, hL, Option.bind_some]
