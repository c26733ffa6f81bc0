/-! ways along the row -/
theorem sub_sub_ok (a b c : Nat) : nI a - nI b - nI c = nI a - nI (b + c) := by
  rw [← nI_add, Int32.sub_eq_add_neg, Int32.sub_eq_add_neg, Int32.sub_eq_add_neg, Int32.neg_add, Int32.add_assoc]
  first | rfl | rw [Int32.sub_eq_add_neg]
def dst (a b : Nat) : Nat := (a - b) + (b - a)
theorem dst_comm (a b : Nat) : dst a b = dst b a := Nat.add_comm _ _
def upL (d x : Nat) (q : Nat × Nat) : Nat × Nat := if q.1 < d then (d, x) else q
def kidsF (sub : Nat → Nat × Nat → Nat × Nat) (P : Nat → Bool) : Nat → Nat → Nat × Nat → Nat × Nat
  | _, 0, q => q
  | c, k + 1, q => kidsF sub P (c + 1) k (if P c = true then sub c q else q)
theorem kidsF_s (sub : Nat → Nat × Nat → Nat × Nat) (P : Nat → Bool) (c k : Nat) (q : Nat × Nat) : kidsF sub P c (k + 1) q = kidsF sub P (c + 1) k (if P c = true then sub c q else q) := rfl
def opq (Bd N : Nat → Nat) (g ho le : Nat) : Nat → Bool := fun c => decide (0 < N c) && (!g.testBit c && decide (dst (Bd c) ho + N c ≤ le))
def vis (m : Nat) (Bd N P : Nat → Nat) : Nat → Nat → Nat → Nat → Nat → Nat → Nat → Nat × Nat → Nat × Nat
  | 0, d, _, x, _, _, _, q => upL d x q
  | e + 1, d, g, x, ho, le, de, q => if de = 0 then upL d x q else kidsF (fun c q => vis m Bd N P e (d + 1) (g ||| 2 ^ c) (x * 10 + c + 1) (Bd c) (le - (dst (Bd c) ho + N c)) (de - P c) q) (opq Bd N g ho le) 0 m (upL d x q)
theorem vis_0 (m : Nat) (Bd N P : Nat → Nat) (d g x ho le de : Nat) (q : Nat × Nat) : vis m Bd N P 0 d g x ho le de q = upL d x q := rfl
theorem vis_s (m : Nat) (Bd N P : Nat → Nat) (e d g x ho le de : Nat) (q : Nat × Nat) : vis m Bd N P (e + 1) d g x ho le de q = if de = 0 then upL d x q else kidsF (fun c q => vis m Bd N P e (d + 1) (g ||| 2 ^ c) (x * 10 + c + 1) (Bd c) (le - (dst (Bd c) ho + N c)) (de - P c) q) (opq Bd N g ho le) 0 m (upL d x q) := rfl
theorem upL_le {d x B : Nat} {q : Nat × Nat} (h : q.1 ≤ B) (hd : d ≤ B) : (upL d x q).1 ≤ B := by
  unfold upL
  split
  · exact hd
  · exact h
theorem kidsF_le {sub : Nat → Nat × Nat → Nat × Nat} {P : Nat → Bool} {B : Nat} (hs : ∀ c q, q.1 ≤ B → (sub c q).1 ≤ B) : ∀ k c q, q.1 ≤ B → (kidsF sub P c k q).1 ≤ B
  | 0, c, q, h => h
  | k + 1, c, q, h => by
    rw [kidsF_s]
    refine kidsF_le hs k _ _ ?_
    split
    · exact hs c q h
    · exact h
theorem vis_le (m : Nat) (Bd N P : Nat → Nat) : ∀ e d g x ho le de q, d + e = 6 → q.1 ≤ 6 → (vis m Bd N P e d g x ho le de q).1 ≤ 6
  | 0, d, g, x, ho, le, de, q, he, hq => upL_le hq (by omega)
  | e + 1, d, g, x, ho, le, de, q, he, hq => by
    rw [vis_s]
    split
    · exact upL_le hq (by omega)
    · exact kidsF_le (fun c q h => vis_le m Bd N P e _ _ _ _ _ _ q (by omega) h) m 0 _ (upL_le hq (by omega))
/-- the class's numbers for a search -/
def RR (σ : Sg) (m : Nat) (Bd N P : Nat → Nat) : Prop := σ 23 3 = nI m ∧ ∀ c, c < m → σ 24 c = nI (Bd c) ∧ σ 25 c = nI (N c) ∧ σ 26 c = nI (P c)
theorem RR.c {σ σ' : Sg} {m : Nat} {Bd N P : Nat → Nat} (h : RR σ m Bd N P) (e0 : σ' 23 3 = σ 23 3) (e : ∀ a, a ≠ 23 → σ' a = σ a) : RR σ' m Bd N P := by
  unfold RR at h ⊢
  rw [e0, e 24 (by omega), e 25 (by omega), e 26 (by omega)]; exact h
/-- a debt that may have gone below -/
def DB (x : Int32) (de : Nat) : Prop := (0 < de → x = nI de) ∧ (de = 0 → x ≤ 0)
theorem DB.sub {de p : Nat} (hd : de ≤ 198) (hp : p ≤ 238) : DB (nI de - nI p) (de - p) := by
  refine ⟨fun h => ?_, fun h => ?_⟩
  · exact pk_sub (by omega)
  · by_cases e : de = p
    · rw [e, pk_sub (Nat.le_refl p), Nat.sub_self]; decide
    · exact Int32.le_of_lt (pk_sneg (by omega) (by omega))
section EX
variable {sw : Bool} {ς : Lg} {m : Nat} {Bd N P : Nat → Nat}
theorem ext_C (hm : m ≤ 6) (hb : ∀ c, c < m → Bd c < 20 ∧ N c ≤ 119 ∧ P c ≤ 238) : ∀ (e d f g x ho le de : Nat) (xd : Int32) (q : Nat × Nat) (σ : Sg), d + e = 6 → e < f → g < 64 → ho < 20 → le ≤ 30 → de ≤ 198 → DB xd de → RR σ m Bd N P → σ 23 4 = nI q.1 → σ 23 5 = nI q.2 → q.1 ≤ 6 →
    ∃ σ', f_X9_extend f 23 (nI d) (nI g) (nI x) (nI ho) (nI le) xd (enc sw σ ς) = some (enc sw σ' ς) ∧ (∀ a, a ≠ 23 → σ' a = σ a) ∧ (∀ j, j ≠ 4 → j ≠ 5 → σ' 23 j = σ 23 j) ∧ σ' 23 4 = nI (vis m Bd N P e d g x ho le de q).1 ∧ σ' 23 5 = nI (vis m Bd N P e d g x ho le de q).2 := by
  intro e
  induction e with
  | zero =>
    intro d f g x ho le de xd q σ hd hf hg hho hle hde hdb hR h4 h5 hq
    obtain ⟨f, rfl⟩ : ∃ f', f = f' + 1 := ⟨f - 1, by omega⟩
    have t6 : (6 : Int32) ≤ nI d := nI_le (a := 6) (by omega) (by omega)
    rw [vis_0]
    show ∃ σ', F_X9_extend (f_X9_extend f) 23 (nI d) (nI g) (nI x) (nI ho) (nI le) xd (enc sw σ ς) = some (enc sw σ' ς) ∧ _
    unfold F_X9_extend f_X9_extend_18 upL
    rw [if_pos io_Ro, gi_Ro_4, Option.bind_some, h4]
    by_cases hlt : q.1 < d
    · rw [if_pos hlt, if_neg (nI_ge hlt (by omega)), pf_Ro_4, Option.bind_some, pf_Ro_5, Option.bind_some, if_pos t6]
      exact ⟨_, rfl, fun a ha => by rw [uA_n ha, uA_n ha], fun j z1 z2 => by rw [uA_s, uA_s, pk_un z2, pk_un z1], by rw [uA_s, uA_s, pk_un (by omega), pk_us], by rw [uA_s, pk_us]⟩
    · rw [if_neg hlt, if_pos (nI_le (by omega) (by omega)), if_pos t6]
      exact ⟨σ, rfl, fun _ _ => rfl, fun _ _ _ => rfl, h4, h5⟩
  | succ e ih =>
    intro d f g x ho le de xd q σ hd hf hg hho hle hde hdb hR h4 h5 hq
    obtain ⟨f, rfl⟩ : ∃ f', f = f' + 1 := ⟨f - 1, by omega⟩
    have t6 : ¬ (6 : Int32) ≤ nI d := nI_ge (b := 6) (by omega) (by omega)
    -- the children, from c on
    have kids : 0 < de → ∀ (k c h : Nat) (q : Nat × Nat) (σ : Sg), c + k = m → k < h → RR σ m Bd N P → σ 23 4 = nI q.1 → σ 23 5 = nI q.2 → q.1 ≤ 6 →
        ∃ σ', f_X9_extend_L33 (f_X9_extend f) h 23 (nI d) (nI g) (nI x) (nI ho) (nI le) (nI de) (nI c) (enc sw σ ς) = some (enc sw σ' ς) ∧ (∀ a, a ≠ 23 → σ' a = σ a) ∧ (∀ j, j ≠ 4 → j ≠ 5 → σ' 23 j = σ 23 j) ∧ σ' 23 4 = nI (kidsF (fun c q => vis m Bd N P e (d + 1) (g ||| 2 ^ c) (x * 10 + c + 1) (Bd c) (le - (dst (Bd c) ho + N c)) (de - P c) q) (opq Bd N g ho le) c k q).1 ∧ σ' 23 5 = nI (kidsF (fun c q => vis m Bd N P e (d + 1) (g ||| 2 ^ c) (x * 10 + c + 1) (Bd c) (le - (dst (Bd c) ho + N c)) (de - P c) q) (opq Bd N g ho le) c k q).2 := by
      intro hpos k
      induction k with
      | zero =>
        intro c h q σ hc hh hR h4 h5 hq
        obtain ⟨h, rfl⟩ : ∃ h', h = h' + 1 := ⟨h - 1, by omega⟩
        refine ⟨σ, ?_, fun _ _ => rfl, fun _ _ _ => rfl, h4, h5⟩
        show F_X9_extend_L33 (f_X9_extend f) (f_X9_extend_L33 (f_X9_extend f) h) 23 (nI d) (nI g) (nI x) (nI ho) (nI le) (nI de) (nI c) (enc sw σ ς) = _
        unfold F_X9_extend_L33
        rw [gi_Ro_3, Option.bind_some, hR.1, if_pos (nI_le (show m ≤ c by omega) (by omega))]
      | succ k ihk =>
        intro c h q σ hc hh hR h4 h5 hq
        obtain ⟨h, rfl⟩ : ∃ h', h = h' + 1 := ⟨h - 1, by omega⟩
        have hcm : c < m := by omega
        have hc6 : c < 6 := by omega
        obtain ⟨b1, b2, b3⟩ := hR.2 c hcm
        obtain ⟨u1, u2, u3⟩ := hb c hcm
        have habs : (if 0 ≤ nI (Bd c) - nI ho then nI (Bd c) - nI ho else 0 - (nI (Bd c) - nI ho)) = nI (dst (Bd c) ho) := abs_ok _ u1 _ hho
        have hdl : dst (Bd c) ho < 20 := by unfold dst; omega
        -- what the loop does when the child isn't gone to
        have skip : opq Bd N g ho le c = false → ∃ σ', f_X9_extend_L33 (f_X9_extend f) h 23 (nI d) (nI g) (nI x) (nI ho) (nI le) (nI de) (nI (c + 1)) (enc sw σ ς) = some (enc sw σ' ς) ∧ (∀ a, a ≠ 23 → σ' a = σ a) ∧ (∀ j, j ≠ 4 → j ≠ 5 → σ' 23 j = σ 23 j) ∧ σ' 23 4 = nI (kidsF (fun c q => vis m Bd N P e (d + 1) (g ||| 2 ^ c) (x * 10 + c + 1) (Bd c) (le - (dst (Bd c) ho + N c)) (de - P c) q) (opq Bd N g ho le) c (k + 1) q).1 ∧ σ' 23 5 = nI (kidsF (fun c q => vis m Bd N P e (d + 1) (g ||| 2 ^ c) (x * 10 + c + 1) (Bd c) (le - (dst (Bd c) ho + N c)) (de - P c) q) (opq Bd N g ho le) c (k + 1) q).2 := by
          intro hno
          rw [kidsF_s, hno, if_neg Bool.false_ne_true]
          exact ihk (c + 1) h q σ (by omega) (by omega) hR h4 h5 hq
        show ∃ σ', F_X9_extend_L33 (f_X9_extend f) (f_X9_extend_L33 (f_X9_extend f) h) 23 (nI d) (nI g) (nI x) (nI ho) (nI le) (nI de) (nI c) (enc sw σ ς) = some (enc sw σ' ς) ∧ _
        unfold F_X9_extend_L33 f_X9_extend_91 f_X9_extend_92
        rw [gi_Ro_3, Option.bind_some, hR.1, if_neg (nI_ge hcm (by omega)), gr_Ro_0, Option.bind_some, ai_24 hc6, Option.bind_some, b1, gr_Ro_1, Option.bind_some, ai_25 hc6, Option.bind_some, b2, Option.bind_some, ai_25 hc6, Option.bind_some, b2, habs, sub_sub_ok, bit_ok g hg c hc6, nI_1, nI_1, Option.bind_some, ai_24 hc6, Option.bind_some, b1, gr_Ro_2, Option.bind_some, ai_26 hc6, Option.bind_some, b3]
        by_cases hN : 0 < N c
        · rw [if_neg (nI_nle hN (by omega))]
          by_cases hbit : g.testBit c = true
          · rw [if_pos hbit, if_neg (by decide), if_pos rfl]
            exact skip (by unfold opq; simp [hbit])
          · rw [if_neg hbit, if_pos rfl, if_neg (by decide)]
            by_cases hfit : dst (Bd c) ho + N c ≤ le
            · have hop : opq Bd N g ho le c = true := by unfold opq; simp [hN, hbit, hfit]
              have hx : nI x * (10 : Int32) + nI c + (1 : Int32) = nI (x * 10 + c + 1) := by rw [show (10 : Int32) = nI 10 from rfl, pk_mul, nI_add, nI_1]
              obtain ⟨σa, y1, y2, y3, y4, y5⟩ := ih (d + 1) f (g ||| 2 ^ c) (x * 10 + c + 1) (Bd c) (le - (dst (Bd c) ho + N c)) (de - P c) (nI de - nI (P c)) q σ (by omega) (by omega) (or_lt hg hc6) u1 (by omega) (by omega) (DB.sub hde u3) hR h4 h5 hq
              obtain ⟨σ', z1, z2, z3, z4, z5⟩ := ihk (c + 1) h (vis m Bd N P e (d + 1) (g ||| 2 ^ c) (x * 10 + c + 1) (Bd c) (le - (dst (Bd c) ho + N c)) (de - P c) q) σa (by omega) (by omega) (hR.c (y3 3 (by omega) (by omega)) y2) y4 y5 (vis_le m Bd N P e _ _ _ _ _ _ q (by omega) hq)
              rw [if_neg (by rw [pk_sub hfit]; exact nI_pos (by omega)), pk_sub hfit, or_ok g hg c hc6, hx, y1, Option.bind_some, kidsF_s, if_pos hop]
              exact ⟨σ', z1, fun a ha => by rw [z2 a ha, y2 a ha], fun j j1 j2 => by rw [z3 j j1 j2, y3 j j1 j2], z4, z5⟩
            · rw [if_pos (pk_sneg (by omega) (by omega))]
              exact skip (by unfold opq; simp [hfit])
        · rw [if_pos (by rw [show N c = 0 by omega]; decide), if_pos rfl]
          exact skip (by unfold opq; simp [hN])
    -- a node
    have node : ∀ (q : Nat × Nat) (σ : Sg), RR σ m Bd N P → σ 23 4 = nI q.1 → σ 23 5 = nI q.2 → q.1 ≤ 6 → ∃ σ', f_X9_extend_18 (f_X9_extend f) 23 (nI d) (nI g) (nI x) (nI ho) (nI le) xd (enc sw σ ς) = some (enc sw σ' ς) ∧ (∀ a, a ≠ 23 → σ' a = σ a) ∧ (∀ j, j ≠ 4 → j ≠ 5 → σ' 23 j = σ 23 j) ∧ σ' 23 4 = nI (if de = 0 then q else kidsF (fun c q => vis m Bd N P e (d + 1) (g ||| 2 ^ c) (x * 10 + c + 1) (Bd c) (le - (dst (Bd c) ho + N c)) (de - P c) q) (opq Bd N g ho le) 0 m q).1 ∧ σ' 23 5 = nI (if de = 0 then q else kidsF (fun c q => vis m Bd N P e (d + 1) (g ||| 2 ^ c) (x * 10 + c + 1) (Bd c) (le - (dst (Bd c) ho + N c)) (de - P c) q) (opq Bd N g ho le) 0 m q).2 := by
      intro q σ hR h4 h5 hq
      unfold f_X9_extend_18
      rw [if_neg t6]
      by_cases hz : de = 0
      · rw [if_neg (Int32.not_lt.mpr (hdb.2 hz)), if_pos hz]
        exact ⟨σ, rfl, fun _ _ => rfl, fun _ _ _ => rfl, h4, h5⟩
      · have hrun : ∀ h, 6 < h → ∃ σ', f_X9_extend_L33 (f_X9_extend f) h 23 (nI d) (nI g) (nI x) (nI ho) (nI le) (nI de) (0 : Int32) (enc sw σ ς) = some (enc sw σ' ς) ∧ (∀ a, a ≠ 23 → σ' a = σ a) ∧ (∀ j, j ≠ 4 → j ≠ 5 → σ' 23 j = σ 23 j) ∧ σ' 23 4 = nI (kidsF (fun c q => vis m Bd N P e (d + 1) (g ||| 2 ^ c) (x * 10 + c + 1) (Bd c) (le - (dst (Bd c) ho + N c)) (de - P c) q) (opq Bd N g ho le) 0 m q).1 ∧ σ' 23 5 = nI (kidsF (fun c q => vis m Bd N P e (d + 1) (g ||| 2 ^ c) (x * 10 + c + 1) (Bd c) (le - (dst (Bd c) ho + N c)) (de - P c) q) (opq Bd N g ho le) 0 m q).2 := fun h hh => kids (by omega) m 0 h q σ (by omega) (by omega) hR h4 h5 hq
        obtain ⟨σ', y1, y2⟩ := hrun 1000000 (by omega)
        have hxd := hdb.1 (by omega)
        rw [hxd, if_pos (nI_0lt (by omega) (by omega)), y1, Option.bind_some, if_neg hz]
        exact ⟨σ', rfl, y2⟩
    rw [vis_s]
    show ∃ σ', F_X9_extend (f_X9_extend f) 23 (nI d) (nI g) (nI x) (nI ho) (nI le) xd (enc sw σ ς) = some (enc sw σ' ς) ∧ _
    unfold F_X9_extend upL
    rw [if_pos io_Ro, gi_Ro_4, Option.bind_some, h4]
    by_cases hlt : q.1 < d
    · rw [if_pos hlt, if_neg (nI_ge hlt (by omega)), pf_Ro_4, Option.bind_some, pf_Ro_5, Option.bind_some]
      obtain ⟨σ', y1, y2, y3, y4, y5⟩ := node (d, x) (uA (uA σ 23 (upd (σ 23) 4 (nI d))) 23 (upd (uA σ 23 (upd (σ 23) 4 (nI d)) 23) 5 (nI x))) (hR.c (by rw [uA_s, uA_s, pk_un (by omega), pk_un (by omega)]) (fun a ha => by rw [uA_n ha, uA_n ha])) (by rw [uA_s, uA_s, pk_un (by omega), pk_us]) (by rw [uA_s, pk_us]) (by show d ≤ 6; omega)
      exact ⟨σ', y1, fun a ha => by rw [y2 a ha, uA_n ha, uA_n ha], fun j j1 j2 => by rw [y3 j j1 j2, uA_s, uA_s, pk_un j2, pk_un j1], y4, y5⟩
    · rw [if_neg hlt, if_pos (nI_le (by omega) (by omega))]
      exact node q σ hR h4 h5 hq
end EX
