/-! an evening ends -/
def zAge (y : Bool) (V : Nat → Int32) (s : Nat) : Int32 := if y = true then nI (min 99 (nV V s + 1)) else V s
/-- who is of fifty and owes, one singer behind the other -/
def oldR (y : Bool) (V : Nat → Int32) : Nat → Nat → Nat → Nat
  | w, _, 0 => w
  | w, i, d + 1 => oldR y V (if y = true ∧ nV V i = 49 ∧ 0 < nV V (6 + i) then w ||| 2 ^ i else w) (i + 1) d
theorem or_ok : ∀ w, w < 64 → ∀ c, c < 6 → nI w ||| ((1 : Int32) <<< (nI c &&& 31)) = nI (w ||| 2 ^ c) := by decide +kernel
theorem or_lt {w c : Nat} (hw : w < 64) (hc : c < 6) : w ||| 2 ^ c < 64 := Nat.or_lt_two_pow (n := 6) hw (Nat.pow_lt_pow_right (by omega) hc)
theorem oldR_lt (y : Bool) (V : Nat → Int32) : ∀ d w i, w < 64 → i + d ≤ 6 → oldR y V w i d < 64
  | 0, w, i, hw, _ => hw
  | d + 1, w, i, hw, hi => by
    unfold oldR
    refine oldR_lt y V d _ _ ?_ (by omega)
    split
    · exact or_lt hw (by omega)
    · exact hw
def zYr (V : Nat → Int32) : Bool := decide ((nV V 50 + 1) % 4 = 0)
def tEnd (V ho : Nat → Int32) (D n m : Nat) : Nat → Int32 := fun q =>
  if 12 ≤ q ∧ q < 12 + n then ho (q - 12) else if 18 ≤ q ∧ q < 18 + n then nI D else if q < n then zAge (zYr V) V q
  else if q = 49 then nI (oldR (zYr V) V (nV V 49) 0 n) else if q = 50 then nI (nV V 50 + 1) else if 30 ≤ q ∧ q < 30 + m then 0 else if 36 ≤ q ∧ q < 36 + m then 0 else V q
theorem age_ok {a : Nat} (ha : a ≤ 99) : (if nI (a + 1) < (99 : Int32) then nI (a + 1) else (99 : Int32)) = nI (min 99 (a + 1)) := min_C (a := 99) (by omega) (by omega)
section TE
variable {V ho : Nat → Int32} {D n m s c : Nat}
theorem tEnd_age (hn : n ≤ 6) (hs : s < n) : tEnd V ho D n m s = zAge (zYr V) V s := by unfold tEnd; rw [if_neg (by omega), if_neg (by omega), if_pos hs]
theorem tEnd_debt (hn : n ≤ 6) (hs : s < n) : tEnd V ho D n m (6 + s) = V (6 + s) := by unfold tEnd; rw [if_neg (by omega), if_neg (by omega), if_neg (by omega), if_neg (by omega), if_neg (by omega), if_neg (by omega), if_neg (by omega)]
theorem tEnd_at (hs : s < n) : tEnd V ho D n m (12 + s) = ho s := by unfold tEnd; rw [if_pos (by omega), show 12 + s - 12 = s by omega]
theorem tEnd_left (hn : n ≤ 6) (hs : s < n) : tEnd V ho D n m (18 + s) = nI D := by unfold tEnd; rw [if_neg (by omega), if_pos (by omega)]
theorem tEnd_lies (hn : n ≤ 6) (hm : m ≤ 6) (hc : c < m) : tEnd V ho D n m (24 + c) = V (24 + c) := by unfold tEnd; rw [if_neg (by omega), if_neg (by omega), if_neg (by omega), if_neg (by omega), if_neg (by omega), if_neg (by omega), if_neg (by omega)]
theorem tEnd_aw (hn : n ≤ 6) (hm : m ≤ 6) (hc : c < m) : tEnd V ho D n m (30 + c) = 0 := by unfold tEnd; rw [if_neg (by omega), if_neg (by omega), if_neg (by omega), if_neg (by omega), if_neg (by omega), if_pos (by omega)]
theorem tEnd_heard (hn : n ≤ 6) (hm : m ≤ 6) (hc : c < m) : tEnd V ho D n m (36 + c) = 0 := by unfold tEnd; rw [if_neg (by omega), if_neg (by omega), if_neg (by omega), if_neg (by omega), if_neg (by omega), if_neg (by omega), if_pos (by omega)]
theorem tEnd_sung (hn : n ≤ 6) (hm : m ≤ 6) (hc : c < m) : tEnd V ho D n m (42 + c) = V (42 + c) := by unfold tEnd; rw [if_neg (by omega), if_neg (by omega), if_neg (by omega), if_neg (by omega), if_neg (by omega), if_neg (by omega), if_neg (by omega)]
theorem tEnd_late (hn : n ≤ 6) (hm : m ≤ 6) : tEnd V ho D n m 48 = V 48 := by unfold tEnd; rw [if_neg (by omega), if_neg (by omega), if_neg (by omega), if_neg (by omega), if_neg (by omega), if_neg (by omega), if_neg (by omega)]
theorem tEnd_old (hn : n ≤ 6) (hm : m ≤ 6) : tEnd V ho D n m 49 = nI (oldR (zYr V) V (nV V 49) 0 n) := by unfold tEnd; rw [if_neg (by omega), if_neg (by omega), if_neg (by omega), if_pos rfl]
theorem tEnd_ev (hn : n ≤ 6) (hm : m ≤ 6) : tEnd V ho D n m 50 = nI (nV V 50 + 1) := by unfold tEnd; rw [if_neg (by omega), if_neg (by omega), if_neg (by omega), if_neg (by omega), if_pos rfl]
theorem zAge_ok {H : Nat} {kd sl : Nat → Int32} (h : NB n m H kd sl V) (y : Bool) (hs : s < n) : ∃ a, zAge y V s = nI a ∧ a ≤ 99 := by
  unfold zAge
  split
  · exact ⟨_, rfl, by omega⟩
  · exact ⟨_, h.age hs⟩
theorem NB.end_ {H : Nat} {kd sl : Nat → Int32} (h : NB n m H kd sl V) (hn : n ≤ 6) (hm : m ≤ 6) (hH : H ≤ 20) (hD : D ≤ 30) (hho : ∀ s, s < n → ∃ v, ho s = nI v ∧ v < H) (he : nV V 50 + 1 ≤ 20000) : NB n m H kd sl (tEnd V ho D n m) := by
  refine NB.intro (fun j hj => ?_) (fun j hj => ?_) (fun j hj => ?_) (fun j hj => ?_) (fun j hj => ?_) (fun j hj => ?_) (fun j hj => ?_) (fun j hj => ⟨_, h.kind hj⟩) (fun j hj => ⟨_, h.slow hj⟩) (fun j hj h0 => ?_) ?_ ?_ ?_
  · rw [tEnd_age hn hj]; exact zAge_ok h _ hj
  · rw [tEnd_debt hn hj]; exact ⟨_, h.debt hj⟩
  · rw [tEnd_at hj]; exact hho j hj
  · rw [tEnd_left hn hj]; exact ⟨_, rfl, hD⟩
  · rw [tEnd_lies hn hm hj]; exact ⟨_, h.lies hj hH⟩
  · rw [tEnd_heard hn hm hj]; exact ⟨0, rfl, by omega⟩
  · rw [tEnd_sung hn hm hj]; exact ⟨_, h.sung hj⟩
  · rw [show nV (tEnd V ho D n m) (36 + j) = 0 from nV_of (tEnd_heard hn hm hj) (by omega)]
    exact tot_pos (h.slow hj).2.1
  · rw [tEnd_ev hn hm]; exact ⟨_, rfl, he⟩
  · rw [tEnd_old hn hm]; exact ⟨_, rfl, oldR_lt _ _ _ _ _ h.old.2 (by omega)⟩
  · rw [tEnd_late hn hm]; exact ⟨_, h.late⟩
end TE
section EC
variable {sw : Bool} {ς : Lg}
theorem begin_L2 {n D : Nat} (hn6 : n ≤ 6) : ∀ (d i f : Nat) (σ : Sg), i + d = n → d < f → σ (rA sw) 9 = nI n → σ (rA sw) 8 = nI D →
    ∃ σ', f_X3_beginEvening_L2 f 3 (nI i) (enc sw σ ς) = some (enc sw σ' ς) ∧ (∀ a, a ≠ 7 → a ≠ 8 → σ' a = σ a) ∧ (∀ j, σ' 7 j = if i ≤ j ∧ j < n then σ (rA sw + 4) j else σ 7 j) ∧ (∀ j, σ' 8 j = if i ≤ j ∧ j < n then nI D else σ 8 j) := by
  have hra := rA_or sw
  intro d
  induction d with
  | zero =>
    intro i f σ hi hf h9 h8
    obtain ⟨f, rfl⟩ : ∃ f', f = f' + 1 := ⟨f - 1, by omega⟩
    refine ⟨σ, ?_, fun _ _ _ => rfl, fun j => ?_, fun j => ?_⟩
    · show F_X3_beginEvening_L2 (f_X3_beginEvening_L2 f) 3 (nI i) (enc sw σ ς) = _
      simp only [F_X3_beginEvening_L2, if_true, ite_true, reduceIte, Option.bind_some, Option.bind_none, bT1_some, io_LD, io_Rd, io_Mt, io_Nt, io_Pl, io_Ro, io_Pa, io_Te, io_Bo, io_Ia, io_Ib, io_Mo, io_Ra, io_Rb, gr_LD_0, gr_LD_1, gr_LD_2, gr_LD_3, gr_LD_4, gr_LD_5, gr_LD_6, gr_LD_7, gr_LD_8, gr_Rd_0, gr_Mt_0, gr_Mt_1, gr_Nt_0, gr_Nt_1, gr_Nt_2, gr_Nt_3, gr_Nt_4, gr_Nt_5, gr_Nt_6, gr_Pl_0, gr_Pl_1, gr_Ro_0, gr_Ro_1, gr_Ro_2, gr_Pa_0, gr_Te_0, gr_Te_1, gr_Bo_0, gr_Bo_1, gr_Ia_0, gr_Ib_0, gr_Mo_0, gr_Mo_7, gr_Mo_8, gr_Mo_9, gr_Mo_10, gr_Mo_11, gr_Mo_12, gr_Mo_15, gr_Mo_16, gr_Mo_17, gr_Mo_18, gr_Mo_20, gr_Mo_28, gr_Mo_29, gr_Mo_32, gr_Mo_33, gr_Mo_34, gr_Mo_35, gr_Mo_36, gr_Mo_37, gr_Ra_0, gr_Ra_1, gr_Ra_2, gr_Ra_3, gr_Ra_4, gr_Ra_5, gr_Ra_6, gr_Rb_0, gr_Rb_1, gr_Rb_2, gr_Rb_3, gr_Rb_4, gr_Rb_5, gr_Rb_6, gi_LD_9, gi_Rd_1, gi_Rd_2, gi_Rd_3, gi_Rd_4, gi_Nt_7, gi_Nt_8, gi_Nt_9, gi_Nt_10, gi_Pl_2, gi_Pl_3, gi_Ro_3, gi_Ro_4, gi_Ro_5, gi_Pa_1, gi_Pa_2, gi_Te_2, gi_Bo_2, gi_Ia_1, gi_Ia_2, gi_Ib_1, gi_Ib_2, gi_Mo_1, gi_Mo_2, gi_Mo_3, gi_Mo_4, gi_Mo_5, gi_Mo_6, gi_Mo_13, gl_Mo_14, gi_Mo_19, gi_Mo_21, gi_Mo_22, gi_Mo_23, gi_Mo_24, gi_Mo_25, gi_Mo_26, gi_Mo_27, gi_Mo_30, gi_Mo_31, gi_Ra_7, gi_Ra_8, gi_Ra_9, gi_Ra_10, gi_Rb_7, gi_Rb_8, gi_Rb_9, gi_Rb_10, h9, if_pos (nI_le (show n ≤ i by omega) (by omega))]
    · rw [if_neg (by omega)]
    · rw [if_neg (by omega)]
  | succ d ih =>
    intro i f σ hi hf h9 h8
    obtain ⟨f, rfl⟩ : ∃ f', f = f' + 1 := ⟨f - 1, by omega⟩
    have l1 : i < 6 := by omega
    obtain ⟨σ', g1, g2, g3, g4⟩ := ih (i + 1) f (uA (uA σ 7 (upd (σ 7) i (σ (rA sw + 4) i))) 8 (upd (σ 8) i (nI D))) (by omega) (by omega) (by rw [uA_n (by omega), uA_n (by omega)]; exact h9) (by rw [uA_n (by omega), uA_n (by omega)]; exact h8)
    have hng : ¬ nI n ≤ nI i := nI_ge (by omega) (by omega)
    have hr7 : rA sw ≠ 7 := by omega
    have h87 : 8 ≠ 7 := by omega
    refine ⟨σ', ?_, fun a h1 h2 => ?_, fun j => ?_, fun j => ?_⟩
    · show F_X3_beginEvening_L2 (f_X3_beginEvening_L2 f) 3 (nI i) (enc sw σ ς) = _
      simp only [F_X3_beginEvening_L2, if_true, ite_true, reduceIte, Option.bind_some, Option.bind_none, bT1_some, io_LD, io_Rd, io_Mt, io_Nt, io_Pl, io_Ro, io_Pa, io_Te, io_Bo, io_Ia, io_Ib, io_Mo, io_Ra, io_Rb, gr_LD_0, gr_LD_1, gr_LD_2, gr_LD_3, gr_LD_4, gr_LD_5, gr_LD_6, gr_LD_7, gr_LD_8, gr_Rd_0, gr_Mt_0, gr_Mt_1, gr_Nt_0, gr_Nt_1, gr_Nt_2, gr_Nt_3, gr_Nt_4, gr_Nt_5, gr_Nt_6, gr_Pl_0, gr_Pl_1, gr_Ro_0, gr_Ro_1, gr_Ro_2, gr_Pa_0, gr_Te_0, gr_Te_1, gr_Bo_0, gr_Bo_1, gr_Ia_0, gr_Ib_0, gr_Mo_0, gr_Mo_7, gr_Mo_8, gr_Mo_9, gr_Mo_10, gr_Mo_11, gr_Mo_12, gr_Mo_15, gr_Mo_16, gr_Mo_17, gr_Mo_18, gr_Mo_20, gr_Mo_28, gr_Mo_29, gr_Mo_32, gr_Mo_33, gr_Mo_34, gr_Mo_35, gr_Mo_36, gr_Mo_37, gr_Ra_0, gr_Ra_1, gr_Ra_2, gr_Ra_3, gr_Ra_4, gr_Ra_5, gr_Ra_6, gr_Rb_0, gr_Rb_1, gr_Rb_2, gr_Rb_3, gr_Rb_4, gr_Rb_5, gr_Rb_6, gi_LD_9, gi_Rd_1, gi_Rd_2, gi_Rd_3, gi_Rd_4, gi_Nt_7, gi_Nt_8, gi_Nt_9, gi_Nt_10, gi_Pl_2, gi_Pl_3, gi_Ro_3, gi_Ro_4, gi_Ro_5, gi_Pa_1, gi_Pa_2, gi_Te_2, gi_Bo_2, gi_Ia_1, gi_Ia_2, gi_Ib_1, gi_Ib_2, gi_Mo_1, gi_Mo_2, gi_Mo_3, gi_Mo_4, gi_Mo_5, gi_Mo_6, gi_Mo_13, gl_Mo_14, gi_Mo_19, gi_Mo_21, gi_Mo_22, gi_Mo_23, gi_Mo_24, gi_Mo_25, gi_Mo_26, gi_Mo_27, gi_Mo_30, gi_Mo_31, gi_Ra_7, gi_Ra_8, gi_Ra_9, gi_Ra_10, gi_Rb_7, gi_Rb_8, gi_Rb_9, gi_Rb_10, h9, hng, if_false, ai_Ra_3 l1, aw_7 l1, uA_n hr7, h8, aw_8 l1, uA_n h87, nI_1]
      exact g1
    · rw [g2 a h1 h2, uA_n h2, uA_n h1]
    · rw [g3 j, uA_n (by omega), uA_n (by omega), uA_n (by omega), uA_s]
      by_cases z : i + 1 ≤ j ∧ j < n
      · rw [if_pos z, if_pos (by omega)]
      · rw [if_neg z]
        by_cases z2 : j = i
        · subst z2; rw [pk_us, if_pos (by omega)]
        · rw [pk_un z2, if_neg (by omega)]
    · rw [g4 j, uA_s]
      by_cases z : i + 1 ≤ j ∧ j < n
      · rw [if_pos z, if_pos (by omega)]
      · rw [if_neg z]
        by_cases z2 : j = i
        · subst z2; rw [pk_us, if_pos (by omega)]
        · rw [pk_un z2, if_neg (by omega)]
theorem begin_L73 {m : Nat} (hm6 : m ≤ 6) : ∀ (d i f : Nat) (σ : Sg), i + d = m → d < f → σ (rA sw) 10 = nI m →
    ∃ σ', f_X3_beginEvening_L73 f 3 (nI i) (enc sw σ ς) = some (enc sw σ' ς) ∧ (∀ a, a ≠ 10 → σ' a = σ a) ∧ (∀ j, σ' 10 j = if i ≤ j ∧ j < m then 0 else σ 10 j) := by
  have hra := rA_or sw
  intro d
  induction d with
  | zero =>
    intro i f σ hi hf h9
    obtain ⟨f, rfl⟩ : ∃ f', f = f' + 1 := ⟨f - 1, by omega⟩
    refine ⟨σ, ?_, fun _ _ => rfl, fun j => ?_⟩
    · show F_X3_beginEvening_L73 (f_X3_beginEvening_L73 f) 3 (nI i) (enc sw σ ς) = _
      simp only [F_X3_beginEvening_L73, if_true, ite_true, reduceIte, Option.bind_some, Option.bind_none, bT1_some, io_LD, io_Rd, io_Mt, io_Nt, io_Pl, io_Ro, io_Pa, io_Te, io_Bo, io_Ia, io_Ib, io_Mo, io_Ra, io_Rb, gr_LD_0, gr_LD_1, gr_LD_2, gr_LD_3, gr_LD_4, gr_LD_5, gr_LD_6, gr_LD_7, gr_LD_8, gr_Rd_0, gr_Mt_0, gr_Mt_1, gr_Nt_0, gr_Nt_1, gr_Nt_2, gr_Nt_3, gr_Nt_4, gr_Nt_5, gr_Nt_6, gr_Pl_0, gr_Pl_1, gr_Ro_0, gr_Ro_1, gr_Ro_2, gr_Pa_0, gr_Te_0, gr_Te_1, gr_Bo_0, gr_Bo_1, gr_Ia_0, gr_Ib_0, gr_Mo_0, gr_Mo_7, gr_Mo_8, gr_Mo_9, gr_Mo_10, gr_Mo_11, gr_Mo_12, gr_Mo_15, gr_Mo_16, gr_Mo_17, gr_Mo_18, gr_Mo_20, gr_Mo_28, gr_Mo_29, gr_Mo_32, gr_Mo_33, gr_Mo_34, gr_Mo_35, gr_Mo_36, gr_Mo_37, gr_Ra_0, gr_Ra_1, gr_Ra_2, gr_Ra_3, gr_Ra_4, gr_Ra_5, gr_Ra_6, gr_Rb_0, gr_Rb_1, gr_Rb_2, gr_Rb_3, gr_Rb_4, gr_Rb_5, gr_Rb_6, gi_LD_9, gi_Rd_1, gi_Rd_2, gi_Rd_3, gi_Rd_4, gi_Nt_7, gi_Nt_8, gi_Nt_9, gi_Nt_10, gi_Pl_2, gi_Pl_3, gi_Ro_3, gi_Ro_4, gi_Ro_5, gi_Pa_1, gi_Pa_2, gi_Te_2, gi_Bo_2, gi_Ia_1, gi_Ia_2, gi_Ib_1, gi_Ib_2, gi_Mo_1, gi_Mo_2, gi_Mo_3, gi_Mo_4, gi_Mo_5, gi_Mo_6, gi_Mo_13, gl_Mo_14, gi_Mo_19, gi_Mo_21, gi_Mo_22, gi_Mo_23, gi_Mo_24, gi_Mo_25, gi_Mo_26, gi_Mo_27, gi_Mo_30, gi_Mo_31, gi_Ra_7, gi_Ra_8, gi_Ra_9, gi_Ra_10, gi_Rb_7, gi_Rb_8, gi_Rb_9, gi_Rb_10, h9, if_pos (nI_le (show m ≤ i by omega) (by omega))]
    · rw [if_neg (by omega)]
  | succ d ih =>
    intro i f σ hi hf h9
    obtain ⟨f, rfl⟩ : ∃ f', f = f' + 1 := ⟨f - 1, by omega⟩
    have l1 : i < 6 := by omega
    obtain ⟨σ', g1, g2, g3⟩ := ih (i + 1) f (uA σ 10 (upd (σ 10) i 0)) (by omega) (by omega) (by rw [uA_n (by omega)]; exact h9)
    have hng : ¬ nI m ≤ nI i := nI_ge (by omega) (by omega)
    refine ⟨σ', ?_, fun a h1 => ?_, fun j => ?_⟩
    · show F_X3_beginEvening_L73 (f_X3_beginEvening_L73 f) 3 (nI i) (enc sw σ ς) = _
      simp only [F_X3_beginEvening_L73, if_true, ite_true, reduceIte, Option.bind_some, Option.bind_none, bT1_some, io_LD, io_Rd, io_Mt, io_Nt, io_Pl, io_Ro, io_Pa, io_Te, io_Bo, io_Ia, io_Ib, io_Mo, io_Ra, io_Rb, gr_LD_0, gr_LD_1, gr_LD_2, gr_LD_3, gr_LD_4, gr_LD_5, gr_LD_6, gr_LD_7, gr_LD_8, gr_Rd_0, gr_Mt_0, gr_Mt_1, gr_Nt_0, gr_Nt_1, gr_Nt_2, gr_Nt_3, gr_Nt_4, gr_Nt_5, gr_Nt_6, gr_Pl_0, gr_Pl_1, gr_Ro_0, gr_Ro_1, gr_Ro_2, gr_Pa_0, gr_Te_0, gr_Te_1, gr_Bo_0, gr_Bo_1, gr_Ia_0, gr_Ib_0, gr_Mo_0, gr_Mo_7, gr_Mo_8, gr_Mo_9, gr_Mo_10, gr_Mo_11, gr_Mo_12, gr_Mo_15, gr_Mo_16, gr_Mo_17, gr_Mo_18, gr_Mo_20, gr_Mo_28, gr_Mo_29, gr_Mo_32, gr_Mo_33, gr_Mo_34, gr_Mo_35, gr_Mo_36, gr_Mo_37, gr_Ra_0, gr_Ra_1, gr_Ra_2, gr_Ra_3, gr_Ra_4, gr_Ra_5, gr_Ra_6, gr_Rb_0, gr_Rb_1, gr_Rb_2, gr_Rb_3, gr_Rb_4, gr_Rb_5, gr_Rb_6, gi_LD_9, gi_Rd_1, gi_Rd_2, gi_Rd_3, gi_Rd_4, gi_Nt_7, gi_Nt_8, gi_Nt_9, gi_Nt_10, gi_Pl_2, gi_Pl_3, gi_Ro_3, gi_Ro_4, gi_Ro_5, gi_Pa_1, gi_Pa_2, gi_Te_2, gi_Bo_2, gi_Ia_1, gi_Ia_2, gi_Ib_1, gi_Ib_2, gi_Mo_1, gi_Mo_2, gi_Mo_3, gi_Mo_4, gi_Mo_5, gi_Mo_6, gi_Mo_13, gl_Mo_14, gi_Mo_19, gi_Mo_21, gi_Mo_22, gi_Mo_23, gi_Mo_24, gi_Mo_25, gi_Mo_26, gi_Mo_27, gi_Mo_30, gi_Mo_31, gi_Ra_7, gi_Ra_8, gi_Ra_9, gi_Ra_10, gi_Rb_7, gi_Rb_8, gi_Rb_9, gi_Rb_10, h9, hng, if_false, aw_10 l1, nI_1]
      exact g1
    · rw [g2 a h1, uA_n h1]
    · rw [g3 j, uA_s]
      by_cases z : i + 1 ≤ j ∧ j < m
      · rw [if_pos z, if_pos (by omega)]
      · rw [if_neg z]
        by_cases z2 : j = i
        · subst z2; rw [pk_us, if_pos (by omega)]
        · rw [pk_un z2, if_neg (by omega)]
theorem year_L2 {n : Nat} {V : Nat → Int32} (hn6 : n ≤ 6) (hV : ∀ s, s < n → (V s = nI (nV V s) ∧ nV V s ≤ 99) ∧ (V (6 + s) = nI (nV V (6 + s)) ∧ nV V (6 + s) ≤ 198)) : ∀ (d i f w : Nat) (σ : Sg), i + d = n → d < f → σ (rA sw) 9 = nI n → σ 4 9 = nI w → w < 64 → (∀ s, i ≤ s → s < n → σ 5 s = V s ∧ σ 6 s = V (6 + s)) →
    ∃ σ', f_X3_addYear_L2 f 3 (nI i) (enc sw σ ς) = some (enc sw σ' ς) ∧ (∀ a, a ≠ 4 → a ≠ 5 → σ' a = σ a) ∧ (∀ j, σ' 5 j = if i ≤ j ∧ j < n then zAge true V j else σ 5 j) ∧ (∀ j, j ≠ 9 → σ' 4 j = σ 4 j) ∧ σ' 4 9 = nI (oldR true V w i d) := by
  have hra := rA_or sw
  intro d
  induction d with
  | zero =>
    intro i f w σ hi hf h9 hw hw6 hs
    obtain ⟨f, rfl⟩ : ∃ f', f = f' + 1 := ⟨f - 1, by omega⟩
    refine ⟨σ, ?_, fun _ _ _ => rfl, fun j => ?_, fun _ _ => rfl, hw⟩
    · show F_X3_addYear_L2 (f_X3_addYear_L2 f) 3 (nI i) (enc sw σ ς) = _
      simp only [F_X3_addYear_L2, if_true, ite_true, reduceIte, Option.bind_some, Option.bind_none, bT1_some, io_LD, io_Rd, io_Mt, io_Nt, io_Pl, io_Ro, io_Pa, io_Te, io_Bo, io_Ia, io_Ib, io_Mo, io_Ra, io_Rb, gr_LD_0, gr_LD_1, gr_LD_2, gr_LD_3, gr_LD_4, gr_LD_5, gr_LD_6, gr_LD_7, gr_LD_8, gr_Rd_0, gr_Mt_0, gr_Mt_1, gr_Nt_0, gr_Nt_1, gr_Nt_2, gr_Nt_3, gr_Nt_4, gr_Nt_5, gr_Nt_6, gr_Pl_0, gr_Pl_1, gr_Ro_0, gr_Ro_1, gr_Ro_2, gr_Pa_0, gr_Te_0, gr_Te_1, gr_Bo_0, gr_Bo_1, gr_Ia_0, gr_Ib_0, gr_Mo_0, gr_Mo_7, gr_Mo_8, gr_Mo_9, gr_Mo_10, gr_Mo_11, gr_Mo_12, gr_Mo_15, gr_Mo_16, gr_Mo_17, gr_Mo_18, gr_Mo_20, gr_Mo_28, gr_Mo_29, gr_Mo_32, gr_Mo_33, gr_Mo_34, gr_Mo_35, gr_Mo_36, gr_Mo_37, gr_Ra_0, gr_Ra_1, gr_Ra_2, gr_Ra_3, gr_Ra_4, gr_Ra_5, gr_Ra_6, gr_Rb_0, gr_Rb_1, gr_Rb_2, gr_Rb_3, gr_Rb_4, gr_Rb_5, gr_Rb_6, gi_LD_9, gi_Rd_1, gi_Rd_2, gi_Rd_3, gi_Rd_4, gi_Nt_7, gi_Nt_8, gi_Nt_9, gi_Nt_10, gi_Pl_2, gi_Pl_3, gi_Ro_3, gi_Ro_4, gi_Ro_5, gi_Pa_1, gi_Pa_2, gi_Te_2, gi_Bo_2, gi_Ia_1, gi_Ia_2, gi_Ib_1, gi_Ib_2, gi_Mo_1, gi_Mo_2, gi_Mo_3, gi_Mo_4, gi_Mo_5, gi_Mo_6, gi_Mo_13, gl_Mo_14, gi_Mo_19, gi_Mo_21, gi_Mo_22, gi_Mo_23, gi_Mo_24, gi_Mo_25, gi_Mo_26, gi_Mo_27, gi_Mo_30, gi_Mo_31, gi_Ra_7, gi_Ra_8, gi_Ra_9, gi_Ra_10, gi_Rb_7, gi_Rb_8, gi_Rb_9, gi_Rb_10, h9, if_pos (nI_le (show n ≤ i by omega) (by omega))]
    · rw [if_neg (by omega)]
  | succ d ih =>
    intro i f w σ hi hf h9 hw hw6 hs
    obtain ⟨f, rfl⟩ : ∃ f', f = f' + 1 := ⟨f - 1, by omega⟩
    have l1 : i < 6 := by omega
    have hng : ¬ nI n ≤ nI i := nI_ge (by omega) (by omega)
    obtain ⟨⟨va, va9⟩, ⟨vd, vd9⟩⟩ := hV i (by omega)
    obtain ⟨s5, s6⟩ := hs i (by omega) (by omega)
    rw [va] at s5
    rw [vd] at s6
    have h65 : 6 ≠ 5 := by omega
    have h45 : 4 ≠ 5 := by omega
    have hzA : zAge true V i = nI (min 99 (nV V i + 1)) := by unfold zAge; rw [if_pos rfl]
    have fin : ∀ (W : Nat → Int32) (w' : Nat), w' < 64 → (∀ j, j ≠ 9 → W j = σ 4 j) → W 9 = nI w' → w' = (if true = true ∧ nV V i = 49 ∧ 0 < nV V (6 + i) then w ||| 2 ^ i else w) →
        ∃ σ', f_X3_addYear_L2 f 3 (nI (i + 1)) (enc sw (uA (uA σ 5 (upd (σ 5) i (nI (min 99 (nV V i + 1))))) 4 W) ς) = some (enc sw σ' ς) ∧ (∀ a, a ≠ 4 → a ≠ 5 → σ' a = σ a) ∧ (∀ j, σ' 5 j = if i ≤ j ∧ j < n then zAge true V j else σ 5 j) ∧ (∀ j, j ≠ 9 → σ' 4 j = σ 4 j) ∧ σ' 4 9 = nI (oldR true V w i (d + 1)) := by
      intro W w' hw' hW hW9 e
      obtain ⟨σ', g1, g2, g3, g4, g5⟩ := ih (i + 1) f w' (uA (uA σ 5 (upd (σ 5) i (nI (min 99 (nV V i + 1))))) 4 W) (by omega) (by omega) (by rw [uA_n (by omega), uA_n (by omega)]; exact h9) (by rw [uA_s]; exact hW9) hw'
        (fun s z1 z2 => by rw [uA_n (by omega), uA_s, pk_un (by omega), uA_n (by omega), uA_n (by omega)]; exact hs s (by omega) z2)
      refine ⟨σ', g1, fun a z1 z2 => ?_, fun j => ?_, fun j hj => ?_, ?_⟩
      · rw [g2 a z1 z2, uA_n z1, uA_n z2]
      · rw [g3 j, uA_n (by omega), uA_s]
        by_cases z : i + 1 ≤ j ∧ j < n
        · rw [if_pos z, if_pos (by omega)]
        · rw [if_neg z]
          by_cases z2 : j = i
          · subst z2; rw [pk_us, if_pos (by omega), hzA]
          · rw [pk_un z2, if_neg (by omega)]
      · rw [g4 j hj, uA_s]; exact hW j hj
      · rw [g5, e]; rfl
    have step : ∀ r, (if (nI (min 99 (nV V i + 1)) = (50 : Int32)) then (if nI (nV V (6 + i)) ≤ 0 then f_X3_addYear_L2 f 3 (nI (i + 1)) (enc sw (uA σ 5 (upd (σ 5) i (nI (min 99 (nV V i + 1))))) ς) else f_X3_addYear_L2 f 3 (nI (i + 1)) (enc sw (uA (uA σ 5 (upd (σ 5) i (nI (min 99 (nV V i + 1))))) 4 (upd (σ 4) 9 (nI w ||| ((1 : Int32) <<< (nI i &&& 31))))) ς)) else f_X3_addYear_L2 f 3 (nI (i + 1)) (enc sw (uA σ 5 (upd (σ 5) i (nI (min 99 (nV V i + 1))))) ς)) = r → F_X3_addYear_L2 (f_X3_addYear_L2 f) 3 (nI i) (enc sw σ ς) = r := by
      intro r hr
      simp only [F_X3_addYear_L2, if_true, ite_true, reduceIte, Option.bind_some, Option.bind_none, bT1_some, io_LD, io_Rd, io_Mt, io_Nt, io_Pl, io_Ro, io_Pa, io_Te, io_Bo, io_Ia, io_Ib, io_Mo, io_Ra, io_Rb, gr_LD_0, gr_LD_1, gr_LD_2, gr_LD_3, gr_LD_4, gr_LD_5, gr_LD_6, gr_LD_7, gr_LD_8, gr_Rd_0, gr_Mt_0, gr_Mt_1, gr_Nt_0, gr_Nt_1, gr_Nt_2, gr_Nt_3, gr_Nt_4, gr_Nt_5, gr_Nt_6, gr_Pl_0, gr_Pl_1, gr_Ro_0, gr_Ro_1, gr_Ro_2, gr_Pa_0, gr_Te_0, gr_Te_1, gr_Bo_0, gr_Bo_1, gr_Ia_0, gr_Ib_0, gr_Mo_0, gr_Mo_7, gr_Mo_8, gr_Mo_9, gr_Mo_10, gr_Mo_11, gr_Mo_12, gr_Mo_15, gr_Mo_16, gr_Mo_17, gr_Mo_18, gr_Mo_20, gr_Mo_28, gr_Mo_29, gr_Mo_32, gr_Mo_33, gr_Mo_34, gr_Mo_35, gr_Mo_36, gr_Mo_37, gr_Ra_0, gr_Ra_1, gr_Ra_2, gr_Ra_3, gr_Ra_4, gr_Ra_5, gr_Ra_6, gr_Rb_0, gr_Rb_1, gr_Rb_2, gr_Rb_3, gr_Rb_4, gr_Rb_5, gr_Rb_6, gi_LD_9, gi_Rd_1, gi_Rd_2, gi_Rd_3, gi_Rd_4, gi_Nt_7, gi_Nt_8, gi_Nt_9, gi_Nt_10, gi_Pl_2, gi_Pl_3, gi_Ro_3, gi_Ro_4, gi_Ro_5, gi_Pa_1, gi_Pa_2, gi_Te_2, gi_Bo_2, gi_Ia_1, gi_Ia_2, gi_Ib_1, gi_Ib_2, gi_Mo_1, gi_Mo_2, gi_Mo_3, gi_Mo_4, gi_Mo_5, gi_Mo_6, gi_Mo_13, gl_Mo_14, gi_Mo_19, gi_Mo_21, gi_Mo_22, gi_Mo_23, gi_Mo_24, gi_Mo_25, gi_Mo_26, gi_Mo_27, gi_Mo_30, gi_Mo_31, gi_Ra_7, gi_Ra_8, gi_Ra_9, gi_Ra_10, gi_Rb_7, gi_Rb_8, gi_Rb_9, gi_Rb_10, pf_LD_9, pf_Rd_1, pf_Rd_2, pf_Rd_3, pf_Rd_4, pf_Nt_7, pf_Nt_8, pf_Nt_9, pf_Nt_10, pf_Pl_2, pf_Pl_3, pf_Ro_3, pf_Ro_4, pf_Ro_5, pf_Pa_1, pf_Pa_2, pf_Te_2, pf_Bo_2, pf_Ia_1, pf_Ia_2, pf_Ib_1, pf_Ib_2, pf_Mo_1, pf_Mo_2, pf_Mo_3, pf_Mo_4, pf_Mo_5, pf_Mo_6, pf_Mo_13, pl_Mo_14, pf_Mo_19, pf_Mo_21, pf_Mo_22, pf_Mo_23, pf_Mo_24, pf_Mo_25, pf_Mo_26, pf_Mo_27, pf_Mo_30, pf_Mo_31, pf_Ra_7, pf_Ra_8, pf_Ra_9, pf_Ra_10, pf_Rb_7, pf_Rb_8, pf_Rb_9, pf_Rb_10, h9, hng, if_false, ai_5 l1, s5, age_ok va9, aw_5 l1, uA_s, pk_us, ai_6 l1, uA_n h65, s6, uA_n h45, hw, nI_1]
      exact hr
    have same : uA (uA σ 5 (upd (σ 5) i (nI (min 99 (nV V i + 1))))) 4 (σ 4) = uA σ 5 (upd (σ 5) i (nI (min 99 (nV V i + 1)))) := by
      have := uA_id (uA σ 5 (upd (σ 5) i (nI (min 99 (nV V i + 1))))) 4
      rw [uA_n (by omega)] at this
      exact this
    by_cases hage : nV V i = 49
    · have h50 : nI (min 99 (nV V i + 1)) = (50 : Int32) := by rw [hage]; rfl
      by_cases hd : 0 < nV V (6 + i)
      · obtain ⟨σ', g1, g2⟩ := fin (upd (σ 4) 9 (nI (w ||| 2 ^ i))) (w ||| 2 ^ i) (or_lt hw6 l1) (fun j hj => pk_un hj) pk_us (by rw [if_pos ⟨rfl, hage, hd⟩])
        refine ⟨σ', step _ ?_, g2⟩
        rw [if_pos h50, if_neg (nI_nle hd (by omega)), or_ok w hw6 i l1]
        exact g1
      · obtain ⟨σ', g1, g2⟩ := fin (σ 4) w hw6 (fun j hj => rfl) hw (by rw [if_neg (fun z => hd z.2.2)])
        rw [same] at g1
        refine ⟨σ', step _ ?_, g2⟩
        rw [if_pos h50, show nV V (6 + i) = 0 by omega, if_pos (by decide)]
        exact g1
    · have h50 : ¬ nI (min 99 (nV V i + 1)) = (50 : Int32) := fun z => hage (by
        have := (nI_eq (b := 50) (by omega) (by omega)).mp z
        omega)
      obtain ⟨σ', g1, g2⟩ := fin (σ 4) w hw6 (fun j hj => rfl) hw (by rw [if_neg (fun z => hage z.2.1)])
      rw [same] at g1
      refine ⟨σ', step _ ?_, g2⟩
      rw [if_neg h50]
      exact g1
end EC
