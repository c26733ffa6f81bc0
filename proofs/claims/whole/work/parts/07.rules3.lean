/-- kinds of arrays: 0 int, 1 char, 2 boolean, 3 long, 4 Night, 5 Image -/
theorem ai_spec {h : AH} {kd a : Nat} {i x : Int32} (e : ai h kd a i = some x) : ∃ (n : Nat) (f : Nat → Int32), h[a]? = some (.inl (kd, n, .inl f)) ∧ vp_in i n ∧ x = f i.toNatClampNeg := by
  unfold ai at e
  split at e
  · rename_i q n f he
    split at e
    · rename_i hc
      obtain ⟨rfl, hk⟩ := hc
      exact ⟨n, f, he, hk, (Option.some.inj e).symm⟩
    · cases e
  · cases e
theorem al_spec {h : AH} {kd a : Nat} {i : Int32} {x : Int64} (e : al h kd a i = some x) : ∃ (n : Nat) (f : Nat → Int64), h[a]? = some (.inl (kd, n, .inr (.inl f))) ∧ vp_in i n ∧ x = f i.toNatClampNeg := by
  unfold al at e
  split at e
  · rename_i q n f he
    split at e
    · rename_i hc
      obtain ⟨rfl, hk⟩ := hc
      exact ⟨n, f, he, hk, (Option.some.inj e).symm⟩
    · cases e
  · cases e
theorem ar_spec {h : AH} {kd a : Nat} {i : Int32} {x : Nat} (e : ar h kd a i = some x) : ∃ (n : Nat) (f : Nat → Option Nat), h[a]? = some (.inl (kd, n, .inr (.inr (.inr (.inr f))))) ∧ vp_in i n ∧ f i.toNatClampNeg = some x := by
  unfold ar at e
  split at e
  · rename_i q n f he
    split at e
    · rename_i hc
      obtain ⟨rfl, hk⟩ := hc
      exact ⟨n, f, he, hk, e⟩
    · cases e
  · cases e
theorem aw_spec {h h1 : AH} {kd a : Nat} {i x : Int32} (e : aw h kd a i x = some h1) : ∃ (n : Nat) (f : Nat → Int32), h[a]? = some (.inl (kd, n, .inl f)) ∧ vp_in i n ∧ h1 = h.set a (.inl (kd, n, .inl (upd f i.toNatClampNeg x))) := by
  unfold aw at e
  split at e
  · rename_i q n f he
    split at e
    · rename_i hc
      obtain ⟨rfl, hk⟩ := hc
      exact ⟨n, f, he, hk, (Option.some.inj e).symm⟩
    · cases e
  · cases e
theorem alw_spec {h h1 : AH} {kd a : Nat} {i : Int32} {x : Int64} (e : alw h kd a i x = some h1) : ∃ (n : Nat) (f : Nat → Int64), h[a]? = some (.inl (kd, n, .inr (.inl f))) ∧ vp_in i n ∧ h1 = h.set a (.inl (kd, n, .inr (.inl (vp_updL f i.toNatClampNeg x)))) := by
  unfold alw at e
  split at e
  · rename_i q n f he
    split at e
    · rename_i hc
      obtain ⟨rfl, hk⟩ := hc
      exact ⟨n, f, he, hk, (Option.some.inj e).symm⟩
    · cases e
  · cases e
theorem arw_spec {h h1 : AH} {kd ci a v : Nat} {i : Int32} (e : arw h kd ci a i v = some h1) : ∃ (n : Nat) (f : Nat → Option Nat) (vs : List Value), h[a]? = some (.inl (kd, n, .inr (.inr (.inr (.inr f))))) ∧ h[v]? = some (.inr (ci, vs)) ∧ vp_in i n ∧ h1 = h.set a (.inl (kd, n, .inr (.inr (.inr (.inr (va_up f i.toNatClampNeg (some v))))))) := by
  unfold arw at e
  split at e
  · rename_i q n f c vs he hv
    split at e
    · rename_i hc
      obtain ⟨⟨rfl, rfl⟩, hk⟩ := hc
      exact ⟨n, f, vs, he, hv, hk, (Option.some.inj e).symm⟩
    · cases e
  · cases e
theorem acp_spec {h h1 : AH} {a0 a : Nat} {sp dp n : Int32} (e : acp h a0 sp a dp n = some h1) : ∃ (n0 n1 : Nat) (f g : Nat → Int32), h[a0]? = some (.inl (0, n0, .inl f)) ∧ h[a]? = some (.inl (0, n1, .inl g)) ∧ (¬ sp < 0 ∧ ¬ dp < 0 ∧ ¬ n < 0) ∧ sp.toNatClampNeg + n.toNatClampNeg ≤ n0 ∧ dp.toNatClampNeg + n.toNatClampNeg ≤ n1 ∧ h1 = h.set a (.inl (0, n1, .inl (va_cpy f g sp.toNatClampNeg dp.toNatClampNeg n.toNatClampNeg))) := by
  unfold acp at e
  split at e
  · rename_i q0 n0 f q1 n1 g he hv
    split at e
    · rename_i hc
      obtain ⟨⟨rfl, rfl⟩, hk, h4, h5⟩ := hc
      exact ⟨n0, n1, f, g, he, hv, hk, h4, h5, (Option.some.inj e).symm⟩
    · cases e
  · cases e
theorem she_q (base b : Nat) (cA : Nat → ClassId) (q n : Nat) (f : Nat → Option Nat) (i v : Nat) : she base b cA (.inl (q, n, .inr (.inr (.inr (.inr (va_up f i (some v))))))) = .inl (cA q, n, .inr (.inr (.inr (.inr (va_up (fun i => (f i).map (fun a => base + a)) i (some (base + v))))))) := by
  have key : (fun j => (va_up f i (some v) j).map (fun a => base + a)) = va_up (fun i => (f i).map (fun a => base + a)) i (some (base + v)) := by
    funext j
    by_cases hj : j = i
    · simp [va_up, hj]
    · simp [va_up, hj]
  show (Sum.inl (cA q, n, .inr (.inr (.inr (.inr (fun j => (va_up f i (some v) j).map (fun a => base + a)))))) : va_E) = _
  rw [key]
section GA
variable {X : SX} {M : MD} {d pc : Nat} {lv lv' : Lv} {st : List Value} {h h' : AH} {rv : Option Int32}
theorem G.iald {α : Type} {F : Int32 → Option α} {r : α} {a : Nat} {i : Int32} (hd : decode M.2.2.1 pc = .ok (.iaload, 1)) (hb : (ai h 0 a i).bind F = some r) (kk : ∀ x, F x = some r → G X M d (pc + 1) lv (.int x :: st) h rv h') : G X M d pc lv (.int i :: .ref a :: st) h rv h' := by
  obtain ⟨x, e1, e2⟩ := Option.bind_eq_some_iff.mp hb
  obtain ⟨n, f, f1, f2, rfl⟩ := ai_spec e1
  exact G.of (kk _ e2) fun l dC dI cA base b p e R s m args below meth c H locs cells slots mc ms ls Q hC hW => va_iald hC.1.1 hC.1.2.1 hC.2.1.1 hC.2.2.1.1 a 0 (con_at f1) rfl f2 hd hW
theorem G.cald {α : Type} {F : Int32 → Option α} {r : α} {a : Nat} {i : Int32} (hd : decode M.2.2.1 pc = .ok (.caload, 1)) (hb : (ai h 1 a i).bind F = some r) (kk : ∀ x, F x = some r → G X M d (pc + 1) lv (.int x :: st) h rv h') : G X M d pc lv (.int i :: .ref a :: st) h rv h' := by
  obtain ⟨x, e1, e2⟩ := Option.bind_eq_some_iff.mp hb
  obtain ⟨n, f, f1, f2, rfl⟩ := ai_spec e1
  exact G.of (kk _ e2) fun l dC dI cA base b p e R s m args below meth c H locs cells slots mc ms ls Q hC hW => va_cald hC.1.1 hC.1.2.1 hC.2.1.1 hC.2.2.1.1 a 1 (con_at f1) rfl f2 hd hW
theorem G.zald {α : Type} {F : Int32 → Option α} {r : α} {a : Nat} {i : Int32} (hd : decode M.2.2.1 pc = .ok (.baload, 1)) (hb : (ai h 2 a i).bind F = some r) (kk : ∀ x, F x = some r → G X M d (pc + 1) lv (.int x :: st) h rv h') : G X M d pc lv (.int i :: .ref a :: st) h rv h' := by
  obtain ⟨x, e1, e2⟩ := Option.bind_eq_some_iff.mp hb
  obtain ⟨n, f, f1, f2, rfl⟩ := ai_spec e1
  exact G.of (kk _ e2) fun l dC dI cA base b p e R s m args below meth c H locs cells slots mc ms ls Q hC hW => va_zald hC.1.1 hC.1.2.1 hC.2.1.1 hC.2.2.1.1 a 2 (con_at f1) rfl f2 hd hW
theorem G.lald {α : Type} {F : Int64 → Option α} {r : α} {a : Nat} {i : Int32} (hd : decode M.2.2.1 pc = .ok (.laload, 1)) (hb : (al h 3 a i).bind F = some r) (kk : ∀ x, F x = some r → G X M d (pc + 1) lv (.long x :: st) h rv h') : G X M d pc lv (.int i :: .ref a :: st) h rv h' := by
  obtain ⟨x, e1, e2⟩ := Option.bind_eq_some_iff.mp hb
  obtain ⟨n, f, f1, f2, rfl⟩ := al_spec e1
  exact G.of (kk _ e2) fun l dC dI cA base b p e R s m args below meth c H locs cells slots mc ms ls Q hC hW => va_lald hC.1.1 hC.1.2.1 hC.2.1.1 hC.2.2.1.1 a 3 (con_at f1) rfl f2 hd hW
theorem G.aald {α : Type} {F : Nat → Option α} {r : α} {kd a : Nat} {C : String} {i : Int32} (hkd : (kd = 4 ∧ C = RX4) ∨ (kd = 5 ∧ C = RX2)) (hd : decode M.2.2.1 pc = .ok (.aaload, 1)) (hb : (ar h kd a i).bind F = some r) (kk : ∀ x, F x = some r → G X M d (pc + 1) lv (.ref x :: st) h rv h') : G X M d pc lv (.int i :: .ref a :: st) h rv h' := by
  obtain ⟨x, e1, e2⟩ := Option.bind_eq_some_iff.mp hb
  obtain ⟨n, f, f1, f2, f3⟩ := ar_spec e1
  refine G.of (kk _ e2) fun l dC dI cA base b p e R s m args below meth c H locs cells slots mc ms ls Q hC hW => ?_
  refine va_aldq (C := C) hC.1.1 hC.1.2.1 hC.2.1.1 hC.2.2.1.1 a kd (con_at f1) ?_ f2 hd ?_
  · rcases hkd with ⟨rfl, rfl⟩ | ⟨rfl, rfl⟩ <;> rfl
  · rw [f3]
    exact hW
theorem G.iast {α : Type} {F : AH → Option α} {r : α} {a : Nat} {i x : Int32} (hd : decode M.2.2.1 pc = .ok (.iastore, 1)) (hb : (aw h 0 a i x).bind F = some r) (kk : ∀ h1, F h1 = some r → G X M d (pc + 1) lv st h1 rv h') : G X M d pc lv (.int x :: .int i :: .ref a :: st) h rv h' := by
  obtain ⟨h1, e1, e2⟩ := Option.bind_eq_some_iff.mp hb
  obtain ⟨n, f, f1, f2, rfl⟩ := aw_spec e1
  obtain ⟨k1, k2⟩ := kk _ e2
  have hlen : (h.set a (.inl (0, n, .inl (upd f i.toNatClampNeg x)))).length = h.length := List.length_set
  have hasz : asz (h.set a (.inl (0, n, .inl (upd f i.toNatClampNeg x)))) = asz h := asz_set h a _ _ f1 rfl
  refine ⟨⟨by rw [← hlen]; exact k1.1, by rw [← hasz]; exact k1.2⟩, fun l dC dI cA base b p e R s m args below meth c H locs cells slots mc ms ls hC => ?_⟩
  refine wq_iast (A := fun q => base ≤ q) (ty := .int) hC.1.1 hC.1.2.1 hC.2.1.1 hC.2.2.1.1 (con_D h) hC.2.2.2.1 a 0 (con_at f1) (Or.inl rfl) rfl f2 hd fun H1 locs1 hP1 hz oq hS1 => ?_
  refine k2 l dC dI cA base b p e R s m args below meth c H1 locs1 cells slots mc ms ls (hC.heap ?_ hz (fun q hq => oq q (by omega)) hS1 hlen hasz)
  rw [con_set, Nat.zero_add]
  exact hP1
theorem G.cast {α : Type} {F : AH → Option α} {r : α} {a : Nat} {i x : Int32} (hd : decode M.2.2.1 pc = .ok (.castore, 1)) (hb : (aw h 1 a i (vp_nar .char x)).bind F = some r) (kk : ∀ h1, F h1 = some r → G X M d (pc + 1) lv st h1 rv h') : G X M d pc lv (.int x :: .int i :: .ref a :: st) h rv h' := by
  obtain ⟨h1, e1, e2⟩ := Option.bind_eq_some_iff.mp hb
  obtain ⟨n, f, f1, f2, rfl⟩ := aw_spec e1
  obtain ⟨k1, k2⟩ := kk _ e2
  have hlen : (h.set a (.inl (1, n, .inl (upd f i.toNatClampNeg (vp_nar .char x))))).length = h.length := List.length_set
  have hasz : asz (h.set a (.inl (1, n, .inl (upd f i.toNatClampNeg (vp_nar .char x))))) = asz h := asz_set h a _ _ f1 rfl
  refine ⟨⟨by rw [← hlen]; exact k1.1, by rw [← hasz]; exact k1.2⟩, fun l dC dI cA base b p e R s m args below meth c H locs cells slots mc ms ls hC => ?_⟩
  refine wq_iast (A := fun q => base ≤ q) (ty := .char) hC.1.1 hC.1.2.1 hC.2.1.1 hC.2.2.1.1 (con_D h) hC.2.2.2.1 a 1 (con_at f1) (Or.inr (Or.inl rfl)) rfl f2 hd fun H1 locs1 hP1 hz oq hS1 => ?_
  refine k2 l dC dI cA base b p e R s m args below meth c H1 locs1 cells slots mc ms ls (hC.heap ?_ hz (fun q hq => oq q (by omega)) hS1 hlen hasz)
  rw [con_set, Nat.zero_add]
  exact hP1
theorem G.zast {α : Type} {F : AH → Option α} {r : α} {a : Nat} {i x : Int32} (hd : decode M.2.2.1 pc = .ok (.bastore, 1)) (hb : (aw h 2 a i (vp_nar .boolean x)).bind F = some r) (kk : ∀ h1, F h1 = some r → G X M d (pc + 1) lv st h1 rv h') : G X M d pc lv (.int x :: .int i :: .ref a :: st) h rv h' := by
  obtain ⟨h1, e1, e2⟩ := Option.bind_eq_some_iff.mp hb
  obtain ⟨n, f, f1, f2, rfl⟩ := aw_spec e1
  obtain ⟨k1, k2⟩ := kk _ e2
  have hlen : (h.set a (.inl (2, n, .inl (upd f i.toNatClampNeg (vp_nar .boolean x))))).length = h.length := List.length_set
  have hasz : asz (h.set a (.inl (2, n, .inl (upd f i.toNatClampNeg (vp_nar .boolean x))))) = asz h := asz_set h a _ _ f1 rfl
  refine ⟨⟨by rw [← hlen]; exact k1.1, by rw [← hasz]; exact k1.2⟩, fun l dC dI cA base b p e R s m args below meth c H locs cells slots mc ms ls hC => ?_⟩
  refine wq_iast (A := fun q => base ≤ q) (ty := .boolean) hC.1.1 hC.1.2.1 hC.2.1.1 hC.2.2.1.1 (con_D h) hC.2.2.2.1 a 2 (con_at f1) (Or.inr (Or.inr rfl)) rfl f2 hd fun H1 locs1 hP1 hz oq hS1 => ?_
  refine k2 l dC dI cA base b p e R s m args below meth c H1 locs1 cells slots mc ms ls (hC.heap ?_ hz (fun q hq => oq q (by omega)) hS1 hlen hasz)
  rw [con_set, Nat.zero_add]
  exact hP1
theorem G.last {α : Type} {F : AH → Option α} {r : α} {a : Nat} {i : Int32} {x : Int64} (hd : decode M.2.2.1 pc = .ok (.lastore, 1)) (hb : (alw h 3 a i x).bind F = some r) (kk : ∀ h1, F h1 = some r → G X M d (pc + 1) lv st h1 rv h') : G X M d pc lv (.long x :: .int i :: .ref a :: st) h rv h' := by
  obtain ⟨h1, e1, e2⟩ := Option.bind_eq_some_iff.mp hb
  obtain ⟨n, f, f1, f2, rfl⟩ := alw_spec e1
  obtain ⟨k1, k2⟩ := kk _ e2
  have hlen : (h.set a (.inl (3, n, .inr (.inl (vp_updL f i.toNatClampNeg x))))).length = h.length := List.length_set
  have hasz : asz (h.set a (.inl (3, n, .inr (.inl (vp_updL f i.toNatClampNeg x))))) = asz h := asz_set h a _ _ f1 rfl
  refine ⟨⟨by rw [← hlen]; exact k1.1, by rw [← hasz]; exact k1.2⟩, fun l dC dI cA base b p e R s m args below meth c H locs cells slots mc ms ls hC => ?_⟩
  refine wq_last (A := fun q => base ≤ q) hC.1.1 hC.1.2.1 hC.2.1.1 hC.2.2.1.1 (con_D h) hC.2.2.2.1 a 3 (con_at f1) rfl f2 hd fun H1 locs1 hP1 hz oq hS1 => ?_
  refine k2 l dC dI cA base b p e R s m args below meth c H1 locs1 cells slots mc ms ls (hC.heap ?_ hz (fun q hq => oq q (by omega)) hS1 hlen hasz)
  rw [con_set, Nat.zero_add]
  exact hP1
theorem G.aast {α : Type} {F : AH → Option α} {r : α} {kd ci a v : Nat} {i : Int32} {q0 : vw_C} (hkd : (kd = 4 ∧ q0.1 = RX4) ∨ (kd = 5 ∧ q0.1 = RX2)) (hc : vwCl[ci]? = some q0) (hd : decode M.2.2.1 pc = .ok (.aastore, 1)) (hb : (arw h kd ci a i v).bind F = some r) (kk : ∀ h1, F h1 = some r → G X M d (pc + 1) lv st h1 rv h') : G X M d pc lv (.ref v :: .int i :: .ref a :: st) h rv h' := by
  obtain ⟨h1, e1, e2⟩ := Option.bind_eq_some_iff.mp hb
  obtain ⟨n, f, vs, f1, f3, f2, rfl⟩ := arw_spec e1
  obtain ⟨k1, k2⟩ := kk _ e2
  have hlen : (h.set a (.inl (kd, n, .inr (.inr (.inr (.inr (va_up f i.toNatClampNeg (some v)))))))).length = h.length := List.length_set
  have hasz : asz (h.set a (.inl (kd, n, .inr (.inr (.inr (.inr (va_up f i.toNatClampNeg (some v)))))))) = asz h := asz_set h a _ _ f1 rfl
  refine ⟨⟨by rw [← hlen]; exact k1.1, by rw [← hasz]; exact k1.2⟩, fun l dC dI cA base b p e R s m args below meth c H locs cells slots mc ms ls hC => ?_⟩
  refine wq_astq (A := fun q => base ≤ q) hC.1.1 hC.1.2.1 hC.2.1.1 hC.2.2.1.1 (con_D h) hC.2.2.2.1 a kd v ci (r := q0) (con_at f1) ?_ (con_at f3) hc f2 hd fun H1 locs1 hP1 hz oq hS1 => ?_
  · rcases hkd with ⟨rfl, e⟩ | ⟨rfl, e⟩ <;> rw [e] <;> rfl
  · refine k2 l dC dI cA base b p e R s m args below meth c H1 locs1 cells slots mc ms ls (hC.heap ?_ hz (fun q hq => oq q (by omega)) hS1 hlen hasz)
    rw [con_set, Nat.zero_add, she_q]
    exact hP1
/-- the script -/
theorem G.slen {z : UInt32} (hd : decode M.2.2.1 pc = .ok (.arraylength, 1)) (k : G X M d (pc + 1) lv (.int (Int32.ofNat X.1) :: st) h rv h') : G X M d pc lv (.float z :: st) h rv h' :=
  G.of k fun l dC dI cA base b p e R s m args below meth c H locs cells slots mc ms ls Q hC hW => by
    obtain ⟨scr, h1, h2, h3, h4, h5⟩ := hC.2.1.2.1.1
    exact W.alen (n := Int32.ofNat X.1) hC.1.1 hC.1.2.1 h1 h2 (by rw [h4] <;> rfl) rfl rfl hd hW
theorem G.sld {z : UInt32} {i : Int32} (hi : vp_in i X.1) (hd : decode M.2.2.1 pc = .ok (.iaload, 1)) (k : G X M d (pc + 1) lv (.int (X.2 i.toNatClampNeg) :: st) h rv h') : G X M d pc lv (.int i :: .float z :: st) h rv h' :=
  G.of k fun l dC dI cA base b p e R s m args below meth c H locs cells slots mc ms ls Q hC hW => by
    obtain ⟨scr, h1, h2, h3, h4, h5⟩ := hC.2.1.2.1.1
    have hlt : i.toNatClampNeg < X.1 := Nat.not_le.mp fun q => hi (Or.inr q)
    exact W.iald (v := .int (X.2 i.toNatClampNeg)) hC.1.1 hC.1.2.1 h1 h2 h3 (by rw [h4]; exact hi) (h5 _ hlt) rfl rfl hd hW
/-- Math.max, min, abs -/
theorem st_cat (base b : Nat) (st : List Value) : ((st.map (shv base b)).map fun v => v.category).sum = (st.map fun v => v.category).sum := by
  rw [List.map_map]
  congr 1
  apply List.map_congr_left
  intro v _
  exact shv_cat base b v
theorem G.max {idx : Nat} {x y : Int32} (hw : Cond.methodLink M.1 idx Lib.Math.max.name ∈ lwg ∧ Cond.static Lib.Math.max.name ∈ lwg ∧ Cond.initialized "java/lang/Math" ∈ lwg ∧ Cond.code Lib.Math.max.name Lib.Math.max.code 2 (some .int) ∈ lwg) (hs : (st.map fun v => v.category).sum ≤ 8) (hd : decode M.2.2.1 pc = .ok (.invokestatic idx, 3)) (k : G X M (d + 1) (pc + 3) lv (.int (if x < y then y else x) :: st) h rv h') : G X M (d + 1) pc lv (.int y :: .int x :: st) h rv h' := by
  have hmono := k.1
  refine G.of k fun l dC dI cA base b p e R s m args below meth c H locs cells slots mc ms ls Q hC hW => ?_
  obtain ⟨⟨hx, hb, hml, hret, hlocks, hown, hnm, hts⟩, hK, hP, hS, hbase, hl, ⟨hr1, hr2⟩, ⟨hc1, hc2⟩, hc3, hc4⟩ := hC
  exact va_mmax hx hb (hml.trans hl.1.symm) hown (hts _ hw.1) (hts _ hw.2.1) (hts _ hw.2.2.1) (hts _ hw.2.2.2) (by omega) (by rw [st_cat]; omega) (by omega) (by omega) hd hW
theorem G.min {idx : Nat} {x y : Int32} (hw : Cond.methodLink M.1 idx Lib.Math.min.name ∈ lwg ∧ Cond.static Lib.Math.min.name ∈ lwg ∧ Cond.initialized "java/lang/Math" ∈ lwg ∧ Cond.code Lib.Math.min.name Lib.Math.min.code 2 (some .int) ∈ lwg) (hs : (st.map fun v => v.category).sum ≤ 8) (hd : decode M.2.2.1 pc = .ok (.invokestatic idx, 3)) (k : G X M (d + 1) (pc + 3) lv (.int (if y < x then y else x) :: st) h rv h') : G X M (d + 1) pc lv (.int y :: .int x :: st) h rv h' := by
  have hmono := k.1
  refine G.of k fun l dC dI cA base b p e R s m args below meth c H locs cells slots mc ms ls Q hC hW => ?_
  obtain ⟨⟨hx, hb, hml, hret, hlocks, hown, hnm, hts⟩, hK, hP, hS, hbase, hl, ⟨hr1, hr2⟩, ⟨hc1, hc2⟩, hc3, hc4⟩ := hC
  exact va_mmin hx hb (hml.trans hl.1.symm) hown (hts _ hw.1) (hts _ hw.2.1) (hts _ hw.2.2.1) (hts _ hw.2.2.2) (by omega) (by rw [st_cat]; omega) (by omega) (by omega) hd hW
theorem G.abs {idx : Nat} {x : Int32} (hw : Cond.methodLink M.1 idx Lib.Math.abs.name ∈ lwg ∧ Cond.static Lib.Math.abs.name ∈ lwg ∧ Cond.initialized "java/lang/Math" ∈ lwg ∧ Cond.code Lib.Math.abs.name Lib.Math.abs.code 1 (some .int) ∈ lwg) (hs : (st.map fun v => v.category).sum ≤ 8) (hd : decode M.2.2.1 pc = .ok (.invokestatic idx, 3)) (k : G X M (d + 1) (pc + 3) lv (.int (if 0 ≤ x then x else 0 - x) :: st) h rv h') : G X M (d + 1) pc lv (.int x :: st) h rv h' := by
  have hmono := k.1
  refine G.of k fun l dC dI cA base b p e R s m args below meth c H locs cells slots mc ms ls Q hC hW => ?_
  obtain ⟨⟨hx, hb, hml, hret, hlocks, hown, hnm, hts⟩, hK, hP, hS, hbase, hl, ⟨hr1, hr2⟩, ⟨hc1, hc2⟩, hc3, hc4⟩ := hC
  exact va_mabs hx hb (hml.trans hl.1.symm) hown (hts _ hw.1) (hts _ hw.2.1) (hts _ hw.2.2.1) (hts _ hw.2.2.2) (by omega) (by rw [st_cat]; omega) (by omega) (by omega) hd hW
theorem G.acopy {α : Type} {F : AH → Option α} {r : α} {idx a0 a : Nat} {sp dp n : Int32} (hw : Cond.methodLink M.1 idx arraycopyName ∈ lwg ∧ Cond.native arraycopyName ∈ lwg ∧ Cond.static arraycopyName ∈ lwg ∧ Cond.initialized "java/lang/System" ∈ lwg) (hs : (st.map fun v => v.category).sum ≤ 8) (hd : decode M.2.2.1 pc = .ok (.invokestatic idx, 3)) (hb : (acp h a0 sp a dp n).bind F = some r) (kk : ∀ h1, F h1 = some r → G X M (d + 1) (pc + 3) lv st h1 rv h') : G X M (d + 1) pc lv (.int n :: .int dp :: .ref a :: .int sp :: .ref a0 :: st) h rv h' := by
  obtain ⟨h1, e1, e2⟩ := Option.bind_eq_some_iff.mp hb
  obtain ⟨n0, n1, f, g, f1, f2, ⟨g1, g2, g3⟩, g4, g5, rfl⟩ := acp_spec e1
  obtain ⟨k1, k2⟩ := kk _ e2
  have hlen : (h.set a (.inl (0, n1, .inl (va_cpy f g sp.toNatClampNeg dp.toNatClampNeg n.toNatClampNeg)))).length = h.length := List.length_set
  have hasz : asz (h.set a (.inl (0, n1, .inl (va_cpy f g sp.toNatClampNeg dp.toNatClampNeg n.toNatClampNeg)))) = asz h := asz_set h a _ _ f2 rfl
  refine ⟨⟨by rw [← hlen]; exact k1.1, by rw [← hasz]; exact k1.2⟩, fun l dC dI cA base b p e R s m args below meth c H locs cells slots mc ms ls hC => ?_⟩
  have hC0 := hC
  obtain ⟨⟨hx, hb, hml, hret, hlocks, hown, hnm, hts⟩, hK, hP, hS, hbase, hl, ⟨hr1, hr2⟩, ⟨hc1, hc2⟩, hc3, hc4⟩ := hC
  have hnw : nativeFrameWords "java/lang/System" "arraycopy" 5 ≤ 40 := by decide
  refine wq_copyi (A := fun q => base ≤ q) hx hb (hml.trans hl.1.symm) hown (hts _ hw.1) (hts _ hw.2.1) (hts _ hw.2.2.1) (hts _ hw.2.2.2) hK.1 hP.1 (con_D h) hS a0 a 0 (con_at f1) (con_at f2) rfl g1 g2 g3 g4 g5 (by omega) (by rw [st_cat]; omega) hd fun H1 locs1 hP1 hz oq hS1 => ?_
  refine k2 l dC dI cA base b p e R s m args below meth c H1 locs1 cells slots mc ms ls (hC0.heap ?_ hz (fun q hq => oq q (by omega)) hS1 hlen hasz)
  rw [con_set, Nat.zero_add]
  exact hP1
end GA
