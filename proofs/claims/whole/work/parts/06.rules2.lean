section GB
variable {X : SX} {M : MD} {d pc : Nat} {lv lv' : Lv} {st : List Value} {h h' : AH} {rv : Option Int32}
theorem G.br {c : Prop} [Decidable c] {pc1 pc2 : Nat} {st : List Value} {st' : List Value} (kt : c → G X M d pc1 lv st' h rv h') (kf : ¬ c → G X M d pc2 lv st' h rv h')
    (r : ∀ (l : Launch) (dC : Nat → ClassId) (dI : Nat → Nat → Nat) (cA : Nat → ClassId) (base b : Nat) (p : Program) (e : Env) (R : Room) (s : State) (m : MethodId) (args : Array Value) (below : List Frame) (meth : Method) (c0 : Code) (H : Heap) (locs : List Loc) (cells slots mc ms : Nat) (ls : Array Slot) (Q : State → Prop),
      Cx X M d lv h h' dC dI cA base b p R s m args meth c0 H locs cells slots mc ms ls → (c → W p l e R s m args below meth c0 H locs cells slots Q (F0 m pc1 ls (st'.map (shv base b)))) → (¬ c → W p l e R s m args below meth c0 H locs cells slots Q (F0 m pc2 ls (st'.map (shv base b)))) → W p l e R s m args below meth c0 H locs cells slots Q (F0 m pc ls (st.map (shv base b)))) : G X M d pc lv st h rv h' := by
  refine ⟨?_, fun l dC dI cA base b p e R s m args below meth c0 H locs cells slots mc ms ls hC => r l dC dI cA base b p e R s m args below meth c0 H locs cells slots mc ms ls _ hC (fun hc => (kt hc).2 l dC dI cA base b p e R s m args below meth c0 H locs cells slots mc ms ls hC) (fun hc => (kf hc).2 l dC dI cA base b p e R s m args below meth c0 H locs cells slots mc ms ls hC)⟩
  by_cases hc : c
  · exact (kt hc).1
  · exact (kf hc).1
theorem G.if_eq {x : Int32} {off : Int} (tgt : Nat) (hd : decode M.2.2.1 pc = .ok (.ifCond .eq off, 3)) (ht : (pc : Int) + off = (tgt : Int)) (kt : x = 0 → G X M d tgt lv st h rv h') (kf : ¬ x = 0 → G X M d (pc + 3) lv st h rv h') : G X M d pc lv (.int x :: st) h rv h' :=
  G.br kt kf fun l dC dI cA base b p e R s m args below meth c H locs cells slots mc ms ls Q hC h1 h2 => lv_if_eq hC.1.1 hC.1.2.1 hd ht h1 h2
theorem G.if_ne {x : Int32} {off : Int} (tgt : Nat) (hd : decode M.2.2.1 pc = .ok (.ifCond .ne off, 3)) (ht : (pc : Int) + off = (tgt : Int)) (kt : ¬ x = 0 → G X M d tgt lv st h rv h') (kf : x = 0 → G X M d (pc + 3) lv st h rv h') : G X M d pc lv (.int x :: st) h rv h' :=
  G.br (c := ¬ x = 0) kt (fun q => kf (Decidable.of_not_not q)) fun l dC dI cA base b p e R s m args below meth c H locs cells slots mc ms ls Q hC h1 h2 => lv_if_ne hC.1.1 hC.1.2.1 hd ht h1 (fun q => h2 (fun z => z q))
theorem G.if_lt {x : Int32} {off : Int} (tgt : Nat) (hd : decode M.2.2.1 pc = .ok (.ifCond .lt off, 3)) (ht : (pc : Int) + off = (tgt : Int)) (kt : x < 0 → G X M d tgt lv st h rv h') (kf : ¬ x < 0 → G X M d (pc + 3) lv st h rv h') : G X M d pc lv (.int x :: st) h rv h' :=
  G.br kt kf fun l dC dI cA base b p e R s m args below meth c H locs cells slots mc ms ls Q hC h1 h2 => lv_if_lt hC.1.1 hC.1.2.1 hd ht h1 h2
theorem G.if_ge {x : Int32} {off : Int} (tgt : Nat) (hd : decode M.2.2.1 pc = .ok (.ifCond .ge off, 3)) (ht : (pc : Int) + off = (tgt : Int)) (kt : 0 ≤ x → G X M d tgt lv st h rv h') (kf : ¬ 0 ≤ x → G X M d (pc + 3) lv st h rv h') : G X M d pc lv (.int x :: st) h rv h' :=
  G.br kt kf fun l dC dI cA base b p e R s m args below meth c H locs cells slots mc ms ls Q hC h1 h2 => lv_if_ge hC.1.1 hC.1.2.1 hd ht h1 h2
theorem G.if_gt {x : Int32} {off : Int} (tgt : Nat) (hd : decode M.2.2.1 pc = .ok (.ifCond .gt off, 3)) (ht : (pc : Int) + off = (tgt : Int)) (kt : 0 < x → G X M d tgt lv st h rv h') (kf : ¬ 0 < x → G X M d (pc + 3) lv st h rv h') : G X M d pc lv (.int x :: st) h rv h' :=
  G.br kt kf fun l dC dI cA base b p e R s m args below meth c H locs cells slots mc ms ls Q hC h1 h2 => lv_if_gt hC.1.1 hC.1.2.1 hd ht h1 h2
theorem G.if_le {x : Int32} {off : Int} (tgt : Nat) (hd : decode M.2.2.1 pc = .ok (.ifCond .le off, 3)) (ht : (pc : Int) + off = (tgt : Int)) (kt : x ≤ 0 → G X M d tgt lv st h rv h') (kf : ¬ x ≤ 0 → G X M d (pc + 3) lv st h rv h') : G X M d pc lv (.int x :: st) h rv h' :=
  G.br kt kf fun l dC dI cA base b p e R s m args below meth c H locs cells slots mc ms ls Q hC h1 h2 => lv_if_le hC.1.1 hC.1.2.1 hd ht h1 h2
theorem G.icmp_eq {x y : Int32} {off : Int} (tgt : Nat) (hd : decode M.2.2.1 pc = .ok (.if_icmp .eq off, 3)) (ht : (pc : Int) + off = (tgt : Int)) (kt : x = y → G X M d tgt lv st h rv h') (kf : ¬ x = y → G X M d (pc + 3) lv st h rv h') : G X M d pc lv (.int y :: .int x :: st) h rv h' :=
  G.br kt kf fun l dC dI cA base b p e R s m args below meth c H locs cells slots mc ms ls Q hC h1 h2 => lv_icmp_eq hC.1.1 hC.1.2.1 hd ht h1 h2
theorem G.icmp_ne {x y : Int32} {off : Int} (tgt : Nat) (hd : decode M.2.2.1 pc = .ok (.if_icmp .ne off, 3)) (ht : (pc : Int) + off = (tgt : Int)) (kt : ¬ x = y → G X M d tgt lv st h rv h') (kf : x = y → G X M d (pc + 3) lv st h rv h') : G X M d pc lv (.int y :: .int x :: st) h rv h' :=
  G.br (c := ¬ x = y) kt (fun q => kf (Decidable.of_not_not q)) fun l dC dI cA base b p e R s m args below meth c H locs cells slots mc ms ls Q hC h1 h2 => lv_icmp_ne hC.1.1 hC.1.2.1 hd ht h1 (fun q => h2 (fun z => z q))
theorem G.icmp_lt {x y : Int32} {off : Int} (tgt : Nat) (hd : decode M.2.2.1 pc = .ok (.if_icmp .lt off, 3)) (ht : (pc : Int) + off = (tgt : Int)) (kt : x < y → G X M d tgt lv st h rv h') (kf : ¬ x < y → G X M d (pc + 3) lv st h rv h') : G X M d pc lv (.int y :: .int x :: st) h rv h' :=
  G.br kt kf fun l dC dI cA base b p e R s m args below meth c H locs cells slots mc ms ls Q hC h1 h2 => lv_icmp_lt hC.1.1 hC.1.2.1 hd ht h1 h2
theorem G.icmp_ge {x y : Int32} {off : Int} (tgt : Nat) (hd : decode M.2.2.1 pc = .ok (.if_icmp .ge off, 3)) (ht : (pc : Int) + off = (tgt : Int)) (kt : y ≤ x → G X M d tgt lv st h rv h') (kf : ¬ y ≤ x → G X M d (pc + 3) lv st h rv h') : G X M d pc lv (.int y :: .int x :: st) h rv h' :=
  G.br kt kf fun l dC dI cA base b p e R s m args below meth c H locs cells slots mc ms ls Q hC h1 h2 => lv_icmp_ge hC.1.1 hC.1.2.1 hd ht h1 h2
theorem G.icmp_gt {x y : Int32} {off : Int} (tgt : Nat) (hd : decode M.2.2.1 pc = .ok (.if_icmp .gt off, 3)) (ht : (pc : Int) + off = (tgt : Int)) (kt : y < x → G X M d tgt lv st h rv h') (kf : ¬ y < x → G X M d (pc + 3) lv st h rv h') : G X M d pc lv (.int y :: .int x :: st) h rv h' :=
  G.br kt kf fun l dC dI cA base b p e R s m args below meth c H locs cells slots mc ms ls Q hC h1 h2 => lv_icmp_gt hC.1.1 hC.1.2.1 hd ht h1 h2
theorem G.icmp_le {x y : Int32} {off : Int} (tgt : Nat) (hd : decode M.2.2.1 pc = .ok (.if_icmp .le off, 3)) (ht : (pc : Int) + off = (tgt : Int)) (kt : x ≤ y → G X M d tgt lv st h rv h') (kf : ¬ x ≤ y → G X M d (pc + 3) lv st h rv h') : G X M d pc lv (.int y :: .int x :: st) h rv h' :=
  G.br kt kf fun l dC dI cA base b p e R s m args below meth c H locs cells slots mc ms ls Q hC h1 h2 => lv_icmp_le hC.1.1 hC.1.2.1 hd ht h1 h2
/-- switches: outside the table, and at each of its places -/
theorem G.tswOut {dflt lo hi : Int} {offs : Array Int} {len : Nat} {x : Int32} (tgt : Nat) (hd : decode M.2.2.1 pc = .ok (.tableswitch dflt lo hi offs, len)) (hx : x.toInt < lo ∨ hi < x.toInt) (ht : (pc : Int) + dflt = (tgt : Int)) (k : G X M d tgt lv st h rv h') : G X M d pc lv (.int x :: st) h rv h' :=
  G.of k fun l dC dI cA base b p e R s m args below meth c H locs cells slots mc ms ls Q hC hW => lv_tableOut hC.1.1 hC.1.2.1 hd hx ht hW
theorem G.tswIn {dflt lo hi : Int} {offs : Array Int} {len : Nat} {x : Int32} {off : Int} (tgt : Nat) (hd : decode M.2.2.1 pc = .ok (.tableswitch dflt lo hi offs, len)) (h1 : ¬ x.toInt < lo) (h2 : ¬ hi < x.toInt) (ho : offs[(x.toInt - lo).toNat]? = some off) (ht : (pc : Int) + off = (tgt : Int)) (k : G X M d tgt lv st h rv h') : G X M d pc lv (.int x :: st) h rv h' :=
  G.of k fun l dC dI cA base b p e R s m args below meth c H locs cells slots mc ms ls Q hC hW => lv_tableIn hC.1.1 hC.1.2.1 hd h1 h2 ho ht hW
theorem G.lsw {dflt : Int} {ps : Array (Int × Int)} {len : Nat} {x : Int32} {off : Int} (tgt : Nat) (hd : decode M.2.2.1 pc = .ok (.lookupswitch dflt ps, len)) (hp : (ps.toList.zip (ps.toList.drop 1)).all (fun (a, next) => a.1 < next.1) = true) (ho : Op.lookupswitch.offset ps.toList dflt x.toInt = off) (ht : (pc : Int) + off = (tgt : Int)) (k : G X M d tgt lv st h rv h') : G X M d pc lv (.int x :: st) h rv h' :=
  G.of k fun l dC dI cA base b p e R s m args below meth c H locs cells slots mc ms ls Q hC hW => lv_lookup hC.1.1 hC.1.2.1 hd hp ho ht hW
theorem G.ldc {idx : Nat} {v : Int32} (hw : Cond.constant M.1 idx v ∈ lwg) (hd : decode M.2.2.1 pc = .ok (.ldc idx, 2)) (k : G X M d (pc + 2) lv (.int v :: st) h rv h') : G X M d pc lv st h rv h' :=
  G.of k fun l dC dI cA base b p e R s m args below meth c H locs cells slots mc ms ls Q hC hW => lv_ldc hC.1.1 hC.1.2.1 hC.1.2.2.2.2.2.1 (hC.1.2.2.2.2.2.2.2 _ hw) hd hW
theorem G.ldcw {idx : Nat} {v : Int32} (hw : Cond.constant M.1 idx v ∈ lwg) (hd : decode M.2.2.1 pc = .ok (.ldc_w idx, 3)) (k : G X M d (pc + 3) lv (.int v :: st) h rv h') : G X M d pc lv st h rv h' :=
  G.of k fun l dC dI cA base b p e R s m args below meth c H locs cells slots mc ms ls Q hC hW => lv_ldcw hC.1.1 hC.1.2.1 hC.1.2.2.2.2.2.1 (hC.1.2.2.2.2.2.2.2 _ hw) hd hW
theorem G.ldc2 {idx : Nat} {v : Int64} (hw : Cond.constantLong M.1 idx v ∈ lwg) (hd : decode M.2.2.1 pc = .ok (.ldc2_w idx, 3)) (k : G X M d (pc + 3) lv (.long v :: st) h rv h') : G X M d pc lv st h rv h' :=
  G.of k fun l dC dI cA base b p e R s m args below meth c H locs cells slots mc ms ls Q hC hW => lv_ldc2 hC.1.1 hC.1.2.1 hC.1.2.2.2.2.2.1 (hC.1.2.2.2.2.2.2.2 _ hw) hd hW
/-- returns -/
theorem G.iret {ty : FieldType} {v : Int32} (hr : M.2.2.2.2 = some ty) (hn : narrow ty (.int v) = .int v) (hd : decode M.2.2.1 pc = .ok (.ireturn, 1)) : G X M d pc lv [.int v] h (some v) h := by
  refine ⟨⟨Nat.le_refl _, Nat.le_refl _⟩, fun l dC dI cA base b p e R s m args below meth c H locs cells slots mc ms ls hC => ?_⟩
  obtain ⟨⟨hx, hb, hml, hret, hlocks, hown, hnm, hts⟩, ⟨hK, hX, hN⟩, hP, hS, hbase, hl, -, ⟨hc1, hc2⟩, -⟩ := hC
  refine W.widen (k := mc) (n := ms) (by omega) (by omega) ?_
  exact W.zret (ty := ty) hx hb (hret.trans hr) hn (fun t ht hW => ⟨rfl, by rw [ht]; exact hP, ⟨va_K.moved hW.alike hK, ⟨by rw [ht]; exact hX.1.moved hW.alike, hX.2⟩, hN.warm hW⟩, hS.F ht⟩) (fun q hq => hS.2.2 q hq) hd hlocks
theorem G.vret (hr : M.2.2.2.2 = none) (hd : decode M.2.2.1 pc = .ok (.return_, 1)) : G X M d pc lv [] h none h := by
  refine ⟨⟨Nat.le_refl _, Nat.le_refl _⟩, fun l dC dI cA base b p e R s m args below meth c H locs cells slots mc ms ls hC => ?_⟩
  obtain ⟨⟨hx, hb, hml, hret, hlocks, hown, hnm, hts⟩, ⟨hK, hX, hN⟩, hP, hS, hbase, hl, -, ⟨hc1, hc2⟩, -⟩ := hC
  refine W.widen (k := mc) (n := ms) (by omega) (by omega) ?_
  exact W.vret hx hb (hret.trans hr) (fun t ht hW => ⟨rfl, by rw [ht]; exact hP, ⟨va_K.moved hW.alike hK, ⟨by rw [ht]; exact hX.1.moved hW.alike, hX.2⟩, hN.warm hW⟩, hS.F ht⟩) (fun q hq => hS.2.2 q hq) hd hlocks
end GB
/-- a class of the list: number, name, fields, types -/
def CI (ci : Nat) (C : String) (T : u_T) (N : Nat) (ty : Nat → FieldType) : Prop := vwCl[ci]? = some (C, T, N) ∧ (∀ w ∈ u_ws C T N, w ∈ lwg) ∧ (∀ k, k < N → parseFieldDescriptor (T k).2.2.1 = some (ty k)) ∧ (∀ a, a < N → ∀ b, b < N → a ≠ b → (T a).2.1 ≠ (T b).2.1)
/-- a field that the entry idx of own's pool names: class number, place, type; 0: not final, 1: final and own's, 2: only read -/
def Fl (own : String) (idx ci k : Nat) (ty : FieldType) (fin : Nat) : Prop := ∃ (C : String) (T : u_T) (N : Nat) (tyf : Nat → FieldType), CI ci C T N tyf ∧ k < N ∧ Cond.fieldLink own idx (T k).1 (T k).2.1 (T k).2.2.1 ∈ lwg ∧ tyf k = ty ∧ (fin = 0 → (T k).2.2.2 = false) ∧ (fin = 1 → (T k).2.2.2 = true ∧ (T k).1 = own)
theorem oget_spec {h : AH} {ci a k : Nat} {v : Value} (e : oget h ci a k = some v) : ∃ fs, h[a]? = some (.inr (ci, fs)) ∧ fs[k]? = some v := by
  unfold oget at e
  split at e
  · rename_i c fs he
    split at e
    · rename_i hc
      subst hc
      exact ⟨fs, he, e⟩
    · cases e
  · cases e
theorem pf_spec {h h1 : AH} {ci a k : Nat} {v : Value} (e : pf h ci a k v = some h1) : ∃ fs, h[a]? = some (.inr (ci, fs)) ∧ k < fs.length ∧ h1 = h.set a (.inr (ci, fs.set k v)) := by
  unfold pf at e
  split at e
  · rename_i c fs he
    split at e
    · rename_i hc
      obtain ⟨rfl, hk⟩ := hc
      exact ⟨fs, he, hk, (Option.some.inj e).symm⟩
    · cases e
  · cases e
section GF
variable {X : SX} {M : MD} {d pc : Nat} {lv lv' : Lv} {st : List Value} {h h' : AH} {rv : Option Int32}
theorem G.get {idx ci a k : Nat} {ty : FieldType} {fin : Nat} {v : Value} (hf : Fl M.1 idx ci k ty fin) (hd : decode M.2.2.1 pc = .ok (.getfield idx, 3)) (hv : oget h ci a k = some v) (kk : G X M d (pc + 3) lv (v :: st) h rv h') : G X M d pc lv (.ref a :: st) h rv h' :=
  G.of kk fun l dC dI cA base b p e R s m args below meth c H locs cells slots mc ms ls Q hC hW => by
    obtain ⟨C, T, N, tyf, hCI, hk, hlk, -, -, -⟩ := hf
    obtain ⟨fs, h1, h2⟩ := oget_spec hv
    exact va_get hC.1.1 hC.1.2.1 hC.1.2.2.2.2.2.2.2 hCI.2.1 hC.1.2.2.2.2.2.1 hC.2.1.1 hC.2.2.1.1 a (con_at h1) hCI.1 k hk (hC.1.2.2.2.2.2.2.2 _ hlk) (fun x hx => hx) (v := shv base b v) (by rw [List.getElem?_map, h2]; rfl) hd hW
theorem G.geti {α : Type} {F : Int32 → Option α} {r : α} {idx ci a k : Nat} {ty : FieldType} {fin : Nat} (hf : Fl M.1 idx ci k ty fin) (hd : decode M.2.2.1 pc = .ok (.getfield idx, 3)) (hb : (gi h ci a k).bind F = some r) (kk : ∀ x, F x = some r → G X M d (pc + 3) lv (.int x :: st) h rv h') : G X M d pc lv (.ref a :: st) h rv h' := by
  obtain ⟨x, e1, e2⟩ := Option.bind_eq_some_iff.mp hb
  refine G.get hf hd (v := .int x) ?_ (kk x e2)
  unfold gi at e1
  split at e1
  · rename_i q; cases e1; exact q
  · cases e1
theorem G.getl {α : Type} {F : Int64 → Option α} {r : α} {idx ci a k : Nat} {ty : FieldType} {fin : Nat} (hf : Fl M.1 idx ci k ty fin) (hd : decode M.2.2.1 pc = .ok (.getfield idx, 3)) (hb : (gl h ci a k).bind F = some r) (kk : ∀ x, F x = some r → G X M d (pc + 3) lv (.long x :: st) h rv h') : G X M d pc lv (.ref a :: st) h rv h' := by
  obtain ⟨x, e1, e2⟩ := Option.bind_eq_some_iff.mp hb
  refine G.get hf hd (v := .long x) ?_ (kk x e2)
  unfold gl at e1
  split at e1
  · rename_i q; cases e1; exact q
  · cases e1
theorem G.getr {α : Type} {F : Nat → Option α} {r : α} {idx ci a k : Nat} {ty : FieldType} {fin : Nat} (hf : Fl M.1 idx ci k ty fin) (hd : decode M.2.2.1 pc = .ok (.getfield idx, 3)) (hb : (gr h ci a k).bind F = some r) (kk : ∀ x, F x = some r → G X M d (pc + 3) lv (.ref x :: st) h rv h') : G X M d pc lv (.ref a :: st) h rv h' := by
  obtain ⟨x, e1, e2⟩ := Option.bind_eq_some_iff.mp hb
  refine G.get hf hd (v := .ref x) ?_ (kk x e2)
  unfold gr at e1
  split at e1
  · rename_i q; cases e1; exact q
  · cases e1
theorem G.put {α : Type} {F : AH → Option α} {r : α} {idx ci a k : Nat} {ty : FieldType} {fin : Nat} {v : Value} (hf : Fl M.1 idx ci k ty fin) (hfin : fin = 0 ∨ (fin = 1 ∧ M.2.1.name = "<init>")) (hv : ∀ base b, narrow ty (shv base b v) = shv base b v ∧ fits ty (shv base b v) = true) (hd : decode M.2.2.1 pc = .ok (.putfield idx, 3)) (hb : (pf h ci a k v).bind F = some r) (kk : ∀ h1, F h1 = some r → G X M d (pc + 3) lv st h1 rv h') : G X M d pc lv (v :: .ref a :: st) h rv h' := by
  obtain ⟨h1, e1, e2⟩ := Option.bind_eq_some_iff.mp hb
  obtain ⟨fs, f1, f2, rfl⟩ := pf_spec e1
  obtain ⟨k1, k2⟩ := kk _ e2
  have hlen : (h.set a (.inr (ci, fs.set k v))).length = h.length := List.length_set
  have hasz : asz (h.set a (.inr (ci, fs.set k v))) = asz h := asz_set h a _ _ f1 (by simp [ces])
  refine ⟨⟨by rw [← hlen]; exact k1.1, by rw [← hasz]; exact k1.2⟩, fun l dC dI cA base b p e R s m args below meth c H locs cells slots mc ms ls hC => ?_⟩
  obtain ⟨C, T, N, tyf, hCI, hk, hlk, hty, hfi, hdecl⟩ := hf
  subst hty
  have hfin' : (T k).2.2.2 = false ∨ ((T k).2.2.2 = true ∧ meth.name = "<init>" ∧ (T k).1 = M.1) := by
    rcases hfin with rfl | ⟨rfl, z⟩
    · exact Or.inl (hfi rfl)
    · exact Or.inr ⟨(hdecl rfl).1, hC.1.2.2.2.2.2.2.1.trans z, (hdecl rfl).2⟩
  refine wq_put (A := fun q => base ≤ q) hC.1.1 hC.1.2.1 hC.1.2.2.2.2.2.2.2 hCI.2.1 tyf hCI.2.2.1 hCI.2.2.2 hC.1.2.2.2.2.2.1 hC.2.1.1 hC.2.2.1.1 (con_D h) hC.2.2.2.1 a (con_at f1) hCI.1 k hk (hC.1.2.2.2.2.2.2.2 _ hlk) hfin' (hv base b).1 (hv base b).2 (by rw [List.length_map]; exact f2) hd fun H1 locs1 hP1 hz oq hS1 => ?_
  refine k2 l dC dI cA base b p e R s m args below meth c H1 locs1 cells slots mc ms ls (hC.heap ?_ hz (fun q hq => oq q (by omega)) hS1 hlen hasz)
  rw [con_set, Nat.zero_add]
  show va_P _ _ ((con base b cA 0 h).set a (base + a, .inr (ci, (fs.set k v).map (shv base b)))) H1
  rw [List.map_set]
  exact hP1
end GF
