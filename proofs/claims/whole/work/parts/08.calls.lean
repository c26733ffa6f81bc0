section GN
variable {X : SX} {M : MD} {d pc : Nat} {lv lv' : Lv} {st : List Value} {h h' : AH} {rv : Option Int32}
/-- a frame stands on a larger heap -/
theorem Cx.grow {dC : Nat → ClassId} {dI : Nat → Nat → Nat} {cA : Nat → ClassId} {base b : Nat} {p : Program} {R : Room} {s : State} {m : MethodId} {args : Array Value} {meth : Method} {c : Code} {H : Heap} {locs : List Loc} {cells slots mc ms : Nat} {ls : Array Slot}
    (hC : Cx X M d lv h h' dC dI cA base b p R s m args meth c H locs cells slots mc ms ls) {e0 : va_E} {H1 : Heap} (hP1 : va_P (dC, dI) vwCl (con base b cA 0 h ++ [(H.size, she base b cA e0)]) H1) (hz : H1.size = H.size + 1) (oq : ∀ q : Nat, q < H.size → H1[q]? = H[q]?) (hS : va_S (fun q => base ≤ q) s.heap H1 locs) :
    Cx X M d lv (h ++ [e0]) h' dC dI cA base b p R s m args meth c H1 locs (cells + 1) (slots + ces e0) mc ms ls := by
  obtain ⟨g1, ⟨k1, ⟨k2, k3⟩, k4⟩, ⟨g3, g4⟩, g5, g6, g7, g8, ⟨g9, g10⟩, g11⟩ := hC
  refine ⟨g1, ⟨k1, ⟨k2.kept (oq b (by omega)), k3⟩, k4⟩, ⟨?_, by rw [hz, g4, List.length_append]; simp; omega⟩, hS, g6, g7, g8, ⟨by rw [List.length_append]; simp; omega, by rw [asz_app]; omega⟩, g11⟩
  rw [con_app, Nat.zero_add, ← g4]
  exact hP1
theorem G.new {idx ci N : Nat} {C : String} {T : u_T} {ty : Nat → FieldType} {fs : List Value} (hCI : CI ci C T N ty) (hw : Cond.classLink M.1 idx C ∈ lwg ∧ Cond.instantiable C N ∈ lwg ∧ Cond.initialized C ∈ lwg) (hfs : fs.length = N ∧ ∀ j, j < N → defaultValue (ty j) = vp_V fs j) (hfr : ∀ base b, fs.map (shv base b) = fs) (hd : decode M.2.2.1 pc = .ok (.new idx, 3)) (k : G X M d (pc + 3) lv (.ref h.length :: st) (h ++ [.inr (ci, fs)]) rv h') : G X M d pc lv st h rv h' := by
  obtain ⟨k1, k2⟩ := k
  rw [asz_app, List.length_append, show ([(.inr (ci, fs) : va_E)] : List va_E).length = 1 from rfl, show ces (.inr (ci, fs)) = fs.length from rfl, hfs.1] at k1
  refine ⟨⟨by omega, by omega⟩, fun l dC dI cA base b p e R s m args below meth c H locs cells slots mc ms ls hC => ?_⟩
  have hC0 := hC
  obtain ⟨⟨hx, hb, hml, hret, hlocks, hown, hnm, hts⟩, hK, hP, hS, hbase, hl, hr, ⟨hc1, hc2⟩, hc3, hc4⟩ := hC
  refine wq_new (A := fun q => base ≤ q) hx hb hts hCI.2.1 ty hCI.2.2.1 hown (hts _ hw.1) (hts _ hw.2.1) (hts _ hw.2.2) hK.1 hP.1 hS hCI.1 hfs.2 (by omega) (by omega) hd fun H1 hP1 hz oq hS1 => ?_
  have hC1 := hC0.grow (e0 := .inr (ci, fs)) (by show va_P _ _ (_ ++ [(H.size, .inr (ci, fs.map (shv base b)))]) _; rw [hfr]; exact hP1) hz oq hS1
  rw [show ces (.inr (ci, fs)) = N from hfs.1] at hC1
  have := k2 l dC dI cA base b p e R s m args below meth c H1 locs (cells + 1) (slots + N) mc ms ls hC1
  rw [List.map_cons, show shv base b (.ref h.length) = .ref H.size by rw [hP.2]; rfl] at this
  exact this
theorem G.newa {kd N : Nat} {n : Int32} {atype : ArrayType} {a0 : vp_A} (hw : Cond.arrayClass (newarray.typeOf atype) ∈ lwg) (hkd : ∀ cA : Nat → ClassId, (tyl cA)[kd]? = some (cA kd, newarray.typeOf atype)) (ha : (∀ base b cA, she base b cA (.inl (kd, a0)) = .inl (cA kd, a0)) ∧ (∀ cA : ClassId, vp_cell cA a0 = arrV cA N (fun _ => defaultValue (newarray.typeOf atype))) ∧ a0.1 = N) (hn : ¬ n < 0) (hN : n.toNatClampNeg = N) (hbytes : N * componentBytes (newarray.typeOf atype) ≤ 536870912) (hd : decode M.2.2.1 pc = .ok (.newarray atype, 2)) (k : G X M d (pc + 2) lv (.ref h.length :: st) (h ++ [.inl (kd, a0)]) rv h') : G X M d pc lv (.int n :: st) h rv h' := by
  obtain ⟨k1, k2⟩ := k
  have hces : ces (.inl (kd, a0)) = N := ha.2.2
  rw [asz_app, List.length_append, show ([(.inl (kd, a0) : va_E)] : List va_E).length = 1 from rfl, hces] at k1
  refine ⟨⟨by omega, by omega⟩, fun l dC dI cA base b p e R s m args below meth c H locs cells slots mc ms ls hC => ?_⟩
  have hC0 := hC
  obtain ⟨⟨hx, hb, hml, hret, hlocks, hown, hnm, hts⟩, hK, hP, hS, hbase, hl, hr, ⟨hc1, hc2⟩, hc3, hc4⟩ := hC
  have hRA := (hK.1.2 kd _ (hkd cA)).2
  have hcA : s.vm.findClass ("[" ++ (newarray.typeOf atype).toString) = some (cA kd) := by cases atype <;> exact hRA
  refine wq_newa (A := fun q => base ≤ q) hx hb (hts _ hw) hP.1 hS (a0 := a0) hcA (ha.2.1 _) hn hN hbytes (by omega) (by omega) hd fun H1 hP1 hz oq hS1 => ?_
  have hC1 := hC0.grow (e0 := .inl (kd, a0)) (by rw [ha.1]; exact hP1) hz oq hS1
  rw [hces] at hC1
  have := k2 l dC dI cA base b p e R s m args below meth c H1 locs (cells + 1) (slots + N) mc ms ls hC1
  rw [List.map_cons, show shv base b (.ref h.length) = .ref H.size by rw [hP.2]; rfl] at this
  exact this
theorem G.newq {idx kd N : Nat} {n : Int32} {C : String} (hw : Cond.classLink M.1 idx C ∈ lwg) (hkd : (kd = 4 ∧ C = RX4) ∨ (kd = 5 ∧ C = RX2)) (hn : ¬ n < 0) (hN : n.toNatClampNeg = N) (hbytes : N * 4 ≤ 536870912) (hd : decode M.2.2.1 pc = .ok (.anewarray idx, 3)) (k : G X M d (pc + 3) lv (.ref h.length :: st) (h ++ [.inl (kd, N, .inr (.inr (.inr (.inr (fun _ => none)))))]) rv h') : G X M d pc lv (.int n :: st) h rv h' := by
  obtain ⟨k1, k2⟩ := k
  have hces : ces (.inl (kd, N, .inr (.inr (.inr (.inr (fun _ => none)))))) = N := rfl
  rw [asz_app, List.length_append, hces] at k1
  simp only [List.length_cons, List.length_nil, Nat.zero_add] at k1
  refine ⟨⟨by omega, by omega⟩, fun l dC dI cA base b p e R s m args below meth c H locs cells slots mc ms ls hC => ?_⟩
  have hC0 := hC
  obtain ⟨⟨hx, hb, hml, hret, hlocks, hown, hnm, hts⟩, hK, hP, hS, hbase, hl, hr, ⟨hc1, hc2⟩, hc3, hc4⟩ := hC
  have hkk : (tyl cA)[kd]? = some (cA kd, .object C) := by rcases hkd with ⟨rfl, rfl⟩ | ⟨rfl, rfl⟩ <;> rfl
  have hover : va_AO C s := by
    rcases hkd with ⟨-, rfl⟩ | ⟨-, rfl⟩
    · exact hK.2.2.2.1
    · exact hK.2.2.2.2
  obtain ⟨kA, comp, -, -, -, hcA⟩ := (hK.1.2 kd _ hkk).2
  refine wq_newq (A := fun q => base ≤ q) hx hb hown (hts _ hw) hover hP.1 hS hcA hn hN hbytes (by omega) (by omega) hd fun H1 hP1 hz oq hS1 => ?_
  have hC1 := hC0.grow (e0 := .inl (kd, N, .inr (.inr (.inr (.inr (fun _ => none)))))) hP1 hz oq hS1
  rw [hces] at hC1
  have := k2 l dC dI cA base b p e R s m args below meth c H1 locs (cells + 1) (slots + N) mc ms ls hC1
  rw [List.map_cons, show shv base b (.ref h.length) = .ref H.size by rw [hP.2]; rfl] at this
  exact this
theorem G.oinit {idx a : Nat} (hw : Cond.methodLink M.1 idx Lib.objectInit ∈ lwg ∧ Cond.instanceMethod Lib.objectInit ∈ lwg ∧ Cond.code Lib.objectInit ⟨#[0xb1]⟩ 1 none ∈ lwg) (hs : (st.map fun v => v.category).sum ≤ 8) (hd : decode M.2.2.1 pc = .ok (.invokespecial idx, 3)) (k : G X M (d + 1) (pc + 3) lv st h rv h') : G X M (d + 1) pc lv (.ref a :: st) h rv h' := by
  refine G.of k fun l dC dI cA base b p e R s m args below meth c H locs cells slots mc ms ls Q hC hW => ?_
  obtain ⟨⟨hx, hb, hml, hret, hlocks, hown, hnm, hts⟩, hK, hP, hS, hbase, hl, ⟨hr1, hr2⟩, ⟨hc1, hc2⟩, hc3, hc4⟩ := hC
  exact W.objInit hx hb hown (hts _ hw.1) (hts _ hw.2.1) (hts _ hw.2.2) rfl (hl.1.trans hml.symm) rfl hd (by omega) (by show 2 * 0 + _ + 12 ≤ _; rw [st_cat]; omega) hW
end GN
/-! ===== calls ===== -/
theorem Met.ofWF {l : Launch} {y : MethodName} {ws ws' : List Cond} {rm : Room} {Pc : Array Value → State → Prop} {Qc : Array Value → State → Outcome → State → Prop} {mc ms : Nat} {free : Addr → Prop} {cc : ByteArray} {maxL : Nat} {ret : Option FieldType}
    (hy : plainFor y = true) (hw : ws = Cond.code y cc maxL ret :: ws')
    (body : ∀ p e s m args below meth c s₁, BodyLoose p l y (headSpec ws rm) cc maxL ret e s m args below meth c s₁ → c.maxLocals = maxL → Pc args s →
      W p l e (headSpec ws rm).room s m args below meth c s.heap [] 0 0 (MQ below Qc args s mc ms free) (entryFrame m args maxL)) : Met l y ws rm Pc Qc mc ms free := by
  refine MetFree.of_bodySF (code := cc) (maxLocals := maxL) (ret := ret) hy ?_ ?_
  · intro args s m h hn
    obtain ⟨meth, c, h1, h2, h3, h4, h5, h6, -, -⟩ := Cond.code_spec hn (atoms_spec (ws := ws) h _ (by rw [hw]; exact List.mem_cons_self))
    exact ⟨meth, c, h1, h2, h3, h4, h5, h6⟩
  · intro p e s m args below meth c s₁ B hml hP _
    have hh0 : s₁.heap = s.heap := by rw [B.state]; rfl
    obtain ⟨t, a1, o, b1, b2, b3⟩ := body p e s m args below meth c s₁ B hml hP s₁ hh0 (Stand.of_body B)
    exact ⟨t, o, a1, b1, b2, ⟨b3.1, b3.2⟩⟩
/-- what the tables say of a method -/
def MOK (M : MD) (n : Nat) : Prop := Cond.code M.2.1 M.2.2.1 M.2.2.2.1 M.2.2.2.2 ∈ lwg ∧ Cond.initialized M.2.1.cls ∈ lwg ∧ (M.1 = M.2.1.cls ∧ plainFor M.2.1 = true) ∧ (M.2.1.cls ≠ "java/lang/invoke/MethodHandle" ∧ M.2.1.cls ≠ "java/lang/invoke/VarHandle" ∧ (parseMethodDescriptor M.2.1.desc).map (fun d => d.parameters.length) = some n) ∧ M.2.2.2.1 ≤ 40
def Pcx (X : SX) (dC : Nat → ClassId) (dI : Nat → Nat → Nat) (cA : Nat → ClassId) (base b : Nat) (av : List Value) (h : AH) : Array Value → State → Prop := fun v U =>
  v = (av.map (shv base b)).toArray ∧ Hp dC dI cA base b h U.heap ∧ Kx X dC dI cA base b U U.heap
theorem Pcx.blind {X : SX} {dC : Nat → ClassId} {dI : Nat → Nat → Nat} {cA : Nat → ClassId} {base b : Nat} {av : List Value} {h : AH} : FrameBlind (Pcx X dC dI cA base b av h) := by
  intro a U g mk ⟨q1, q2, q3, ⟨q4, q5⟩, q6, q7, q8⟩
  exact ⟨q1, q2, va_K.moved (u := U) (U := U.calling g mk a) (Vm.Alike.refl U.vm) q3, ⟨va_X.moved (u := U) (U := U.calling g mk a) (Vm.Alike.refl U.vm) q4, q5⟩, fun q hq => va_Nw.same (u := U) rfl rfl (q6 q hq), q7.moved (u := U) (U := U.calling g mk a) (Vm.Alike.refl U.vm), q8.moved (u := U) (U := U.calling g mk a) (Vm.Alike.refl U.vm)⟩
theorem lv_args_sh (base b : Nat) : ∀ (av : List Value) (i : Nat), shl base b (lv_args i av) = lv_args i (av.map (shv base b))
  | [], i => rfl
  | v :: av, i => by
    simp only [List.map_cons, lv_args, shl]
    rw [shv_cat]
    exact congrArg _ (lv_args_sh base b av _)
theorem lg_sl_sh (base b : Nat) : ∀ av : List Value, (lg_sl (av.map (shv base b))).length = (lg_sl av).length
  | [] => rfl
  | v :: av => by
    have ih := lg_sl_sh base b av
    simp only [lg_sl, List.map_cons, List.flatMap_cons, List.length_append] at ih ⊢
    rw [ih, shv_cat]
    by_cases hc : v.category = 2
    · rw [if_pos hc, if_pos hc]; rfl
    · rw [if_neg hc, if_neg hc]; rfl
abbrev rmx (d mc ms : Nat) : Room := { frames := d, cells := mc, slots := ms, locals := 64 * d }
theorem G.met {X : SX} {M : MD} {n d : Nat} {av : List Value} {h h' : AH} {rv : Option Int32} (hM : MOK M n) (hav : (lg_sl av).length ≤ M.2.2.2.1) (k : G X M d 0 (lv_args 0 av) [] h rv h') (l : Launch) (dC : Nat → ClassId) (dI : Nat → Nat → Nat) (cA : Nat → ClassId) (base b : Nat) :
    Met l M.2.1 (Cond.code M.2.1 M.2.2.1 M.2.2.2.1 M.2.2.2.2 :: lwg) (rmx d (h'.length - h.length) (asz h' - asz h)) (Pcx X dC dI cA base b av h) (Qx X dC dI cA base b rv h') (h'.length - h.length) (asz h' - asz h) (fun q => base ≤ q) := by
  refine Met.ofWF (cc := M.2.2.1) (maxL := M.2.2.2.1) (ret := M.2.2.2.2) hM.2.2.1.2 rfl ?_
  intro p e s m args below meth c s₁ B hml hv
  obtain ⟨rfl, hP, hK⟩ := hv
  have hts := atoms_spec (ws := Cond.code M.2.1 M.2.2.1 M.2.2.2.1 M.2.2.2.2 :: lwg) B.pre
  have hown : s.vm.findClass M.2.1.cls = some m.cls := findClass_of_methodNamed B.named
  have hnm : meth.name = M.2.1.name := (name_of_methodNamed B.named B.method).1
  have hsl := lg_sl_sh base b av
  have hl := lv_entry (av.map (shv base b)) (n := M.2.2.2.1) (by rw [hsl]; exact hav)
  rw [lg_entry_eq]
  generalize (lg_sl (av.map (shv base b)) ++ List.replicate (M.2.2.2.1 - (lg_sl (av.map (shv base b))).length) Slot.unset).toArray = ls at hl ⊢
  rw [← lv_args_sh] at hl
  have hm := k.1
  exact k.2 l dC dI cA base b p e _ s m _ below meth c s.heap [] 0 0 _ _ ls ⟨⟨B.exec, B.bytes, hml, B.returns, B.notSynchronized, hM.2.2.1.1.symm ▸ hown, hnm, fun w hw => hts w (List.mem_cons_of_mem _ hw)⟩, hK, hP, va_S.rf, by rw [hP.2]; omega, hl, ⟨Nat.le_refl _, Nat.le_refl _⟩, ⟨by omega, by omega⟩, Nat.le_refl _, Nat.le_refl _⟩
section GC
variable {X : SX} {M M' : MD} {d pc n : Nat} {lv lv' : Lv} {st : List Value} {h h1 h' : AH} {rv rv1 : Option Int32}
/-- behind a call -/
theorem wq_after {dC : Nat → ClassId} {dI : Nat → Nat → Nat} {cA : Nat → ClassId} {base b : Nat} {p : Program} {l : Launch} {e : Env} {R : Room} {s : State} {m : MethodId} {args : Array Value} {below : List Frame} {meth : Method} {c : Code} {H : Heap} {locs : List Loc} {cells slots mc ms : Nat} {ls : Array Slot} {Q : State → Prop} {a : Array Value} {st0 rest : List Value}
    (hr : va_Run p l e R s m args below meth c H locs cells slots mc ms (F0 m pc ls st0) rest (Qx X dC dI cA base b rv1 h1 a) (fun q => base ≤ q)) (hS : va_S (fun q => base ≤ q) s.heap H locs) (hb : base ≤ H.size)
    (kk : ∀ (H1 : Heap) (locs1 : List Loc), Hp dC dI cA base b h1 H1 → (∀ q : Nat, q < base → H1[q]? = H[q]?) → va_S (fun q => base ≤ q) s.heap H1 locs1 → W p l e R s m args below meth c H1 locs1 (cells + mc) (slots + ms) Q (F0 m (pc + 3) ls ((rv1.map Value.int).toList ++ rest))) : W p l e R s m args below meth c H locs cells slots Q (F0 m pc ls st0) := by
  intro T hT Xs
  obtain ⟨v, st₀, t, T', L, h0, X', hL, e1, e2, ⟨hv, hHp, -, hz, hk⟩, st⟩ := hr T hT Xs
  have hv' : v = rv1.map Value.int := Outcome.returned.inj hv
  subst hv'
  rw [h0] at hz hk
  obtain ⟨t2, a1, b1⟩ := kk T'.heap (locs ++ L) (by rw [e1]; exact hHp) (fun q hq => by rw [e1]; exact hk q (by omega) (by omega))
    ⟨Nat.le_trans hS.1 (by rw [e1]; exact hz), fun q h1 h2 => by rw [e1, hk q (Nat.lt_of_lt_of_le h1 hS.1) h2]; exact hS.2.1 q h1 h2, fun q hq => by
      rcases List.mem_append.mp hq with h | h
      · exact hS.2.2 q h
      · exact hL q h⟩ T' rfl X'
  exact ⟨t2, st t2 a1, b1⟩
theorem Cx.back {dC : Nat → ClassId} {dI : Nat → Nat → Nat} {cA : Nat → ClassId} {base b : Nat} {p : Program} {R : Room} {s : State} {m : MethodId} {args : Array Value} {meth : Method} {c : Code} {H : Heap} {locs : List Loc} {cells slots mc ms : Nat} {ls : Array Slot}
    (hC : Cx X M d lv h h' dC dI cA base b p R s m args meth c H locs cells slots mc ms ls) {H1 : Heap} {locs1 : List Loc} (hP1 : Hp dC dI cA base b h1 H1) (oq : ∀ q : Nat, q < base → H1[q]? = H[q]?) (hS : va_S (fun q => base ≤ q) s.heap H1 locs1) (m1 : h.length ≤ h1.length ∧ asz h ≤ asz h1) :
    Cx X M d lv h1 h' dC dI cA base b p R s m args meth c H1 locs1 (cells + (h1.length - h.length)) (slots + (asz h1 - asz h)) mc ms ls := by
  obtain ⟨g1, ⟨k1, ⟨k2, k3⟩, k4⟩, g3, g5, g6, g7, g8, ⟨g9, g10⟩, g11⟩ := hC
  exact ⟨g1, ⟨k1, ⟨k2.kept (oq b k3), k3⟩, k4⟩, hP1, hS, g6, g7, g8, ⟨by omega, by omega⟩, g11⟩
/-- the state that a callee begins with -/
theorem Cx.pcx {dC : Nat → ClassId} {dI : Nat → Nat → Nat} {cA : Nat → ClassId} {base b : Nat} {p : Program} {R : Room} {s : State} {m : MethodId} {args : Array Value} {meth : Method} {c : Code} {H : Heap} {locs : List Loc} {cells slots mc ms : Nat} {ls : Array Slot}
    (hC : Cx X M d lv h h' dC dI cA base b p R s m args meth c H locs cells slots mc ms ls) (av : List Value) : ∀ U : State, U.heap = H → s.WarmedH U.vm → Pcx X dC dI cA base b av h (av.map (shv base b)).toArray U := by
  intro U hU hW
  obtain ⟨g1, ⟨k1, ⟨k2, k3⟩, k4⟩, g3, -⟩ := hC
  exact ⟨rfl, by rw [hU]; exact g3, va_K.moved hW.alike k1, ⟨by rw [hU]; exact k2.moved hW.alike, k3⟩, k4.warm hW⟩
def isO (h : AH) (ci a : Nat) : Bool := match h[a]? with
  | some (.inr (c, _)) => c == ci
  | _ => false
theorem isO_spec {h : AH} {ci a : Nat} (e : isO h ci a = true) : ∃ fs, h[a]? = some (.inr (ci, fs)) := by
  unfold isO at e
  split at e
  · rename_i c fs he
    rw [eq_of_beq e] at he
    exact ⟨fs, he⟩
  · cases e
theorem G.callV {idx ci a : Nat} {As st0 : List Value} {q0 : vw_C} (hM : MOK M' As.length) (hvi : Cond.instanceMethod M'.2.1 ∈ lwg ∧ Cond.selects M'.2.1.cls M'.2.1 M'.2.1 ∈ lwg) (hlk : Cond.methodLink M.1 idx M'.2.1 ∈ lwg) (hc : vwCl[ci]? = some q0) (hq : q0.1 = M'.2.1.cls) (hst : st0 = As.reverse ++ .ref a :: st) (hav : (lg_sl (.ref a :: As)).length ≤ M'.2.2.2.1) (hs : (st.map fun v => v.category).sum ≤ 8) (hd : decode M.2.2.1 pc = .ok (.invokevirtual idx, 3))
    (ho : isO h ci a = true) (k1 : G X M' d 0 (lv_args 0 (.ref a :: As)) [] h rv1 h1) (k2 : G X M (d + 1) (pc + 3) lv ((rv1.map Value.int).toList ++ st) h1 rv h') : G X M (d + 1) pc lv st0 h rv h' := by
  obtain ⟨m1, -⟩ := id k1
  obtain ⟨m2, w2⟩ := k2
  refine ⟨⟨by omega, by omega⟩, fun l dC dI cA base b p e R s m args below meth c H locs cells slots mc ms ls hC => ?_⟩
  have hC0 := hC
  have hmet := G.met hM hav k1 l dC dI cA base b
  obtain ⟨fs, hfs⟩ := isO_spec ho
  have hrec := va_recv hC.2.1.1 hC.2.2.1.1 hc (con_at hfs)
  rw [hq] at hrec
  obtain ⟨⟨hx, hb, hml, hret, hlocks, hown, hnm, hts⟩, hK, hP, hS, hbase, hl, ⟨hr1, hr2⟩, ⟨hc1, hc2⟩, hc3, hc4⟩ := hC
  obtain ⟨o1, o2, o3, o4, o5⟩ := hM
  subst hst
  have hpx := hC0.pcx (.ref a :: As)
  refine wq_after (va_runV (As := As.map (shv base b)) (rest := st.map (shv base b)) (b := base + a) (nL := M.2.2.2.1) (n := As.length) ⟨hx, hb, hml, hown, hts⟩ hmet ⟨callB_of As.length hts (lwg_good o1) rfl rfl rfl (hts _ o2) (hts _ hlk) o4 ⟨hr1, by show 8 + (M'.2.2.2.1 + 11) + 64 * d ≤ _; omega⟩, hts _ hvi.1, hts _ hvi.2⟩ ⟨Pcx.blind, hrec, hpx⟩ rfl (by rw [List.length_map]) hl.1 (by simp [List.map_append, List.map_reverse]; rfl) (lv_room (by rw [st_cat]; exact hs)) hd ⟨by omega, by omega⟩) hS (by rw [hP.2]; omega) fun H1 locs1 hP1 oq hS1 => ?_
  have := w2 l dC dI cA base b p e R s m args below meth c H1 locs1 _ _ mc ms ls (hC0.back hP1 oq hS1 m1)
  rw [List.map_append, show ((rv1.map Value.int).toList.map (shv base b)) = (rv1.map Value.int).toList by cases rv1 <;> rfl] at this
  exact this
theorem G.callS {idx : Nat} {As st0 : List Value} (hM : MOK M' As.length) (hvi : Cond.static M'.2.1 ∈ lwg) (hlk : Cond.methodLink M.1 idx M'.2.1 ∈ lwg) (hst : st0 = As.reverse ++ st) (hav : (lg_sl As).length ≤ M'.2.2.2.1) (hs : (st.map fun v => v.category).sum ≤ 8) (hd : decode M.2.2.1 pc = .ok (.invokestatic idx, 3))
    (k1 : G X M' d 0 (lv_args 0 As) [] h rv1 h1) (k2 : G X M (d + 1) (pc + 3) lv ((rv1.map Value.int).toList ++ st) h1 rv h') : G X M (d + 1) pc lv st0 h rv h' := by
  obtain ⟨m1, -⟩ := id k1
  obtain ⟨m2, w2⟩ := k2
  refine ⟨⟨by omega, by omega⟩, fun l dC dI cA base b p e R s m args below meth c H locs cells slots mc ms ls hC => ?_⟩
  have hC0 := hC
  have hmet := G.met hM hav k1 l dC dI cA base b
  obtain ⟨⟨hx, hb, hml, hret, hlocks, hown, hnm, hts⟩, hK, hP, hS, hbase, hl, ⟨hr1, hr2⟩, ⟨hc1, hc2⟩, hc3, hc4⟩ := hC
  obtain ⟨o1, o2, o3, o4, o5⟩ := hM
  subst hst
  have hpx := hC0.pcx As
  refine wq_after (va_runS (As := As.map (shv base b)) (rest := st.map (shv base b)) (nL := M.2.2.2.1) (n := As.length) ⟨hx, hb, hml, hown, hts⟩ hmet ⟨callB_of As.length hts (lwg_good o1) rfl rfl rfl (hts _ o2) (hts _ hlk) o4 ⟨hr1, by show 8 + (M'.2.2.2.1 + 11) + 64 * d ≤ _; omega⟩, hts _ hvi⟩ ⟨Pcx.blind, hpx⟩ rfl (by rw [List.length_map]) hl.1 (by simp [List.map_append, List.map_reverse]) (lv_room (by rw [st_cat]; exact hs)) hd ⟨by omega, by omega⟩) hS (by rw [hP.2]; omega) fun H1 locs1 hP1 oq hS1 => ?_
  have := w2 l dC dI cA base b p e R s m args below meth c H1 locs1 _ _ mc ms ls (hC0.back hP1 oq hS1 m1)
  rw [List.map_append, show ((rv1.map Value.int).toList.map (shv base b)) = (rv1.map Value.int).toList by cases rv1 <;> rfl] at this
  exact this
/-- a constructor: plain, and a nest mate's -/
theorem G.callI {idx a : Nat} {As st0 : List Value} (hM : MOK M' As.length) (hret0 : M'.2.2.2.2 = none ∧ M'.2.1.name = "<init>") (hvi : Cond.instanceMethod M'.2.1 ∈ lwg) (hlk : Cond.methodLink M.1 idx M'.2.1 ∈ lwg ∨ ∃ host, (M.1, idx, M'.2.1, host) ∈ nsl) (hst : st0 = As.reverse ++ .ref a :: st) (hav : (lg_sl (.ref a :: As)).length ≤ M'.2.2.2.1) (hs : (st.map fun v => v.category).sum ≤ 8) (hd : decode M.2.2.1 pc = .ok (.invokespecial idx, 3))
    (k1 : G X M' d 0 (lv_args 0 (.ref a :: As)) [] h rv1 h1) (k2 : G X M (d + 1) (pc + 3) lv ((rv1.map Value.int).toList ++ st) h1 rv h') : G X M (d + 1) pc lv st0 h rv h' := by
  obtain ⟨m1, -⟩ := id k1
  obtain ⟨m2, w2⟩ := k2
  refine ⟨⟨by omega, by omega⟩, fun l dC dI cA base b p e R s m args below meth c H locs cells slots mc ms ls hC => ?_⟩
  have hC0 := hC
  have hmet := G.met hM hav k1 l dC dI cA base b
  obtain ⟨⟨hx, hb, hml, hret, hlocks, hown, hnm, hts⟩, hK, hP, hS, hbase, hl, ⟨hr1, hr2⟩, ⟨hc1, hc2⟩, hc3, hc4⟩ := hC
  obtain ⟨o1, o2, o3, o4, o5⟩ := hM
  subst hst
  have hpx := hC0.pcx (.ref a :: As)
  rw [hret0.1] at o1 hmet
  have hrun : va_Run p l e R s m args below meth c H locs cells slots (h1.length - h.length) (asz h1 - asz h) (F0 m pc ls ((As.reverse ++ .ref a :: st).map (shv base b))) (st.map (shv base b)) (Qx X dC dI cA base b rv1 h1 (Value.ref (base + a) :: As.map (shv base b)).toArray) (fun q => base ≤ q) := by
    rcases hlk with hlk | ⟨host, hlk⟩
    · exact va_runI (As := As.map (shv base b)) (rest := st.map (shv base b)) (b := base + a) (nL := M.2.2.2.1) (n := As.length) ⟨hx, hb, hml, hown, hts⟩ hmet ⟨callB_of As.length hts (lwg_good o1) rfl rfl rfl (hts _ o2) (hts _ hlk) o4 ⟨hr1, by show 8 + (M'.2.2.2.1 + 11) + 64 * d ≤ _; omega⟩, hret0.2, hts _ hvi⟩ ⟨Pcx.blind, hpx⟩ rfl (by rw [List.length_map]) hl.1 (by simp [List.map_append, List.map_reverse]; rfl) (lv_room (by rw [st_cat]; exact hs)) hd ⟨by omega, by omega⟩
    · exact va_runIN (As := As.map (shv base b)) (rest := st.map (shv base b)) (b := base + a) (nL := M.2.2.2.1) (n := As.length) ⟨hx, hb, hml, hown, hts⟩ hmet ⟨va_cnB As.length hts (lwg_good o1) rfl rfl rfl (hK.2.2.1 _ hlk) (hts _ o2) o4 ⟨hr1, by show 8 + (M'.2.2.2.1 + 11) + 64 * d ≤ _; omega⟩, hret0.2, hts _ hvi⟩ ⟨Pcx.blind, hpx⟩ rfl (by rw [List.length_map]) hl.1 (by simp [List.map_append, List.map_reverse]; rfl) (lv_room (by rw [st_cat]; exact hs)) hd ⟨by omega, by omega⟩
  refine wq_after hrun hS (by rw [hP.2]; omega) fun H1 locs1 hP1 oq hS1 => ?_
  have := w2 l dC dI cA base b p e R s m args below meth c H1 locs1 _ _ mc ms ls (hC0.back hP1 oq hS1 m1)
  rw [List.map_append, show ((rv1.map Value.int).toList.map (shv base b)) = (rv1.map Value.int).toList by cases rv1 <;> rfl] at this
  exact this
end GC
