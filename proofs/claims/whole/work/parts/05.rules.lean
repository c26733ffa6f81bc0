theorem wq_copyi {p : Program} {l : Launch} {e : Env} {R : Room} {s : State} {m : MethodId} {args : Array Value} {below : List Frame} {meth : Method} {c : Code} {H : Heap} {locs : List Loc} {cells slots : Nat} {Q : State → Prop}
    {pc : Nat} {ls : Array Slot} {rest : List Value} {D : va_G} {cl : List vw_C} {A : Nat → Prop} {a : Nat} {tys : List (ClassId × FieldType)} {ws : va_W} {H0 : Heap}
    {cc : ByteArray} (hexec : p.tables.exec = Jvm.exec) (hb : c.code = cc) (hml : c.maxLocals = ls.size) {own : String} {index : Nat} (hown : s.vm.findClass own = some m.cls) (hlink : (Cond.methodLink own index arraycopyName).before args s = true) (hnat : (Cond.native arraycopyName).before args s = true) (hstat : (Cond.static arraycopyName).before args s = true) (hini : (Cond.initialized "java/lang/System").before args s = true)
    (hK : va_K D cl tys s) (hP : va_P D cl ws H) (hD : va_D A ws) (hS : va_S A H0 H locs) (q0 q1 t0 : Nat) {a0 : Nat} {c0 : ClassId} {n0 n1 : Nat} {f g : Nat → Int32} (ha0 : ws[q0]? = some (a0, .inl (c0, n0, .inl f))) (ha1 : ws[q1]? = some (a, .inl (c0, n1, .inl g))) (ht0 : tys[t0]? = some (c0, .int))
    {sp dp n : Int32} (h1 : ¬ sp < 0) (h2 : ¬ dp < 0) (h3 : ¬ n < 0) (h4 : sp.toNatClampNeg + n.toNatClampNeg ≤ n0) (h5 : dp.toNatClampNeg + n.toNatClampNeg ≤ n1)
    (hframes : 1 ≤ R.frames) (hlocals : (rest.map fun v => v.category).sum + (nativeFrameWords "java/lang/System" "arraycopy" 5 + 11) ≤ R.locals) (hdg : decode cc pc = .ok (.invokestatic index, 3))
    (kk : ∀ (H1 : Heap) (locs1 : List Loc), va_P D cl (ws.set q1 (a, .inl (c0, n1, .inl (va_cpy f g sp.toNatClampNeg dp.toNatClampNeg n.toNatClampNeg)))) H1 → H1.size = H.size → (∀ q : Nat, q ≠ a → H1[q]? = H[q]?) → va_S A H0 H1 locs1 → W p l e R s m args below meth c H1 locs1 cells slots Q (F0 m (pc + 3) ls rest)) : W p l e R s m args below meth c H locs cells slots Q (F0 m pc ls (.int n :: .int dp :: .ref a :: .int sp :: .ref a0 :: rest)) := by
  have nn : ∀ z : Int32, ¬ z < 0 → z.toInt = (z.toNatClampNeg : Int) := by
    intro z hz
    have hz0 : (0 : Int) ≤ z.toInt := by
      have := Int32.not_lt.mp hz
      simpa using Int32.le_iff_toInt_le.mp this
    show z.toInt = ((z.toInt.toNat : Nat) : Int)
    omega
  intro T hT X
  have hc0 : H[a0]? = some (vp_cell c0 (n0, .inl f)) := hP q0 _ ha0
  have hc1 : H[a]? = some (vp_cell c0 (n1, .inl g)) := hP q1 _ ha1
  obtain ⟨-, k0, hk0, cm0, hkk0⟩ := (hK.2 t0 _ ht0).1 n0 (fun j => .int (f j))
  obtain ⟨-, k1, hk1, cm1, hkk1⟩ := (hK.2 t0 _ ht0).1 n1 (fun j => .int (g j))
  obtain ⟨vm', X', step⟩ := X.arraycopy hexec hown hlink hnat hstat hini (src := a0) (dst := a) (cs := vp_cell c0 (n0, .inl f)) (cd := vp_cell c0 (n1, .inl g)) (srcPos := sp) (destPos := dp) (n := n) (by rw [hT]; exact hc0) (by rw [hT]; exact hc1)
    (fun _ h => by cases h) (fun _ h => by cases h) (fun h => by cases h) (fun h => by cases h) hk0 hk1 hkk0 hkk1 (by simp [refKind]) h1 h2 h3
    (by rw [nn sp h1, nn n h3]; show ¬ _ > ((arrV c0 n0 (fun j => .int (f j))).slots.size : Int); rw [arrV_size]; omega)
    (by rw [nn dp h2, nn n h3]; show ¬ _ > ((arrV c0 n1 (fun j => .int (g j))).slots.size : Int); rw [arrV_size]; omega)
    (fun vm₁ _ i hi => by
      have e : (vp_cell c0 (n0, .inl f)).slots.getD (sp.toNatClampNeg + i) .null = .int (f (sp.toNatClampNeg + i)) := by
        show (arrV c0 n0 (fun j => .int (f j))).slots.getD _ _ = _
        rw [Array.getD_eq_getD_getElem?, arrV_read _ _ (by omega)]
        rfl
      refine ⟨?_, ?_⟩
      · rw [e]
        rfl
      · rw [e]
        exact trivial)
    (g := F0 m pc ls (.int n :: .int dp :: .ref a :: .int sp :: .ref a0 :: rest)) rfl (by rw [hml]) (rest := rest) rfl (by rw [hb]; exact hdg) hframes (by show 2 * 0 + _ + _ ≤ _; omega)
  have e1 : copied (vp_cell c0 (n0, .inl f)) (vp_cell c0 (n1, .inl g)) sp dp n = vp_cell c0 (n1, .inl (va_cpy f g sp.toNatClampNeg dp.toNatClampNeg n.toNatClampNeg)) := va_copied (fun z => .int z) c0 c0 f g h4
  rw [e1] at X' step
  have hl : a < H.size := (Array.getElem?_eq_some_iff.mp hc1).1
  have hheap : ((T.setVm vm').setCell a (vp_cell c0 (n1, .inl (va_cpy f g sp.toNatClampNeg dp.toNatClampNeg n.toNatClampNeg)))).heap = H.setIfInBounds a (vp_cell c0 (n1, .inl (va_cpy f g sp.toNatClampNeg dp.toNatClampNeg n.toNatClampNeg))) := by rw [← hT]; rfl
  have oq : ∀ q : Nat, q ≠ a → (H.setIfInBounds a (vp_cell c0 (n1, .inl (va_cpy f g sp.toNatClampNeg dp.toNatClampNeg n.toNatClampNeg))))[q]? = H[q]? := fun q hq => by simp [Array.getElem?_setIfInBounds, Ne.symm hq]
  obtain ⟨t, a1, b1⟩ := kk _ _ (hP.set hD ha1 (show (H.setIfInBounds a _)[a]? = some _ by simp [Array.getElem?_setIfInBounds, hl]) oq) (by simp) oq ⟨by simp; exact hS.1, fun q g1 g2 => by
      rw [oq q (fun e => g2 (by rw [e]; exact hD.2 q1 _ ha1))]
      exact hS.2.1 q g1 g2, fun q hq => by
      rcases List.mem_append.mp hq with h | h
      · exact hS.2.2 q h
      · obtain ⟨z, -, hz⟩ := List.mem_map.mp h
        rw [← hz]
        exact hD.2 q1 _ ha1⟩ _ hheap X'
  exact ⟨t, step t a1, b1⟩
/-! how what a frame stands on is carried on -/
section CX
variable {X : SX} {M : MD} {d : Nat} {lv : Lv} {h h' : AH} {dC : Nat → ClassId} {dI : Nat → Nat → Nat} {cA : Nat → ClassId} {base b : Nat} {p : Program} {R : Room} {s : State} {m : MethodId} {args : Array Value} {meth : Method} {c : Code} {H : Heap} {locs : List Loc} {cells slots mc ms : Nat} {ls : Array Slot}
theorem Cx.heap (hC : Cx X M d lv h h' dC dI cA base b p R s m args meth c H locs cells slots mc ms ls) {h1 : AH} {H1 : Heap} {locs1 : List Loc} (hP1 : va_P (dC, dI) vwCl (con base b cA 0 h1) H1) (hz : H1.size = H.size) (oq : ∀ q : Nat, q < base → H1[q]? = H[q]?) (hS : va_S (fun q => base ≤ q) s.heap H1 locs1) (hl : h1.length = h.length) (ha : asz h1 = asz h) :
    Cx X M d lv h1 h' dC dI cA base b p R s m args meth c H1 locs1 cells slots mc ms ls := by
  obtain ⟨g1, ⟨k1, ⟨k2, k3⟩, k4⟩, ⟨g3, g4⟩, g5, g6, g7, g8, ⟨g9, g10⟩, g11⟩ := hC
  exact ⟨g1, ⟨k1, ⟨k2.kept (oq b k3), k3⟩, k4⟩, ⟨hP1, by rw [hz, g4, hl]⟩, hS, g6, g7, g8, ⟨by rw [hl]; exact g9, by rw [ha]; exact g10⟩, g11⟩
theorem Cx.loc (hC : Cx X M d lv h h' dC dI cA base b p R s m args meth c H locs cells slots mc ms ls) {lv' : Lv} {ls' : Array Slot} (hl : lv_has ls' M.2.2.2.1 (shl base b lv')) :
    Cx X M d lv' h h' dC dI cA base b p R s m args meth c H locs cells slots mc ms ls' := by
  obtain ⟨g1, g2, g3, g5, g6, g7, g8, g9, g11⟩ := hC
  exact ⟨g1, g2, g3, g5, g6, hl, g8, g9, g11⟩
/-- a local variable is read -/
theorem Cx.look (hC : Cx X M d lv h h' dC dI cA base b p R s m args meth c H locs cells slots mc ms ls) {i : Nat} {v : Value} (hv : lv.lookup i = some v) : ls[i]? = some (.val (shv base b v)) := by
  have hm : ∀ (l : Lv), l.lookup i = some v → (i, v) ∈ l := by
    intro l
    induction l with
    | nil => intro h; simp at h
    | cons q l ih =>
      intro h
      obtain ⟨k, w⟩ := q
      rw [List.lookup_cons] at h
      cases hk : (i == k) with
      | true =>
        rw [hk] at h
        cases h
        rw [eq_of_beq hk]
        exact List.mem_cons_self
      | false =>
        rw [hk] at h
        exact List.mem_cons_of_mem _ (ih h)
  exact hC.2.2.2.2.2.1.2.2 (i, shv base b v) (List.mem_map.mpr ⟨(i, v), hm lv hv, rfl⟩)
end CX
/-- a local is written: the others, without a long that it cuts -/
def lvset (lv : Lv) (i : Nat) (v : Value) : Lv := (i, v) :: lv.filter (fun q => !(q.1 == i) && !(q.1 + 1 == i && q.2.category == 2))
def lvset2 (lv : Lv) (i : Nat) (v : Value) : Lv := (i, v) :: lv.filter (fun q => !(q.1 == i) && (!(q.1 == i + 1) && !(q.1 + 1 == i && q.2.category == 2)))
theorem shv_cat (base b : Nat) (v : Value) : (shv base b v).category = v.category := by cases v <;> rfl
theorem shl_set (base b : Nat) (lv : Lv) (i : Nat) (v : Value) : shl base b (lvset lv i v) = (i, shv base b v) :: (shl base b lv).filter (fun q => !(q.1 == i) && !(q.1 + 1 == i && q.2.category == 2)) := by
  simp [shl, lvset, List.filter_map, Function.comp_def, shv_cat]
theorem shl_set2 (base b : Nat) (lv : Lv) (i : Nat) (v : Value) : shl base b (lvset2 lv i v) = (i, shv base b v) :: (shl base b lv).filter (fun q => !(q.1 == i) && (!(q.1 == i + 1) && !(q.1 + 1 == i && q.2.category == 2))) := by
  simp [shl, lvset2, List.filter_map, Function.comp_def, shv_cat]
section GR
variable {X : SX} {M : MD} {d pc : Nat} {lv lv' : Lv} {st : List Value} {h h' : AH} {rv : Option Int32}
/-- a rule that changes nothing but the stack and the place -/
theorem G.of {pc' : Nat} {st st' : List Value} (k : G X M d pc' lv st' h rv h')
    (r : ∀ (l : Launch) (dC : Nat → ClassId) (dI : Nat → Nat → Nat) (cA : Nat → ClassId) (base b : Nat) (p : Program) (e : Env) (R : Room) (s : State) (m : MethodId) (args : Array Value) (below : List Frame) (meth : Method) (c : Code) (H : Heap) (locs : List Loc) (cells slots mc ms : Nat) (ls : Array Slot) (Q : State → Prop),
      Cx X M d lv h h' dC dI cA base b p R s m args meth c H locs cells slots mc ms ls → W p l e R s m args below meth c H locs cells slots Q (F0 m pc' ls (st'.map (shv base b))) → W p l e R s m args below meth c H locs cells slots Q (F0 m pc ls (st.map (shv base b)))) : G X M d pc lv st h rv h' :=
  ⟨k.1, fun l dC dI cA base b p e R s m args below meth c H locs cells slots mc ms ls hC => r l dC dI cA base b p e R s m args below meth c H locs cells slots mc ms ls _ hC (k.2 l dC dI cA base b p e R s m args below meth c H locs cells slots mc ms ls hC)⟩
theorem G.iconst {n : Int} {v : Int32} (hd : decode M.2.2.1 pc = .ok (.iconst n, 1)) (hv : Int32.ofInt n = v) (k : G X M d (pc + 1) lv (.int v :: st) h rv h') : G X M d pc lv st h rv h' :=
  G.of k fun l dC dI cA base b p e R s m args below meth c H locs cells slots mc ms ls Q hC hW => lv_iconst hC.1.1 hC.1.2.1 hd hv hW
theorem G.bipush {n : Int} {v : Int32} (hd : decode M.2.2.1 pc = .ok (.bipush n, 2)) (hv : (Int8.ofInt n).toInt32 = v) (k : G X M d (pc + 2) lv (.int v :: st) h rv h') : G X M d pc lv st h rv h' :=
  G.of k fun l dC dI cA base b p e R s m args below meth c H locs cells slots mc ms ls Q hC hW => lv_bipush hC.1.1 hC.1.2.1 hd hv hW
theorem G.sipush {n : Int} {v : Int32} (hd : decode M.2.2.1 pc = .ok (.sipush n, 3)) (hv : (Int16.ofInt n).toInt32 = v) (k : G X M d (pc + 3) lv (.int v :: st) h rv h') : G X M d pc lv st h rv h' :=
  G.of k fun l dC dI cA base b p e R s m args below meth c H locs cells slots mc ms ls Q hC hW => lv_sipush hC.1.1 hC.1.2.1 hd hv hW
theorem G.iload_n {i : Fin 4} {x : Int32} (hd : decode M.2.2.1 pc = .ok (.iload_n i, 1)) (hl : lv.lookup (i : Nat) = some (.int x)) (k : G X M d (pc + 1) lv (.int x :: st) h rv h') : G X M d pc lv st h rv h' :=
  G.of k fun l dC dI cA base b p e R s m args below meth c H locs cells slots mc ms ls Q hC hW => lv_iload_n hC.1.1 hC.1.2.1 hd rfl (hC.look hl) hW
theorem G.iload {i : Nat} {x : Int32} (hd : decode M.2.2.1 pc = .ok (.iload i, 2)) (hl : lv.lookup i = some (.int x)) (k : G X M d (pc + 2) lv (.int x :: st) h rv h') : G X M d pc lv st h rv h' :=
  G.of k fun l dC dI cA base b p e R s m args below meth c H locs cells slots mc ms ls Q hC hW => lv_iload hC.1.1 hC.1.2.1 hd (hC.look hl) hW
theorem G.lload_n {i : Fin 4} {x : Int64} (hd : decode M.2.2.1 pc = .ok (.lload_n i, 1)) (hl : lv.lookup (i : Nat) = some (.long x)) (k : G X M d (pc + 1) lv (.long x :: st) h rv h') : G X M d pc lv st h rv h' :=
  G.of k fun l dC dI cA base b p e R s m args below meth c H locs cells slots mc ms ls Q hC hW => lv_lload_n hC.1.1 hC.1.2.1 hd rfl (hC.look hl) hW
theorem G.aload_n {i : Fin 4} {x : Nat} (hd : decode M.2.2.1 pc = .ok (.aload_n i, 1)) (hl : lv.lookup (i : Nat) = some (.ref x)) (k : G X M d (pc + 1) lv (.ref x :: st) h rv h') : G X M d pc lv st h rv h' :=
  G.of k fun l dC dI cA base b p e R s m args below meth c H locs cells slots mc ms ls Q hC hW => lv_aload_n hC.1.1 hC.1.2.1 hd rfl (hC.look hl) hW
/-- the script's reference -/
theorem G.sload_n {i : Fin 4} {z : UInt32} (hd : decode M.2.2.1 pc = .ok (.aload_n i, 1)) (hl : lv.lookup (i : Nat) = some (.float z)) (k : G X M d (pc + 1) lv (.float z :: st) h rv h') : G X M d pc lv st h rv h' :=
  G.of k fun l dC dI cA base b p e R s m args below meth c H locs cells slots mc ms ls Q hC hW => lv_aload_n hC.1.1 hC.1.2.1 hd rfl (hC.look hl) hW
theorem G.aload {i : Nat} {x : Nat} (hd : decode M.2.2.1 pc = .ok (.aload i, 2)) (hl : lv.lookup i = some (.ref x)) (k : G X M d (pc + 2) lv (.ref x :: st) h rv h') : G X M d pc lv st h rv h' :=
  G.of k fun l dC dI cA base b p e R s m args below meth c H locs cells slots mc ms ls Q hC hW => lv_aload hC.1.1 hC.1.2.1 hd (hC.look hl) hW
/-- stores: the new list is named -/
theorem G.istore_n {i : Fin 4} {x : Int32} (hd : decode M.2.2.1 pc = .ok (.istore_n i, 1)) (hn : (i : Nat) < M.2.2.2.1) (hl : lvset lv i (.int x) = lv') (k : G X M d (pc + 1) lv' st h rv h') : G X M d pc lv (.int x :: st) h rv h' :=
  ⟨k.1, fun l dC dI cA base b p e R s m args below meth c H locs cells slots mc ms ls hC => lv_istore_n hC.1.1 hC.1.2.1 hd rfl hC.2.2.2.2.2.1 hn rfl fun ls' hl' => k.2 l dC dI cA base b p e R s m args below meth c H locs cells slots mc ms ls' (hC.loc (by rw [← hl, shl_set]; exact hl'))⟩
theorem G.istore {i : Nat} {x : Int32} (hd : decode M.2.2.1 pc = .ok (.istore i, 2)) (hn : i < M.2.2.2.1) (hl : lvset lv i (.int x) = lv') (k : G X M d (pc + 2) lv' st h rv h') : G X M d pc lv (.int x :: st) h rv h' :=
  ⟨k.1, fun l dC dI cA base b p e R s m args below meth c H locs cells slots mc ms ls hC => lv_istore hC.1.1 hC.1.2.1 hd hC.2.2.2.2.2.1 hn rfl fun ls' hl' => k.2 l dC dI cA base b p e R s m args below meth c H locs cells slots mc ms ls' (hC.loc (by rw [← hl, shl_set]; exact hl'))⟩
theorem G.lstore_n {i : Fin 4} {x : Int64} (hd : decode M.2.2.1 pc = .ok (.lstore_n i, 1)) (hn : (i : Nat) + 1 < M.2.2.2.1) (hl : lvset2 lv i (.long x) = lv') (k : G X M d (pc + 1) lv' st h rv h') : G X M d pc lv (.long x :: st) h rv h' :=
  ⟨k.1, fun l dC dI cA base b p e R s m args below meth c H locs cells slots mc ms ls hC => lv_lstore_n hC.1.1 hC.1.2.1 hd rfl hC.2.2.2.2.2.1 hn rfl fun ls' hl' => k.2 l dC dI cA base b p e R s m args below meth c H locs cells slots mc ms ls' (hC.loc (by rw [← hl, shl_set2]; exact hl'))⟩
theorem G.astore_n {i : Fin 4} {x : Nat} (hd : decode M.2.2.1 pc = .ok (.astore_n i, 1)) (hn : (i : Nat) < M.2.2.2.1) (hl : lvset lv i (.ref x) = lv') (k : G X M d (pc + 1) lv' st h rv h') : G X M d pc lv (.ref x :: st) h rv h' :=
  ⟨k.1, fun l dC dI cA base b p e R s m args below meth c H locs cells slots mc ms ls hC => lv_astore_n hC.1.1 hC.1.2.1 hd rfl hC.2.2.2.2.2.1 hn rfl fun ls' hl' => k.2 l dC dI cA base b p e R s m args below meth c H locs cells slots mc ms ls' (hC.loc (by rw [← hl, shl_set]; exact hl'))⟩
theorem G.iinc {i : Nat} {n : Int} {x v : Int32} (hd : decode M.2.2.1 pc = .ok (.iinc i n, 3)) (hk : lv.lookup i = some (.int x)) (hv : x + Int32.ofInt n = v) (hn : i < M.2.2.2.1) (hl : lvset lv i (.int v) = lv') (k : G X M d (pc + 3) lv' st h rv h') : G X M d pc lv st h rv h' := by
  refine ⟨k.1, fun l dC dI cA base b p e R s m args below meth c H locs cells slots mc ms ls hC => ?_⟩
  have hx := hC.look hk
  have h1 : lv_has ls M.2.2.2.1 ((i, .int x) :: shl base b lv) := ⟨hC.2.2.2.2.2.1.1, hC.2.2.2.2.2.1.2.1, fun q hq => by
    rcases List.mem_cons.mp hq with rfl | hq
    · exact hx
    · exact hC.2.2.2.2.2.1.2.2 q hq⟩
  refine lv_iinc (k := 0) (v := v) hC.1.1 hC.1.2.1 hd h1 rfl hv hn rfl fun ls' hl' => k.2 l dC dI cA base b p e R s m args below meth c H locs cells slots mc ms ls' (hC.loc ?_)
  rw [← hl, shl_set]
  refine ⟨hl'.1, hl'.2.1, fun q hq => hl'.2.2 q ?_⟩
  rcases List.mem_cons.mp hq with h2 | h2
  · exact List.mem_cons.mpr (Or.inl h2)
  · obtain ⟨h3, h4⟩ := List.mem_filter.mp h2
    exact List.mem_cons_of_mem _ (List.mem_filter.mpr ⟨List.mem_cons_of_mem _ h3, h4⟩)
/-- fewer locals, in any order -/
theorem G.sub (hs : ∀ q ∈ lv', q ∈ lv) (k : G X M d pc lv' st h rv h') : G X M d pc lv st h rv h' := by
  refine ⟨k.1, fun l dC dI cA base b p e R s m args below meth c H locs cells slots mc ms ls hC => k.2 l dC dI cA base b p e R s m args below meth c H locs cells slots mc ms ls (hC.loc ⟨hC.2.2.2.2.2.1.1, hC.2.2.2.2.2.1.2.1, fun q hq => hC.2.2.2.2.2.1.2.2 q ?_⟩)⟩
  obtain ⟨q0, h1, h2⟩ := List.mem_map.mp hq
  exact List.mem_map.mpr ⟨q0, hs q0 h1, h2⟩
theorem G.pick (ks : List Nat) (hs : lv_pick lv ks = lv') (k : G X M d pc lv' st h rv h') : G X M d pc lv st h rv h' := by
  refine G.sub (fun q hq => ?_) k
  rw [← hs] at hq
  obtain ⟨i, -, hi⟩ := List.mem_filterMap.mp hq
  exact List.mem_of_getElem? hi
theorem G.iadd {x y : Int32} (hd : decode M.2.2.1 pc = .ok (.iadd, 1)) (k : G X M d (pc + 1) lv (.int (x + y) :: st) h rv h') : G X M d pc lv (.int y :: .int x :: st) h rv h' :=
  G.of k fun l dC dI cA base b p e R s m args below meth c H locs cells slots mc ms ls Q hC hW => lv_iadd hC.1.1 hC.1.2.1 hd hW
theorem G.isub {x y : Int32} (hd : decode M.2.2.1 pc = .ok (.isub, 1)) (k : G X M d (pc + 1) lv (.int (x - y) :: st) h rv h') : G X M d pc lv (.int y :: .int x :: st) h rv h' :=
  G.of k fun l dC dI cA base b p e R s m args below meth c H locs cells slots mc ms ls Q hC hW => lv_isub hC.1.1 hC.1.2.1 hd hW
theorem G.imul {x y : Int32} (hd : decode M.2.2.1 pc = .ok (.imul, 1)) (k : G X M d (pc + 1) lv (.int (x * y) :: st) h rv h') : G X M d pc lv (.int y :: .int x :: st) h rv h' :=
  G.of k fun l dC dI cA base b p e R s m args below meth c H locs cells slots mc ms ls Q hC hW => lv_imul hC.1.1 hC.1.2.1 hd hW
theorem G.iand {x y : Int32} (hd : decode M.2.2.1 pc = .ok (.iand, 1)) (k : G X M d (pc + 1) lv (.int (x &&& y) :: st) h rv h') : G X M d pc lv (.int y :: .int x :: st) h rv h' :=
  G.of k fun l dC dI cA base b p e R s m args below meth c H locs cells slots mc ms ls Q hC hW => lv_iand hC.1.1 hC.1.2.1 hd hW
theorem G.ior {x y : Int32} (hd : decode M.2.2.1 pc = .ok (.ior, 1)) (k : G X M d (pc + 1) lv (.int (x ||| y) :: st) h rv h') : G X M d pc lv (.int y :: .int x :: st) h rv h' :=
  G.of k fun l dC dI cA base b p e R s m args below meth c H locs cells slots mc ms ls Q hC hW => lv_ior hC.1.1 hC.1.2.1 hd hW
theorem G.ixor {x y : Int32} (hd : decode M.2.2.1 pc = .ok (.ixor, 1)) (k : G X M d (pc + 1) lv (.int (x ^^^ y) :: st) h rv h') : G X M d pc lv (.int y :: .int x :: st) h rv h' :=
  G.of k fun l dC dI cA base b p e R s m args below meth c H locs cells slots mc ms ls Q hC hW => lv_ixor hC.1.1 hC.1.2.1 hd hW
theorem G.ishl {x y : Int32} (hd : decode M.2.2.1 pc = .ok (.ishl, 1)) (k : G X M d (pc + 1) lv (.int (x <<< (y &&& 31)) :: st) h rv h') : G X M d pc lv (.int y :: .int x :: st) h rv h' :=
  G.of k fun l dC dI cA base b p e R s m args below meth c H locs cells slots mc ms ls Q hC hW => lv_ishl hC.1.1 hC.1.2.1 hd hW
theorem G.ishr {x y : Int32} (hd : decode M.2.2.1 pc = .ok (.ishr, 1)) (k : G X M d (pc + 1) lv (.int (x >>> (y &&& 31)) :: st) h rv h') : G X M d pc lv (.int y :: .int x :: st) h rv h' :=
  G.of k fun l dC dI cA base b p e R s m args below meth c H locs cells slots mc ms ls Q hC hW => lv_ishr hC.1.1 hC.1.2.1 hd hW
theorem G.iushr {x y : Int32} (hd : decode M.2.2.1 pc = .ok (.iushr, 1)) (k : G X M d (pc + 1) lv (.int ((x.toUInt32 >>> (y.toUInt32 &&& Int32.toUInt32 31)).toInt32) :: st) h rv h') : G X M d pc lv (.int y :: .int x :: st) h rv h' :=
  G.of k fun l dC dI cA base b p e R s m args below meth c H locs cells slots mc ms ls Q hC hW => lv_iushr hC.1.1 hC.1.2.1 hd rfl hW
theorem G.idiv {x y : Int32} (hd : decode M.2.2.1 pc = .ok (.idiv, 1)) (hy : ¬ y = 0) (k : G X M d (pc + 1) lv (.int (x / y) :: st) h rv h') : G X M d pc lv (.int y :: .int x :: st) h rv h' :=
  G.of k fun l dC dI cA base b p e R s m args below meth c H locs cells slots mc ms ls Q hC hW => lv_idiv hC.1.1 hC.1.2.1 hd hy hW
theorem G.irem {x y : Int32} (hd : decode M.2.2.1 pc = .ok (.irem, 1)) (hy : ¬ y = 0) (k : G X M d (pc + 1) lv (.int (x - x / y * y) :: st) h rv h') : G X M d pc lv (.int y :: .int x :: st) h rv h' :=
  G.of k fun l dC dI cA base b p e R s m args below meth c H locs cells slots mc ms ls Q hC hW => lv_irem hC.1.1 hC.1.2.1 hd hy hW
theorem G.ladd {x y : Int64} (hd : decode M.2.2.1 pc = .ok (.ladd, 1)) (k : G X M d (pc + 1) lv (.long (x + y) :: st) h rv h') : G X M d pc lv (.long y :: .long x :: st) h rv h' :=
  G.of k fun l dC dI cA base b p e R s m args below meth c H locs cells slots mc ms ls Q hC hW => lv_ladd hC.1.1 hC.1.2.1 hd hW
theorem G.lmul {x y : Int64} (hd : decode M.2.2.1 pc = .ok (.lmul, 1)) (k : G X M d (pc + 1) lv (.long (x * y) :: st) h rv h') : G X M d pc lv (.long y :: .long x :: st) h rv h' :=
  G.of k fun l dC dI cA base b p e R s m args below meth c H locs cells slots mc ms ls Q hC hW => lv_lmul hC.1.1 hC.1.2.1 hd hW
theorem G.ldiv {x y : Int64} (hd : decode M.2.2.1 pc = .ok (.ldiv, 1)) (hy : ¬ y = 0) (k : G X M d (pc + 1) lv (.long (x / y) :: st) h rv h') : G X M d pc lv (.long y :: .long x :: st) h rv h' :=
  G.of k fun l dC dI cA base b p e R s m args below meth c H locs cells slots mc ms ls Q hC hW => lv_ldiv hC.1.1 hC.1.2.1 hd hy hW
theorem G.lrem {x y : Int64} (hd : decode M.2.2.1 pc = .ok (.lrem, 1)) (hy : ¬ y = 0) (k : G X M d (pc + 1) lv (.long (x - x / y * y) :: st) h rv h') : G X M d pc lv (.long y :: .long x :: st) h rv h' :=
  G.of k fun l dC dI cA base b p e R s m args below meth c H locs cells slots mc ms ls Q hC hW => lv_lrem hC.1.1 hC.1.2.1 hd hy hW
theorem G.i2l {x : Int32} (hd : decode M.2.2.1 pc = .ok (.i2l, 1)) (k : G X M d (pc + 1) lv (.long x.toInt64 :: st) h rv h') : G X M d pc lv (.int x :: st) h rv h' :=
  G.of k fun l dC dI cA base b p e R s m args below meth c H locs cells slots mc ms ls Q hC hW => lv_i2l hC.1.1 hC.1.2.1 hd rfl hW
theorem G.l2i {x : Int64} (hd : decode M.2.2.1 pc = .ok (.l2i, 1)) (k : G X M d (pc + 1) lv (.int x.toInt32 :: st) h rv h') : G X M d pc lv (.long x :: st) h rv h' :=
  G.of k fun l dC dI cA base b p e R s m args below meth c H locs cells slots mc ms ls Q hC hW => lv_l2i hC.1.1 hC.1.2.1 hd rfl hW
theorem G.i2c {x : Int32} (hd : decode M.2.2.1 pc = .ok (.i2c, 1)) (k : G X M d (pc + 1) lv (.int (x.toUInt32 % 65536).toInt32 :: st) h rv h') : G X M d pc lv (.int x :: st) h rv h' :=
  G.of k fun l dC dI cA base b p e R s m args below meth c H locs cells slots mc ms ls Q hC hW => lv_i2c hC.1.1 hC.1.2.1 hd rfl hW
theorem G.dup {v : Value} (hd : decode M.2.2.1 pc = .ok (.dup, 1)) (hv : v.category = 1) (k : G X M d (pc + 1) lv (v :: v :: st) h rv h') : G X M d pc lv (v :: st) h rv h' :=
  G.of k fun l dC dI cA base b p e R s m args below meth c H locs cells slots mc ms ls Q hC hW => lv_dup hC.1.1 hC.1.2.1 hd (by rw [shv_cat]; exact hv) hW
theorem G.pop {v : Value} (hd : decode M.2.2.1 pc = .ok (.pop, 1)) (hv : v.category = 1) (k : G X M d (pc + 1) lv st h rv h') : G X M d pc lv (v :: st) h rv h' :=
  G.of k fun l dC dI cA base b p e R s m args below meth c H locs cells slots mc ms ls Q hC hW => lv_pop hC.1.1 hC.1.2.1 hd (by rw [shv_cat]; exact hv) hW
theorem G.dup2 {v w : Value} (hd : decode M.2.2.1 pc = .ok (.dup2, 1)) (hv : v.category = 1) (hw : w.category = 1) (k : G X M d (pc + 1) lv (v :: w :: v :: w :: st) h rv h') : G X M d pc lv (v :: w :: st) h rv h' :=
  G.of k fun l dC dI cA base b p e R s m args below meth c H locs cells slots mc ms ls Q hC hW => lv_dup2_11 hC.1.1 hC.1.2.1 hd (by rw [shv_cat]; exact hv) (by rw [shv_cat]; exact hw) hW
theorem G.goto {off : Int} (tgt : Nat) (hd : decode M.2.2.1 pc = .ok (.goto off, 3)) (ht : (pc : Int) + off = (tgt : Int)) (k : G X M d tgt lv st h rv h') : G X M d pc lv st h rv h' :=
  G.of k fun l dC dI cA base b p e R s m args below meth c H locs cells slots mc ms ls Q hC hW => lv_goto hC.1.1 hC.1.2.1 hd ht hW
end GR
