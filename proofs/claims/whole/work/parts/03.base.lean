/-! abstract heap: a list of cells; an object: (class number in vwCl, fields); an array: (kind, length, contents); references are places in the list -/
abbrev AH : Type := List va_E
abbrev Lv : Type := List (Nat × Value)
/-- a method: class, name, bytes, locals, what it returns -/
abbrev MD : Type := String × MethodName × ByteArray × Nat × Option FieldType
abbrev SX : Type := Nat × (Nat → Int32)
/-- the words that are kept over a call -/
def lwg : List Cond := lw_tbl.filter goodWord
theorem lwg_mem {w : Cond} (i : Nat) (h : lw_tbl[i]? = some w) (hg : goodWord w = true) : w ∈ lwg := List.mem_filter.mpr ⟨List.mem_of_getElem? h, hg⟩
theorem lwg_good {w : Cond} (h : w ∈ lwg) : GoodIn lwg (w :: lwg) := by
  intro v hv
  rcases List.mem_cons.mp hv with rfl | hv
  · exact ⟨h, good_of_word (List.mem_filter.mp h).2⟩
  · exact ⟨hv, good_of_word (List.mem_filter.mp hv).2⟩
/-- what else is known of the tables: links to nest mates, arrays of objects -/
def Nws (U : State) : Prop := (∀ q ∈ nsl, va_Nw (.methodLinkNest q.1 q.2.1 q.2.2.1 q.2.2.2) U) ∧ va_AO RX4 U ∧ va_AO RX2 U
theorem Nws.warm {s U : State} (hW : s.WarmedH U.vm) (h : Nws s) : Nws U := ⟨fun q hq => (h.1 q hq).warmM hW, h.2.1.moved hW.alike, h.2.2.moved hW.alike⟩
/-- a value as the machine has it: references by base; the script's reference stands as a float -/
def shv (base b : Nat) : Value → Value
  | .ref k => .ref (base + k)
  | .float _ => .ref b
  | v => v
def she (base b : Nat) (cA : Nat → ClassId) : va_E → va_E
  | .inl (q, n, .inl f) => .inl (cA q, n, .inl f)
  | .inl (q, n, .inr (.inl f)) => .inl (cA q, n, .inr (.inl f))
  | .inl (q, n, .inr (.inr (.inl f))) => .inl (cA q, n, .inr (.inr (.inl f)))
  | .inl (q, n, .inr (.inr (.inr (.inl f)))) => .inl (cA q, n, .inr (.inr (.inr (.inl f))))
  | .inl (q, n, .inr (.inr (.inr (.inr f)))) => .inl (cA q, n, .inr (.inr (.inr (.inr (fun i => (f i).map (fun a => base + a))))))
  | .inr (ci, fs) => .inr (ci, fs.map (shv base b))
def con (base b : Nat) (cA : Nat → ClassId) : Nat → AH → va_W
  | _, [] => []
  | i, e :: h => (base + i, she base b cA e) :: con base b cA (i + 1) h
theorem con_get {base b : Nat} {cA : Nat → ClassId} : ∀ (h : AH) (i k : Nat), (con base b cA i h)[k]? = (h[k]?).map (fun e => (base + (i + k), she base b cA e))
  | [], i, k => by simp [con]
  | e :: h, i, 0 => by simp [con]
  | e :: h, i, k + 1 => by
    simp only [con, List.getElem?_cons_succ]
    rw [con_get h (i + 1) k, Nat.add_right_comm i 1 k, Nat.add_assoc]
theorem con_set {base b : Nat} {cA : Nat → ClassId} : ∀ (h : AH) (i k : Nat) (e : va_E), con base b cA i (h.set k e) = (con base b cA i h).set k (base + (i + k), she base b cA e)
  | [], i, k, e => by simp [con]
  | x :: h, i, 0, e => by simp [con]
  | x :: h, i, k + 1, e => by
    simp only [con, List.set_cons_succ]
    rw [con_set h (i + 1) k e, Nat.add_right_comm i 1 k, Nat.add_assoc]
theorem con_app {base b : Nat} {cA : Nat → ClassId} : ∀ (h : AH) (i : Nat) (e : va_E), con base b cA i (h ++ [e]) = con base b cA i h ++ [(base + (i + h.length), she base b cA e)]
  | [], i, e => by simp [con]
  | x :: h, i, e => by
    simp only [con, List.cons_append, List.length_cons]
    rw [con_app h (i + 1) e, Nat.add_right_comm i 1 h.length, Nat.add_assoc i]
theorem con_at {base b : Nat} {cA : Nat → ClassId} {h : AH} {k : Nat} {e : va_E} (hk : h[k]? = some e) : (con base b cA 0 h)[k]? = some (base + k, she base b cA e) := by
  rw [con_get, hk, Nat.zero_add]; rfl
theorem con_D {base b : Nat} {cA : Nat → ClassId} (h : AH) : va_D (fun q => base ≤ q) (con base b cA 0 h) := by
  have key : ∀ (k : Nat) (q : Nat × va_E), (con base b cA 0 h)[k]? = some q → q.1 = base + k := by
    intro k q hk
    rw [con_get] at hk
    obtain ⟨e, -, he⟩ := Option.map_eq_some_iff.mp hk
    rw [← he, Nat.zero_add]
  refine ⟨fun i j x y hi hj hxy => ?_, fun k q hk => ?_⟩
  · have h1 := key i x hi
    have h2 := key j y hj
    omega
  · have h1 := key k q hk
    show base ≤ q.1
    omega
def ces : va_E → Nat
  | .inl (_, n, _) => n
  | .inr (_, fs) => fs.length
def asz (h : AH) : Nat := (h.map ces).sum
theorem asz_app (h : AH) (e : va_E) : asz (h ++ [e]) = asz h + ces e := by simp [asz]
theorem asz_set : ∀ (h : AH) (k : Nat) (e0 e : va_E), h[k]? = some e0 → ces e = ces e0 → asz (h.set k e) = asz h
  | [], k, e0, e, hk, _ => by simp at hk
  | x :: h, 0, e0, e, hk, he => by
    rw [List.getElem?_cons_zero] at hk
    cases hk
    simp [asz, he]
  | x :: h, k + 1, e0, e, hk, he => by
    rw [List.getElem?_cons_succ] at hk
    have := asz_set h k e0 e hk he
    simp only [asz, List.set_cons_succ, List.map_cons, List.sum_cons] at this ⊢
    omega
def tyl (cA : Nat → ClassId) : List (ClassId × FieldType) := [(cA 0, .int), (cA 1, .char), (cA 2, .boolean), (cA 3, .long), (cA 4, .object RX4), (cA 5, .object RX2)]
/-- the machine's heap holds the abstract one, from base on, and nothing behind it -/
def Hp (dC : Nat → ClassId) (dI : Nat → Nat → Nat) (cA : Nat → ClassId) (base b : Nat) (h : AH) (H : Heap) : Prop := va_P (dC, dI) vwCl (con base b cA 0 h) H ∧ H.size = base + h.length
def Kx (X : SX) (dC : Nat → ClassId) (dI : Nat → Nat → Nat) (cA : Nat → ClassId) (base b : Nat) (U : State) (H : Heap) : Prop := va_K (dC, dI) vwCl (tyl cA) U ∧ (va_X b X.1 X.2 U H ∧ b < base) ∧ Nws U
def Mf (M : MD) (p : Program) (s : State) (m : MethodId) (args : Array Value) (meth : Method) (c : Code) : Prop :=
  p.tables.exec = Jvm.exec ∧ c.code = M.2.2.1 ∧ c.maxLocals = M.2.2.2.1 ∧ meth.sig.returnType = M.2.2.2.2 ∧ meth.locks = false ∧ s.vm.findClass M.1 = some m.cls ∧ meth.name = M.2.1.name ∧ ∀ w ∈ lwg, w.before args s = true
def Qx (X : SX) (dC : Nat → ClassId) (dI : Nat → Nat → Nat) (cA : Nat → ClassId) (base b : Nat) (rv : Option Int32) (h' : AH) : Array Value → State → Outcome → State → Prop := fun _ st o t =>
  o = .returned (rv.map .int) ∧ Hp dC dI cA base b h' t.heap ∧ Kx X dC dI cA base b t t.heap ∧ va_F (fun q => base ≤ q) st t
def shl (base b : Nat) (lv : Lv) : Lv := lv.map (fun q => (q.1, shv base b q.2))
/-- all that a frame stands on -/
def Cx (X : SX) (M : MD) (d : Nat) (lv : Lv) (h h' : AH) (dC : Nat → ClassId) (dI : Nat → Nat → Nat) (cA : Nat → ClassId) (base b : Nat) (p : Program) (R : Room) (s : State) (m : MethodId) (args : Array Value) (meth : Method) (c : Code) (H : Heap) (locs : List Loc) (cells slots mc ms : Nat) (ls : Array Slot) : Prop :=
  Mf M p s m args meth c ∧ Kx X dC dI cA base b s H ∧ Hp dC dI cA base b h H ∧ va_S (fun q => base ≤ q) s.heap H locs ∧ base ≤ s.heap.size ∧ lv_has ls M.2.2.2.1 (shl base b lv) ∧ (d ≤ R.frames ∧ 64 * d ≤ R.locals) ∧ (cells + h'.length ≤ mc + h.length ∧ slots + asz h' ≤ ms + asz h) ∧ (mc ≤ R.cells ∧ ms ≤ R.slots)
/-- from here on the method returns rv, and the heap is h' then -/
def G (X : SX) (M : MD) (d pc : Nat) (lv : Lv) (st : List Value) (h : AH) (rv : Option Int32) (h' : AH) : Prop :=
  (h.length ≤ h'.length ∧ asz h ≤ asz h') ∧
  ∀ (l : Launch) (dC : Nat → ClassId) (dI : Nat → Nat → Nat) (cA : Nat → ClassId) (base b : Nat) (p : Program) (e : Env) (R : Room) (s : State) (m : MethodId) (args : Array Value) (below : List Frame) (meth : Method) (c : Code) (H : Heap) (locs : List Loc) (cells slots mc ms : Nat) (ls : Array Slot),
    Cx X M d lv h h' dC dI cA base b p R s m args meth c H locs cells slots mc ms ls →
    W p l e R s m args below meth c H locs cells slots (MQ below (Qx X dC dI cA base b rv h') args s mc ms (fun q => base ≤ q)) (F0 m pc ls (st.map (shv base b)))
/-! reading and writing the abstract heap -/
def oget (h : AH) (ci a k : Nat) : Option Value := match h[a]? with
  | some (.inr (c, fs)) => if c = ci then fs[k]? else none
  | _ => none
def gi (h : AH) (ci a k : Nat) : Option Int32 := match oget h ci a k with
  | some (.int x) => some x
  | _ => none
def gl (h : AH) (ci a k : Nat) : Option Int64 := match oget h ci a k with
  | some (.long x) => some x
  | _ => none
def gr (h : AH) (ci a k : Nat) : Option Nat := match oget h ci a k with
  | some (.ref x) => some x
  | _ => none
def pf (h : AH) (ci a k : Nat) (v : Value) : Option AH := match h[a]? with
  | some (.inr (c, fs)) => if c = ci ∧ k < fs.length then some (h.set a (.inr (c, fs.set k v))) else none
  | _ => none
def inb (i : Int32) (n : Nat) : Prop := ¬ (i < 0 ∨ n ≤ i.toNatClampNeg)
def ai (h : AH) (kd a : Nat) (i : Int32) : Option Int32 := match h[a]? with
  | some (.inl (q, n, .inl f)) => if q = kd ∧ ¬ (i < 0 ∨ n ≤ i.toNatClampNeg) then some (f i.toNatClampNeg) else none
  | _ => none
def al (h : AH) (kd a : Nat) (i : Int32) : Option Int64 := match h[a]? with
  | some (.inl (q, n, .inr (.inl f))) => if q = kd ∧ ¬ (i < 0 ∨ n ≤ i.toNatClampNeg) then some (f i.toNatClampNeg) else none
  | _ => none
def ar (h : AH) (kd a : Nat) (i : Int32) : Option Nat := match h[a]? with
  | some (.inl (q, n, .inr (.inr (.inr (.inr f))))) => if q = kd ∧ ¬ (i < 0 ∨ n ≤ i.toNatClampNeg) then f i.toNatClampNeg else none
  | _ => none
def aw (h : AH) (kd a : Nat) (i x : Int32) : Option AH := match h[a]? with
  | some (.inl (q, n, .inl f)) => if q = kd ∧ ¬ (i < 0 ∨ n ≤ i.toNatClampNeg) then some (h.set a (.inl (q, n, .inl (upd f i.toNatClampNeg x)))) else none
  | _ => none
def alw (h : AH) (kd a : Nat) (i : Int32) (x : Int64) : Option AH := match h[a]? with
  | some (.inl (q, n, .inr (.inl f))) => if q = kd ∧ ¬ (i < 0 ∨ n ≤ i.toNatClampNeg) then some (h.set a (.inl (q, n, .inr (.inl (vp_updL f i.toNatClampNeg x))))) else none
  | _ => none
/-- a reference to an object of class ci into an array of them -/
def arw (h : AH) (kd ci a : Nat) (i : Int32) (v : Nat) : Option AH := match h[a]?, h[v]? with
  | some (.inl (q, n, .inr (.inr (.inr (.inr f))))), some (.inr (c, _)) => if (q = kd ∧ c = ci) ∧ ¬ (i < 0 ∨ n ≤ i.toNatClampNeg) then some (h.set a (.inl (q, n, .inr (.inr (.inr (.inr (va_up f i.toNatClampNeg (some v)))))))) else none
  | _, _ => none
/-- arraycopy of ints -/
def acp (h : AH) (a0 : Nat) (sp : Int32) (a : Nat) (dp n : Int32) : Option AH := match h[a0]?, h[a]? with
  | some (.inl (q0, n0, .inl f)), some (.inl (q1, n1, .inl g)) => if (q0 = 0 ∧ q1 = 0) ∧ (¬ sp < 0 ∧ ¬ dp < 0 ∧ ¬ n < 0) ∧ sp.toNatClampNeg + n.toNatClampNeg ≤ n0 ∧ dp.toNatClampNeg + n.toNatClampNeg ≤ n1 then some (h.set a (.inl (q1, n1, .inl (va_cpy f g sp.toNatClampNeg dp.toNatClampNeg n.toNatClampNeg)))) else none
  | _, _ => none
