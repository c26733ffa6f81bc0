/-! THE CLAIM OUT OF ONE WALK OF THE LAW'S BODY. Your part is whole_start (and what it stands on); all else here is the same for every law, but numbers. -/
def R_law : String := "LullabyDebtsLaw"
def lw_P (b : Addr) (xs : List Int32) (args : Array Value) (s : State) : Prop := args = #[.ref b] ∧ s.IntsAt b xs ∧ xs.length ≤ 1536 ∧ (Jvm.Cond.and given_1 narrow_1).before args s = true
def lw_Q (_ : Array Value) (s : State) (o : Outcome) (t : State) : Prop := o = .returned (some (.int 1)) ∧ Framed s o t [] 600000 7302250
def lw_Z (below : List Frame) (a : Array Value) (s : State) : State → Prop := fun t => ∃ o, t.status = .running ∧ Ended t below o ∧ lw_Q a s o t
/-- the law's own end, with 1 on the stack, nothing written that was there before, its room as the claim has it -/
theorem lw_ret {p : Program} {l : Launch} {e : Env} {s : State} {m : MethodId} {below : List Frame} {meth : Method} {c : Code} {b : Nat} (hx : p.tables.exec = Jvm.exec) (hb : c.code = code) (hr : meth.sig.returnType = ret) (hlocks : meth.locks = false) {pc : Nat} {H : Heap} {ls : Array Slot} (hdg : decode code pc = .ok (.ireturn, 1)) : W p l e room_1 s m #[Value.ref b] below meth c H [] 600000 7302250 (lw_Z below #[Value.ref b] s) (F0 m pc ls [.int 1]) := by
  intro T hT X
  obtain ⟨fs, hret, hrun, hended, hW, hframe⟩ := X.leave (v := some (.int 1)) (hlocks := hlocks) (fun h => by rw [hr] at h; cases h)
  have hmeth' : T.vm.method? m = some meth := X.method'
  refine ⟨T.setFrames fs, ?_, .returned (some (.int 1)), hrun, hended, rfl, ⟨_, rfl⟩, hW, hframe⟩
  jvm_step X.here [X.here.top, hx, hb, hdg, hmeth', hr, ret, narrow_b1]
  (try refine ⟨rfl, ?_⟩); (try refine ⟨rfl, ?_⟩)
  first | (intro acts; rw [hret _ acts rfl rfl rfl]) | rw [hret _ _ rfl rfl rfl]
  exact Steps.refl _
/-- what holds at the law's entry: the machine, the code, the tables' words (any of lw_tbl by 'hts w (by decide +kernel)'), the script of L ints xs at the cell b, what the Statement gives of the start (any of its parts by flat_of_before) -/
def lw_At (p : Program) (s : State) (m : MethodId) (meth : Method) (c : Code) (b L : Nat) (xs : Nat → Int32) : Prop :=
  p.tables.exec = Jvm.exec ∧ c.code = code ∧ meth.sig.returnType = ret ∧ c.maxLocals = 4 ∧ s.vm.findClass R_law = some m.cls ∧ (∀ w ∈ lw_tbl, w.before #[Value.ref b] s = true) ∧ va_X b L xs s s.heap ∧ b < s.heap.size ∧ meth.locks = false ∧ (Jvm.Cond.and given_1 narrow_1).before #[Value.ref b] s = true ∧ meth.name = "law"
/-- the tables' classes, at the law's entry -/
theorem lw_classes {s : State} {args : Array Value} (hts : ∀ w ∈ lwg, w.before args s = true) : ∃ (dC : Nat → ClassId) (dI : Nat → Nat → Nat), ∀ (k : Nat) (q : vw_C), vwCl[k]? = some q → u_Kn s q.1 q.2.1 q.2.2 (dC k) (dI k) := by
  have key : ∀ k : Nat, ∃ (c : ClassId) (i : Nat → Nat), ∀ q : vw_C, vwCl[k]? = some q → u_Kn s q.1 q.2.1 q.2.2 c i := by
    intro k
    match k with
    | 0 => exact (u_known (C := RX0) (T := TX0) (N := 3) (n := 3) hts ciX0.2.1 (hts _ (lwg_mem 362 (by decide +kernel) rfl))).elim fun c h => h.elim fun i h => ⟨c, i, fun q hq => by cases hq; exact h⟩
    | 1 => exact (u_known (C := RX0) (T := TX0) (N := 3) (n := 3) hts ciX0.2.1 (hts _ (lwg_mem 362 (by decide +kernel) rfl))).elim fun c h => h.elim fun i h => ⟨c, i, fun q hq => by cases hq; exact h⟩
    | 2 => exact (u_known (C := RX2) (T := TX2) (N := 3) (n := 3) hts ciX2.2.1 (hts _ (lwg_mem 382 (by decide +kernel) rfl))).elim fun c h => h.elim fun i h => ⟨c, i, fun q hq => by cases hq; exact h⟩
    | 3 => exact (u_known (C := RX3) (T := TX3) (N := 2) (n := 2) hts ciX3.2.1 (hts _ (lwg_mem 106 (by decide +kernel) rfl))).elim fun c h => h.elim fun i h => ⟨c, i, fun q hq => by cases hq; exact h⟩
    | 4 => exact (u_known (C := RX4) (T := TX4) (N := 11) (n := 11) hts ciX4.2.1 (hts _ (lwg_mem 112 (by decide +kernel) rfl))).elim fun c h => h.elim fun i h => ⟨c, i, fun q hq => by cases hq; exact h⟩
    | 5 => exact (u_known (C := RX6) (T := TX6) (N := 3) (n := 3) hts ciX6.2.1 (hts _ (lwg_mem 324 (by decide +kernel) rfl))).elim fun c h => h.elim fun i h => ⟨c, i, fun q hq => by cases hq; exact h⟩
    | 6 => exact (u_known (C := RX7) (T := TX7) (N := 4) (n := 4) hts ciX7.2.1 (hts _ (lwg_mem 278 (by decide +kernel) rfl))).elim fun c h => h.elim fun i h => ⟨c, i, fun q hq => by cases hq; exact h⟩
    | 7 => exact (u_known (C := RX8) (T := TX8) (N := 5) (n := 5) hts ciX8.2.1 (hts _ (lwg_mem 81 (by decide +kernel) rfl))).elim fun c h => h.elim fun i h => ⟨c, i, fun q hq => by cases hq; exact h⟩
    | 8 => exact (u_known (C := RX9) (T := TX9) (N := 6) (n := 6) hts ciX9.2.1 (hts _ (lwg_mem 297 (by decide +kernel) rfl))).elim fun c h => h.elim fun i h => ⟨c, i, fun q hq => by cases hq; exact h⟩
    | 9 => exact (u_known (C := RX10) (T := TX10) (N := 11) (n := 11) hts ciX10.2.1 (hts _ (lwg_mem 185 (by decide +kernel) rfl))).elim fun c h => h.elim fun i h => ⟨c, i, fun q hq => by cases hq; exact h⟩
    | 10 => exact (u_known (C := RX11) (T := TX11) (N := 3) (n := 3) hts ciX11.2.1 (hts _ (lwg_mem 344 (by decide +kernel) rfl))).elim fun c h => h.elim fun i h => ⟨c, i, fun q hq => by cases hq; exact h⟩
    | 11 => exact (u_known (C := RX12) (T := TX12) (N := 10) (n := 10) hts ciX12.2.1 (hts _ (lwg_mem 73 (by decide +kernel) rfl))).elim fun c h => h.elim fun i h => ⟨c, i, fun q hq => by cases hq; exact h⟩
    | 12 => exact (u_known (C := RX13) (T := TX13) (N := 38) (n := 38) hts ciX13.2.1 (hts _ (lwg_mem 858 (by decide +kernel) rfl))).elim fun c h => h.elim fun i h => ⟨c, i, fun q hq => by cases hq; exact h⟩
    | k + 13 => exact ⟨0, fun _ => 0, fun q hq => by simp [vwCl] at hq⟩
  refine ⟨fun k => (key k).choose, fun k => (key k).choose_spec.choose, fun k q hq => (key k).choose_spec.choose_spec q hq⟩
theorem lw_arrays {s : State} {args : Array Value} (hts : ∀ w ∈ lwg, w.before args s = true) (h4 : va_AO RX4 s) (h5 : va_AO RX2 s) : ∃ cA : Nat → ClassId, ∀ (k : Nat) (q : ClassId × FieldType), (tyl cA)[k]? = some q → ArrOfT s q.1 q.2 ∧ va_RA s q.1 q.2 := by
  obtain ⟨c0, k0, m0, a0, b0, e0⟩ := Cond.arrayClass_spec (hts _ ac_int)
  obtain ⟨c1, k1, m1, a1, b1, e1⟩ := Cond.arrayClass_spec (hts _ ac_char)
  obtain ⟨c2, k2, m2, a2, b2, e2⟩ := Cond.arrayClass_spec (hts _ ac_boolean)
  obtain ⟨c3, k3, m3, a3, b3, e3⟩ := Cond.arrayClass_spec (hts _ ac_long)
  obtain ⟨m4, c4, k4, f4, -, b4, e4, a4⟩ := Cond.arrayOver_spec h4
  obtain ⟨m5, c5, k5, f5, -, b5, e5, a5⟩ := Cond.arrayOver_spec h5
  refine ⟨fun k => match k with | 0 => c0 | 1 => c1 | 2 => c2 | 3 => c3 | 4 => c4 | _ => c5, fun k q hq => ?_⟩
  match k, hq with
  | 0, hq => cases hq; exact ⟨fun n z => ⟨fun k h => (by cases h), k0, b0, m0, e0⟩, a0⟩
  | 1, hq => cases hq; exact ⟨fun n z => ⟨fun k h => (by cases h), k1, b1, m1, e1⟩, a1⟩
  | 2, hq => cases hq; exact ⟨fun n z => ⟨fun k h => (by cases h), k2, b2, m2, e2⟩, a2⟩
  | 3, hq => cases hq; exact ⟨fun n z => ⟨fun k h => (by cases h), k3, b3, m3, e3⟩, a3⟩
  | 4, hq => cases hq; exact ⟨fun n z => ⟨fun k h => (by cases h), k4, b4, m4, e4⟩, k4, m4, b4, e4, f4, a4⟩
  | 5, hq => cases hq; exact ⟨fun n z => ⟨fun k h => (by cases h), k5, b5, m5, e5⟩, k5, m5, b5, e5, f5, a5⟩
  | k + 6, hq => simp [tyl] at hq
theorem lw_nests {s : State} {args : Array Value} (hts : ∀ w ∈ lw_tbl, w.before args s = true) : Nws s := by
  refine ⟨fun q hq => ?_, va_AO.of (hts _ (List.mem_of_getElem? (i := 330) (by decide +kernel))), va_AO.of (hts _ (List.mem_of_getElem? (i := 379) (by decide +kernel)))⟩
  have hm : Cond.methodLinkNest q.1 q.2.1 q.2.2.1 q.2.2.2 ∈ nsl.map (fun q => Cond.methodLinkNest q.1 q.2.1 q.2.2.1 q.2.2.2) := List.mem_map.mpr ⟨q, hq, rfl⟩
  have he : nsl.map (fun q => Cond.methodLinkNest q.1 q.2.1 q.2.2.1 q.2.2.2) = ([82, 107, 113, 186, 279, 298, 331, 345, 363, 381, 383, 388] : List Nat).filterMap (fun i => lw_tbl[i]?) := by decide +kernel
  rw [he] at hm
  obtain ⟨i, -, hi⟩ := List.mem_filterMap.mp hm
  exact va_Nw.of rfl (hts _ (List.mem_of_getElem? hi))
set_option maxHeartbeats 4000000 in
set_option maxRecDepth 100000 in
/-- THE LAW, from its entry -/
theorem whole_start {p : Program} {e : Env} {s : State} {m : MethodId} {below : List Frame} {meth : Method} {c : Code} (l : Launch) (hflags : l.flags = flags0) {b L : Nat} {xs : Nat → Int32} (hL : L ≤ 1536) (C0 : lw_At p s m meth c b L xs) : W p l e room_1 s m #[Value.ref b] below meth c s.heap [] 0 0 (lw_Z below #[Value.ref b] s) (entryFrame m ([Value.ref b] : List Value).toArray 4) := by
  obtain ⟨hx, hb, hr, hml, hown, hts, hX, hbl, hlocks, hgv, hnm⟩ := id C0
  have htg : ∀ w ∈ lwg, w.before #[Value.ref b] s = true := fun w hw => hts w (List.mem_filter.mp hw).1
  obtain ⟨h', hf, hc1, hc2⟩ := law_pure L xs hL
  have hN := lw_nests hts
  obtain ⟨dC, dI, hKc⟩ := lw_classes htg
  obtain ⟨cA, hKa⟩ := lw_arrays htg hN.2.1 hN.2.2
  have hg := c_L_law (L, xs) 0 [] 1 h' hf
  have hl := lv_entry ([.ref b]) (n := 4) (Nat.le_of_ble_eq_true rfl)
  rw [lg_entry_eq]
  generalize (lg_sl ([.ref b]) ++ List.replicate (4 - (lg_sl ([.ref b])).length) Slot.unset).toArray = ls at hl ⊢
  have hW := hg.2 l dC dI cA s.heap.size b p e room_1 s m #[Value.ref b] below meth c s.heap [] 0 0 600000 7302250 ls
    ⟨⟨hx, hb, hml, hr, hlocks, hown, hnm, htg⟩, ⟨⟨hKc, hKa⟩, ⟨hX, hbl⟩, hN⟩, ⟨fun k q hq => by simp [con] at hq, rfl⟩, va_S.rf, Nat.le_refl _, hl, ⟨Nat.le_of_ble_eq_true rfl, Nat.le_of_ble_eq_true rfl⟩, ⟨by simpa using hc1, by simpa [asz] using hc2⟩, Nat.le_of_ble_eq_true rfl, Nat.le_of_ble_eq_true rfl⟩
  intro T hT Xs
  obtain ⟨t, h1, o, h2, h3, h4, Lc, ⟨hv, hWm, hsame⟩, hLc⟩ := hW T hT Xs
  refine ⟨t, h1, o, h2, h3, h4.1, hv, hWm, ?_⟩
  obtain ⟨g1, g2, g3, g4, g5, g6⟩ := hsame
  refine ⟨g1, g2, g3, g4, g5, fun a cc ha => ?_⟩
  obtain ⟨c', k1, k2, k3, k4⟩ := g6 a cc ha
  refine ⟨c', k1, k2, k3, fun i _ => k4 i (fun hi => ?_)⟩
  have := hLc _ hi
  have h5 : a < s.heap.size := (Array.getElem?_eq_some_iff.mp ha).1
  exact absurd (show s.heap.size ≤ a from this) (Nat.not_le.mpr h5)
-- ===== YOUR PART ENDS =====
set_option maxHeartbeats 4000000 in
theorem lw_walk (l : Launch) (hflags : l.flags = flags0) (b : Addr) (xs : List Int32) : MetFree l x (headSpec (Jvm.Cond.code x code maxLocals ret :: tables_1) room_1) (lw_P b xs) (fun _ _ _ _ _ => True) lw_Q := by
  refine MetFree.of_bodyS (code := code) (maxLocals := maxLocals) (ret := ret) (by decide) ?_ ?_
  · intro args s m h hn
    obtain ⟨meth, c, h1, h2, h3, h4, h5, h6, -, -⟩ := Cond.code_spec hn (atoms_spec (ws := Jvm.Cond.code x code maxLocals ret :: tables_1) h _ List.mem_cons_self)
    exact ⟨meth, c, h1, h2, h3, h4, h5, h6⟩
  · intro p e s m args below meth c s₁ B hml0 hP _
    obtain ⟨rfl, hx, hbd, hgv⟩ := hP
    obtain ⟨scr, harrAt, hlist, hof, hsmall⟩ := hx
    obtain ⟨hcb, hkn, -, -⟩ := State.arrayAt?_spec harrAt
    have hown : s.vm.findClass R_law = some m.cls := findClass_of_methodNamed B.named
    have hts0 : ∀ c ∈ (Jvm.Cond.code x code maxLocals ret :: tables_1), c.before #[Value.ref b] s = true := atoms_spec (ws := Jvm.Cond.code x code maxLocals ret :: tables_1) B.pre
    have hts : ∀ w ∈ lw_tbl, w.before #[Value.ref b] s = true := k2_hts_sels lw_privs (fun w hw => hts0 w (List.mem_cons_of_mem _ hw)) lw_privs_ok
    have hml : c.maxLocals = 4 := B.maxLocals_eq (hts0 _ List.mem_cons_self)
    have X₀ : Stand p l e room_1 s m #[Value.ref b] below meth c s₁ [] 0 0 := Stand.of_body B
    have hh0 : s₁.heap = s.heap := by rw [B.state]; rfl
    have hsz : scr.slots.size = xs.length := by rw [← Array.length_toList, hlist, List.length_map]
    have hval : ∀ j : Nat, j < xs.length → scr.slots[j]? = some (.int (xs.getD j 0)) := fun j hj => by
      rw [← Array.getElem?_toList, hlist]
      simp [hj]
    have hbl : b < s.heap.size := (Array.getElem?_eq_some_iff.mp hcb).1
    have hX : va_X b xs.length (fun j => xs.getD j 0) s s.heap := ⟨scr, hcb, hof, hkn, hsz, hval⟩
    have K : W p l e room_1 s m #[Value.ref b] below meth c s₁.heap [] 0 0 (lw_Z below #[Value.ref b] s) (entryFrame m ([Value.ref b] : List Value).toArray 4) := by
      rw [hh0]
      exact whole_start l hflags hbd ⟨B.exec, B.bytes, B.returns, hml, hown, hts, hX, hbl, B.notSynchronized, hgv, (name_of_methodNamed B.named B.method).1⟩
    obtain ⟨t, a1, o, b1, b2, b3⟩ := K s₁ rfl X₀
    exact ⟨t, o, a1, b1, b2, b3⟩
theorem lw_pre_spec {args : Array Value} {s : State} (h : (Jvm.Cond.and given_1 narrow_1).before args s = true) (hr : rest_1_c.before args s = true) : ∃ (b : Addr) (xs : List Int32), lw_P b xs args s := by
  have hs := flat_of_before _ h
  have hq := flat_of_before _ hr
  have hc : (Cond.count 1).before args s = true := hs _ (by decide +kernel)
  have harr : (Cond.arrayOf (.arg 0) .int).before args s = true := hs _ (by decide +kernel)
  have hle : (Cond.le (.length (.arg 0)) (.int 1536)).before args s = true := hs _ (by decide +kernel)
  have hlen : (Cond.isInt (.length (.arg 0))).before args s = true := hq _ (by decide +kernel)
  have hall : (Cond.all (.arg 0) (.isInt (.elem (.arg 0) (.index 0)))).before args s = true := hq _ (by decide +kernel)
  obtain ⟨b, xs, hb, hx⟩ := State.ints_of_pre rfl harr hlen hall
  have hsm : xs.length < 2 ^ 31 := hx.choose_spec.2.2.2
  have hev : (Term.length (.arg 0)).eval args s none [] s = some (.int xs.length.toInt32) := hx.length_eval hb
  have hv := Cond.le_ints hev (show (Term.int 1536).eval args s none [] s = some (.int 1536) from rfl)
  have hd : xs.length.toInt32 ≤ 1536 := by
    simpa [Cond.before, Cond.holds, hv] using hle
  have hN : xs.length ≤ 1536 := (Int32.ofNat_le_ofNat hsm (by decide)).mp (show Int32.ofNat xs.length ≤ Int32.ofNat 1536 from hd)
  exact ⟨b, xs, Cond.one_arg hc (show args[0]? = some (.ref b) from hb), hx, hN, h⟩
theorem lw_comes (l : Launch) (hflags : l.flags = flags0) : Comes l x (Jvm.Cond.code x code maxLocals ret :: tables_1) room_1 (fun tb e args s => Calls_1 tb e args s ∧ rest_1 tb e args s ∧ Pre_1 tb e args s)
    (fun _ _ args s o t => lw_Q args s o t) := by
  intro p e ha hc hk s m args below hf hfit hheap happ hpre
  obtain ⟨b, xs, hP⟩ := lw_pre_spec hpre.2.2 hpre.2.1
  obtain ⟨k, o, h1, h2, h3, hQ⟩ := lw_walk l hflags b xs p e ha hc hk s m args below hf ((Spec.applies_iff_loose hf).mp happ).1 hP trivial
  exact ⟨k, o, h1, h2, h3, hQ⟩
theorem lw_frame {s t : State} {o : Outcome} {args : Array Value} (h : Framed s o t [] 600000 7302250) :
    Framed s o t (fieldLocs frame_1_writes args s ++ arrayLocs frame_1_arrays args s ++ staticLocs frame_1_statics s) 600000 7302250 := h
theorem lw_limb (L : Cond) (hL : ∀ (args : Array Value) (s t : State), L.after args s (.returned (some (.int 1))) t = true) :
    ArmFor flags0 classFile x code maxLocals ret World_1 tables_1 room_1 Calls_1 rest_1 Pre_1
      (fun tb e a s o t => postC L tb e a s o t ∧ Framed s o t (fieldLocs frame_1_writes a s ++ arrayLocs frame_1_arrays a s ++ staticLocs frame_1_statics s) 600000 7302250) := by
  intro l hflags _ _ p e ha hc hk s m args below hf hfit hheap happ hpre
  obtain ⟨k, o, h1, h2, h3, rfl, hF⟩ := lw_comes l hflags p e ha hc hk s m args below hf hfit hheap happ hpre
  exact ⟨k, _, h1, h2, h3, hL args s _, lw_frame hF⟩
theorem i_vc : Claimed_1_1 ∧ Claimed_1_2 := ⟨lw_limb limb_1_1 (fun args s t => by simp [limb_1_1, Cond.after, Cond.holds, Cond.value]), lw_limb limb_1_2 (fun args s t => Cond.after_iff.mpr (by
  first | (rw [show limb_1_2 = Cond.eq .result (.int 1) from rfl, Cond.eq_ints (x := 1) (y := 1) rfl rfl]; simp; done) | (simp [limb_1_2, Cond.value, Term.eval]; done)))⟩
