/-! X13_drift -/
theorem dX13_drift_0 : decode cX13_drift 0 = .ok (.aload_n 0, 1) := by decide +kernel
theorem dX13_drift_1 : decode cX13_drift 1 = .ok (.iload_n 1, 1) := by decide +kernel
theorem dX13_drift_2 : decode cX13_drift 2 = .ok (.invokevirtual 207, 3) := by decide +kernel
theorem dX13_drift_5 : decode cX13_drift 5 = .ok (.istore_n 2, 1) := by decide +kernel
theorem dX13_drift_6 : decode cX13_drift 6 = .ok (.iload_n 2, 1) := by decide +kernel
theorem dX13_drift_7 : decode cX13_drift 7 = .ok (.ifCond .eq 5, 3) := by decide +kernel
theorem dX13_drift_10 : decode cX13_drift 10 = .ok (.iload_n 2, 1) := by decide +kernel
theorem dX13_drift_11 : decode cX13_drift 11 = .ok (.ireturn, 1) := by decide +kernel
theorem dX13_drift_12 : decode cX13_drift 12 = .ok (.iconst 0, 1) := by decide +kernel
theorem dX13_drift_13 : decode cX13_drift 13 = .ok (.istore_n 3, 1) := by decide +kernel
theorem dX13_drift_14 : decode cX13_drift 14 = .ok (.iload_n 3, 1) := by decide +kernel
theorem dX13_drift_15 : decode cX13_drift 15 = .ok (.iload_n 1, 1) := by decide +kernel
theorem dX13_drift_16 : decode cX13_drift 16 = .ok (.if_icmp .ge 31, 3) := by decide +kernel
theorem dX13_drift_19 : decode cX13_drift 19 = .ok (.aload_n 0, 1) := by decide +kernel
theorem dX13_drift_20 : decode cX13_drift 20 = .ok (.invokevirtual 185, 3) := by decide +kernel
theorem dX13_drift_23 : decode cX13_drift 23 = .ok (.aload_n 0, 1) := by decide +kernel
theorem dX13_drift_24 : decode cX13_drift 24 = .ok (.getfield 75, 3) := by decide +kernel
theorem dX13_drift_27 : decode cX13_drift 27 = .ok (.ifCond .le 14, 3) := by decide +kernel
theorem dX13_drift_30 : decode cX13_drift 30 = .ok (.aload_n 0, 1) := by decide +kernel
theorem dX13_drift_31 : decode cX13_drift 31 = .ok (.getfield 78, 3) := by decide +kernel
theorem dX13_drift_34 : decode cX13_drift 34 = .ok (.ifCond .le 7, 3) := by decide +kernel
theorem dX13_drift_37 : decode cX13_drift 37 = .ok (.aload_n 0, 1) := by decide +kernel
theorem dX13_drift_38 : decode cX13_drift 38 = .ok (.invokevirtual 228, 3) := by decide +kernel
theorem dX13_drift_41 : decode cX13_drift 41 = .ok (.iinc 3 1, 3) := by decide +kernel
theorem dX13_drift_44 : decode cX13_drift 44 = .ok (.goto (-30), 3) := by decide +kernel
theorem dX13_drift_47 : decode cX13_drift 47 = .ok (.aload_n 0, 1) := by decide +kernel
theorem dX13_drift_48 : decode cX13_drift 48 = .ok (.invokevirtual 157, 3) := by decide +kernel
theorem dX13_drift_51 : decode cX13_drift 51 = .ok (.ireturn, 1) := by decide +kernel
def F_X13_drift_L14 (rec : Nat → Int32 → Int32 → AH → Option (AH)) (v0 : Nat) (v1 : Int32) (v3 : Int32) (h : AH) : Option (AH) := if v1 ≤ v3 then (some (h)) else ((f_X13_remembers v0 h).bind fun h2 => (gi h2 12 v0 5).bind fun x4 => if x4 ≤ 0 then (rec v0 v1 (v3 + 1) h2) else ((gi h2 12 v0 6).bind fun x6 => if x6 ≤ 0 then (rec v0 v1 (v3 + 1) h2) else ((f_X13_drifts v0 h2).bind fun h8 => rec v0 v1 (v3 + 1) h8)))
def f_X13_drift_L14 : Nat → Nat → Int32 → Int32 → AH → Option (AH)
  | 0 => fun _ _ _ _ => none
  | n + 1 => F_X13_drift_L14 (f_X13_drift_L14 n)
set_option maxRecDepth 100000 in
set_option maxHeartbeats 4000000 in
theorem lx_X13_drift_L14 (X : SX) (d : Nat) : ∀ n (rv : Option Int32) (h' : AH), ∀ (v0 : Nat) (v1 : Int32) (v3 : Int32) (h : AH)  (h1 : AH), f_X13_drift_L14 n v0 v1 v3 h = some (h1) → G X mX13_drift (d + 4) 47 [(0, .ref v0)] [] h1 rv h' → G X mX13_drift (d + 4) 14 [(0, .ref v0), (1, .int v1), (3, .int v3)] [] h rv h' := by
  intro n
  induction n with
  | zero =>
    intro rv h' v0 v1 v3 h h1 hf hE
    cases hf
  | succ n ihf =>
    intro rv h' v0 v1 v3 h h1 hf hE
    replace hf : F_X13_drift_L14 (f_X13_drift_L14 n) v0 v1 v3 h = some (h1) := hf
    unfold F_X13_drift_L14 at hf
    have ih := ihf rv h'
    refine G.iload_n dX13_drift_14 rfl ?_
    refine G.iload_n dX13_drift_15 rfl ?_
    refine G.icmp_ge 47 dX13_drift_16 (by decide) (fun c1 => ?_) (fun c1 => ?_)
    · rw [if_pos c1] at hf
      have w0 := Option.some.inj hf
      subst w0
      exact G.pick [0] rfl hE
    · rw [if_neg c1] at hf
      refine G.aload_n dX13_drift_19 rfl ?_
      obtain ⟨h2, e3, hf⟩ := Option.bind_eq_some_iff.mp hf
      refine G.callVv (M' := mX13_remembers) (ci := 12) (As := []) (st := []) okX13_remembers viX13_remembers lkX13_185 rfl rfl rfl (Nat.le_of_ble_eq_true rfl) (Nat.le_of_ble_eq_true rfl) dX13_drift_20 (c_X13_remembers X (d + 3) _ _ _ e3).1 (c_X13_remembers X (d + 3) _ _ _ e3).2 ?_
      refine G.aload_n dX13_drift_23 rfl ?_
      refine G.geti flX13_75 dX13_drift_24 hf (fun x4 hf => ?_)
      refine G.if_le 41 dX13_drift_27 (by decide) (fun c5 => ?_) (fun c5 => ?_)
      · rw [if_pos c5] at hf
        refine G.iinc (v := (v3 + 1)) (lv' := [(3, .int (v3 + 1)), (0, .ref v0), (1, .int v1)]) dX13_drift_41 rfl rfl (by decide) rfl ?_
        refine G.goto 14 dX13_drift_44 (by decide) ?_
        exact G.pick [1, 2, 0] rfl (ih v0 v1 (v3 + 1) h2 _ hf hE)
      · rw [if_neg c5] at hf
        refine G.aload_n dX13_drift_30 rfl ?_
        refine G.geti flX13_78 dX13_drift_31 hf (fun x6 hf => ?_)
        refine G.if_le 41 dX13_drift_34 (by decide) (fun c7 => ?_) (fun c7 => ?_)
        · rw [if_pos c7] at hf
          refine G.iinc (v := (v3 + 1)) (lv' := [(3, .int (v3 + 1)), (0, .ref v0), (1, .int v1)]) dX13_drift_41 rfl rfl (by decide) rfl ?_
          refine G.goto 14 dX13_drift_44 (by decide) ?_
          exact G.pick [1, 2, 0] rfl (ih v0 v1 (v3 + 1) h2 _ hf hE)
        · rw [if_neg c7] at hf
          refine G.aload_n dX13_drift_37 rfl ?_
          obtain ⟨h8, e9, hf⟩ := Option.bind_eq_some_iff.mp hf
          refine G.callVv (M' := mX13_drifts) (ci := 12) (As := []) (st := []) okX13_drifts viX13_drifts lkX13_228 rfl rfl rfl (Nat.le_of_ble_eq_true rfl) (Nat.le_of_ble_eq_true rfl) dX13_drift_38 (c_X13_drifts X d _ _ _ e9).1 (c_X13_drifts X d _ _ _ e9).2 ?_
          refine G.iinc (v := (v3 + 1)) (lv' := [(3, .int (v3 + 1)), (0, .ref v0), (1, .int v1)]) dX13_drift_41 rfl rfl (by decide) rfl ?_
          refine G.goto 14 dX13_drift_44 (by decide) ?_
          exact G.pick [1, 2, 0] rfl (ih v0 v1 (v3 + 1) h8 _ hf hE)
theorem l_X13_drift_L14 (X : SX) (d : Nat) (rv : Option Int32) (h' : AH) (n : Nat) : ∀ (v0 : Nat) (v1 : Int32) (v3 : Int32) (h : AH)  (h1 : AH), f_X13_drift_L14 n v0 v1 v3 h = some (h1) → G X mX13_drift (d + 4) 47 [(0, .ref v0)] [] h1 rv h' → G X mX13_drift (d + 4) 14 [(0, .ref v0), (1, .int v1), (3, .int v3)] [] h rv h' := lx_X13_drift_L14 X d n rv h'
def f_X13_drift (a0 : Nat) (a1 : Int32) (h : AH) : Option (Int32 × AH) := if isO h 12 a0 = true then (bT1 (f_X13_mayPass a0 a1 h) fun x3 h1 => if x3 = 0 then ((f_X13_drift_L14 1000000 a0 a1 (0 : Int32) h1).bind fun h5 => bT1 (f_X13_owedByAll a0 h5) fun x9 h7 => some (x9, h7)) else (some (x3, h1))) else none
set_option maxRecDepth 100000 in
set_option maxHeartbeats 4000000 in
theorem c_X13_drift (X : SX) (d : Nat) (a0 : Nat) (a1 : Int32) (h : AH) (rr : Int32) (h' : AH) (hf : f_X13_drift a0 a1 h = some (rr, h')) : isO h 12 a0 = true ∧ G X mX13_drift (d + 4) 0 [(0, .ref a0), (1, .int a1)] [] h (some rr) h' := by
  unfold f_X13_drift at hf
  by_cases ho : isO h 12 a0 = true
  · rw [if_pos ho] at hf
    refine ⟨ho, ?_⟩
    refine G.aload_n dX13_drift_0 rfl ?_
    refine G.iload_n dX13_drift_1 rfl ?_
    obtain ⟨x3, h1, e2, hf⟩ := bT1_spec hf
    refine G.callVi (M' := mX13_mayPass) (ci := 12) (As := [.int a1]) (st := []) okX13_mayPass viX13_mayPass lkX13_207 rfl rfl rfl (Nat.le_of_ble_eq_true rfl) (Nat.le_of_ble_eq_true rfl) dX13_drift_2 (c_X13_mayPass X (d + 3) _ _ _ _ _ e2).1 (c_X13_mayPass X (d + 3) _ _ _ _ _ e2).2 ?_
    refine G.istore_n (lv' := [(2, .int x3), (0, .ref a0), (1, .int a1)]) dX13_drift_5 (by decide) rfl ?_
    refine G.iload_n dX13_drift_6 rfl ?_
    refine G.if_eq 12 dX13_drift_7 (by decide) (fun c4 => ?_) (fun c4 => ?_)
    · rw [if_pos c4] at hf
      refine G.iconst (v := (0 : Int32)) dX13_drift_12 (by decide) ?_
      refine G.istore_n (lv' := [(3, .int (0 : Int32)), (2, .int x3), (0, .ref a0), (1, .int a1)]) dX13_drift_13 (by decide) rfl ?_
      obtain ⟨h5, e6, hf⟩ := Option.bind_eq_some_iff.mp hf
      refine G.pick [2, 3, 0] rfl (l_X13_drift_L14 X d _ _ 1000000 a0 a1 (0 : Int32) h1 h5 e6 ?_)
      refine G.aload_n dX13_drift_47 rfl ?_
      obtain ⟨x9, h7, e8, hf⟩ := bT1_spec hf
      refine G.callVi (M' := mX13_owedByAll) (ci := 12) (As := []) (st := []) okX13_owedByAll viX13_owedByAll lkX13_157 rfl rfl rfl (Nat.le_of_ble_eq_true rfl) (Nat.le_of_ble_eq_true rfl) dX13_drift_48 (c_X13_owedByAll X (d + 3) _ _ _ _ e8).1 (c_X13_owedByAll X (d + 3) _ _ _ _ e8).2 ?_
      obtain ⟨hq1, hq2⟩ := Prod.mk.inj (Option.some.inj hf)
      subst hq1
      subst hq2
      exact G.iret rfl rfl dX13_drift_51
    · rw [if_neg c4] at hf
      refine G.iload_n dX13_drift_10 rfl ?_
      obtain ⟨hq1, hq2⟩ := Prod.mk.inj (Option.some.inj hf)
      subst hq1
      subst hq2
      exact G.iret rfl rfl dX13_drift_11
  · rw [if_neg ho] at hf
    cases hf
/-! J9_floorMod_7cf53 -/
theorem dJ9_floorMod_7cf53_0 : decode cJ9_floorMod_7cf53 0 = .ok (.iload_n 0, 1) := by decide +kernel
theorem dJ9_floorMod_7cf53_1 : decode cJ9_floorMod_7cf53 1 = .ok (.iload_n 1, 1) := by decide +kernel
theorem dJ9_floorMod_7cf53_2 : decode cJ9_floorMod_7cf53 2 = .ok (.irem, 1) := by decide +kernel
theorem dJ9_floorMod_7cf53_3 : decode cJ9_floorMod_7cf53 3 = .ok (.istore_n 2, 1) := by decide +kernel
theorem dJ9_floorMod_7cf53_4 : decode cJ9_floorMod_7cf53 4 = .ok (.iload_n 0, 1) := by decide +kernel
theorem dJ9_floorMod_7cf53_5 : decode cJ9_floorMod_7cf53 5 = .ok (.iload_n 1, 1) := by decide +kernel
theorem dJ9_floorMod_7cf53_6 : decode cJ9_floorMod_7cf53 6 = .ok (.ixor, 1) := by decide +kernel
theorem dJ9_floorMod_7cf53_7 : decode cJ9_floorMod_7cf53 7 = .ok (.ifCond .ge 11, 3) := by decide +kernel
theorem dJ9_floorMod_7cf53_10 : decode cJ9_floorMod_7cf53 10 = .ok (.iload_n 2, 1) := by decide +kernel
theorem dJ9_floorMod_7cf53_11 : decode cJ9_floorMod_7cf53 11 = .ok (.ifCond .eq 7, 3) := by decide +kernel
theorem dJ9_floorMod_7cf53_14 : decode cJ9_floorMod_7cf53 14 = .ok (.iload_n 2, 1) := by decide +kernel
theorem dJ9_floorMod_7cf53_15 : decode cJ9_floorMod_7cf53 15 = .ok (.iload_n 1, 1) := by decide +kernel
theorem dJ9_floorMod_7cf53_16 : decode cJ9_floorMod_7cf53 16 = .ok (.iadd, 1) := by decide +kernel
theorem dJ9_floorMod_7cf53_17 : decode cJ9_floorMod_7cf53 17 = .ok (.ireturn, 1) := by decide +kernel
theorem dJ9_floorMod_7cf53_18 : decode cJ9_floorMod_7cf53 18 = .ok (.iload_n 2, 1) := by decide +kernel
theorem dJ9_floorMod_7cf53_19 : decode cJ9_floorMod_7cf53 19 = .ok (.ireturn, 1) := by decide +kernel
def f_J9_floorMod_7cf53 (a0 : Int32) (a1 : Int32) (h : AH) : Option (Int32 × AH) := if a1 = 0 then none else (if 0 ≤ (a0 ^^^ a1) then (some ((a0 - a0 / a1 * a1), h)) else (if (a0 - a0 / a1 * a1) = 0 then (some ((a0 - a0 / a1 * a1), h)) else (some (((a0 - a0 / a1 * a1) + a1), h))))
set_option maxRecDepth 100000 in
set_option maxHeartbeats 4000000 in
theorem c_J9_floorMod_7cf53 (X : SX) (d : Nat) (a0 : Int32) (a1 : Int32) (h : AH) (rr : Int32) (h' : AH) (hf : f_J9_floorMod_7cf53 a0 a1 h = some (rr, h')) : G X mJ9_floorMod_7cf53 d 0 [(0, .int a0), (1, .int a1)] [] h (some rr) h' := by
  unfold f_J9_floorMod_7cf53 at hf
  refine G.iload_n dJ9_floorMod_7cf53_0 rfl ?_
  refine G.iload_n dJ9_floorMod_7cf53_1 rfl ?_
  by_cases c1 : a1 = 0
  · rw [if_pos c1] at hf
    cases hf
  · rw [if_neg c1] at hf
    refine G.irem dJ9_floorMod_7cf53_2 c1 ?_
    refine G.istore_n (lv' := [(2, .int (a0 - a0 / a1 * a1)), (0, .int a0), (1, .int a1)]) dJ9_floorMod_7cf53_3 (by decide) rfl ?_
    refine G.iload_n dJ9_floorMod_7cf53_4 rfl ?_
    refine G.iload_n dJ9_floorMod_7cf53_5 rfl ?_
    refine G.ixor dJ9_floorMod_7cf53_6 ?_
    refine G.if_ge 18 dJ9_floorMod_7cf53_7 (by decide) (fun c2 => ?_) (fun c2 => ?_)
    · rw [if_pos c2] at hf
      refine G.iload_n dJ9_floorMod_7cf53_18 rfl ?_
      obtain ⟨hq1, hq2⟩ := Prod.mk.inj (Option.some.inj hf)
      subst hq1
      subst hq2
      exact G.iret rfl rfl dJ9_floorMod_7cf53_19
    · rw [if_neg c2] at hf
      refine G.iload_n dJ9_floorMod_7cf53_10 rfl ?_
      refine G.if_eq 18 dJ9_floorMod_7cf53_11 (by decide) (fun c3 => ?_) (fun c3 => ?_)
      · rw [if_pos c3] at hf
        refine G.iload_n dJ9_floorMod_7cf53_18 rfl ?_
        obtain ⟨hq1, hq2⟩ := Prod.mk.inj (Option.some.inj hf)
        subst hq1
        subst hq2
        exact G.iret rfl rfl dJ9_floorMod_7cf53_19
      · rw [if_neg c3] at hf
        refine G.iload_n dJ9_floorMod_7cf53_14 rfl ?_
        refine G.iload_n dJ9_floorMod_7cf53_15 rfl ?_
        refine G.iadd dJ9_floorMod_7cf53_16 ?_
        obtain ⟨hq1, hq2⟩ := Prod.mk.inj (Option.some.inj hf)
        subst hq1
        subst hq2
        exact G.iret rfl rfl dJ9_floorMod_7cf53_17
/-! X6_takeBack -/
theorem dX6_takeBack_0 : decode cX6_takeBack 0 = .ok (.aload_n 0, 1) := by decide +kernel
theorem dX6_takeBack_1 : decode cX6_takeBack 1 = .ok (.aload_n 0, 1) := by decide +kernel
theorem dX6_takeBack_2 : decode cX6_takeBack 2 = .ok (.getfield 18, 3) := by decide +kernel
theorem dX6_takeBack_5 : decode cX6_takeBack 5 = .ok (.iload_n 1, 1) := by decide +kernel
theorem dX6_takeBack_6 : decode cX6_takeBack 6 = .ok (.isub, 1) := by decide +kernel
theorem dX6_takeBack_7 : decode cX6_takeBack 7 = .ok (.bipush 30, 2) := by decide +kernel
theorem dX6_takeBack_9 : decode cX6_takeBack 9 = .ok (.invokestatic 35, 3) := by decide +kernel
theorem dX6_takeBack_12 : decode cX6_takeBack 12 = .ok (.putfield 18, 3) := by decide +kernel
theorem dX6_takeBack_15 : decode cX6_takeBack 15 = .ok (.aload_n 0, 1) := by decide +kernel
theorem dX6_takeBack_16 : decode cX6_takeBack 16 = .ok (.dup, 1) := by decide +kernel
theorem dX6_takeBack_17 : decode cX6_takeBack 17 = .ok (.getfield 26, 3) := by decide +kernel
theorem dX6_takeBack_20 : decode cX6_takeBack 20 = .ok (.iload_n 1, 1) := by decide +kernel
theorem dX6_takeBack_21 : decode cX6_takeBack 21 = .ok (.isub, 1) := by decide +kernel
theorem dX6_takeBack_22 : decode cX6_takeBack 22 = .ok (.putfield 26, 3) := by decide +kernel
theorem dX6_takeBack_25 : decode cX6_takeBack 25 = .ok (.aload_n 2, 1) := by decide +kernel
theorem dX6_takeBack_26 : decode cX6_takeBack 26 = .ok (.aload_n 0, 1) := by decide +kernel
theorem dX6_takeBack_27 : decode cX6_takeBack 27 = .ok (.getfield 11, 3) := by decide +kernel
theorem dX6_takeBack_30 : decode cX6_takeBack 30 = .ok (.aload_n 0, 1) := by decide +kernel
theorem dX6_takeBack_31 : decode cX6_takeBack 31 = .ok (.getfield 18, 3) := by decide +kernel
theorem dX6_takeBack_34 : decode cX6_takeBack 34 = .ok (.aaload, 1) := by decide +kernel
theorem dX6_takeBack_35 : decode cX6_takeBack 35 = .ok (.invokevirtual 22, 3) := by decide +kernel
theorem dX6_takeBack_38 : decode cX6_takeBack 38 = .ok (.return_, 1) := by decide +kernel
def f_X6_takeBack (a0 : Nat) (a1 : Int32) (a2 : Nat) (h : AH) : Option (AH) := if isO h 5 a0 = true then ((gi h 5 a0 1).bind fun x1 => bT1 (f_J9_floorMod_7cf53 (x1 - a1) (30 : Int32) h) fun x4 h2 => (pf h2 5 a0 1 (.int x4)).bind fun h5 => (gi h5 5 a0 2).bind fun x6 => (pf h5 5 a0 2 (.int (x6 - a1))).bind fun h7 => (gr h7 5 a0 0).bind fun r8 => (gi h7 5 a0 1).bind fun x9 => (ar h7 4 r8 x9).bind fun r10 => (f_X4_copyFrom a2 r10 h7).bind fun h11 => some h11) else none
set_option maxRecDepth 100000 in
set_option maxHeartbeats 4000000 in
theorem c_X6_takeBack (X : SX) (d : Nat) (a0 : Nat) (a1 : Int32) (a2 : Nat) (h : AH) (h' : AH) (hf : f_X6_takeBack a0 a1 a2 h = some h') : isO h 5 a0 = true ∧ G X mX6_takeBack (d + 2) 0 [(0, .ref a0), (1, .int a1), (2, .ref a2)] [] h none h' := by
  unfold f_X6_takeBack at hf
  by_cases ho : isO h 5 a0 = true
  · rw [if_pos ho] at hf
    refine ⟨ho, ?_⟩
    refine G.aload_n dX6_takeBack_0 rfl ?_
    refine G.aload_n dX6_takeBack_1 rfl ?_
    refine G.geti flX6_18 dX6_takeBack_2 hf (fun x1 hf => ?_)
    refine G.iload_n dX6_takeBack_5 rfl ?_
    refine G.isub dX6_takeBack_6 ?_
    refine G.bipush (v := (30 : Int32)) dX6_takeBack_7 (by decide) ?_
    obtain ⟨x4, h2, e3, hf⟩ := bT1_spec hf
    refine G.callSi (M' := mJ9_floorMod_7cf53) (As := [.int (x1 - a1), .int (30 : Int32)]) (st := [.ref a0]) okJ9_floorMod_7cf53 vsJ9_floorMod_7cf53 lkX6_35 rfl (Nat.le_of_ble_eq_true rfl) (Nat.le_of_ble_eq_true rfl) dX6_takeBack_9 (c_J9_floorMod_7cf53 X (d + 1) _ _ _ _ _ e3) ?_
    refine G.put flX6_18 (Or.inl rfl) (fun _ _ => ⟨rfl, rfl⟩) dX6_takeBack_12 hf (fun h5 hf => ?_)
    refine G.aload_n dX6_takeBack_15 rfl ?_
    refine G.dup dX6_takeBack_16 rfl ?_
    refine G.geti flX6_26 dX6_takeBack_17 hf (fun x6 hf => ?_)
    refine G.iload_n dX6_takeBack_20 rfl ?_
    refine G.isub dX6_takeBack_21 ?_
    refine G.put flX6_26 (Or.inl rfl) (fun _ _ => ⟨rfl, rfl⟩) dX6_takeBack_22 hf (fun h7 hf => ?_)
    refine G.aload_n dX6_takeBack_25 rfl ?_
    refine G.aload_n dX6_takeBack_26 rfl ?_
    refine G.getr flX6_11 dX6_takeBack_27 hf (fun r8 hf => ?_)
    refine G.aload_n dX6_takeBack_30 rfl ?_
    refine G.geti flX6_18 dX6_takeBack_31 hf (fun x9 hf => ?_)
    refine G.aald (Or.inl ⟨rfl, rfl⟩) dX6_takeBack_34 hf (fun r10 hf => ?_)
    obtain ⟨h11, e12, hf⟩ := Option.bind_eq_some_iff.mp hf
    refine G.callVv (M' := mX4_copyFrom) (ci := 4) (As := [.ref r10]) (st := []) okX4_copyFrom viX4_copyFrom lkX6_22 rfl rfl rfl (Nat.le_of_ble_eq_true rfl) (Nat.le_of_ble_eq_true rfl) dX6_takeBack_35 (c_X4_copyFrom X d _ _ _ _ e12).1 (c_X4_copyFrom X d _ _ _ _ e12).2 ?_
    have hq := Option.some.inj hf
    subst hq
    exact G.vret rfl dX6_takeBack_38
  · rw [if_neg ho] at hf
    cases hf
/-! X12_undo -/
theorem dX12_undo_0 : decode cX12_undo 0 = .ok (.iload_n 1, 1) := by decide +kernel
theorem dX12_undo_1 : decode cX12_undo 1 = .ok (.iconst 1, 1) := by decide +kernel
theorem dX12_undo_2 : decode cX12_undo 2 = .ok (.if_icmp .lt 9, 3) := by decide +kernel
theorem dX12_undo_5 : decode cX12_undo 5 = .ok (.iload_n 1, 1) := by decide +kernel
theorem dX12_undo_6 : decode cX12_undo 6 = .ok (.bipush 30, 2) := by decide +kernel
theorem dX12_undo_8 : decode cX12_undo 8 = .ok (.if_icmp .le 6, 3) := by decide +kernel
theorem dX12_undo_11 : decode cX12_undo 11 = .ok (.ldc 72, 2) := by decide +kernel
theorem dX12_undo_13 : decode cX12_undo 13 = .ok (.ireturn, 1) := by decide +kernel
theorem dX12_undo_14 : decode cX12_undo 14 = .ok (.iload_n 1, 1) := by decide +kernel
theorem dX12_undo_15 : decode cX12_undo 15 = .ok (.aload_n 0, 1) := by decide +kernel
theorem dX12_undo_16 : decode cX12_undo 16 = .ok (.getfield 40, 3) := by decide +kernel
theorem dX12_undo_19 : decode cX12_undo 19 = .ok (.getfield 165, 3) := by decide +kernel
theorem dX12_undo_22 : decode cX12_undo 22 = .ok (.if_icmp .le 6, 3) := by decide +kernel
theorem dX12_undo_25 : decode cX12_undo 25 = .ok (.ldc 222, 2) := by decide +kernel
theorem dX12_undo_27 : decode cX12_undo 27 = .ok (.ireturn, 1) := by decide +kernel
theorem dX12_undo_28 : decode cX12_undo 28 = .ok (.aload_n 0, 1) := by decide +kernel
theorem dX12_undo_29 : decode cX12_undo 29 = .ok (.getfield 40, 3) := by decide +kernel
theorem dX12_undo_32 : decode cX12_undo 32 = .ok (.iload_n 1, 1) := by decide +kernel
theorem dX12_undo_33 : decode cX12_undo 33 = .ok (.aload_n 0, 1) := by decide +kernel
theorem dX12_undo_34 : decode cX12_undo 34 = .ok (.getfield 19, 3) := by decide +kernel
theorem dX12_undo_37 : decode cX12_undo 37 = .ok (.getfield 119, 3) := by decide +kernel
theorem dX12_undo_40 : decode cX12_undo 40 = .ok (.invokevirtual 256, 3) := by decide +kernel
theorem dX12_undo_43 : decode cX12_undo 43 = .ok (.aload_n 0, 1) := by decide +kernel
theorem dX12_undo_44 : decode cX12_undo 44 = .ok (.getfield 19, 3) := by decide +kernel
theorem dX12_undo_47 : decode cX12_undo 47 = .ok (.getfield 119, 3) := by decide +kernel
theorem dX12_undo_50 : decode cX12_undo 50 = .ok (.getfield 123, 3) := by decide +kernel
theorem dX12_undo_53 : decode cX12_undo 53 = .ok (.ireturn, 1) := by decide +kernel
def f_X12_undo (a0 : Nat) (a1 : Int32) (h : AH) : Option (Int32 × AH) := if isO h 11 a0 = true then (if a1 < (1 : Int32) then (some ((-1000000002 : Int32), h)) else (if a1 ≤ (30 : Int32) then ((gr h 11 a0 4).bind fun r3 => (gi h 5 r3 2).bind fun x4 => if a1 ≤ x4 then ((gr h 11 a0 4).bind fun r6 => (gr h 11 a0 1).bind fun r7 => (gr h 3 r7 0).bind fun r8 => (f_X6_takeBack r6 a1 r8 h).bind fun h9 => (gr h9 11 a0 1).bind fun r11 => (gr h9 3 r11 0).bind fun r12 => (gi h9 4 r12 8).bind fun x13 => some (x13, h9)) else (some ((-1000000003 : Int32), h))) else (some ((-1000000002 : Int32), h)))) else none
set_option maxRecDepth 100000 in
set_option maxHeartbeats 4000000 in
theorem c_X12_undo (X : SX) (d : Nat) (a0 : Nat) (a1 : Int32) (h : AH) (rr : Int32) (h' : AH) (hf : f_X12_undo a0 a1 h = some (rr, h')) : isO h 11 a0 = true ∧ G X mX12_undo (d + 3) 0 [(0, .ref a0), (1, .int a1)] [] h (some rr) h' := by
  unfold f_X12_undo at hf
  by_cases ho : isO h 11 a0 = true
  · rw [if_pos ho] at hf
    refine ⟨ho, ?_⟩
    refine G.iload_n dX12_undo_0 rfl ?_
    refine G.iconst (v := (1 : Int32)) dX12_undo_1 (by decide) ?_
    refine G.icmp_lt 11 dX12_undo_2 (by decide) (fun c1 => ?_) (fun c1 => ?_)
    · rw [if_pos c1] at hf
      refine G.ldc ckX12_72 dX12_undo_11 ?_
      obtain ⟨hq1, hq2⟩ := Prod.mk.inj (Option.some.inj hf)
      subst hq1
      subst hq2
      exact G.iret rfl rfl dX12_undo_13
    · rw [if_neg c1] at hf
      refine G.iload_n dX12_undo_5 rfl ?_
      refine G.bipush (v := (30 : Int32)) dX12_undo_6 (by decide) ?_
      refine G.icmp_le 14 dX12_undo_8 (by decide) (fun c2 => ?_) (fun c2 => ?_)
      · rw [if_pos c2] at hf
        refine G.iload_n dX12_undo_14 rfl ?_
        refine G.aload_n dX12_undo_15 rfl ?_
        refine G.getr flX12_40 dX12_undo_16 hf (fun r3 hf => ?_)
        refine G.geti flX12_165 dX12_undo_19 hf (fun x4 hf => ?_)
        refine G.icmp_le 28 dX12_undo_22 (by decide) (fun c5 => ?_) (fun c5 => ?_)
        · rw [if_pos c5] at hf
          refine G.aload_n dX12_undo_28 rfl ?_
          refine G.getr flX12_40 dX12_undo_29 hf (fun r6 hf => ?_)
          refine G.iload_n dX12_undo_32 rfl ?_
          refine G.aload_n dX12_undo_33 rfl ?_
          refine G.getr flX12_19 dX12_undo_34 hf (fun r7 hf => ?_)
          refine G.getr flX12_119 dX12_undo_37 hf (fun r8 hf => ?_)
          obtain ⟨h9, e10, hf⟩ := Option.bind_eq_some_iff.mp hf
          refine G.callVv (M' := mX6_takeBack) (ci := 5) (As := [.int a1, .ref r8]) (st := []) okX6_takeBack viX6_takeBack lkX12_256 rfl rfl rfl (Nat.le_of_ble_eq_true rfl) (Nat.le_of_ble_eq_true rfl) dX12_undo_40 (c_X6_takeBack X d _ _ _ _ _ e10).1 (c_X6_takeBack X d _ _ _ _ _ e10).2 ?_
          refine G.aload_n dX12_undo_43 rfl ?_
          refine G.getr flX12_19 dX12_undo_44 hf (fun r11 hf => ?_)
          refine G.getr flX12_119 dX12_undo_47 hf (fun r12 hf => ?_)
          refine G.geti flX12_123 dX12_undo_50 hf (fun x13 hf => ?_)
          obtain ⟨hq1, hq2⟩ := Prod.mk.inj (Option.some.inj hf)
          subst hq1
          subst hq2
          exact G.iret rfl rfl dX12_undo_53
        · rw [if_neg c5] at hf
          refine G.ldc ckX12_222 dX12_undo_25 ?_
          obtain ⟨hq1, hq2⟩ := Prod.mk.inj (Option.some.inj hf)
          subst hq1
          subst hq2
          exact G.iret rfl rfl dX12_undo_27
      · rw [if_neg c2] at hf
        refine G.ldc ckX12_72 dX12_undo_11 ?_
        obtain ⟨hq1, hq2⟩ := Prod.mk.inj (Option.some.inj hf)
        subst hq1
        subst hq2
        exact G.iret rfl rfl dX12_undo_13
  · rw [if_neg ho] at hf
    cases hf
/-! X13_undo -/
theorem dX13_undo_0 : decode cX13_undo 0 = .ok (.iload_n 1, 1) := by decide +kernel
theorem dX13_undo_1 : decode cX13_undo 1 = .ok (.iconst 1, 1) := by decide +kernel
theorem dX13_undo_2 : decode cX13_undo 2 = .ok (.if_icmp .lt 9, 3) := by decide +kernel
theorem dX13_undo_5 : decode cX13_undo 5 = .ok (.iload_n 1, 1) := by decide +kernel
theorem dX13_undo_6 : decode cX13_undo 6 = .ok (.bipush 30, 2) := by decide +kernel
theorem dX13_undo_8 : decode cX13_undo 8 = .ok (.if_icmp .le 6, 3) := by decide +kernel
theorem dX13_undo_11 : decode cX13_undo 11 = .ok (.ldc 81, 2) := by decide +kernel
theorem dX13_undo_13 : decode cX13_undo 13 = .ok (.ireturn, 1) := by decide +kernel
theorem dX13_undo_14 : decode cX13_undo 14 = .ok (.iload_n 1, 1) := by decide +kernel
theorem dX13_undo_15 : decode cX13_undo 15 = .ok (.aload_n 0, 1) := by decide +kernel
theorem dX13_undo_16 : decode cX13_undo 16 = .ok (.getfield 138, 3) := by decide +kernel
theorem dX13_undo_19 : decode cX13_undo 19 = .ok (.if_icmp .le 6, 3) := by decide +kernel
theorem dX13_undo_22 : decode cX13_undo 22 = .ok (.ldc 184, 2) := by decide +kernel
theorem dX13_undo_24 : decode cX13_undo 24 = .ok (.ireturn, 1) := by decide +kernel
theorem dX13_undo_25 : decode cX13_undo 25 = .ok (.aload_n 0, 1) := by decide +kernel
theorem dX13_undo_26 : decode cX13_undo 26 = .ok (.dup, 1) := by decide +kernel
theorem dX13_undo_27 : decode cX13_undo 27 = .ok (.getfield 138, 3) := by decide +kernel
theorem dX13_undo_30 : decode cX13_undo 30 = .ok (.iload_n 1, 1) := by decide +kernel
theorem dX13_undo_31 : decode cX13_undo 31 = .ok (.isub, 1) := by decide +kernel
theorem dX13_undo_32 : decode cX13_undo 32 = .ok (.putfield 138, 3) := by decide +kernel
theorem dX13_undo_35 : decode cX13_undo 35 = .ok (.iconst 0, 1) := by decide +kernel
theorem dX13_undo_36 : decode cX13_undo 36 = .ok (.istore_n 2, 1) := by decide +kernel
theorem dX13_undo_37 : decode cX13_undo 37 = .ok (.iload_n 2, 1) := by decide +kernel
theorem dX13_undo_38 : decode cX13_undo 38 = .ok (.bipush 51, 2) := by decide +kernel
theorem dX13_undo_40 : decode cX13_undo 40 = .ok (.if_icmp .ge 29, 3) := by decide +kernel
theorem dX13_undo_43 : decode cX13_undo 43 = .ok (.aload_n 0, 1) := by decide +kernel
theorem dX13_undo_44 : decode cX13_undo 44 = .ok (.getfield 29, 3) := by decide +kernel
theorem dX13_undo_47 : decode cX13_undo 47 = .ok (.iload_n 2, 1) := by decide +kernel
theorem dX13_undo_48 : decode cX13_undo 48 = .ok (.aload_n 0, 1) := by decide +kernel
theorem dX13_undo_49 : decode cX13_undo 49 = .ok (.getfield 32, 3) := by decide +kernel
theorem dX13_undo_52 : decode cX13_undo 52 = .ok (.bipush 51, 2) := by decide +kernel
theorem dX13_undo_54 : decode cX13_undo 54 = .ok (.aload_n 0, 1) := by decide +kernel
theorem dX13_undo_55 : decode cX13_undo 55 = .ok (.getfield 138, 3) := by decide +kernel
theorem dX13_undo_58 : decode cX13_undo 58 = .ok (.imul, 1) := by decide +kernel
theorem dX13_undo_59 : decode cX13_undo 59 = .ok (.iload_n 2, 1) := by decide +kernel
theorem dX13_undo_60 : decode cX13_undo 60 = .ok (.iadd, 1) := by decide +kernel
theorem dX13_undo_61 : decode cX13_undo 61 = .ok (.iaload, 1) := by decide +kernel
theorem dX13_undo_62 : decode cX13_undo 62 = .ok (.iastore, 1) := by decide +kernel
theorem dX13_undo_63 : decode cX13_undo 63 = .ok (.iinc 2 1, 3) := by decide +kernel
theorem dX13_undo_66 : decode cX13_undo 66 = .ok (.goto (-29), 3) := by decide +kernel
theorem dX13_undo_69 : decode cX13_undo 69 = .ok (.aload_n 0, 1) := by decide +kernel
theorem dX13_undo_70 : decode cX13_undo 70 = .ok (.getfield 29, 3) := by decide +kernel
theorem dX13_undo_73 : decode cX13_undo 73 = .ok (.bipush 50, 2) := by decide +kernel
theorem dX13_undo_75 : decode cX13_undo 75 = .ok (.iaload, 1) := by decide +kernel
theorem dX13_undo_76 : decode cX13_undo 76 = .ok (.ireturn, 1) := by decide +kernel
def F_X13_undo_L37 (rec : Nat → Int32 → AH → Option (AH)) (v0 : Nat) (v2 : Int32) (h : AH) : Option (AH) := if (51 : Int32) ≤ v2 then (some (h)) else ((gr h 12 v0 11).bind fun r2 => (gr h 12 v0 12).bind fun r3 => (gi h 12 v0 13).bind fun x4 => (ai h 0 r3 (((51 : Int32) * x4) + v2)).bind fun x5 => (aw h 0 r2 v2 x5).bind fun h6 => rec v0 (v2 + 1) h6)
def f_X13_undo_L37 : Nat → Nat → Int32 → AH → Option (AH)
  | 0 => fun _ _ _ => none
  | n + 1 => F_X13_undo_L37 (f_X13_undo_L37 n)
set_option maxRecDepth 100000 in
set_option maxHeartbeats 4000000 in
theorem lx_X13_undo_L37 (X : SX) (d : Nat) : ∀ n (rv : Option Int32) (h' : AH), ∀ (v0 : Nat) (v2 : Int32) (h : AH)  (h1 : AH), f_X13_undo_L37 n v0 v2 h = some (h1) → G X mX13_undo d 69 [(0, .ref v0)] [] h1 rv h' → G X mX13_undo d 37 [(0, .ref v0), (2, .int v2)] [] h rv h' := by
  intro n
  induction n with
  | zero =>
    intro rv h' v0 v2 h h1 hf hE
    cases hf
  | succ n ihf =>
    intro rv h' v0 v2 h h1 hf hE
    replace hf : F_X13_undo_L37 (f_X13_undo_L37 n) v0 v2 h = some (h1) := hf
    unfold F_X13_undo_L37 at hf
    have ih := ihf rv h'
    refine G.iload_n dX13_undo_37 rfl ?_
    refine G.bipush (v := (51 : Int32)) dX13_undo_38 (by decide) ?_
    refine G.icmp_ge 69 dX13_undo_40 (by decide) (fun c1 => ?_) (fun c1 => ?_)
    · rw [if_pos c1] at hf
      have w0 := Option.some.inj hf
      subst w0
      exact G.pick [0] rfl hE
    · rw [if_neg c1] at hf
      refine G.aload_n dX13_undo_43 rfl ?_
      refine G.getr flX13_29 dX13_undo_44 hf (fun r2 hf => ?_)
      refine G.iload_n dX13_undo_47 rfl ?_
      refine G.aload_n dX13_undo_48 rfl ?_
      refine G.getr flX13_32 dX13_undo_49 hf (fun r3 hf => ?_)
      refine G.bipush (v := (51 : Int32)) dX13_undo_52 (by decide) ?_
      refine G.aload_n dX13_undo_54 rfl ?_
      refine G.geti flX13_138 dX13_undo_55 hf (fun x4 hf => ?_)
      refine G.imul dX13_undo_58 ?_
      refine G.iload_n dX13_undo_59 rfl ?_
      refine G.iadd dX13_undo_60 ?_
      refine G.iald dX13_undo_61 hf (fun x5 hf => ?_)
      refine G.iast dX13_undo_62 hf (fun h6 hf => ?_)
      refine G.iinc (v := (v2 + 1)) (lv' := [(2, .int (v2 + 1)), (0, .ref v0)]) dX13_undo_63 rfl rfl (by decide) rfl ?_
      refine G.goto 37 dX13_undo_66 (by decide) ?_
      exact G.pick [1, 0] rfl (ih v0 (v2 + 1) h6 _ hf hE)
theorem l_X13_undo_L37 (X : SX) (d : Nat) (rv : Option Int32) (h' : AH) (n : Nat) : ∀ (v0 : Nat) (v2 : Int32) (h : AH)  (h1 : AH), f_X13_undo_L37 n v0 v2 h = some (h1) → G X mX13_undo d 69 [(0, .ref v0)] [] h1 rv h' → G X mX13_undo d 37 [(0, .ref v0), (2, .int v2)] [] h rv h' := lx_X13_undo_L37 X d n rv h'
def f_X13_undo (a0 : Nat) (a1 : Int32) (h : AH) : Option (Int32 × AH) := if isO h 12 a0 = true then (if a1 < (1 : Int32) then (some ((-1000000002 : Int32), h)) else (if a1 ≤ (30 : Int32) then ((gi h 12 a0 13).bind fun x3 => if a1 ≤ x3 then ((gi h 12 a0 13).bind fun x5 => (pf h 12 a0 13 (.int (x5 - a1))).bind fun h6 => (f_X13_undo_L37 1000000 a0 (0 : Int32) h6).bind fun h7 => (gr h7 12 a0 11).bind fun r9 => (ai h7 0 r9 (50 : Int32)).bind fun x10 => some (x10, h7)) else (some ((-1000000003 : Int32), h))) else (some ((-1000000002 : Int32), h)))) else none
set_option maxRecDepth 100000 in
set_option maxHeartbeats 4000000 in
theorem c_X13_undo (X : SX) (d : Nat) (a0 : Nat) (a1 : Int32) (h : AH) (rr : Int32) (h' : AH) (hf : f_X13_undo a0 a1 h = some (rr, h')) : isO h 12 a0 = true ∧ G X mX13_undo d 0 [(0, .ref a0), (1, .int a1)] [] h (some rr) h' := by
  unfold f_X13_undo at hf
  by_cases ho : isO h 12 a0 = true
  · rw [if_pos ho] at hf
    refine ⟨ho, ?_⟩
    refine G.iload_n dX13_undo_0 rfl ?_
    refine G.iconst (v := (1 : Int32)) dX13_undo_1 (by decide) ?_
    refine G.icmp_lt 11 dX13_undo_2 (by decide) (fun c1 => ?_) (fun c1 => ?_)
    · rw [if_pos c1] at hf
      refine G.ldc ckX13_81 dX13_undo_11 ?_
      obtain ⟨hq1, hq2⟩ := Prod.mk.inj (Option.some.inj hf)
      subst hq1
      subst hq2
      exact G.iret rfl rfl dX13_undo_13
    · rw [if_neg c1] at hf
      refine G.iload_n dX13_undo_5 rfl ?_
      refine G.bipush (v := (30 : Int32)) dX13_undo_6 (by decide) ?_
      refine G.icmp_le 14 dX13_undo_8 (by decide) (fun c2 => ?_) (fun c2 => ?_)
      · rw [if_pos c2] at hf
        refine G.iload_n dX13_undo_14 rfl ?_
        refine G.aload_n dX13_undo_15 rfl ?_
        refine G.geti flX13_138 dX13_undo_16 hf (fun x3 hf => ?_)
        refine G.icmp_le 25 dX13_undo_19 (by decide) (fun c4 => ?_) (fun c4 => ?_)
        · rw [if_pos c4] at hf
          refine G.aload_n dX13_undo_25 rfl ?_
          refine G.dup dX13_undo_26 rfl ?_
          refine G.geti flX13_138 dX13_undo_27 hf (fun x5 hf => ?_)
          refine G.iload_n dX13_undo_30 rfl ?_
          refine G.isub dX13_undo_31 ?_
          refine G.put flX13_138 (Or.inl rfl) (fun _ _ => ⟨rfl, rfl⟩) dX13_undo_32 hf (fun h6 hf => ?_)
          refine G.iconst (v := (0 : Int32)) dX13_undo_35 (by decide) ?_
          refine G.istore_n (lv' := [(2, .int (0 : Int32)), (0, .ref a0), (1, .int a1)]) dX13_undo_36 (by decide) rfl ?_
          obtain ⟨h7, e8, hf⟩ := Option.bind_eq_some_iff.mp hf
          refine G.pick [1, 0] rfl (l_X13_undo_L37 X d _ _ 1000000 a0 (0 : Int32) h6 h7 e8 ?_)
          refine G.aload_n dX13_undo_69 rfl ?_
          refine G.getr flX13_29 dX13_undo_70 hf (fun r9 hf => ?_)
          refine G.bipush (v := (50 : Int32)) dX13_undo_73 (by decide) ?_
          refine G.iald dX13_undo_75 hf (fun x10 hf => ?_)
          obtain ⟨hq1, hq2⟩ := Prod.mk.inj (Option.some.inj hf)
          subst hq1
          subst hq2
          exact G.iret rfl rfl dX13_undo_76
        · rw [if_neg c4] at hf
          refine G.ldc ckX13_184 dX13_undo_22 ?_
          obtain ⟨hq1, hq2⟩ := Prod.mk.inj (Option.some.inj hf)
          subst hq1
          subst hq2
          exact G.iret rfl rfl dX13_undo_24
      · rw [if_neg c2] at hf
        refine G.ldc ckX13_81 dX13_undo_11 ?_
        obtain ⟨hq1, hq2⟩ := Prod.mk.inj (Option.some.inj hf)
        subst hq1
        subst hq2
        exact G.iret rfl rfl dX13_undo_13
  · rw [if_neg ho] at hf
    cases hf
/-! X12_steps -/
theorem dX12_steps_0 : decode cX12_steps 0 = .ok (.aload_n 0, 1) := by decide +kernel
theorem dX12_steps_1 : decode cX12_steps 1 = .ok (.getfield 19, 3) := by decide +kernel
theorem dX12_steps_4 : decode cX12_steps 4 = .ok (.iload_n 1, 1) := by decide +kernel
theorem dX12_steps_5 : decode cX12_steps 5 = .ok (.iload_n 2, 1) := by decide +kernel
theorem dX12_steps_6 : decode cX12_steps 6 = .ok (.invokevirtual 231, 3) := by decide +kernel
theorem dX12_steps_9 : decode cX12_steps 9 = .ok (.ifCond .eq 26, 3) := by decide +kernel
theorem dX12_steps_12 : decode cX12_steps 12 = .ok (.aload_n 0, 1) := by decide +kernel
theorem dX12_steps_13 : decode cX12_steps 13 = .ok (.getfield 19, 3) := by decide +kernel
theorem dX12_steps_16 : decode cX12_steps 16 = .ok (.iload_n 1, 1) := by decide +kernel
theorem dX12_steps_17 : decode cX12_steps 17 = .ok (.aload_n 0, 1) := by decide +kernel
theorem dX12_steps_18 : decode cX12_steps 18 = .ok (.getfield 19, 3) := by decide +kernel
theorem dX12_steps_21 : decode cX12_steps 21 = .ok (.getfield 119, 3) := by decide +kernel
theorem dX12_steps_24 : decode cX12_steps 24 = .ok (.getfield 202, 3) := by decide +kernel
theorem dX12_steps_27 : decode cX12_steps 27 = .ok (.iload_n 2, 1) := by decide +kernel
theorem dX12_steps_28 : decode cX12_steps 28 = .ok (.iaload, 1) := by decide +kernel
theorem dX12_steps_29 : decode cX12_steps 29 = .ok (.invokevirtual 260, 3) := by decide +kernel
theorem dX12_steps_32 : decode cX12_steps 32 = .ok (.goto 5, 3) := by decide +kernel
theorem dX12_steps_35 : decode cX12_steps 35 = .ok (.ldc 170, 2) := by decide +kernel
theorem dX12_steps_37 : decode cX12_steps 37 = .ok (.ireturn, 1) := by decide +kernel
def f_X12_steps (a0 : Nat) (a1 : Int32) (a2 : Int32) (h : AH) : Option (Int32 × AH) := if isO h 11 a0 = true then ((gr h 11 a0 1).bind fun r1 => bT1 (f_X3_hasBoth r1 a1 a2 h) fun x4 h2 => if x4 = 0 then (some ((-1000000001 : Int32), h2)) else ((gr h2 11 a0 1).bind fun r6 => (gr h2 11 a0 1).bind fun r7 => (gr h2 3 r7 0).bind fun r8 => (gr h2 4 r8 4).bind fun r9 => (ai h2 0 r9 a2).bind fun x10 => bT1 (f_X3_stepsTo r6 a1 x10 h2) fun x13 h11 => some (x13, h11))) else none
set_option maxRecDepth 100000 in
set_option maxHeartbeats 4000000 in
theorem c_X12_steps (X : SX) (d : Nat) (a0 : Nat) (a1 : Int32) (a2 : Int32) (h : AH) (rr : Int32) (h' : AH) (hf : f_X12_steps a0 a1 a2 h = some (rr, h')) : isO h 11 a0 = true ∧ G X mX12_steps (d + 2) 0 [(0, .ref a0), (1, .int a1), (2, .int a2)] [] h (some rr) h' := by
  unfold f_X12_steps at hf
  by_cases ho : isO h 11 a0 = true
  · rw [if_pos ho] at hf
    refine ⟨ho, ?_⟩
    refine G.aload_n dX12_steps_0 rfl ?_
    refine G.getr flX12_19 dX12_steps_1 hf (fun r1 hf => ?_)
    refine G.iload_n dX12_steps_4 rfl ?_
    refine G.iload_n dX12_steps_5 rfl ?_
    obtain ⟨x4, h2, e3, hf⟩ := bT1_spec hf
    refine G.callVi (M' := mX3_hasBoth) (ci := 3) (As := [.int a1, .int a2]) (st := []) okX3_hasBoth viX3_hasBoth lkX12_231 rfl rfl rfl (Nat.le_of_ble_eq_true rfl) (Nat.le_of_ble_eq_true rfl) dX12_steps_6 (c_X3_hasBoth X d _ _ _ _ _ _ e3).1 (c_X3_hasBoth X d _ _ _ _ _ _ e3).2 ?_
    refine G.if_eq 35 dX12_steps_9 (by decide) (fun c5 => ?_) (fun c5 => ?_)
    · rw [if_pos c5] at hf
      refine G.ldc ckX12_170 dX12_steps_35 ?_
      obtain ⟨hq1, hq2⟩ := Prod.mk.inj (Option.some.inj hf)
      subst hq1
      subst hq2
      exact G.iret rfl rfl dX12_steps_37
    · rw [if_neg c5] at hf
      refine G.aload_n dX12_steps_12 rfl ?_
      refine G.getr flX12_19 dX12_steps_13 hf (fun r6 hf => ?_)
      refine G.iload_n dX12_steps_16 rfl ?_
      refine G.aload_n dX12_steps_17 rfl ?_
      refine G.getr flX12_19 dX12_steps_18 hf (fun r7 hf => ?_)
      refine G.getr flX12_119 dX12_steps_21 hf (fun r8 hf => ?_)
      refine G.getr flX12_202 dX12_steps_24 hf (fun r9 hf => ?_)
      refine G.iload_n dX12_steps_27 rfl ?_
      refine G.iald dX12_steps_28 hf (fun x10 hf => ?_)
      obtain ⟨x13, h11, e12, hf⟩ := bT1_spec hf
      refine G.callVi (M' := mX3_stepsTo) (ci := 3) (As := [.int a1, .int x10]) (st := []) okX3_stepsTo viX3_stepsTo lkX12_260 rfl rfl rfl (Nat.le_of_ble_eq_true rfl) (Nat.le_of_ble_eq_true rfl) dX12_steps_29 (c_X3_stepsTo X d _ _ _ _ _ _ e12).1 (c_X3_stepsTo X d _ _ _ _ _ _ e12).2 ?_
      refine G.goto 37 dX12_steps_32 (by decide) ?_
      obtain ⟨hq1, hq2⟩ := Prod.mk.inj (Option.some.inj hf)
      subst hq1
      subst hq2
      exact G.iret rfl rfl dX12_steps_37
  · rw [if_neg ho] at hf
    cases hf
/-! X12_can -/
theorem dX12_can_0 : decode cX12_can 0 = .ok (.aload_n 0, 1) := by decide +kernel
theorem dX12_can_1 : decode cX12_can 1 = .ok (.getfield 19, 3) := by decide +kernel
theorem dX12_can_4 : decode cX12_can 4 = .ok (.iload_n 1, 1) := by decide +kernel
theorem dX12_can_5 : decode cX12_can 5 = .ok (.iload_n 2, 1) := by decide +kernel
theorem dX12_can_6 : decode cX12_can 6 = .ok (.invokevirtual 231, 3) := by decide +kernel
theorem dX12_can_9 : decode cX12_can 9 = .ok (.ifCond .ne 6, 3) := by decide +kernel
theorem dX12_can_12 : decode cX12_can 12 = .ok (.ldc 170, 2) := by decide +kernel
theorem dX12_can_14 : decode cX12_can 14 = .ok (.ireturn, 1) := by decide +kernel
theorem dX12_can_15 : decode cX12_can 15 = .ok (.aload_n 0, 1) := by decide +kernel
theorem dX12_can_16 : decode cX12_can 16 = .ok (.getfield 19, 3) := by decide +kernel
theorem dX12_can_19 : decode cX12_can 19 = .ok (.iload_n 1, 1) := by decide +kernel
theorem dX12_can_20 : decode cX12_can 20 = .ok (.iload_n 2, 1) := by decide +kernel
theorem dX12_can_21 : decode cX12_can 21 = .ok (.invokevirtual 263, 3) := by decide +kernel
theorem dX12_can_24 : decode cX12_can 24 = .ok (.ifCond .eq 7, 3) := by decide +kernel
theorem dX12_can_27 : decode cX12_can 27 = .ok (.iconst 1, 1) := by decide +kernel
theorem dX12_can_28 : decode cX12_can 28 = .ok (.goto 4, 3) := by decide +kernel
theorem dX12_can_31 : decode cX12_can 31 = .ok (.iconst 0, 1) := by decide +kernel
theorem dX12_can_32 : decode cX12_can 32 = .ok (.ireturn, 1) := by decide +kernel
def f_X12_can (a0 : Nat) (a1 : Int32) (a2 : Int32) (h : AH) : Option (Int32 × AH) := if isO h 11 a0 = true then ((gr h 11 a0 1).bind fun r1 => bT1 (f_X3_hasBoth r1 a1 a2 h) fun x4 h2 => if x4 = 0 then (some ((-1000000001 : Int32), h2)) else ((gr h2 11 a0 1).bind fun r6 => bT1 (f_X3_couldPutDown r6 a1 a2 h2) fun x9 h7 => if x9 = 0 then (some ((0 : Int32), h7)) else (some ((1 : Int32), h7)))) else none
set_option maxRecDepth 100000 in
set_option maxHeartbeats 4000000 in
theorem c_X12_can (X : SX) (d : Nat) (a0 : Nat) (a1 : Int32) (a2 : Int32) (h : AH) (rr : Int32) (h' : AH) (hf : f_X12_can a0 a1 a2 h = some (rr, h')) : isO h 11 a0 = true ∧ G X mX12_can (d + 3) 0 [(0, .ref a0), (1, .int a1), (2, .int a2)] [] h (some rr) h' := by
  unfold f_X12_can at hf
  by_cases ho : isO h 11 a0 = true
  · rw [if_pos ho] at hf
    refine ⟨ho, ?_⟩
    refine G.aload_n dX12_can_0 rfl ?_
    refine G.getr flX12_19 dX12_can_1 hf (fun r1 hf => ?_)
    refine G.iload_n dX12_can_4 rfl ?_
    refine G.iload_n dX12_can_5 rfl ?_
    obtain ⟨x4, h2, e3, hf⟩ := bT1_spec hf
    refine G.callVi (M' := mX3_hasBoth) (ci := 3) (As := [.int a1, .int a2]) (st := []) okX3_hasBoth viX3_hasBoth lkX12_231 rfl rfl rfl (Nat.le_of_ble_eq_true rfl) (Nat.le_of_ble_eq_true rfl) dX12_can_6 (c_X3_hasBoth X (d + 1) _ _ _ _ _ _ e3).1 (c_X3_hasBoth X (d + 1) _ _ _ _ _ _ e3).2 ?_
    refine G.if_ne 15 dX12_can_9 (by decide) (fun c5 => ?_) (fun c5 => ?_)
    · rw [if_neg c5] at hf
      refine G.aload_n dX12_can_15 rfl ?_
      refine G.getr flX12_19 dX12_can_16 hf (fun r6 hf => ?_)
      refine G.iload_n dX12_can_19 rfl ?_
      refine G.iload_n dX12_can_20 rfl ?_
      obtain ⟨x9, h7, e8, hf⟩ := bT1_spec hf
      refine G.callVi (M' := mX3_couldPutDown) (ci := 3) (As := [.int a1, .int a2]) (st := []) okX3_couldPutDown viX3_couldPutDown lkX12_263 rfl rfl rfl (Nat.le_of_ble_eq_true rfl) (Nat.le_of_ble_eq_true rfl) dX12_can_21 (c_X3_couldPutDown X d _ _ _ _ _ _ e8).1 (c_X3_couldPutDown X d _ _ _ _ _ _ e8).2 ?_
      refine G.if_eq 31 dX12_can_24 (by decide) (fun c10 => ?_) (fun c10 => ?_)
      · rw [if_pos c10] at hf
        refine G.iconst (v := (0 : Int32)) dX12_can_31 (by decide) ?_
        obtain ⟨hq1, hq2⟩ := Prod.mk.inj (Option.some.inj hf)
        subst hq1
        subst hq2
        exact G.iret rfl rfl dX12_can_32
      · rw [if_neg c10] at hf
        refine G.iconst (v := (1 : Int32)) dX12_can_27 (by decide) ?_
        refine G.goto 32 dX12_can_28 (by decide) ?_
        obtain ⟨hq1, hq2⟩ := Prod.mk.inj (Option.some.inj hf)
        subst hq1
        subst hq2
        exact G.iret rfl rfl dX12_can_32
    · rw [if_pos c5] at hf
      refine G.ldc ckX12_170 dX12_can_12 ?_
      obtain ⟨hq1, hq2⟩ := Prod.mk.inj (Option.some.inj hf)
      subst hq1
      subst hq2
      exact G.iret rfl rfl dX12_can_14
  · rw [if_neg ho] at hf
    cases hf
/-! X13_can -/
theorem dX13_can_0 : decode cX13_can 0 = .ok (.aload_n 0, 1) := by decide +kernel
theorem dX13_can_1 : decode cX13_can 1 = .ok (.iload_n 1, 1) := by decide +kernel
theorem dX13_can_2 : decode cX13_can 2 = .ok (.invokevirtual 176, 3) := by decide +kernel
theorem dX13_can_5 : decode cX13_can 5 = .ok (.ifCond .eq 11, 3) := by decide +kernel
theorem dX13_can_8 : decode cX13_can 8 = .ok (.aload_n 0, 1) := by decide +kernel
theorem dX13_can_9 : decode cX13_can 9 = .ok (.iload_n 2, 1) := by decide +kernel
theorem dX13_can_10 : decode cX13_can 10 = .ok (.invokevirtual 181, 3) := by decide +kernel
theorem dX13_can_13 : decode cX13_can 13 = .ok (.ifCond .ne 8, 3) := by decide +kernel
theorem dX13_can_16 : decode cX13_can 16 = .ok (.ldc 180, 2) := by decide +kernel
theorem dX13_can_18 : decode cX13_can 18 = .ok (.goto 17, 3) := by decide +kernel
theorem dX13_can_21 : decode cX13_can 21 = .ok (.aload_n 0, 1) := by decide +kernel
theorem dX13_can_22 : decode cX13_can 22 = .ok (.iload_n 1, 1) := by decide +kernel
theorem dX13_can_23 : decode cX13_can 23 = .ok (.iload_n 2, 1) := by decide +kernel
theorem dX13_can_24 : decode cX13_can 24 = .ok (.invokevirtual 234, 3) := by decide +kernel
theorem dX13_can_27 : decode cX13_can 27 = .ok (.ifCond .eq 7, 3) := by decide +kernel
theorem dX13_can_30 : decode cX13_can 30 = .ok (.iconst 1, 1) := by decide +kernel
theorem dX13_can_31 : decode cX13_can 31 = .ok (.goto 4, 3) := by decide +kernel
theorem dX13_can_34 : decode cX13_can 34 = .ok (.iconst 0, 1) := by decide +kernel
theorem dX13_can_35 : decode cX13_can 35 = .ok (.ireturn, 1) := by decide +kernel
def f_X13_can_16  (h : AH) : Option (Int32 × AH) := some ((-1000000001 : Int32), h)
set_option maxRecDepth 100000 in
set_option maxHeartbeats 4000000 in
theorem j_X13_can_16 (X : SX) (d : Nat)  (h : AH) (rr : Int32) (h' : AH) (hf : f_X13_can_16  h = some (rr, h')) : G X mX13_can (d + 3) 16 [] [] h (some rr) h' := by
  unfold f_X13_can_16 at hf
  refine G.ldc ckX13_180 dX13_can_16 ?_
  refine G.goto 35 dX13_can_18 (by decide) ?_
  obtain ⟨hq1, hq2⟩ := Prod.mk.inj (Option.some.inj hf)
  subst hq1
  subst hq2
  exact G.iret rfl rfl dX13_can_35
def f_X13_can (a0 : Nat) (a1 : Int32) (a2 : Int32) (h : AH) : Option (Int32 × AH) := if isO h 12 a0 = true then (bT1 (f_X13_isSinger a0 a1 h) fun x3 h1 => if x3 = 0 then (f_X13_can_16 h1) else (bT1 (f_X13_isChild a0 a2 h1) fun x7 h5 => if x7 = 0 then (f_X13_can_16 h5) else (bT1 (f_X13_could a0 a1 a2 h5) fun x11 h9 => if x11 = 0 then (some ((0 : Int32), h9)) else (some ((1 : Int32), h9))))) else none
set_option maxRecDepth 100000 in
set_option maxHeartbeats 4000000 in
theorem c_X13_can (X : SX) (d : Nat) (a0 : Nat) (a1 : Int32) (a2 : Int32) (h : AH) (rr : Int32) (h' : AH) (hf : f_X13_can a0 a1 a2 h = some (rr, h')) : isO h 12 a0 = true ∧ G X mX13_can (d + 3) 0 [(0, .ref a0), (1, .int a1), (2, .int a2)] [] h (some rr) h' := by
  unfold f_X13_can at hf
  by_cases ho : isO h 12 a0 = true
  · rw [if_pos ho] at hf
    refine ⟨ho, ?_⟩
    refine G.aload_n dX13_can_0 rfl ?_
    refine G.iload_n dX13_can_1 rfl ?_
    obtain ⟨x3, h1, e2, hf⟩ := bT1_spec hf
    refine G.callVi (M' := mX13_isSinger) (ci := 12) (As := [.int a1]) (st := []) okX13_isSinger viX13_isSinger lkX13_176 rfl rfl rfl (Nat.le_of_ble_eq_true rfl) (Nat.le_of_ble_eq_true rfl) dX13_can_2 (c_X13_isSinger X (d + 2) _ _ _ _ _ e2).1 (c_X13_isSinger X (d + 2) _ _ _ _ _ e2).2 ?_
    refine G.if_eq 16 dX13_can_5 (by decide) (fun c4 => ?_) (fun c4 => ?_)
    · rw [if_pos c4] at hf
      exact G.pick [] rfl (j_X13_can_16 X d  h1 _ _ hf)
    · rw [if_neg c4] at hf
      refine G.aload_n dX13_can_8 rfl ?_
      refine G.iload_n dX13_can_9 rfl ?_
      obtain ⟨x7, h5, e6, hf⟩ := bT1_spec hf
      refine G.callVi (M' := mX13_isChild) (ci := 12) (As := [.int a2]) (st := []) okX13_isChild viX13_isChild lkX13_181 rfl rfl rfl (Nat.le_of_ble_eq_true rfl) (Nat.le_of_ble_eq_true rfl) dX13_can_10 (c_X13_isChild X (d + 2) _ _ _ _ _ e6).1 (c_X13_isChild X (d + 2) _ _ _ _ _ e6).2 ?_
      refine G.if_ne 21 dX13_can_13 (by decide) (fun c8 => ?_) (fun c8 => ?_)
      · rw [if_neg c8] at hf
        refine G.aload_n dX13_can_21 rfl ?_
        refine G.iload_n dX13_can_22 rfl ?_
        refine G.iload_n dX13_can_23 rfl ?_
        obtain ⟨x11, h9, e10, hf⟩ := bT1_spec hf
        refine G.callVi (M' := mX13_could) (ci := 12) (As := [.int a1, .int a2]) (st := []) okX13_could viX13_could lkX13_234 rfl rfl rfl (Nat.le_of_ble_eq_true rfl) (Nat.le_of_ble_eq_true rfl) dX13_can_24 (c_X13_could X d _ _ _ _ _ _ e10).1 (c_X13_could X d _ _ _ _ _ _ e10).2 ?_
        refine G.if_eq 34 dX13_can_27 (by decide) (fun c12 => ?_) (fun c12 => ?_)
        · rw [if_pos c12] at hf
          refine G.iconst (v := (0 : Int32)) dX13_can_34 (by decide) ?_
          obtain ⟨hq1, hq2⟩ := Prod.mk.inj (Option.some.inj hf)
          subst hq1
          subst hq2
          exact G.iret rfl rfl dX13_can_35
        · rw [if_neg c12] at hf
          refine G.iconst (v := (1 : Int32)) dX13_can_30 (by decide) ?_
          refine G.goto 35 dX13_can_31 (by decide) ?_
          obtain ⟨hq1, hq2⟩ := Prod.mk.inj (Option.some.inj hf)
          subst hq1
          subst hq2
          exact G.iret rfl rfl dX13_can_35
      · rw [if_pos c8] at hf
        exact G.pick [] rfl (j_X13_can_16 X d  h5 _ _ hf)
  · rw [if_neg ho] at hf
    cases hf
/-! X12_pays -/
theorem dX12_pays_0 : decode cX12_pays 0 = .ok (.aload_n 0, 1) := by decide +kernel
theorem dX12_pays_1 : decode cX12_pays 1 = .ok (.getfield 19, 3) := by decide +kernel
theorem dX12_pays_4 : decode cX12_pays 4 = .ok (.iload_n 1, 1) := by decide +kernel
theorem dX12_pays_5 : decode cX12_pays 5 = .ok (.iload_n 2, 1) := by decide +kernel
theorem dX12_pays_6 : decode cX12_pays 6 = .ok (.invokevirtual 231, 3) := by decide +kernel
theorem dX12_pays_9 : decode cX12_pays 9 = .ok (.ifCond .eq 15, 3) := by decide +kernel
theorem dX12_pays_12 : decode cX12_pays 12 = .ok (.aload_n 0, 1) := by decide +kernel
theorem dX12_pays_13 : decode cX12_pays 13 = .ok (.getfield 19, 3) := by decide +kernel
theorem dX12_pays_16 : decode cX12_pays 16 = .ok (.iload_n 1, 1) := by decide +kernel
theorem dX12_pays_17 : decode cX12_pays 17 = .ok (.iload_n 2, 1) := by decide +kernel
theorem dX12_pays_18 : decode cX12_pays 18 = .ok (.invokevirtual 266, 3) := by decide +kernel
theorem dX12_pays_21 : decode cX12_pays 21 = .ok (.goto 5, 3) := by decide +kernel
theorem dX12_pays_24 : decode cX12_pays 24 = .ok (.ldc 170, 2) := by decide +kernel
theorem dX12_pays_26 : decode cX12_pays 26 = .ok (.ireturn, 1) := by decide +kernel
def f_X12_pays (a0 : Nat) (a1 : Int32) (a2 : Int32) (h : AH) : Option (Int32 × AH) := if isO h 11 a0 = true then ((gr h 11 a0 1).bind fun r1 => bT1 (f_X3_hasBoth r1 a1 a2 h) fun x4 h2 => if x4 = 0 then (some ((-1000000001 : Int32), h2)) else ((gr h2 11 a0 1).bind fun r6 => bT1 (f_X3_wouldPay r6 a1 a2 h2) fun x9 h7 => some (x9, h7))) else none
set_option maxRecDepth 100000 in
set_option maxHeartbeats 4000000 in
theorem c_X12_pays (X : SX) (d : Nat) (a0 : Nat) (a1 : Int32) (a2 : Int32) (h : AH) (rr : Int32) (h' : AH) (hf : f_X12_pays a0 a1 a2 h = some (rr, h')) : isO h 11 a0 = true ∧ G X mX12_pays (d + 4) 0 [(0, .ref a0), (1, .int a1), (2, .int a2)] [] h (some rr) h' := by
  unfold f_X12_pays at hf
  by_cases ho : isO h 11 a0 = true
  · rw [if_pos ho] at hf
    refine ⟨ho, ?_⟩
    refine G.aload_n dX12_pays_0 rfl ?_
    refine G.getr flX12_19 dX12_pays_1 hf (fun r1 hf => ?_)
    refine G.iload_n dX12_pays_4 rfl ?_
    refine G.iload_n dX12_pays_5 rfl ?_
    obtain ⟨x4, h2, e3, hf⟩ := bT1_spec hf
    refine G.callVi (M' := mX3_hasBoth) (ci := 3) (As := [.int a1, .int a2]) (st := []) okX3_hasBoth viX3_hasBoth lkX12_231 rfl rfl rfl (Nat.le_of_ble_eq_true rfl) (Nat.le_of_ble_eq_true rfl) dX12_pays_6 (c_X3_hasBoth X (d + 2) _ _ _ _ _ _ e3).1 (c_X3_hasBoth X (d + 2) _ _ _ _ _ _ e3).2 ?_
    refine G.if_eq 24 dX12_pays_9 (by decide) (fun c5 => ?_) (fun c5 => ?_)
    · rw [if_pos c5] at hf
      refine G.ldc ckX12_170 dX12_pays_24 ?_
      obtain ⟨hq1, hq2⟩ := Prod.mk.inj (Option.some.inj hf)
      subst hq1
      subst hq2
      exact G.iret rfl rfl dX12_pays_26
    · rw [if_neg c5] at hf
      refine G.aload_n dX12_pays_12 rfl ?_
      refine G.getr flX12_19 dX12_pays_13 hf (fun r6 hf => ?_)
      refine G.iload_n dX12_pays_16 rfl ?_
      refine G.iload_n dX12_pays_17 rfl ?_
      obtain ⟨x9, h7, e8, hf⟩ := bT1_spec hf
      refine G.callVi (M' := mX3_wouldPay) (ci := 3) (As := [.int a1, .int a2]) (st := []) okX3_wouldPay viX3_wouldPay lkX12_266 rfl rfl rfl (Nat.le_of_ble_eq_true rfl) (Nat.le_of_ble_eq_true rfl) dX12_pays_18 (c_X3_wouldPay X d _ _ _ _ _ _ e8).1 (c_X3_wouldPay X d _ _ _ _ _ _ e8).2 ?_
      refine G.goto 26 dX12_pays_21 (by decide) ?_
      obtain ⟨hq1, hq2⟩ := Prod.mk.inj (Option.some.inj hf)
      subst hq1
      subst hq2
      exact G.iret rfl rfl dX12_pays_26
  · rw [if_neg ho] at hf
    cases hf
/-! X13_pays -/
theorem dX13_pays_0 : decode cX13_pays 0 = .ok (.aload_n 0, 1) := by decide +kernel
theorem dX13_pays_1 : decode cX13_pays 1 = .ok (.iload_n 1, 1) := by decide +kernel
theorem dX13_pays_2 : decode cX13_pays 2 = .ok (.invokevirtual 176, 3) := by decide +kernel
theorem dX13_pays_5 : decode cX13_pays 5 = .ok (.ifCond .eq 20, 3) := by decide +kernel
theorem dX13_pays_8 : decode cX13_pays 8 = .ok (.aload_n 0, 1) := by decide +kernel
theorem dX13_pays_9 : decode cX13_pays 9 = .ok (.iload_n 2, 1) := by decide +kernel
theorem dX13_pays_10 : decode cX13_pays 10 = .ok (.invokevirtual 181, 3) := by decide +kernel
theorem dX13_pays_13 : decode cX13_pays 13 = .ok (.ifCond .eq 12, 3) := by decide +kernel
theorem dX13_pays_16 : decode cX13_pays 16 = .ok (.aload_n 0, 1) := by decide +kernel
theorem dX13_pays_17 : decode cX13_pays 17 = .ok (.iload_n 1, 1) := by decide +kernel
theorem dX13_pays_18 : decode cX13_pays 18 = .ok (.iload_n 2, 1) := by decide +kernel
theorem dX13_pays_19 : decode cX13_pays 19 = .ok (.invokevirtual 237, 3) := by decide +kernel
theorem dX13_pays_22 : decode cX13_pays 22 = .ok (.goto 5, 3) := by decide +kernel
theorem dX13_pays_25 : decode cX13_pays 25 = .ok (.ldc 180, 2) := by decide +kernel
theorem dX13_pays_27 : decode cX13_pays 27 = .ok (.ireturn, 1) := by decide +kernel
def f_X13_pays (a0 : Nat) (a1 : Int32) (a2 : Int32) (h : AH) : Option (Int32 × AH) := if isO h 12 a0 = true then (bT1 (f_X13_isSinger a0 a1 h) fun x3 h1 => if x3 = 0 then (some ((-1000000001 : Int32), h1)) else (bT1 (f_X13_isChild a0 a2 h1) fun x7 h5 => if x7 = 0 then (some ((-1000000001 : Int32), h5)) else (bT1 (f_X13_payment a0 a1 a2 h5) fun x11 h9 => some (x11, h9)))) else none
set_option maxRecDepth 100000 in
set_option maxHeartbeats 4000000 in
theorem c_X13_pays (X : SX) (d : Nat) (a0 : Nat) (a1 : Int32) (a2 : Int32) (h : AH) (rr : Int32) (h' : AH) (hf : f_X13_pays a0 a1 a2 h = some (rr, h')) : isO h 12 a0 = true ∧ G X mX13_pays (d + 4) 0 [(0, .ref a0), (1, .int a1), (2, .int a2)] [] h (some rr) h' := by
  unfold f_X13_pays at hf
  by_cases ho : isO h 12 a0 = true
  · rw [if_pos ho] at hf
    refine ⟨ho, ?_⟩
    refine G.aload_n dX13_pays_0 rfl ?_
    refine G.iload_n dX13_pays_1 rfl ?_
    obtain ⟨x3, h1, e2, hf⟩ := bT1_spec hf
    refine G.callVi (M' := mX13_isSinger) (ci := 12) (As := [.int a1]) (st := []) okX13_isSinger viX13_isSinger lkX13_176 rfl rfl rfl (Nat.le_of_ble_eq_true rfl) (Nat.le_of_ble_eq_true rfl) dX13_pays_2 (c_X13_isSinger X (d + 3) _ _ _ _ _ e2).1 (c_X13_isSinger X (d + 3) _ _ _ _ _ e2).2 ?_
    refine G.if_eq 25 dX13_pays_5 (by decide) (fun c4 => ?_) (fun c4 => ?_)
    · rw [if_pos c4] at hf
      refine G.ldc ckX13_180 dX13_pays_25 ?_
      obtain ⟨hq1, hq2⟩ := Prod.mk.inj (Option.some.inj hf)
      subst hq1
      subst hq2
      exact G.iret rfl rfl dX13_pays_27
    · rw [if_neg c4] at hf
      refine G.aload_n dX13_pays_8 rfl ?_
      refine G.iload_n dX13_pays_9 rfl ?_
      obtain ⟨x7, h5, e6, hf⟩ := bT1_spec hf
      refine G.callVi (M' := mX13_isChild) (ci := 12) (As := [.int a2]) (st := []) okX13_isChild viX13_isChild lkX13_181 rfl rfl rfl (Nat.le_of_ble_eq_true rfl) (Nat.le_of_ble_eq_true rfl) dX13_pays_10 (c_X13_isChild X (d + 3) _ _ _ _ _ e6).1 (c_X13_isChild X (d + 3) _ _ _ _ _ e6).2 ?_
      refine G.if_eq 25 dX13_pays_13 (by decide) (fun c8 => ?_) (fun c8 => ?_)
      · rw [if_pos c8] at hf
        refine G.ldc ckX13_180 dX13_pays_25 ?_
        obtain ⟨hq1, hq2⟩ := Prod.mk.inj (Option.some.inj hf)
        subst hq1
        subst hq2
        exact G.iret rfl rfl dX13_pays_27
      · rw [if_neg c8] at hf
        refine G.aload_n dX13_pays_16 rfl ?_
        refine G.iload_n dX13_pays_17 rfl ?_
        refine G.iload_n dX13_pays_18 rfl ?_
        obtain ⟨x11, h9, e10, hf⟩ := bT1_spec hf
        refine G.callVi (M' := mX13_payment) (ci := 12) (As := [.int a1, .int a2]) (st := []) okX13_payment viX13_payment lkX13_237 rfl rfl rfl (Nat.le_of_ble_eq_true rfl) (Nat.le_of_ble_eq_true rfl) dX13_pays_19 (c_X13_payment X d _ _ _ _ _ _ e10).1 (c_X13_payment X d _ _ _ _ _ _ e10).2 ?_
        refine G.goto 27 dX13_pays_22 (by decide) ?_
        obtain ⟨hq1, hq2⟩ := Prod.mk.inj (Option.some.inj hf)
        subst hq1
        subst hq2
        exact G.iret rfl rfl dX13_pays_27
  · rw [if_neg ho] at hf
    cases hf
/-! X7_mostPaid -/
theorem dX7_mostPaid_0 : decode cX7_mostPaid 0 = .ok (.aload_n 0, 1) := by decide +kernel
theorem dX7_mostPaid_1 : decode cX7_mostPaid 1 = .ok (.aload_n 1, 1) := by decide +kernel
theorem dX7_mostPaid_2 : decode cX7_mostPaid 2 = .ok (.iconst 0, 1) := by decide +kernel
theorem dX7_mostPaid_3 : decode cX7_mostPaid 3 = .ok (.invokevirtual 18, 3) := by decide +kernel
theorem dX7_mostPaid_6 : decode cX7_mostPaid 6 = .ok (.aload_n 0, 1) := by decide +kernel
theorem dX7_mostPaid_7 : decode cX7_mostPaid 7 = .ok (.invokevirtual 22, 3) := by decide +kernel
theorem dX7_mostPaid_10 : decode cX7_mostPaid 10 = .ok (.aload_n 0, 1) := by decide +kernel
theorem dX7_mostPaid_11 : decode cX7_mostPaid 11 = .ok (.getfield 15, 3) := by decide +kernel
theorem dX7_mostPaid_14 : decode cX7_mostPaid 14 = .ok (.iconst 0, 1) := by decide +kernel
theorem dX7_mostPaid_15 : decode cX7_mostPaid 15 = .ok (.iaload, 1) := by decide +kernel
theorem dX7_mostPaid_16 : decode cX7_mostPaid 16 = .ok (.ireturn, 1) := by decide +kernel
def f_X7_mostPaid (a0 : Nat) (a1 : Nat) (h : AH) : Option (Int32 × AH) := if isO h 6 a0 = true then ((f_X7_weigh a0 a1 (0 : Int32) h).bind fun h1 => (f_X7_solve a0 h1).bind fun h3 => (gr h3 6 a0 1).bind fun r5 => (ai h3 0 r5 (0 : Int32)).bind fun x6 => some (x6, h3)) else none
set_option maxRecDepth 100000 in
set_option maxHeartbeats 4000000 in
theorem c_X7_mostPaid (X : SX) (d : Nat) (a0 : Nat) (a1 : Nat) (h : AH) (rr : Int32) (h' : AH) (hf : f_X7_mostPaid a0 a1 h = some (rr, h')) : isO h 6 a0 = true ∧ G X mX7_mostPaid (d + 5) 0 [(0, .ref a0), (1, .ref a1)] [] h (some rr) h' := by
  unfold f_X7_mostPaid at hf
  by_cases ho : isO h 6 a0 = true
  · rw [if_pos ho] at hf
    refine ⟨ho, ?_⟩
    refine G.aload_n dX7_mostPaid_0 rfl ?_
    refine G.aload_n dX7_mostPaid_1 rfl ?_
    refine G.iconst (v := (0 : Int32)) dX7_mostPaid_2 (by decide) ?_
    obtain ⟨h1, e2, hf⟩ := Option.bind_eq_some_iff.mp hf
    refine G.callVv (M' := mX7_weigh) (ci := 6) (As := [.ref a1, .int (0 : Int32)]) (st := []) okX7_weigh viX7_weigh lkX7_18 rfl rfl rfl (Nat.le_of_ble_eq_true rfl) (Nat.le_of_ble_eq_true rfl) dX7_mostPaid_3 (c_X7_weigh X d _ _ _ _ _ e2).1 (c_X7_weigh X d _ _ _ _ _ e2).2 ?_
    refine G.aload_n dX7_mostPaid_6 rfl ?_
    obtain ⟨h3, e4, hf⟩ := Option.bind_eq_some_iff.mp hf
    refine G.callVv (M' := mX7_solve) (ci := 6) (As := []) (st := []) okX7_solve viX7_solve lkX7_22 rfl rfl rfl (Nat.le_of_ble_eq_true rfl) (Nat.le_of_ble_eq_true rfl) dX7_mostPaid_7 (c_X7_solve X (d + 2) _ _ _ e4).1 (c_X7_solve X (d + 2) _ _ _ e4).2 ?_
    refine G.aload_n dX7_mostPaid_10 rfl ?_
    refine G.getr flX7_15 dX7_mostPaid_11 hf (fun r5 hf => ?_)
    refine G.iconst (v := (0 : Int32)) dX7_mostPaid_14 (by decide) ?_
    refine G.iald dX7_mostPaid_15 hf (fun x6 hf => ?_)
    obtain ⟨hq1, hq2⟩ := Prod.mk.inj (Option.some.inj hf)
    subst hq1
    subst hq2
    exact G.iret rfl rfl dX7_mostPaid_16
  · rw [if_neg ho] at hf
    cases hf
/-! X7_firstBest -/
theorem dX7_firstBest_0 : decode cX7_firstBest 0 = .ok (.iconst 0, 1) := by decide +kernel
theorem dX7_firstBest_1 : decode cX7_firstBest 1 = .ok (.istore_n 3, 1) := by decide +kernel
theorem dX7_firstBest_2 : decode cX7_firstBest 2 = .ok (.iload_n 3, 1) := by decide +kernel
theorem dX7_firstBest_3 : decode cX7_firstBest 3 = .ok (.aload_n 0, 1) := by decide +kernel
theorem dX7_firstBest_4 : decode cX7_firstBest 4 = .ok (.getfield 45, 3) := by decide +kernel
theorem dX7_firstBest_7 : decode cX7_firstBest 7 = .ok (.if_icmp .ge 42, 3) := by decide +kernel
theorem dX7_firstBest_10 : decode cX7_firstBest 10 = .ok (.aload_n 0, 1) := by decide +kernel
theorem dX7_firstBest_11 : decode cX7_firstBest 11 = .ok (.iload_n 1, 1) := by decide +kernel
theorem dX7_firstBest_12 : decode cX7_firstBest 12 = .ok (.iload_n 3, 1) := by decide +kernel
theorem dX7_firstBest_13 : decode cX7_firstBest 13 = .ok (.iload_n 2, 1) := by decide +kernel
theorem dX7_firstBest_14 : decode cX7_firstBest 14 = .ok (.invokevirtual 57, 3) := by decide +kernel
theorem dX7_firstBest_17 : decode cX7_firstBest 17 = .ok (.ifCond .eq 26, 3) := by decide +kernel
theorem dX7_firstBest_20 : decode cX7_firstBest 20 = .ok (.aload_n 0, 1) := by decide +kernel
theorem dX7_firstBest_21 : decode cX7_firstBest 21 = .ok (.iload_n 1, 1) := by decide +kernel
theorem dX7_firstBest_22 : decode cX7_firstBest 22 = .ok (.iload_n 3, 1) := by decide +kernel
theorem dX7_firstBest_23 : decode cX7_firstBest 23 = .ok (.iload_n 2, 1) := by decide +kernel
theorem dX7_firstBest_24 : decode cX7_firstBest 24 = .ok (.invokevirtual 61, 3) := by decide +kernel
theorem dX7_firstBest_27 : decode cX7_firstBest 27 = .ok (.aload_n 0, 1) := by decide +kernel
theorem dX7_firstBest_28 : decode cX7_firstBest 28 = .ok (.getfield 15, 3) := by decide +kernel
theorem dX7_firstBest_31 : decode cX7_firstBest 31 = .ok (.iload_n 1, 1) := by decide +kernel
theorem dX7_firstBest_32 : decode cX7_firstBest 32 = .ok (.bipush 64, 2) := by decide +kernel
theorem dX7_firstBest_34 : decode cX7_firstBest 34 = .ok (.imul, 1) := by decide +kernel
theorem dX7_firstBest_35 : decode cX7_firstBest 35 = .ok (.iload_n 2, 1) := by decide +kernel
theorem dX7_firstBest_36 : decode cX7_firstBest 36 = .ok (.iadd, 1) := by decide +kernel
theorem dX7_firstBest_37 : decode cX7_firstBest 37 = .ok (.iaload, 1) := by decide +kernel
theorem dX7_firstBest_38 : decode cX7_firstBest 38 = .ok (.if_icmp .ne 5, 3) := by decide +kernel
theorem dX7_firstBest_41 : decode cX7_firstBest 41 = .ok (.iload_n 3, 1) := by decide +kernel
theorem dX7_firstBest_42 : decode cX7_firstBest 42 = .ok (.ireturn, 1) := by decide +kernel
theorem dX7_firstBest_43 : decode cX7_firstBest 43 = .ok (.iinc 3 1, 3) := by decide +kernel
theorem dX7_firstBest_46 : decode cX7_firstBest 46 = .ok (.goto (-44), 3) := by decide +kernel
theorem dX7_firstBest_49 : decode cX7_firstBest 49 = .ok (.iconst (-1), 1) := by decide +kernel
theorem dX7_firstBest_50 : decode cX7_firstBest 50 = .ok (.ireturn, 1) := by decide +kernel
def F_X7_firstBest_L2 (rec : Nat → Int32 → Int32 → Int32 → AH → Option ((Int32 × AH) ⊕ AH)) (v0 : Nat) (v1 : Int32) (v2 : Int32) (v3 : Int32) (h : AH) : Option ((Int32 × AH) ⊕ AH) := (gi h 6 v0 3).bind fun x1 => if x1 ≤ v3 then (some (.inr h)) else (bT1 (f_X7_isOpen v0 v1 v3 v2 h) fun x5 h3 => if x5 = 0 then (rec v0 v1 v2 (v3 + 1) h3) else (bT1 (f_X7_reachedWith v0 v1 v3 v2 h3) fun x9 h7 => (gr h7 6 v0 1).bind fun r10 => (ai h7 0 r10 ((v1 * (64 : Int32)) + v2)).bind fun x11 => if x9 = x11 then (some (.inl (v3, h7))) else (rec v0 v1 v2 (v3 + 1) h7)))
def f_X7_firstBest_L2 : Nat → Nat → Int32 → Int32 → Int32 → AH → Option ((Int32 × AH) ⊕ AH)
  | 0 => fun _ _ _ _ _ => none
  | n + 1 => F_X7_firstBest_L2 (f_X7_firstBest_L2 n)
set_option maxRecDepth 100000 in
set_option maxHeartbeats 4000000 in
theorem lx_X7_firstBest_L2 (X : SX) (d : Nat) : ∀ n (rv : Option Int32) (h' : AH), ∀ (v0 : Nat) (v1 : Int32) (v2 : Int32) (v3 : Int32) (h : AH) (o : (Int32 × AH) ⊕ AH), f_X7_firstBest_L2 n v0 v1 v2 v3 h = some o → PS o rv h' (fun h1 => G X mX7_firstBest (d + 1) 49 [] [] h1 rv h') → G X mX7_firstBest (d + 1) 2 [(0, .ref v0), (1, .int v1), (2, .int v2), (3, .int v3)] [] h rv h' := by
  intro n
  induction n with
  | zero =>
    intro rv h' v0 v1 v2 v3 h o hf hP
    cases hf
  | succ n ihf =>
    intro rv h' v0 v1 v2 v3 h o hf hP
    replace hf : F_X7_firstBest_L2 (f_X7_firstBest_L2 n) v0 v1 v2 v3 h = some o := hf
    unfold F_X7_firstBest_L2 at hf
    have ih := ihf rv h'
    refine G.iload_n dX7_firstBest_2 rfl ?_
    refine G.aload_n dX7_firstBest_3 rfl ?_
    refine G.geti flX7_45 dX7_firstBest_4 hf (fun x1 hf => ?_)
    refine G.icmp_ge 49 dX7_firstBest_7 (by decide) (fun c2 => ?_) (fun c2 => ?_)
    · rw [if_pos c2] at hf
      have hq := Option.some.inj hf
      subst hq
      exact G.pick [] rfl hP
    · rw [if_neg c2] at hf
      refine G.aload_n dX7_firstBest_10 rfl ?_
      refine G.iload_n dX7_firstBest_11 rfl ?_
      refine G.iload_n dX7_firstBest_12 rfl ?_
      refine G.iload_n dX7_firstBest_13 rfl ?_
      obtain ⟨x5, h3, e4, hf⟩ := bT1_spec hf
      refine G.callVi (M' := mX7_isOpen) (ci := 6) (As := [.int v1, .int v3, .int v2]) (st := []) okX7_isOpen viX7_isOpen lkX7_57 rfl rfl rfl (Nat.le_of_ble_eq_true rfl) (Nat.le_of_ble_eq_true rfl) dX7_firstBest_14 (c_X7_isOpen X d _ _ _ _ _ _ _ e4).1 (c_X7_isOpen X d _ _ _ _ _ _ _ e4).2 ?_
      refine G.if_eq 43 dX7_firstBest_17 (by decide) (fun c6 => ?_) (fun c6 => ?_)
      · rw [if_pos c6] at hf
        refine G.iinc (v := (v3 + 1)) (lv' := [(3, .int (v3 + 1)), (0, .ref v0), (1, .int v1), (2, .int v2)]) dX7_firstBest_43 rfl rfl (by decide) rfl ?_
        refine G.goto 2 dX7_firstBest_46 (by decide) ?_
        exact G.pick [1, 2, 3, 0] rfl (ih v0 v1 v2 (v3 + 1) h3 _ hf hP)
      · rw [if_neg c6] at hf
        refine G.aload_n dX7_firstBest_20 rfl ?_
        refine G.iload_n dX7_firstBest_21 rfl ?_
        refine G.iload_n dX7_firstBest_22 rfl ?_
        refine G.iload_n dX7_firstBest_23 rfl ?_
        obtain ⟨x9, h7, e8, hf⟩ := bT1_spec hf
        refine G.callVi (M' := mX7_reachedWith) (ci := 6) (As := [.int v1, .int v3, .int v2]) (st := []) okX7_reachedWith viX7_reachedWith lkX7_61 rfl rfl rfl (Nat.le_of_ble_eq_true rfl) (Nat.le_of_ble_eq_true rfl) dX7_firstBest_24 (c_X7_reachedWith X d _ _ _ _ _ _ _ e8).1 (c_X7_reachedWith X d _ _ _ _ _ _ _ e8).2 ?_
        refine G.aload_n dX7_firstBest_27 rfl ?_
        refine G.getr flX7_15 dX7_firstBest_28 hf (fun r10 hf => ?_)
        refine G.iload_n dX7_firstBest_31 rfl ?_
        refine G.bipush (v := (64 : Int32)) dX7_firstBest_32 (by decide) ?_
        refine G.imul dX7_firstBest_34 ?_
        refine G.iload_n dX7_firstBest_35 rfl ?_
        refine G.iadd dX7_firstBest_36 ?_
        refine G.iald dX7_firstBest_37 hf (fun x11 hf => ?_)
        refine G.icmp_ne 43 dX7_firstBest_38 (by decide) (fun c12 => ?_) (fun c12 => ?_)
        · rw [if_neg c12] at hf
          refine G.iinc (v := (v3 + 1)) (lv' := [(3, .int (v3 + 1)), (0, .ref v0), (1, .int v1), (2, .int v2)]) dX7_firstBest_43 rfl rfl (by decide) rfl ?_
          refine G.goto 2 dX7_firstBest_46 (by decide) ?_
          exact G.pick [1, 2, 3, 0] rfl (ih v0 v1 v2 (v3 + 1) h7 _ hf hP)
        · rw [if_pos c12] at hf
          refine G.iload_n dX7_firstBest_41 rfl ?_
          have hq := Option.some.inj hf
          subst hq
          obtain ⟨hq1, hq2⟩ := hP
          subst hq1
          subst hq2
          exact G.iret rfl rfl dX7_firstBest_42
theorem l_X7_firstBest_L2 (X : SX) (d : Nat) (rv : Option Int32) (h' : AH) (n : Nat) : ∀ (v0 : Nat) (v1 : Int32) (v2 : Int32) (v3 : Int32) (h : AH) (o : (Int32 × AH) ⊕ AH), f_X7_firstBest_L2 n v0 v1 v2 v3 h = some o → PS o rv h' (fun h1 => G X mX7_firstBest (d + 1) 49 [] [] h1 rv h') → G X mX7_firstBest (d + 1) 2 [(0, .ref v0), (1, .int v1), (2, .int v2), (3, .int v3)] [] h rv h' := lx_X7_firstBest_L2 X d n rv h'
def f_X7_firstBest (a0 : Nat) (a1 : Int32) (a2 : Int32) (h : AH) : Option (Int32 × AH) := if isO h 6 a0 = true then (bS (f_X7_firstBest_L2 1000000 a0 a1 a2 (0 : Int32) h) (fun h1 => some ((-1 : Int32), h1))) else none
set_option maxRecDepth 100000 in
set_option maxHeartbeats 4000000 in
theorem c_X7_firstBest (X : SX) (d : Nat) (a0 : Nat) (a1 : Int32) (a2 : Int32) (h : AH) (rr : Int32) (h' : AH) (hf : f_X7_firstBest a0 a1 a2 h = some (rr, h')) : isO h 6 a0 = true ∧ G X mX7_firstBest (d + 1) 0 [(0, .ref a0), (1, .int a1), (2, .int a2)] [] h (some rr) h' := by
  unfold f_X7_firstBest at hf
  by_cases ho : isO h 6 a0 = true
  · rw [if_pos ho] at hf
    refine ⟨ho, ?_⟩
    refine G.iconst (v := (0 : Int32)) dX7_firstBest_0 (by decide) ?_
    refine G.istore_n (lv' := [(3, .int (0 : Int32)), (0, .ref a0), (1, .int a1), (2, .int a2)]) dX7_firstBest_1 (by decide) rfl ?_
    obtain ⟨o3, e2, hf⟩ := bS_spec hf
    refine G.pick [1, 2, 3, 0] rfl (l_X7_firstBest_L2 X d _ _ 1000000 a0 a1 a2 (0 : Int32) h o3 e2 ?_)
    rcases o3 with ⟨x4, h5⟩ | h1
    · cases hf
      exact And.intro rfl rfl
    · replace hf : _ = some _ := hf
      show G _ _ _ _ _ _ _ _ _
      refine G.iconst (v := (-1 : Int32)) dX7_firstBest_49 (by decide) ?_
      obtain ⟨hq1, hq2⟩ := Prod.mk.inj (Option.some.inj hf)
      subst hq1
      subst hq2
      exact G.iret rfl rfl dX7_firstBest_50
  · rw [if_neg ho] at hf
    cases hf
/-! X7_childOf -/
theorem dX7_childOf_0 : decode cX7_childOf 0 = .ok (.aload_n 0, 1) := by decide +kernel
theorem dX7_childOf_1 : decode cX7_childOf 1 = .ok (.aload_n 1, 1) := by decide +kernel
theorem dX7_childOf_2 : decode cX7_childOf 2 = .ok (.iconst 0, 1) := by decide +kernel
theorem dX7_childOf_3 : decode cX7_childOf 3 = .ok (.invokevirtual 18, 3) := by decide +kernel
theorem dX7_childOf_6 : decode cX7_childOf 6 = .ok (.aload_n 0, 1) := by decide +kernel
theorem dX7_childOf_7 : decode cX7_childOf 7 = .ok (.invokevirtual 22, 3) := by decide +kernel
theorem dX7_childOf_10 : decode cX7_childOf 10 = .ok (.iconst 0, 1) := by decide +kernel
theorem dX7_childOf_11 : decode cX7_childOf 11 = .ok (.istore_n 3, 1) := by decide +kernel
theorem dX7_childOf_12 : decode cX7_childOf 12 = .ok (.iconst (-1), 1) := by decide +kernel
theorem dX7_childOf_13 : decode cX7_childOf 13 = .ok (.istore 4, 2) := by decide +kernel
theorem dX7_childOf_15 : decode cX7_childOf 15 = .ok (.iconst 0, 1) := by decide +kernel
theorem dX7_childOf_16 : decode cX7_childOf 16 = .ok (.istore 5, 2) := by decide +kernel
theorem dX7_childOf_18 : decode cX7_childOf 18 = .ok (.iload 5, 2) := by decide +kernel
theorem dX7_childOf_20 : decode cX7_childOf 20 = .ok (.iload_n 2, 1) := by decide +kernel
theorem dX7_childOf_21 : decode cX7_childOf 21 = .ok (.if_icmp .gt 31, 3) := by decide +kernel
theorem dX7_childOf_24 : decode cX7_childOf 24 = .ok (.aload_n 0, 1) := by decide +kernel
theorem dX7_childOf_25 : decode cX7_childOf 25 = .ok (.iload 5, 2) := by decide +kernel
theorem dX7_childOf_27 : decode cX7_childOf 27 = .ok (.iload_n 3, 1) := by decide +kernel
theorem dX7_childOf_28 : decode cX7_childOf 28 = .ok (.invokevirtual 25, 3) := by decide +kernel
theorem dX7_childOf_31 : decode cX7_childOf 31 = .ok (.istore 4, 2) := by decide +kernel
theorem dX7_childOf_33 : decode cX7_childOf 33 = .ok (.iload 4, 2) := by decide +kernel
theorem dX7_childOf_35 : decode cX7_childOf 35 = .ok (.iconst (-1), 1) := by decide +kernel
theorem dX7_childOf_36 : decode cX7_childOf 36 = .ok (.if_icmp .eq 10, 3) := by decide +kernel
theorem dX7_childOf_39 : decode cX7_childOf 39 = .ok (.iload_n 3, 1) := by decide +kernel
theorem dX7_childOf_40 : decode cX7_childOf 40 = .ok (.iconst 1, 1) := by decide +kernel
theorem dX7_childOf_41 : decode cX7_childOf 41 = .ok (.iload 4, 2) := by decide +kernel
theorem dX7_childOf_43 : decode cX7_childOf 43 = .ok (.ishl, 1) := by decide +kernel
theorem dX7_childOf_44 : decode cX7_childOf 44 = .ok (.ior, 1) := by decide +kernel
theorem dX7_childOf_45 : decode cX7_childOf 45 = .ok (.istore_n 3, 1) := by decide +kernel
theorem dX7_childOf_46 : decode cX7_childOf 46 = .ok (.iinc 5 1, 3) := by decide +kernel
theorem dX7_childOf_49 : decode cX7_childOf 49 = .ok (.goto (-31), 3) := by decide +kernel
theorem dX7_childOf_52 : decode cX7_childOf 52 = .ok (.iload 4, 2) := by decide +kernel
theorem dX7_childOf_54 : decode cX7_childOf 54 = .ok (.ireturn, 1) := by decide +kernel
def F_X7_childOf_L18 (rec : Nat → Int32 → Int32 → Int32 → Int32 → AH → Option (Int32 × AH)) (v0 : Nat) (v2 : Int32) (v3 : Int32) (v4 : Int32) (v5 : Int32) (h : AH) : Option (Int32 × AH) := if v2 < v5 then (some (v4, h)) else (bT1 (f_X7_firstBest v0 v5 v3 h) fun x4 h2 => if x4 = (-1 : Int32) then (rec v0 v2 v3 x4 (v5 + 1) h2) else (rec v0 v2 (v3 ||| ((1 : Int32) <<< (x4 &&& 31))) x4 (v5 + 1) h2))
def f_X7_childOf_L18 : Nat → Nat → Int32 → Int32 → Int32 → Int32 → AH → Option (Int32 × AH)
  | 0 => fun _ _ _ _ _ _ => none
  | n + 1 => F_X7_childOf_L18 (f_X7_childOf_L18 n)
set_option maxRecDepth 100000 in
set_option maxHeartbeats 4000000 in
theorem lx_X7_childOf_L18 (X : SX) (d : Nat) : ∀ n (rv : Option Int32) (h' : AH), ∀ (v0 : Nat) (v2 : Int32) (v3 : Int32) (v4 : Int32) (v5 : Int32) (h : AH) (y4 : Int32) (h1 : AH), f_X7_childOf_L18 n v0 v2 v3 v4 v5 h = some (y4, h1) → G X mX7_childOf (d + 5) 52 [(4, .int y4)] [] h1 rv h' → G X mX7_childOf (d + 5) 18 [(0, .ref v0), (2, .int v2), (3, .int v3), (4, .int v4), (5, .int v5)] [] h rv h' := by
  intro n
  induction n with
  | zero =>
    intro rv h' v0 v2 v3 v4 v5 h y4 h1 hf hE
    cases hf
  | succ n ihf =>
    intro rv h' v0 v2 v3 v4 v5 h y4 h1 hf hE
    replace hf : F_X7_childOf_L18 (f_X7_childOf_L18 n) v0 v2 v3 v4 v5 h = some (y4, h1) := hf
    unfold F_X7_childOf_L18 at hf
    have ih := ihf rv h'
    refine G.iload dX7_childOf_18 rfl ?_
    refine G.iload_n dX7_childOf_20 rfl ?_
    refine G.icmp_gt 52 dX7_childOf_21 (by decide) (fun c1 => ?_) (fun c1 => ?_)
    · rw [if_pos c1] at hf
      obtain ⟨u0, w1⟩ := Prod.mk.inj (Option.some.inj hf)
      subst u0
      subst w1
      exact G.pick [3] rfl hE
    · rw [if_neg c1] at hf
      refine G.aload_n dX7_childOf_24 rfl ?_
      refine G.iload dX7_childOf_25 rfl ?_
      refine G.iload_n dX7_childOf_27 rfl ?_
      obtain ⟨x4, h2, e3, hf⟩ := bT1_spec hf
      refine G.callVi (M' := mX7_firstBest) (ci := 6) (As := [.int v5, .int v3]) (st := []) okX7_firstBest viX7_firstBest lkX7_25 rfl rfl rfl (Nat.le_of_ble_eq_true rfl) (Nat.le_of_ble_eq_true rfl) dX7_childOf_28 (c_X7_firstBest X (d + 3) _ _ _ _ _ _ e3).1 (c_X7_firstBest X (d + 3) _ _ _ _ _ _ e3).2 ?_
      refine G.istore (lv' := [(4, .int x4), (0, .ref v0), (2, .int v2), (3, .int v3), (5, .int v5)]) dX7_childOf_31 (by decide) rfl ?_
      refine G.iload dX7_childOf_33 rfl ?_
      refine G.iconst (v := (-1 : Int32)) dX7_childOf_35 (by decide) ?_
      refine G.icmp_eq 46 dX7_childOf_36 (by decide) (fun c5 => ?_) (fun c5 => ?_)
      · rw [if_pos c5] at hf
        refine G.iinc (v := (v5 + 1)) (lv' := [(5, .int (v5 + 1)), (4, .int x4), (0, .ref v0), (2, .int v2), (3, .int v3)]) dX7_childOf_46 rfl rfl (by decide) rfl ?_
        refine G.goto 18 dX7_childOf_49 (by decide) ?_
        exact G.pick [2, 3, 4, 1, 0] rfl (ih v0 v2 v3 x4 (v5 + 1) h2 _ _ hf hE)
      · rw [if_neg c5] at hf
        refine G.iload_n dX7_childOf_39 rfl ?_
        refine G.iconst (v := (1 : Int32)) dX7_childOf_40 (by decide) ?_
        refine G.iload dX7_childOf_41 rfl ?_
        refine G.ishl dX7_childOf_43 ?_
        refine G.ior dX7_childOf_44 ?_
        refine G.istore_n (lv' := [(3, .int (v3 ||| ((1 : Int32) <<< (x4 &&& 31)))), (4, .int x4), (0, .ref v0), (2, .int v2), (5, .int v5)]) dX7_childOf_45 (by decide) rfl ?_
        refine G.iinc (v := (v5 + 1)) (lv' := [(5, .int (v5 + 1)), (3, .int (v3 ||| ((1 : Int32) <<< (x4 &&& 31)))), (4, .int x4), (0, .ref v0), (2, .int v2)]) dX7_childOf_46 rfl rfl (by decide) rfl ?_
        refine G.goto 18 dX7_childOf_49 (by decide) ?_
        exact G.pick [3, 4, 1, 2, 0] rfl (ih v0 v2 (v3 ||| ((1 : Int32) <<< (x4 &&& 31))) x4 (v5 + 1) h2 _ _ hf hE)
theorem l_X7_childOf_L18 (X : SX) (d : Nat) (rv : Option Int32) (h' : AH) (n : Nat) : ∀ (v0 : Nat) (v2 : Int32) (v3 : Int32) (v4 : Int32) (v5 : Int32) (h : AH) (y4 : Int32) (h1 : AH), f_X7_childOf_L18 n v0 v2 v3 v4 v5 h = some (y4, h1) → G X mX7_childOf (d + 5) 52 [(4, .int y4)] [] h1 rv h' → G X mX7_childOf (d + 5) 18 [(0, .ref v0), (2, .int v2), (3, .int v3), (4, .int v4), (5, .int v5)] [] h rv h' := lx_X7_childOf_L18 X d n rv h'
def f_X7_childOf (a0 : Nat) (a1 : Nat) (a2 : Int32) (h : AH) : Option (Int32 × AH) := if isO h 6 a0 = true then ((f_X7_weigh a0 a1 (0 : Int32) h).bind fun h1 => (f_X7_solve a0 h1).bind fun h3 => bT1 (f_X7_childOf_L18 1000000 a0 a2 (0 : Int32) (-1 : Int32) (0 : Int32) h3) fun y7 h5 => some (y7, h5)) else none
set_option maxRecDepth 100000 in
set_option maxHeartbeats 4000000 in
theorem c_X7_childOf (X : SX) (d : Nat) (a0 : Nat) (a1 : Nat) (a2 : Int32) (h : AH) (rr : Int32) (h' : AH) (hf : f_X7_childOf a0 a1 a2 h = some (rr, h')) : isO h 6 a0 = true ∧ G X mX7_childOf (d + 5) 0 [(0, .ref a0), (1, .ref a1), (2, .int a2)] [] h (some rr) h' := by
  unfold f_X7_childOf at hf
  by_cases ho : isO h 6 a0 = true
  · rw [if_pos ho] at hf
    refine ⟨ho, ?_⟩
    refine G.aload_n dX7_childOf_0 rfl ?_
    refine G.aload_n dX7_childOf_1 rfl ?_
    refine G.iconst (v := (0 : Int32)) dX7_childOf_2 (by decide) ?_
    obtain ⟨h1, e2, hf⟩ := Option.bind_eq_some_iff.mp hf
    refine G.callVv (M' := mX7_weigh) (ci := 6) (As := [.ref a1, .int (0 : Int32)]) (st := []) okX7_weigh viX7_weigh lkX7_18 rfl rfl rfl (Nat.le_of_ble_eq_true rfl) (Nat.le_of_ble_eq_true rfl) dX7_childOf_3 (c_X7_weigh X d _ _ _ _ _ e2).1 (c_X7_weigh X d _ _ _ _ _ e2).2 ?_
    refine G.aload_n dX7_childOf_6 rfl ?_
    obtain ⟨h3, e4, hf⟩ := Option.bind_eq_some_iff.mp hf
    refine G.callVv (M' := mX7_solve) (ci := 6) (As := []) (st := []) okX7_solve viX7_solve lkX7_22 rfl rfl rfl (Nat.le_of_ble_eq_true rfl) (Nat.le_of_ble_eq_true rfl) dX7_childOf_7 (c_X7_solve X (d + 2) _ _ _ e4).1 (c_X7_solve X (d + 2) _ _ _ e4).2 ?_
    refine G.iconst (v := (0 : Int32)) dX7_childOf_10 (by decide) ?_
    refine G.istore_n (lv' := [(3, .int (0 : Int32)), (0, .ref a0), (1, .ref a1), (2, .int a2)]) dX7_childOf_11 (by decide) rfl ?_
    refine G.iconst (v := (-1 : Int32)) dX7_childOf_12 (by decide) ?_
    refine G.istore (lv' := [(4, .int (-1 : Int32)), (3, .int (0 : Int32)), (0, .ref a0), (1, .ref a1), (2, .int a2)]) dX7_childOf_13 (by decide) rfl ?_
    refine G.iconst (v := (0 : Int32)) dX7_childOf_15 (by decide) ?_
    refine G.istore (lv' := [(5, .int (0 : Int32)), (4, .int (-1 : Int32)), (3, .int (0 : Int32)), (0, .ref a0), (1, .ref a1), (2, .int a2)]) dX7_childOf_16 (by decide) rfl ?_
    obtain ⟨y7, h5, e6, hf⟩ := bT1_spec hf
    refine G.pick [3, 5, 2, 1, 0] rfl (l_X7_childOf_L18 X d _ _ 1000000 a0 a2 (0 : Int32) (-1 : Int32) (0 : Int32) h3 y7 h5 e6 ?_)
    refine G.iload dX7_childOf_52 rfl ?_
    obtain ⟨hq1, hq2⟩ := Prod.mk.inj (Option.some.inj hf)
    subst hq1
    subst hq2
    exact G.iret rfl rfl dX7_childOf_54
  · rw [if_neg ho] at hf
    cases hf
/-! X12_plan -/
theorem dX12_plan_0 : decode cX12_plan 0 = .ok (.iload_n 1, 1) := by decide +kernel
theorem dX12_plan_1 : decode cX12_plan 1 = .ok (.iconst (-1), 1) := by decide +kernel
theorem dX12_plan_2 : decode cX12_plan 2 = .ok (.if_icmp .ne 15, 3) := by decide +kernel
theorem dX12_plan_5 : decode cX12_plan 5 = .ok (.aload_n 0, 1) := by decide +kernel
theorem dX12_plan_6 : decode cX12_plan 6 = .ok (.getfield 26, 3) := by decide +kernel
theorem dX12_plan_9 : decode cX12_plan 9 = .ok (.aload_n 0, 1) := by decide +kernel
theorem dX12_plan_10 : decode cX12_plan 10 = .ok (.getfield 19, 3) := by decide +kernel
theorem dX12_plan_13 : decode cX12_plan 13 = .ok (.invokevirtual 269, 3) := by decide +kernel
theorem dX12_plan_16 : decode cX12_plan 16 = .ok (.ireturn, 1) := by decide +kernel
theorem dX12_plan_17 : decode cX12_plan 17 = .ok (.aload_n 0, 1) := by decide +kernel
theorem dX12_plan_18 : decode cX12_plan 18 = .ok (.getfield 19, 3) := by decide +kernel
theorem dX12_plan_21 : decode cX12_plan 21 = .ok (.iload_n 1, 1) := by decide +kernel
theorem dX12_plan_22 : decode cX12_plan 22 = .ok (.invokevirtual 166, 3) := by decide +kernel
theorem dX12_plan_25 : decode cX12_plan 25 = .ok (.ifCond .eq 18, 3) := by decide +kernel
theorem dX12_plan_28 : decode cX12_plan 28 = .ok (.aload_n 0, 1) := by decide +kernel
theorem dX12_plan_29 : decode cX12_plan 29 = .ok (.getfield 26, 3) := by decide +kernel
theorem dX12_plan_32 : decode cX12_plan 32 = .ok (.aload_n 0, 1) := by decide +kernel
theorem dX12_plan_33 : decode cX12_plan 33 = .ok (.getfield 19, 3) := by decide +kernel
theorem dX12_plan_36 : decode cX12_plan 36 = .ok (.iload_n 1, 1) := by decide +kernel
theorem dX12_plan_37 : decode cX12_plan 37 = .ok (.invokevirtual 272, 3) := by decide +kernel
theorem dX12_plan_40 : decode cX12_plan 40 = .ok (.goto 5, 3) := by decide +kernel
theorem dX12_plan_43 : decode cX12_plan 43 = .ok (.ldc 170, 2) := by decide +kernel
theorem dX12_plan_45 : decode cX12_plan 45 = .ok (.ireturn, 1) := by decide +kernel
def f_X12_plan (a0 : Nat) (a1 : Int32) (h : AH) : Option (Int32 × AH) := if isO h 11 a0 = true then (if a1 = (-1 : Int32) then ((gr h 11 a0 2).bind fun r12 => (gr h 11 a0 1).bind fun r13 => bT1 (f_X7_mostPaid r12 r13 h) fun x16 h14 => some (x16, h14)) else ((gr h 11 a0 1).bind fun r2 => bT1 (f_X3_hasSinger r2 a1 h) fun x5 h3 => if x5 = 0 then (some ((-1000000001 : Int32), h3)) else ((gr h3 11 a0 2).bind fun r7 => (gr h3 11 a0 1).bind fun r8 => bT1 (f_X7_childOf r7 r8 a1 h3) fun x11 h9 => some (x11, h9)))) else none
set_option maxRecDepth 100000 in
set_option maxHeartbeats 4000000 in
theorem c_X12_plan (X : SX) (d : Nat) (a0 : Nat) (a1 : Int32) (h : AH) (rr : Int32) (h' : AH) (hf : f_X12_plan a0 a1 h = some (rr, h')) : isO h 11 a0 = true ∧ G X mX12_plan (d + 6) 0 [(0, .ref a0), (1, .int a1)] [] h (some rr) h' := by
  unfold f_X12_plan at hf
  by_cases ho : isO h 11 a0 = true
  · rw [if_pos ho] at hf
    refine ⟨ho, ?_⟩
    refine G.iload_n dX12_plan_0 rfl ?_
    refine G.iconst (v := (-1 : Int32)) dX12_plan_1 (by decide) ?_
    refine G.icmp_ne 17 dX12_plan_2 (by decide) (fun c1 => ?_) (fun c1 => ?_)
    · rw [if_neg c1] at hf
      refine G.aload_n dX12_plan_17 rfl ?_
      refine G.getr flX12_19 dX12_plan_18 hf (fun r2 hf => ?_)
      refine G.iload_n dX12_plan_21 rfl ?_
      obtain ⟨x5, h3, e4, hf⟩ := bT1_spec hf
      refine G.callVi (M' := mX3_hasSinger) (ci := 3) (As := [.int a1]) (st := []) okX3_hasSinger viX3_hasSinger lkX12_166 rfl rfl rfl (Nat.le_of_ble_eq_true rfl) (Nat.le_of_ble_eq_true rfl) dX12_plan_22 (c_X3_hasSinger X (d + 5) _ _ _ _ _ e4).1 (c_X3_hasSinger X (d + 5) _ _ _ _ _ e4).2 ?_
      refine G.if_eq 43 dX12_plan_25 (by decide) (fun c6 => ?_) (fun c6 => ?_)
      · rw [if_pos c6] at hf
        refine G.ldc ckX12_170 dX12_plan_43 ?_
        obtain ⟨hq1, hq2⟩ := Prod.mk.inj (Option.some.inj hf)
        subst hq1
        subst hq2
        exact G.iret rfl rfl dX12_plan_45
      · rw [if_neg c6] at hf
        refine G.aload_n dX12_plan_28 rfl ?_
        refine G.getr flX12_26 dX12_plan_29 hf (fun r7 hf => ?_)
        refine G.aload_n dX12_plan_32 rfl ?_
        refine G.getr flX12_19 dX12_plan_33 hf (fun r8 hf => ?_)
        refine G.iload_n dX12_plan_36 rfl ?_
        obtain ⟨x11, h9, e10, hf⟩ := bT1_spec hf
        refine G.callVi (M' := mX7_childOf) (ci := 6) (As := [.ref r8, .int a1]) (st := []) okX7_childOf viX7_childOf lkX12_272 rfl rfl rfl (Nat.le_of_ble_eq_true rfl) (Nat.le_of_ble_eq_true rfl) dX12_plan_37 (c_X7_childOf X d _ _ _ _ _ _ e10).1 (c_X7_childOf X d _ _ _ _ _ _ e10).2 ?_
        refine G.goto 45 dX12_plan_40 (by decide) ?_
        obtain ⟨hq1, hq2⟩ := Prod.mk.inj (Option.some.inj hf)
        subst hq1
        subst hq2
        exact G.iret rfl rfl dX12_plan_45
    · rw [if_pos c1] at hf
      refine G.aload_n dX12_plan_5 rfl ?_
      refine G.getr flX12_26 dX12_plan_6 hf (fun r12 hf => ?_)
      refine G.aload_n dX12_plan_9 rfl ?_
      refine G.getr flX12_19 dX12_plan_10 hf (fun r13 hf => ?_)
      obtain ⟨x16, h14, e15, hf⟩ := bT1_spec hf
      refine G.callVi (M' := mX7_mostPaid) (ci := 6) (As := [.ref r13]) (st := []) okX7_mostPaid viX7_mostPaid lkX12_269 rfl rfl rfl (Nat.le_of_ble_eq_true rfl) (Nat.le_of_ble_eq_true rfl) dX12_plan_13 (c_X7_mostPaid X d _ _ _ _ _ e15).1 (c_X7_mostPaid X d _ _ _ _ _ e15).2 ?_
      obtain ⟨hq1, hq2⟩ := Prod.mk.inj (Option.some.inj hf)
      subst hq1
      subst hq2
      exact G.iret rfl rfl dX12_plan_16
  · rw [if_neg ho] at hf
    cases hf
/-! X13_plan -/
theorem dX13_plan_0 : decode cX13_plan 0 = .ok (.iload_n 1, 1) := by decide +kernel
theorem dX13_plan_1 : decode cX13_plan 1 = .ok (.iconst (-1), 1) := by decide +kernel
theorem dX13_plan_2 : decode cX13_plan 2 = .ok (.if_icmp .eq 14, 3) := by decide +kernel
theorem dX13_plan_5 : decode cX13_plan 5 = .ok (.aload_n 0, 1) := by decide +kernel
theorem dX13_plan_6 : decode cX13_plan 6 = .ok (.iload_n 1, 1) := by decide +kernel
theorem dX13_plan_7 : decode cX13_plan 7 = .ok (.invokevirtual 176, 3) := by decide +kernel
theorem dX13_plan_10 : decode cX13_plan 10 = .ok (.ifCond .ne 6, 3) := by decide +kernel
theorem dX13_plan_13 : decode cX13_plan 13 = .ok (.ldc 180, 2) := by decide +kernel
theorem dX13_plan_15 : decode cX13_plan 15 = .ok (.ireturn, 1) := by decide +kernel
theorem dX13_plan_16 : decode cX13_plan 16 = .ok (.aload_n 0, 1) := by decide +kernel
theorem dX13_plan_17 : decode cX13_plan 17 = .ok (.iconst 1, 1) := by decide +kernel
theorem dX13_plan_18 : decode cX13_plan 18 = .ok (.invokevirtual 170, 3) := by decide +kernel
theorem dX13_plan_21 : decode cX13_plan 21 = .ok (.iload_n 1, 1) := by decide +kernel
theorem dX13_plan_22 : decode cX13_plan 22 = .ok (.iconst (-1), 1) := by decide +kernel
theorem dX13_plan_23 : decode cX13_plan 23 = .ok (.if_icmp .ne 10, 3) := by decide +kernel
theorem dX13_plan_26 : decode cX13_plan 26 = .ok (.aload_n 0, 1) := by decide +kernel
theorem dX13_plan_27 : decode cX13_plan 27 = .ok (.getfield 54, 3) := by decide +kernel
theorem dX13_plan_30 : decode cX13_plan 30 = .ok (.iconst 0, 1) := by decide +kernel
theorem dX13_plan_31 : decode cX13_plan 31 = .ok (.iaload, 1) := by decide +kernel
theorem dX13_plan_32 : decode cX13_plan 32 = .ok (.ireturn, 1) := by decide +kernel
theorem dX13_plan_33 : decode cX13_plan 33 = .ok (.iconst 0, 1) := by decide +kernel
theorem dX13_plan_34 : decode cX13_plan 34 = .ok (.istore_n 2, 1) := by decide +kernel
theorem dX13_plan_35 : decode cX13_plan 35 = .ok (.iconst (-1), 1) := by decide +kernel
theorem dX13_plan_36 : decode cX13_plan 36 = .ok (.istore_n 3, 1) := by decide +kernel
theorem dX13_plan_37 : decode cX13_plan 37 = .ok (.iconst 0, 1) := by decide +kernel
theorem dX13_plan_38 : decode cX13_plan 38 = .ok (.istore 4, 2) := by decide +kernel
theorem dX13_plan_40 : decode cX13_plan 40 = .ok (.iload 4, 2) := by decide +kernel
theorem dX13_plan_42 : decode cX13_plan 42 = .ok (.iload_n 1, 1) := by decide +kernel
theorem dX13_plan_43 : decode cX13_plan 43 = .ok (.if_icmp .gt 127, 3) := by decide +kernel
theorem dX13_plan_46 : decode cX13_plan 46 = .ok (.iconst (-1), 1) := by decide +kernel
theorem dX13_plan_47 : decode cX13_plan 47 = .ok (.istore_n 3, 1) := by decide +kernel
theorem dX13_plan_48 : decode cX13_plan 48 = .ok (.aload_n 0, 1) := by decide +kernel
theorem dX13_plan_49 : decode cX13_plan 49 = .ok (.getfield 78, 3) := by decide +kernel
theorem dX13_plan_52 : decode cX13_plan 52 = .ok (.iconst 1, 1) := by decide +kernel
theorem dX13_plan_53 : decode cX13_plan 53 = .ok (.isub, 1) := by decide +kernel
theorem dX13_plan_54 : decode cX13_plan 54 = .ok (.istore 5, 2) := by decide +kernel
theorem dX13_plan_56 : decode cX13_plan 56 = .ok (.iload 5, 2) := by decide +kernel
theorem dX13_plan_58 : decode cX13_plan 58 = .ok (.ifCond .lt 91, 3) := by decide +kernel
theorem dX13_plan_61 : decode cX13_plan 61 = .ok (.iload_n 2, 1) := by decide +kernel
theorem dX13_plan_62 : decode cX13_plan 62 = .ok (.iload 5, 2) := by decide +kernel
theorem dX13_plan_64 : decode cX13_plan 64 = .ok (.ishr, 1) := by decide +kernel
theorem dX13_plan_65 : decode cX13_plan 65 = .ok (.iconst 1, 1) := by decide +kernel
theorem dX13_plan_66 : decode cX13_plan 66 = .ok (.iand, 1) := by decide +kernel
theorem dX13_plan_67 : decode cX13_plan 67 = .ok (.ifCond .ne 18, 3) := by decide +kernel
theorem dX13_plan_70 : decode cX13_plan 70 = .ok (.aload_n 0, 1) := by decide +kernel
theorem dX13_plan_71 : decode cX13_plan 71 = .ok (.iload 4, 2) := by decide +kernel
theorem dX13_plan_73 : decode cX13_plan 73 = .ok (.iload 5, 2) := by decide +kernel
theorem dX13_plan_75 : decode cX13_plan 75 = .ok (.invokevirtual 234, 3) := by decide +kernel
theorem dX13_plan_78 : decode cX13_plan 78 = .ok (.ifCond .eq 7, 3) := by decide +kernel
theorem dX13_plan_81 : decode cX13_plan 81 = .ok (.iconst 1, 1) := by decide +kernel
theorem dX13_plan_82 : decode cX13_plan 82 = .ok (.goto 4, 3) := by decide +kernel
theorem dX13_plan_85 : decode cX13_plan 85 = .ok (.iconst 0, 1) := by decide +kernel
theorem dX13_plan_86 : decode cX13_plan 86 = .ok (.istore 6, 2) := by decide +kernel
theorem dX13_plan_88 : decode cX13_plan 88 = .ok (.iload 6, 2) := by decide +kernel
theorem dX13_plan_90 : decode cX13_plan 90 = .ok (.ifCond .eq 51, 3) := by decide +kernel
theorem dX13_plan_93 : decode cX13_plan 93 = .ok (.aload_n 0, 1) := by decide +kernel
theorem dX13_plan_94 : decode cX13_plan 94 = .ok (.iload 4, 2) := by decide +kernel
theorem dX13_plan_96 : decode cX13_plan 96 = .ok (.iload 5, 2) := by decide +kernel
theorem dX13_plan_98 : decode cX13_plan 98 = .ok (.invokevirtual 237, 3) := by decide +kernel
theorem dX13_plan_101 : decode cX13_plan 101 = .ok (.aload_n 0, 1) := by decide +kernel
theorem dX13_plan_102 : decode cX13_plan 102 = .ok (.getfield 54, 3) := by decide +kernel
theorem dX13_plan_105 : decode cX13_plan 105 = .ok (.bipush 64, 2) := by decide +kernel
theorem dX13_plan_107 : decode cX13_plan 107 = .ok (.iload 4, 2) := by decide +kernel
theorem dX13_plan_109 : decode cX13_plan 109 = .ok (.iconst 1, 1) := by decide +kernel
theorem dX13_plan_110 : decode cX13_plan 110 = .ok (.iadd, 1) := by decide +kernel
theorem dX13_plan_111 : decode cX13_plan 111 = .ok (.imul, 1) := by decide +kernel
theorem dX13_plan_112 : decode cX13_plan 112 = .ok (.iload_n 2, 1) := by decide +kernel
theorem dX13_plan_113 : decode cX13_plan 113 = .ok (.iconst 1, 1) := by decide +kernel
theorem dX13_plan_114 : decode cX13_plan 114 = .ok (.iload 5, 2) := by decide +kernel
theorem dX13_plan_116 : decode cX13_plan 116 = .ok (.ishl, 1) := by decide +kernel
theorem dX13_plan_117 : decode cX13_plan 117 = .ok (.ior, 1) := by decide +kernel
theorem dX13_plan_118 : decode cX13_plan 118 = .ok (.iadd, 1) := by decide +kernel
theorem dX13_plan_119 : decode cX13_plan 119 = .ok (.iaload, 1) := by decide +kernel
theorem dX13_plan_120 : decode cX13_plan 120 = .ok (.iadd, 1) := by decide +kernel
theorem dX13_plan_121 : decode cX13_plan 121 = .ok (.aload_n 0, 1) := by decide +kernel
theorem dX13_plan_122 : decode cX13_plan 122 = .ok (.getfield 54, 3) := by decide +kernel
theorem dX13_plan_125 : decode cX13_plan 125 = .ok (.bipush 64, 2) := by decide +kernel
theorem dX13_plan_127 : decode cX13_plan 127 = .ok (.iload 4, 2) := by decide +kernel
theorem dX13_plan_129 : decode cX13_plan 129 = .ok (.imul, 1) := by decide +kernel
theorem dX13_plan_130 : decode cX13_plan 130 = .ok (.iload_n 2, 1) := by decide +kernel
theorem dX13_plan_131 : decode cX13_plan 131 = .ok (.iadd, 1) := by decide +kernel
theorem dX13_plan_132 : decode cX13_plan 132 = .ok (.iaload, 1) := by decide +kernel
theorem dX13_plan_133 : decode cX13_plan 133 = .ok (.if_icmp .ne 8, 3) := by decide +kernel
theorem dX13_plan_136 : decode cX13_plan 136 = .ok (.iload 5, 2) := by decide +kernel
theorem dX13_plan_138 : decode cX13_plan 138 = .ok (.goto 4, 3) := by decide +kernel
theorem dX13_plan_141 : decode cX13_plan 141 = .ok (.iload_n 3, 1) := by decide +kernel
theorem dX13_plan_142 : decode cX13_plan 142 = .ok (.istore_n 3, 1) := by decide +kernel
theorem dX13_plan_143 : decode cX13_plan 143 = .ok (.iinc 5 (-1), 3) := by decide +kernel
theorem dX13_plan_146 : decode cX13_plan 146 = .ok (.goto (-90), 3) := by decide +kernel
theorem dX13_plan_149 : decode cX13_plan 149 = .ok (.iload_n 2, 1) := by decide +kernel
theorem dX13_plan_150 : decode cX13_plan 150 = .ok (.iload_n 3, 1) := by decide +kernel
theorem dX13_plan_151 : decode cX13_plan 151 = .ok (.iconst (-1), 1) := by decide +kernel
theorem dX13_plan_152 : decode cX13_plan 152 = .ok (.if_icmp .ne 7, 3) := by decide +kernel
theorem dX13_plan_155 : decode cX13_plan 155 = .ok (.iconst 0, 1) := by decide +kernel
theorem dX13_plan_156 : decode cX13_plan 156 = .ok (.goto 6, 3) := by decide +kernel
theorem dX13_plan_159 : decode cX13_plan 159 = .ok (.iconst 1, 1) := by decide +kernel
theorem dX13_plan_160 : decode cX13_plan 160 = .ok (.iload_n 3, 1) := by decide +kernel
theorem dX13_plan_161 : decode cX13_plan 161 = .ok (.ishl, 1) := by decide +kernel
theorem dX13_plan_162 : decode cX13_plan 162 = .ok (.ior, 1) := by decide +kernel
theorem dX13_plan_163 : decode cX13_plan 163 = .ok (.istore_n 2, 1) := by decide +kernel
theorem dX13_plan_164 : decode cX13_plan 164 = .ok (.iinc 4 1, 3) := by decide +kernel
theorem dX13_plan_167 : decode cX13_plan 167 = .ok (.goto (-127), 3) := by decide +kernel
theorem dX13_plan_170 : decode cX13_plan 170 = .ok (.iload_n 3, 1) := by decide +kernel
theorem dX13_plan_171 : decode cX13_plan 171 = .ok (.ireturn, 1) := by decide +kernel
def f_X13_plan_86 (rec : Nat → Int32 → Int32 → Int32 → Int32 → Int32 → AH → Option (Int32 × AH)) (v0 : Nat) (v1 : Int32) (v2 : Int32) (v3 : Int32) (v4 : Int32) (v5 : Int32) (s0 : Int32) (h : AH) : Option (Int32 × AH) := if s0 = 0 then (rec v0 v1 v2 v3 v4 (v5 + (-1)) h) else (bT1 (f_X13_payment v0 v4 v5 h) fun x4 h2 => (gr h2 12 v0 29).bind fun r5 => (ai h2 0 r5 (((64 : Int32) * (v4 + (1 : Int32))) + (v2 ||| ((1 : Int32) <<< (v5 &&& 31))))).bind fun x6 => (gr h2 12 v0 29).bind fun r7 => (ai h2 0 r7 (((64 : Int32) * v4) + v2)).bind fun x8 => if (x4 + x6) = x8 then (rec v0 v1 v2 v5 v4 (v5 + (-1)) h2) else (rec v0 v1 v2 v3 v4 (v5 + (-1)) h2))
set_option maxRecDepth 100000 in
set_option maxHeartbeats 4000000 in
theorem j_X13_plan_86 (X : SX) (d : Nat) (rec : Nat → Int32 → Int32 → Int32 → Int32 → Int32 → AH → Option (Int32 × AH)) (hrecf : ∀ (rv : Option Int32) (h' : AH), ∀ (v0 : Nat) (v1 : Int32) (v2 : Int32) (v3 : Int32) (v4 : Int32) (v5 : Int32) (h : AH) (y3 : Int32) (h1 : AH), rec v0 v1 v2 v3 v4 v5 h = some (y3, h1) → G X mX13_plan (d + 6) 149 [(0, .ref v0), (1, .int v1), (2, .int v2), (3, .int y3), (4, .int v4)] [] h1 rv h' → G X mX13_plan (d + 6) 56 [(0, .ref v0), (1, .int v1), (2, .int v2), (3, .int v3), (4, .int v4), (5, .int v5)] [] h rv h') (v0 : Nat) (v1 : Int32) (v2 : Int32) (v3 : Int32) (v4 : Int32) (v5 : Int32) (s0 : Int32) (h : AH) (y3 : Int32) (h1 : AH) (hf : f_X13_plan_86 rec v0 v1 v2 v3 v4 v5 s0 h = some (y3, h1)) (rv : Option Int32) (h' : AH) (hE : G X mX13_plan (d + 6) 149 [(0, .ref v0), (1, .int v1), (2, .int v2), (3, .int y3), (4, .int v4)] [] h1 rv h') : G X mX13_plan (d + 6) 86 [(0, .ref v0), (1, .int v1), (2, .int v2), (3, .int v3), (4, .int v4), (5, .int v5)] [.int s0] h rv h' := by
  unfold f_X13_plan_86 at hf
  have hrec := hrecf rv h'
  refine G.istore (lv' := [(6, .int s0), (0, .ref v0), (1, .int v1), (2, .int v2), (3, .int v3), (4, .int v4), (5, .int v5)]) dX13_plan_86 (by decide) rfl ?_
  refine G.iload dX13_plan_88 rfl ?_
  refine G.if_eq 141 dX13_plan_90 (by decide) (fun c1 => ?_) (fun c1 => ?_)
  · rw [if_pos c1] at hf
    refine G.iload_n dX13_plan_141 rfl ?_
    refine G.istore_n (lv' := [(3, .int v3), (6, .int s0), (0, .ref v0), (1, .int v1), (2, .int v2), (4, .int v4), (5, .int v5)]) dX13_plan_142 (by decide) rfl ?_
    refine G.iinc (v := (v5 + (-1))) (lv' := [(5, .int (v5 + (-1))), (3, .int v3), (6, .int s0), (0, .ref v0), (1, .int v1), (2, .int v2), (4, .int v4)]) dX13_plan_143 rfl rfl (by decide) rfl ?_
    refine G.goto 56 dX13_plan_146 (by decide) ?_
    exact G.pick [3, 4, 5, 1, 6, 0] rfl (hrec v0 v1 v2 v3 v4 (v5 + (-1)) h _ _ hf hE)
  · rw [if_neg c1] at hf
    refine G.aload_n dX13_plan_93 rfl ?_
    refine G.iload dX13_plan_94 rfl ?_
    refine G.iload dX13_plan_96 rfl ?_
    obtain ⟨x4, h2, e3, hf⟩ := bT1_spec hf
    refine G.callVi (M' := mX13_payment) (ci := 12) (As := [.int v4, .int v5]) (st := []) okX13_payment viX13_payment lkX13_237 rfl rfl rfl (Nat.le_of_ble_eq_true rfl) (Nat.le_of_ble_eq_true rfl) dX13_plan_98 (c_X13_payment X (d + 2) _ _ _ _ _ _ e3).1 (c_X13_payment X (d + 2) _ _ _ _ _ _ e3).2 ?_
    refine G.aload_n dX13_plan_101 rfl ?_
    refine G.getr flX13_54 dX13_plan_102 hf (fun r5 hf => ?_)
    refine G.bipush (v := (64 : Int32)) dX13_plan_105 (by decide) ?_
    refine G.iload dX13_plan_107 rfl ?_
    refine G.iconst (v := (1 : Int32)) dX13_plan_109 (by decide) ?_
    refine G.iadd dX13_plan_110 ?_
    refine G.imul dX13_plan_111 ?_
    refine G.iload_n dX13_plan_112 rfl ?_
    refine G.iconst (v := (1 : Int32)) dX13_plan_113 (by decide) ?_
    refine G.iload dX13_plan_114 rfl ?_
    refine G.ishl dX13_plan_116 ?_
    refine G.ior dX13_plan_117 ?_
    refine G.iadd dX13_plan_118 ?_
    refine G.iald dX13_plan_119 hf (fun x6 hf => ?_)
    refine G.iadd dX13_plan_120 ?_
    refine G.aload_n dX13_plan_121 rfl ?_
    refine G.getr flX13_54 dX13_plan_122 hf (fun r7 hf => ?_)
    refine G.bipush (v := (64 : Int32)) dX13_plan_125 (by decide) ?_
    refine G.iload dX13_plan_127 rfl ?_
    refine G.imul dX13_plan_129 ?_
    refine G.iload_n dX13_plan_130 rfl ?_
    refine G.iadd dX13_plan_131 ?_
    refine G.iald dX13_plan_132 hf (fun x8 hf => ?_)
    refine G.icmp_ne 141 dX13_plan_133 (by decide) (fun c9 => ?_) (fun c9 => ?_)
    · rw [if_neg c9] at hf
      refine G.iload_n dX13_plan_141 rfl ?_
      refine G.istore_n (lv' := [(3, .int v3), (6, .int s0), (0, .ref v0), (1, .int v1), (2, .int v2), (4, .int v4), (5, .int v5)]) dX13_plan_142 (by decide) rfl ?_
      refine G.iinc (v := (v5 + (-1))) (lv' := [(5, .int (v5 + (-1))), (3, .int v3), (6, .int s0), (0, .ref v0), (1, .int v1), (2, .int v2), (4, .int v4)]) dX13_plan_143 rfl rfl (by decide) rfl ?_
      refine G.goto 56 dX13_plan_146 (by decide) ?_
      exact G.pick [3, 4, 5, 1, 6, 0] rfl (hrec v0 v1 v2 v3 v4 (v5 + (-1)) h2 _ _ hf hE)
    · rw [if_pos c9] at hf
      refine G.iload dX13_plan_136 rfl ?_
      refine G.goto 142 dX13_plan_138 (by decide) ?_
      refine G.istore_n (lv' := [(3, .int v5), (6, .int s0), (0, .ref v0), (1, .int v1), (2, .int v2), (4, .int v4), (5, .int v5)]) dX13_plan_142 (by decide) rfl ?_
      refine G.iinc (v := (v5 + (-1))) (lv' := [(5, .int (v5 + (-1))), (3, .int v5), (6, .int s0), (0, .ref v0), (1, .int v1), (2, .int v2), (4, .int v4)]) dX13_plan_143 rfl rfl (by decide) rfl ?_
      refine G.goto 56 dX13_plan_146 (by decide) ?_
      exact G.pick [3, 4, 5, 1, 6, 0] rfl (hrec v0 v1 v2 v5 v4 (v5 + (-1)) h2 _ _ hf hE)
def f_X13_plan_85 (rec : Nat → Int32 → Int32 → Int32 → Int32 → Int32 → AH → Option (Int32 × AH)) (v0 : Nat) (v1 : Int32) (v2 : Int32) (v3 : Int32) (v4 : Int32) (v5 : Int32) (h : AH) : Option (Int32 × AH) := f_X13_plan_86 rec v0 v1 v2 v3 v4 v5 (0 : Int32) h
set_option maxRecDepth 100000 in
set_option maxHeartbeats 4000000 in
theorem j_X13_plan_85 (X : SX) (d : Nat) (rec : Nat → Int32 → Int32 → Int32 → Int32 → Int32 → AH → Option (Int32 × AH)) (hrecf : ∀ (rv : Option Int32) (h' : AH), ∀ (v0 : Nat) (v1 : Int32) (v2 : Int32) (v3 : Int32) (v4 : Int32) (v5 : Int32) (h : AH) (y3 : Int32) (h1 : AH), rec v0 v1 v2 v3 v4 v5 h = some (y3, h1) → G X mX13_plan (d + 6) 149 [(0, .ref v0), (1, .int v1), (2, .int v2), (3, .int y3), (4, .int v4)] [] h1 rv h' → G X mX13_plan (d + 6) 56 [(0, .ref v0), (1, .int v1), (2, .int v2), (3, .int v3), (4, .int v4), (5, .int v5)] [] h rv h') (v0 : Nat) (v1 : Int32) (v2 : Int32) (v3 : Int32) (v4 : Int32) (v5 : Int32) (h : AH) (y3 : Int32) (h1 : AH) (hf : f_X13_plan_85 rec v0 v1 v2 v3 v4 v5 h = some (y3, h1)) (rv : Option Int32) (h' : AH) (hE : G X mX13_plan (d + 6) 149 [(0, .ref v0), (1, .int v1), (2, .int v2), (3, .int y3), (4, .int v4)] [] h1 rv h') : G X mX13_plan (d + 6) 85 [(0, .ref v0), (1, .int v1), (2, .int v2), (3, .int v3), (4, .int v4), (5, .int v5)] [] h rv h' := by
  unfold f_X13_plan_85 at hf
  have hrec := hrecf rv h'
  refine G.iconst (v := (0 : Int32)) dX13_plan_85 (by decide) ?_
  exact G.pick [0, 1, 2, 3, 4, 5] rfl (j_X13_plan_86 X d _ hrecf v0 v1 v2 v3 v4 v5 (0 : Int32) h _ _ hf _ _ hE)
def F_X13_plan_L56 (rec : Nat → Int32 → Int32 → Int32 → Int32 → Int32 → AH → Option (Int32 × AH)) (v0 : Nat) (v1 : Int32) (v2 : Int32) (v3 : Int32) (v4 : Int32) (v5 : Int32) (h : AH) : Option (Int32 × AH) := if v5 < 0 then (some (v3, h)) else (if ((v2 >>> (v5 &&& 31)) &&& (1 : Int32)) = 0 then (bT1 (f_X13_could v0 v4 v5 h) fun x5 h3 => if x5 = 0 then (f_X13_plan_85 rec v0 v1 v2 v3 v4 v5 h3) else (f_X13_plan_86 rec v0 v1 v2 v3 v4 v5 (1 : Int32) h3)) else (f_X13_plan_85 rec v0 v1 v2 v3 v4 v5 h))
def f_X13_plan_L56 : Nat → Nat → Int32 → Int32 → Int32 → Int32 → Int32 → AH → Option (Int32 × AH)
  | 0 => fun _ _ _ _ _ _ _ => none
  | n + 1 => F_X13_plan_L56 (f_X13_plan_L56 n)
set_option maxRecDepth 100000 in
set_option maxHeartbeats 4000000 in
theorem lx_X13_plan_L56 (X : SX) (d : Nat) : ∀ n (rv : Option Int32) (h' : AH), ∀ (v0 : Nat) (v1 : Int32) (v2 : Int32) (v3 : Int32) (v4 : Int32) (v5 : Int32) (h : AH) (y3 : Int32) (h1 : AH), f_X13_plan_L56 n v0 v1 v2 v3 v4 v5 h = some (y3, h1) → G X mX13_plan (d + 6) 149 [(0, .ref v0), (1, .int v1), (2, .int v2), (3, .int y3), (4, .int v4)] [] h1 rv h' → G X mX13_plan (d + 6) 56 [(0, .ref v0), (1, .int v1), (2, .int v2), (3, .int v3), (4, .int v4), (5, .int v5)] [] h rv h' := by
  intro n
  induction n with
  | zero =>
    intro rv h' v0 v1 v2 v3 v4 v5 h y3 h1 hf hE
    cases hf
  | succ n ihf =>
    intro rv h' v0 v1 v2 v3 v4 v5 h y3 h1 hf hE
    replace hf : F_X13_plan_L56 (f_X13_plan_L56 n) v0 v1 v2 v3 v4 v5 h = some (y3, h1) := hf
    unfold F_X13_plan_L56 at hf
    have ih := ihf rv h'
    refine G.iload dX13_plan_56 rfl ?_
    refine G.if_lt 149 dX13_plan_58 (by decide) (fun c1 => ?_) (fun c1 => ?_)
    · rw [if_pos c1] at hf
      obtain ⟨u0, w1⟩ := Prod.mk.inj (Option.some.inj hf)
      subst u0
      subst w1
      exact G.pick [0, 1, 2, 3, 4] rfl hE
    · rw [if_neg c1] at hf
      refine G.iload_n dX13_plan_61 rfl ?_
      refine G.iload dX13_plan_62 rfl ?_
      refine G.ishr dX13_plan_64 ?_
      refine G.iconst (v := (1 : Int32)) dX13_plan_65 (by decide) ?_
      refine G.iand dX13_plan_66 ?_
      refine G.if_ne 85 dX13_plan_67 (by decide) (fun c2 => ?_) (fun c2 => ?_)
      · rw [if_neg c2] at hf
        exact G.pick [0, 1, 2, 3, 4, 5] rfl (j_X13_plan_85 X d _ ihf v0 v1 v2 v3 v4 v5 h _ _ hf _ _ hE)
      · rw [if_pos c2] at hf
        refine G.aload_n dX13_plan_70 rfl ?_
        refine G.iload dX13_plan_71 rfl ?_
        refine G.iload dX13_plan_73 rfl ?_
        obtain ⟨x5, h3, e4, hf⟩ := bT1_spec hf
        refine G.callVi (M' := mX13_could) (ci := 12) (As := [.int v4, .int v5]) (st := []) okX13_could viX13_could lkX13_234 rfl rfl rfl (Nat.le_of_ble_eq_true rfl) (Nat.le_of_ble_eq_true rfl) dX13_plan_75 (c_X13_could X (d + 3) _ _ _ _ _ _ e4).1 (c_X13_could X (d + 3) _ _ _ _ _ _ e4).2 ?_
        refine G.if_eq 85 dX13_plan_78 (by decide) (fun c6 => ?_) (fun c6 => ?_)
        · rw [if_pos c6] at hf
          exact G.pick [0, 1, 2, 3, 4, 5] rfl (j_X13_plan_85 X d _ ihf v0 v1 v2 v3 v4 v5 h3 _ _ hf _ _ hE)
        · rw [if_neg c6] at hf
          refine G.iconst (v := (1 : Int32)) dX13_plan_81 (by decide) ?_
          refine G.goto 86 dX13_plan_82 (by decide) ?_
          exact G.pick [0, 1, 2, 3, 4, 5] rfl (j_X13_plan_86 X d _ ihf v0 v1 v2 v3 v4 v5 (1 : Int32) h3 _ _ hf _ _ hE)
theorem l_X13_plan_L56 (X : SX) (d : Nat) (rv : Option Int32) (h' : AH) (n : Nat) : ∀ (v0 : Nat) (v1 : Int32) (v2 : Int32) (v3 : Int32) (v4 : Int32) (v5 : Int32) (h : AH) (y3 : Int32) (h1 : AH), f_X13_plan_L56 n v0 v1 v2 v3 v4 v5 h = some (y3, h1) → G X mX13_plan (d + 6) 149 [(0, .ref v0), (1, .int v1), (2, .int v2), (3, .int y3), (4, .int v4)] [] h1 rv h' → G X mX13_plan (d + 6) 56 [(0, .ref v0), (1, .int v1), (2, .int v2), (3, .int v3), (4, .int v4), (5, .int v5)] [] h rv h' := lx_X13_plan_L56 X d n rv h'
def F_X13_plan_L40 (rec : Nat → Int32 → Int32 → Int32 → Int32 → AH → Option (Int32 × AH)) (v0 : Nat) (v1 : Int32) (v2 : Int32) (v3 : Int32) (v4 : Int32) (h : AH) : Option (Int32 × AH) := if v1 < v4 then (some (v3, h)) else ((gi h 12 v0 6).bind fun x2 => bT1 (f_X13_plan_L56 1000000 v0 v1 v2 (-1 : Int32) v4 (x2 - (1 : Int32)) h) fun y5 h3 => if y5 = (-1 : Int32) then (rec v0 v1 (v2 ||| (0 : Int32)) y5 (v4 + 1) h3) else (rec v0 v1 (v2 ||| ((1 : Int32) <<< (y5 &&& 31))) y5 (v4 + 1) h3))
def f_X13_plan_L40 : Nat → Nat → Int32 → Int32 → Int32 → Int32 → AH → Option (Int32 × AH)
  | 0 => fun _ _ _ _ _ _ => none
  | n + 1 => F_X13_plan_L40 (f_X13_plan_L40 n)
set_option maxRecDepth 100000 in
set_option maxHeartbeats 4000000 in
theorem lx_X13_plan_L40 (X : SX) (d : Nat) : ∀ n (rv : Option Int32) (h' : AH), ∀ (v0 : Nat) (v1 : Int32) (v2 : Int32) (v3 : Int32) (v4 : Int32) (h : AH) (y3 : Int32) (h1 : AH), f_X13_plan_L40 n v0 v1 v2 v3 v4 h = some (y3, h1) → G X mX13_plan (d + 6) 170 [(3, .int y3)] [] h1 rv h' → G X mX13_plan (d + 6) 40 [(0, .ref v0), (1, .int v1), (2, .int v2), (3, .int v3), (4, .int v4)] [] h rv h' := by
  intro n
  induction n with
  | zero =>
    intro rv h' v0 v1 v2 v3 v4 h y3 h1 hf hE
    cases hf
  | succ n ihf =>
    intro rv h' v0 v1 v2 v3 v4 h y3 h1 hf hE
    replace hf : F_X13_plan_L40 (f_X13_plan_L40 n) v0 v1 v2 v3 v4 h = some (y3, h1) := hf
    unfold F_X13_plan_L40 at hf
    have ih := ihf rv h'
    refine G.iload dX13_plan_40 rfl ?_
    refine G.iload_n dX13_plan_42 rfl ?_
    refine G.icmp_gt 170 dX13_plan_43 (by decide) (fun c1 => ?_) (fun c1 => ?_)
    · rw [if_pos c1] at hf
      obtain ⟨u0, w1⟩ := Prod.mk.inj (Option.some.inj hf)
      subst u0
      subst w1
      exact G.pick [3] rfl hE
    · rw [if_neg c1] at hf
      refine G.iconst (v := (-1 : Int32)) dX13_plan_46 (by decide) ?_
      refine G.istore_n (lv' := [(3, .int (-1 : Int32)), (0, .ref v0), (1, .int v1), (2, .int v2), (4, .int v4)]) dX13_plan_47 (by decide) rfl ?_
      refine G.aload_n dX13_plan_48 rfl ?_
      refine G.geti flX13_78 dX13_plan_49 hf (fun x2 hf => ?_)
      refine G.iconst (v := (1 : Int32)) dX13_plan_52 (by decide) ?_
      refine G.isub dX13_plan_53 ?_
      refine G.istore (lv' := [(5, .int (x2 - (1 : Int32))), (3, .int (-1 : Int32)), (0, .ref v0), (1, .int v1), (2, .int v2), (4, .int v4)]) dX13_plan_54 (by decide) rfl ?_
      obtain ⟨y5, h3, e4, hf⟩ := bT1_spec hf
      refine G.pick [2, 3, 4, 1, 5, 0] rfl (l_X13_plan_L56 X d _ _ 1000000 v0 v1 v2 (-1 : Int32) v4 (x2 - (1 : Int32)) h y5 h3 e4 ?_)
      refine G.iload_n dX13_plan_149 rfl ?_
      refine G.iload_n dX13_plan_150 rfl ?_
      refine G.iconst (v := (-1 : Int32)) dX13_plan_151 (by decide) ?_
      refine G.icmp_ne 159 dX13_plan_152 (by decide) (fun c6 => ?_) (fun c6 => ?_)
      · rw [if_neg c6] at hf
        refine G.iconst (v := (1 : Int32)) dX13_plan_159 (by decide) ?_
        refine G.iload_n dX13_plan_160 rfl ?_
        refine G.ishl dX13_plan_161 ?_
        refine G.ior dX13_plan_162 ?_
        refine G.istore_n (lv' := [(2, .int (v2 ||| ((1 : Int32) <<< (y5 &&& 31)))), (0, .ref v0), (1, .int v1), (3, .int y5), (4, .int v4)]) dX13_plan_163 (by decide) rfl ?_
        refine G.iinc (v := (v4 + 1)) (lv' := [(4, .int (v4 + 1)), (2, .int (v2 ||| ((1 : Int32) <<< (y5 &&& 31)))), (0, .ref v0), (1, .int v1), (3, .int y5)]) dX13_plan_164 rfl rfl (by decide) rfl ?_
        refine G.goto 40 dX13_plan_167 (by decide) ?_
        exact G.pick [2, 3, 1, 4, 0] rfl (ih v0 v1 (v2 ||| ((1 : Int32) <<< (y5 &&& 31))) y5 (v4 + 1) h3 _ _ hf hE)
      · rw [if_pos c6] at hf
        refine G.iconst (v := (0 : Int32)) dX13_plan_155 (by decide) ?_
        refine G.goto 162 dX13_plan_156 (by decide) ?_
        refine G.ior dX13_plan_162 ?_
        refine G.istore_n (lv' := [(2, .int (v2 ||| (0 : Int32))), (0, .ref v0), (1, .int v1), (3, .int y5), (4, .int v4)]) dX13_plan_163 (by decide) rfl ?_
        refine G.iinc (v := (v4 + 1)) (lv' := [(4, .int (v4 + 1)), (2, .int (v2 ||| (0 : Int32))), (0, .ref v0), (1, .int v1), (3, .int y5)]) dX13_plan_164 rfl rfl (by decide) rfl ?_
        refine G.goto 40 dX13_plan_167 (by decide) ?_
        exact G.pick [2, 3, 1, 4, 0] rfl (ih v0 v1 (v2 ||| (0 : Int32)) y5 (v4 + 1) h3 _ _ hf hE)
theorem l_X13_plan_L40 (X : SX) (d : Nat) (rv : Option Int32) (h' : AH) (n : Nat) : ∀ (v0 : Nat) (v1 : Int32) (v2 : Int32) (v3 : Int32) (v4 : Int32) (h : AH) (y3 : Int32) (h1 : AH), f_X13_plan_L40 n v0 v1 v2 v3 v4 h = some (y3, h1) → G X mX13_plan (d + 6) 170 [(3, .int y3)] [] h1 rv h' → G X mX13_plan (d + 6) 40 [(0, .ref v0), (1, .int v1), (2, .int v2), (3, .int v3), (4, .int v4)] [] h rv h' := lx_X13_plan_L40 X d n rv h'
def f_X13_plan_16 (v0 : Nat) (v1 : Int32) (h : AH) : Option (Int32 × AH) := (f_X13_plans v0 (1 : Int32) h).bind fun h1 => if v1 = (-1 : Int32) then ((gr h1 12 v0 29).bind fun r7 => (ai h1 0 r7 (0 : Int32)).bind fun x8 => some (x8, h1)) else (bT1 (f_X13_plan_L40 1000000 v0 v1 (0 : Int32) (-1 : Int32) (0 : Int32) h1) fun y6 h4 => some (y6, h4))
set_option maxRecDepth 100000 in
set_option maxHeartbeats 4000000 in
theorem j_X13_plan_16 (X : SX) (d : Nat) (v0 : Nat) (v1 : Int32) (h : AH) (rr : Int32) (h' : AH) (hf : f_X13_plan_16 v0 v1 h = some (rr, h')) : G X mX13_plan (d + 6) 16 [(0, .ref v0), (1, .int v1)] [] h (some rr) h' := by
  unfold f_X13_plan_16 at hf
  refine G.aload_n dX13_plan_16 rfl ?_
  refine G.iconst (v := (1 : Int32)) dX13_plan_17 (by decide) ?_
  obtain ⟨h1, e2, hf⟩ := Option.bind_eq_some_iff.mp hf
  refine G.callVv (M' := mX13_plans) (ci := 12) (As := [.int (1 : Int32)]) (st := []) okX13_plans viX13_plans lkX13_170 rfl rfl rfl (Nat.le_of_ble_eq_true rfl) (Nat.le_of_ble_eq_true rfl) dX13_plan_18 (c_X13_plans X d _ _ _ _ e2).1 (c_X13_plans X d _ _ _ _ e2).2 ?_
  refine G.iload_n dX13_plan_21 rfl ?_
  refine G.iconst (v := (-1 : Int32)) dX13_plan_22 (by decide) ?_
  refine G.icmp_ne 33 dX13_plan_23 (by decide) (fun c3 => ?_) (fun c3 => ?_)
  · rw [if_neg c3] at hf
    refine G.iconst (v := (0 : Int32)) dX13_plan_33 (by decide) ?_
    refine G.istore_n (lv' := [(2, .int (0 : Int32)), (0, .ref v0), (1, .int v1)]) dX13_plan_34 (by decide) rfl ?_
    refine G.iconst (v := (-1 : Int32)) dX13_plan_35 (by decide) ?_
    refine G.istore_n (lv' := [(3, .int (-1 : Int32)), (2, .int (0 : Int32)), (0, .ref v0), (1, .int v1)]) dX13_plan_36 (by decide) rfl ?_
    refine G.iconst (v := (0 : Int32)) dX13_plan_37 (by decide) ?_
    refine G.istore (lv' := [(4, .int (0 : Int32)), (3, .int (-1 : Int32)), (2, .int (0 : Int32)), (0, .ref v0), (1, .int v1)]) dX13_plan_38 (by decide) rfl ?_
    obtain ⟨y6, h4, e5, hf⟩ := bT1_spec hf
    refine G.pick [3, 4, 2, 1, 0] rfl (l_X13_plan_L40 X d _ _ 1000000 v0 v1 (0 : Int32) (-1 : Int32) (0 : Int32) h1 y6 h4 e5 ?_)
    refine G.iload_n dX13_plan_170 rfl ?_
    obtain ⟨hq1, hq2⟩ := Prod.mk.inj (Option.some.inj hf)
    subst hq1
    subst hq2
    exact G.iret rfl rfl dX13_plan_171
  · rw [if_pos c3] at hf
    refine G.aload_n dX13_plan_26 rfl ?_
    refine G.getr flX13_54 dX13_plan_27 hf (fun r7 hf => ?_)
    refine G.iconst (v := (0 : Int32)) dX13_plan_30 (by decide) ?_
    refine G.iald dX13_plan_31 hf (fun x8 hf => ?_)
    obtain ⟨hq1, hq2⟩ := Prod.mk.inj (Option.some.inj hf)
    subst hq1
    subst hq2
    exact G.iret rfl rfl dX13_plan_32
def f_X13_plan (a0 : Nat) (a1 : Int32) (h : AH) : Option (Int32 × AH) := if isO h 12 a0 = true then (if a1 = (-1 : Int32) then (f_X13_plan_16 a0 a1 h) else (bT1 (f_X13_isSinger a0 a1 h) fun x4 h2 => if x4 = 0 then (some ((-1000000001 : Int32), h2)) else (f_X13_plan_16 a0 a1 h2))) else none
set_option maxRecDepth 100000 in
set_option maxHeartbeats 4000000 in
theorem c_X13_plan (X : SX) (d : Nat) (a0 : Nat) (a1 : Int32) (h : AH) (rr : Int32) (h' : AH) (hf : f_X13_plan a0 a1 h = some (rr, h')) : isO h 12 a0 = true ∧ G X mX13_plan (d + 6) 0 [(0, .ref a0), (1, .int a1)] [] h (some rr) h' := by
  unfold f_X13_plan at hf
  by_cases ho : isO h 12 a0 = true
  · rw [if_pos ho] at hf
    refine ⟨ho, ?_⟩
    refine G.iload_n dX13_plan_0 rfl ?_
    refine G.iconst (v := (-1 : Int32)) dX13_plan_1 (by decide) ?_
    refine G.icmp_eq 16 dX13_plan_2 (by decide) (fun c1 => ?_) (fun c1 => ?_)
    · rw [if_pos c1] at hf
      exact G.pick [0, 1] rfl (j_X13_plan_16 X d a0 a1 h _ _ hf)
    · rw [if_neg c1] at hf
      refine G.aload_n dX13_plan_5 rfl ?_
      refine G.iload_n dX13_plan_6 rfl ?_
      obtain ⟨x4, h2, e3, hf⟩ := bT1_spec hf
      refine G.callVi (M' := mX13_isSinger) (ci := 12) (As := [.int a1]) (st := []) okX13_isSinger viX13_isSinger lkX13_176 rfl rfl rfl (Nat.le_of_ble_eq_true rfl) (Nat.le_of_ble_eq_true rfl) dX13_plan_7 (c_X13_isSinger X (d + 5) _ _ _ _ _ e3).1 (c_X13_isSinger X (d + 5) _ _ _ _ _ e3).2 ?_
      refine G.if_ne 16 dX13_plan_10 (by decide) (fun c5 => ?_) (fun c5 => ?_)
      · rw [if_neg c5] at hf
        exact G.pick [0, 1] rfl (j_X13_plan_16 X d a0 a1 h2 _ _ hf)
      · rw [if_pos c5] at hf
        refine G.ldc ckX13_180 dX13_plan_13 ?_
        obtain ⟨hq1, hq2⟩ := Prod.mk.inj (Option.some.inj hf)
        subst hq1
        subst hq2
        exact G.iret rfl rfl dX13_plan_15
  · rw [if_neg ho] at hf
    cases hf
/-! X9_extend -/
theorem dX9_extend_0 : decode cX9_extend 0 = .ok (.iload_n 1, 1) := by decide +kernel
theorem dX9_extend_1 : decode cX9_extend 1 = .ok (.aload_n 0, 1) := by decide +kernel
theorem dX9_extend_2 : decode cX9_extend 2 = .ok (.getfield 49, 3) := by decide +kernel
theorem dX9_extend_5 : decode cX9_extend 5 = .ok (.if_icmp .le 13, 3) := by decide +kernel
theorem dX9_extend_8 : decode cX9_extend 8 = .ok (.aload_n 0, 1) := by decide +kernel
theorem dX9_extend_9 : decode cX9_extend 9 = .ok (.iload_n 1, 1) := by decide +kernel
theorem dX9_extend_10 : decode cX9_extend 10 = .ok (.putfield 49, 3) := by decide +kernel
theorem dX9_extend_13 : decode cX9_extend 13 = .ok (.aload_n 0, 1) := by decide +kernel
theorem dX9_extend_14 : decode cX9_extend 14 = .ok (.iload_n 3, 1) := by decide +kernel
theorem dX9_extend_15 : decode cX9_extend 15 = .ok (.putfield 52, 3) := by decide +kernel
theorem dX9_extend_18 : decode cX9_extend 18 = .ok (.iload_n 1, 1) := by decide +kernel
theorem dX9_extend_19 : decode cX9_extend 19 = .ok (.bipush 6, 2) := by decide +kernel
theorem dX9_extend_21 : decode cX9_extend 21 = .ok (.if_icmp .ge 8, 3) := by decide +kernel
theorem dX9_extend_24 : decode cX9_extend 24 = .ok (.iload 6, 2) := by decide +kernel
theorem dX9_extend_26 : decode cX9_extend 26 = .ok (.ifCond .gt 4, 3) := by decide +kernel
theorem dX9_extend_29 : decode cX9_extend 29 = .ok (.return_, 1) := by decide +kernel
theorem dX9_extend_30 : decode cX9_extend 30 = .ok (.iconst 0, 1) := by decide +kernel
theorem dX9_extend_31 : decode cX9_extend 31 = .ok (.istore 7, 2) := by decide +kernel
theorem dX9_extend_33 : decode cX9_extend 33 = .ok (.iload 7, 2) := by decide +kernel
theorem dX9_extend_35 : decode cX9_extend 35 = .ok (.aload_n 0, 1) := by decide +kernel
theorem dX9_extend_36 : decode cX9_extend 36 = .ok (.getfield 37, 3) := by decide +kernel
theorem dX9_extend_39 : decode cX9_extend 39 = .ok (.if_icmp .ge 112, 3) := by decide +kernel
theorem dX9_extend_42 : decode cX9_extend 42 = .ok (.iload 5, 2) := by decide +kernel
theorem dX9_extend_44 : decode cX9_extend 44 = .ok (.aload_n 0, 1) := by decide +kernel
theorem dX9_extend_45 : decode cX9_extend 45 = .ok (.getfield 9, 3) := by decide +kernel
theorem dX9_extend_48 : decode cX9_extend 48 = .ok (.iload 7, 2) := by decide +kernel
theorem dX9_extend_50 : decode cX9_extend 50 = .ok (.iaload, 1) := by decide +kernel
theorem dX9_extend_51 : decode cX9_extend 51 = .ok (.iload 4, 2) := by decide +kernel
theorem dX9_extend_53 : decode cX9_extend 53 = .ok (.isub, 1) := by decide +kernel
theorem dX9_extend_54 : decode cX9_extend 54 = .ok (.invokestatic 68, 3) := by decide +kernel
theorem dX9_extend_57 : decode cX9_extend 57 = .ok (.isub, 1) := by decide +kernel
theorem dX9_extend_58 : decode cX9_extend 58 = .ok (.aload_n 0, 1) := by decide +kernel
theorem dX9_extend_59 : decode cX9_extend 59 = .ok (.getfield 15, 3) := by decide +kernel
theorem dX9_extend_62 : decode cX9_extend 62 = .ok (.iload 7, 2) := by decide +kernel
theorem dX9_extend_64 : decode cX9_extend 64 = .ok (.iaload, 1) := by decide +kernel
theorem dX9_extend_65 : decode cX9_extend 65 = .ok (.isub, 1) := by decide +kernel
theorem dX9_extend_66 : decode cX9_extend 66 = .ok (.istore 8, 2) := by decide +kernel
theorem dX9_extend_68 : decode cX9_extend 68 = .ok (.aload_n 0, 1) := by decide +kernel
theorem dX9_extend_69 : decode cX9_extend 69 = .ok (.getfield 15, 3) := by decide +kernel
theorem dX9_extend_72 : decode cX9_extend 72 = .ok (.iload 7, 2) := by decide +kernel
theorem dX9_extend_74 : decode cX9_extend 74 = .ok (.iaload, 1) := by decide +kernel
theorem dX9_extend_75 : decode cX9_extend 75 = .ok (.ifCond .le 16, 3) := by decide +kernel
theorem dX9_extend_78 : decode cX9_extend 78 = .ok (.iload_n 2, 1) := by decide +kernel
theorem dX9_extend_79 : decode cX9_extend 79 = .ok (.iload 7, 2) := by decide +kernel
theorem dX9_extend_81 : decode cX9_extend 81 = .ok (.ishr, 1) := by decide +kernel
theorem dX9_extend_82 : decode cX9_extend 82 = .ok (.iconst 1, 1) := by decide +kernel
theorem dX9_extend_83 : decode cX9_extend 83 = .ok (.iand, 1) := by decide +kernel
theorem dX9_extend_84 : decode cX9_extend 84 = .ok (.ifCond .ne 7, 3) := by decide +kernel
theorem dX9_extend_87 : decode cX9_extend 87 = .ok (.iconst 1, 1) := by decide +kernel
theorem dX9_extend_88 : decode cX9_extend 88 = .ok (.goto 4, 3) := by decide +kernel
theorem dX9_extend_91 : decode cX9_extend 91 = .ok (.iconst 0, 1) := by decide +kernel
theorem dX9_extend_92 : decode cX9_extend 92 = .ok (.istore 9, 2) := by decide +kernel
theorem dX9_extend_94 : decode cX9_extend 94 = .ok (.iload 9, 2) := by decide +kernel
theorem dX9_extend_96 : decode cX9_extend 96 = .ok (.ifCond .eq 49, 3) := by decide +kernel
theorem dX9_extend_99 : decode cX9_extend 99 = .ok (.iload 8, 2) := by decide +kernel
theorem dX9_extend_101 : decode cX9_extend 101 = .ok (.ifCond .lt 44, 3) := by decide +kernel
theorem dX9_extend_104 : decode cX9_extend 104 = .ok (.aload_n 0, 1) := by decide +kernel
theorem dX9_extend_105 : decode cX9_extend 105 = .ok (.iload_n 1, 1) := by decide +kernel
theorem dX9_extend_106 : decode cX9_extend 106 = .ok (.iconst 1, 1) := by decide +kernel
theorem dX9_extend_107 : decode cX9_extend 107 = .ok (.iadd, 1) := by decide +kernel
theorem dX9_extend_108 : decode cX9_extend 108 = .ok (.iload_n 2, 1) := by decide +kernel
theorem dX9_extend_109 : decode cX9_extend 109 = .ok (.iconst 1, 1) := by decide +kernel
theorem dX9_extend_110 : decode cX9_extend 110 = .ok (.iload 7, 2) := by decide +kernel
theorem dX9_extend_112 : decode cX9_extend 112 = .ok (.ishl, 1) := by decide +kernel
theorem dX9_extend_113 : decode cX9_extend 113 = .ok (.ior, 1) := by decide +kernel
theorem dX9_extend_114 : decode cX9_extend 114 = .ok (.iload_n 3, 1) := by decide +kernel
theorem dX9_extend_115 : decode cX9_extend 115 = .ok (.bipush 10, 2) := by decide +kernel
theorem dX9_extend_117 : decode cX9_extend 117 = .ok (.imul, 1) := by decide +kernel
theorem dX9_extend_118 : decode cX9_extend 118 = .ok (.iload 7, 2) := by decide +kernel
theorem dX9_extend_120 : decode cX9_extend 120 = .ok (.iadd, 1) := by decide +kernel
theorem dX9_extend_121 : decode cX9_extend 121 = .ok (.iconst 1, 1) := by decide +kernel
theorem dX9_extend_122 : decode cX9_extend 122 = .ok (.iadd, 1) := by decide +kernel
theorem dX9_extend_123 : decode cX9_extend 123 = .ok (.aload_n 0, 1) := by decide +kernel
theorem dX9_extend_124 : decode cX9_extend 124 = .ok (.getfield 9, 3) := by decide +kernel
theorem dX9_extend_127 : decode cX9_extend 127 = .ok (.iload 7, 2) := by decide +kernel
theorem dX9_extend_129 : decode cX9_extend 129 = .ok (.iaload, 1) := by decide +kernel
theorem dX9_extend_130 : decode cX9_extend 130 = .ok (.iload 8, 2) := by decide +kernel
theorem dX9_extend_132 : decode cX9_extend 132 = .ok (.iload 6, 2) := by decide +kernel
theorem dX9_extend_134 : decode cX9_extend 134 = .ok (.aload_n 0, 1) := by decide +kernel
theorem dX9_extend_135 : decode cX9_extend 135 = .ok (.getfield 18, 3) := by decide +kernel
theorem dX9_extend_138 : decode cX9_extend 138 = .ok (.iload 7, 2) := by decide +kernel
theorem dX9_extend_140 : decode cX9_extend 140 = .ok (.iaload, 1) := by decide +kernel
theorem dX9_extend_141 : decode cX9_extend 141 = .ok (.isub, 1) := by decide +kernel
theorem dX9_extend_142 : decode cX9_extend 142 = .ok (.invokevirtual 64, 3) := by decide +kernel
theorem dX9_extend_145 : decode cX9_extend 145 = .ok (.iinc 7 1, 3) := by decide +kernel
theorem dX9_extend_148 : decode cX9_extend 148 = .ok (.goto (-115), 3) := by decide +kernel
theorem dX9_extend_151 : decode cX9_extend 151 = .ok (.return_, 1) := by decide +kernel
def f_X9_extend_92 (sf : Nat → Int32 → Int32 → Int32 → Int32 → Int32 → Int32 → AH → Option AH) (rec : Nat → Int32 → Int32 → Int32 → Int32 → Int32 → Int32 → Int32 → AH → Option (AH)) (v0 : Nat) (v1 : Int32) (v2 : Int32) (v3 : Int32) (v4 : Int32) (v5 : Int32) (v6 : Int32) (v7 : Int32) (v8 : Int32) (s0 : Int32) (h : AH) : Option (AH) := if s0 = 0 then (rec v0 v1 v2 v3 v4 v5 v6 (v7 + 1) h) else (if v8 < 0 then (rec v0 v1 v2 v3 v4 v5 v6 (v7 + 1) h) else ((gr h 8 v0 0).bind fun r3 => (ai h 0 r3 v7).bind fun x4 => (gr h 8 v0 2).bind fun r5 => (ai h 0 r5 v7).bind fun x6 => (sf v0 (v1 + (1 : Int32)) (v2 ||| ((1 : Int32) <<< (v7 &&& 31))) (((v3 * (10 : Int32)) + v7) + (1 : Int32)) x4 v8 (v6 - x6) h).bind fun h7 => rec v0 v1 v2 v3 v4 v5 v6 (v7 + 1) h7))
set_option maxRecDepth 100000 in
set_option maxHeartbeats 4000000 in
theorem j_X9_extend_92 (X : SX) (d : Nat) (sf : Nat → Int32 → Int32 → Int32 → Int32 → Int32 → Int32 → AH → Option AH) (hsf : ∀ (a0 : Nat) (a1 : Int32) (a2 : Int32) (a3 : Int32) (a4 : Int32) (a5 : Int32) (a6 : Int32) (h h1 : AH), sf a0 a1 a2 a3 a4 a5 a6 h = some h1 → isO h 8 a0 = true ∧ G X mX9_extend d 0 [(0, .ref a0), (1, .int a1), (2, .int a2), (3, .int a3), (4, .int a4), (5, .int a5), (6, .int a6)] [] h none h1) (rec : Nat → Int32 → Int32 → Int32 → Int32 → Int32 → Int32 → Int32 → AH → Option (AH)) (hrecf : ∀ (rv : Option Int32) (h' : AH), ∀ (v0 : Nat) (v1 : Int32) (v2 : Int32) (v3 : Int32) (v4 : Int32) (v5 : Int32) (v6 : Int32) (v7 : Int32) (h : AH)  (h1 : AH), rec v0 v1 v2 v3 v4 v5 v6 v7 h = some (h1) → G X mX9_extend (d + 1) 151 [] [] h1 rv h' → G X mX9_extend (d + 1) 33 [(0, .ref v0), (1, .int v1), (2, .int v2), (3, .int v3), (4, .int v4), (5, .int v5), (6, .int v6), (7, .int v7)] [] h rv h') (v0 : Nat) (v1 : Int32) (v2 : Int32) (v3 : Int32) (v4 : Int32) (v5 : Int32) (v6 : Int32) (v7 : Int32) (v8 : Int32) (s0 : Int32) (h : AH)  (h1 : AH) (hf : f_X9_extend_92 sf rec v0 v1 v2 v3 v4 v5 v6 v7 v8 s0 h = some (h1)) (rv : Option Int32) (h' : AH) (hE : G X mX9_extend (d + 1) 151 [] [] h1 rv h') : G X mX9_extend (d + 1) 92 [(0, .ref v0), (1, .int v1), (2, .int v2), (3, .int v3), (4, .int v4), (5, .int v5), (6, .int v6), (7, .int v7), (8, .int v8)] [.int s0] h rv h' := by
  unfold f_X9_extend_92 at hf
  have hrec := hrecf rv h'
  refine G.istore (lv' := [(9, .int s0), (0, .ref v0), (1, .int v1), (2, .int v2), (3, .int v3), (4, .int v4), (5, .int v5), (6, .int v6), (7, .int v7), (8, .int v8)]) dX9_extend_92 (by decide) rfl ?_
  refine G.iload dX9_extend_94 rfl ?_
  refine G.if_eq 145 dX9_extend_96 (by decide) (fun c1 => ?_) (fun c1 => ?_)
  · rw [if_pos c1] at hf
    refine G.iinc (v := (v7 + 1)) (lv' := [(7, .int (v7 + 1)), (9, .int s0), (0, .ref v0), (1, .int v1), (2, .int v2), (3, .int v3), (4, .int v4), (5, .int v5), (6, .int v6), (8, .int v8)]) dX9_extend_145 rfl rfl (by decide) rfl ?_
    refine G.goto 33 dX9_extend_148 (by decide) ?_
    exact G.pick [2, 3, 4, 5, 6, 7, 8, 0] rfl (hrec v0 v1 v2 v3 v4 v5 v6 (v7 + 1) h _ hf hE)
  · rw [if_neg c1] at hf
    refine G.iload dX9_extend_99 rfl ?_
    refine G.if_lt 145 dX9_extend_101 (by decide) (fun c2 => ?_) (fun c2 => ?_)
    · rw [if_pos c2] at hf
      refine G.iinc (v := (v7 + 1)) (lv' := [(7, .int (v7 + 1)), (9, .int s0), (0, .ref v0), (1, .int v1), (2, .int v2), (3, .int v3), (4, .int v4), (5, .int v5), (6, .int v6), (8, .int v8)]) dX9_extend_145 rfl rfl (by decide) rfl ?_
      refine G.goto 33 dX9_extend_148 (by decide) ?_
      exact G.pick [2, 3, 4, 5, 6, 7, 8, 0] rfl (hrec v0 v1 v2 v3 v4 v5 v6 (v7 + 1) h _ hf hE)
    · rw [if_neg c2] at hf
      refine G.aload_n dX9_extend_104 rfl ?_
      refine G.iload_n dX9_extend_105 rfl ?_
      refine G.iconst (v := (1 : Int32)) dX9_extend_106 (by decide) ?_
      refine G.iadd dX9_extend_107 ?_
      refine G.iload_n dX9_extend_108 rfl ?_
      refine G.iconst (v := (1 : Int32)) dX9_extend_109 (by decide) ?_
      refine G.iload dX9_extend_110 rfl ?_
      refine G.ishl dX9_extend_112 ?_
      refine G.ior dX9_extend_113 ?_
      refine G.iload_n dX9_extend_114 rfl ?_
      refine G.bipush (v := (10 : Int32)) dX9_extend_115 (by decide) ?_
      refine G.imul dX9_extend_117 ?_
      refine G.iload dX9_extend_118 rfl ?_
      refine G.iadd dX9_extend_120 ?_
      refine G.iconst (v := (1 : Int32)) dX9_extend_121 (by decide) ?_
      refine G.iadd dX9_extend_122 ?_
      refine G.aload_n dX9_extend_123 rfl ?_
      refine G.getr flX9_9 dX9_extend_124 hf (fun r3 hf => ?_)
      refine G.iload dX9_extend_127 rfl ?_
      refine G.iald dX9_extend_129 hf (fun x4 hf => ?_)
      refine G.iload dX9_extend_130 rfl ?_
      refine G.iload dX9_extend_132 rfl ?_
      refine G.aload_n dX9_extend_134 rfl ?_
      refine G.getr flX9_18 dX9_extend_135 hf (fun r5 hf => ?_)
      refine G.iload dX9_extend_138 rfl ?_
      refine G.iald dX9_extend_140 hf (fun x6 hf => ?_)
      refine G.isub dX9_extend_141 ?_
      obtain ⟨h7, e8, hf⟩ := Option.bind_eq_some_iff.mp hf
      refine G.callVv (M' := mX9_extend) (ci := 8) (As := [.int (v1 + (1 : Int32)), .int (v2 ||| ((1 : Int32) <<< (v7 &&& 31))), .int (((v3 * (10 : Int32)) + v7) + (1 : Int32)), .int x4, .int v8, .int (v6 - x6)]) (st := []) okX9_extend viX9_extend lkX9_64 rfl rfl rfl (Nat.le_of_ble_eq_true rfl) (Nat.le_of_ble_eq_true rfl) dX9_extend_142 (hsf _ _ _ _ _ _ _ _ _ e8).1 (hsf _ _ _ _ _ _ _ _ _ e8).2 ?_
      refine G.iinc (v := (v7 + 1)) (lv' := [(7, .int (v7 + 1)), (9, .int s0), (0, .ref v0), (1, .int v1), (2, .int v2), (3, .int v3), (4, .int v4), (5, .int v5), (6, .int v6), (8, .int v8)]) dX9_extend_145 rfl rfl (by decide) rfl ?_
      refine G.goto 33 dX9_extend_148 (by decide) ?_
      exact G.pick [2, 3, 4, 5, 6, 7, 8, 0] rfl (hrec v0 v1 v2 v3 v4 v5 v6 (v7 + 1) h7 _ hf hE)
def f_X9_extend_91 (sf : Nat → Int32 → Int32 → Int32 → Int32 → Int32 → Int32 → AH → Option AH) (rec : Nat → Int32 → Int32 → Int32 → Int32 → Int32 → Int32 → Int32 → AH → Option (AH)) (v0 : Nat) (v1 : Int32) (v2 : Int32) (v3 : Int32) (v4 : Int32) (v5 : Int32) (v6 : Int32) (v7 : Int32) (v8 : Int32) (h : AH) : Option (AH) := f_X9_extend_92 sf rec v0 v1 v2 v3 v4 v5 v6 v7 v8 (0 : Int32) h
set_option maxRecDepth 100000 in
set_option maxHeartbeats 4000000 in
theorem j_X9_extend_91 (X : SX) (d : Nat) (sf : Nat → Int32 → Int32 → Int32 → Int32 → Int32 → Int32 → AH → Option AH) (hsf : ∀ (a0 : Nat) (a1 : Int32) (a2 : Int32) (a3 : Int32) (a4 : Int32) (a5 : Int32) (a6 : Int32) (h h1 : AH), sf a0 a1 a2 a3 a4 a5 a6 h = some h1 → isO h 8 a0 = true ∧ G X mX9_extend d 0 [(0, .ref a0), (1, .int a1), (2, .int a2), (3, .int a3), (4, .int a4), (5, .int a5), (6, .int a6)] [] h none h1) (rec : Nat → Int32 → Int32 → Int32 → Int32 → Int32 → Int32 → Int32 → AH → Option (AH)) (hrecf : ∀ (rv : Option Int32) (h' : AH), ∀ (v0 : Nat) (v1 : Int32) (v2 : Int32) (v3 : Int32) (v4 : Int32) (v5 : Int32) (v6 : Int32) (v7 : Int32) (h : AH)  (h1 : AH), rec v0 v1 v2 v3 v4 v5 v6 v7 h = some (h1) → G X mX9_extend (d + 1) 151 [] [] h1 rv h' → G X mX9_extend (d + 1) 33 [(0, .ref v0), (1, .int v1), (2, .int v2), (3, .int v3), (4, .int v4), (5, .int v5), (6, .int v6), (7, .int v7)] [] h rv h') (v0 : Nat) (v1 : Int32) (v2 : Int32) (v3 : Int32) (v4 : Int32) (v5 : Int32) (v6 : Int32) (v7 : Int32) (v8 : Int32) (h : AH)  (h1 : AH) (hf : f_X9_extend_91 sf rec v0 v1 v2 v3 v4 v5 v6 v7 v8 h = some (h1)) (rv : Option Int32) (h' : AH) (hE : G X mX9_extend (d + 1) 151 [] [] h1 rv h') : G X mX9_extend (d + 1) 91 [(0, .ref v0), (1, .int v1), (2, .int v2), (3, .int v3), (4, .int v4), (5, .int v5), (6, .int v6), (7, .int v7), (8, .int v8)] [] h rv h' := by
  unfold f_X9_extend_91 at hf
  have hrec := hrecf rv h'
  refine G.iconst (v := (0 : Int32)) dX9_extend_91 (by decide) ?_
  exact G.pick [0, 1, 2, 3, 4, 5, 6, 7, 8] rfl (j_X9_extend_92 X d sf hsf _ hrecf v0 v1 v2 v3 v4 v5 v6 v7 v8 (0 : Int32) h _ hf _ _ hE)
def F_X9_extend_L33 (sf : Nat → Int32 → Int32 → Int32 → Int32 → Int32 → Int32 → AH → Option AH) (rec : Nat → Int32 → Int32 → Int32 → Int32 → Int32 → Int32 → Int32 → AH → Option (AH)) (v0 : Nat) (v1 : Int32) (v2 : Int32) (v3 : Int32) (v4 : Int32) (v5 : Int32) (v6 : Int32) (v7 : Int32) (h : AH) : Option (AH) := (gi h 8 v0 3).bind fun x1 => if x1 ≤ v7 then (some (h)) else ((gr h 8 v0 0).bind fun r3 => (ai h 0 r3 v7).bind fun x4 => (gr h 8 v0 1).bind fun r5 => (ai h 0 r5 v7).bind fun x6 => (gr h 8 v0 1).bind fun r7 => (ai h 0 r7 v7).bind fun x8 => if x8 ≤ 0 then (f_X9_extend_91 sf rec v0 v1 v2 v3 v4 v5 v6 v7 ((v5 - (if 0 ≤ (x4 - v4) then (x4 - v4) else 0 - (x4 - v4))) - x6) h) else (if ((v2 >>> (v7 &&& 31)) &&& (1 : Int32)) = 0 then (f_X9_extend_92 sf rec v0 v1 v2 v3 v4 v5 v6 v7 ((v5 - (if 0 ≤ (x4 - v4) then (x4 - v4) else 0 - (x4 - v4))) - x6) (1 : Int32) h) else (f_X9_extend_91 sf rec v0 v1 v2 v3 v4 v5 v6 v7 ((v5 - (if 0 ≤ (x4 - v4) then (x4 - v4) else 0 - (x4 - v4))) - x6) h)))
def f_X9_extend_L33 (sf : Nat → Int32 → Int32 → Int32 → Int32 → Int32 → Int32 → AH → Option AH) : Nat → Nat → Int32 → Int32 → Int32 → Int32 → Int32 → Int32 → Int32 → AH → Option (AH)
  | 0 => fun _ _ _ _ _ _ _ _ _ => none
  | n + 1 => F_X9_extend_L33 sf (f_X9_extend_L33 sf n)
set_option maxRecDepth 100000 in
set_option maxHeartbeats 4000000 in
theorem lx_X9_extend_L33 (X : SX) (d : Nat) (sf : Nat → Int32 → Int32 → Int32 → Int32 → Int32 → Int32 → AH → Option AH) (hsf : ∀ (a0 : Nat) (a1 : Int32) (a2 : Int32) (a3 : Int32) (a4 : Int32) (a5 : Int32) (a6 : Int32) (h h1 : AH), sf a0 a1 a2 a3 a4 a5 a6 h = some h1 → isO h 8 a0 = true ∧ G X mX9_extend d 0 [(0, .ref a0), (1, .int a1), (2, .int a2), (3, .int a3), (4, .int a4), (5, .int a5), (6, .int a6)] [] h none h1) : ∀ n (rv : Option Int32) (h' : AH), ∀ (v0 : Nat) (v1 : Int32) (v2 : Int32) (v3 : Int32) (v4 : Int32) (v5 : Int32) (v6 : Int32) (v7 : Int32) (h : AH)  (h1 : AH), f_X9_extend_L33 sf n v0 v1 v2 v3 v4 v5 v6 v7 h = some (h1) → G X mX9_extend (d + 1) 151 [] [] h1 rv h' → G X mX9_extend (d + 1) 33 [(0, .ref v0), (1, .int v1), (2, .int v2), (3, .int v3), (4, .int v4), (5, .int v5), (6, .int v6), (7, .int v7)] [] h rv h' := by
  intro n
  induction n with
  | zero =>
    intro rv h' v0 v1 v2 v3 v4 v5 v6 v7 h h1 hf hE
    cases hf
  | succ n ihf =>
    intro rv h' v0 v1 v2 v3 v4 v5 v6 v7 h h1 hf hE
    replace hf : F_X9_extend_L33 sf (f_X9_extend_L33 sf n) v0 v1 v2 v3 v4 v5 v6 v7 h = some (h1) := hf
    unfold F_X9_extend_L33 at hf
    have ih := ihf rv h'
    refine G.iload dX9_extend_33 rfl ?_
    refine G.aload_n dX9_extend_35 rfl ?_
    refine G.geti flX9_37 dX9_extend_36 hf (fun x1 hf => ?_)
    refine G.icmp_ge 151 dX9_extend_39 (by decide) (fun c2 => ?_) (fun c2 => ?_)
    · rw [if_pos c2] at hf
      have w0 := Option.some.inj hf
      subst w0
      exact G.pick [] rfl hE
    · rw [if_neg c2] at hf
      refine G.iload dX9_extend_42 rfl ?_
      refine G.aload_n dX9_extend_44 rfl ?_
      refine G.getr flX9_9 dX9_extend_45 hf (fun r3 hf => ?_)
      refine G.iload dX9_extend_48 rfl ?_
      refine G.iald dX9_extend_50 hf (fun x4 hf => ?_)
      refine G.iload dX9_extend_51 rfl ?_
      refine G.isub dX9_extend_53 ?_
      refine G.abs lkX9_68 (Nat.le_of_ble_eq_true rfl) dX9_extend_54 ?_
      refine G.isub dX9_extend_57 ?_
      refine G.aload_n dX9_extend_58 rfl ?_
      refine G.getr flX9_15 dX9_extend_59 hf (fun r5 hf => ?_)
      refine G.iload dX9_extend_62 rfl ?_
      refine G.iald dX9_extend_64 hf (fun x6 hf => ?_)
      refine G.isub dX9_extend_65 ?_
      refine G.istore (lv' := [(8, .int ((v5 - (if 0 ≤ (x4 - v4) then (x4 - v4) else 0 - (x4 - v4))) - x6)), (0, .ref v0), (1, .int v1), (2, .int v2), (3, .int v3), (4, .int v4), (5, .int v5), (6, .int v6), (7, .int v7)]) dX9_extend_66 (by decide) rfl ?_
      refine G.aload_n dX9_extend_68 rfl ?_
      refine G.getr flX9_15 dX9_extend_69 hf (fun r7 hf => ?_)
      refine G.iload dX9_extend_72 rfl ?_
      refine G.iald dX9_extend_74 hf (fun x8 hf => ?_)
      refine G.if_le 91 dX9_extend_75 (by decide) (fun c9 => ?_) (fun c9 => ?_)
      · rw [if_pos c9] at hf
        exact G.pick [1, 2, 3, 4, 5, 6, 7, 8, 0] rfl (j_X9_extend_91 X d sf hsf _ ihf v0 v1 v2 v3 v4 v5 v6 v7 ((v5 - (if 0 ≤ (x4 - v4) then (x4 - v4) else 0 - (x4 - v4))) - x6) h _ hf _ _ hE)
      · rw [if_neg c9] at hf
        refine G.iload_n dX9_extend_78 rfl ?_
        refine G.iload dX9_extend_79 rfl ?_
        refine G.ishr dX9_extend_81 ?_
        refine G.iconst (v := (1 : Int32)) dX9_extend_82 (by decide) ?_
        refine G.iand dX9_extend_83 ?_
        refine G.if_ne 91 dX9_extend_84 (by decide) (fun c10 => ?_) (fun c10 => ?_)
        · rw [if_neg c10] at hf
          exact G.pick [1, 2, 3, 4, 5, 6, 7, 8, 0] rfl (j_X9_extend_91 X d sf hsf _ ihf v0 v1 v2 v3 v4 v5 v6 v7 ((v5 - (if 0 ≤ (x4 - v4) then (x4 - v4) else 0 - (x4 - v4))) - x6) h _ hf _ _ hE)
        · rw [if_pos c10] at hf
          refine G.iconst (v := (1 : Int32)) dX9_extend_87 (by decide) ?_
          refine G.goto 92 dX9_extend_88 (by decide) ?_
          exact G.pick [1, 2, 3, 4, 5, 6, 7, 8, 0] rfl (j_X9_extend_92 X d sf hsf _ ihf v0 v1 v2 v3 v4 v5 v6 v7 ((v5 - (if 0 ≤ (x4 - v4) then (x4 - v4) else 0 - (x4 - v4))) - x6) (1 : Int32) h _ hf _ _ hE)
theorem l_X9_extend_L33 (X : SX) (d : Nat) (sf : Nat → Int32 → Int32 → Int32 → Int32 → Int32 → Int32 → AH → Option AH) (hsf : ∀ (a0 : Nat) (a1 : Int32) (a2 : Int32) (a3 : Int32) (a4 : Int32) (a5 : Int32) (a6 : Int32) (h h1 : AH), sf a0 a1 a2 a3 a4 a5 a6 h = some h1 → isO h 8 a0 = true ∧ G X mX9_extend d 0 [(0, .ref a0), (1, .int a1), (2, .int a2), (3, .int a3), (4, .int a4), (5, .int a5), (6, .int a6)] [] h none h1) (rv : Option Int32) (h' : AH) (n : Nat) : ∀ (v0 : Nat) (v1 : Int32) (v2 : Int32) (v3 : Int32) (v4 : Int32) (v5 : Int32) (v6 : Int32) (v7 : Int32) (h : AH)  (h1 : AH), f_X9_extend_L33 sf n v0 v1 v2 v3 v4 v5 v6 v7 h = some (h1) → G X mX9_extend (d + 1) 151 [] [] h1 rv h' → G X mX9_extend (d + 1) 33 [(0, .ref v0), (1, .int v1), (2, .int v2), (3, .int v3), (4, .int v4), (5, .int v5), (6, .int v6), (7, .int v7)] [] h rv h' := lx_X9_extend_L33 X d sf hsf n rv h'
def f_X9_extend_18 (sf : Nat → Int32 → Int32 → Int32 → Int32 → Int32 → Int32 → AH → Option AH) (v0 : Nat) (v1 : Int32) (v2 : Int32) (v3 : Int32) (v4 : Int32) (v5 : Int32) (v6 : Int32) (h : AH) : Option (AH) := if (6 : Int32) ≤ v1 then (some h) else (if 0 < v6 then ((f_X9_extend_L33 sf 1000000 v0 v1 v2 v3 v4 v5 v6 (0 : Int32) h).bind fun h3 => some h3) else (some h))
set_option maxRecDepth 100000 in
set_option maxHeartbeats 4000000 in
theorem j_X9_extend_18 (X : SX) (d : Nat) (sf : Nat → Int32 → Int32 → Int32 → Int32 → Int32 → Int32 → AH → Option AH) (hsf : ∀ (a0 : Nat) (a1 : Int32) (a2 : Int32) (a3 : Int32) (a4 : Int32) (a5 : Int32) (a6 : Int32) (h h1 : AH), sf a0 a1 a2 a3 a4 a5 a6 h = some h1 → isO h 8 a0 = true ∧ G X mX9_extend d 0 [(0, .ref a0), (1, .int a1), (2, .int a2), (3, .int a3), (4, .int a4), (5, .int a5), (6, .int a6)] [] h none h1) (v0 : Nat) (v1 : Int32) (v2 : Int32) (v3 : Int32) (v4 : Int32) (v5 : Int32) (v6 : Int32) (h : AH) (h' : AH) (hf : f_X9_extend_18 sf v0 v1 v2 v3 v4 v5 v6 h = some h') : G X mX9_extend (d + 1) 18 [(0, .ref v0), (1, .int v1), (2, .int v2), (3, .int v3), (4, .int v4), (5, .int v5), (6, .int v6)] [] h none h' := by
  unfold f_X9_extend_18 at hf
  refine G.iload_n dX9_extend_18 rfl ?_
  refine G.bipush (v := (6 : Int32)) dX9_extend_19 (by decide) ?_
  refine G.icmp_ge 29 dX9_extend_21 (by decide) (fun c1 => ?_) (fun c1 => ?_)
  · rw [if_pos c1] at hf
    have hq := Option.some.inj hf
    subst hq
    exact G.vret rfl dX9_extend_29
  · rw [if_neg c1] at hf
    refine G.iload dX9_extend_24 rfl ?_
    refine G.if_gt 30 dX9_extend_26 (by decide) (fun c2 => ?_) (fun c2 => ?_)
    · rw [if_pos c2] at hf
      refine G.iconst (v := (0 : Int32)) dX9_extend_30 (by decide) ?_
      refine G.istore (lv' := [(7, .int (0 : Int32)), (0, .ref v0), (1, .int v1), (2, .int v2), (3, .int v3), (4, .int v4), (5, .int v5), (6, .int v6)]) dX9_extend_31 (by decide) rfl ?_
      obtain ⟨h3, e4, hf⟩ := Option.bind_eq_some_iff.mp hf
      refine G.pick [1, 2, 3, 4, 5, 6, 7, 0] rfl (l_X9_extend_L33 X d sf hsf _ _ 1000000 v0 v1 v2 v3 v4 v5 v6 (0 : Int32) h h3 e4 ?_)
      have hq := Option.some.inj hf
      subst hq
      exact G.vret rfl dX9_extend_151
    · rw [if_neg c2] at hf
      have hq := Option.some.inj hf
      subst hq
      exact G.vret rfl dX9_extend_29
def F_X9_extend (sf : Nat → Int32 → Int32 → Int32 → Int32 → Int32 → Int32 → AH → Option AH) (a0 : Nat) (a1 : Int32) (a2 : Int32) (a3 : Int32) (a4 : Int32) (a5 : Int32) (a6 : Int32) (h : AH) : Option (AH) := if isO h 8 a0 = true then ((gi h 8 a0 4).bind fun x1 => if a1 ≤ x1 then (f_X9_extend_18 sf a0 a1 a2 a3 a4 a5 a6 h) else ((pf h 8 a0 4 (.int a1)).bind fun h3 => (pf h3 8 a0 5 (.int a3)).bind fun h4 => f_X9_extend_18 sf a0 a1 a2 a3 a4 a5 a6 h4)) else none
set_option maxRecDepth 100000 in
set_option maxHeartbeats 4000000 in
theorem cF_X9_extend (X : SX) (d : Nat) (sf : Nat → Int32 → Int32 → Int32 → Int32 → Int32 → Int32 → AH → Option AH) (hsf : ∀ (a0 : Nat) (a1 : Int32) (a2 : Int32) (a3 : Int32) (a4 : Int32) (a5 : Int32) (a6 : Int32) (h h1 : AH), sf a0 a1 a2 a3 a4 a5 a6 h = some h1 → isO h 8 a0 = true ∧ G X mX9_extend d 0 [(0, .ref a0), (1, .int a1), (2, .int a2), (3, .int a3), (4, .int a4), (5, .int a5), (6, .int a6)] [] h none h1) (a0 : Nat) (a1 : Int32) (a2 : Int32) (a3 : Int32) (a4 : Int32) (a5 : Int32) (a6 : Int32) (h : AH) (h' : AH) (hf : F_X9_extend sf a0 a1 a2 a3 a4 a5 a6 h = some h') : isO h 8 a0 = true ∧ G X mX9_extend (d + 1) 0 [(0, .ref a0), (1, .int a1), (2, .int a2), (3, .int a3), (4, .int a4), (5, .int a5), (6, .int a6)] [] h none h' := by
  unfold F_X9_extend at hf
  by_cases ho : isO h 8 a0 = true
  · rw [if_pos ho] at hf
    refine ⟨ho, ?_⟩
    refine G.iload_n dX9_extend_0 rfl ?_
    refine G.aload_n dX9_extend_1 rfl ?_
    refine G.geti flX9_49 dX9_extend_2 hf (fun x1 hf => ?_)
    refine G.icmp_le 18 dX9_extend_5 (by decide) (fun c2 => ?_) (fun c2 => ?_)
    · rw [if_pos c2] at hf
      exact G.pick [0, 1, 2, 3, 4, 5, 6] rfl (j_X9_extend_18 X d sf hsf a0 a1 a2 a3 a4 a5 a6 h _ hf)
    · rw [if_neg c2] at hf
      refine G.aload_n dX9_extend_8 rfl ?_
      refine G.iload_n dX9_extend_9 rfl ?_
      refine G.put flX9_49 (Or.inl rfl) (fun _ _ => ⟨rfl, rfl⟩) dX9_extend_10 hf (fun h3 hf => ?_)
      refine G.aload_n dX9_extend_13 rfl ?_
      refine G.iload_n dX9_extend_14 rfl ?_
      refine G.put flX9_52 (Or.inl rfl) (fun _ _ => ⟨rfl, rfl⟩) dX9_extend_15 hf (fun h4 hf => ?_)
      exact G.pick [0, 1, 2, 3, 4, 5, 6] rfl (j_X9_extend_18 X d sf hsf a0 a1 a2 a3 a4 a5 a6 h4 _ hf)
  · rw [if_neg ho] at hf
    cases hf
def f_X9_extend : Nat → Nat → Int32 → Int32 → Int32 → Int32 → Int32 → Int32 → AH → Option (AH)
  | 0 => fun _ _ _ _ _ _ _ _ => none
  | n + 1 => F_X9_extend (f_X9_extend n)
theorem c_X9_extend (X : SX) : ∀ (n d : Nat) (a0 : Nat) (a1 : Int32) (a2 : Int32) (a3 : Int32) (a4 : Int32) (a5 : Int32) (a6 : Int32) (h h' : AH), f_X9_extend n a0 a1 a2 a3 a4 a5 a6 h = some h' → isO h 8 a0 = true ∧ G X mX9_extend (d + n) 0 [(0, .ref a0), (1, .int a1), (2, .int a2), (3, .int a3), (4, .int a4), (5, .int a5), (6, .int a6)] [] h none h'
  | 0, _, _, _, _, _, _, _, _, _, _, hf => by cases hf
  | n + 1, d, a0, a1, a2, a3, a4, a5, a6, h, h', hf => cF_X9_extend X (d + n) (f_X9_extend n) (fun a0 a1 a2 a3 a4 a5 a6 h h1 e => c_X9_extend X n d a0 a1 a2 a3 a4 a5 a6 h h1 e) a0 a1 a2 a3 a4 a5 a6 h h' hf
/-! X9_search -/
theorem dX9_search_0 : decode cX9_search 0 = .ok (.aload_n 1, 1) := by decide +kernel
theorem dX9_search_1 : decode cX9_search 1 = .ok (.getfield 21, 3) := by decide +kernel
theorem dX9_search_4 : decode cX9_search 4 = .ok (.astore_n 3, 1) := by decide +kernel
theorem dX9_search_5 : decode cX9_search 5 = .ok (.aload_n 0, 1) := by decide +kernel
theorem dX9_search_6 : decode cX9_search 6 = .ok (.aload_n 1, 1) := by decide +kernel
theorem dX9_search_7 : decode cX9_search 7 = .ok (.getfield 27, 3) := by decide +kernel
theorem dX9_search_10 : decode cX9_search 10 = .ok (.getfield 31, 3) := by decide +kernel
theorem dX9_search_13 : decode cX9_search 13 = .ok (.putfield 37, 3) := by decide +kernel
theorem dX9_search_16 : decode cX9_search 16 = .ok (.iconst 0, 1) := by decide +kernel
theorem dX9_search_17 : decode cX9_search 17 = .ok (.istore 4, 2) := by decide +kernel
theorem dX9_search_19 : decode cX9_search 19 = .ok (.iload 4, 2) := by decide +kernel
theorem dX9_search_21 : decode cX9_search 21 = .ok (.aload_n 0, 1) := by decide +kernel
theorem dX9_search_22 : decode cX9_search 22 = .ok (.getfield 37, 3) := by decide +kernel
theorem dX9_search_25 : decode cX9_search 25 = .ok (.if_icmp .ge 58, 3) := by decide +kernel
theorem dX9_search_28 : decode cX9_search 28 = .ok (.aload_n 0, 1) := by decide +kernel
theorem dX9_search_29 : decode cX9_search 29 = .ok (.getfield 9, 3) := by decide +kernel
theorem dX9_search_32 : decode cX9_search 32 = .ok (.iload 4, 2) := by decide +kernel
theorem dX9_search_34 : decode cX9_search 34 = .ok (.aload_n 3, 1) := by decide +kernel
theorem dX9_search_35 : decode cX9_search 35 = .ok (.getfield 38, 3) := by decide +kernel
theorem dX9_search_38 : decode cX9_search 38 = .ok (.iload 4, 2) := by decide +kernel
theorem dX9_search_40 : decode cX9_search 40 = .ok (.iaload, 1) := by decide +kernel
theorem dX9_search_41 : decode cX9_search 41 = .ok (.iastore, 1) := by decide +kernel
theorem dX9_search_42 : decode cX9_search 42 = .ok (.aload_n 0, 1) := by decide +kernel
theorem dX9_search_43 : decode cX9_search 43 = .ok (.getfield 15, 3) := by decide +kernel
theorem dX9_search_46 : decode cX9_search 46 = .ok (.iload 4, 2) := by decide +kernel
theorem dX9_search_48 : decode cX9_search 48 = .ok (.aload_n 1, 1) := by decide +kernel
theorem dX9_search_49 : decode cX9_search 49 = .ok (.iload 4, 2) := by decide +kernel
theorem dX9_search_51 : decode cX9_search 51 = .ok (.invokevirtual 41, 3) := by decide +kernel
theorem dX9_search_54 : decode cX9_search 54 = .ok (.iastore, 1) := by decide +kernel
theorem dX9_search_55 : decode cX9_search 55 = .ok (.aload_n 0, 1) := by decide +kernel
theorem dX9_search_56 : decode cX9_search 56 = .ok (.getfield 18, 3) := by decide +kernel
theorem dX9_search_59 : decode cX9_search 59 = .ok (.iload 4, 2) := by decide +kernel
theorem dX9_search_61 : decode cX9_search 61 = .ok (.aload_n 0, 1) := by decide +kernel
theorem dX9_search_62 : decode cX9_search 62 = .ok (.getfield 15, 3) := by decide +kernel
theorem dX9_search_65 : decode cX9_search 65 = .ok (.iload 4, 2) := by decide +kernel
theorem dX9_search_67 : decode cX9_search 67 = .ok (.iaload, 1) := by decide +kernel
theorem dX9_search_68 : decode cX9_search 68 = .ok (.aload_n 1, 1) := by decide +kernel
theorem dX9_search_69 : decode cX9_search 69 = .ok (.iload_n 2, 1) := by decide +kernel
theorem dX9_search_70 : decode cX9_search 70 = .ok (.iload 4, 2) := by decide +kernel
theorem dX9_search_72 : decode cX9_search 72 = .ok (.invokevirtual 45, 3) := by decide +kernel
theorem dX9_search_75 : decode cX9_search 75 = .ok (.imul, 1) := by decide +kernel
theorem dX9_search_76 : decode cX9_search 76 = .ok (.iastore, 1) := by decide +kernel
theorem dX9_search_77 : decode cX9_search 77 = .ok (.iinc 4 1, 3) := by decide +kernel
theorem dX9_search_80 : decode cX9_search 80 = .ok (.goto (-61), 3) := by decide +kernel
theorem dX9_search_83 : decode cX9_search 83 = .ok (.aload_n 0, 1) := by decide +kernel
theorem dX9_search_84 : decode cX9_search 84 = .ok (.iconst 0, 1) := by decide +kernel
theorem dX9_search_85 : decode cX9_search 85 = .ok (.putfield 49, 3) := by decide +kernel
theorem dX9_search_88 : decode cX9_search 88 = .ok (.aload_n 0, 1) := by decide +kernel
theorem dX9_search_89 : decode cX9_search 89 = .ok (.iconst 0, 1) := by decide +kernel
theorem dX9_search_90 : decode cX9_search 90 = .ok (.putfield 52, 3) := by decide +kernel
theorem dX9_search_93 : decode cX9_search 93 = .ok (.aload_n 0, 1) := by decide +kernel
theorem dX9_search_94 : decode cX9_search 94 = .ok (.iconst 0, 1) := by decide +kernel
theorem dX9_search_95 : decode cX9_search 95 = .ok (.iconst 0, 1) := by decide +kernel
theorem dX9_search_96 : decode cX9_search 96 = .ok (.iconst 0, 1) := by decide +kernel
theorem dX9_search_97 : decode cX9_search 97 = .ok (.aload_n 3, 1) := by decide +kernel
theorem dX9_search_98 : decode cX9_search 98 = .ok (.getfield 55, 3) := by decide +kernel
theorem dX9_search_101 : decode cX9_search 101 = .ok (.iload_n 2, 1) := by decide +kernel
theorem dX9_search_102 : decode cX9_search 102 = .ok (.iaload, 1) := by decide +kernel
theorem dX9_search_103 : decode cX9_search 103 = .ok (.aload_n 3, 1) := by decide +kernel
theorem dX9_search_104 : decode cX9_search 104 = .ok (.getfield 58, 3) := by decide +kernel
theorem dX9_search_107 : decode cX9_search 107 = .ok (.iload_n 2, 1) := by decide +kernel
theorem dX9_search_108 : decode cX9_search 108 = .ok (.iaload, 1) := by decide +kernel
theorem dX9_search_109 : decode cX9_search 109 = .ok (.aload_n 3, 1) := by decide +kernel
theorem dX9_search_110 : decode cX9_search 110 = .ok (.getfield 61, 3) := by decide +kernel
theorem dX9_search_113 : decode cX9_search 113 = .ok (.iload_n 2, 1) := by decide +kernel
theorem dX9_search_114 : decode cX9_search 114 = .ok (.iaload, 1) := by decide +kernel
theorem dX9_search_115 : decode cX9_search 115 = .ok (.invokevirtual 64, 3) := by decide +kernel
theorem dX9_search_118 : decode cX9_search 118 = .ok (.return_, 1) := by decide +kernel
def F_X9_search_L19 (rec : Nat → Nat → Int32 → Nat → Int32 → AH → Option (AH)) (v0 : Nat) (v1 : Nat) (v2 : Int32) (v3 : Nat) (v4 : Int32) (h : AH) : Option (AH) := (gi h 8 v0 3).bind fun x1 => if x1 ≤ v4 then (some (h)) else ((gr h 8 v0 0).bind fun r3 => (gr h 4 v3 4).bind fun r4 => (ai h 0 r4 v4).bind fun x5 => (aw h 0 r3 v4 x5).bind fun h6 => (gr h6 8 v0 1).bind fun r7 => bT1 (f_X3_needsOf v1 v4 h6) fun x10 h8 => (aw h8 0 r7 v4 x10).bind fun h11 => (gr h11 8 v0 2).bind fun r12 => (gr h11 8 v0 1).bind fun r13 => (ai h11 0 r13 v4).bind fun x14 => bT1 (f_X3_songPaysTo v1 v2 v4 h11) fun x17 h15 => (aw h15 0 r12 v4 (x14 * x17)).bind fun h18 => rec v0 v1 v2 v3 (v4 + 1) h18)
def f_X9_search_L19 : Nat → Nat → Nat → Int32 → Nat → Int32 → AH → Option (AH)
  | 0 => fun _ _ _ _ _ _ => none
  | n + 1 => F_X9_search_L19 (f_X9_search_L19 n)
set_option maxRecDepth 100000 in
set_option maxHeartbeats 4000000 in
theorem lx_X9_search_L19 (X : SX) (d : Nat) : ∀ n (rv : Option Int32) (h' : AH), ∀ (v0 : Nat) (v1 : Nat) (v2 : Int32) (v3 : Nat) (v4 : Int32) (h : AH)  (h1 : AH), f_X9_search_L19 n v0 v1 v2 v3 v4 h = some (h1) → G X mX9_search (d + 9) 83 [(0, .ref v0), (2, .int v2), (3, .ref v3)] [] h1 rv h' → G X mX9_search (d + 9) 19 [(0, .ref v0), (1, .ref v1), (2, .int v2), (3, .ref v3), (4, .int v4)] [] h rv h' := by
  intro n
  induction n with
  | zero =>
    intro rv h' v0 v1 v2 v3 v4 h h1 hf hE
    cases hf
  | succ n ihf =>
    intro rv h' v0 v1 v2 v3 v4 h h1 hf hE
    replace hf : F_X9_search_L19 (f_X9_search_L19 n) v0 v1 v2 v3 v4 h = some (h1) := hf
    unfold F_X9_search_L19 at hf
    have ih := ihf rv h'
    refine G.iload dX9_search_19 rfl ?_
    refine G.aload_n dX9_search_21 rfl ?_
    refine G.geti flX9_37 dX9_search_22 hf (fun x1 hf => ?_)
    refine G.icmp_ge 83 dX9_search_25 (by decide) (fun c2 => ?_) (fun c2 => ?_)
    · rw [if_pos c2] at hf
      have w0 := Option.some.inj hf
      subst w0
      exact G.pick [0, 2, 3] rfl hE
    · rw [if_neg c2] at hf
      refine G.aload_n dX9_search_28 rfl ?_
      refine G.getr flX9_9 dX9_search_29 hf (fun r3 hf => ?_)
      refine G.iload dX9_search_32 rfl ?_
      refine G.aload_n dX9_search_34 rfl ?_
      refine G.getr flX9_38 dX9_search_35 hf (fun r4 hf => ?_)
      refine G.iload dX9_search_38 rfl ?_
      refine G.iald dX9_search_40 hf (fun x5 hf => ?_)
      refine G.iast dX9_search_41 hf (fun h6 hf => ?_)
      refine G.aload_n dX9_search_42 rfl ?_
      refine G.getr flX9_15 dX9_search_43 hf (fun r7 hf => ?_)
      refine G.iload dX9_search_46 rfl ?_
      refine G.aload_n dX9_search_48 rfl ?_
      refine G.iload dX9_search_49 rfl ?_
      obtain ⟨x10, h8, e9, hf⟩ := bT1_spec hf
      refine G.callVi (M' := mX3_needsOf) (ci := 3) (As := [.int v4]) (st := [.int v4, .ref r7]) okX3_needsOf viX3_needsOf lkX9_41 rfl rfl rfl (Nat.le_of_ble_eq_true rfl) (Nat.le_of_ble_eq_true rfl) dX9_search_51 (c_X3_needsOf X (d + 7) _ _ _ _ _ e9).1 (c_X3_needsOf X (d + 7) _ _ _ _ _ e9).2 ?_
      refine G.iast dX9_search_54 hf (fun h11 hf => ?_)
      refine G.aload_n dX9_search_55 rfl ?_
      refine G.getr flX9_18 dX9_search_56 hf (fun r12 hf => ?_)
      refine G.iload dX9_search_59 rfl ?_
      refine G.aload_n dX9_search_61 rfl ?_
      refine G.getr flX9_15 dX9_search_62 hf (fun r13 hf => ?_)
      refine G.iload dX9_search_65 rfl ?_
      refine G.iald dX9_search_67 hf (fun x14 hf => ?_)
      refine G.aload_n dX9_search_68 rfl ?_
      refine G.iload_n dX9_search_69 rfl ?_
      refine G.iload dX9_search_70 rfl ?_
      obtain ⟨x17, h15, e16, hf⟩ := bT1_spec hf
      refine G.callVi (M' := mX3_songPaysTo) (ci := 3) (As := [.int v2, .int v4]) (st := [.int x14, .int v4, .ref r12]) okX3_songPaysTo viX3_songPaysTo lkX9_45 rfl rfl rfl (Nat.le_of_ble_eq_true rfl) (Nat.le_of_ble_eq_true rfl) dX9_search_72 (c_X3_songPaysTo X (d + 7) _ _ _ _ _ _ e16).1 (c_X3_songPaysTo X (d + 7) _ _ _ _ _ _ e16).2 ?_
      refine G.imul dX9_search_75 ?_
      refine G.iast dX9_search_76 hf (fun h18 hf => ?_)
      refine G.iinc (v := (v4 + 1)) (lv' := [(4, .int (v4 + 1)), (0, .ref v0), (1, .ref v1), (2, .int v2), (3, .ref v3)]) dX9_search_77 rfl rfl (by decide) rfl ?_
      refine G.goto 19 dX9_search_80 (by decide) ?_
      exact G.pick [1, 2, 3, 4, 0] rfl (ih v0 v1 v2 v3 (v4 + 1) h18 _ hf hE)
theorem l_X9_search_L19 (X : SX) (d : Nat) (rv : Option Int32) (h' : AH) (n : Nat) : ∀ (v0 : Nat) (v1 : Nat) (v2 : Int32) (v3 : Nat) (v4 : Int32) (h : AH)  (h1 : AH), f_X9_search_L19 n v0 v1 v2 v3 v4 h = some (h1) → G X mX9_search (d + 9) 83 [(0, .ref v0), (2, .int v2), (3, .ref v3)] [] h1 rv h' → G X mX9_search (d + 9) 19 [(0, .ref v0), (1, .ref v1), (2, .int v2), (3, .ref v3), (4, .int v4)] [] h rv h' := lx_X9_search_L19 X d n rv h'
def f_X9_search (a0 : Nat) (a1 : Nat) (a2 : Int32) (h : AH) : Option (AH) := if isO h 8 a0 = true then ((gr h 3 a1 0).bind fun r1 => (gr h 3 a1 1).bind fun r2 => (gi h 9 r2 10).bind fun x3 => (pf h 8 a0 3 (.int x3)).bind fun h4 => (f_X9_search_L19 1000000 a0 a1 a2 r1 (0 : Int32) h4).bind fun h5 => (pf h5 8 a0 4 (.int (0 : Int32))).bind fun h7 => (pf h7 8 a0 5 (.int (0 : Int32))).bind fun h8 => (gr h8 4 r1 2).bind fun r9 => (ai h8 0 r9 a2).bind fun x10 => (gr h8 4 r1 3).bind fun r11 => (ai h8 0 r11 a2).bind fun x12 => (gr h8 4 r1 1).bind fun r13 => (ai h8 0 r13 a2).bind fun x14 => (f_X9_extend 8 a0 (0 : Int32) (0 : Int32) (0 : Int32) x10 x12 x14 h8).bind fun h15 => some h15) else none
set_option maxRecDepth 100000 in
set_option maxHeartbeats 4000000 in
theorem c_X9_search (X : SX) (d : Nat) (a0 : Nat) (a1 : Nat) (a2 : Int32) (h : AH) (h' : AH) (hf : f_X9_search a0 a1 a2 h = some h') : isO h 8 a0 = true ∧ G X mX9_search (d + 9) 0 [(0, .ref a0), (1, .ref a1), (2, .int a2)] [] h none h' := by
  unfold f_X9_search at hf
  by_cases ho : isO h 8 a0 = true
  · rw [if_pos ho] at hf
    refine ⟨ho, ?_⟩
    refine G.aload_n dX9_search_0 rfl ?_
    refine G.getr flX9_21 dX9_search_1 hf (fun r1 hf => ?_)
    refine G.astore_n (lv' := [(3, .ref r1), (0, .ref a0), (1, .ref a1), (2, .int a2)]) dX9_search_4 (by decide) rfl ?_
    refine G.aload_n dX9_search_5 rfl ?_
    refine G.aload_n dX9_search_6 rfl ?_
    refine G.getr flX9_27 dX9_search_7 hf (fun r2 hf => ?_)
    refine G.geti flX9_31 dX9_search_10 hf (fun x3 hf => ?_)
    refine G.put flX9_37 (Or.inl rfl) (fun _ _ => ⟨rfl, rfl⟩) dX9_search_13 hf (fun h4 hf => ?_)
    refine G.iconst (v := (0 : Int32)) dX9_search_16 (by decide) ?_
    refine G.istore (lv' := [(4, .int (0 : Int32)), (3, .ref r1), (0, .ref a0), (1, .ref a1), (2, .int a2)]) dX9_search_17 (by decide) rfl ?_
    obtain ⟨h5, e6, hf⟩ := Option.bind_eq_some_iff.mp hf
    refine G.pick [2, 3, 4, 1, 0] rfl (l_X9_search_L19 X d _ _ 1000000 a0 a1 a2 r1 (0 : Int32) h4 h5 e6 ?_)
    refine G.aload_n dX9_search_83 rfl ?_
    refine G.iconst (v := (0 : Int32)) dX9_search_84 (by decide) ?_
    refine G.put flX9_49 (Or.inl rfl) (fun _ _ => ⟨rfl, rfl⟩) dX9_search_85 hf (fun h7 hf => ?_)
    refine G.aload_n dX9_search_88 rfl ?_
    refine G.iconst (v := (0 : Int32)) dX9_search_89 (by decide) ?_
    refine G.put flX9_52 (Or.inl rfl) (fun _ _ => ⟨rfl, rfl⟩) dX9_search_90 hf (fun h8 hf => ?_)
    refine G.aload_n dX9_search_93 rfl ?_
    refine G.iconst (v := (0 : Int32)) dX9_search_94 (by decide) ?_
    refine G.iconst (v := (0 : Int32)) dX9_search_95 (by decide) ?_
    refine G.iconst (v := (0 : Int32)) dX9_search_96 (by decide) ?_
    refine G.aload_n dX9_search_97 rfl ?_
    refine G.getr flX9_55 dX9_search_98 hf (fun r9 hf => ?_)
    refine G.iload_n dX9_search_101 rfl ?_
    refine G.iald dX9_search_102 hf (fun x10 hf => ?_)
    refine G.aload_n dX9_search_103 rfl ?_
    refine G.getr flX9_58 dX9_search_104 hf (fun r11 hf => ?_)
    refine G.iload_n dX9_search_107 rfl ?_
    refine G.iald dX9_search_108 hf (fun x12 hf => ?_)
    refine G.aload_n dX9_search_109 rfl ?_
    refine G.getr flX9_61 dX9_search_110 hf (fun r13 hf => ?_)
    refine G.iload_n dX9_search_113 rfl ?_
    refine G.iald dX9_search_114 hf (fun x14 hf => ?_)
    obtain ⟨h15, e16, hf⟩ := Option.bind_eq_some_iff.mp hf
    refine G.callVv (M' := mX9_extend) (ci := 8) (As := [.int (0 : Int32), .int (0 : Int32), .int (0 : Int32), .int x10, .int x12, .int x14]) (st := []) okX9_extend viX9_extend lkX9_64 rfl rfl rfl (Nat.le_of_ble_eq_true rfl) (Nat.le_of_ble_eq_true rfl) dX9_search_115 (c_X9_extend X 8 (d + 0) _ _ _ _ _ _ _ _ _ e16).1 (c_X9_extend X 8 (d + 0) _ _ _ _ _ _ _ _ _ e16).2 ?_
    have hq := Option.some.inj hf
    subst hq
    exact G.vret rfl dX9_search_118
  · rw [if_neg ho] at hf
    cases hf
/-! X12_round -/
theorem dX12_round_0 : decode cX12_round 0 = .ok (.aload_n 0, 1) := by decide +kernel
theorem dX12_round_1 : decode cX12_round 1 = .ok (.getfield 19, 3) := by decide +kernel
theorem dX12_round_4 : decode cX12_round 4 = .ok (.iload_n 1, 1) := by decide +kernel
theorem dX12_round_5 : decode cX12_round 5 = .ok (.invokevirtual 166, 3) := by decide +kernel
theorem dX12_round_8 : decode cX12_round 8 = .ok (.ifCond .ne 6, 3) := by decide +kernel
theorem dX12_round_11 : decode cX12_round 11 = .ok (.ldc 170, 2) := by decide +kernel
theorem dX12_round_13 : decode cX12_round 13 = .ok (.ireturn, 1) := by decide +kernel
theorem dX12_round_14 : decode cX12_round 14 = .ok (.iload_n 2, 1) := by decide +kernel
theorem dX12_round_15 : decode cX12_round 15 = .ok (.ifCond .eq 11, 3) := by decide +kernel
theorem dX12_round_18 : decode cX12_round 18 = .ok (.iload_n 2, 1) := by decide +kernel
theorem dX12_round_19 : decode cX12_round 19 = .ok (.iconst 1, 1) := by decide +kernel
theorem dX12_round_20 : decode cX12_round 20 = .ok (.if_icmp .eq 6, 3) := by decide +kernel
theorem dX12_round_23 : decode cX12_round 23 = .ok (.ldc 72, 2) := by decide +kernel
theorem dX12_round_25 : decode cX12_round 25 = .ok (.ireturn, 1) := by decide +kernel
theorem dX12_round_26 : decode cX12_round 26 = .ok (.aload_n 0, 1) := by decide +kernel
theorem dX12_round_27 : decode cX12_round 27 = .ok (.getfield 33, 3) := by decide +kernel
theorem dX12_round_30 : decode cX12_round 30 = .ok (.aload_n 0, 1) := by decide +kernel
theorem dX12_round_31 : decode cX12_round 31 = .ok (.getfield 19, 3) := by decide +kernel
theorem dX12_round_34 : decode cX12_round 34 = .ok (.iload_n 1, 1) := by decide +kernel
theorem dX12_round_35 : decode cX12_round 35 = .ok (.invokevirtual 275, 3) := by decide +kernel
theorem dX12_round_38 : decode cX12_round 38 = .ok (.iload_n 2, 1) := by decide +kernel
theorem dX12_round_39 : decode cX12_round 39 = .ok (.ifCond .ne 13, 3) := by decide +kernel
theorem dX12_round_42 : decode cX12_round 42 = .ok (.aload_n 0, 1) := by decide +kernel
theorem dX12_round_43 : decode cX12_round 43 = .ok (.getfield 33, 3) := by decide +kernel
theorem dX12_round_46 : decode cX12_round 46 = .ok (.getfield 279, 3) := by decide +kernel
theorem dX12_round_49 : decode cX12_round 49 = .ok (.goto 10, 3) := by decide +kernel
theorem dX12_round_52 : decode cX12_round 52 = .ok (.aload_n 0, 1) := by decide +kernel
theorem dX12_round_53 : decode cX12_round 53 = .ok (.getfield 33, 3) := by decide +kernel
theorem dX12_round_56 : decode cX12_round 56 = .ok (.getfield 282, 3) := by decide +kernel
theorem dX12_round_59 : decode cX12_round 59 = .ok (.ireturn, 1) := by decide +kernel
def f_X12_round_26 (v0 : Nat) (v1 : Int32) (v2 : Int32) (h : AH) : Option (Int32 × AH) := (gr h 11 v0 3).bind fun r1 => (gr h 11 v0 1).bind fun r2 => (f_X9_search r1 r2 v1 h).bind fun h3 => if v2 = 0 then ((gr h3 11 v0 3).bind fun r8 => (gi h3 8 r8 4).bind fun x9 => some (x9, h3)) else ((gr h3 11 v0 3).bind fun r6 => (gi h3 8 r6 5).bind fun x7 => some (x7, h3))
set_option maxRecDepth 100000 in
set_option maxHeartbeats 4000000 in
theorem j_X12_round_26 (X : SX) (d : Nat) (v0 : Nat) (v1 : Int32) (v2 : Int32) (h : AH) (rr : Int32) (h' : AH) (hf : f_X12_round_26 v0 v1 v2 h = some (rr, h')) : G X mX12_round (d + 10) 26 [(0, .ref v0), (1, .int v1), (2, .int v2)] [] h (some rr) h' := by
  unfold f_X12_round_26 at hf
  refine G.aload_n dX12_round_26 rfl ?_
  refine G.getr flX12_33 dX12_round_27 hf (fun r1 hf => ?_)
  refine G.aload_n dX12_round_30 rfl ?_
  refine G.getr flX12_19 dX12_round_31 hf (fun r2 hf => ?_)
  refine G.iload_n dX12_round_34 rfl ?_
  obtain ⟨h3, e4, hf⟩ := Option.bind_eq_some_iff.mp hf
  refine G.callVv (M' := mX9_search) (ci := 8) (As := [.ref r2, .int v1]) (st := []) okX9_search viX9_search lkX12_275 rfl rfl rfl (Nat.le_of_ble_eq_true rfl) (Nat.le_of_ble_eq_true rfl) dX12_round_35 (c_X9_search X d _ _ _ _ _ e4).1 (c_X9_search X d _ _ _ _ _ e4).2 ?_
  refine G.iload_n dX12_round_38 rfl ?_
  refine G.if_ne 52 dX12_round_39 (by decide) (fun c5 => ?_) (fun c5 => ?_)
  · rw [if_neg c5] at hf
    refine G.aload_n dX12_round_52 rfl ?_
    refine G.getr flX12_33 dX12_round_53 hf (fun r6 hf => ?_)
    refine G.geti flX12_282 dX12_round_56 hf (fun x7 hf => ?_)
    obtain ⟨hq1, hq2⟩ := Prod.mk.inj (Option.some.inj hf)
    subst hq1
    subst hq2
    exact G.iret rfl rfl dX12_round_59
  · rw [if_pos c5] at hf
    refine G.aload_n dX12_round_42 rfl ?_
    refine G.getr flX12_33 dX12_round_43 hf (fun r8 hf => ?_)
    refine G.geti flX12_279 dX12_round_46 hf (fun x9 hf => ?_)
    refine G.goto 59 dX12_round_49 (by decide) ?_
    obtain ⟨hq1, hq2⟩ := Prod.mk.inj (Option.some.inj hf)
    subst hq1
    subst hq2
    exact G.iret rfl rfl dX12_round_59
def f_X12_round (a0 : Nat) (a1 : Int32) (a2 : Int32) (h : AH) : Option (Int32 × AH) := if isO h 11 a0 = true then ((gr h 11 a0 1).bind fun r1 => bT1 (f_X3_hasSinger r1 a1 h) fun x4 h2 => if x4 = 0 then (some ((-1000000001 : Int32), h2)) else (if a2 = 0 then (f_X12_round_26 a0 a1 a2 h2) else (if a2 = (1 : Int32) then (f_X12_round_26 a0 a1 a2 h2) else (some ((-1000000002 : Int32), h2))))) else none
set_option maxRecDepth 100000 in
set_option maxHeartbeats 4000000 in
theorem c_X12_round (X : SX) (d : Nat) (a0 : Nat) (a1 : Int32) (a2 : Int32) (h : AH) (rr : Int32) (h' : AH) (hf : f_X12_round a0 a1 a2 h = some (rr, h')) : isO h 11 a0 = true ∧ G X mX12_round (d + 10) 0 [(0, .ref a0), (1, .int a1), (2, .int a2)] [] h (some rr) h' := by
  unfold f_X12_round at hf
  by_cases ho : isO h 11 a0 = true
  · rw [if_pos ho] at hf
    refine ⟨ho, ?_⟩
    refine G.aload_n dX12_round_0 rfl ?_
    refine G.getr flX12_19 dX12_round_1 hf (fun r1 hf => ?_)
    refine G.iload_n dX12_round_4 rfl ?_
    obtain ⟨x4, h2, e3, hf⟩ := bT1_spec hf
    refine G.callVi (M' := mX3_hasSinger) (ci := 3) (As := [.int a1]) (st := []) okX3_hasSinger viX3_hasSinger lkX12_166 rfl rfl rfl (Nat.le_of_ble_eq_true rfl) (Nat.le_of_ble_eq_true rfl) dX12_round_5 (c_X3_hasSinger X (d + 9) _ _ _ _ _ e3).1 (c_X3_hasSinger X (d + 9) _ _ _ _ _ e3).2 ?_
    refine G.if_ne 14 dX12_round_8 (by decide) (fun c5 => ?_) (fun c5 => ?_)
    · rw [if_neg c5] at hf
      refine G.iload_n dX12_round_14 rfl ?_
      refine G.if_eq 26 dX12_round_15 (by decide) (fun c6 => ?_) (fun c6 => ?_)
      · rw [if_pos c6] at hf
        exact G.pick [0, 1, 2] rfl (j_X12_round_26 X d a0 a1 a2 h2 _ _ hf)
      · rw [if_neg c6] at hf
        refine G.iload_n dX12_round_18 rfl ?_
        refine G.iconst (v := (1 : Int32)) dX12_round_19 (by decide) ?_
        refine G.icmp_eq 26 dX12_round_20 (by decide) (fun c7 => ?_) (fun c7 => ?_)
        · rw [if_pos c7] at hf
          exact G.pick [0, 1, 2] rfl (j_X12_round_26 X d a0 a1 a2 h2 _ _ hf)
        · rw [if_neg c7] at hf
          refine G.ldc ckX12_72 dX12_round_23 ?_
          obtain ⟨hq1, hq2⟩ := Prod.mk.inj (Option.some.inj hf)
          subst hq1
          subst hq2
          exact G.iret rfl rfl dX12_round_25
    · rw [if_pos c5] at hf
      refine G.ldc ckX12_170 dX12_round_11 ?_
      obtain ⟨hq1, hq2⟩ := Prod.mk.inj (Option.some.inj hf)
      subst hq1
      subst hq2
      exact G.iret rfl rfl dX12_round_13
  · rw [if_neg ho] at hf
    cases hf
