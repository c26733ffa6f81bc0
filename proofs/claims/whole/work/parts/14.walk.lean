/-! X7_bestFrom -/
theorem dX7_bestFrom_0 : decode cX7_bestFrom 0 = .ok (.aload_n 0, 1) := by decide +kernel
theorem dX7_bestFrom_1 : decode cX7_bestFrom 1 = .ok (.getfield 15, 3) := by decide +kernel
theorem dX7_bestFrom_4 : decode cX7_bestFrom 4 = .ok (.iload_n 1, 1) := by decide +kernel
theorem dX7_bestFrom_5 : decode cX7_bestFrom 5 = .ok (.iconst 1, 1) := by decide +kernel
theorem dX7_bestFrom_6 : decode cX7_bestFrom 6 = .ok (.iadd, 1) := by decide +kernel
theorem dX7_bestFrom_7 : decode cX7_bestFrom 7 = .ok (.bipush 64, 2) := by decide +kernel
theorem dX7_bestFrom_9 : decode cX7_bestFrom 9 = .ok (.imul, 1) := by decide +kernel
theorem dX7_bestFrom_10 : decode cX7_bestFrom 10 = .ok (.iload_n 2, 1) := by decide +kernel
theorem dX7_bestFrom_11 : decode cX7_bestFrom 11 = .ok (.iadd, 1) := by decide +kernel
theorem dX7_bestFrom_12 : decode cX7_bestFrom 12 = .ok (.iaload, 1) := by decide +kernel
theorem dX7_bestFrom_13 : decode cX7_bestFrom 13 = .ok (.istore_n 3, 1) := by decide +kernel
theorem dX7_bestFrom_14 : decode cX7_bestFrom 14 = .ok (.iconst 0, 1) := by decide +kernel
theorem dX7_bestFrom_15 : decode cX7_bestFrom 15 = .ok (.istore 4, 2) := by decide +kernel
theorem dX7_bestFrom_17 : decode cX7_bestFrom 17 = .ok (.iload 4, 2) := by decide +kernel
theorem dX7_bestFrom_19 : decode cX7_bestFrom 19 = .ok (.aload_n 0, 1) := by decide +kernel
theorem dX7_bestFrom_20 : decode cX7_bestFrom 20 = .ok (.getfield 45, 3) := by decide +kernel
theorem dX7_bestFrom_23 : decode cX7_bestFrom 23 = .ok (.if_icmp .ge 33, 3) := by decide +kernel
theorem dX7_bestFrom_26 : decode cX7_bestFrom 26 = .ok (.aload_n 0, 1) := by decide +kernel
theorem dX7_bestFrom_27 : decode cX7_bestFrom 27 = .ok (.iload_n 1, 1) := by decide +kernel
theorem dX7_bestFrom_28 : decode cX7_bestFrom 28 = .ok (.iload 4, 2) := by decide +kernel
theorem dX7_bestFrom_30 : decode cX7_bestFrom 30 = .ok (.iload_n 2, 1) := by decide +kernel
theorem dX7_bestFrom_31 : decode cX7_bestFrom 31 = .ok (.invokevirtual 57, 3) := by decide +kernel
theorem dX7_bestFrom_34 : decode cX7_bestFrom 34 = .ok (.ifCond .eq 16, 3) := by decide +kernel
theorem dX7_bestFrom_37 : decode cX7_bestFrom 37 = .ok (.iload_n 3, 1) := by decide +kernel
theorem dX7_bestFrom_38 : decode cX7_bestFrom 38 = .ok (.aload_n 0, 1) := by decide +kernel
theorem dX7_bestFrom_39 : decode cX7_bestFrom 39 = .ok (.iload_n 1, 1) := by decide +kernel
theorem dX7_bestFrom_40 : decode cX7_bestFrom 40 = .ok (.iload 4, 2) := by decide +kernel
theorem dX7_bestFrom_42 : decode cX7_bestFrom 42 = .ok (.iload_n 2, 1) := by decide +kernel
theorem dX7_bestFrom_43 : decode cX7_bestFrom 43 = .ok (.invokevirtual 61, 3) := by decide +kernel
theorem dX7_bestFrom_46 : decode cX7_bestFrom 46 = .ok (.invokestatic 65, 3) := by decide +kernel
theorem dX7_bestFrom_49 : decode cX7_bestFrom 49 = .ok (.istore_n 3, 1) := by decide +kernel
theorem dX7_bestFrom_50 : decode cX7_bestFrom 50 = .ok (.iinc 4 1, 3) := by decide +kernel
theorem dX7_bestFrom_53 : decode cX7_bestFrom 53 = .ok (.goto (-36), 3) := by decide +kernel
theorem dX7_bestFrom_56 : decode cX7_bestFrom 56 = .ok (.iload_n 3, 1) := by decide +kernel
theorem dX7_bestFrom_57 : decode cX7_bestFrom 57 = .ok (.ireturn, 1) := by decide +kernel
def F_X7_bestFrom_L17 (rec : Nat → Int32 → Int32 → Int32 → Int32 → AH → Option (Int32 × AH)) (v0 : Nat) (v1 : Int32) (v2 : Int32) (v3 : Int32) (v4 : Int32) (h : AH) : Option (Int32 × AH) := (gi h 6 v0 3).bind fun x1 => if x1 ≤ v4 then (some (v3, h)) else (bT1 (f_X7_isOpen v0 v1 v4 v2 h) fun x5 h3 => if x5 = 0 then (rec v0 v1 v2 v3 (v4 + 1) h3) else (bT1 (f_X7_reachedWith v0 v1 v4 v2 h3) fun x9 h7 => rec v0 v1 v2 (if v3 < x9 then x9 else v3) (v4 + 1) h7))
def f_X7_bestFrom_L17 : Nat → Nat → Int32 → Int32 → Int32 → Int32 → AH → Option (Int32 × AH)
  | 0 => fun _ _ _ _ _ _ => none
  | n + 1 => F_X7_bestFrom_L17 (f_X7_bestFrom_L17 n)
set_option maxRecDepth 100000 in
set_option maxHeartbeats 4000000 in
theorem lx_X7_bestFrom_L17 (X : SX) (d : Nat) : ∀ n (rv : Option Int32) (h' : AH), ∀ (v0 : Nat) (v1 : Int32) (v2 : Int32) (v3 : Int32) (v4 : Int32) (h : AH) (y3 : Int32) (h1 : AH), f_X7_bestFrom_L17 n v0 v1 v2 v3 v4 h = some (y3, h1) → G X mX7_bestFrom (d + 1) 56 [(3, .int y3)] [] h1 rv h' → G X mX7_bestFrom (d + 1) 17 [(0, .ref v0), (1, .int v1), (2, .int v2), (3, .int v3), (4, .int v4)] [] h rv h' := by
  intro n
  induction n with
  | zero =>
    intro rv h' v0 v1 v2 v3 v4 h y3 h1 hf hE
    cases hf
  | succ n ihf =>
    intro rv h' v0 v1 v2 v3 v4 h y3 h1 hf hE
    replace hf : F_X7_bestFrom_L17 (f_X7_bestFrom_L17 n) v0 v1 v2 v3 v4 h = some (y3, h1) := hf
    unfold F_X7_bestFrom_L17 at hf
    have ih := ihf rv h'
    refine G.iload dX7_bestFrom_17 rfl ?_
    refine G.aload_n dX7_bestFrom_19 rfl ?_
    refine G.geti flX7_45 dX7_bestFrom_20 hf (fun x1 hf => ?_)
    refine G.icmp_ge 56 dX7_bestFrom_23 (by decide) (fun c2 => ?_) (fun c2 => ?_)
    · rw [if_pos c2] at hf
      obtain ⟨u0, w1⟩ := Prod.mk.inj (Option.some.inj hf)
      subst u0
      subst w1
      exact G.pick [3] rfl hE
    · rw [if_neg c2] at hf
      refine G.aload_n dX7_bestFrom_26 rfl ?_
      refine G.iload_n dX7_bestFrom_27 rfl ?_
      refine G.iload dX7_bestFrom_28 rfl ?_
      refine G.iload_n dX7_bestFrom_30 rfl ?_
      obtain ⟨x5, h3, e4, hf⟩ := bT1_spec hf
      refine G.callVi (M' := mX7_isOpen) (ci := 6) (As := [.int v1, .int v4, .int v2]) (st := []) okX7_isOpen viX7_isOpen lkX7_57 rfl rfl rfl (Nat.le_of_ble_eq_true rfl) (Nat.le_of_ble_eq_true rfl) dX7_bestFrom_31 (c_X7_isOpen X d _ _ _ _ _ _ _ e4).1 (c_X7_isOpen X d _ _ _ _ _ _ _ e4).2 ?_
      refine G.if_eq 50 dX7_bestFrom_34 (by decide) (fun c6 => ?_) (fun c6 => ?_)
      · rw [if_pos c6] at hf
        refine G.iinc (v := (v4 + 1)) (lv' := [(4, .int (v4 + 1)), (0, .ref v0), (1, .int v1), (2, .int v2), (3, .int v3)]) dX7_bestFrom_50 rfl rfl (by decide) rfl ?_
        refine G.goto 17 dX7_bestFrom_53 (by decide) ?_
        exact G.pick [1, 2, 3, 4, 0] rfl (ih v0 v1 v2 v3 (v4 + 1) h3 _ _ hf hE)
      · rw [if_neg c6] at hf
        refine G.iload_n dX7_bestFrom_37 rfl ?_
        refine G.aload_n dX7_bestFrom_38 rfl ?_
        refine G.iload_n dX7_bestFrom_39 rfl ?_
        refine G.iload dX7_bestFrom_40 rfl ?_
        refine G.iload_n dX7_bestFrom_42 rfl ?_
        obtain ⟨x9, h7, e8, hf⟩ := bT1_spec hf
        refine G.callVi (M' := mX7_reachedWith) (ci := 6) (As := [.int v1, .int v4, .int v2]) (st := [.int v3]) okX7_reachedWith viX7_reachedWith lkX7_61 rfl rfl rfl (Nat.le_of_ble_eq_true rfl) (Nat.le_of_ble_eq_true rfl) dX7_bestFrom_43 (c_X7_reachedWith X d _ _ _ _ _ _ _ e8).1 (c_X7_reachedWith X d _ _ _ _ _ _ _ e8).2 ?_
        refine G.max lkX7_65 (Nat.le_of_ble_eq_true rfl) dX7_bestFrom_46 ?_
        refine G.istore_n (lv' := [(3, .int (if v3 < x9 then x9 else v3)), (0, .ref v0), (1, .int v1), (2, .int v2), (4, .int v4)]) dX7_bestFrom_49 (by decide) rfl ?_
        refine G.iinc (v := (v4 + 1)) (lv' := [(4, .int (v4 + 1)), (3, .int (if v3 < x9 then x9 else v3)), (0, .ref v0), (1, .int v1), (2, .int v2)]) dX7_bestFrom_50 rfl rfl (by decide) rfl ?_
        refine G.goto 17 dX7_bestFrom_53 (by decide) ?_
        exact G.pick [2, 3, 4, 1, 0] rfl (ih v0 v1 v2 (if v3 < x9 then x9 else v3) (v4 + 1) h7 _ _ hf hE)
theorem l_X7_bestFrom_L17 (X : SX) (d : Nat) (rv : Option Int32) (h' : AH) (n : Nat) : ∀ (v0 : Nat) (v1 : Int32) (v2 : Int32) (v3 : Int32) (v4 : Int32) (h : AH) (y3 : Int32) (h1 : AH), f_X7_bestFrom_L17 n v0 v1 v2 v3 v4 h = some (y3, h1) → G X mX7_bestFrom (d + 1) 56 [(3, .int y3)] [] h1 rv h' → G X mX7_bestFrom (d + 1) 17 [(0, .ref v0), (1, .int v1), (2, .int v2), (3, .int v3), (4, .int v4)] [] h rv h' := lx_X7_bestFrom_L17 X d n rv h'
def f_X7_bestFrom (a0 : Nat) (a1 : Int32) (a2 : Int32) (h : AH) : Option (Int32 × AH) := if isO h 6 a0 = true then ((gr h 6 a0 1).bind fun r1 => (ai h 0 r1 (((a1 + (1 : Int32)) * (64 : Int32)) + a2)).bind fun x2 => bT1 (f_X7_bestFrom_L17 1000000 a0 a1 a2 x2 (0 : Int32) h) fun y5 h3 => some (y5, h3)) else none
set_option maxRecDepth 100000 in
set_option maxHeartbeats 4000000 in
theorem c_X7_bestFrom (X : SX) (d : Nat) (a0 : Nat) (a1 : Int32) (a2 : Int32) (h : AH) (rr : Int32) (h' : AH) (hf : f_X7_bestFrom a0 a1 a2 h = some (rr, h')) : isO h 6 a0 = true ∧ G X mX7_bestFrom (d + 1) 0 [(0, .ref a0), (1, .int a1), (2, .int a2)] [] h (some rr) h' := by
  unfold f_X7_bestFrom at hf
  by_cases ho : isO h 6 a0 = true
  · rw [if_pos ho] at hf
    refine ⟨ho, ?_⟩
    refine G.aload_n dX7_bestFrom_0 rfl ?_
    refine G.getr flX7_15 dX7_bestFrom_1 hf (fun r1 hf => ?_)
    refine G.iload_n dX7_bestFrom_4 rfl ?_
    refine G.iconst (v := (1 : Int32)) dX7_bestFrom_5 (by decide) ?_
    refine G.iadd dX7_bestFrom_6 ?_
    refine G.bipush (v := (64 : Int32)) dX7_bestFrom_7 (by decide) ?_
    refine G.imul dX7_bestFrom_9 ?_
    refine G.iload_n dX7_bestFrom_10 rfl ?_
    refine G.iadd dX7_bestFrom_11 ?_
    refine G.iald dX7_bestFrom_12 hf (fun x2 hf => ?_)
    refine G.istore_n (lv' := [(3, .int x2), (0, .ref a0), (1, .int a1), (2, .int a2)]) dX7_bestFrom_13 (by decide) rfl ?_
    refine G.iconst (v := (0 : Int32)) dX7_bestFrom_14 (by decide) ?_
    refine G.istore (lv' := [(4, .int (0 : Int32)), (3, .int x2), (0, .ref a0), (1, .int a1), (2, .int a2)]) dX7_bestFrom_15 (by decide) rfl ?_
    obtain ⟨y5, h3, e4, hf⟩ := bT1_spec hf
    refine G.pick [2, 3, 4, 1, 0] rfl (l_X7_bestFrom_L17 X d _ _ 1000000 a0 a1 a2 x2 (0 : Int32) h y5 h3 e4 ?_)
    refine G.iload_n dX7_bestFrom_56 rfl ?_
    obtain ⟨hq1, hq2⟩ := Prod.mk.inj (Option.some.inj hf)
    subst hq1
    subst hq2
    exact G.iret rfl rfl dX7_bestFrom_57
  · rw [if_neg ho] at hf
    cases hf
/-! X7_solve -/
theorem dX7_solve_0 : decode cX7_solve 0 = .ok (.iconst 1, 1) := by decide +kernel
theorem dX7_solve_1 : decode cX7_solve 1 = .ok (.aload_n 0, 1) := by decide +kernel
theorem dX7_solve_2 : decode cX7_solve 2 = .ok (.getfield 45, 3) := by decide +kernel
theorem dX7_solve_5 : decode cX7_solve 5 = .ok (.ishl, 1) := by decide +kernel
theorem dX7_solve_6 : decode cX7_solve 6 = .ok (.istore_n 1, 1) := by decide +kernel
theorem dX7_solve_7 : decode cX7_solve 7 = .ok (.iconst 0, 1) := by decide +kernel
theorem dX7_solve_8 : decode cX7_solve 8 = .ok (.istore_n 2, 1) := by decide +kernel
theorem dX7_solve_9 : decode cX7_solve 9 = .ok (.iload_n 2, 1) := by decide +kernel
theorem dX7_solve_10 : decode cX7_solve 10 = .ok (.iload_n 1, 1) := by decide +kernel
theorem dX7_solve_11 : decode cX7_solve 11 = .ok (.if_icmp .ge 24, 3) := by decide +kernel
theorem dX7_solve_14 : decode cX7_solve 14 = .ok (.aload_n 0, 1) := by decide +kernel
theorem dX7_solve_15 : decode cX7_solve 15 = .ok (.getfield 15, 3) := by decide +kernel
theorem dX7_solve_18 : decode cX7_solve 18 = .ok (.aload_n 0, 1) := by decide +kernel
theorem dX7_solve_19 : decode cX7_solve 19 = .ok (.getfield 41, 3) := by decide +kernel
theorem dX7_solve_22 : decode cX7_solve 22 = .ok (.bipush 64, 2) := by decide +kernel
theorem dX7_solve_24 : decode cX7_solve 24 = .ok (.imul, 1) := by decide +kernel
theorem dX7_solve_25 : decode cX7_solve 25 = .ok (.iload_n 2, 1) := by decide +kernel
theorem dX7_solve_26 : decode cX7_solve 26 = .ok (.iadd, 1) := by decide +kernel
theorem dX7_solve_27 : decode cX7_solve 27 = .ok (.iconst 0, 1) := by decide +kernel
theorem dX7_solve_28 : decode cX7_solve 28 = .ok (.iastore, 1) := by decide +kernel
theorem dX7_solve_29 : decode cX7_solve 29 = .ok (.iinc 2 1, 3) := by decide +kernel
theorem dX7_solve_32 : decode cX7_solve 32 = .ok (.goto (-23), 3) := by decide +kernel
theorem dX7_solve_35 : decode cX7_solve 35 = .ok (.aload_n 0, 1) := by decide +kernel
theorem dX7_solve_36 : decode cX7_solve 36 = .ok (.getfield 41, 3) := by decide +kernel
theorem dX7_solve_39 : decode cX7_solve 39 = .ok (.iconst 1, 1) := by decide +kernel
theorem dX7_solve_40 : decode cX7_solve 40 = .ok (.isub, 1) := by decide +kernel
theorem dX7_solve_41 : decode cX7_solve 41 = .ok (.istore_n 2, 1) := by decide +kernel
theorem dX7_solve_42 : decode cX7_solve 42 = .ok (.iload_n 2, 1) := by decide +kernel
theorem dX7_solve_43 : decode cX7_solve 43 = .ok (.ifCond .lt 39, 3) := by decide +kernel
theorem dX7_solve_46 : decode cX7_solve 46 = .ok (.iconst 0, 1) := by decide +kernel
theorem dX7_solve_47 : decode cX7_solve 47 = .ok (.istore_n 3, 1) := by decide +kernel
theorem dX7_solve_48 : decode cX7_solve 48 = .ok (.iload_n 3, 1) := by decide +kernel
theorem dX7_solve_49 : decode cX7_solve 49 = .ok (.iload_n 1, 1) := by decide +kernel
theorem dX7_solve_50 : decode cX7_solve 50 = .ok (.if_icmp .ge 26, 3) := by decide +kernel
theorem dX7_solve_53 : decode cX7_solve 53 = .ok (.aload_n 0, 1) := by decide +kernel
theorem dX7_solve_54 : decode cX7_solve 54 = .ok (.getfield 15, 3) := by decide +kernel
theorem dX7_solve_57 : decode cX7_solve 57 = .ok (.iload_n 2, 1) := by decide +kernel
theorem dX7_solve_58 : decode cX7_solve 58 = .ok (.bipush 64, 2) := by decide +kernel
theorem dX7_solve_60 : decode cX7_solve 60 = .ok (.imul, 1) := by decide +kernel
theorem dX7_solve_61 : decode cX7_solve 61 = .ok (.iload_n 3, 1) := by decide +kernel
theorem dX7_solve_62 : decode cX7_solve 62 = .ok (.iadd, 1) := by decide +kernel
theorem dX7_solve_63 : decode cX7_solve 63 = .ok (.aload_n 0, 1) := by decide +kernel
theorem dX7_solve_64 : decode cX7_solve 64 = .ok (.iload_n 2, 1) := by decide +kernel
theorem dX7_solve_65 : decode cX7_solve 65 = .ok (.iload_n 3, 1) := by decide +kernel
theorem dX7_solve_66 : decode cX7_solve 66 = .ok (.invokevirtual 54, 3) := by decide +kernel
theorem dX7_solve_69 : decode cX7_solve 69 = .ok (.iastore, 1) := by decide +kernel
theorem dX7_solve_70 : decode cX7_solve 70 = .ok (.iinc 3 1, 3) := by decide +kernel
theorem dX7_solve_73 : decode cX7_solve 73 = .ok (.goto (-25), 3) := by decide +kernel
theorem dX7_solve_76 : decode cX7_solve 76 = .ok (.iinc 2 (-1), 3) := by decide +kernel
theorem dX7_solve_79 : decode cX7_solve 79 = .ok (.goto (-37), 3) := by decide +kernel
theorem dX7_solve_82 : decode cX7_solve 82 = .ok (.return_, 1) := by decide +kernel
def F_X7_solve_L9 (rec : Nat → Int32 → Int32 → AH → Option (AH)) (v0 : Nat) (v1 : Int32) (v2 : Int32) (h : AH) : Option (AH) := if v1 ≤ v2 then (some (h)) else ((gr h 6 v0 1).bind fun r2 => (gi h 6 v0 2).bind fun x3 => (aw h 0 r2 ((x3 * (64 : Int32)) + v2) (0 : Int32)).bind fun h4 => rec v0 v1 (v2 + 1) h4)
def f_X7_solve_L9 : Nat → Nat → Int32 → Int32 → AH → Option (AH)
  | 0 => fun _ _ _ _ => none
  | n + 1 => F_X7_solve_L9 (f_X7_solve_L9 n)
set_option maxRecDepth 100000 in
set_option maxHeartbeats 4000000 in
theorem lx_X7_solve_L9 (X : SX) (d : Nat) : ∀ n (rv : Option Int32) (h' : AH), ∀ (v0 : Nat) (v1 : Int32) (v2 : Int32) (h : AH)  (h1 : AH), f_X7_solve_L9 n v0 v1 v2 h = some (h1) → G X mX7_solve (d + 2) 35 [(0, .ref v0), (1, .int v1)] [] h1 rv h' → G X mX7_solve (d + 2) 9 [(0, .ref v0), (1, .int v1), (2, .int v2)] [] h rv h' := by
  intro n
  induction n with
  | zero =>
    intro rv h' v0 v1 v2 h h1 hf hE
    cases hf
  | succ n ihf =>
    intro rv h' v0 v1 v2 h h1 hf hE
    replace hf : F_X7_solve_L9 (f_X7_solve_L9 n) v0 v1 v2 h = some (h1) := hf
    unfold F_X7_solve_L9 at hf
    have ih := ihf rv h'
    refine G.iload_n dX7_solve_9 rfl ?_
    refine G.iload_n dX7_solve_10 rfl ?_
    refine G.icmp_ge 35 dX7_solve_11 (by decide) (fun c1 => ?_) (fun c1 => ?_)
    · rw [if_pos c1] at hf
      have w0 := Option.some.inj hf
      subst w0
      exact G.pick [0, 1] rfl hE
    · rw [if_neg c1] at hf
      refine G.aload_n dX7_solve_14 rfl ?_
      refine G.getr flX7_15 dX7_solve_15 hf (fun r2 hf => ?_)
      refine G.aload_n dX7_solve_18 rfl ?_
      refine G.geti flX7_41 dX7_solve_19 hf (fun x3 hf => ?_)
      refine G.bipush (v := (64 : Int32)) dX7_solve_22 (by decide) ?_
      refine G.imul dX7_solve_24 ?_
      refine G.iload_n dX7_solve_25 rfl ?_
      refine G.iadd dX7_solve_26 ?_
      refine G.iconst (v := (0 : Int32)) dX7_solve_27 (by decide) ?_
      refine G.iast dX7_solve_28 hf (fun h4 hf => ?_)
      refine G.iinc (v := (v2 + 1)) (lv' := [(2, .int (v2 + 1)), (0, .ref v0), (1, .int v1)]) dX7_solve_29 rfl rfl (by decide) rfl ?_
      refine G.goto 9 dX7_solve_32 (by decide) ?_
      exact G.pick [1, 2, 0] rfl (ih v0 v1 (v2 + 1) h4 _ hf hE)
theorem l_X7_solve_L9 (X : SX) (d : Nat) (rv : Option Int32) (h' : AH) (n : Nat) : ∀ (v0 : Nat) (v1 : Int32) (v2 : Int32) (h : AH)  (h1 : AH), f_X7_solve_L9 n v0 v1 v2 h = some (h1) → G X mX7_solve (d + 2) 35 [(0, .ref v0), (1, .int v1)] [] h1 rv h' → G X mX7_solve (d + 2) 9 [(0, .ref v0), (1, .int v1), (2, .int v2)] [] h rv h' := lx_X7_solve_L9 X d n rv h'
def F_X7_solve_L48 (rec : Nat → Int32 → Int32 → Int32 → AH → Option (AH)) (v0 : Nat) (v1 : Int32) (v2 : Int32) (v3 : Int32) (h : AH) : Option (AH) := if v1 ≤ v3 then (some (h)) else ((gr h 6 v0 1).bind fun r2 => bT1 (f_X7_bestFrom v0 v2 v3 h) fun x5 h3 => (aw h3 0 r2 ((v2 * (64 : Int32)) + v3) x5).bind fun h6 => rec v0 v1 v2 (v3 + 1) h6)
def f_X7_solve_L48 : Nat → Nat → Int32 → Int32 → Int32 → AH → Option (AH)
  | 0 => fun _ _ _ _ _ => none
  | n + 1 => F_X7_solve_L48 (f_X7_solve_L48 n)
set_option maxRecDepth 100000 in
set_option maxHeartbeats 4000000 in
theorem lx_X7_solve_L48 (X : SX) (d : Nat) : ∀ n (rv : Option Int32) (h' : AH), ∀ (v0 : Nat) (v1 : Int32) (v2 : Int32) (v3 : Int32) (h : AH)  (h1 : AH), f_X7_solve_L48 n v0 v1 v2 v3 h = some (h1) → G X mX7_solve (d + 2) 76 [(0, .ref v0), (1, .int v1), (2, .int v2)] [] h1 rv h' → G X mX7_solve (d + 2) 48 [(0, .ref v0), (1, .int v1), (2, .int v2), (3, .int v3)] [] h rv h' := by
  intro n
  induction n with
  | zero =>
    intro rv h' v0 v1 v2 v3 h h1 hf hE
    cases hf
  | succ n ihf =>
    intro rv h' v0 v1 v2 v3 h h1 hf hE
    replace hf : F_X7_solve_L48 (f_X7_solve_L48 n) v0 v1 v2 v3 h = some (h1) := hf
    unfold F_X7_solve_L48 at hf
    have ih := ihf rv h'
    refine G.iload_n dX7_solve_48 rfl ?_
    refine G.iload_n dX7_solve_49 rfl ?_
    refine G.icmp_ge 76 dX7_solve_50 (by decide) (fun c1 => ?_) (fun c1 => ?_)
    · rw [if_pos c1] at hf
      have w0 := Option.some.inj hf
      subst w0
      exact G.pick [0, 1, 2] rfl hE
    · rw [if_neg c1] at hf
      refine G.aload_n dX7_solve_53 rfl ?_
      refine G.getr flX7_15 dX7_solve_54 hf (fun r2 hf => ?_)
      refine G.iload_n dX7_solve_57 rfl ?_
      refine G.bipush (v := (64 : Int32)) dX7_solve_58 (by decide) ?_
      refine G.imul dX7_solve_60 ?_
      refine G.iload_n dX7_solve_61 rfl ?_
      refine G.iadd dX7_solve_62 ?_
      refine G.aload_n dX7_solve_63 rfl ?_
      refine G.iload_n dX7_solve_64 rfl ?_
      refine G.iload_n dX7_solve_65 rfl ?_
      obtain ⟨x5, h3, e4, hf⟩ := bT1_spec hf
      refine G.callVi (M' := mX7_bestFrom) (ci := 6) (As := [.int v2, .int v3]) (st := [.int ((v2 * (64 : Int32)) + v3), .ref r2]) okX7_bestFrom viX7_bestFrom lkX7_54 rfl rfl rfl (Nat.le_of_ble_eq_true rfl) (Nat.le_of_ble_eq_true rfl) dX7_solve_66 (c_X7_bestFrom X d _ _ _ _ _ _ e4).1 (c_X7_bestFrom X d _ _ _ _ _ _ e4).2 ?_
      refine G.iast dX7_solve_69 hf (fun h6 hf => ?_)
      refine G.iinc (v := (v3 + 1)) (lv' := [(3, .int (v3 + 1)), (0, .ref v0), (1, .int v1), (2, .int v2)]) dX7_solve_70 rfl rfl (by decide) rfl ?_
      refine G.goto 48 dX7_solve_73 (by decide) ?_
      exact G.pick [1, 2, 3, 0] rfl (ih v0 v1 v2 (v3 + 1) h6 _ hf hE)
theorem l_X7_solve_L48 (X : SX) (d : Nat) (rv : Option Int32) (h' : AH) (n : Nat) : ∀ (v0 : Nat) (v1 : Int32) (v2 : Int32) (v3 : Int32) (h : AH)  (h1 : AH), f_X7_solve_L48 n v0 v1 v2 v3 h = some (h1) → G X mX7_solve (d + 2) 76 [(0, .ref v0), (1, .int v1), (2, .int v2)] [] h1 rv h' → G X mX7_solve (d + 2) 48 [(0, .ref v0), (1, .int v1), (2, .int v2), (3, .int v3)] [] h rv h' := lx_X7_solve_L48 X d n rv h'
def F_X7_solve_L42 (rec : Nat → Int32 → Int32 → AH → Option (AH)) (v0 : Nat) (v1 : Int32) (v2 : Int32) (h : AH) : Option (AH) := if v2 < 0 then (some (h)) else ((f_X7_solve_L48 1000000 v0 v1 v2 (0 : Int32) h).bind fun h2 => rec v0 v1 (v2 + (-1)) h2)
def f_X7_solve_L42 : Nat → Nat → Int32 → Int32 → AH → Option (AH)
  | 0 => fun _ _ _ _ => none
  | n + 1 => F_X7_solve_L42 (f_X7_solve_L42 n)
set_option maxRecDepth 100000 in
set_option maxHeartbeats 4000000 in
theorem lx_X7_solve_L42 (X : SX) (d : Nat) : ∀ n (rv : Option Int32) (h' : AH), ∀ (v0 : Nat) (v1 : Int32) (v2 : Int32) (h : AH)  (h1 : AH), f_X7_solve_L42 n v0 v1 v2 h = some (h1) → G X mX7_solve (d + 2) 82 [] [] h1 rv h' → G X mX7_solve (d + 2) 42 [(0, .ref v0), (1, .int v1), (2, .int v2)] [] h rv h' := by
  intro n
  induction n with
  | zero =>
    intro rv h' v0 v1 v2 h h1 hf hE
    cases hf
  | succ n ihf =>
    intro rv h' v0 v1 v2 h h1 hf hE
    replace hf : F_X7_solve_L42 (f_X7_solve_L42 n) v0 v1 v2 h = some (h1) := hf
    unfold F_X7_solve_L42 at hf
    have ih := ihf rv h'
    refine G.iload_n dX7_solve_42 rfl ?_
    refine G.if_lt 82 dX7_solve_43 (by decide) (fun c1 => ?_) (fun c1 => ?_)
    · rw [if_pos c1] at hf
      have w0 := Option.some.inj hf
      subst w0
      exact G.pick [] rfl hE
    · rw [if_neg c1] at hf
      refine G.iconst (v := (0 : Int32)) dX7_solve_46 (by decide) ?_
      refine G.istore_n (lv' := [(3, .int (0 : Int32)), (0, .ref v0), (1, .int v1), (2, .int v2)]) dX7_solve_47 (by decide) rfl ?_
      obtain ⟨h2, e3, hf⟩ := Option.bind_eq_some_iff.mp hf
      refine G.pick [1, 2, 3, 0] rfl (l_X7_solve_L48 X d _ _ 1000000 v0 v1 v2 (0 : Int32) h h2 e3 ?_)
      refine G.iinc (v := (v2 + (-1))) (lv' := [(2, .int (v2 + (-1))), (0, .ref v0), (1, .int v1)]) dX7_solve_76 rfl rfl (by decide) rfl ?_
      refine G.goto 42 dX7_solve_79 (by decide) ?_
      exact G.pick [1, 2, 0] rfl (ih v0 v1 (v2 + (-1)) h2 _ hf hE)
theorem l_X7_solve_L42 (X : SX) (d : Nat) (rv : Option Int32) (h' : AH) (n : Nat) : ∀ (v0 : Nat) (v1 : Int32) (v2 : Int32) (h : AH)  (h1 : AH), f_X7_solve_L42 n v0 v1 v2 h = some (h1) → G X mX7_solve (d + 2) 82 [] [] h1 rv h' → G X mX7_solve (d + 2) 42 [(0, .ref v0), (1, .int v1), (2, .int v2)] [] h rv h' := lx_X7_solve_L42 X d n rv h'
def f_X7_solve (a0 : Nat) (h : AH) : Option (AH) := if isO h 6 a0 = true then ((gi h 6 a0 3).bind fun x1 => (f_X7_solve_L9 1000000 a0 ((1 : Int32) <<< (x1 &&& 31)) (0 : Int32) h).bind fun h2 => (gi h2 6 a0 2).bind fun x4 => (f_X7_solve_L42 1000000 a0 ((1 : Int32) <<< (x1 &&& 31)) (x4 - (1 : Int32)) h2).bind fun h5 => some h5) else none
set_option maxRecDepth 100000 in
set_option maxHeartbeats 4000000 in
theorem c_X7_solve (X : SX) (d : Nat) (a0 : Nat) (h : AH) (h' : AH) (hf : f_X7_solve a0 h = some h') : isO h 6 a0 = true ∧ G X mX7_solve (d + 2) 0 [(0, .ref a0)] [] h none h' := by
  unfold f_X7_solve at hf
  by_cases ho : isO h 6 a0 = true
  · rw [if_pos ho] at hf
    refine ⟨ho, ?_⟩
    refine G.iconst (v := (1 : Int32)) dX7_solve_0 (by decide) ?_
    refine G.aload_n dX7_solve_1 rfl ?_
    refine G.geti flX7_45 dX7_solve_2 hf (fun x1 hf => ?_)
    refine G.ishl dX7_solve_5 ?_
    refine G.istore_n (lv' := [(1, .int ((1 : Int32) <<< (x1 &&& 31))), (0, .ref a0)]) dX7_solve_6 (by decide) rfl ?_
    refine G.iconst (v := (0 : Int32)) dX7_solve_7 (by decide) ?_
    refine G.istore_n (lv' := [(2, .int (0 : Int32)), (1, .int ((1 : Int32) <<< (x1 &&& 31))), (0, .ref a0)]) dX7_solve_8 (by decide) rfl ?_
    obtain ⟨h2, e3, hf⟩ := Option.bind_eq_some_iff.mp hf
    refine G.pick [2, 1, 0] rfl (l_X7_solve_L9 X d _ _ 1000000 a0 ((1 : Int32) <<< (x1 &&& 31)) (0 : Int32) h h2 e3 ?_)
    refine G.aload_n dX7_solve_35 rfl ?_
    refine G.geti flX7_41 dX7_solve_36 hf (fun x4 hf => ?_)
    refine G.iconst (v := (1 : Int32)) dX7_solve_39 (by decide) ?_
    refine G.isub dX7_solve_40 ?_
    refine G.istore_n (lv' := [(2, .int (x4 - (1 : Int32))), (0, .ref a0), (1, .int ((1 : Int32) <<< (x1 &&& 31)))]) dX7_solve_41 (by decide) rfl ?_
    obtain ⟨h5, e6, hf⟩ := Option.bind_eq_some_iff.mp hf
    refine G.pick [1, 2, 0] rfl (l_X7_solve_L42 X d _ _ 1000000 a0 ((1 : Int32) <<< (x1 &&& 31)) (x4 - (1 : Int32)) h2 h5 e6 ?_)
    have hq := Option.some.inj hf
    subst hq
    exact G.vret rfl dX7_solve_82
  · rw [if_neg ho] at hf
    cases hf
/-! X7_mostAsleep -/
theorem dX7_mostAsleep_0 : decode cX7_mostAsleep 0 = .ok (.aload_n 0, 1) := by decide +kernel
theorem dX7_mostAsleep_1 : decode cX7_mostAsleep 1 = .ok (.aload_n 1, 1) := by decide +kernel
theorem dX7_mostAsleep_2 : decode cX7_mostAsleep 2 = .ok (.iconst 1, 1) := by decide +kernel
theorem dX7_mostAsleep_3 : decode cX7_mostAsleep 3 = .ok (.invokevirtual 18, 3) := by decide +kernel
theorem dX7_mostAsleep_6 : decode cX7_mostAsleep 6 = .ok (.aload_n 0, 1) := by decide +kernel
theorem dX7_mostAsleep_7 : decode cX7_mostAsleep 7 = .ok (.invokevirtual 22, 3) := by decide +kernel
theorem dX7_mostAsleep_10 : decode cX7_mostAsleep 10 = .ok (.aload_n 0, 1) := by decide +kernel
theorem dX7_mostAsleep_11 : decode cX7_mostAsleep 11 = .ok (.getfield 15, 3) := by decide +kernel
theorem dX7_mostAsleep_14 : decode cX7_mostAsleep 14 = .ok (.iconst 0, 1) := by decide +kernel
theorem dX7_mostAsleep_15 : decode cX7_mostAsleep 15 = .ok (.iaload, 1) := by decide +kernel
theorem dX7_mostAsleep_16 : decode cX7_mostAsleep 16 = .ok (.ireturn, 1) := by decide +kernel
def f_X7_mostAsleep (a0 : Nat) (a1 : Nat) (h : AH) : Option (Int32 × AH) := if isO h 6 a0 = true then ((f_X7_weigh a0 a1 (1 : Int32) h).bind fun h1 => (f_X7_solve a0 h1).bind fun h3 => (gr h3 6 a0 1).bind fun r5 => (ai h3 0 r5 (0 : Int32)).bind fun x6 => some (x6, h3)) else none
set_option maxRecDepth 100000 in
set_option maxHeartbeats 4000000 in
theorem c_X7_mostAsleep (X : SX) (d : Nat) (a0 : Nat) (a1 : Nat) (h : AH) (rr : Int32) (h' : AH) (hf : f_X7_mostAsleep a0 a1 h = some (rr, h')) : isO h 6 a0 = true ∧ G X mX7_mostAsleep (d + 5) 0 [(0, .ref a0), (1, .ref a1)] [] h (some rr) h' := by
  unfold f_X7_mostAsleep at hf
  by_cases ho : isO h 6 a0 = true
  · rw [if_pos ho] at hf
    refine ⟨ho, ?_⟩
    refine G.aload_n dX7_mostAsleep_0 rfl ?_
    refine G.aload_n dX7_mostAsleep_1 rfl ?_
    refine G.iconst (v := (1 : Int32)) dX7_mostAsleep_2 (by decide) ?_
    obtain ⟨h1, e2, hf⟩ := Option.bind_eq_some_iff.mp hf
    refine G.callVv (M' := mX7_weigh) (ci := 6) (As := [.ref a1, .int (1 : Int32)]) (st := []) okX7_weigh viX7_weigh lkX7_18 rfl rfl rfl (Nat.le_of_ble_eq_true rfl) (Nat.le_of_ble_eq_true rfl) dX7_mostAsleep_3 (c_X7_weigh X d _ _ _ _ _ e2).1 (c_X7_weigh X d _ _ _ _ _ e2).2 ?_
    refine G.aload_n dX7_mostAsleep_6 rfl ?_
    obtain ⟨h3, e4, hf⟩ := Option.bind_eq_some_iff.mp hf
    refine G.callVv (M' := mX7_solve) (ci := 6) (As := []) (st := []) okX7_solve viX7_solve lkX7_22 rfl rfl rfl (Nat.le_of_ble_eq_true rfl) (Nat.le_of_ble_eq_true rfl) dX7_mostAsleep_7 (c_X7_solve X (d + 2) _ _ _ e4).1 (c_X7_solve X (d + 2) _ _ _ e4).2 ?_
    refine G.aload_n dX7_mostAsleep_10 rfl ?_
    refine G.getr flX7_15 dX7_mostAsleep_11 hf (fun r5 hf => ?_)
    refine G.iconst (v := (0 : Int32)) dX7_mostAsleep_14 (by decide) ?_
    refine G.iald dX7_mostAsleep_15 hf (fun x6 hf => ?_)
    obtain ⟨hq1, hq2⟩ := Prod.mk.inj (Option.some.inj hf)
    subst hq1
    subst hq2
    exact G.iret rfl rfl dX7_mostAsleep_16
  · rw [if_neg ho] at hf
    cases hf
/-! X5_eveningsTillFree -/
theorem dX5_eveningsTillFree_0 : decode cX5_eveningsTillFree 0 = .ok (.aload_n 0, 1) := by decide +kernel
theorem dX5_eveningsTillFree_1 : decode cX5_eveningsTillFree 1 = .ok (.getfield 21, 3) := by decide +kernel
theorem dX5_eveningsTillFree_4 : decode cX5_eveningsTillFree 4 = .ok (.getfield 25, 3) := by decide +kernel
theorem dX5_eveningsTillFree_7 : decode cX5_eveningsTillFree 7 = .ok (.iload_n 1, 1) := by decide +kernel
theorem dX5_eveningsTillFree_8 : decode cX5_eveningsTillFree 8 = .ok (.iaload, 1) := by decide +kernel
theorem dX5_eveningsTillFree_9 : decode cX5_eveningsTillFree 9 = .ok (.istore_n 2, 1) := by decide +kernel
theorem dX5_eveningsTillFree_10 : decode cX5_eveningsTillFree 10 = .ok (.iconst 0, 1) := by decide +kernel
theorem dX5_eveningsTillFree_11 : decode cX5_eveningsTillFree 11 = .ok (.istore_n 3, 1) := by decide +kernel
theorem dX5_eveningsTillFree_12 : decode cX5_eveningsTillFree 12 = .ok (.iload_n 2, 1) := by decide +kernel
theorem dX5_eveningsTillFree_13 : decode cX5_eveningsTillFree 13 = .ok (.ifCond .le 41, 3) := by decide +kernel
theorem dX5_eveningsTillFree_16 : decode cX5_eveningsTillFree 16 = .ok (.iload_n 3, 1) := by decide +kernel
theorem dX5_eveningsTillFree_17 : decode cX5_eveningsTillFree 17 = .ok (.sipush 198, 3) := by decide +kernel
theorem dX5_eveningsTillFree_20 : decode cX5_eveningsTillFree 20 = .ok (.if_icmp .ge 34, 3) := by decide +kernel
theorem dX5_eveningsTillFree_23 : decode cX5_eveningsTillFree 23 = .ok (.iload_n 2, 1) := by decide +kernel
theorem dX5_eveningsTillFree_24 : decode cX5_eveningsTillFree 24 = .ok (.aload_n 0, 1) := by decide +kernel
theorem dX5_eveningsTillFree_25 : decode cX5_eveningsTillFree 25 = .ok (.getfield 9, 3) := by decide +kernel
theorem dX5_eveningsTillFree_28 : decode cX5_eveningsTillFree 28 = .ok (.getfield 50, 3) := by decide +kernel
theorem dX5_eveningsTillFree_31 : decode cX5_eveningsTillFree 31 = .ok (.aload_n 0, 1) := by decide +kernel
theorem dX5_eveningsTillFree_32 : decode cX5_eveningsTillFree 32 = .ok (.iload_n 1, 1) := by decide +kernel
theorem dX5_eveningsTillFree_33 : decode cX5_eveningsTillFree 33 = .ok (.aload_n 0, 1) := by decide +kernel
theorem dX5_eveningsTillFree_34 : decode cX5_eveningsTillFree 34 = .ok (.getfield 21, 3) := by decide +kernel
theorem dX5_eveningsTillFree_37 : decode cX5_eveningsTillFree 37 = .ok (.getfield 53, 3) := by decide +kernel
theorem dX5_eveningsTillFree_40 : decode cX5_eveningsTillFree 40 = .ok (.iload_n 3, 1) := by decide +kernel
theorem dX5_eveningsTillFree_41 : decode cX5_eveningsTillFree 41 = .ok (.iadd, 1) := by decide +kernel
theorem dX5_eveningsTillFree_42 : decode cX5_eveningsTillFree 42 = .ok (.invokevirtual 56, 3) := by decide +kernel
theorem dX5_eveningsTillFree_45 : decode cX5_eveningsTillFree 45 = .ok (.imul, 1) := by decide +kernel
theorem dX5_eveningsTillFree_46 : decode cX5_eveningsTillFree 46 = .ok (.isub, 1) := by decide +kernel
theorem dX5_eveningsTillFree_47 : decode cX5_eveningsTillFree 47 = .ok (.istore_n 2, 1) := by decide +kernel
theorem dX5_eveningsTillFree_48 : decode cX5_eveningsTillFree 48 = .ok (.iinc 3 1, 3) := by decide +kernel
theorem dX5_eveningsTillFree_51 : decode cX5_eveningsTillFree 51 = .ok (.goto (-39), 3) := by decide +kernel
theorem dX5_eveningsTillFree_54 : decode cX5_eveningsTillFree 54 = .ok (.iload_n 3, 1) := by decide +kernel
theorem dX5_eveningsTillFree_55 : decode cX5_eveningsTillFree 55 = .ok (.ireturn, 1) := by decide +kernel
def F_X5_eveningsTillFree_L12 (rec : Nat → Int32 → Int32 → Int32 → AH → Option (Int32 × AH)) (v0 : Nat) (v1 : Int32) (v2 : Int32) (v3 : Int32) (h : AH) : Option (Int32 × AH) := if v2 ≤ 0 then (some (v3, h)) else (if (198 : Int32) ≤ v3 then (some (v3, h)) else ((gr h 3 v0 1).bind fun r3 => (gi h 9 r3 8).bind fun x4 => (gr h 3 v0 0).bind fun r5 => (gi h 4 r5 8).bind fun x6 => bT1 (f_X3_songPays v0 v1 (x6 + v3) h) fun x9 h7 => rec v0 v1 (v2 - (x4 * x9)) (v3 + 1) h7))
def f_X5_eveningsTillFree_L12 : Nat → Nat → Int32 → Int32 → Int32 → AH → Option (Int32 × AH)
  | 0 => fun _ _ _ _ _ => none
  | n + 1 => F_X5_eveningsTillFree_L12 (f_X5_eveningsTillFree_L12 n)
set_option maxRecDepth 100000 in
set_option maxHeartbeats 4000000 in
theorem lx_X5_eveningsTillFree_L12 (X : SX) (d : Nat) : ∀ n (rv : Option Int32) (h' : AH), ∀ (v0 : Nat) (v1 : Int32) (v2 : Int32) (v3 : Int32) (h : AH) (y3 : Int32) (h1 : AH), f_X5_eveningsTillFree_L12 n v0 v1 v2 v3 h = some (y3, h1) → G X mX5_eveningsTillFree (d + 1) 54 [(3, .int y3)] [] h1 rv h' → G X mX5_eveningsTillFree (d + 1) 12 [(0, .ref v0), (1, .int v1), (2, .int v2), (3, .int v3)] [] h rv h' := by
  intro n
  induction n with
  | zero =>
    intro rv h' v0 v1 v2 v3 h y3 h1 hf hE
    cases hf
  | succ n ihf =>
    intro rv h' v0 v1 v2 v3 h y3 h1 hf hE
    replace hf : F_X5_eveningsTillFree_L12 (f_X5_eveningsTillFree_L12 n) v0 v1 v2 v3 h = some (y3, h1) := hf
    unfold F_X5_eveningsTillFree_L12 at hf
    have ih := ihf rv h'
    refine G.iload_n dX5_eveningsTillFree_12 rfl ?_
    refine G.if_le 54 dX5_eveningsTillFree_13 (by decide) (fun c1 => ?_) (fun c1 => ?_)
    · rw [if_pos c1] at hf
      obtain ⟨u0, w1⟩ := Prod.mk.inj (Option.some.inj hf)
      subst u0
      subst w1
      exact G.pick [3] rfl hE
    · rw [if_neg c1] at hf
      refine G.iload_n dX5_eveningsTillFree_16 rfl ?_
      refine G.sipush (v := (198 : Int32)) dX5_eveningsTillFree_17 (by decide) ?_
      refine G.icmp_ge 54 dX5_eveningsTillFree_20 (by decide) (fun c2 => ?_) (fun c2 => ?_)
      · rw [if_pos c2] at hf
        obtain ⟨u0, w1⟩ := Prod.mk.inj (Option.some.inj hf)
        subst u0
        subst w1
        exact G.pick [3] rfl hE
      · rw [if_neg c2] at hf
        refine G.iload_n dX5_eveningsTillFree_23 rfl ?_
        refine G.aload_n dX5_eveningsTillFree_24 rfl ?_
        refine G.getr flX5_9 dX5_eveningsTillFree_25 hf (fun r3 hf => ?_)
        refine G.geti flX5_50 dX5_eveningsTillFree_28 hf (fun x4 hf => ?_)
        refine G.aload_n dX5_eveningsTillFree_31 rfl ?_
        refine G.iload_n dX5_eveningsTillFree_32 rfl ?_
        refine G.aload_n dX5_eveningsTillFree_33 rfl ?_
        refine G.getr flX5_21 dX5_eveningsTillFree_34 hf (fun r5 hf => ?_)
        refine G.geti flX5_53 dX5_eveningsTillFree_37 hf (fun x6 hf => ?_)
        refine G.iload_n dX5_eveningsTillFree_40 rfl ?_
        refine G.iadd dX5_eveningsTillFree_41 ?_
        obtain ⟨x9, h7, e8, hf⟩ := bT1_spec hf
        refine G.callVi (M' := mX3_songPays) (ci := 3) (As := [.int v1, .int (x6 + v3)]) (st := [.int x4, .int v2]) okX3_songPays viX3_songPays lkX5_56 rfl rfl rfl (Nat.le_of_ble_eq_true rfl) (Nat.le_of_ble_eq_true rfl) dX5_eveningsTillFree_42 (c_X3_songPays X d _ _ _ _ _ _ e8).1 (c_X3_songPays X d _ _ _ _ _ _ e8).2 ?_
        refine G.imul dX5_eveningsTillFree_45 ?_
        refine G.isub dX5_eveningsTillFree_46 ?_
        refine G.istore_n (lv' := [(2, .int (v2 - (x4 * x9))), (0, .ref v0), (1, .int v1), (3, .int v3)]) dX5_eveningsTillFree_47 (by decide) rfl ?_
        refine G.iinc (v := (v3 + 1)) (lv' := [(3, .int (v3 + 1)), (2, .int (v2 - (x4 * x9))), (0, .ref v0), (1, .int v1)]) dX5_eveningsTillFree_48 rfl rfl (by decide) rfl ?_
        refine G.goto 12 dX5_eveningsTillFree_51 (by decide) ?_
        exact G.pick [2, 3, 1, 0] rfl (ih v0 v1 (v2 - (x4 * x9)) (v3 + 1) h7 _ _ hf hE)
theorem l_X5_eveningsTillFree_L12 (X : SX) (d : Nat) (rv : Option Int32) (h' : AH) (n : Nat) : ∀ (v0 : Nat) (v1 : Int32) (v2 : Int32) (v3 : Int32) (h : AH) (y3 : Int32) (h1 : AH), f_X5_eveningsTillFree_L12 n v0 v1 v2 v3 h = some (y3, h1) → G X mX5_eveningsTillFree (d + 1) 54 [(3, .int y3)] [] h1 rv h' → G X mX5_eveningsTillFree (d + 1) 12 [(0, .ref v0), (1, .int v1), (2, .int v2), (3, .int v3)] [] h rv h' := lx_X5_eveningsTillFree_L12 X d n rv h'
def f_X5_eveningsTillFree (a0 : Nat) (a1 : Int32) (h : AH) : Option (Int32 × AH) := (gr h 3 a0 0).bind fun r1 => (gr h 4 r1 1).bind fun r2 => (ai h 0 r2 a1).bind fun x3 => bT1 (f_X5_eveningsTillFree_L12 1000000 a0 a1 x3 (0 : Int32) h) fun y6 h4 => some (y6, h4)
set_option maxRecDepth 100000 in
set_option maxHeartbeats 4000000 in
theorem c_X5_eveningsTillFree (X : SX) (d : Nat) (a0 : Nat) (a1 : Int32) (h : AH) (rr : Int32) (h' : AH) (hf : f_X5_eveningsTillFree a0 a1 h = some (rr, h')) : G X mX5_eveningsTillFree (d + 1) 0 [(0, .ref a0), (1, .int a1)] [] h (some rr) h' := by
  unfold f_X5_eveningsTillFree at hf
  refine G.aload_n dX5_eveningsTillFree_0 rfl ?_
  refine G.getr flX5_21 dX5_eveningsTillFree_1 hf (fun r1 hf => ?_)
  refine G.getr flX5_25 dX5_eveningsTillFree_4 hf (fun r2 hf => ?_)
  refine G.iload_n dX5_eveningsTillFree_7 rfl ?_
  refine G.iald dX5_eveningsTillFree_8 hf (fun x3 hf => ?_)
  refine G.istore_n (lv' := [(2, .int x3), (0, .ref a0), (1, .int a1)]) dX5_eveningsTillFree_9 (by decide) rfl ?_
  refine G.iconst (v := (0 : Int32)) dX5_eveningsTillFree_10 (by decide) ?_
  refine G.istore_n (lv' := [(3, .int (0 : Int32)), (2, .int x3), (0, .ref a0), (1, .int a1)]) dX5_eveningsTillFree_11 (by decide) rfl ?_
  obtain ⟨y6, h4, e5, hf⟩ := bT1_spec hf
  refine G.pick [2, 3, 1, 0] rfl (l_X5_eveningsTillFree_L12 X d _ _ 1000000 a0 a1 x3 (0 : Int32) h y6 h4 e5 ?_)
  refine G.iload_n dX5_eveningsTillFree_54 rfl ?_
  obtain ⟨hq1, hq2⟩ := Prod.mk.inj (Option.some.inj hf)
  subst hq1
  subst hq2
  exact G.iret rfl rfl dX5_eveningsTillFree_55
/-! X5_eveningsTillDue -/
theorem dX5_eveningsTillDue_0 : decode cX5_eveningsTillDue 0 = .ok (.bipush 50, 2) := by decide +kernel
theorem dX5_eveningsTillDue_2 : decode cX5_eveningsTillDue 2 = .ok (.aload_n 0, 1) := by decide +kernel
theorem dX5_eveningsTillDue_3 : decode cX5_eveningsTillDue 3 = .ok (.getfield 21, 3) := by decide +kernel
theorem dX5_eveningsTillDue_6 : decode cX5_eveningsTillDue 6 = .ok (.getfield 59, 3) := by decide +kernel
theorem dX5_eveningsTillDue_9 : decode cX5_eveningsTillDue 9 = .ok (.iload_n 1, 1) := by decide +kernel
theorem dX5_eveningsTillDue_10 : decode cX5_eveningsTillDue 10 = .ok (.iaload, 1) := by decide +kernel
theorem dX5_eveningsTillDue_11 : decode cX5_eveningsTillDue 11 = .ok (.isub, 1) := by decide +kernel
theorem dX5_eveningsTillDue_12 : decode cX5_eveningsTillDue 12 = .ok (.istore_n 2, 1) := by decide +kernel
theorem dX5_eveningsTillDue_13 : decode cX5_eveningsTillDue 13 = .ok (.iconst 4, 1) := by decide +kernel
theorem dX5_eveningsTillDue_14 : decode cX5_eveningsTillDue 14 = .ok (.iload_n 2, 1) := by decide +kernel
theorem dX5_eveningsTillDue_15 : decode cX5_eveningsTillDue 15 = .ok (.imul, 1) := by decide +kernel
theorem dX5_eveningsTillDue_16 : decode cX5_eveningsTillDue 16 = .ok (.aload_n 0, 1) := by decide +kernel
theorem dX5_eveningsTillDue_17 : decode cX5_eveningsTillDue 17 = .ok (.getfield 21, 3) := by decide +kernel
theorem dX5_eveningsTillDue_20 : decode cX5_eveningsTillDue 20 = .ok (.getfield 53, 3) := by decide +kernel
theorem dX5_eveningsTillDue_23 : decode cX5_eveningsTillDue 23 = .ok (.iconst 4, 1) := by decide +kernel
theorem dX5_eveningsTillDue_24 : decode cX5_eveningsTillDue 24 = .ok (.irem, 1) := by decide +kernel
theorem dX5_eveningsTillDue_25 : decode cX5_eveningsTillDue 25 = .ok (.isub, 1) := by decide +kernel
theorem dX5_eveningsTillDue_26 : decode cX5_eveningsTillDue 26 = .ok (.ireturn, 1) := by decide +kernel
def f_X5_eveningsTillDue (a0 : Nat) (a1 : Int32) (h : AH) : Option (Int32 × AH) := (gr h 3 a0 0).bind fun r1 => (gr h 4 r1 0).bind fun r2 => (ai h 0 r2 a1).bind fun x3 => (gr h 3 a0 0).bind fun r4 => (gi h 4 r4 8).bind fun x5 => some ((((4 : Int32) * ((50 : Int32) - x3)) - (x5 - x5 / (4 : Int32) * (4 : Int32))), h)
set_option maxRecDepth 100000 in
set_option maxHeartbeats 4000000 in
theorem c_X5_eveningsTillDue (X : SX) (d : Nat) (a0 : Nat) (a1 : Int32) (h : AH) (rr : Int32) (h' : AH) (hf : f_X5_eveningsTillDue a0 a1 h = some (rr, h')) : G X mX5_eveningsTillDue d 0 [(0, .ref a0), (1, .int a1)] [] h (some rr) h' := by
  unfold f_X5_eveningsTillDue at hf
  refine G.bipush (v := (50 : Int32)) dX5_eveningsTillDue_0 (by decide) ?_
  refine G.aload_n dX5_eveningsTillDue_2 rfl ?_
  refine G.getr flX5_21 dX5_eveningsTillDue_3 hf (fun r1 hf => ?_)
  refine G.getr flX5_59 dX5_eveningsTillDue_6 hf (fun r2 hf => ?_)
  refine G.iload_n dX5_eveningsTillDue_9 rfl ?_
  refine G.iald dX5_eveningsTillDue_10 hf (fun x3 hf => ?_)
  refine G.isub dX5_eveningsTillDue_11 ?_
  refine G.istore_n (lv' := [(2, .int ((50 : Int32) - x3)), (0, .ref a0), (1, .int a1)]) dX5_eveningsTillDue_12 (by decide) rfl ?_
  refine G.iconst (v := (4 : Int32)) dX5_eveningsTillDue_13 (by decide) ?_
  refine G.iload_n dX5_eveningsTillDue_14 rfl ?_
  refine G.imul dX5_eveningsTillDue_15 ?_
  refine G.aload_n dX5_eveningsTillDue_16 rfl ?_
  refine G.getr flX5_21 dX5_eveningsTillDue_17 hf (fun r4 hf => ?_)
  refine G.geti flX5_53 dX5_eveningsTillDue_20 hf (fun x5 hf => ?_)
  refine G.iconst (v := (4 : Int32)) dX5_eveningsTillDue_23 (by decide) ?_
  refine G.irem dX5_eveningsTillDue_24 (by decide) ?_
  refine G.isub dX5_eveningsTillDue_25 ?_
  obtain ⟨hq1, hq2⟩ := Prod.mk.inj (Option.some.inj hf)
  subst hq1
  subst hq2
  exact G.iret rfl rfl dX5_eveningsTillDue_26
/-! X5_willDefault -/
theorem dX5_willDefault_0 : decode cX5_willDefault 0 = .ok (.iconst 0, 1) := by decide +kernel
theorem dX5_willDefault_1 : decode cX5_willDefault 1 = .ok (.istore_n 1, 1) := by decide +kernel
theorem dX5_willDefault_2 : decode cX5_willDefault 2 = .ok (.iconst 0, 1) := by decide +kernel
theorem dX5_willDefault_3 : decode cX5_willDefault 3 = .ok (.istore_n 2, 1) := by decide +kernel
theorem dX5_willDefault_4 : decode cX5_willDefault 4 = .ok (.iload_n 2, 1) := by decide +kernel
theorem dX5_willDefault_5 : decode cX5_willDefault 5 = .ok (.aload_n 0, 1) := by decide +kernel
theorem dX5_willDefault_6 : decode cX5_willDefault 6 = .ok (.getfield 9, 3) := by decide +kernel
theorem dX5_willDefault_9 : decode cX5_willDefault 9 = .ok (.getfield 15, 3) := by decide +kernel
theorem dX5_willDefault_12 : decode cX5_willDefault 12 = .ok (.if_icmp .ge 42, 3) := by decide +kernel
theorem dX5_willDefault_15 : decode cX5_willDefault 15 = .ok (.aload_n 0, 1) := by decide +kernel
theorem dX5_willDefault_16 : decode cX5_willDefault 16 = .ok (.getfield 21, 3) := by decide +kernel
theorem dX5_willDefault_19 : decode cX5_willDefault 19 = .ok (.getfield 59, 3) := by decide +kernel
theorem dX5_willDefault_22 : decode cX5_willDefault 22 = .ok (.iload_n 2, 1) := by decide +kernel
theorem dX5_willDefault_23 : decode cX5_willDefault 23 = .ok (.iaload, 1) := by decide +kernel
theorem dX5_willDefault_24 : decode cX5_willDefault 24 = .ok (.bipush 50, 2) := by decide +kernel
theorem dX5_willDefault_26 : decode cX5_willDefault 26 = .ok (.if_icmp .ge 22, 3) := by decide +kernel
theorem dX5_willDefault_29 : decode cX5_willDefault 29 = .ok (.aload_n 0, 1) := by decide +kernel
theorem dX5_willDefault_30 : decode cX5_willDefault 30 = .ok (.iload_n 2, 1) := by decide +kernel
theorem dX5_willDefault_31 : decode cX5_willDefault 31 = .ok (.invokestatic 62, 3) := by decide +kernel
theorem dX5_willDefault_34 : decode cX5_willDefault 34 = .ok (.aload_n 0, 1) := by decide +kernel
theorem dX5_willDefault_35 : decode cX5_willDefault 35 = .ok (.iload_n 2, 1) := by decide +kernel
theorem dX5_willDefault_36 : decode cX5_willDefault 36 = .ok (.invokestatic 68, 3) := by decide +kernel
theorem dX5_willDefault_39 : decode cX5_willDefault 39 = .ok (.if_icmp .le 9, 3) := by decide +kernel
theorem dX5_willDefault_42 : decode cX5_willDefault 42 = .ok (.iload_n 1, 1) := by decide +kernel
theorem dX5_willDefault_43 : decode cX5_willDefault 43 = .ok (.iconst 1, 1) := by decide +kernel
theorem dX5_willDefault_44 : decode cX5_willDefault 44 = .ok (.iload_n 2, 1) := by decide +kernel
theorem dX5_willDefault_45 : decode cX5_willDefault 45 = .ok (.ishl, 1) := by decide +kernel
theorem dX5_willDefault_46 : decode cX5_willDefault 46 = .ok (.ior, 1) := by decide +kernel
theorem dX5_willDefault_47 : decode cX5_willDefault 47 = .ok (.istore_n 1, 1) := by decide +kernel
theorem dX5_willDefault_48 : decode cX5_willDefault 48 = .ok (.iinc 2 1, 3) := by decide +kernel
theorem dX5_willDefault_51 : decode cX5_willDefault 51 = .ok (.goto (-47), 3) := by decide +kernel
theorem dX5_willDefault_54 : decode cX5_willDefault 54 = .ok (.iload_n 1, 1) := by decide +kernel
theorem dX5_willDefault_55 : decode cX5_willDefault 55 = .ok (.ireturn, 1) := by decide +kernel
def F_X5_willDefault_L4 (rec : Nat → Int32 → Int32 → AH → Option (Int32 × AH)) (v0 : Nat) (v1 : Int32) (v2 : Int32) (h : AH) : Option (Int32 × AH) := (gr h 3 v0 1).bind fun r1 => (gi h 9 r1 9).bind fun x2 => if x2 ≤ v2 then (some (v1, h)) else ((gr h 3 v0 0).bind fun r4 => (gr h 4 r4 0).bind fun r5 => (ai h 0 r5 v2).bind fun x6 => if (50 : Int32) ≤ x6 then (rec v0 v1 (v2 + 1) h) else (bT1 (f_X5_eveningsTillFree v0 v2 h) fun x10 h8 => bT1 (f_X5_eveningsTillDue v0 v2 h8) fun x13 h11 => if x10 ≤ x13 then (rec v0 v1 (v2 + 1) h11) else (rec v0 (v1 ||| ((1 : Int32) <<< (v2 &&& 31))) (v2 + 1) h11)))
def f_X5_willDefault_L4 : Nat → Nat → Int32 → Int32 → AH → Option (Int32 × AH)
  | 0 => fun _ _ _ _ => none
  | n + 1 => F_X5_willDefault_L4 (f_X5_willDefault_L4 n)
set_option maxRecDepth 100000 in
set_option maxHeartbeats 4000000 in
theorem lx_X5_willDefault_L4 (X : SX) (d : Nat) : ∀ n (rv : Option Int32) (h' : AH), ∀ (v0 : Nat) (v1 : Int32) (v2 : Int32) (h : AH) (y1 : Int32) (h1 : AH), f_X5_willDefault_L4 n v0 v1 v2 h = some (y1, h1) → G X mX5_willDefault (d + 2) 54 [(1, .int y1)] [] h1 rv h' → G X mX5_willDefault (d + 2) 4 [(0, .ref v0), (1, .int v1), (2, .int v2)] [] h rv h' := by
  intro n
  induction n with
  | zero =>
    intro rv h' v0 v1 v2 h y1 h1 hf hE
    cases hf
  | succ n ihf =>
    intro rv h' v0 v1 v2 h y1 h1 hf hE
    replace hf : F_X5_willDefault_L4 (f_X5_willDefault_L4 n) v0 v1 v2 h = some (y1, h1) := hf
    unfold F_X5_willDefault_L4 at hf
    have ih := ihf rv h'
    refine G.iload_n dX5_willDefault_4 rfl ?_
    refine G.aload_n dX5_willDefault_5 rfl ?_
    refine G.getr flX5_9 dX5_willDefault_6 hf (fun r1 hf => ?_)
    refine G.geti flX5_15 dX5_willDefault_9 hf (fun x2 hf => ?_)
    refine G.icmp_ge 54 dX5_willDefault_12 (by decide) (fun c3 => ?_) (fun c3 => ?_)
    · rw [if_pos c3] at hf
      obtain ⟨u0, w1⟩ := Prod.mk.inj (Option.some.inj hf)
      subst u0
      subst w1
      exact G.pick [1] rfl hE
    · rw [if_neg c3] at hf
      refine G.aload_n dX5_willDefault_15 rfl ?_
      refine G.getr flX5_21 dX5_willDefault_16 hf (fun r4 hf => ?_)
      refine G.getr flX5_59 dX5_willDefault_19 hf (fun r5 hf => ?_)
      refine G.iload_n dX5_willDefault_22 rfl ?_
      refine G.iald dX5_willDefault_23 hf (fun x6 hf => ?_)
      refine G.bipush (v := (50 : Int32)) dX5_willDefault_24 (by decide) ?_
      refine G.icmp_ge 48 dX5_willDefault_26 (by decide) (fun c7 => ?_) (fun c7 => ?_)
      · rw [if_pos c7] at hf
        refine G.iinc (v := (v2 + 1)) (lv' := [(2, .int (v2 + 1)), (0, .ref v0), (1, .int v1)]) dX5_willDefault_48 rfl rfl (by decide) rfl ?_
        refine G.goto 4 dX5_willDefault_51 (by decide) ?_
        exact G.pick [1, 2, 0] rfl (ih v0 v1 (v2 + 1) h _ _ hf hE)
      · rw [if_neg c7] at hf
        refine G.aload_n dX5_willDefault_29 rfl ?_
        refine G.iload_n dX5_willDefault_30 rfl ?_
        obtain ⟨x10, h8, e9, hf⟩ := bT1_spec hf
        refine G.callSi (M' := mX5_eveningsTillFree) (As := [.ref v0, .int v2]) (st := []) okX5_eveningsTillFree vsX5_eveningsTillFree lkX5_62 rfl (Nat.le_of_ble_eq_true rfl) (Nat.le_of_ble_eq_true rfl) dX5_willDefault_31 (c_X5_eveningsTillFree X d _ _ _ _ _ e9) ?_
        refine G.aload_n dX5_willDefault_34 rfl ?_
        refine G.iload_n dX5_willDefault_35 rfl ?_
        obtain ⟨x13, h11, e12, hf⟩ := bT1_spec hf
        refine G.callSi (M' := mX5_eveningsTillDue) (As := [.ref v0, .int v2]) (st := [.int x10]) okX5_eveningsTillDue vsX5_eveningsTillDue lkX5_68 rfl (Nat.le_of_ble_eq_true rfl) (Nat.le_of_ble_eq_true rfl) dX5_willDefault_36 (c_X5_eveningsTillDue X (d + 1) _ _ _ _ _ e12) ?_
        refine G.icmp_le 48 dX5_willDefault_39 (by decide) (fun c14 => ?_) (fun c14 => ?_)
        · rw [if_pos c14] at hf
          refine G.iinc (v := (v2 + 1)) (lv' := [(2, .int (v2 + 1)), (0, .ref v0), (1, .int v1)]) dX5_willDefault_48 rfl rfl (by decide) rfl ?_
          refine G.goto 4 dX5_willDefault_51 (by decide) ?_
          exact G.pick [1, 2, 0] rfl (ih v0 v1 (v2 + 1) h11 _ _ hf hE)
        · rw [if_neg c14] at hf
          refine G.iload_n dX5_willDefault_42 rfl ?_
          refine G.iconst (v := (1 : Int32)) dX5_willDefault_43 (by decide) ?_
          refine G.iload_n dX5_willDefault_44 rfl ?_
          refine G.ishl dX5_willDefault_45 ?_
          refine G.ior dX5_willDefault_46 ?_
          refine G.istore_n (lv' := [(1, .int (v1 ||| ((1 : Int32) <<< (v2 &&& 31)))), (0, .ref v0), (2, .int v2)]) dX5_willDefault_47 (by decide) rfl ?_
          refine G.iinc (v := (v2 + 1)) (lv' := [(2, .int (v2 + 1)), (1, .int (v1 ||| ((1 : Int32) <<< (v2 &&& 31)))), (0, .ref v0)]) dX5_willDefault_48 rfl rfl (by decide) rfl ?_
          refine G.goto 4 dX5_willDefault_51 (by decide) ?_
          exact G.pick [2, 1, 0] rfl (ih v0 (v1 ||| ((1 : Int32) <<< (v2 &&& 31))) (v2 + 1) h11 _ _ hf hE)
theorem l_X5_willDefault_L4 (X : SX) (d : Nat) (rv : Option Int32) (h' : AH) (n : Nat) : ∀ (v0 : Nat) (v1 : Int32) (v2 : Int32) (h : AH) (y1 : Int32) (h1 : AH), f_X5_willDefault_L4 n v0 v1 v2 h = some (y1, h1) → G X mX5_willDefault (d + 2) 54 [(1, .int y1)] [] h1 rv h' → G X mX5_willDefault (d + 2) 4 [(0, .ref v0), (1, .int v1), (2, .int v2)] [] h rv h' := lx_X5_willDefault_L4 X d n rv h'
def f_X5_willDefault (a0 : Nat) (h : AH) : Option (Int32 × AH) := bT1 (f_X5_willDefault_L4 1000000 a0 (0 : Int32) (0 : Int32) h) fun y3 h1 => some (y3, h1)
set_option maxRecDepth 100000 in
set_option maxHeartbeats 4000000 in
theorem c_X5_willDefault (X : SX) (d : Nat) (a0 : Nat) (h : AH) (rr : Int32) (h' : AH) (hf : f_X5_willDefault a0 h = some (rr, h')) : G X mX5_willDefault (d + 2) 0 [(0, .ref a0)] [] h (some rr) h' := by
  unfold f_X5_willDefault at hf
  refine G.iconst (v := (0 : Int32)) dX5_willDefault_0 (by decide) ?_
  refine G.istore_n (lv' := [(1, .int (0 : Int32)), (0, .ref a0)]) dX5_willDefault_1 (by decide) rfl ?_
  refine G.iconst (v := (0 : Int32)) dX5_willDefault_2 (by decide) ?_
  refine G.istore_n (lv' := [(2, .int (0 : Int32)), (1, .int (0 : Int32)), (0, .ref a0)]) dX5_willDefault_3 (by decide) rfl ?_
  obtain ⟨y3, h1, e2, hf⟩ := bT1_spec hf
  refine G.pick [2, 1, 0] rfl (l_X5_willDefault_L4 X d _ _ 1000000 a0 (0 : Int32) (0 : Int32) h y3 h1 e2 ?_)
  refine G.iload_n dX5_willDefault_54 rfl ?_
  obtain ⟨hq1, hq2⟩ := Prod.mk.inj (Option.some.inj hf)
  subst hq1
  subst hq2
  exact G.iret rfl rfl dX5_willDefault_55
/-! X12_told -/
theorem dX12_told_0 : decode cX12_told 0 = .ok (.iload_n 1, 1) := by decide +kernel
theorem dX12_told_1 : decode cX12_told 1 = .ok (.tableswitch 271 0 18 #[91, 102, 113, 124, 135, 143, 154, 165, 173, 184, 195, 203, 211, 219, 227, 239, 247, 255, 263], 91) := by decide +kernel
theorem dX12_told_92 : decode cX12_told 92 = .ok (.aload_n 0, 1) := by decide +kernel
theorem dX12_told_93 : decode cX12_told 93 = .ok (.getfield 19, 3) := by decide +kernel
theorem dX12_told_96 : decode cX12_told 96 = .ok (.getfield 86, 3) := by decide +kernel
theorem dX12_told_99 : decode cX12_told 99 = .ok (.getfield 110, 3) := by decide +kernel
theorem dX12_told_102 : decode cX12_told 102 = .ok (.ireturn, 1) := by decide +kernel
theorem dX12_told_103 : decode cX12_told 103 = .ok (.aload_n 0, 1) := by decide +kernel
theorem dX12_told_104 : decode cX12_told 104 = .ok (.getfield 19, 3) := by decide +kernel
theorem dX12_told_107 : decode cX12_told 107 = .ok (.getfield 86, 3) := by decide +kernel
theorem dX12_told_110 : decode cX12_told 110 = .ok (.getfield 113, 3) := by decide +kernel
theorem dX12_told_113 : decode cX12_told 113 = .ok (.ireturn, 1) := by decide +kernel
theorem dX12_told_114 : decode cX12_told 114 = .ok (.aload_n 0, 1) := by decide +kernel
theorem dX12_told_115 : decode cX12_told 115 = .ok (.getfield 19, 3) := by decide +kernel
theorem dX12_told_118 : decode cX12_told 118 = .ok (.getfield 86, 3) := by decide +kernel
theorem dX12_told_121 : decode cX12_told 121 = .ok (.getfield 104, 3) := by decide +kernel
theorem dX12_told_124 : decode cX12_told 124 = .ok (.ireturn, 1) := by decide +kernel
theorem dX12_told_125 : decode cX12_told 125 = .ok (.aload_n 0, 1) := by decide +kernel
theorem dX12_told_126 : decode cX12_told 126 = .ok (.getfield 19, 3) := by decide +kernel
theorem dX12_told_129 : decode cX12_told 129 = .ok (.getfield 86, 3) := by decide +kernel
theorem dX12_told_132 : decode cX12_told 132 = .ok (.getfield 116, 3) := by decide +kernel
theorem dX12_told_135 : decode cX12_told 135 = .ok (.ireturn, 1) := by decide +kernel
theorem dX12_told_136 : decode cX12_told 136 = .ok (.aload_n 0, 1) := by decide +kernel
theorem dX12_told_137 : decode cX12_told 137 = .ok (.getfield 10, 3) := by decide +kernel
theorem dX12_told_140 : decode cX12_told 140 = .ok (.getfield 73, 3) := by decide +kernel
theorem dX12_told_143 : decode cX12_told 143 = .ok (.ireturn, 1) := by decide +kernel
theorem dX12_told_144 : decode cX12_told 144 = .ok (.aload_n 0, 1) := by decide +kernel
theorem dX12_told_145 : decode cX12_told 145 = .ok (.getfield 19, 3) := by decide +kernel
theorem dX12_told_148 : decode cX12_told 148 = .ok (.getfield 119, 3) := by decide +kernel
theorem dX12_told_151 : decode cX12_told 151 = .ok (.getfield 123, 3) := by decide +kernel
theorem dX12_told_154 : decode cX12_told 154 = .ok (.ireturn, 1) := by decide +kernel
theorem dX12_told_155 : decode cX12_told 155 = .ok (.aload_n 0, 1) := by decide +kernel
theorem dX12_told_156 : decode cX12_told 156 = .ok (.getfield 19, 3) := by decide +kernel
theorem dX12_told_159 : decode cX12_told 159 = .ok (.getfield 119, 3) := by decide +kernel
theorem dX12_told_162 : decode cX12_told 162 = .ok (.getfield 128, 3) := by decide +kernel
theorem dX12_told_165 : decode cX12_told 165 = .ok (.ireturn, 1) := by decide +kernel
theorem dX12_told_166 : decode cX12_told 166 = .ok (.aload_n 0, 1) := by decide +kernel
theorem dX12_told_167 : decode cX12_told 167 = .ok (.getfield 19, 3) := by decide +kernel
theorem dX12_told_170 : decode cX12_told 170 = .ok (.invokestatic 131, 3) := by decide +kernel
theorem dX12_told_173 : decode cX12_told 173 = .ok (.ireturn, 1) := by decide +kernel
theorem dX12_told_174 : decode cX12_told 174 = .ok (.aload_n 0, 1) := by decide +kernel
theorem dX12_told_175 : decode cX12_told 175 = .ok (.getfield 19, 3) := by decide +kernel
theorem dX12_told_178 : decode cX12_told 178 = .ok (.getfield 119, 3) := by decide +kernel
theorem dX12_told_181 : decode cX12_told 181 = .ok (.getfield 137, 3) := by decide +kernel
theorem dX12_told_184 : decode cX12_told 184 = .ok (.ireturn, 1) := by decide +kernel
theorem dX12_told_185 : decode cX12_told 185 = .ok (.aload_n 0, 1) := by decide +kernel
theorem dX12_told_186 : decode cX12_told 186 = .ok (.getfield 19, 3) := by decide +kernel
theorem dX12_told_189 : decode cX12_told 189 = .ok (.getfield 119, 3) := by decide +kernel
theorem dX12_told_192 : decode cX12_told 192 = .ok (.getfield 140, 3) := by decide +kernel
theorem dX12_told_195 : decode cX12_told 195 = .ok (.ireturn, 1) := by decide +kernel
theorem dX12_told_196 : decode cX12_told 196 = .ok (.aload_n 0, 1) := by decide +kernel
theorem dX12_told_197 : decode cX12_told 197 = .ok (.getfield 19, 3) := by decide +kernel
theorem dX12_told_200 : decode cX12_told 200 = .ok (.invokestatic 143, 3) := by decide +kernel
theorem dX12_told_203 : decode cX12_told 203 = .ok (.ireturn, 1) := by decide +kernel
theorem dX12_told_204 : decode cX12_told 204 = .ok (.aload_n 0, 1) := by decide +kernel
theorem dX12_told_205 : decode cX12_told 205 = .ok (.getfield 19, 3) := by decide +kernel
theorem dX12_told_208 : decode cX12_told 208 = .ok (.invokestatic 146, 3) := by decide +kernel
theorem dX12_told_211 : decode cX12_told 211 = .ok (.ireturn, 1) := by decide +kernel
theorem dX12_told_212 : decode cX12_told 212 = .ok (.aload_n 0, 1) := by decide +kernel
theorem dX12_told_213 : decode cX12_told 213 = .ok (.getfield 19, 3) := by decide +kernel
theorem dX12_told_216 : decode cX12_told 216 = .ok (.invokestatic 149, 3) := by decide +kernel
theorem dX12_told_219 : decode cX12_told 219 = .ok (.ireturn, 1) := by decide +kernel
theorem dX12_told_220 : decode cX12_told 220 = .ok (.aload_n 0, 1) := by decide +kernel
theorem dX12_told_221 : decode cX12_told 221 = .ok (.getfield 19, 3) := by decide +kernel
theorem dX12_told_224 : decode cX12_told 224 = .ok (.invokestatic 152, 3) := by decide +kernel
theorem dX12_told_227 : decode cX12_told 227 = .ok (.ireturn, 1) := by decide +kernel
theorem dX12_told_228 : decode cX12_told 228 = .ok (.aload_n 0, 1) := by decide +kernel
theorem dX12_told_229 : decode cX12_told 229 = .ok (.getfield 26, 3) := by decide +kernel
theorem dX12_told_232 : decode cX12_told 232 = .ok (.aload_n 0, 1) := by decide +kernel
theorem dX12_told_233 : decode cX12_told 233 = .ok (.getfield 19, 3) := by decide +kernel
theorem dX12_told_236 : decode cX12_told 236 = .ok (.invokevirtual 155, 3) := by decide +kernel
theorem dX12_told_239 : decode cX12_told 239 = .ok (.ireturn, 1) := by decide +kernel
theorem dX12_told_240 : decode cX12_told 240 = .ok (.aload_n 0, 1) := by decide +kernel
theorem dX12_told_241 : decode cX12_told 241 = .ok (.getfield 19, 3) := by decide +kernel
theorem dX12_told_244 : decode cX12_told 244 = .ok (.invokestatic 158, 3) := by decide +kernel
theorem dX12_told_247 : decode cX12_told 247 = .ok (.ireturn, 1) := by decide +kernel
theorem dX12_told_248 : decode cX12_told 248 = .ok (.aload_n 0, 1) := by decide +kernel
theorem dX12_told_249 : decode cX12_told 249 = .ok (.getfield 47, 3) := by decide +kernel
theorem dX12_told_252 : decode cX12_told 252 = .ok (.getfield 161, 3) := by decide +kernel
theorem dX12_told_255 : decode cX12_told 255 = .ok (.ireturn, 1) := by decide +kernel
theorem dX12_told_256 : decode cX12_told 256 = .ok (.aload_n 0, 1) := by decide +kernel
theorem dX12_told_257 : decode cX12_told 257 = .ok (.getfield 54, 3) := by decide +kernel
theorem dX12_told_260 : decode cX12_told 260 = .ok (.getfield 164, 3) := by decide +kernel
theorem dX12_told_263 : decode cX12_told 263 = .ok (.ireturn, 1) := by decide +kernel
theorem dX12_told_264 : decode cX12_told 264 = .ok (.aload_n 0, 1) := by decide +kernel
theorem dX12_told_265 : decode cX12_told 265 = .ok (.getfield 40, 3) := by decide +kernel
theorem dX12_told_268 : decode cX12_told 268 = .ok (.getfield 165, 3) := by decide +kernel
theorem dX12_told_271 : decode cX12_told 271 = .ok (.ireturn, 1) := by decide +kernel
theorem dX12_told_272 : decode cX12_told 272 = .ok (.ldc 72, 2) := by decide +kernel
theorem dX12_told_274 : decode cX12_told 274 = .ok (.ireturn, 1) := by decide +kernel
def f_X12_told (a0 : Nat) (a1 : Int32) (h : AH) : Option (Int32 × AH) := if isO h 11 a0 = true then (if a1 = 0 then ((gr h 11 a0 1).bind fun r2 => (gr h 3 r2 1).bind fun r3 => (gi h 9 r3 7).bind fun x4 => some (x4, h)) else (if a1 = 1 then ((gr h 11 a0 1).bind fun r6 => (gr h 3 r6 1).bind fun r7 => (gi h 9 r7 8).bind fun x8 => some (x8, h)) else (if a1 = 2 then ((gr h 11 a0 1).bind fun r10 => (gr h 3 r10 1).bind fun r11 => (gi h 9 r11 9).bind fun x12 => some (x12, h)) else (if a1 = 3 then ((gr h 11 a0 1).bind fun r14 => (gr h 3 r14 1).bind fun r15 => (gi h 9 r15 10).bind fun x16 => some (x16, h)) else (if a1 = 4 then ((gr h 11 a0 0).bind fun r18 => (gi h 7 r18 1).bind fun x19 => some (x19, h)) else (if a1 = 5 then ((gr h 11 a0 1).bind fun r21 => (gr h 3 r21 0).bind fun r22 => (gi h 4 r22 8).bind fun x23 => some (x23, h)) else (if a1 = 6 then ((gr h 11 a0 1).bind fun r25 => (gr h 3 r25 0).bind fun r26 => (gi h 4 r26 7).bind fun x27 => some (x27, h)) else (if a1 = 7 then ((gr h 11 a0 1).bind fun r29 => bT1 (f_X5_freeSingers r29 h) fun x32 h30 => some (x32, h30)) else (if a1 = 8 then ((gr h 11 a0 1).bind fun r34 => (gr h 3 r34 0).bind fun r35 => (gi h 4 r35 9).bind fun x36 => some (x36, h)) else (if a1 = 9 then ((gr h 11 a0 1).bind fun r38 => (gr h 3 r38 0).bind fun r39 => (gi h 4 r39 10).bind fun x40 => some (x40, h)) else (if a1 = 10 then ((gr h 11 a0 1).bind fun r42 => bT1 (f_X5_allNotches r42 h) fun x45 h43 => some (x45, h43)) else (if a1 = 11 then ((gr h 11 a0 1).bind fun r47 => bT1 (f_X5_lastSinger r47 h) fun x50 h48 => some (x50, h48)) else (if a1 = 12 then ((gr h 11 a0 1).bind fun r52 => bT1 (f_X5_hardestChild r52 h) fun x55 h53 => some (x55, h53)) else (if a1 = 13 then ((gr h 11 a0 1).bind fun r57 => bT1 (f_X5_spreadOfChildren r57 h) fun x60 h58 => some (x60, h58)) else (if a1 = 14 then ((gr h 11 a0 2).bind fun r62 => (gr h 11 a0 1).bind fun r63 => bT1 (f_X7_mostAsleep r62 r63 h) fun x66 h64 => some (x66, h64)) else (if a1 = 15 then ((gr h 11 a0 1).bind fun r68 => bT1 (f_X5_willDefault r68 h) fun x71 h69 => some (x71, h69)) else (if a1 = 16 then ((gr h 11 a0 5).bind fun r73 => (gi h 10 r73 2).bind fun x74 => some (x74, h)) else (if a1 = 17 then ((gr h 11 a0 6).bind fun r76 => (gi h 0 r76 2).bind fun x77 => some (x77, h)) else (if a1 = 18 then ((gr h 11 a0 4).bind fun r79 => (gi h 5 r79 2).bind fun x80 => some (x80, h)) else (some ((-1000000002 : Int32), h))))))))))))))))))))) else none
set_option maxRecDepth 100000 in
set_option maxHeartbeats 4000000 in
theorem c_X12_told (X : SX) (d : Nat) (a0 : Nat) (a1 : Int32) (h : AH) (rr : Int32) (h' : AH) (hf : f_X12_told a0 a1 h = some (rr, h')) : isO h 11 a0 = true ∧ G X mX12_told (d + 6) 0 [(0, .ref a0), (1, .int a1)] [] h (some rr) h' := by
  unfold f_X12_told at hf
  by_cases ho : isO h 11 a0 = true
  · rw [if_pos ho] at hf
    refine ⟨ho, ?_⟩
    refine G.iload_n dX12_told_0 rfl ?_
    by_cases c1 : a1 = 0
    · rw [if_pos c1] at hf
      refine G.tswIn 92 dX12_told_1 (by rw [c1]; decide) (by rw [c1]; decide) (by rw [c1]; rfl) (by decide) ?_
      refine G.aload_n dX12_told_92 rfl ?_
      refine G.getr flX12_19 dX12_told_93 hf (fun r2 hf => ?_)
      refine G.getr flX12_86 dX12_told_96 hf (fun r3 hf => ?_)
      refine G.geti flX12_110 dX12_told_99 hf (fun x4 hf => ?_)
      obtain ⟨hq1, hq2⟩ := Prod.mk.inj (Option.some.inj hf)
      subst hq1
      subst hq2
      exact G.iret rfl rfl dX12_told_102
    · rw [if_neg c1] at hf
      by_cases c5 : a1 = 1
      · rw [if_pos c5] at hf
        refine G.tswIn 103 dX12_told_1 (by rw [c5]; decide) (by rw [c5]; decide) (by rw [c5]; rfl) (by decide) ?_
        refine G.aload_n dX12_told_103 rfl ?_
        refine G.getr flX12_19 dX12_told_104 hf (fun r6 hf => ?_)
        refine G.getr flX12_86 dX12_told_107 hf (fun r7 hf => ?_)
        refine G.geti flX12_113 dX12_told_110 hf (fun x8 hf => ?_)
        obtain ⟨hq1, hq2⟩ := Prod.mk.inj (Option.some.inj hf)
        subst hq1
        subst hq2
        exact G.iret rfl rfl dX12_told_113
      · rw [if_neg c5] at hf
        by_cases c9 : a1 = 2
        · rw [if_pos c9] at hf
          refine G.tswIn 114 dX12_told_1 (by rw [c9]; decide) (by rw [c9]; decide) (by rw [c9]; rfl) (by decide) ?_
          refine G.aload_n dX12_told_114 rfl ?_
          refine G.getr flX12_19 dX12_told_115 hf (fun r10 hf => ?_)
          refine G.getr flX12_86 dX12_told_118 hf (fun r11 hf => ?_)
          refine G.geti flX12_104 dX12_told_121 hf (fun x12 hf => ?_)
          obtain ⟨hq1, hq2⟩ := Prod.mk.inj (Option.some.inj hf)
          subst hq1
          subst hq2
          exact G.iret rfl rfl dX12_told_124
        · rw [if_neg c9] at hf
          by_cases c13 : a1 = 3
          · rw [if_pos c13] at hf
            refine G.tswIn 125 dX12_told_1 (by rw [c13]; decide) (by rw [c13]; decide) (by rw [c13]; rfl) (by decide) ?_
            refine G.aload_n dX12_told_125 rfl ?_
            refine G.getr flX12_19 dX12_told_126 hf (fun r14 hf => ?_)
            refine G.getr flX12_86 dX12_told_129 hf (fun r15 hf => ?_)
            refine G.geti flX12_116 dX12_told_132 hf (fun x16 hf => ?_)
            obtain ⟨hq1, hq2⟩ := Prod.mk.inj (Option.some.inj hf)
            subst hq1
            subst hq2
            exact G.iret rfl rfl dX12_told_135
          · rw [if_neg c13] at hf
            by_cases c17 : a1 = 4
            · rw [if_pos c17] at hf
              refine G.tswIn 136 dX12_told_1 (by rw [c17]; decide) (by rw [c17]; decide) (by rw [c17]; rfl) (by decide) ?_
              refine G.aload_n dX12_told_136 rfl ?_
              refine G.getr flX12_10 dX12_told_137 hf (fun r18 hf => ?_)
              refine G.geti flX12_73 dX12_told_140 hf (fun x19 hf => ?_)
              obtain ⟨hq1, hq2⟩ := Prod.mk.inj (Option.some.inj hf)
              subst hq1
              subst hq2
              exact G.iret rfl rfl dX12_told_143
            · rw [if_neg c17] at hf
              by_cases c20 : a1 = 5
              · rw [if_pos c20] at hf
                refine G.tswIn 144 dX12_told_1 (by rw [c20]; decide) (by rw [c20]; decide) (by rw [c20]; rfl) (by decide) ?_
                refine G.aload_n dX12_told_144 rfl ?_
                refine G.getr flX12_19 dX12_told_145 hf (fun r21 hf => ?_)
                refine G.getr flX12_119 dX12_told_148 hf (fun r22 hf => ?_)
                refine G.geti flX12_123 dX12_told_151 hf (fun x23 hf => ?_)
                obtain ⟨hq1, hq2⟩ := Prod.mk.inj (Option.some.inj hf)
                subst hq1
                subst hq2
                exact G.iret rfl rfl dX12_told_154
              · rw [if_neg c20] at hf
                by_cases c24 : a1 = 6
                · rw [if_pos c24] at hf
                  refine G.tswIn 155 dX12_told_1 (by rw [c24]; decide) (by rw [c24]; decide) (by rw [c24]; rfl) (by decide) ?_
                  refine G.aload_n dX12_told_155 rfl ?_
                  refine G.getr flX12_19 dX12_told_156 hf (fun r25 hf => ?_)
                  refine G.getr flX12_119 dX12_told_159 hf (fun r26 hf => ?_)
                  refine G.geti flX12_128 dX12_told_162 hf (fun x27 hf => ?_)
                  obtain ⟨hq1, hq2⟩ := Prod.mk.inj (Option.some.inj hf)
                  subst hq1
                  subst hq2
                  exact G.iret rfl rfl dX12_told_165
                · rw [if_neg c24] at hf
                  by_cases c28 : a1 = 7
                  · rw [if_pos c28] at hf
                    refine G.tswIn 166 dX12_told_1 (by rw [c28]; decide) (by rw [c28]; decide) (by rw [c28]; rfl) (by decide) ?_
                    refine G.aload_n dX12_told_166 rfl ?_
                    refine G.getr flX12_19 dX12_told_167 hf (fun r29 hf => ?_)
                    obtain ⟨x32, h30, e31, hf⟩ := bT1_spec hf
                    refine G.callSi (M' := mX5_freeSingers) (As := [.ref r29]) (st := []) okX5_freeSingers vsX5_freeSingers lkX12_131 rfl (Nat.le_of_ble_eq_true rfl) (Nat.le_of_ble_eq_true rfl) dX12_told_170 (c_X5_freeSingers X (d + 5) _ _ _ _ e31) ?_
                    obtain ⟨hq1, hq2⟩ := Prod.mk.inj (Option.some.inj hf)
                    subst hq1
                    subst hq2
                    exact G.iret rfl rfl dX12_told_173
                  · rw [if_neg c28] at hf
                    by_cases c33 : a1 = 8
                    · rw [if_pos c33] at hf
                      refine G.tswIn 174 dX12_told_1 (by rw [c33]; decide) (by rw [c33]; decide) (by rw [c33]; rfl) (by decide) ?_
                      refine G.aload_n dX12_told_174 rfl ?_
                      refine G.getr flX12_19 dX12_told_175 hf (fun r34 hf => ?_)
                      refine G.getr flX12_119 dX12_told_178 hf (fun r35 hf => ?_)
                      refine G.geti flX12_137 dX12_told_181 hf (fun x36 hf => ?_)
                      obtain ⟨hq1, hq2⟩ := Prod.mk.inj (Option.some.inj hf)
                      subst hq1
                      subst hq2
                      exact G.iret rfl rfl dX12_told_184
                    · rw [if_neg c33] at hf
                      by_cases c37 : a1 = 9
                      · rw [if_pos c37] at hf
                        refine G.tswIn 185 dX12_told_1 (by rw [c37]; decide) (by rw [c37]; decide) (by rw [c37]; rfl) (by decide) ?_
                        refine G.aload_n dX12_told_185 rfl ?_
                        refine G.getr flX12_19 dX12_told_186 hf (fun r38 hf => ?_)
                        refine G.getr flX12_119 dX12_told_189 hf (fun r39 hf => ?_)
                        refine G.geti flX12_140 dX12_told_192 hf (fun x40 hf => ?_)
                        obtain ⟨hq1, hq2⟩ := Prod.mk.inj (Option.some.inj hf)
                        subst hq1
                        subst hq2
                        exact G.iret rfl rfl dX12_told_195
                      · rw [if_neg c37] at hf
                        by_cases c41 : a1 = 10
                        · rw [if_pos c41] at hf
                          refine G.tswIn 196 dX12_told_1 (by rw [c41]; decide) (by rw [c41]; decide) (by rw [c41]; rfl) (by decide) ?_
                          refine G.aload_n dX12_told_196 rfl ?_
                          refine G.getr flX12_19 dX12_told_197 hf (fun r42 hf => ?_)
                          obtain ⟨x45, h43, e44, hf⟩ := bT1_spec hf
                          refine G.callSi (M' := mX5_allNotches) (As := [.ref r42]) (st := []) okX5_allNotches vsX5_allNotches lkX12_143 rfl (Nat.le_of_ble_eq_true rfl) (Nat.le_of_ble_eq_true rfl) dX12_told_200 (c_X5_allNotches X (d + 5) _ _ _ _ e44) ?_
                          obtain ⟨hq1, hq2⟩ := Prod.mk.inj (Option.some.inj hf)
                          subst hq1
                          subst hq2
                          exact G.iret rfl rfl dX12_told_203
                        · rw [if_neg c41] at hf
                          by_cases c46 : a1 = 11
                          · rw [if_pos c46] at hf
                            refine G.tswIn 204 dX12_told_1 (by rw [c46]; decide) (by rw [c46]; decide) (by rw [c46]; rfl) (by decide) ?_
                            refine G.aload_n dX12_told_204 rfl ?_
                            refine G.getr flX12_19 dX12_told_205 hf (fun r47 hf => ?_)
                            obtain ⟨x50, h48, e49, hf⟩ := bT1_spec hf
                            refine G.callSi (M' := mX5_lastSinger) (As := [.ref r47]) (st := []) okX5_lastSinger vsX5_lastSinger lkX12_146 rfl (Nat.le_of_ble_eq_true rfl) (Nat.le_of_ble_eq_true rfl) dX12_told_208 (c_X5_lastSinger X (d + 5) _ _ _ _ e49) ?_
                            obtain ⟨hq1, hq2⟩ := Prod.mk.inj (Option.some.inj hf)
                            subst hq1
                            subst hq2
                            exact G.iret rfl rfl dX12_told_211
                          · rw [if_neg c46] at hf
                            by_cases c51 : a1 = 12
                            · rw [if_pos c51] at hf
                              refine G.tswIn 212 dX12_told_1 (by rw [c51]; decide) (by rw [c51]; decide) (by rw [c51]; rfl) (by decide) ?_
                              refine G.aload_n dX12_told_212 rfl ?_
                              refine G.getr flX12_19 dX12_told_213 hf (fun r52 hf => ?_)
                              obtain ⟨x55, h53, e54, hf⟩ := bT1_spec hf
                              refine G.callSi (M' := mX5_hardestChild) (As := [.ref r52]) (st := []) okX5_hardestChild vsX5_hardestChild lkX12_149 rfl (Nat.le_of_ble_eq_true rfl) (Nat.le_of_ble_eq_true rfl) dX12_told_216 (c_X5_hardestChild X (d + 3) _ _ _ _ e54) ?_
                              obtain ⟨hq1, hq2⟩ := Prod.mk.inj (Option.some.inj hf)
                              subst hq1
                              subst hq2
                              exact G.iret rfl rfl dX12_told_219
                            · rw [if_neg c51] at hf
                              by_cases c56 : a1 = 13
                              · rw [if_pos c56] at hf
                                refine G.tswIn 220 dX12_told_1 (by rw [c56]; decide) (by rw [c56]; decide) (by rw [c56]; rfl) (by decide) ?_
                                refine G.aload_n dX12_told_220 rfl ?_
                                refine G.getr flX12_19 dX12_told_221 hf (fun r57 hf => ?_)
                                obtain ⟨x60, h58, e59, hf⟩ := bT1_spec hf
                                refine G.callSi (M' := mX5_spreadOfChildren) (As := [.ref r57]) (st := []) okX5_spreadOfChildren vsX5_spreadOfChildren lkX12_152 rfl (Nat.le_of_ble_eq_true rfl) (Nat.le_of_ble_eq_true rfl) dX12_told_224 (c_X5_spreadOfChildren X (d + 4) _ _ _ _ e59) ?_
                                obtain ⟨hq1, hq2⟩ := Prod.mk.inj (Option.some.inj hf)
                                subst hq1
                                subst hq2
                                exact G.iret rfl rfl dX12_told_227
                              · rw [if_neg c56] at hf
                                by_cases c61 : a1 = 14
                                · rw [if_pos c61] at hf
                                  refine G.tswIn 228 dX12_told_1 (by rw [c61]; decide) (by rw [c61]; decide) (by rw [c61]; rfl) (by decide) ?_
                                  refine G.aload_n dX12_told_228 rfl ?_
                                  refine G.getr flX12_26 dX12_told_229 hf (fun r62 hf => ?_)
                                  refine G.aload_n dX12_told_232 rfl ?_
                                  refine G.getr flX12_19 dX12_told_233 hf (fun r63 hf => ?_)
                                  obtain ⟨x66, h64, e65, hf⟩ := bT1_spec hf
                                  refine G.callVi (M' := mX7_mostAsleep) (ci := 6) (As := [.ref r63]) (st := []) okX7_mostAsleep viX7_mostAsleep lkX12_155 rfl rfl rfl (Nat.le_of_ble_eq_true rfl) (Nat.le_of_ble_eq_true rfl) dX12_told_236 (c_X7_mostAsleep X d _ _ _ _ _ e65).1 (c_X7_mostAsleep X d _ _ _ _ _ e65).2 ?_
                                  obtain ⟨hq1, hq2⟩ := Prod.mk.inj (Option.some.inj hf)
                                  subst hq1
                                  subst hq2
                                  exact G.iret rfl rfl dX12_told_239
                                · rw [if_neg c61] at hf
                                  by_cases c67 : a1 = 15
                                  · rw [if_pos c67] at hf
                                    refine G.tswIn 240 dX12_told_1 (by rw [c67]; decide) (by rw [c67]; decide) (by rw [c67]; rfl) (by decide) ?_
                                    refine G.aload_n dX12_told_240 rfl ?_
                                    refine G.getr flX12_19 dX12_told_241 hf (fun r68 hf => ?_)
                                    obtain ⟨x71, h69, e70, hf⟩ := bT1_spec hf
                                    refine G.callSi (M' := mX5_willDefault) (As := [.ref r68]) (st := []) okX5_willDefault vsX5_willDefault lkX12_158 rfl (Nat.le_of_ble_eq_true rfl) (Nat.le_of_ble_eq_true rfl) dX12_told_244 (c_X5_willDefault X (d + 3) _ _ _ _ e70) ?_
                                    obtain ⟨hq1, hq2⟩ := Prod.mk.inj (Option.some.inj hf)
                                    subst hq1
                                    subst hq2
                                    exact G.iret rfl rfl dX12_told_247
                                  · rw [if_neg c67] at hf
                                    by_cases c72 : a1 = 16
                                    · rw [if_pos c72] at hf
                                      refine G.tswIn 248 dX12_told_1 (by rw [c72]; decide) (by rw [c72]; decide) (by rw [c72]; rfl) (by decide) ?_
                                      refine G.aload_n dX12_told_248 rfl ?_
                                      refine G.getr flX12_47 dX12_told_249 hf (fun r73 hf => ?_)
                                      refine G.geti flX12_161 dX12_told_252 hf (fun x74 hf => ?_)
                                      obtain ⟨hq1, hq2⟩ := Prod.mk.inj (Option.some.inj hf)
                                      subst hq1
                                      subst hq2
                                      exact G.iret rfl rfl dX12_told_255
                                    · rw [if_neg c72] at hf
                                      by_cases c75 : a1 = 17
                                      · rw [if_pos c75] at hf
                                        refine G.tswIn 256 dX12_told_1 (by rw [c75]; decide) (by rw [c75]; decide) (by rw [c75]; rfl) (by decide) ?_
                                        refine G.aload_n dX12_told_256 rfl ?_
                                        refine G.getr flX12_54 dX12_told_257 hf (fun r76 hf => ?_)
                                        refine G.geti flX12_164 dX12_told_260 hf (fun x77 hf => ?_)
                                        obtain ⟨hq1, hq2⟩ := Prod.mk.inj (Option.some.inj hf)
                                        subst hq1
                                        subst hq2
                                        exact G.iret rfl rfl dX12_told_263
                                      · rw [if_neg c75] at hf
                                        by_cases c78 : a1 = 18
                                        · rw [if_pos c78] at hf
                                          refine G.tswIn 264 dX12_told_1 (by rw [c78]; decide) (by rw [c78]; decide) (by rw [c78]; rfl) (by decide) ?_
                                          refine G.aload_n dX12_told_264 rfl ?_
                                          refine G.getr flX12_40 dX12_told_265 hf (fun r79 hf => ?_)
                                          refine G.geti flX12_165 dX12_told_268 hf (fun x80 hf => ?_)
                                          obtain ⟨hq1, hq2⟩ := Prod.mk.inj (Option.some.inj hf)
                                          subst hq1
                                          subst hq2
                                          exact G.iret rfl rfl dX12_told_271
                                        · rw [if_neg c78] at hf
                                          have nc1 := lv_neT c1 (a := 0) (by decide)
                                          have nc5 := lv_neT c5 (a := 1) (by decide)
                                          have nc9 := lv_neT c9 (a := 2) (by decide)
                                          have nc13 := lv_neT c13 (a := 3) (by decide)
                                          have nc17 := lv_neT c17 (a := 4) (by decide)
                                          have nc20 := lv_neT c20 (a := 5) (by decide)
                                          have nc24 := lv_neT c24 (a := 6) (by decide)
                                          have nc28 := lv_neT c28 (a := 7) (by decide)
                                          have nc33 := lv_neT c33 (a := 8) (by decide)
                                          have nc37 := lv_neT c37 (a := 9) (by decide)
                                          have nc41 := lv_neT c41 (a := 10) (by decide)
                                          have nc46 := lv_neT c46 (a := 11) (by decide)
                                          have nc51 := lv_neT c51 (a := 12) (by decide)
                                          have nc56 := lv_neT c56 (a := 13) (by decide)
                                          have nc61 := lv_neT c61 (a := 14) (by decide)
                                          have nc67 := lv_neT c67 (a := 15) (by decide)
                                          have nc72 := lv_neT c72 (a := 16) (by decide)
                                          have nc75 := lv_neT c75 (a := 17) (by decide)
                                          have nc78 := lv_neT c78 (a := 18) (by decide)
                                          refine G.tswOut 272 dX12_told_1 (by omega) (by decide) ?_
                                          refine G.ldc ckX12_72 dX12_told_272 ?_
                                          obtain ⟨hq1, hq2⟩ := Prod.mk.inj (Option.some.inj hf)
                                          subst hq1
                                          subst hq2
                                          exact G.iret rfl rfl dX12_told_274
  · rw [if_neg ho] at hf
    cases hf
/-! X13_sets -/
theorem dX13_sets_0 : decode cX13_sets 0 = .ok (.iconst 0, 1) := by decide +kernel
theorem dX13_sets_1 : decode cX13_sets 1 = .ok (.istore_n 2, 1) := by decide +kernel
theorem dX13_sets_2 : decode cX13_sets 2 = .ok (.iconst 0, 1) := by decide +kernel
theorem dX13_sets_3 : decode cX13_sets 3 = .ok (.istore_n 3, 1) := by decide +kernel
theorem dX13_sets_4 : decode cX13_sets 4 = .ok (.iload_n 3, 1) := by decide +kernel
theorem dX13_sets_5 : decode cX13_sets 5 = .ok (.bipush 6, 2) := by decide +kernel
theorem dX13_sets_7 : decode cX13_sets 7 = .ok (.if_icmp .ge 85, 3) := by decide +kernel
theorem dX13_sets_10 : decode cX13_sets 10 = .ok (.iload_n 1, 1) := by decide +kernel
theorem dX13_sets_11 : decode cX13_sets 11 = .ok (.bipush 6, 2) := by decide +kernel
theorem dX13_sets_13 : decode cX13_sets 13 = .ok (.if_icmp .ne 31, 3) := by decide +kernel
theorem dX13_sets_16 : decode cX13_sets 16 = .ok (.iload_n 3, 1) := by decide +kernel
theorem dX13_sets_17 : decode cX13_sets 17 = .ok (.aload_n 0, 1) := by decide +kernel
theorem dX13_sets_18 : decode cX13_sets 18 = .ok (.getfield 78, 3) := by decide +kernel
theorem dX13_sets_21 : decode cX13_sets 21 = .ok (.if_icmp .ge 19, 3) := by decide +kernel
theorem dX13_sets_24 : decode cX13_sets 24 = .ok (.aload_n 0, 1) := by decide +kernel
theorem dX13_sets_25 : decode cX13_sets 25 = .ok (.getfield 29, 3) := by decide +kernel
theorem dX13_sets_28 : decode cX13_sets 28 = .ok (.bipush 30, 2) := by decide +kernel
theorem dX13_sets_30 : decode cX13_sets 30 = .ok (.iload_n 3, 1) := by decide +kernel
theorem dX13_sets_31 : decode cX13_sets 31 = .ok (.iadd, 1) := by decide +kernel
theorem dX13_sets_32 : decode cX13_sets 32 = .ok (.iaload, 1) := by decide +kernel
theorem dX13_sets_33 : decode cX13_sets 33 = .ok (.ifCond .ne 7, 3) := by decide +kernel
theorem dX13_sets_36 : decode cX13_sets 36 = .ok (.iconst 1, 1) := by decide +kernel
theorem dX13_sets_37 : decode cX13_sets 37 = .ok (.goto 32, 3) := by decide +kernel
theorem dX13_sets_40 : decode cX13_sets 40 = .ok (.iconst 0, 1) := by decide +kernel
theorem dX13_sets_41 : decode cX13_sets 41 = .ok (.goto 28, 3) := by decide +kernel
theorem dX13_sets_44 : decode cX13_sets 44 = .ok (.iload_n 3, 1) := by decide +kernel
theorem dX13_sets_45 : decode cX13_sets 45 = .ok (.aload_n 0, 1) := by decide +kernel
theorem dX13_sets_46 : decode cX13_sets 46 = .ok (.getfield 75, 3) := by decide +kernel
theorem dX13_sets_49 : decode cX13_sets 49 = .ok (.if_icmp .ge 19, 3) := by decide +kernel
theorem dX13_sets_52 : decode cX13_sets 52 = .ok (.aload_n 0, 1) := by decide +kernel
theorem dX13_sets_53 : decode cX13_sets 53 = .ok (.getfield 29, 3) := by decide +kernel
theorem dX13_sets_56 : decode cX13_sets 56 = .ok (.bipush 6, 2) := by decide +kernel
theorem dX13_sets_58 : decode cX13_sets 58 = .ok (.iload_n 3, 1) := by decide +kernel
theorem dX13_sets_59 : decode cX13_sets 59 = .ok (.iadd, 1) := by decide +kernel
theorem dX13_sets_60 : decode cX13_sets 60 = .ok (.iaload, 1) := by decide +kernel
theorem dX13_sets_61 : decode cX13_sets 61 = .ok (.ifCond .ne 7, 3) := by decide +kernel
theorem dX13_sets_64 : decode cX13_sets 64 = .ok (.iconst 1, 1) := by decide +kernel
theorem dX13_sets_65 : decode cX13_sets 65 = .ok (.goto 4, 3) := by decide +kernel
theorem dX13_sets_68 : decode cX13_sets 68 = .ok (.iconst 0, 1) := by decide +kernel
theorem dX13_sets_69 : decode cX13_sets 69 = .ok (.istore 4, 2) := by decide +kernel
theorem dX13_sets_71 : decode cX13_sets 71 = .ok (.iload_n 2, 1) := by decide +kernel
theorem dX13_sets_72 : decode cX13_sets 72 = .ok (.iload 4, 2) := by decide +kernel
theorem dX13_sets_74 : decode cX13_sets 74 = .ok (.ifCond .eq 9, 3) := by decide +kernel
theorem dX13_sets_77 : decode cX13_sets 77 = .ok (.iconst 1, 1) := by decide +kernel
theorem dX13_sets_78 : decode cX13_sets 78 = .ok (.iload_n 3, 1) := by decide +kernel
theorem dX13_sets_79 : decode cX13_sets 79 = .ok (.ishl, 1) := by decide +kernel
theorem dX13_sets_80 : decode cX13_sets 80 = .ok (.goto 4, 3) := by decide +kernel
theorem dX13_sets_83 : decode cX13_sets 83 = .ok (.iconst 0, 1) := by decide +kernel
theorem dX13_sets_84 : decode cX13_sets 84 = .ok (.ior, 1) := by decide +kernel
theorem dX13_sets_85 : decode cX13_sets 85 = .ok (.istore_n 2, 1) := by decide +kernel
theorem dX13_sets_86 : decode cX13_sets 86 = .ok (.iinc 3 1, 3) := by decide +kernel
theorem dX13_sets_89 : decode cX13_sets 89 = .ok (.goto (-85), 3) := by decide +kernel
theorem dX13_sets_92 : decode cX13_sets 92 = .ok (.iload_n 2, 1) := by decide +kernel
theorem dX13_sets_93 : decode cX13_sets 93 = .ok (.ireturn, 1) := by decide +kernel
def f_X13_sets_69 (rec : Nat → Int32 → Int32 → Int32 → AH → Option (Int32 × AH)) (v0 : Nat) (v1 : Int32) (v2 : Int32) (v3 : Int32) (s0 : Int32) (h : AH) : Option (Int32 × AH) := if s0 = 0 then (rec v0 v1 (v2 ||| (0 : Int32)) (v3 + 1) h) else (rec v0 v1 (v2 ||| ((1 : Int32) <<< (v3 &&& 31))) (v3 + 1) h)
set_option maxRecDepth 100000 in
set_option maxHeartbeats 4000000 in
theorem j_X13_sets_69 (X : SX) (d : Nat) (rec : Nat → Int32 → Int32 → Int32 → AH → Option (Int32 × AH)) (hrecf : ∀ (rv : Option Int32) (h' : AH), ∀ (v0 : Nat) (v1 : Int32) (v2 : Int32) (v3 : Int32) (h : AH) (y2 : Int32) (h1 : AH), rec v0 v1 v2 v3 h = some (y2, h1) → G X mX13_sets d 92 [(2, .int y2)] [] h1 rv h' → G X mX13_sets d 4 [(0, .ref v0), (1, .int v1), (2, .int v2), (3, .int v3)] [] h rv h') (v0 : Nat) (v1 : Int32) (v2 : Int32) (v3 : Int32) (s0 : Int32) (h : AH) (y2 : Int32) (h1 : AH) (hf : f_X13_sets_69 rec v0 v1 v2 v3 s0 h = some (y2, h1)) (rv : Option Int32) (h' : AH) (hE : G X mX13_sets d 92 [(2, .int y2)] [] h1 rv h') : G X mX13_sets d 69 [(0, .ref v0), (1, .int v1), (2, .int v2), (3, .int v3)] [.int s0] h rv h' := by
  unfold f_X13_sets_69 at hf
  have hrec := hrecf rv h'
  refine G.istore (lv' := [(4, .int s0), (0, .ref v0), (1, .int v1), (2, .int v2), (3, .int v3)]) dX13_sets_69 (by decide) rfl ?_
  refine G.iload_n dX13_sets_71 rfl ?_
  refine G.iload dX13_sets_72 rfl ?_
  refine G.if_eq 83 dX13_sets_74 (by decide) (fun c1 => ?_) (fun c1 => ?_)
  · rw [if_pos c1] at hf
    refine G.iconst (v := (0 : Int32)) dX13_sets_83 (by decide) ?_
    refine G.ior dX13_sets_84 ?_
    refine G.istore_n (lv' := [(2, .int (v2 ||| (0 : Int32))), (4, .int s0), (0, .ref v0), (1, .int v1), (3, .int v3)]) dX13_sets_85 (by decide) rfl ?_
    refine G.iinc (v := (v3 + 1)) (lv' := [(3, .int (v3 + 1)), (2, .int (v2 ||| (0 : Int32))), (4, .int s0), (0, .ref v0), (1, .int v1)]) dX13_sets_86 rfl rfl (by decide) rfl ?_
    refine G.goto 4 dX13_sets_89 (by decide) ?_
    exact G.pick [3, 4, 1, 0] rfl (hrec v0 v1 (v2 ||| (0 : Int32)) (v3 + 1) h _ _ hf hE)
  · rw [if_neg c1] at hf
    refine G.iconst (v := (1 : Int32)) dX13_sets_77 (by decide) ?_
    refine G.iload_n dX13_sets_78 rfl ?_
    refine G.ishl dX13_sets_79 ?_
    refine G.goto 84 dX13_sets_80 (by decide) ?_
    refine G.ior dX13_sets_84 ?_
    refine G.istore_n (lv' := [(2, .int (v2 ||| ((1 : Int32) <<< (v3 &&& 31)))), (4, .int s0), (0, .ref v0), (1, .int v1), (3, .int v3)]) dX13_sets_85 (by decide) rfl ?_
    refine G.iinc (v := (v3 + 1)) (lv' := [(3, .int (v3 + 1)), (2, .int (v2 ||| ((1 : Int32) <<< (v3 &&& 31)))), (4, .int s0), (0, .ref v0), (1, .int v1)]) dX13_sets_86 rfl rfl (by decide) rfl ?_
    refine G.goto 4 dX13_sets_89 (by decide) ?_
    exact G.pick [3, 4, 1, 0] rfl (hrec v0 v1 (v2 ||| ((1 : Int32) <<< (v3 &&& 31))) (v3 + 1) h _ _ hf hE)
def f_X13_sets_68 (rec : Nat → Int32 → Int32 → Int32 → AH → Option (Int32 × AH)) (v0 : Nat) (v1 : Int32) (v2 : Int32) (v3 : Int32) (h : AH) : Option (Int32 × AH) := f_X13_sets_69 rec v0 v1 v2 v3 (0 : Int32) h
set_option maxRecDepth 100000 in
set_option maxHeartbeats 4000000 in
theorem j_X13_sets_68 (X : SX) (d : Nat) (rec : Nat → Int32 → Int32 → Int32 → AH → Option (Int32 × AH)) (hrecf : ∀ (rv : Option Int32) (h' : AH), ∀ (v0 : Nat) (v1 : Int32) (v2 : Int32) (v3 : Int32) (h : AH) (y2 : Int32) (h1 : AH), rec v0 v1 v2 v3 h = some (y2, h1) → G X mX13_sets d 92 [(2, .int y2)] [] h1 rv h' → G X mX13_sets d 4 [(0, .ref v0), (1, .int v1), (2, .int v2), (3, .int v3)] [] h rv h') (v0 : Nat) (v1 : Int32) (v2 : Int32) (v3 : Int32) (h : AH) (y2 : Int32) (h1 : AH) (hf : f_X13_sets_68 rec v0 v1 v2 v3 h = some (y2, h1)) (rv : Option Int32) (h' : AH) (hE : G X mX13_sets d 92 [(2, .int y2)] [] h1 rv h') : G X mX13_sets d 68 [(0, .ref v0), (1, .int v1), (2, .int v2), (3, .int v3)] [] h rv h' := by
  unfold f_X13_sets_68 at hf
  have hrec := hrecf rv h'
  refine G.iconst (v := (0 : Int32)) dX13_sets_68 (by decide) ?_
  exact G.pick [0, 1, 2, 3] rfl (j_X13_sets_69 X d _ hrecf v0 v1 v2 v3 (0 : Int32) h _ _ hf _ _ hE)
def f_X13_sets_40 (rec : Nat → Int32 → Int32 → Int32 → AH → Option (Int32 × AH)) (v0 : Nat) (v1 : Int32) (v2 : Int32) (v3 : Int32) (h : AH) : Option (Int32 × AH) := f_X13_sets_69 rec v0 v1 v2 v3 (0 : Int32) h
set_option maxRecDepth 100000 in
set_option maxHeartbeats 4000000 in
theorem j_X13_sets_40 (X : SX) (d : Nat) (rec : Nat → Int32 → Int32 → Int32 → AH → Option (Int32 × AH)) (hrecf : ∀ (rv : Option Int32) (h' : AH), ∀ (v0 : Nat) (v1 : Int32) (v2 : Int32) (v3 : Int32) (h : AH) (y2 : Int32) (h1 : AH), rec v0 v1 v2 v3 h = some (y2, h1) → G X mX13_sets d 92 [(2, .int y2)] [] h1 rv h' → G X mX13_sets d 4 [(0, .ref v0), (1, .int v1), (2, .int v2), (3, .int v3)] [] h rv h') (v0 : Nat) (v1 : Int32) (v2 : Int32) (v3 : Int32) (h : AH) (y2 : Int32) (h1 : AH) (hf : f_X13_sets_40 rec v0 v1 v2 v3 h = some (y2, h1)) (rv : Option Int32) (h' : AH) (hE : G X mX13_sets d 92 [(2, .int y2)] [] h1 rv h') : G X mX13_sets d 40 [(0, .ref v0), (1, .int v1), (2, .int v2), (3, .int v3)] [] h rv h' := by
  unfold f_X13_sets_40 at hf
  have hrec := hrecf rv h'
  refine G.iconst (v := (0 : Int32)) dX13_sets_40 (by decide) ?_
  refine G.goto 69 dX13_sets_41 (by decide) ?_
  exact G.pick [0, 1, 2, 3] rfl (j_X13_sets_69 X d _ hrecf v0 v1 v2 v3 (0 : Int32) h _ _ hf _ _ hE)
def F_X13_sets_L4 (rec : Nat → Int32 → Int32 → Int32 → AH → Option (Int32 × AH)) (v0 : Nat) (v1 : Int32) (v2 : Int32) (v3 : Int32) (h : AH) : Option (Int32 × AH) := if (6 : Int32) ≤ v3 then (some (v2, h)) else (if v1 = (6 : Int32) then ((gi h 12 v0 6).bind fun x8 => if x8 ≤ v3 then (f_X13_sets_40 rec v0 v1 v2 v3 h) else ((gr h 12 v0 11).bind fun r10 => (ai h 0 r10 ((30 : Int32) + v3)).bind fun x11 => if x11 = 0 then (f_X13_sets_69 rec v0 v1 v2 v3 (1 : Int32) h) else (f_X13_sets_40 rec v0 v1 v2 v3 h))) else ((gi h 12 v0 5).bind fun x3 => if x3 ≤ v3 then (f_X13_sets_68 rec v0 v1 v2 v3 h) else ((gr h 12 v0 11).bind fun r5 => (ai h 0 r5 ((6 : Int32) + v3)).bind fun x6 => if x6 = 0 then (f_X13_sets_69 rec v0 v1 v2 v3 (1 : Int32) h) else (f_X13_sets_68 rec v0 v1 v2 v3 h))))
def f_X13_sets_L4 : Nat → Nat → Int32 → Int32 → Int32 → AH → Option (Int32 × AH)
  | 0 => fun _ _ _ _ _ => none
  | n + 1 => F_X13_sets_L4 (f_X13_sets_L4 n)
set_option maxRecDepth 100000 in
set_option maxHeartbeats 4000000 in
theorem lx_X13_sets_L4 (X : SX) (d : Nat) : ∀ n (rv : Option Int32) (h' : AH), ∀ (v0 : Nat) (v1 : Int32) (v2 : Int32) (v3 : Int32) (h : AH) (y2 : Int32) (h1 : AH), f_X13_sets_L4 n v0 v1 v2 v3 h = some (y2, h1) → G X mX13_sets d 92 [(2, .int y2)] [] h1 rv h' → G X mX13_sets d 4 [(0, .ref v0), (1, .int v1), (2, .int v2), (3, .int v3)] [] h rv h' := by
  intro n
  induction n with
  | zero =>
    intro rv h' v0 v1 v2 v3 h y2 h1 hf hE
    cases hf
  | succ n ihf =>
    intro rv h' v0 v1 v2 v3 h y2 h1 hf hE
    replace hf : F_X13_sets_L4 (f_X13_sets_L4 n) v0 v1 v2 v3 h = some (y2, h1) := hf
    unfold F_X13_sets_L4 at hf
    have ih := ihf rv h'
    refine G.iload_n dX13_sets_4 rfl ?_
    refine G.bipush (v := (6 : Int32)) dX13_sets_5 (by decide) ?_
    refine G.icmp_ge 92 dX13_sets_7 (by decide) (fun c1 => ?_) (fun c1 => ?_)
    · rw [if_pos c1] at hf
      obtain ⟨u0, w1⟩ := Prod.mk.inj (Option.some.inj hf)
      subst u0
      subst w1
      exact G.pick [2] rfl hE
    · rw [if_neg c1] at hf
      refine G.iload_n dX13_sets_10 rfl ?_
      refine G.bipush (v := (6 : Int32)) dX13_sets_11 (by decide) ?_
      refine G.icmp_ne 44 dX13_sets_13 (by decide) (fun c2 => ?_) (fun c2 => ?_)
      · rw [if_neg c2] at hf
        refine G.iload_n dX13_sets_44 rfl ?_
        refine G.aload_n dX13_sets_45 rfl ?_
        refine G.geti flX13_75 dX13_sets_46 hf (fun x3 hf => ?_)
        refine G.icmp_ge 68 dX13_sets_49 (by decide) (fun c4 => ?_) (fun c4 => ?_)
        · rw [if_pos c4] at hf
          exact G.pick [0, 1, 2, 3] rfl (j_X13_sets_68 X d _ ihf v0 v1 v2 v3 h _ _ hf _ _ hE)
        · rw [if_neg c4] at hf
          refine G.aload_n dX13_sets_52 rfl ?_
          refine G.getr flX13_29 dX13_sets_53 hf (fun r5 hf => ?_)
          refine G.bipush (v := (6 : Int32)) dX13_sets_56 (by decide) ?_
          refine G.iload_n dX13_sets_58 rfl ?_
          refine G.iadd dX13_sets_59 ?_
          refine G.iald dX13_sets_60 hf (fun x6 hf => ?_)
          refine G.if_ne 68 dX13_sets_61 (by decide) (fun c7 => ?_) (fun c7 => ?_)
          · rw [if_neg c7] at hf
            exact G.pick [0, 1, 2, 3] rfl (j_X13_sets_68 X d _ ihf v0 v1 v2 v3 h _ _ hf _ _ hE)
          · rw [if_pos c7] at hf
            refine G.iconst (v := (1 : Int32)) dX13_sets_64 (by decide) ?_
            refine G.goto 69 dX13_sets_65 (by decide) ?_
            exact G.pick [0, 1, 2, 3] rfl (j_X13_sets_69 X d _ ihf v0 v1 v2 v3 (1 : Int32) h _ _ hf _ _ hE)
      · rw [if_pos c2] at hf
        refine G.iload_n dX13_sets_16 rfl ?_
        refine G.aload_n dX13_sets_17 rfl ?_
        refine G.geti flX13_78 dX13_sets_18 hf (fun x8 hf => ?_)
        refine G.icmp_ge 40 dX13_sets_21 (by decide) (fun c9 => ?_) (fun c9 => ?_)
        · rw [if_pos c9] at hf
          exact G.pick [0, 1, 2, 3] rfl (j_X13_sets_40 X d _ ihf v0 v1 v2 v3 h _ _ hf _ _ hE)
        · rw [if_neg c9] at hf
          refine G.aload_n dX13_sets_24 rfl ?_
          refine G.getr flX13_29 dX13_sets_25 hf (fun r10 hf => ?_)
          refine G.bipush (v := (30 : Int32)) dX13_sets_28 (by decide) ?_
          refine G.iload_n dX13_sets_30 rfl ?_
          refine G.iadd dX13_sets_31 ?_
          refine G.iald dX13_sets_32 hf (fun x11 hf => ?_)
          refine G.if_ne 40 dX13_sets_33 (by decide) (fun c12 => ?_) (fun c12 => ?_)
          · rw [if_neg c12] at hf
            exact G.pick [0, 1, 2, 3] rfl (j_X13_sets_40 X d _ ihf v0 v1 v2 v3 h _ _ hf _ _ hE)
          · rw [if_pos c12] at hf
            refine G.iconst (v := (1 : Int32)) dX13_sets_36 (by decide) ?_
            refine G.goto 69 dX13_sets_37 (by decide) ?_
            exact G.pick [0, 1, 2, 3] rfl (j_X13_sets_69 X d _ ihf v0 v1 v2 v3 (1 : Int32) h _ _ hf _ _ hE)
theorem l_X13_sets_L4 (X : SX) (d : Nat) (rv : Option Int32) (h' : AH) (n : Nat) : ∀ (v0 : Nat) (v1 : Int32) (v2 : Int32) (v3 : Int32) (h : AH) (y2 : Int32) (h1 : AH), f_X13_sets_L4 n v0 v1 v2 v3 h = some (y2, h1) → G X mX13_sets d 92 [(2, .int y2)] [] h1 rv h' → G X mX13_sets d 4 [(0, .ref v0), (1, .int v1), (2, .int v2), (3, .int v3)] [] h rv h' := lx_X13_sets_L4 X d n rv h'
def f_X13_sets (a0 : Nat) (a1 : Int32) (h : AH) : Option (Int32 × AH) := if isO h 12 a0 = true then (bT1 (f_X13_sets_L4 1000000 a0 a1 (0 : Int32) (0 : Int32) h) fun y3 h1 => some (y3, h1)) else none
set_option maxRecDepth 100000 in
set_option maxHeartbeats 4000000 in
theorem c_X13_sets (X : SX) (d : Nat) (a0 : Nat) (a1 : Int32) (h : AH) (rr : Int32) (h' : AH) (hf : f_X13_sets a0 a1 h = some (rr, h')) : isO h 12 a0 = true ∧ G X mX13_sets d 0 [(0, .ref a0), (1, .int a1)] [] h (some rr) h' := by
  unfold f_X13_sets at hf
  by_cases ho : isO h 12 a0 = true
  · rw [if_pos ho] at hf
    refine ⟨ho, ?_⟩
    refine G.iconst (v := (0 : Int32)) dX13_sets_0 (by decide) ?_
    refine G.istore_n (lv' := [(2, .int (0 : Int32)), (0, .ref a0), (1, .int a1)]) dX13_sets_1 (by decide) rfl ?_
    refine G.iconst (v := (0 : Int32)) dX13_sets_2 (by decide) ?_
    refine G.istore_n (lv' := [(3, .int (0 : Int32)), (2, .int (0 : Int32)), (0, .ref a0), (1, .int a1)]) dX13_sets_3 (by decide) rfl ?_
    obtain ⟨y3, h1, e2, hf⟩ := bT1_spec hf
    refine G.pick [2, 3, 1, 0] rfl (l_X13_sets_L4 X d _ _ 1000000 a0 a1 (0 : Int32) (0 : Int32) h y3 h1 e2 ?_)
    refine G.iload_n dX13_sets_92 rfl ?_
    obtain ⟨hq1, hq2⟩ := Prod.mk.inj (Option.some.inj hf)
    subst hq1
    subst hq2
    exact G.iret rfl rfl dX13_sets_93
  · rw [if_neg ho] at hf
    cases hf
/-! X13_owedByAll -/
theorem dX13_owedByAll_0 : decode cX13_owedByAll 0 = .ok (.iconst 0, 1) := by decide +kernel
theorem dX13_owedByAll_1 : decode cX13_owedByAll 1 = .ok (.istore_n 1, 1) := by decide +kernel
theorem dX13_owedByAll_2 : decode cX13_owedByAll 2 = .ok (.iconst 0, 1) := by decide +kernel
theorem dX13_owedByAll_3 : decode cX13_owedByAll 3 = .ok (.istore_n 2, 1) := by decide +kernel
theorem dX13_owedByAll_4 : decode cX13_owedByAll 4 = .ok (.iload_n 2, 1) := by decide +kernel
theorem dX13_owedByAll_5 : decode cX13_owedByAll 5 = .ok (.aload_n 0, 1) := by decide +kernel
theorem dX13_owedByAll_6 : decode cX13_owedByAll 6 = .ok (.getfield 75, 3) := by decide +kernel
theorem dX13_owedByAll_9 : decode cX13_owedByAll 9 = .ok (.if_icmp .ge 21, 3) := by decide +kernel
theorem dX13_owedByAll_12 : decode cX13_owedByAll 12 = .ok (.iload_n 1, 1) := by decide +kernel
theorem dX13_owedByAll_13 : decode cX13_owedByAll 13 = .ok (.aload_n 0, 1) := by decide +kernel
theorem dX13_owedByAll_14 : decode cX13_owedByAll 14 = .ok (.getfield 29, 3) := by decide +kernel
theorem dX13_owedByAll_17 : decode cX13_owedByAll 17 = .ok (.bipush 6, 2) := by decide +kernel
theorem dX13_owedByAll_19 : decode cX13_owedByAll 19 = .ok (.iload_n 2, 1) := by decide +kernel
theorem dX13_owedByAll_20 : decode cX13_owedByAll 20 = .ok (.iadd, 1) := by decide +kernel
theorem dX13_owedByAll_21 : decode cX13_owedByAll 21 = .ok (.iaload, 1) := by decide +kernel
theorem dX13_owedByAll_22 : decode cX13_owedByAll 22 = .ok (.iadd, 1) := by decide +kernel
theorem dX13_owedByAll_23 : decode cX13_owedByAll 23 = .ok (.istore_n 1, 1) := by decide +kernel
theorem dX13_owedByAll_24 : decode cX13_owedByAll 24 = .ok (.iinc 2 1, 3) := by decide +kernel
theorem dX13_owedByAll_27 : decode cX13_owedByAll 27 = .ok (.goto (-23), 3) := by decide +kernel
theorem dX13_owedByAll_30 : decode cX13_owedByAll 30 = .ok (.iload_n 1, 1) := by decide +kernel
theorem dX13_owedByAll_31 : decode cX13_owedByAll 31 = .ok (.ireturn, 1) := by decide +kernel
def F_X13_owedByAll_L4 (rec : Nat → Int32 → Int32 → AH → Option (Int32 × AH)) (v0 : Nat) (v1 : Int32) (v2 : Int32) (h : AH) : Option (Int32 × AH) := (gi h 12 v0 5).bind fun x1 => if x1 ≤ v2 then (some (v1, h)) else ((gr h 12 v0 11).bind fun r3 => (ai h 0 r3 ((6 : Int32) + v2)).bind fun x4 => rec v0 (v1 + x4) (v2 + 1) h)
def f_X13_owedByAll_L4 : Nat → Nat → Int32 → Int32 → AH → Option (Int32 × AH)
  | 0 => fun _ _ _ _ => none
  | n + 1 => F_X13_owedByAll_L4 (f_X13_owedByAll_L4 n)
set_option maxRecDepth 100000 in
set_option maxHeartbeats 4000000 in
theorem lx_X13_owedByAll_L4 (X : SX) (d : Nat) : ∀ n (rv : Option Int32) (h' : AH), ∀ (v0 : Nat) (v1 : Int32) (v2 : Int32) (h : AH) (y1 : Int32) (h1 : AH), f_X13_owedByAll_L4 n v0 v1 v2 h = some (y1, h1) → G X mX13_owedByAll d 30 [(1, .int y1)] [] h1 rv h' → G X mX13_owedByAll d 4 [(0, .ref v0), (1, .int v1), (2, .int v2)] [] h rv h' := by
  intro n
  induction n with
  | zero =>
    intro rv h' v0 v1 v2 h y1 h1 hf hE
    cases hf
  | succ n ihf =>
    intro rv h' v0 v1 v2 h y1 h1 hf hE
    replace hf : F_X13_owedByAll_L4 (f_X13_owedByAll_L4 n) v0 v1 v2 h = some (y1, h1) := hf
    unfold F_X13_owedByAll_L4 at hf
    have ih := ihf rv h'
    refine G.iload_n dX13_owedByAll_4 rfl ?_
    refine G.aload_n dX13_owedByAll_5 rfl ?_
    refine G.geti flX13_75 dX13_owedByAll_6 hf (fun x1 hf => ?_)
    refine G.icmp_ge 30 dX13_owedByAll_9 (by decide) (fun c2 => ?_) (fun c2 => ?_)
    · rw [if_pos c2] at hf
      obtain ⟨u0, w1⟩ := Prod.mk.inj (Option.some.inj hf)
      subst u0
      subst w1
      exact G.pick [1] rfl hE
    · rw [if_neg c2] at hf
      refine G.iload_n dX13_owedByAll_12 rfl ?_
      refine G.aload_n dX13_owedByAll_13 rfl ?_
      refine G.getr flX13_29 dX13_owedByAll_14 hf (fun r3 hf => ?_)
      refine G.bipush (v := (6 : Int32)) dX13_owedByAll_17 (by decide) ?_
      refine G.iload_n dX13_owedByAll_19 rfl ?_
      refine G.iadd dX13_owedByAll_20 ?_
      refine G.iald dX13_owedByAll_21 hf (fun x4 hf => ?_)
      refine G.iadd dX13_owedByAll_22 ?_
      refine G.istore_n (lv' := [(1, .int (v1 + x4)), (0, .ref v0), (2, .int v2)]) dX13_owedByAll_23 (by decide) rfl ?_
      refine G.iinc (v := (v2 + 1)) (lv' := [(2, .int (v2 + 1)), (1, .int (v1 + x4)), (0, .ref v0)]) dX13_owedByAll_24 rfl rfl (by decide) rfl ?_
      refine G.goto 4 dX13_owedByAll_27 (by decide) ?_
      exact G.pick [2, 1, 0] rfl (ih v0 (v1 + x4) (v2 + 1) h _ _ hf hE)
theorem l_X13_owedByAll_L4 (X : SX) (d : Nat) (rv : Option Int32) (h' : AH) (n : Nat) : ∀ (v0 : Nat) (v1 : Int32) (v2 : Int32) (h : AH) (y1 : Int32) (h1 : AH), f_X13_owedByAll_L4 n v0 v1 v2 h = some (y1, h1) → G X mX13_owedByAll d 30 [(1, .int y1)] [] h1 rv h' → G X mX13_owedByAll d 4 [(0, .ref v0), (1, .int v1), (2, .int v2)] [] h rv h' := lx_X13_owedByAll_L4 X d n rv h'
def f_X13_owedByAll (a0 : Nat) (h : AH) : Option (Int32 × AH) := if isO h 12 a0 = true then (bT1 (f_X13_owedByAll_L4 1000000 a0 (0 : Int32) (0 : Int32) h) fun y3 h1 => some (y3, h1)) else none
set_option maxRecDepth 100000 in
set_option maxHeartbeats 4000000 in
theorem c_X13_owedByAll (X : SX) (d : Nat) (a0 : Nat) (h : AH) (rr : Int32) (h' : AH) (hf : f_X13_owedByAll a0 h = some (rr, h')) : isO h 12 a0 = true ∧ G X mX13_owedByAll d 0 [(0, .ref a0)] [] h (some rr) h' := by
  unfold f_X13_owedByAll at hf
  by_cases ho : isO h 12 a0 = true
  · rw [if_pos ho] at hf
    refine ⟨ho, ?_⟩
    refine G.iconst (v := (0 : Int32)) dX13_owedByAll_0 (by decide) ?_
    refine G.istore_n (lv' := [(1, .int (0 : Int32)), (0, .ref a0)]) dX13_owedByAll_1 (by decide) rfl ?_
    refine G.iconst (v := (0 : Int32)) dX13_owedByAll_2 (by decide) ?_
    refine G.istore_n (lv' := [(2, .int (0 : Int32)), (1, .int (0 : Int32)), (0, .ref a0)]) dX13_owedByAll_3 (by decide) rfl ?_
    obtain ⟨y3, h1, e2, hf⟩ := bT1_spec hf
    refine G.pick [2, 1, 0] rfl (l_X13_owedByAll_L4 X d _ _ 1000000 a0 (0 : Int32) (0 : Int32) h y3 h1 e2 ?_)
    refine G.iload_n dX13_owedByAll_30 rfl ?_
    obtain ⟨hq1, hq2⟩ := Prod.mk.inj (Option.some.inj hf)
    subst hq1
    subst hq2
    exact G.iret rfl rfl dX13_owedByAll_31
  · rw [if_neg ho] at hf
    cases hf
/-! X13_max -/
theorem dX13_max_0 : decode cX13_max 0 = .ok (.iload_n 1, 1) := by decide +kernel
theorem dX13_max_1 : decode cX13_max 1 = .ok (.iload_n 2, 1) := by decide +kernel
theorem dX13_max_2 : decode cX13_max 2 = .ok (.if_icmp .le 7, 3) := by decide +kernel
theorem dX13_max_5 : decode cX13_max 5 = .ok (.iload_n 1, 1) := by decide +kernel
theorem dX13_max_6 : decode cX13_max 6 = .ok (.goto 4, 3) := by decide +kernel
theorem dX13_max_9 : decode cX13_max 9 = .ok (.iload_n 2, 1) := by decide +kernel
theorem dX13_max_10 : decode cX13_max 10 = .ok (.ireturn, 1) := by decide +kernel
def f_X13_max (a0 : Nat) (a1 : Int32) (a2 : Int32) (h : AH) : Option (Int32 × AH) := if isO h 12 a0 = true then (if a1 ≤ a2 then (some (a2, h)) else (some (a1, h))) else none
set_option maxRecDepth 100000 in
set_option maxHeartbeats 4000000 in
theorem c_X13_max (X : SX) (d : Nat) (a0 : Nat) (a1 : Int32) (a2 : Int32) (h : AH) (rr : Int32) (h' : AH) (hf : f_X13_max a0 a1 a2 h = some (rr, h')) : isO h 12 a0 = true ∧ G X mX13_max d 0 [(0, .ref a0), (1, .int a1), (2, .int a2)] [] h (some rr) h' := by
  unfold f_X13_max at hf
  by_cases ho : isO h 12 a0 = true
  · rw [if_pos ho] at hf
    refine ⟨ho, ?_⟩
    refine G.iload_n dX13_max_0 rfl ?_
    refine G.iload_n dX13_max_1 rfl ?_
    refine G.icmp_le 9 dX13_max_2 (by decide) (fun c1 => ?_) (fun c1 => ?_)
    · rw [if_pos c1] at hf
      refine G.iload_n dX13_max_9 rfl ?_
      obtain ⟨hq1, hq2⟩ := Prod.mk.inj (Option.some.inj hf)
      subst hq1
      subst hq2
      exact G.iret rfl rfl dX13_max_10
    · rw [if_neg c1] at hf
      refine G.iload_n dX13_max_5 rfl ?_
      refine G.goto 10 dX13_max_6 (by decide) ?_
      obtain ⟨hq1, hq2⟩ := Prod.mk.inj (Option.some.inj hf)
      subst hq1
      subst hq2
      exact G.iret rfl rfl dX13_max_10
  · rw [if_neg ho] at hf
    cases hf
/-! X13_last -/
theorem dX13_last_0 : decode cX13_last 0 = .ok (.iconst (-1), 1) := by decide +kernel
theorem dX13_last_1 : decode cX13_last 1 = .ok (.istore_n 1, 1) := by decide +kernel
theorem dX13_last_2 : decode cX13_last 2 = .ok (.iconst 0, 1) := by decide +kernel
theorem dX13_last_3 : decode cX13_last 3 = .ok (.istore_n 2, 1) := by decide +kernel
theorem dX13_last_4 : decode cX13_last 4 = .ok (.iconst 0, 1) := by decide +kernel
theorem dX13_last_5 : decode cX13_last 5 = .ok (.istore_n 3, 1) := by decide +kernel
theorem dX13_last_6 : decode cX13_last 6 = .ok (.iload_n 3, 1) := by decide +kernel
theorem dX13_last_7 : decode cX13_last 7 = .ok (.aload_n 0, 1) := by decide +kernel
theorem dX13_last_8 : decode cX13_last 8 = .ok (.getfield 75, 3) := by decide +kernel
theorem dX13_last_11 : decode cX13_last 11 = .ok (.if_icmp .ge 43, 3) := by decide +kernel
theorem dX13_last_14 : decode cX13_last 14 = .ok (.aload_n 0, 1) := by decide +kernel
theorem dX13_last_15 : decode cX13_last 15 = .ok (.getfield 29, 3) := by decide +kernel
theorem dX13_last_18 : decode cX13_last 18 = .ok (.bipush 6, 2) := by decide +kernel
theorem dX13_last_20 : decode cX13_last 20 = .ok (.iload_n 3, 1) := by decide +kernel
theorem dX13_last_21 : decode cX13_last 21 = .ok (.iadd, 1) := by decide +kernel
theorem dX13_last_22 : decode cX13_last 22 = .ok (.iaload, 1) := by decide +kernel
theorem dX13_last_23 : decode cX13_last 23 = .ok (.iload_n 2, 1) := by decide +kernel
theorem dX13_last_24 : decode cX13_last 24 = .ok (.if_icmp .le 7, 3) := by decide +kernel
theorem dX13_last_27 : decode cX13_last 27 = .ok (.iload_n 3, 1) := by decide +kernel
theorem dX13_last_28 : decode cX13_last 28 = .ok (.goto 4, 3) := by decide +kernel
theorem dX13_last_31 : decode cX13_last 31 = .ok (.iload_n 1, 1) := by decide +kernel
theorem dX13_last_32 : decode cX13_last 32 = .ok (.istore_n 1, 1) := by decide +kernel
theorem dX13_last_33 : decode cX13_last 33 = .ok (.aload_n 0, 1) := by decide +kernel
theorem dX13_last_34 : decode cX13_last 34 = .ok (.iload_n 2, 1) := by decide +kernel
theorem dX13_last_35 : decode cX13_last 35 = .ok (.aload_n 0, 1) := by decide +kernel
theorem dX13_last_36 : decode cX13_last 36 = .ok (.getfield 29, 3) := by decide +kernel
theorem dX13_last_39 : decode cX13_last 39 = .ok (.bipush 6, 2) := by decide +kernel
theorem dX13_last_41 : decode cX13_last 41 = .ok (.iload_n 3, 1) := by decide +kernel
theorem dX13_last_42 : decode cX13_last 42 = .ok (.iadd, 1) := by decide +kernel
theorem dX13_last_43 : decode cX13_last 43 = .ok (.iaload, 1) := by decide +kernel
theorem dX13_last_44 : decode cX13_last 44 = .ok (.invokevirtual 141, 3) := by decide +kernel
theorem dX13_last_47 : decode cX13_last 47 = .ok (.istore_n 2, 1) := by decide +kernel
theorem dX13_last_48 : decode cX13_last 48 = .ok (.iinc 3 1, 3) := by decide +kernel
theorem dX13_last_51 : decode cX13_last 51 = .ok (.goto (-45), 3) := by decide +kernel
theorem dX13_last_54 : decode cX13_last 54 = .ok (.iload_n 1, 1) := by decide +kernel
theorem dX13_last_55 : decode cX13_last 55 = .ok (.ireturn, 1) := by decide +kernel
def f_X13_last_32 (rec : Nat → Int32 → Int32 → Int32 → AH → Option (Int32 × AH)) (v0 : Nat) (v2 : Int32) (v3 : Int32) (s0 : Int32) (h : AH) : Option (Int32 × AH) := (gr h 12 v0 11).bind fun r1 => (ai h 0 r1 ((6 : Int32) + v3)).bind fun x2 => bT1 (f_X13_max v0 v2 x2 h) fun x5 h3 => rec v0 s0 x5 (v3 + 1) h3
set_option maxRecDepth 100000 in
set_option maxHeartbeats 4000000 in
theorem j_X13_last_32 (X : SX) (d : Nat) (rec : Nat → Int32 → Int32 → Int32 → AH → Option (Int32 × AH)) (hrecf : ∀ (rv : Option Int32) (h' : AH), ∀ (v0 : Nat) (v1 : Int32) (v2 : Int32) (v3 : Int32) (h : AH) (y1 : Int32) (h1 : AH), rec v0 v1 v2 v3 h = some (y1, h1) → G X mX13_last (d + 1) 54 [(1, .int y1)] [] h1 rv h' → G X mX13_last (d + 1) 6 [(0, .ref v0), (1, .int v1), (2, .int v2), (3, .int v3)] [] h rv h') (v0 : Nat) (v2 : Int32) (v3 : Int32) (s0 : Int32) (h : AH) (y1 : Int32) (h1 : AH) (hf : f_X13_last_32 rec v0 v2 v3 s0 h = some (y1, h1)) (rv : Option Int32) (h' : AH) (hE : G X mX13_last (d + 1) 54 [(1, .int y1)] [] h1 rv h') : G X mX13_last (d + 1) 32 [(0, .ref v0), (2, .int v2), (3, .int v3)] [.int s0] h rv h' := by
  unfold f_X13_last_32 at hf
  have hrec := hrecf rv h'
  refine G.istore_n (lv' := [(1, .int s0), (0, .ref v0), (2, .int v2), (3, .int v3)]) dX13_last_32 (by decide) rfl ?_
  refine G.aload_n dX13_last_33 rfl ?_
  refine G.iload_n dX13_last_34 rfl ?_
  refine G.aload_n dX13_last_35 rfl ?_
  refine G.getr flX13_29 dX13_last_36 hf (fun r1 hf => ?_)
  refine G.bipush (v := (6 : Int32)) dX13_last_39 (by decide) ?_
  refine G.iload_n dX13_last_41 rfl ?_
  refine G.iadd dX13_last_42 ?_
  refine G.iald dX13_last_43 hf (fun x2 hf => ?_)
  obtain ⟨x5, h3, e4, hf⟩ := bT1_spec hf
  refine G.callVi (M' := mX13_max) (ci := 12) (As := [.int v2, .int x2]) (st := []) okX13_max viX13_max lkX13_141 rfl rfl rfl (Nat.le_of_ble_eq_true rfl) (Nat.le_of_ble_eq_true rfl) dX13_last_44 (c_X13_max X d _ _ _ _ _ _ e4).1 (c_X13_max X d _ _ _ _ _ _ e4).2 ?_
  refine G.istore_n (lv' := [(2, .int x5), (1, .int s0), (0, .ref v0), (3, .int v3)]) dX13_last_47 (by decide) rfl ?_
  refine G.iinc (v := (v3 + 1)) (lv' := [(3, .int (v3 + 1)), (2, .int x5), (1, .int s0), (0, .ref v0)]) dX13_last_48 rfl rfl (by decide) rfl ?_
  refine G.goto 6 dX13_last_51 (by decide) ?_
  exact G.pick [3, 2, 1, 0] rfl (hrec v0 s0 x5 (v3 + 1) h3 _ _ hf hE)
def F_X13_last_L6 (rec : Nat → Int32 → Int32 → Int32 → AH → Option (Int32 × AH)) (v0 : Nat) (v1 : Int32) (v2 : Int32) (v3 : Int32) (h : AH) : Option (Int32 × AH) := (gi h 12 v0 5).bind fun x1 => if x1 ≤ v3 then (some (v1, h)) else ((gr h 12 v0 11).bind fun r3 => (ai h 0 r3 ((6 : Int32) + v3)).bind fun x4 => if x4 ≤ v2 then (f_X13_last_32 rec v0 v2 v3 v1 h) else (f_X13_last_32 rec v0 v2 v3 v3 h))
def f_X13_last_L6 : Nat → Nat → Int32 → Int32 → Int32 → AH → Option (Int32 × AH)
  | 0 => fun _ _ _ _ _ => none
  | n + 1 => F_X13_last_L6 (f_X13_last_L6 n)
set_option maxRecDepth 100000 in
set_option maxHeartbeats 4000000 in
theorem lx_X13_last_L6 (X : SX) (d : Nat) : ∀ n (rv : Option Int32) (h' : AH), ∀ (v0 : Nat) (v1 : Int32) (v2 : Int32) (v3 : Int32) (h : AH) (y1 : Int32) (h1 : AH), f_X13_last_L6 n v0 v1 v2 v3 h = some (y1, h1) → G X mX13_last (d + 1) 54 [(1, .int y1)] [] h1 rv h' → G X mX13_last (d + 1) 6 [(0, .ref v0), (1, .int v1), (2, .int v2), (3, .int v3)] [] h rv h' := by
  intro n
  induction n with
  | zero =>
    intro rv h' v0 v1 v2 v3 h y1 h1 hf hE
    cases hf
  | succ n ihf =>
    intro rv h' v0 v1 v2 v3 h y1 h1 hf hE
    replace hf : F_X13_last_L6 (f_X13_last_L6 n) v0 v1 v2 v3 h = some (y1, h1) := hf
    unfold F_X13_last_L6 at hf
    have ih := ihf rv h'
    refine G.iload_n dX13_last_6 rfl ?_
    refine G.aload_n dX13_last_7 rfl ?_
    refine G.geti flX13_75 dX13_last_8 hf (fun x1 hf => ?_)
    refine G.icmp_ge 54 dX13_last_11 (by decide) (fun c2 => ?_) (fun c2 => ?_)
    · rw [if_pos c2] at hf
      obtain ⟨u0, w1⟩ := Prod.mk.inj (Option.some.inj hf)
      subst u0
      subst w1
      exact G.pick [1] rfl hE
    · rw [if_neg c2] at hf
      refine G.aload_n dX13_last_14 rfl ?_
      refine G.getr flX13_29 dX13_last_15 hf (fun r3 hf => ?_)
      refine G.bipush (v := (6 : Int32)) dX13_last_18 (by decide) ?_
      refine G.iload_n dX13_last_20 rfl ?_
      refine G.iadd dX13_last_21 ?_
      refine G.iald dX13_last_22 hf (fun x4 hf => ?_)
      refine G.iload_n dX13_last_23 rfl ?_
      refine G.icmp_le 31 dX13_last_24 (by decide) (fun c5 => ?_) (fun c5 => ?_)
      · rw [if_pos c5] at hf
        refine G.iload_n dX13_last_31 rfl ?_
        exact G.pick [0, 2, 3] rfl (j_X13_last_32 X d _ ihf v0 v2 v3 v1 h _ _ hf _ _ hE)
      · rw [if_neg c5] at hf
        refine G.iload_n dX13_last_27 rfl ?_
        refine G.goto 32 dX13_last_28 (by decide) ?_
        exact G.pick [0, 2, 3] rfl (j_X13_last_32 X d _ ihf v0 v2 v3 v3 h _ _ hf _ _ hE)
theorem l_X13_last_L6 (X : SX) (d : Nat) (rv : Option Int32) (h' : AH) (n : Nat) : ∀ (v0 : Nat) (v1 : Int32) (v2 : Int32) (v3 : Int32) (h : AH) (y1 : Int32) (h1 : AH), f_X13_last_L6 n v0 v1 v2 v3 h = some (y1, h1) → G X mX13_last (d + 1) 54 [(1, .int y1)] [] h1 rv h' → G X mX13_last (d + 1) 6 [(0, .ref v0), (1, .int v1), (2, .int v2), (3, .int v3)] [] h rv h' := lx_X13_last_L6 X d n rv h'
def f_X13_last (a0 : Nat) (h : AH) : Option (Int32 × AH) := if isO h 12 a0 = true then (bT1 (f_X13_last_L6 1000000 a0 (-1 : Int32) (0 : Int32) (0 : Int32) h) fun y3 h1 => some (y3, h1)) else none
set_option maxRecDepth 100000 in
set_option maxHeartbeats 4000000 in
theorem c_X13_last (X : SX) (d : Nat) (a0 : Nat) (h : AH) (rr : Int32) (h' : AH) (hf : f_X13_last a0 h = some (rr, h')) : isO h 12 a0 = true ∧ G X mX13_last (d + 1) 0 [(0, .ref a0)] [] h (some rr) h' := by
  unfold f_X13_last at hf
  by_cases ho : isO h 12 a0 = true
  · rw [if_pos ho] at hf
    refine ⟨ho, ?_⟩
    refine G.iconst (v := (-1 : Int32)) dX13_last_0 (by decide) ?_
    refine G.istore_n (lv' := [(1, .int (-1 : Int32)), (0, .ref a0)]) dX13_last_1 (by decide) rfl ?_
    refine G.iconst (v := (0 : Int32)) dX13_last_2 (by decide) ?_
    refine G.istore_n (lv' := [(2, .int (0 : Int32)), (1, .int (-1 : Int32)), (0, .ref a0)]) dX13_last_3 (by decide) rfl ?_
    refine G.iconst (v := (0 : Int32)) dX13_last_4 (by decide) ?_
    refine G.istore_n (lv' := [(3, .int (0 : Int32)), (2, .int (0 : Int32)), (1, .int (-1 : Int32)), (0, .ref a0)]) dX13_last_5 (by decide) rfl ?_
    obtain ⟨y3, h1, e2, hf⟩ := bT1_spec hf
    refine G.pick [3, 2, 1, 0] rfl (l_X13_last_L6 X d _ _ 1000000 a0 (-1 : Int32) (0 : Int32) (0 : Int32) h y3 h1 e2 ?_)
    refine G.iload_n dX13_last_54 rfl ?_
    obtain ⟨hq1, hq2⟩ := Prod.mk.inj (Option.some.inj hf)
    subst hq1
    subst hq2
    exact G.iret rfl rfl dX13_last_55
  · rw [if_neg ho] at hf
    cases hf
/-! X13_needs -/
theorem dX13_needs_0 : decode cX13_needs 0 = .ok (.aload_n 0, 1) := by decide +kernel
theorem dX13_needs_1 : decode cX13_needs 1 = .ok (.getfield 29, 3) := by decide +kernel
theorem dX13_needs_4 : decode cX13_needs 4 = .ok (.bipush 30, 2) := by decide +kernel
theorem dX13_needs_6 : decode cX13_needs 6 = .ok (.iload_n 1, 1) := by decide +kernel
theorem dX13_needs_7 : decode cX13_needs 7 = .ok (.iadd, 1) := by decide +kernel
theorem dX13_needs_8 : decode cX13_needs 8 = .ok (.iaload, 1) := by decide +kernel
theorem dX13_needs_9 : decode cX13_needs 9 = .ok (.iconst 1, 1) := by decide +kernel
theorem dX13_needs_10 : decode cX13_needs 10 = .ok (.if_icmp .ne 5, 3) := by decide +kernel
theorem dX13_needs_13 : decode cX13_needs 13 = .ok (.iconst 0, 1) := by decide +kernel
theorem dX13_needs_14 : decode cX13_needs 14 = .ok (.ireturn, 1) := by decide +kernel
theorem dX13_needs_15 : decode cX13_needs 15 = .ok (.aload_n 0, 1) := by decide +kernel
theorem dX13_needs_16 : decode cX13_needs 16 = .ok (.getfield 26, 3) := by decide +kernel
theorem dX13_needs_19 : decode cX13_needs 19 = .ok (.iload_n 1, 1) := by decide +kernel
theorem dX13_needs_20 : decode cX13_needs 20 = .ok (.iaload, 1) := by decide +kernel
theorem dX13_needs_21 : decode cX13_needs 21 = .ok (.istore_n 2, 1) := by decide +kernel
theorem dX13_needs_22 : decode cX13_needs 22 = .ok (.aload_n 0, 1) := by decide +kernel
theorem dX13_needs_23 : decode cX13_needs 23 = .ok (.getfield 23, 3) := by decide +kernel
theorem dX13_needs_26 : decode cX13_needs 26 = .ok (.iload_n 1, 1) := by decide +kernel
theorem dX13_needs_27 : decode cX13_needs 27 = .ok (.iaload, 1) := by decide +kernel
theorem dX13_needs_28 : decode cX13_needs 28 = .ok (.iconst 1, 1) := by decide +kernel
theorem dX13_needs_29 : decode cX13_needs 29 = .ok (.if_icmp .ne 7, 3) := by decide +kernel
theorem dX13_needs_32 : decode cX13_needs 32 = .ok (.iconst 2, 1) := by decide +kernel
theorem dX13_needs_33 : decode cX13_needs 33 = .ok (.iload_n 2, 1) := by decide +kernel
theorem dX13_needs_34 : decode cX13_needs 34 = .ok (.imul, 1) := by decide +kernel
theorem dX13_needs_35 : decode cX13_needs 35 = .ok (.istore_n 2, 1) := by decide +kernel
theorem dX13_needs_36 : decode cX13_needs 36 = .ok (.aload_n 0, 1) := by decide +kernel
theorem dX13_needs_37 : decode cX13_needs 37 = .ok (.getfield 23, 3) := by decide +kernel
theorem dX13_needs_40 : decode cX13_needs 40 = .ok (.iload_n 1, 1) := by decide +kernel
theorem dX13_needs_41 : decode cX13_needs 41 = .ok (.iaload, 1) := by decide +kernel
theorem dX13_needs_42 : decode cX13_needs 42 = .ok (.iconst 2, 1) := by decide +kernel
theorem dX13_needs_43 : decode cX13_needs 43 = .ok (.if_icmp .ne 9, 3) := by decide +kernel
theorem dX13_needs_46 : decode cX13_needs 46 = .ok (.iload_n 2, 1) := by decide +kernel
theorem dX13_needs_47 : decode cX13_needs 47 = .ok (.iconst 2, 1) := by decide +kernel
theorem dX13_needs_48 : decode cX13_needs 48 = .ok (.idiv, 1) := by decide +kernel
theorem dX13_needs_49 : decode cX13_needs 49 = .ok (.iconst 1, 1) := by decide +kernel
theorem dX13_needs_50 : decode cX13_needs 50 = .ok (.iadd, 1) := by decide +kernel
theorem dX13_needs_51 : decode cX13_needs 51 = .ok (.istore_n 2, 1) := by decide +kernel
theorem dX13_needs_52 : decode cX13_needs 52 = .ok (.aload_n 0, 1) := by decide +kernel
theorem dX13_needs_53 : decode cX13_needs 53 = .ok (.getfield 23, 3) := by decide +kernel
theorem dX13_needs_56 : decode cX13_needs 56 = .ok (.iload_n 1, 1) := by decide +kernel
theorem dX13_needs_57 : decode cX13_needs 57 = .ok (.iaload, 1) := by decide +kernel
theorem dX13_needs_58 : decode cX13_needs 58 = .ok (.iconst 3, 1) := by decide +kernel
theorem dX13_needs_59 : decode cX13_needs 59 = .ok (.if_icmp .ne 15, 3) := by decide +kernel
theorem dX13_needs_62 : decode cX13_needs 62 = .ok (.iload_n 2, 1) := by decide +kernel
theorem dX13_needs_63 : decode cX13_needs 63 = .ok (.aload_n 0, 1) := by decide +kernel
theorem dX13_needs_64 : decode cX13_needs 64 = .ok (.getfield 29, 3) := by decide +kernel
theorem dX13_needs_67 : decode cX13_needs 67 = .ok (.bipush 42, 2) := by decide +kernel
theorem dX13_needs_69 : decode cX13_needs 69 = .ok (.iload_n 1, 1) := by decide +kernel
theorem dX13_needs_70 : decode cX13_needs 70 = .ok (.iadd, 1) := by decide +kernel
theorem dX13_needs_71 : decode cX13_needs 71 = .ok (.iaload, 1) := by decide +kernel
theorem dX13_needs_72 : decode cX13_needs 72 = .ok (.iadd, 1) := by decide +kernel
theorem dX13_needs_73 : decode cX13_needs 73 = .ok (.istore_n 2, 1) := by decide +kernel
theorem dX13_needs_74 : decode cX13_needs 74 = .ok (.aload_n 0, 1) := by decide +kernel
theorem dX13_needs_75 : decode cX13_needs 75 = .ok (.iconst 0, 1) := by decide +kernel
theorem dX13_needs_76 : decode cX13_needs 76 = .ok (.iload_n 2, 1) := by decide +kernel
theorem dX13_needs_77 : decode cX13_needs 77 = .ok (.aload_n 0, 1) := by decide +kernel
theorem dX13_needs_78 : decode cX13_needs 78 = .ok (.getfield 29, 3) := by decide +kernel
theorem dX13_needs_81 : decode cX13_needs 81 = .ok (.bipush 36, 2) := by decide +kernel
theorem dX13_needs_83 : decode cX13_needs 83 = .ok (.iload_n 1, 1) := by decide +kernel
theorem dX13_needs_84 : decode cX13_needs 84 = .ok (.iadd, 1) := by decide +kernel
theorem dX13_needs_85 : decode cX13_needs 85 = .ok (.iaload, 1) := by decide +kernel
theorem dX13_needs_86 : decode cX13_needs 86 = .ok (.isub, 1) := by decide +kernel
theorem dX13_needs_87 : decode cX13_needs 87 = .ok (.invokevirtual 141, 3) := by decide +kernel
theorem dX13_needs_90 : decode cX13_needs 90 = .ok (.ireturn, 1) := by decide +kernel
def f_X13_needs_74 (v0 : Nat) (v1 : Int32) (v2 : Int32) (h : AH) : Option (Int32 × AH) := (gr h 12 v0 11).bind fun r1 => (ai h 0 r1 ((36 : Int32) + v1)).bind fun x2 => bT1 (f_X13_max v0 (0 : Int32) (v2 - x2) h) fun x5 h3 => some (x5, h3)
set_option maxRecDepth 100000 in
set_option maxHeartbeats 4000000 in
theorem j_X13_needs_74 (X : SX) (d : Nat) (v0 : Nat) (v1 : Int32) (v2 : Int32) (h : AH) (rr : Int32) (h' : AH) (hf : f_X13_needs_74 v0 v1 v2 h = some (rr, h')) : G X mX13_needs (d + 1) 74 [(0, .ref v0), (1, .int v1), (2, .int v2)] [] h (some rr) h' := by
  unfold f_X13_needs_74 at hf
  refine G.aload_n dX13_needs_74 rfl ?_
  refine G.iconst (v := (0 : Int32)) dX13_needs_75 (by decide) ?_
  refine G.iload_n dX13_needs_76 rfl ?_
  refine G.aload_n dX13_needs_77 rfl ?_
  refine G.getr flX13_29 dX13_needs_78 hf (fun r1 hf => ?_)
  refine G.bipush (v := (36 : Int32)) dX13_needs_81 (by decide) ?_
  refine G.iload_n dX13_needs_83 rfl ?_
  refine G.iadd dX13_needs_84 ?_
  refine G.iald dX13_needs_85 hf (fun x2 hf => ?_)
  refine G.isub dX13_needs_86 ?_
  obtain ⟨x5, h3, e4, hf⟩ := bT1_spec hf
  refine G.callVi (M' := mX13_max) (ci := 12) (As := [.int (0 : Int32), .int (v2 - x2)]) (st := []) okX13_max viX13_max lkX13_141 rfl rfl rfl (Nat.le_of_ble_eq_true rfl) (Nat.le_of_ble_eq_true rfl) dX13_needs_87 (c_X13_max X d _ _ _ _ _ _ e4).1 (c_X13_max X d _ _ _ _ _ _ e4).2 ?_
  obtain ⟨hq1, hq2⟩ := Prod.mk.inj (Option.some.inj hf)
  subst hq1
  subst hq2
  exact G.iret rfl rfl dX13_needs_90
def f_X13_needs_52 (v0 : Nat) (v1 : Int32) (v2 : Int32) (h : AH) : Option (Int32 × AH) := (gr h 12 v0 9).bind fun r1 => (ai h 0 r1 v1).bind fun x2 => if x2 = (3 : Int32) then ((gr h 12 v0 11).bind fun r4 => (ai h 0 r4 ((42 : Int32) + v1)).bind fun x5 => f_X13_needs_74 v0 v1 (v2 + x5) h) else (f_X13_needs_74 v0 v1 v2 h)
set_option maxRecDepth 100000 in
set_option maxHeartbeats 4000000 in
theorem j_X13_needs_52 (X : SX) (d : Nat) (v0 : Nat) (v1 : Int32) (v2 : Int32) (h : AH) (rr : Int32) (h' : AH) (hf : f_X13_needs_52 v0 v1 v2 h = some (rr, h')) : G X mX13_needs (d + 1) 52 [(0, .ref v0), (1, .int v1), (2, .int v2)] [] h (some rr) h' := by
  unfold f_X13_needs_52 at hf
  refine G.aload_n dX13_needs_52 rfl ?_
  refine G.getr flX13_23 dX13_needs_53 hf (fun r1 hf => ?_)
  refine G.iload_n dX13_needs_56 rfl ?_
  refine G.iald dX13_needs_57 hf (fun x2 hf => ?_)
  refine G.iconst (v := (3 : Int32)) dX13_needs_58 (by decide) ?_
  refine G.icmp_ne 74 dX13_needs_59 (by decide) (fun c3 => ?_) (fun c3 => ?_)
  · rw [if_neg c3] at hf
    exact G.pick [0, 1, 2] rfl (j_X13_needs_74 X d v0 v1 v2 h _ _ hf)
  · rw [if_pos c3] at hf
    refine G.iload_n dX13_needs_62 rfl ?_
    refine G.aload_n dX13_needs_63 rfl ?_
    refine G.getr flX13_29 dX13_needs_64 hf (fun r4 hf => ?_)
    refine G.bipush (v := (42 : Int32)) dX13_needs_67 (by decide) ?_
    refine G.iload_n dX13_needs_69 rfl ?_
    refine G.iadd dX13_needs_70 ?_
    refine G.iald dX13_needs_71 hf (fun x5 hf => ?_)
    refine G.iadd dX13_needs_72 ?_
    refine G.istore_n (lv' := [(2, .int (v2 + x5)), (0, .ref v0), (1, .int v1)]) dX13_needs_73 (by decide) rfl ?_
    exact G.pick [1, 2, 0] rfl (j_X13_needs_74 X d v0 v1 (v2 + x5) h _ _ hf)
def f_X13_needs_36 (v0 : Nat) (v1 : Int32) (v2 : Int32) (h : AH) : Option (Int32 × AH) := (gr h 12 v0 9).bind fun r1 => (ai h 0 r1 v1).bind fun x2 => if x2 = (2 : Int32) then (f_X13_needs_52 v0 v1 ((v2 / (2 : Int32)) + (1 : Int32)) h) else (f_X13_needs_52 v0 v1 v2 h)
set_option maxRecDepth 100000 in
set_option maxHeartbeats 4000000 in
theorem j_X13_needs_36 (X : SX) (d : Nat) (v0 : Nat) (v1 : Int32) (v2 : Int32) (h : AH) (rr : Int32) (h' : AH) (hf : f_X13_needs_36 v0 v1 v2 h = some (rr, h')) : G X mX13_needs (d + 1) 36 [(0, .ref v0), (1, .int v1), (2, .int v2)] [] h (some rr) h' := by
  unfold f_X13_needs_36 at hf
  refine G.aload_n dX13_needs_36 rfl ?_
  refine G.getr flX13_23 dX13_needs_37 hf (fun r1 hf => ?_)
  refine G.iload_n dX13_needs_40 rfl ?_
  refine G.iald dX13_needs_41 hf (fun x2 hf => ?_)
  refine G.iconst (v := (2 : Int32)) dX13_needs_42 (by decide) ?_
  refine G.icmp_ne 52 dX13_needs_43 (by decide) (fun c3 => ?_) (fun c3 => ?_)
  · rw [if_neg c3] at hf
    exact G.pick [0, 1, 2] rfl (j_X13_needs_52 X d v0 v1 v2 h _ _ hf)
  · rw [if_pos c3] at hf
    refine G.iload_n dX13_needs_46 rfl ?_
    refine G.iconst (v := (2 : Int32)) dX13_needs_47 (by decide) ?_
    refine G.idiv dX13_needs_48 (by decide) ?_
    refine G.iconst (v := (1 : Int32)) dX13_needs_49 (by decide) ?_
    refine G.iadd dX13_needs_50 ?_
    refine G.istore_n (lv' := [(2, .int ((v2 / (2 : Int32)) + (1 : Int32))), (0, .ref v0), (1, .int v1)]) dX13_needs_51 (by decide) rfl ?_
    exact G.pick [1, 2, 0] rfl (j_X13_needs_52 X d v0 v1 ((v2 / (2 : Int32)) + (1 : Int32)) h _ _ hf)
def f_X13_needs (a0 : Nat) (a1 : Int32) (h : AH) : Option (Int32 × AH) := if isO h 12 a0 = true then ((gr h 12 a0 11).bind fun r1 => (ai h 0 r1 ((30 : Int32) + a1)).bind fun x2 => if x2 = (1 : Int32) then (some ((0 : Int32), h)) else ((gr h 12 a0 10).bind fun r4 => (ai h 0 r4 a1).bind fun x5 => (gr h 12 a0 9).bind fun r6 => (ai h 0 r6 a1).bind fun x7 => if x7 = (1 : Int32) then (f_X13_needs_36 a0 a1 ((2 : Int32) * x5) h) else (f_X13_needs_36 a0 a1 x5 h))) else none
set_option maxRecDepth 100000 in
set_option maxHeartbeats 4000000 in
theorem c_X13_needs (X : SX) (d : Nat) (a0 : Nat) (a1 : Int32) (h : AH) (rr : Int32) (h' : AH) (hf : f_X13_needs a0 a1 h = some (rr, h')) : isO h 12 a0 = true ∧ G X mX13_needs (d + 1) 0 [(0, .ref a0), (1, .int a1)] [] h (some rr) h' := by
  unfold f_X13_needs at hf
  by_cases ho : isO h 12 a0 = true
  · rw [if_pos ho] at hf
    refine ⟨ho, ?_⟩
    refine G.aload_n dX13_needs_0 rfl ?_
    refine G.getr flX13_29 dX13_needs_1 hf (fun r1 hf => ?_)
    refine G.bipush (v := (30 : Int32)) dX13_needs_4 (by decide) ?_
    refine G.iload_n dX13_needs_6 rfl ?_
    refine G.iadd dX13_needs_7 ?_
    refine G.iald dX13_needs_8 hf (fun x2 hf => ?_)
    refine G.iconst (v := (1 : Int32)) dX13_needs_9 (by decide) ?_
    refine G.icmp_ne 15 dX13_needs_10 (by decide) (fun c3 => ?_) (fun c3 => ?_)
    · rw [if_neg c3] at hf
      refine G.aload_n dX13_needs_15 rfl ?_
      refine G.getr flX13_26 dX13_needs_16 hf (fun r4 hf => ?_)
      refine G.iload_n dX13_needs_19 rfl ?_
      refine G.iald dX13_needs_20 hf (fun x5 hf => ?_)
      refine G.istore_n (lv' := [(2, .int x5), (0, .ref a0), (1, .int a1)]) dX13_needs_21 (by decide) rfl ?_
      refine G.aload_n dX13_needs_22 rfl ?_
      refine G.getr flX13_23 dX13_needs_23 hf (fun r6 hf => ?_)
      refine G.iload_n dX13_needs_26 rfl ?_
      refine G.iald dX13_needs_27 hf (fun x7 hf => ?_)
      refine G.iconst (v := (1 : Int32)) dX13_needs_28 (by decide) ?_
      refine G.icmp_ne 36 dX13_needs_29 (by decide) (fun c8 => ?_) (fun c8 => ?_)
      · rw [if_neg c8] at hf
        exact G.pick [1, 2, 0] rfl (j_X13_needs_36 X d a0 a1 x5 h _ _ hf)
      · rw [if_pos c8] at hf
        refine G.iconst (v := (2 : Int32)) dX13_needs_32 (by decide) ?_
        refine G.iload_n dX13_needs_33 rfl ?_
        refine G.imul dX13_needs_34 ?_
        refine G.istore_n (lv' := [(2, .int ((2 : Int32) * x5)), (0, .ref a0), (1, .int a1)]) dX13_needs_35 (by decide) rfl ?_
        exact G.pick [1, 2, 0] rfl (j_X13_needs_36 X d a0 a1 ((2 : Int32) * x5) h _ _ hf)
    · rw [if_pos c3] at hf
      refine G.iconst (v := (0 : Int32)) dX13_needs_13 (by decide) ?_
      obtain ⟨hq1, hq2⟩ := Prod.mk.inj (Option.some.inj hf)
      subst hq1
      subst hq2
      exact G.iret rfl rfl dX13_needs_14
  · rw [if_neg ho] at hf
    cases hf
/-! X13_hardest -/
theorem dX13_hardest_0 : decode cX13_hardest 0 = .ok (.iconst (-1), 1) := by decide +kernel
theorem dX13_hardest_1 : decode cX13_hardest 1 = .ok (.istore_n 1, 1) := by decide +kernel
theorem dX13_hardest_2 : decode cX13_hardest 2 = .ok (.iconst (-1), 1) := by decide +kernel
theorem dX13_hardest_3 : decode cX13_hardest 3 = .ok (.istore_n 2, 1) := by decide +kernel
theorem dX13_hardest_4 : decode cX13_hardest 4 = .ok (.iconst 0, 1) := by decide +kernel
theorem dX13_hardest_5 : decode cX13_hardest 5 = .ok (.istore_n 3, 1) := by decide +kernel
theorem dX13_hardest_6 : decode cX13_hardest 6 = .ok (.iload_n 3, 1) := by decide +kernel
theorem dX13_hardest_7 : decode cX13_hardest 7 = .ok (.aload_n 0, 1) := by decide +kernel
theorem dX13_hardest_8 : decode cX13_hardest 8 = .ok (.getfield 78, 3) := by decide +kernel
theorem dX13_hardest_11 : decode cX13_hardest 11 = .ok (.if_icmp .ge 35, 3) := by decide +kernel
theorem dX13_hardest_14 : decode cX13_hardest 14 = .ok (.aload_n 0, 1) := by decide +kernel
theorem dX13_hardest_15 : decode cX13_hardest 15 = .ok (.iload_n 3, 1) := by decide +kernel
theorem dX13_hardest_16 : decode cX13_hardest 16 = .ok (.invokevirtual 144, 3) := by decide +kernel
theorem dX13_hardest_19 : decode cX13_hardest 19 = .ok (.iload_n 2, 1) := by decide +kernel
theorem dX13_hardest_20 : decode cX13_hardest 20 = .ok (.if_icmp .le 7, 3) := by decide +kernel
theorem dX13_hardest_23 : decode cX13_hardest 23 = .ok (.iload_n 3, 1) := by decide +kernel
theorem dX13_hardest_24 : decode cX13_hardest 24 = .ok (.goto 4, 3) := by decide +kernel
theorem dX13_hardest_27 : decode cX13_hardest 27 = .ok (.iload_n 1, 1) := by decide +kernel
theorem dX13_hardest_28 : decode cX13_hardest 28 = .ok (.istore_n 1, 1) := by decide +kernel
theorem dX13_hardest_29 : decode cX13_hardest 29 = .ok (.aload_n 0, 1) := by decide +kernel
theorem dX13_hardest_30 : decode cX13_hardest 30 = .ok (.iload_n 2, 1) := by decide +kernel
theorem dX13_hardest_31 : decode cX13_hardest 31 = .ok (.aload_n 0, 1) := by decide +kernel
theorem dX13_hardest_32 : decode cX13_hardest 32 = .ok (.iload_n 3, 1) := by decide +kernel
theorem dX13_hardest_33 : decode cX13_hardest 33 = .ok (.invokevirtual 144, 3) := by decide +kernel
theorem dX13_hardest_36 : decode cX13_hardest 36 = .ok (.invokevirtual 141, 3) := by decide +kernel
theorem dX13_hardest_39 : decode cX13_hardest 39 = .ok (.istore_n 2, 1) := by decide +kernel
theorem dX13_hardest_40 : decode cX13_hardest 40 = .ok (.iinc 3 1, 3) := by decide +kernel
theorem dX13_hardest_43 : decode cX13_hardest 43 = .ok (.goto (-37), 3) := by decide +kernel
theorem dX13_hardest_46 : decode cX13_hardest 46 = .ok (.iload_n 1, 1) := by decide +kernel
theorem dX13_hardest_47 : decode cX13_hardest 47 = .ok (.ireturn, 1) := by decide +kernel
def f_X13_hardest_28 (rec : Nat → Int32 → Int32 → Int32 → AH → Option (Int32 × AH)) (v0 : Nat) (v2 : Int32) (v3 : Int32) (s0 : Int32) (h : AH) : Option (Int32 × AH) := bT1 (f_X13_needs v0 v3 h) fun x3 h1 => bT1 (f_X13_max v0 v2 x3 h1) fun x6 h4 => rec v0 s0 x6 (v3 + 1) h4
set_option maxRecDepth 100000 in
set_option maxHeartbeats 4000000 in
theorem j_X13_hardest_28 (X : SX) (d : Nat) (rec : Nat → Int32 → Int32 → Int32 → AH → Option (Int32 × AH)) (hrecf : ∀ (rv : Option Int32) (h' : AH), ∀ (v0 : Nat) (v1 : Int32) (v2 : Int32) (v3 : Int32) (h : AH) (y1 : Int32) (h1 : AH), rec v0 v1 v2 v3 h = some (y1, h1) → G X mX13_hardest (d + 2) 46 [(1, .int y1)] [] h1 rv h' → G X mX13_hardest (d + 2) 6 [(0, .ref v0), (1, .int v1), (2, .int v2), (3, .int v3)] [] h rv h') (v0 : Nat) (v2 : Int32) (v3 : Int32) (s0 : Int32) (h : AH) (y1 : Int32) (h1 : AH) (hf : f_X13_hardest_28 rec v0 v2 v3 s0 h = some (y1, h1)) (rv : Option Int32) (h' : AH) (hE : G X mX13_hardest (d + 2) 46 [(1, .int y1)] [] h1 rv h') : G X mX13_hardest (d + 2) 28 [(0, .ref v0), (2, .int v2), (3, .int v3)] [.int s0] h rv h' := by
  unfold f_X13_hardest_28 at hf
  have hrec := hrecf rv h'
  refine G.istore_n (lv' := [(1, .int s0), (0, .ref v0), (2, .int v2), (3, .int v3)]) dX13_hardest_28 (by decide) rfl ?_
  refine G.aload_n dX13_hardest_29 rfl ?_
  refine G.iload_n dX13_hardest_30 rfl ?_
  refine G.aload_n dX13_hardest_31 rfl ?_
  refine G.iload_n dX13_hardest_32 rfl ?_
  obtain ⟨x3, h1, e2, hf⟩ := bT1_spec hf
  refine G.callVi (M' := mX13_needs) (ci := 12) (As := [.int v3]) (st := [.int v2, .ref v0]) okX13_needs viX13_needs lkX13_144 rfl rfl rfl (Nat.le_of_ble_eq_true rfl) (Nat.le_of_ble_eq_true rfl) dX13_hardest_33 (c_X13_needs X d _ _ _ _ _ e2).1 (c_X13_needs X d _ _ _ _ _ e2).2 ?_
  obtain ⟨x6, h4, e5, hf⟩ := bT1_spec hf
  refine G.callVi (M' := mX13_max) (ci := 12) (As := [.int v2, .int x3]) (st := []) okX13_max viX13_max lkX13_141 rfl rfl rfl (Nat.le_of_ble_eq_true rfl) (Nat.le_of_ble_eq_true rfl) dX13_hardest_36 (c_X13_max X (d + 1) _ _ _ _ _ _ e5).1 (c_X13_max X (d + 1) _ _ _ _ _ _ e5).2 ?_
  refine G.istore_n (lv' := [(2, .int x6), (1, .int s0), (0, .ref v0), (3, .int v3)]) dX13_hardest_39 (by decide) rfl ?_
  refine G.iinc (v := (v3 + 1)) (lv' := [(3, .int (v3 + 1)), (2, .int x6), (1, .int s0), (0, .ref v0)]) dX13_hardest_40 rfl rfl (by decide) rfl ?_
  refine G.goto 6 dX13_hardest_43 (by decide) ?_
  exact G.pick [3, 2, 1, 0] rfl (hrec v0 s0 x6 (v3 + 1) h4 _ _ hf hE)
def F_X13_hardest_L6 (rec : Nat → Int32 → Int32 → Int32 → AH → Option (Int32 × AH)) (v0 : Nat) (v1 : Int32) (v2 : Int32) (v3 : Int32) (h : AH) : Option (Int32 × AH) := (gi h 12 v0 6).bind fun x1 => if x1 ≤ v3 then (some (v1, h)) else (bT1 (f_X13_needs v0 v3 h) fun x5 h3 => if x5 ≤ v2 then (f_X13_hardest_28 rec v0 v2 v3 v1 h3) else (f_X13_hardest_28 rec v0 v2 v3 v3 h3))
def f_X13_hardest_L6 : Nat → Nat → Int32 → Int32 → Int32 → AH → Option (Int32 × AH)
  | 0 => fun _ _ _ _ _ => none
  | n + 1 => F_X13_hardest_L6 (f_X13_hardest_L6 n)
set_option maxRecDepth 100000 in
set_option maxHeartbeats 4000000 in
theorem lx_X13_hardest_L6 (X : SX) (d : Nat) : ∀ n (rv : Option Int32) (h' : AH), ∀ (v0 : Nat) (v1 : Int32) (v2 : Int32) (v3 : Int32) (h : AH) (y1 : Int32) (h1 : AH), f_X13_hardest_L6 n v0 v1 v2 v3 h = some (y1, h1) → G X mX13_hardest (d + 2) 46 [(1, .int y1)] [] h1 rv h' → G X mX13_hardest (d + 2) 6 [(0, .ref v0), (1, .int v1), (2, .int v2), (3, .int v3)] [] h rv h' := by
  intro n
  induction n with
  | zero =>
    intro rv h' v0 v1 v2 v3 h y1 h1 hf hE
    cases hf
  | succ n ihf =>
    intro rv h' v0 v1 v2 v3 h y1 h1 hf hE
    replace hf : F_X13_hardest_L6 (f_X13_hardest_L6 n) v0 v1 v2 v3 h = some (y1, h1) := hf
    unfold F_X13_hardest_L6 at hf
    have ih := ihf rv h'
    refine G.iload_n dX13_hardest_6 rfl ?_
    refine G.aload_n dX13_hardest_7 rfl ?_
    refine G.geti flX13_78 dX13_hardest_8 hf (fun x1 hf => ?_)
    refine G.icmp_ge 46 dX13_hardest_11 (by decide) (fun c2 => ?_) (fun c2 => ?_)
    · rw [if_pos c2] at hf
      obtain ⟨u0, w1⟩ := Prod.mk.inj (Option.some.inj hf)
      subst u0
      subst w1
      exact G.pick [1] rfl hE
    · rw [if_neg c2] at hf
      refine G.aload_n dX13_hardest_14 rfl ?_
      refine G.iload_n dX13_hardest_15 rfl ?_
      obtain ⟨x5, h3, e4, hf⟩ := bT1_spec hf
      refine G.callVi (M' := mX13_needs) (ci := 12) (As := [.int v3]) (st := []) okX13_needs viX13_needs lkX13_144 rfl rfl rfl (Nat.le_of_ble_eq_true rfl) (Nat.le_of_ble_eq_true rfl) dX13_hardest_16 (c_X13_needs X d _ _ _ _ _ e4).1 (c_X13_needs X d _ _ _ _ _ e4).2 ?_
      refine G.iload_n dX13_hardest_19 rfl ?_
      refine G.icmp_le 27 dX13_hardest_20 (by decide) (fun c6 => ?_) (fun c6 => ?_)
      · rw [if_pos c6] at hf
        refine G.iload_n dX13_hardest_27 rfl ?_
        exact G.pick [0, 2, 3] rfl (j_X13_hardest_28 X d _ ihf v0 v2 v3 v1 h3 _ _ hf _ _ hE)
      · rw [if_neg c6] at hf
        refine G.iload_n dX13_hardest_23 rfl ?_
        refine G.goto 28 dX13_hardest_24 (by decide) ?_
        exact G.pick [0, 2, 3] rfl (j_X13_hardest_28 X d _ ihf v0 v2 v3 v3 h3 _ _ hf _ _ hE)
theorem l_X13_hardest_L6 (X : SX) (d : Nat) (rv : Option Int32) (h' : AH) (n : Nat) : ∀ (v0 : Nat) (v1 : Int32) (v2 : Int32) (v3 : Int32) (h : AH) (y1 : Int32) (h1 : AH), f_X13_hardest_L6 n v0 v1 v2 v3 h = some (y1, h1) → G X mX13_hardest (d + 2) 46 [(1, .int y1)] [] h1 rv h' → G X mX13_hardest (d + 2) 6 [(0, .ref v0), (1, .int v1), (2, .int v2), (3, .int v3)] [] h rv h' := lx_X13_hardest_L6 X d n rv h'
def f_X13_hardest (a0 : Nat) (h : AH) : Option (Int32 × AH) := if isO h 12 a0 = true then (bT1 (f_X13_hardest_L6 1000000 a0 (-1 : Int32) (-1 : Int32) (0 : Int32) h) fun y3 h1 => some (y3, h1)) else none
set_option maxRecDepth 100000 in
set_option maxHeartbeats 4000000 in
theorem c_X13_hardest (X : SX) (d : Nat) (a0 : Nat) (h : AH) (rr : Int32) (h' : AH) (hf : f_X13_hardest a0 h = some (rr, h')) : isO h 12 a0 = true ∧ G X mX13_hardest (d + 2) 0 [(0, .ref a0)] [] h (some rr) h' := by
  unfold f_X13_hardest at hf
  by_cases ho : isO h 12 a0 = true
  · rw [if_pos ho] at hf
    refine ⟨ho, ?_⟩
    refine G.iconst (v := (-1 : Int32)) dX13_hardest_0 (by decide) ?_
    refine G.istore_n (lv' := [(1, .int (-1 : Int32)), (0, .ref a0)]) dX13_hardest_1 (by decide) rfl ?_
    refine G.iconst (v := (-1 : Int32)) dX13_hardest_2 (by decide) ?_
    refine G.istore_n (lv' := [(2, .int (-1 : Int32)), (1, .int (-1 : Int32)), (0, .ref a0)]) dX13_hardest_3 (by decide) rfl ?_
    refine G.iconst (v := (0 : Int32)) dX13_hardest_4 (by decide) ?_
    refine G.istore_n (lv' := [(3, .int (0 : Int32)), (2, .int (-1 : Int32)), (1, .int (-1 : Int32)), (0, .ref a0)]) dX13_hardest_5 (by decide) rfl ?_
    obtain ⟨y3, h1, e2, hf⟩ := bT1_spec hf
    refine G.pick [3, 2, 1, 0] rfl (l_X13_hardest_L6 X d _ _ 1000000 a0 (-1 : Int32) (-1 : Int32) (0 : Int32) h y3 h1 e2 ?_)
    refine G.iload_n dX13_hardest_46 rfl ?_
    obtain ⟨hq1, hq2⟩ := Prod.mk.inj (Option.some.inj hf)
    subst hq1
    subst hq2
    exact G.iret rfl rfl dX13_hardest_47
  · rw [if_neg ho] at hf
    cases hf
/-! X13_apart -/
theorem dX13_apart_0 : decode cX13_apart 0 = .ok (.iload_n 1, 1) := by decide +kernel
theorem dX13_apart_1 : decode cX13_apart 1 = .ok (.iload_n 2, 1) := by decide +kernel
theorem dX13_apart_2 : decode cX13_apart 2 = .ok (.if_icmp .le 9, 3) := by decide +kernel
theorem dX13_apart_5 : decode cX13_apart 5 = .ok (.iload_n 1, 1) := by decide +kernel
theorem dX13_apart_6 : decode cX13_apart 6 = .ok (.iload_n 2, 1) := by decide +kernel
theorem dX13_apart_7 : decode cX13_apart 7 = .ok (.isub, 1) := by decide +kernel
theorem dX13_apart_8 : decode cX13_apart 8 = .ok (.goto 6, 3) := by decide +kernel
theorem dX13_apart_11 : decode cX13_apart 11 = .ok (.iload_n 2, 1) := by decide +kernel
theorem dX13_apart_12 : decode cX13_apart 12 = .ok (.iload_n 1, 1) := by decide +kernel
theorem dX13_apart_13 : decode cX13_apart 13 = .ok (.isub, 1) := by decide +kernel
theorem dX13_apart_14 : decode cX13_apart 14 = .ok (.ireturn, 1) := by decide +kernel
def f_X13_apart (a0 : Nat) (a1 : Int32) (a2 : Int32) (h : AH) : Option (Int32 × AH) := if isO h 12 a0 = true then (if a1 ≤ a2 then (some ((a2 - a1), h)) else (some ((a1 - a2), h))) else none
set_option maxRecDepth 100000 in
set_option maxHeartbeats 4000000 in
theorem c_X13_apart (X : SX) (d : Nat) (a0 : Nat) (a1 : Int32) (a2 : Int32) (h : AH) (rr : Int32) (h' : AH) (hf : f_X13_apart a0 a1 a2 h = some (rr, h')) : isO h 12 a0 = true ∧ G X mX13_apart d 0 [(0, .ref a0), (1, .int a1), (2, .int a2)] [] h (some rr) h' := by
  unfold f_X13_apart at hf
  by_cases ho : isO h 12 a0 = true
  · rw [if_pos ho] at hf
    refine ⟨ho, ?_⟩
    refine G.iload_n dX13_apart_0 rfl ?_
    refine G.iload_n dX13_apart_1 rfl ?_
    refine G.icmp_le 11 dX13_apart_2 (by decide) (fun c1 => ?_) (fun c1 => ?_)
    · rw [if_pos c1] at hf
      refine G.iload_n dX13_apart_11 rfl ?_
      refine G.iload_n dX13_apart_12 rfl ?_
      refine G.isub dX13_apart_13 ?_
      obtain ⟨hq1, hq2⟩ := Prod.mk.inj (Option.some.inj hf)
      subst hq1
      subst hq2
      exact G.iret rfl rfl dX13_apart_14
    · rw [if_neg c1] at hf
      refine G.iload_n dX13_apart_5 rfl ?_
      refine G.iload_n dX13_apart_6 rfl ?_
      refine G.isub dX13_apart_7 ?_
      refine G.goto 14 dX13_apart_8 (by decide) ?_
      obtain ⟨hq1, hq2⟩ := Prod.mk.inj (Option.some.inj hf)
      subst hq1
      subst hq2
      exact G.iret rfl rfl dX13_apart_14
  · rw [if_neg ho] at hf
    cases hf
/-! X13_spread -/
theorem dX13_spread_0 : decode cX13_spread 0 = .ok (.iconst 0, 1) := by decide +kernel
theorem dX13_spread_1 : decode cX13_spread 1 = .ok (.istore_n 1, 1) := by decide +kernel
theorem dX13_spread_2 : decode cX13_spread 2 = .ok (.iconst 0, 1) := by decide +kernel
theorem dX13_spread_3 : decode cX13_spread 3 = .ok (.istore_n 2, 1) := by decide +kernel
theorem dX13_spread_4 : decode cX13_spread 4 = .ok (.iload_n 2, 1) := by decide +kernel
theorem dX13_spread_5 : decode cX13_spread 5 = .ok (.aload_n 0, 1) := by decide +kernel
theorem dX13_spread_6 : decode cX13_spread 6 = .ok (.getfield 78, 3) := by decide +kernel
theorem dX13_spread_9 : decode cX13_spread 9 = .ok (.if_icmp .ge 50, 3) := by decide +kernel
theorem dX13_spread_12 : decode cX13_spread 12 = .ok (.iconst 0, 1) := by decide +kernel
theorem dX13_spread_13 : decode cX13_spread 13 = .ok (.istore_n 3, 1) := by decide +kernel
theorem dX13_spread_14 : decode cX13_spread 14 = .ok (.iload_n 3, 1) := by decide +kernel
theorem dX13_spread_15 : decode cX13_spread 15 = .ok (.iload_n 2, 1) := by decide +kernel
theorem dX13_spread_16 : decode cX13_spread 16 = .ok (.if_icmp .ge 37, 3) := by decide +kernel
theorem dX13_spread_19 : decode cX13_spread 19 = .ok (.aload_n 0, 1) := by decide +kernel
theorem dX13_spread_20 : decode cX13_spread 20 = .ok (.iload_n 1, 1) := by decide +kernel
theorem dX13_spread_21 : decode cX13_spread 21 = .ok (.aload_n 0, 1) := by decide +kernel
theorem dX13_spread_22 : decode cX13_spread 22 = .ok (.aload_n 0, 1) := by decide +kernel
theorem dX13_spread_23 : decode cX13_spread 23 = .ok (.getfield 29, 3) := by decide +kernel
theorem dX13_spread_26 : decode cX13_spread 26 = .ok (.bipush 24, 2) := by decide +kernel
theorem dX13_spread_28 : decode cX13_spread 28 = .ok (.iload_n 2, 1) := by decide +kernel
theorem dX13_spread_29 : decode cX13_spread 29 = .ok (.iadd, 1) := by decide +kernel
theorem dX13_spread_30 : decode cX13_spread 30 = .ok (.iaload, 1) := by decide +kernel
theorem dX13_spread_31 : decode cX13_spread 31 = .ok (.aload_n 0, 1) := by decide +kernel
theorem dX13_spread_32 : decode cX13_spread 32 = .ok (.getfield 29, 3) := by decide +kernel
theorem dX13_spread_35 : decode cX13_spread 35 = .ok (.bipush 24, 2) := by decide +kernel
theorem dX13_spread_37 : decode cX13_spread 37 = .ok (.iload_n 3, 1) := by decide +kernel
theorem dX13_spread_38 : decode cX13_spread 38 = .ok (.iadd, 1) := by decide +kernel
theorem dX13_spread_39 : decode cX13_spread 39 = .ok (.iaload, 1) := by decide +kernel
theorem dX13_spread_40 : decode cX13_spread 40 = .ok (.invokevirtual 148, 3) := by decide +kernel
theorem dX13_spread_43 : decode cX13_spread 43 = .ok (.invokevirtual 141, 3) := by decide +kernel
theorem dX13_spread_46 : decode cX13_spread 46 = .ok (.istore_n 1, 1) := by decide +kernel
theorem dX13_spread_47 : decode cX13_spread 47 = .ok (.iinc 3 1, 3) := by decide +kernel
theorem dX13_spread_50 : decode cX13_spread 50 = .ok (.goto (-36), 3) := by decide +kernel
theorem dX13_spread_53 : decode cX13_spread 53 = .ok (.iinc 2 1, 3) := by decide +kernel
theorem dX13_spread_56 : decode cX13_spread 56 = .ok (.goto (-52), 3) := by decide +kernel
theorem dX13_spread_59 : decode cX13_spread 59 = .ok (.iload_n 1, 1) := by decide +kernel
theorem dX13_spread_60 : decode cX13_spread 60 = .ok (.ireturn, 1) := by decide +kernel
def F_X13_spread_L14 (rec : Nat → Int32 → Int32 → Int32 → AH → Option (Int32 × AH)) (v0 : Nat) (v1 : Int32) (v2 : Int32) (v3 : Int32) (h : AH) : Option (Int32 × AH) := if v2 ≤ v3 then (some (v1, h)) else ((gr h 12 v0 11).bind fun r2 => (ai h 0 r2 ((24 : Int32) + v2)).bind fun x3 => (gr h 12 v0 11).bind fun r4 => (ai h 0 r4 ((24 : Int32) + v3)).bind fun x5 => bT1 (f_X13_apart v0 x3 x5 h) fun x8 h6 => bT1 (f_X13_max v0 v1 x8 h6) fun x11 h9 => rec v0 x11 v2 (v3 + 1) h9)
def f_X13_spread_L14 : Nat → Nat → Int32 → Int32 → Int32 → AH → Option (Int32 × AH)
  | 0 => fun _ _ _ _ _ => none
  | n + 1 => F_X13_spread_L14 (f_X13_spread_L14 n)
set_option maxRecDepth 100000 in
set_option maxHeartbeats 4000000 in
theorem lx_X13_spread_L14 (X : SX) (d : Nat) : ∀ n (rv : Option Int32) (h' : AH), ∀ (v0 : Nat) (v1 : Int32) (v2 : Int32) (v3 : Int32) (h : AH) (y1 : Int32) (h1 : AH), f_X13_spread_L14 n v0 v1 v2 v3 h = some (y1, h1) → G X mX13_spread (d + 1) 53 [(0, .ref v0), (1, .int y1), (2, .int v2)] [] h1 rv h' → G X mX13_spread (d + 1) 14 [(0, .ref v0), (1, .int v1), (2, .int v2), (3, .int v3)] [] h rv h' := by
  intro n
  induction n with
  | zero =>
    intro rv h' v0 v1 v2 v3 h y1 h1 hf hE
    cases hf
  | succ n ihf =>
    intro rv h' v0 v1 v2 v3 h y1 h1 hf hE
    replace hf : F_X13_spread_L14 (f_X13_spread_L14 n) v0 v1 v2 v3 h = some (y1, h1) := hf
    unfold F_X13_spread_L14 at hf
    have ih := ihf rv h'
    refine G.iload_n dX13_spread_14 rfl ?_
    refine G.iload_n dX13_spread_15 rfl ?_
    refine G.icmp_ge 53 dX13_spread_16 (by decide) (fun c1 => ?_) (fun c1 => ?_)
    · rw [if_pos c1] at hf
      obtain ⟨u0, w1⟩ := Prod.mk.inj (Option.some.inj hf)
      subst u0
      subst w1
      exact G.pick [0, 1, 2] rfl hE
    · rw [if_neg c1] at hf
      refine G.aload_n dX13_spread_19 rfl ?_
      refine G.iload_n dX13_spread_20 rfl ?_
      refine G.aload_n dX13_spread_21 rfl ?_
      refine G.aload_n dX13_spread_22 rfl ?_
      refine G.getr flX13_29 dX13_spread_23 hf (fun r2 hf => ?_)
      refine G.bipush (v := (24 : Int32)) dX13_spread_26 (by decide) ?_
      refine G.iload_n dX13_spread_28 rfl ?_
      refine G.iadd dX13_spread_29 ?_
      refine G.iald dX13_spread_30 hf (fun x3 hf => ?_)
      refine G.aload_n dX13_spread_31 rfl ?_
      refine G.getr flX13_29 dX13_spread_32 hf (fun r4 hf => ?_)
      refine G.bipush (v := (24 : Int32)) dX13_spread_35 (by decide) ?_
      refine G.iload_n dX13_spread_37 rfl ?_
      refine G.iadd dX13_spread_38 ?_
      refine G.iald dX13_spread_39 hf (fun x5 hf => ?_)
      obtain ⟨x8, h6, e7, hf⟩ := bT1_spec hf
      refine G.callVi (M' := mX13_apart) (ci := 12) (As := [.int x3, .int x5]) (st := [.int v1, .ref v0]) okX13_apart viX13_apart lkX13_148 rfl rfl rfl (Nat.le_of_ble_eq_true rfl) (Nat.le_of_ble_eq_true rfl) dX13_spread_40 (c_X13_apart X d _ _ _ _ _ _ e7).1 (c_X13_apart X d _ _ _ _ _ _ e7).2 ?_
      obtain ⟨x11, h9, e10, hf⟩ := bT1_spec hf
      refine G.callVi (M' := mX13_max) (ci := 12) (As := [.int v1, .int x8]) (st := []) okX13_max viX13_max lkX13_141 rfl rfl rfl (Nat.le_of_ble_eq_true rfl) (Nat.le_of_ble_eq_true rfl) dX13_spread_43 (c_X13_max X d _ _ _ _ _ _ e10).1 (c_X13_max X d _ _ _ _ _ _ e10).2 ?_
      refine G.istore_n (lv' := [(1, .int x11), (0, .ref v0), (2, .int v2), (3, .int v3)]) dX13_spread_46 (by decide) rfl ?_
      refine G.iinc (v := (v3 + 1)) (lv' := [(3, .int (v3 + 1)), (1, .int x11), (0, .ref v0), (2, .int v2)]) dX13_spread_47 rfl rfl (by decide) rfl ?_
      refine G.goto 14 dX13_spread_50 (by decide) ?_
      exact G.pick [2, 1, 3, 0] rfl (ih v0 x11 v2 (v3 + 1) h9 _ _ hf hE)
theorem l_X13_spread_L14 (X : SX) (d : Nat) (rv : Option Int32) (h' : AH) (n : Nat) : ∀ (v0 : Nat) (v1 : Int32) (v2 : Int32) (v3 : Int32) (h : AH) (y1 : Int32) (h1 : AH), f_X13_spread_L14 n v0 v1 v2 v3 h = some (y1, h1) → G X mX13_spread (d + 1) 53 [(0, .ref v0), (1, .int y1), (2, .int v2)] [] h1 rv h' → G X mX13_spread (d + 1) 14 [(0, .ref v0), (1, .int v1), (2, .int v2), (3, .int v3)] [] h rv h' := lx_X13_spread_L14 X d n rv h'
def F_X13_spread_L4 (rec : Nat → Int32 → Int32 → AH → Option (Int32 × AH)) (v0 : Nat) (v1 : Int32) (v2 : Int32) (h : AH) : Option (Int32 × AH) := (gi h 12 v0 6).bind fun x1 => if x1 ≤ v2 then (some (v1, h)) else (bT1 (f_X13_spread_L14 1000000 v0 v1 v2 (0 : Int32) h) fun y5 h3 => rec v0 y5 (v2 + 1) h3)
def f_X13_spread_L4 : Nat → Nat → Int32 → Int32 → AH → Option (Int32 × AH)
  | 0 => fun _ _ _ _ => none
  | n + 1 => F_X13_spread_L4 (f_X13_spread_L4 n)
set_option maxRecDepth 100000 in
set_option maxHeartbeats 4000000 in
theorem lx_X13_spread_L4 (X : SX) (d : Nat) : ∀ n (rv : Option Int32) (h' : AH), ∀ (v0 : Nat) (v1 : Int32) (v2 : Int32) (h : AH) (y1 : Int32) (h1 : AH), f_X13_spread_L4 n v0 v1 v2 h = some (y1, h1) → G X mX13_spread (d + 1) 59 [(1, .int y1)] [] h1 rv h' → G X mX13_spread (d + 1) 4 [(0, .ref v0), (1, .int v1), (2, .int v2)] [] h rv h' := by
  intro n
  induction n with
  | zero =>
    intro rv h' v0 v1 v2 h y1 h1 hf hE
    cases hf
  | succ n ihf =>
    intro rv h' v0 v1 v2 h y1 h1 hf hE
    replace hf : F_X13_spread_L4 (f_X13_spread_L4 n) v0 v1 v2 h = some (y1, h1) := hf
    unfold F_X13_spread_L4 at hf
    have ih := ihf rv h'
    refine G.iload_n dX13_spread_4 rfl ?_
    refine G.aload_n dX13_spread_5 rfl ?_
    refine G.geti flX13_78 dX13_spread_6 hf (fun x1 hf => ?_)
    refine G.icmp_ge 59 dX13_spread_9 (by decide) (fun c2 => ?_) (fun c2 => ?_)
    · rw [if_pos c2] at hf
      obtain ⟨u0, w1⟩ := Prod.mk.inj (Option.some.inj hf)
      subst u0
      subst w1
      exact G.pick [1] rfl hE
    · rw [if_neg c2] at hf
      refine G.iconst (v := (0 : Int32)) dX13_spread_12 (by decide) ?_
      refine G.istore_n (lv' := [(3, .int (0 : Int32)), (0, .ref v0), (1, .int v1), (2, .int v2)]) dX13_spread_13 (by decide) rfl ?_
      obtain ⟨y5, h3, e4, hf⟩ := bT1_spec hf
      refine G.pick [1, 2, 3, 0] rfl (l_X13_spread_L14 X d _ _ 1000000 v0 v1 v2 (0 : Int32) h y5 h3 e4 ?_)
      refine G.iinc (v := (v2 + 1)) (lv' := [(2, .int (v2 + 1)), (0, .ref v0), (1, .int y5)]) dX13_spread_53 rfl rfl (by decide) rfl ?_
      refine G.goto 4 dX13_spread_56 (by decide) ?_
      exact G.pick [1, 2, 0] rfl (ih v0 y5 (v2 + 1) h3 _ _ hf hE)
theorem l_X13_spread_L4 (X : SX) (d : Nat) (rv : Option Int32) (h' : AH) (n : Nat) : ∀ (v0 : Nat) (v1 : Int32) (v2 : Int32) (h : AH) (y1 : Int32) (h1 : AH), f_X13_spread_L4 n v0 v1 v2 h = some (y1, h1) → G X mX13_spread (d + 1) 59 [(1, .int y1)] [] h1 rv h' → G X mX13_spread (d + 1) 4 [(0, .ref v0), (1, .int v1), (2, .int v2)] [] h rv h' := lx_X13_spread_L4 X d n rv h'
def f_X13_spread (a0 : Nat) (h : AH) : Option (Int32 × AH) := if isO h 12 a0 = true then (bT1 (f_X13_spread_L4 1000000 a0 (0 : Int32) (0 : Int32) h) fun y3 h1 => some (y3, h1)) else none
set_option maxRecDepth 100000 in
set_option maxHeartbeats 4000000 in
theorem c_X13_spread (X : SX) (d : Nat) (a0 : Nat) (h : AH) (rr : Int32) (h' : AH) (hf : f_X13_spread a0 h = some (rr, h')) : isO h 12 a0 = true ∧ G X mX13_spread (d + 1) 0 [(0, .ref a0)] [] h (some rr) h' := by
  unfold f_X13_spread at hf
  by_cases ho : isO h 12 a0 = true
  · rw [if_pos ho] at hf
    refine ⟨ho, ?_⟩
    refine G.iconst (v := (0 : Int32)) dX13_spread_0 (by decide) ?_
    refine G.istore_n (lv' := [(1, .int (0 : Int32)), (0, .ref a0)]) dX13_spread_1 (by decide) rfl ?_
    refine G.iconst (v := (0 : Int32)) dX13_spread_2 (by decide) ?_
    refine G.istore_n (lv' := [(2, .int (0 : Int32)), (1, .int (0 : Int32)), (0, .ref a0)]) dX13_spread_3 (by decide) rfl ?_
    obtain ⟨y3, h1, e2, hf⟩ := bT1_spec hf
    refine G.pick [2, 1, 0] rfl (l_X13_spread_L4 X d _ _ 1000000 a0 (0 : Int32) (0 : Int32) h y3 h1 e2 ?_)
    refine G.iload_n dX13_spread_59 rfl ?_
    obtain ⟨hq1, hq2⟩ := Prod.mk.inj (Option.some.inj hf)
    subst hq1
    subst hq2
    exact G.iret rfl rfl dX13_spread_60
  · rw [if_neg ho] at hf
    cases hf
/-! X13_isSinger -/
theorem dX13_isSinger_0 : decode cX13_isSinger 0 = .ok (.iload_n 1, 1) := by decide +kernel
theorem dX13_isSinger_1 : decode cX13_isSinger 1 = .ok (.ifCond .lt 15, 3) := by decide +kernel
theorem dX13_isSinger_4 : decode cX13_isSinger 4 = .ok (.iload_n 1, 1) := by decide +kernel
theorem dX13_isSinger_5 : decode cX13_isSinger 5 = .ok (.aload_n 0, 1) := by decide +kernel
theorem dX13_isSinger_6 : decode cX13_isSinger 6 = .ok (.getfield 75, 3) := by decide +kernel
theorem dX13_isSinger_9 : decode cX13_isSinger 9 = .ok (.if_icmp .ge 7, 3) := by decide +kernel
theorem dX13_isSinger_12 : decode cX13_isSinger 12 = .ok (.iconst 1, 1) := by decide +kernel
theorem dX13_isSinger_13 : decode cX13_isSinger 13 = .ok (.goto 4, 3) := by decide +kernel
theorem dX13_isSinger_16 : decode cX13_isSinger 16 = .ok (.iconst 0, 1) := by decide +kernel
theorem dX13_isSinger_17 : decode cX13_isSinger 17 = .ok (.ireturn, 1) := by decide +kernel
def f_X13_isSinger (a0 : Nat) (a1 : Int32) (h : AH) : Option (Int32 × AH) := if isO h 12 a0 = true then (if a1 < 0 then (some ((0 : Int32), h)) else ((gi h 12 a0 5).bind fun x2 => if x2 ≤ a1 then (some ((0 : Int32), h)) else (some ((1 : Int32), h)))) else none
set_option maxRecDepth 100000 in
set_option maxHeartbeats 4000000 in
theorem c_X13_isSinger (X : SX) (d : Nat) (a0 : Nat) (a1 : Int32) (h : AH) (rr : Int32) (h' : AH) (hf : f_X13_isSinger a0 a1 h = some (rr, h')) : isO h 12 a0 = true ∧ G X mX13_isSinger d 0 [(0, .ref a0), (1, .int a1)] [] h (some rr) h' := by
  unfold f_X13_isSinger at hf
  by_cases ho : isO h 12 a0 = true
  · rw [if_pos ho] at hf
    refine ⟨ho, ?_⟩
    refine G.iload_n dX13_isSinger_0 rfl ?_
    refine G.if_lt 16 dX13_isSinger_1 (by decide) (fun c1 => ?_) (fun c1 => ?_)
    · rw [if_pos c1] at hf
      refine G.iconst (v := (0 : Int32)) dX13_isSinger_16 (by decide) ?_
      obtain ⟨hq1, hq2⟩ := Prod.mk.inj (Option.some.inj hf)
      subst hq1
      subst hq2
      exact G.iret rfl (by decide) dX13_isSinger_17
    · rw [if_neg c1] at hf
      refine G.iload_n dX13_isSinger_4 rfl ?_
      refine G.aload_n dX13_isSinger_5 rfl ?_
      refine G.geti flX13_75 dX13_isSinger_6 hf (fun x2 hf => ?_)
      refine G.icmp_ge 16 dX13_isSinger_9 (by decide) (fun c3 => ?_) (fun c3 => ?_)
      · rw [if_pos c3] at hf
        refine G.iconst (v := (0 : Int32)) dX13_isSinger_16 (by decide) ?_
        obtain ⟨hq1, hq2⟩ := Prod.mk.inj (Option.some.inj hf)
        subst hq1
        subst hq2
        exact G.iret rfl (by decide) dX13_isSinger_17
      · rw [if_neg c3] at hf
        refine G.iconst (v := (1 : Int32)) dX13_isSinger_12 (by decide) ?_
        refine G.goto 17 dX13_isSinger_13 (by decide) ?_
        obtain ⟨hq1, hq2⟩ := Prod.mk.inj (Option.some.inj hf)
        subst hq1
        subst hq2
        exact G.iret rfl (by decide) dX13_isSinger_17
  · rw [if_neg ho] at hf
    cases hf
/-! X13_isChild -/
theorem dX13_isChild_0 : decode cX13_isChild 0 = .ok (.iload_n 1, 1) := by decide +kernel
theorem dX13_isChild_1 : decode cX13_isChild 1 = .ok (.ifCond .lt 15, 3) := by decide +kernel
theorem dX13_isChild_4 : decode cX13_isChild 4 = .ok (.iload_n 1, 1) := by decide +kernel
theorem dX13_isChild_5 : decode cX13_isChild 5 = .ok (.aload_n 0, 1) := by decide +kernel
theorem dX13_isChild_6 : decode cX13_isChild 6 = .ok (.getfield 78, 3) := by decide +kernel
theorem dX13_isChild_9 : decode cX13_isChild 9 = .ok (.if_icmp .ge 7, 3) := by decide +kernel
theorem dX13_isChild_12 : decode cX13_isChild 12 = .ok (.iconst 1, 1) := by decide +kernel
theorem dX13_isChild_13 : decode cX13_isChild 13 = .ok (.goto 4, 3) := by decide +kernel
theorem dX13_isChild_16 : decode cX13_isChild 16 = .ok (.iconst 0, 1) := by decide +kernel
theorem dX13_isChild_17 : decode cX13_isChild 17 = .ok (.ireturn, 1) := by decide +kernel
def f_X13_isChild (a0 : Nat) (a1 : Int32) (h : AH) : Option (Int32 × AH) := if isO h 12 a0 = true then (if a1 < 0 then (some ((0 : Int32), h)) else ((gi h 12 a0 6).bind fun x2 => if x2 ≤ a1 then (some ((0 : Int32), h)) else (some ((1 : Int32), h)))) else none
set_option maxRecDepth 100000 in
set_option maxHeartbeats 4000000 in
theorem c_X13_isChild (X : SX) (d : Nat) (a0 : Nat) (a1 : Int32) (h : AH) (rr : Int32) (h' : AH) (hf : f_X13_isChild a0 a1 h = some (rr, h')) : isO h 12 a0 = true ∧ G X mX13_isChild d 0 [(0, .ref a0), (1, .int a1)] [] h (some rr) h' := by
  unfold f_X13_isChild at hf
  by_cases ho : isO h 12 a0 = true
  · rw [if_pos ho] at hf
    refine ⟨ho, ?_⟩
    refine G.iload_n dX13_isChild_0 rfl ?_
    refine G.if_lt 16 dX13_isChild_1 (by decide) (fun c1 => ?_) (fun c1 => ?_)
    · rw [if_pos c1] at hf
      refine G.iconst (v := (0 : Int32)) dX13_isChild_16 (by decide) ?_
      obtain ⟨hq1, hq2⟩ := Prod.mk.inj (Option.some.inj hf)
      subst hq1
      subst hq2
      exact G.iret rfl (by decide) dX13_isChild_17
    · rw [if_neg c1] at hf
      refine G.iload_n dX13_isChild_4 rfl ?_
      refine G.aload_n dX13_isChild_5 rfl ?_
      refine G.geti flX13_78 dX13_isChild_6 hf (fun x2 hf => ?_)
      refine G.icmp_ge 16 dX13_isChild_9 (by decide) (fun c3 => ?_) (fun c3 => ?_)
      · rw [if_pos c3] at hf
        refine G.iconst (v := (0 : Int32)) dX13_isChild_16 (by decide) ?_
        obtain ⟨hq1, hq2⟩ := Prod.mk.inj (Option.some.inj hf)
        subst hq1
        subst hq2
        exact G.iret rfl (by decide) dX13_isChild_17
      · rw [if_neg c3] at hf
        refine G.iconst (v := (1 : Int32)) dX13_isChild_12 (by decide) ?_
        refine G.goto 17 dX13_isChild_13 (by decide) ?_
        obtain ⟨hq1, hq2⟩ := Prod.mk.inj (Option.some.inj hf)
        subst hq1
        subst hq2
        exact G.iret rfl (by decide) dX13_isChild_17
  · rw [if_neg ho] at hf
    cases hf
/-! X13_steps -/
theorem dX13_steps_0 : decode cX13_steps 0 = .ok (.aload_n 0, 1) := by decide +kernel
theorem dX13_steps_1 : decode cX13_steps 1 = .ok (.iload_n 1, 1) := by decide +kernel
theorem dX13_steps_2 : decode cX13_steps 2 = .ok (.invokevirtual 176, 3) := by decide +kernel
theorem dX13_steps_5 : decode cX13_steps 5 = .ok (.ifCond .eq 36, 3) := by decide +kernel
theorem dX13_steps_8 : decode cX13_steps 8 = .ok (.aload_n 0, 1) := by decide +kernel
theorem dX13_steps_9 : decode cX13_steps 9 = .ok (.iload_n 2, 1) := by decide +kernel
theorem dX13_steps_10 : decode cX13_steps 10 = .ok (.invokevirtual 181, 3) := by decide +kernel
theorem dX13_steps_13 : decode cX13_steps 13 = .ok (.ifCond .eq 28, 3) := by decide +kernel
theorem dX13_steps_16 : decode cX13_steps 16 = .ok (.aload_n 0, 1) := by decide +kernel
theorem dX13_steps_17 : decode cX13_steps 17 = .ok (.aload_n 0, 1) := by decide +kernel
theorem dX13_steps_18 : decode cX13_steps 18 = .ok (.getfield 29, 3) := by decide +kernel
theorem dX13_steps_21 : decode cX13_steps 21 = .ok (.bipush 12, 2) := by decide +kernel
theorem dX13_steps_23 : decode cX13_steps 23 = .ok (.iload_n 1, 1) := by decide +kernel
theorem dX13_steps_24 : decode cX13_steps 24 = .ok (.iadd, 1) := by decide +kernel
theorem dX13_steps_25 : decode cX13_steps 25 = .ok (.iaload, 1) := by decide +kernel
theorem dX13_steps_26 : decode cX13_steps 26 = .ok (.aload_n 0, 1) := by decide +kernel
theorem dX13_steps_27 : decode cX13_steps 27 = .ok (.getfield 29, 3) := by decide +kernel
theorem dX13_steps_30 : decode cX13_steps 30 = .ok (.bipush 24, 2) := by decide +kernel
theorem dX13_steps_32 : decode cX13_steps 32 = .ok (.iload_n 2, 1) := by decide +kernel
theorem dX13_steps_33 : decode cX13_steps 33 = .ok (.iadd, 1) := by decide +kernel
theorem dX13_steps_34 : decode cX13_steps 34 = .ok (.iaload, 1) := by decide +kernel
theorem dX13_steps_35 : decode cX13_steps 35 = .ok (.invokevirtual 148, 3) := by decide +kernel
theorem dX13_steps_38 : decode cX13_steps 38 = .ok (.goto 5, 3) := by decide +kernel
theorem dX13_steps_41 : decode cX13_steps 41 = .ok (.ldc 180, 2) := by decide +kernel
theorem dX13_steps_43 : decode cX13_steps 43 = .ok (.ireturn, 1) := by decide +kernel
def f_X13_steps (a0 : Nat) (a1 : Int32) (a2 : Int32) (h : AH) : Option (Int32 × AH) := if isO h 12 a0 = true then (bT1 (f_X13_isSinger a0 a1 h) fun x3 h1 => if x3 = 0 then (some ((-1000000001 : Int32), h1)) else (bT1 (f_X13_isChild a0 a2 h1) fun x7 h5 => if x7 = 0 then (some ((-1000000001 : Int32), h5)) else ((gr h5 12 a0 11).bind fun r9 => (ai h5 0 r9 ((12 : Int32) + a1)).bind fun x10 => (gr h5 12 a0 11).bind fun r11 => (ai h5 0 r11 ((24 : Int32) + a2)).bind fun x12 => bT1 (f_X13_apart a0 x10 x12 h5) fun x15 h13 => some (x15, h13)))) else none
set_option maxRecDepth 100000 in
set_option maxHeartbeats 4000000 in
theorem c_X13_steps (X : SX) (d : Nat) (a0 : Nat) (a1 : Int32) (a2 : Int32) (h : AH) (rr : Int32) (h' : AH) (hf : f_X13_steps a0 a1 a2 h = some (rr, h')) : isO h 12 a0 = true ∧ G X mX13_steps (d + 1) 0 [(0, .ref a0), (1, .int a1), (2, .int a2)] [] h (some rr) h' := by
  unfold f_X13_steps at hf
  by_cases ho : isO h 12 a0 = true
  · rw [if_pos ho] at hf
    refine ⟨ho, ?_⟩
    refine G.aload_n dX13_steps_0 rfl ?_
    refine G.iload_n dX13_steps_1 rfl ?_
    obtain ⟨x3, h1, e2, hf⟩ := bT1_spec hf
    refine G.callVi (M' := mX13_isSinger) (ci := 12) (As := [.int a1]) (st := []) okX13_isSinger viX13_isSinger lkX13_176 rfl rfl rfl (Nat.le_of_ble_eq_true rfl) (Nat.le_of_ble_eq_true rfl) dX13_steps_2 (c_X13_isSinger X d _ _ _ _ _ e2).1 (c_X13_isSinger X d _ _ _ _ _ e2).2 ?_
    refine G.if_eq 41 dX13_steps_5 (by decide) (fun c4 => ?_) (fun c4 => ?_)
    · rw [if_pos c4] at hf
      refine G.ldc ckX13_180 dX13_steps_41 ?_
      obtain ⟨hq1, hq2⟩ := Prod.mk.inj (Option.some.inj hf)
      subst hq1
      subst hq2
      exact G.iret rfl rfl dX13_steps_43
    · rw [if_neg c4] at hf
      refine G.aload_n dX13_steps_8 rfl ?_
      refine G.iload_n dX13_steps_9 rfl ?_
      obtain ⟨x7, h5, e6, hf⟩ := bT1_spec hf
      refine G.callVi (M' := mX13_isChild) (ci := 12) (As := [.int a2]) (st := []) okX13_isChild viX13_isChild lkX13_181 rfl rfl rfl (Nat.le_of_ble_eq_true rfl) (Nat.le_of_ble_eq_true rfl) dX13_steps_10 (c_X13_isChild X d _ _ _ _ _ e6).1 (c_X13_isChild X d _ _ _ _ _ e6).2 ?_
      refine G.if_eq 41 dX13_steps_13 (by decide) (fun c8 => ?_) (fun c8 => ?_)
      · rw [if_pos c8] at hf
        refine G.ldc ckX13_180 dX13_steps_41 ?_
        obtain ⟨hq1, hq2⟩ := Prod.mk.inj (Option.some.inj hf)
        subst hq1
        subst hq2
        exact G.iret rfl rfl dX13_steps_43
      · rw [if_neg c8] at hf
        refine G.aload_n dX13_steps_16 rfl ?_
        refine G.aload_n dX13_steps_17 rfl ?_
        refine G.getr flX13_29 dX13_steps_18 hf (fun r9 hf => ?_)
        refine G.bipush (v := (12 : Int32)) dX13_steps_21 (by decide) ?_
        refine G.iload_n dX13_steps_23 rfl ?_
        refine G.iadd dX13_steps_24 ?_
        refine G.iald dX13_steps_25 hf (fun x10 hf => ?_)
        refine G.aload_n dX13_steps_26 rfl ?_
        refine G.getr flX13_29 dX13_steps_27 hf (fun r11 hf => ?_)
        refine G.bipush (v := (24 : Int32)) dX13_steps_30 (by decide) ?_
        refine G.iload_n dX13_steps_32 rfl ?_
        refine G.iadd dX13_steps_33 ?_
        refine G.iald dX13_steps_34 hf (fun x12 hf => ?_)
        obtain ⟨x15, h13, e14, hf⟩ := bT1_spec hf
        refine G.callVi (M' := mX13_apart) (ci := 12) (As := [.int x10, .int x12]) (st := []) okX13_apart viX13_apart lkX13_148 rfl rfl rfl (Nat.le_of_ble_eq_true rfl) (Nat.le_of_ble_eq_true rfl) dX13_steps_35 (c_X13_apart X d _ _ _ _ _ _ e14).1 (c_X13_apart X d _ _ _ _ _ _ e14).2 ?_
        refine G.goto 43 dX13_steps_38 (by decide) ?_
        obtain ⟨hq1, hq2⟩ := Prod.mk.inj (Option.some.inj hf)
        subst hq1
        subst hq2
        exact G.iret rfl rfl dX13_steps_43
  · rw [if_neg ho] at hf
    cases hf
/-! X13_could -/
theorem dX13_could_0 : decode cX13_could 0 = .ok (.aload_n 0, 1) := by decide +kernel
theorem dX13_could_1 : decode cX13_could 1 = .ok (.getfield 29, 3) := by decide +kernel
theorem dX13_could_4 : decode cX13_could 4 = .ok (.bipush 30, 2) := by decide +kernel
theorem dX13_could_6 : decode cX13_could 6 = .ok (.iload_n 2, 1) := by decide +kernel
theorem dX13_could_7 : decode cX13_could 7 = .ok (.iadd, 1) := by decide +kernel
theorem dX13_could_8 : decode cX13_could 8 = .ok (.iaload, 1) := by decide +kernel
theorem dX13_could_9 : decode cX13_could 9 = .ok (.ifCond .ne 43, 3) := by decide +kernel
theorem dX13_could_12 : decode cX13_could 12 = .ok (.aload_n 0, 1) := by decide +kernel
theorem dX13_could_13 : decode cX13_could 13 = .ok (.getfield 29, 3) := by decide +kernel
theorem dX13_could_16 : decode cX13_could 16 = .ok (.bipush 6, 2) := by decide +kernel
theorem dX13_could_18 : decode cX13_could 18 = .ok (.iload_n 1, 1) := by decide +kernel
theorem dX13_could_19 : decode cX13_could 19 = .ok (.iadd, 1) := by decide +kernel
theorem dX13_could_20 : decode cX13_could 20 = .ok (.iaload, 1) := by decide +kernel
theorem dX13_could_21 : decode cX13_could 21 = .ok (.ifCond .le 31, 3) := by decide +kernel
theorem dX13_could_24 : decode cX13_could 24 = .ok (.aload_n 0, 1) := by decide +kernel
theorem dX13_could_25 : decode cX13_could 25 = .ok (.iload_n 1, 1) := by decide +kernel
theorem dX13_could_26 : decode cX13_could 26 = .ok (.iload_n 2, 1) := by decide +kernel
theorem dX13_could_27 : decode cX13_could 27 = .ok (.invokevirtual 231, 3) := by decide +kernel
theorem dX13_could_30 : decode cX13_could 30 = .ok (.aload_n 0, 1) := by decide +kernel
theorem dX13_could_31 : decode cX13_could 31 = .ok (.iload_n 2, 1) := by decide +kernel
theorem dX13_could_32 : decode cX13_could 32 = .ok (.invokevirtual 144, 3) := by decide +kernel
theorem dX13_could_35 : decode cX13_could 35 = .ok (.iadd, 1) := by decide +kernel
theorem dX13_could_36 : decode cX13_could 36 = .ok (.aload_n 0, 1) := by decide +kernel
theorem dX13_could_37 : decode cX13_could 37 = .ok (.getfield 29, 3) := by decide +kernel
theorem dX13_could_40 : decode cX13_could 40 = .ok (.bipush 18, 2) := by decide +kernel
theorem dX13_could_42 : decode cX13_could 42 = .ok (.iload_n 1, 1) := by decide +kernel
theorem dX13_could_43 : decode cX13_could 43 = .ok (.iadd, 1) := by decide +kernel
theorem dX13_could_44 : decode cX13_could 44 = .ok (.iaload, 1) := by decide +kernel
theorem dX13_could_45 : decode cX13_could 45 = .ok (.if_icmp .gt 7, 3) := by decide +kernel
theorem dX13_could_48 : decode cX13_could 48 = .ok (.iconst 1, 1) := by decide +kernel
theorem dX13_could_49 : decode cX13_could 49 = .ok (.goto 4, 3) := by decide +kernel
theorem dX13_could_52 : decode cX13_could 52 = .ok (.iconst 0, 1) := by decide +kernel
theorem dX13_could_53 : decode cX13_could 53 = .ok (.ireturn, 1) := by decide +kernel
def f_X13_could (a0 : Nat) (a1 : Int32) (a2 : Int32) (h : AH) : Option (Int32 × AH) := if isO h 12 a0 = true then ((gr h 12 a0 11).bind fun r1 => (ai h 0 r1 ((30 : Int32) + a2)).bind fun x2 => if x2 = 0 then ((gr h 12 a0 11).bind fun r4 => (ai h 0 r4 ((6 : Int32) + a1)).bind fun x5 => if x5 ≤ 0 then (some ((0 : Int32), h)) else (bT1 (f_X13_steps a0 a1 a2 h) fun x9 h7 => bT1 (f_X13_needs a0 a2 h7) fun x12 h10 => (gr h10 12 a0 11).bind fun r13 => (ai h10 0 r13 ((18 : Int32) + a1)).bind fun x14 => if x14 < (x9 + x12) then (some ((0 : Int32), h10)) else (some ((1 : Int32), h10)))) else (some ((0 : Int32), h))) else none
set_option maxRecDepth 100000 in
set_option maxHeartbeats 4000000 in
theorem c_X13_could (X : SX) (d : Nat) (a0 : Nat) (a1 : Int32) (a2 : Int32) (h : AH) (rr : Int32) (h' : AH) (hf : f_X13_could a0 a1 a2 h = some (rr, h')) : isO h 12 a0 = true ∧ G X mX13_could (d + 2) 0 [(0, .ref a0), (1, .int a1), (2, .int a2)] [] h (some rr) h' := by
  unfold f_X13_could at hf
  by_cases ho : isO h 12 a0 = true
  · rw [if_pos ho] at hf
    refine ⟨ho, ?_⟩
    refine G.aload_n dX13_could_0 rfl ?_
    refine G.getr flX13_29 dX13_could_1 hf (fun r1 hf => ?_)
    refine G.bipush (v := (30 : Int32)) dX13_could_4 (by decide) ?_
    refine G.iload_n dX13_could_6 rfl ?_
    refine G.iadd dX13_could_7 ?_
    refine G.iald dX13_could_8 hf (fun x2 hf => ?_)
    refine G.if_ne 52 dX13_could_9 (by decide) (fun c3 => ?_) (fun c3 => ?_)
    · rw [if_neg c3] at hf
      refine G.iconst (v := (0 : Int32)) dX13_could_52 (by decide) ?_
      obtain ⟨hq1, hq2⟩ := Prod.mk.inj (Option.some.inj hf)
      subst hq1
      subst hq2
      exact G.iret rfl (by decide) dX13_could_53
    · rw [if_pos c3] at hf
      refine G.aload_n dX13_could_12 rfl ?_
      refine G.getr flX13_29 dX13_could_13 hf (fun r4 hf => ?_)
      refine G.bipush (v := (6 : Int32)) dX13_could_16 (by decide) ?_
      refine G.iload_n dX13_could_18 rfl ?_
      refine G.iadd dX13_could_19 ?_
      refine G.iald dX13_could_20 hf (fun x5 hf => ?_)
      refine G.if_le 52 dX13_could_21 (by decide) (fun c6 => ?_) (fun c6 => ?_)
      · rw [if_pos c6] at hf
        refine G.iconst (v := (0 : Int32)) dX13_could_52 (by decide) ?_
        obtain ⟨hq1, hq2⟩ := Prod.mk.inj (Option.some.inj hf)
        subst hq1
        subst hq2
        exact G.iret rfl (by decide) dX13_could_53
      · rw [if_neg c6] at hf
        refine G.aload_n dX13_could_24 rfl ?_
        refine G.iload_n dX13_could_25 rfl ?_
        refine G.iload_n dX13_could_26 rfl ?_
        obtain ⟨x9, h7, e8, hf⟩ := bT1_spec hf
        refine G.callVi (M' := mX13_steps) (ci := 12) (As := [.int a1, .int a2]) (st := []) okX13_steps viX13_steps lkX13_231 rfl rfl rfl (Nat.le_of_ble_eq_true rfl) (Nat.le_of_ble_eq_true rfl) dX13_could_27 (c_X13_steps X d _ _ _ _ _ _ e8).1 (c_X13_steps X d _ _ _ _ _ _ e8).2 ?_
        refine G.aload_n dX13_could_30 rfl ?_
        refine G.iload_n dX13_could_31 rfl ?_
        obtain ⟨x12, h10, e11, hf⟩ := bT1_spec hf
        refine G.callVi (M' := mX13_needs) (ci := 12) (As := [.int a2]) (st := [.int x9]) okX13_needs viX13_needs lkX13_144 rfl rfl rfl (Nat.le_of_ble_eq_true rfl) (Nat.le_of_ble_eq_true rfl) dX13_could_32 (c_X13_needs X d _ _ _ _ _ e11).1 (c_X13_needs X d _ _ _ _ _ e11).2 ?_
        refine G.iadd dX13_could_35 ?_
        refine G.aload_n dX13_could_36 rfl ?_
        refine G.getr flX13_29 dX13_could_37 hf (fun r13 hf => ?_)
        refine G.bipush (v := (18 : Int32)) dX13_could_40 (by decide) ?_
        refine G.iload_n dX13_could_42 rfl ?_
        refine G.iadd dX13_could_43 ?_
        refine G.iald dX13_could_44 hf (fun x14 hf => ?_)
        refine G.icmp_gt 52 dX13_could_45 (by decide) (fun c15 => ?_) (fun c15 => ?_)
        · rw [if_pos c15] at hf
          refine G.iconst (v := (0 : Int32)) dX13_could_52 (by decide) ?_
          obtain ⟨hq1, hq2⟩ := Prod.mk.inj (Option.some.inj hf)
          subst hq1
          subst hq2
          exact G.iret rfl (by decide) dX13_could_53
        · rw [if_neg c15] at hf
          refine G.iconst (v := (1 : Int32)) dX13_could_48 (by decide) ?_
          refine G.goto 53 dX13_could_49 (by decide) ?_
          obtain ⟨hq1, hq2⟩ := Prod.mk.inj (Option.some.inj hf)
          subst hq1
          subst hq2
          exact G.iret rfl (by decide) dX13_could_53
  · rw [if_neg ho] at hf
    cases hf
