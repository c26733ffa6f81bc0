/-! X13_pay -/
theorem dX13_pay_0 : decode cX13_pay 0 = .ok (.aload_n 0, 1) := by decide +kernel
theorem dX13_pay_1 : decode cX13_pay 1 = .ok (.getfield 17, 3) := by decide +kernel
theorem dX13_pay_4 : decode cX13_pay 4 = .ok (.iload_n 1, 1) := by decide +kernel
theorem dX13_pay_5 : decode cX13_pay 5 = .ok (.iaload, 1) := by decide +kernel
theorem dX13_pay_6 : decode cX13_pay 6 = .ok (.iconst 1, 1) := by decide +kernel
theorem dX13_pay_7 : decode cX13_pay 7 = .ok (.if_icmp .eq 54, 3) := by decide +kernel
theorem dX13_pay_10 : decode cX13_pay 10 = .ok (.aload_n 0, 1) := by decide +kernel
theorem dX13_pay_11 : decode cX13_pay 11 = .ok (.getfield 17, 3) := by decide +kernel
theorem dX13_pay_14 : decode cX13_pay 14 = .ok (.iload_n 1, 1) := by decide +kernel
theorem dX13_pay_15 : decode cX13_pay 15 = .ok (.iaload, 1) := by decide +kernel
theorem dX13_pay_16 : decode cX13_pay 16 = .ok (.iconst 2, 1) := by decide +kernel
theorem dX13_pay_17 : decode cX13_pay 17 = .ok (.if_icmp .ne 21, 3) := by decide +kernel
theorem dX13_pay_20 : decode cX13_pay 20 = .ok (.aload_n 0, 1) := by decide +kernel
theorem dX13_pay_21 : decode cX13_pay 21 = .ok (.getfield 29, 3) := by decide +kernel
theorem dX13_pay_24 : decode cX13_pay 24 = .ok (.bipush 24, 2) := by decide +kernel
theorem dX13_pay_26 : decode cX13_pay 26 = .ok (.iload_n 2, 1) := by decide +kernel
theorem dX13_pay_27 : decode cX13_pay 27 = .ok (.iadd, 1) := by decide +kernel
theorem dX13_pay_28 : decode cX13_pay 28 = .ok (.iaload, 1) := by decide +kernel
theorem dX13_pay_29 : decode cX13_pay 29 = .ok (.aload_n 0, 1) := by decide +kernel
theorem dX13_pay_30 : decode cX13_pay 30 = .ok (.getfield 20, 3) := by decide +kernel
theorem dX13_pay_33 : decode cX13_pay 33 = .ok (.iload_n 1, 1) := by decide +kernel
theorem dX13_pay_34 : decode cX13_pay 34 = .ok (.iaload, 1) := by decide +kernel
theorem dX13_pay_35 : decode cX13_pay 35 = .ok (.if_icmp .eq 26, 3) := by decide +kernel
theorem dX13_pay_38 : decode cX13_pay 38 = .ok (.aload_n 0, 1) := by decide +kernel
theorem dX13_pay_39 : decode cX13_pay 39 = .ok (.getfield 17, 3) := by decide +kernel
theorem dX13_pay_42 : decode cX13_pay 42 = .ok (.iload_n 1, 1) := by decide +kernel
theorem dX13_pay_43 : decode cX13_pay 43 = .ok (.iaload, 1) := by decide +kernel
theorem dX13_pay_44 : decode cX13_pay 44 = .ok (.iconst 3, 1) := by decide +kernel
theorem dX13_pay_45 : decode cX13_pay 45 = .ok (.if_icmp .ne 18, 3) := by decide +kernel
theorem dX13_pay_48 : decode cX13_pay 48 = .ok (.aload_n 0, 1) := by decide +kernel
theorem dX13_pay_49 : decode cX13_pay 49 = .ok (.getfield 29, 3) := by decide +kernel
theorem dX13_pay_52 : decode cX13_pay 52 = .ok (.bipush 50, 2) := by decide +kernel
theorem dX13_pay_54 : decode cX13_pay 54 = .ok (.iaload, 1) := by decide +kernel
theorem dX13_pay_55 : decode cX13_pay 55 = .ok (.iconst 2, 1) := by decide +kernel
theorem dX13_pay_56 : decode cX13_pay 56 = .ok (.irem, 1) := by decide +kernel
theorem dX13_pay_57 : decode cX13_pay 57 = .ok (.iconst 1, 1) := by decide +kernel
theorem dX13_pay_58 : decode cX13_pay 58 = .ok (.if_icmp .ne 5, 3) := by decide +kernel
theorem dX13_pay_61 : decode cX13_pay 61 = .ok (.iconst 1, 1) := by decide +kernel
theorem dX13_pay_62 : decode cX13_pay 62 = .ok (.ireturn, 1) := by decide +kernel
theorem dX13_pay_63 : decode cX13_pay 63 = .ok (.iconst 2, 1) := by decide +kernel
theorem dX13_pay_64 : decode cX13_pay 64 = .ok (.ireturn, 1) := by decide +kernel
def f_X13_pay_38 (v0 : Nat) (v1 : Int32) (h : AH) : Option (Int32 × AH) := (gr h 12 v0 7).bind fun r1 => (ai h 0 r1 v1).bind fun x2 => if x2 = (3 : Int32) then ((gr h 12 v0 11).bind fun r4 => (ai h 0 r4 (50 : Int32)).bind fun x5 => if (x5 - x5 / (2 : Int32) * (2 : Int32)) = (1 : Int32) then (some ((1 : Int32), h)) else (some ((2 : Int32), h))) else (some ((2 : Int32), h))
set_option maxRecDepth 100000 in
set_option maxHeartbeats 4000000 in
theorem j_X13_pay_38 (X : SX) (d : Nat) (v0 : Nat) (v1 : Int32) (h : AH) (rr : Int32) (h' : AH) (hf : f_X13_pay_38 v0 v1 h = some (rr, h')) : G X mX13_pay d 38 [(0, .ref v0), (1, .int v1)] [] h (some rr) h' := by
  unfold f_X13_pay_38 at hf
  refine G.aload_n dX13_pay_38 rfl ?_
  refine G.getr flX13_17 dX13_pay_39 hf (fun r1 hf => ?_)
  refine G.iload_n dX13_pay_42 rfl ?_
  refine G.iald dX13_pay_43 hf (fun x2 hf => ?_)
  refine G.iconst (v := (3 : Int32)) dX13_pay_44 (by decide) ?_
  refine G.icmp_ne 63 dX13_pay_45 (by decide) (fun c3 => ?_) (fun c3 => ?_)
  · rw [if_neg c3] at hf
    refine G.iconst (v := (2 : Int32)) dX13_pay_63 (by decide) ?_
    obtain ⟨hq1, hq2⟩ := Prod.mk.inj (Option.some.inj hf)
    subst hq1
    subst hq2
    exact G.iret rfl rfl dX13_pay_64
  · rw [if_pos c3] at hf
    refine G.aload_n dX13_pay_48 rfl ?_
    refine G.getr flX13_29 dX13_pay_49 hf (fun r4 hf => ?_)
    refine G.bipush (v := (50 : Int32)) dX13_pay_52 (by decide) ?_
    refine G.iald dX13_pay_54 hf (fun x5 hf => ?_)
    refine G.iconst (v := (2 : Int32)) dX13_pay_55 (by decide) ?_
    refine G.irem dX13_pay_56 (by decide) ?_
    refine G.iconst (v := (1 : Int32)) dX13_pay_57 (by decide) ?_
    refine G.icmp_ne 63 dX13_pay_58 (by decide) (fun c6 => ?_) (fun c6 => ?_)
    · rw [if_neg c6] at hf
      refine G.iconst (v := (2 : Int32)) dX13_pay_63 (by decide) ?_
      obtain ⟨hq1, hq2⟩ := Prod.mk.inj (Option.some.inj hf)
      subst hq1
      subst hq2
      exact G.iret rfl rfl dX13_pay_64
    · rw [if_pos c6] at hf
      refine G.iconst (v := (1 : Int32)) dX13_pay_61 (by decide) ?_
      obtain ⟨hq1, hq2⟩ := Prod.mk.inj (Option.some.inj hf)
      subst hq1
      subst hq2
      exact G.iret rfl rfl dX13_pay_62
def f_X13_pay (a0 : Nat) (a1 : Int32) (a2 : Int32) (h : AH) : Option (Int32 × AH) := if isO h 12 a0 = true then ((gr h 12 a0 7).bind fun r1 => (ai h 0 r1 a1).bind fun x2 => if x2 = (1 : Int32) then (some ((1 : Int32), h)) else ((gr h 12 a0 7).bind fun r4 => (ai h 0 r4 a1).bind fun x5 => if x5 = (2 : Int32) then ((gr h 12 a0 11).bind fun r7 => (ai h 0 r7 ((24 : Int32) + a2)).bind fun x8 => (gr h 12 a0 8).bind fun r9 => (ai h 0 r9 a1).bind fun x10 => if x8 = x10 then (some ((1 : Int32), h)) else (f_X13_pay_38 a0 a1 h)) else (f_X13_pay_38 a0 a1 h))) else none
set_option maxRecDepth 100000 in
set_option maxHeartbeats 4000000 in
theorem c_X13_pay (X : SX) (d : Nat) (a0 : Nat) (a1 : Int32) (a2 : Int32) (h : AH) (rr : Int32) (h' : AH) (hf : f_X13_pay a0 a1 a2 h = some (rr, h')) : isO h 12 a0 = true ∧ G X mX13_pay d 0 [(0, .ref a0), (1, .int a1), (2, .int a2)] [] h (some rr) h' := by
  unfold f_X13_pay at hf
  by_cases ho : isO h 12 a0 = true
  · rw [if_pos ho] at hf
    refine ⟨ho, ?_⟩
    refine G.aload_n dX13_pay_0 rfl ?_
    refine G.getr flX13_17 dX13_pay_1 hf (fun r1 hf => ?_)
    refine G.iload_n dX13_pay_4 rfl ?_
    refine G.iald dX13_pay_5 hf (fun x2 hf => ?_)
    refine G.iconst (v := (1 : Int32)) dX13_pay_6 (by decide) ?_
    refine G.icmp_eq 61 dX13_pay_7 (by decide) (fun c3 => ?_) (fun c3 => ?_)
    · rw [if_pos c3] at hf
      refine G.iconst (v := (1 : Int32)) dX13_pay_61 (by decide) ?_
      obtain ⟨hq1, hq2⟩ := Prod.mk.inj (Option.some.inj hf)
      subst hq1
      subst hq2
      exact G.iret rfl rfl dX13_pay_62
    · rw [if_neg c3] at hf
      refine G.aload_n dX13_pay_10 rfl ?_
      refine G.getr flX13_17 dX13_pay_11 hf (fun r4 hf => ?_)
      refine G.iload_n dX13_pay_14 rfl ?_
      refine G.iald dX13_pay_15 hf (fun x5 hf => ?_)
      refine G.iconst (v := (2 : Int32)) dX13_pay_16 (by decide) ?_
      refine G.icmp_ne 38 dX13_pay_17 (by decide) (fun c6 => ?_) (fun c6 => ?_)
      · rw [if_neg c6] at hf
        exact G.pick [0, 1] rfl (j_X13_pay_38 X d a0 a1 h _ _ hf)
      · rw [if_pos c6] at hf
        refine G.aload_n dX13_pay_20 rfl ?_
        refine G.getr flX13_29 dX13_pay_21 hf (fun r7 hf => ?_)
        refine G.bipush (v := (24 : Int32)) dX13_pay_24 (by decide) ?_
        refine G.iload_n dX13_pay_26 rfl ?_
        refine G.iadd dX13_pay_27 ?_
        refine G.iald dX13_pay_28 hf (fun x8 hf => ?_)
        refine G.aload_n dX13_pay_29 rfl ?_
        refine G.getr flX13_20 dX13_pay_30 hf (fun r9 hf => ?_)
        refine G.iload_n dX13_pay_33 rfl ?_
        refine G.iald dX13_pay_34 hf (fun x10 hf => ?_)
        refine G.icmp_eq 61 dX13_pay_35 (by decide) (fun c11 => ?_) (fun c11 => ?_)
        · rw [if_pos c11] at hf
          refine G.iconst (v := (1 : Int32)) dX13_pay_61 (by decide) ?_
          obtain ⟨hq1, hq2⟩ := Prod.mk.inj (Option.some.inj hf)
          subst hq1
          subst hq2
          exact G.iret rfl rfl dX13_pay_62
        · rw [if_neg c11] at hf
          exact G.pick [0, 1] rfl (j_X13_pay_38 X d a0 a1 h _ _ hf)
  · rw [if_neg ho] at hf
    cases hf
/-! X13_min -/
theorem dX13_min_0 : decode cX13_min 0 = .ok (.iload_n 1, 1) := by decide +kernel
theorem dX13_min_1 : decode cX13_min 1 = .ok (.iload_n 2, 1) := by decide +kernel
theorem dX13_min_2 : decode cX13_min 2 = .ok (.if_icmp .ge 7, 3) := by decide +kernel
theorem dX13_min_5 : decode cX13_min 5 = .ok (.iload_n 1, 1) := by decide +kernel
theorem dX13_min_6 : decode cX13_min 6 = .ok (.goto 4, 3) := by decide +kernel
theorem dX13_min_9 : decode cX13_min 9 = .ok (.iload_n 2, 1) := by decide +kernel
theorem dX13_min_10 : decode cX13_min 10 = .ok (.ireturn, 1) := by decide +kernel
def f_X13_min (a0 : Nat) (a1 : Int32) (a2 : Int32) (h : AH) : Option (Int32 × AH) := if isO h 12 a0 = true then (if a2 ≤ a1 then (some (a2, h)) else (some (a1, h))) else none
set_option maxRecDepth 100000 in
set_option maxHeartbeats 4000000 in
theorem c_X13_min (X : SX) (d : Nat) (a0 : Nat) (a1 : Int32) (a2 : Int32) (h : AH) (rr : Int32) (h' : AH) (hf : f_X13_min a0 a1 a2 h = some (rr, h')) : isO h 12 a0 = true ∧ G X mX13_min d 0 [(0, .ref a0), (1, .int a1), (2, .int a2)] [] h (some rr) h' := by
  unfold f_X13_min at hf
  by_cases ho : isO h 12 a0 = true
  · rw [if_pos ho] at hf
    refine ⟨ho, ?_⟩
    refine G.iload_n dX13_min_0 rfl ?_
    refine G.iload_n dX13_min_1 rfl ?_
    refine G.icmp_ge 9 dX13_min_2 (by decide) (fun c1 => ?_) (fun c1 => ?_)
    · rw [if_pos c1] at hf
      refine G.iload_n dX13_min_9 rfl ?_
      obtain ⟨hq1, hq2⟩ := Prod.mk.inj (Option.some.inj hf)
      subst hq1
      subst hq2
      exact G.iret rfl rfl dX13_min_10
    · rw [if_neg c1] at hf
      refine G.iload_n dX13_min_5 rfl ?_
      refine G.goto 10 dX13_min_6 (by decide) ?_
      obtain ⟨hq1, hq2⟩ := Prod.mk.inj (Option.some.inj hf)
      subst hq1
      subst hq2
      exact G.iret rfl rfl dX13_min_10
  · rw [if_neg ho] at hf
    cases hf
/-! X13_payment -/
theorem dX13_payment_0 : decode cX13_payment 0 = .ok (.aload_n 0, 1) := by decide +kernel
theorem dX13_payment_1 : decode cX13_payment 1 = .ok (.iload_n 1, 1) := by decide +kernel
theorem dX13_payment_2 : decode cX13_payment 2 = .ok (.iload_n 2, 1) := by decide +kernel
theorem dX13_payment_3 : decode cX13_payment 3 = .ok (.invokevirtual 234, 3) := by decide +kernel
theorem dX13_payment_6 : decode cX13_payment 6 = .ok (.ifCond .eq 31, 3) := by decide +kernel
theorem dX13_payment_9 : decode cX13_payment 9 = .ok (.aload_n 0, 1) := by decide +kernel
theorem dX13_payment_10 : decode cX13_payment 10 = .ok (.aload_n 0, 1) := by decide +kernel
theorem dX13_payment_11 : decode cX13_payment 11 = .ok (.getfield 29, 3) := by decide +kernel
theorem dX13_payment_14 : decode cX13_payment 14 = .ok (.bipush 6, 2) := by decide +kernel
theorem dX13_payment_16 : decode cX13_payment 16 = .ok (.iload_n 1, 1) := by decide +kernel
theorem dX13_payment_17 : decode cX13_payment 17 = .ok (.iadd, 1) := by decide +kernel
theorem dX13_payment_18 : decode cX13_payment 18 = .ok (.iaload, 1) := by decide +kernel
theorem dX13_payment_19 : decode cX13_payment 19 = .ok (.aload_n 0, 1) := by decide +kernel
theorem dX13_payment_20 : decode cX13_payment 20 = .ok (.iload_n 2, 1) := by decide +kernel
theorem dX13_payment_21 : decode cX13_payment 21 = .ok (.invokevirtual 144, 3) := by decide +kernel
theorem dX13_payment_24 : decode cX13_payment 24 = .ok (.aload_n 0, 1) := by decide +kernel
theorem dX13_payment_25 : decode cX13_payment 25 = .ok (.iload_n 1, 1) := by decide +kernel
theorem dX13_payment_26 : decode cX13_payment 26 = .ok (.iload_n 2, 1) := by decide +kernel
theorem dX13_payment_27 : decode cX13_payment 27 = .ok (.invokevirtual 191, 3) := by decide +kernel
theorem dX13_payment_30 : decode cX13_payment 30 = .ok (.imul, 1) := by decide +kernel
theorem dX13_payment_31 : decode cX13_payment 31 = .ok (.invokevirtual 188, 3) := by decide +kernel
theorem dX13_payment_34 : decode cX13_payment 34 = .ok (.goto 4, 3) := by decide +kernel
theorem dX13_payment_37 : decode cX13_payment 37 = .ok (.iconst 0, 1) := by decide +kernel
theorem dX13_payment_38 : decode cX13_payment 38 = .ok (.ireturn, 1) := by decide +kernel
def f_X13_payment (a0 : Nat) (a1 : Int32) (a2 : Int32) (h : AH) : Option (Int32 × AH) := if isO h 12 a0 = true then (bT1 (f_X13_could a0 a1 a2 h) fun x3 h1 => if x3 = 0 then (some ((0 : Int32), h1)) else ((gr h1 12 a0 11).bind fun r5 => (ai h1 0 r5 ((6 : Int32) + a1)).bind fun x6 => bT1 (f_X13_needs a0 a2 h1) fun x9 h7 => bT1 (f_X13_pay a0 a1 a2 h7) fun x12 h10 => bT1 (f_X13_min a0 x6 (x9 * x12) h10) fun x15 h13 => some (x15, h13))) else none
set_option maxRecDepth 100000 in
set_option maxHeartbeats 4000000 in
theorem c_X13_payment (X : SX) (d : Nat) (a0 : Nat) (a1 : Int32) (a2 : Int32) (h : AH) (rr : Int32) (h' : AH) (hf : f_X13_payment a0 a1 a2 h = some (rr, h')) : isO h 12 a0 = true ∧ G X mX13_payment (d + 3) 0 [(0, .ref a0), (1, .int a1), (2, .int a2)] [] h (some rr) h' := by
  unfold f_X13_payment at hf
  by_cases ho : isO h 12 a0 = true
  · rw [if_pos ho] at hf
    refine ⟨ho, ?_⟩
    refine G.aload_n dX13_payment_0 rfl ?_
    refine G.iload_n dX13_payment_1 rfl ?_
    refine G.iload_n dX13_payment_2 rfl ?_
    obtain ⟨x3, h1, e2, hf⟩ := bT1_spec hf
    refine G.callVi (M' := mX13_could) (ci := 12) (As := [.int a1, .int a2]) (st := []) okX13_could viX13_could lkX13_234 rfl rfl rfl (Nat.le_of_ble_eq_true rfl) (Nat.le_of_ble_eq_true rfl) dX13_payment_3 (c_X13_could X d _ _ _ _ _ _ e2).1 (c_X13_could X d _ _ _ _ _ _ e2).2 ?_
    refine G.if_eq 37 dX13_payment_6 (by decide) (fun c4 => ?_) (fun c4 => ?_)
    · rw [if_pos c4] at hf
      refine G.iconst (v := (0 : Int32)) dX13_payment_37 (by decide) ?_
      obtain ⟨hq1, hq2⟩ := Prod.mk.inj (Option.some.inj hf)
      subst hq1
      subst hq2
      exact G.iret rfl rfl dX13_payment_38
    · rw [if_neg c4] at hf
      refine G.aload_n dX13_payment_9 rfl ?_
      refine G.aload_n dX13_payment_10 rfl ?_
      refine G.getr flX13_29 dX13_payment_11 hf (fun r5 hf => ?_)
      refine G.bipush (v := (6 : Int32)) dX13_payment_14 (by decide) ?_
      refine G.iload_n dX13_payment_16 rfl ?_
      refine G.iadd dX13_payment_17 ?_
      refine G.iald dX13_payment_18 hf (fun x6 hf => ?_)
      refine G.aload_n dX13_payment_19 rfl ?_
      refine G.iload_n dX13_payment_20 rfl ?_
      obtain ⟨x9, h7, e8, hf⟩ := bT1_spec hf
      refine G.callVi (M' := mX13_needs) (ci := 12) (As := [.int a2]) (st := [.int x6, .ref a0]) okX13_needs viX13_needs lkX13_144 rfl rfl rfl (Nat.le_of_ble_eq_true rfl) (Nat.le_of_ble_eq_true rfl) dX13_payment_21 (c_X13_needs X (d + 1) _ _ _ _ _ e8).1 (c_X13_needs X (d + 1) _ _ _ _ _ e8).2 ?_
      refine G.aload_n dX13_payment_24 rfl ?_
      refine G.iload_n dX13_payment_25 rfl ?_
      refine G.iload_n dX13_payment_26 rfl ?_
      obtain ⟨x12, h10, e11, hf⟩ := bT1_spec hf
      refine G.callVi (M' := mX13_pay) (ci := 12) (As := [.int a1, .int a2]) (st := [.int x9, .int x6, .ref a0]) okX13_pay viX13_pay lkX13_191 rfl rfl rfl (Nat.le_of_ble_eq_true rfl) (Nat.le_of_ble_eq_true rfl) dX13_payment_27 (c_X13_pay X (d + 2) _ _ _ _ _ _ e11).1 (c_X13_pay X (d + 2) _ _ _ _ _ _ e11).2 ?_
      refine G.imul dX13_payment_30 ?_
      obtain ⟨x15, h13, e14, hf⟩ := bT1_spec hf
      refine G.callVi (M' := mX13_min) (ci := 12) (As := [.int x6, .int (x9 * x12)]) (st := []) okX13_min viX13_min lkX13_188 rfl rfl rfl (Nat.le_of_ble_eq_true rfl) (Nat.le_of_ble_eq_true rfl) dX13_payment_31 (c_X13_min X (d + 2) _ _ _ _ _ _ e14).1 (c_X13_min X (d + 2) _ _ _ _ _ _ e14).2 ?_
      refine G.goto 38 dX13_payment_34 (by decide) ?_
      obtain ⟨hq1, hq2⟩ := Prod.mk.inj (Option.some.inj hf)
      subst hq1
      subst hq2
      exact G.iret rfl rfl dX13_payment_38
  · rw [if_neg ho] at hf
    cases hf
/-! X13_worth -/
theorem dX13_worth_0 : decode cX13_worth 0 = .ok (.iload_n 3, 1) := by decide +kernel
theorem dX13_worth_1 : decode cX13_worth 1 = .ok (.ifCond .eq 12, 3) := by decide +kernel
theorem dX13_worth_4 : decode cX13_worth 4 = .ok (.aload_n 0, 1) := by decide +kernel
theorem dX13_worth_5 : decode cX13_worth 5 = .ok (.iload_n 1, 1) := by decide +kernel
theorem dX13_worth_6 : decode cX13_worth 6 = .ok (.iload_n 2, 1) := by decide +kernel
theorem dX13_worth_7 : decode cX13_worth 7 = .ok (.invokevirtual 237, 3) := by decide +kernel
theorem dX13_worth_10 : decode cX13_worth 10 = .ok (.goto 4, 3) := by decide +kernel
theorem dX13_worth_13 : decode cX13_worth 13 = .ok (.iconst 1, 1) := by decide +kernel
theorem dX13_worth_14 : decode cX13_worth 14 = .ok (.ireturn, 1) := by decide +kernel
def f_X13_worth (a0 : Nat) (a1 : Int32) (a2 : Int32) (a3 : Int32) (h : AH) : Option (Int32 × AH) := if isO h 12 a0 = true then (if a3 = 0 then (some ((1 : Int32), h)) else (bT1 (f_X13_payment a0 a1 a2 h) fun x4 h2 => some (x4, h2))) else none
set_option maxRecDepth 100000 in
set_option maxHeartbeats 4000000 in
theorem c_X13_worth (X : SX) (d : Nat) (a0 : Nat) (a1 : Int32) (a2 : Int32) (a3 : Int32) (h : AH) (rr : Int32) (h' : AH) (hf : f_X13_worth a0 a1 a2 a3 h = some (rr, h')) : isO h 12 a0 = true ∧ G X mX13_worth (d + 4) 0 [(0, .ref a0), (1, .int a1), (2, .int a2), (3, .int a3)] [] h (some rr) h' := by
  unfold f_X13_worth at hf
  by_cases ho : isO h 12 a0 = true
  · rw [if_pos ho] at hf
    refine ⟨ho, ?_⟩
    refine G.iload_n dX13_worth_0 rfl ?_
    refine G.if_eq 13 dX13_worth_1 (by decide) (fun c1 => ?_) (fun c1 => ?_)
    · rw [if_pos c1] at hf
      refine G.iconst (v := (1 : Int32)) dX13_worth_13 (by decide) ?_
      obtain ⟨hq1, hq2⟩ := Prod.mk.inj (Option.some.inj hf)
      subst hq1
      subst hq2
      exact G.iret rfl rfl dX13_worth_14
    · rw [if_neg c1] at hf
      refine G.aload_n dX13_worth_4 rfl ?_
      refine G.iload_n dX13_worth_5 rfl ?_
      refine G.iload_n dX13_worth_6 rfl ?_
      obtain ⟨x4, h2, e3, hf⟩ := bT1_spec hf
      refine G.callVi (M' := mX13_payment) (ci := 12) (As := [.int a1, .int a2]) (st := []) okX13_payment viX13_payment lkX13_237 rfl rfl rfl (Nat.le_of_ble_eq_true rfl) (Nat.le_of_ble_eq_true rfl) dX13_worth_7 (c_X13_payment X d _ _ _ _ _ _ e3).1 (c_X13_payment X d _ _ _ _ _ _ e3).2 ?_
      refine G.goto 14 dX13_worth_10 (by decide) ?_
      obtain ⟨hq1, hq2⟩ := Prod.mk.inj (Option.some.inj hf)
      subst hq1
      subst hq2
      exact G.iret rfl rfl dX13_worth_14
  · rw [if_neg ho] at hf
    cases hf
/-! X13_plans -/
theorem dX13_plans_0 : decode cX13_plans 0 = .ok (.aload_n 0, 1) := by decide +kernel
theorem dX13_plans_1 : decode cX13_plans 1 = .ok (.getfield 75, 3) := by decide +kernel
theorem dX13_plans_4 : decode cX13_plans 4 = .ok (.istore_n 2, 1) := by decide +kernel
theorem dX13_plans_5 : decode cX13_plans 5 = .ok (.iload_n 2, 1) := by decide +kernel
theorem dX13_plans_6 : decode cX13_plans 6 = .ok (.ifCond .lt 143, 3) := by decide +kernel
theorem dX13_plans_9 : decode cX13_plans 9 = .ok (.iconst 0, 1) := by decide +kernel
theorem dX13_plans_10 : decode cX13_plans 10 = .ok (.istore_n 3, 1) := by decide +kernel
theorem dX13_plans_11 : decode cX13_plans 11 = .ok (.iload_n 3, 1) := by decide +kernel
theorem dX13_plans_12 : decode cX13_plans 12 = .ok (.bipush 64, 2) := by decide +kernel
theorem dX13_plans_14 : decode cX13_plans 14 = .ok (.if_icmp .ge 129, 3) := by decide +kernel
theorem dX13_plans_17 : decode cX13_plans 17 = .ok (.iload_n 2, 1) := by decide +kernel
theorem dX13_plans_18 : decode cX13_plans 18 = .ok (.aload_n 0, 1) := by decide +kernel
theorem dX13_plans_19 : decode cX13_plans 19 = .ok (.getfield 75, 3) := by decide +kernel
theorem dX13_plans_22 : decode cX13_plans 22 = .ok (.if_icmp .ne 7, 3) := by decide +kernel
theorem dX13_plans_25 : decode cX13_plans 25 = .ok (.iconst 0, 1) := by decide +kernel
theorem dX13_plans_26 : decode cX13_plans 26 = .ok (.goto 16, 3) := by decide +kernel
theorem dX13_plans_29 : decode cX13_plans 29 = .ok (.aload_n 0, 1) := by decide +kernel
theorem dX13_plans_30 : decode cX13_plans 30 = .ok (.getfield 54, 3) := by decide +kernel
theorem dX13_plans_33 : decode cX13_plans 33 = .ok (.bipush 64, 2) := by decide +kernel
theorem dX13_plans_35 : decode cX13_plans 35 = .ok (.iload_n 2, 1) := by decide +kernel
theorem dX13_plans_36 : decode cX13_plans 36 = .ok (.iconst 1, 1) := by decide +kernel
theorem dX13_plans_37 : decode cX13_plans 37 = .ok (.iadd, 1) := by decide +kernel
theorem dX13_plans_38 : decode cX13_plans 38 = .ok (.imul, 1) := by decide +kernel
theorem dX13_plans_39 : decode cX13_plans 39 = .ok (.iload_n 3, 1) := by decide +kernel
theorem dX13_plans_40 : decode cX13_plans 40 = .ok (.iadd, 1) := by decide +kernel
theorem dX13_plans_41 : decode cX13_plans 41 = .ok (.iaload, 1) := by decide +kernel
theorem dX13_plans_42 : decode cX13_plans 42 = .ok (.istore 4, 2) := by decide +kernel
theorem dX13_plans_44 : decode cX13_plans 44 = .ok (.iconst 0, 1) := by decide +kernel
theorem dX13_plans_45 : decode cX13_plans 45 = .ok (.istore 5, 2) := by decide +kernel
theorem dX13_plans_47 : decode cX13_plans 47 = .ok (.iload 5, 2) := by decide +kernel
theorem dX13_plans_49 : decode cX13_plans 49 = .ok (.aload_n 0, 1) := by decide +kernel
theorem dX13_plans_50 : decode cX13_plans 50 = .ok (.getfield 78, 3) := by decide +kernel
theorem dX13_plans_53 : decode cX13_plans 53 = .ok (.if_icmp .ge 71, 3) := by decide +kernel
theorem dX13_plans_56 : decode cX13_plans 56 = .ok (.iload_n 2, 1) := by decide +kernel
theorem dX13_plans_57 : decode cX13_plans 57 = .ok (.aload_n 0, 1) := by decide +kernel
theorem dX13_plans_58 : decode cX13_plans 58 = .ok (.getfield 75, 3) := by decide +kernel
theorem dX13_plans_61 : decode cX13_plans 61 = .ok (.if_icmp .ge 63, 3) := by decide +kernel
theorem dX13_plans_64 : decode cX13_plans 64 = .ok (.iload_n 3, 1) := by decide +kernel
theorem dX13_plans_65 : decode cX13_plans 65 = .ok (.iload 5, 2) := by decide +kernel
theorem dX13_plans_67 : decode cX13_plans 67 = .ok (.ishr, 1) := by decide +kernel
theorem dX13_plans_68 : decode cX13_plans 68 = .ok (.iconst 1, 1) := by decide +kernel
theorem dX13_plans_69 : decode cX13_plans 69 = .ok (.iand, 1) := by decide +kernel
theorem dX13_plans_70 : decode cX13_plans 70 = .ok (.ifCond .ne 48, 3) := by decide +kernel
theorem dX13_plans_73 : decode cX13_plans 73 = .ok (.aload_n 0, 1) := by decide +kernel
theorem dX13_plans_74 : decode cX13_plans 74 = .ok (.iload_n 2, 1) := by decide +kernel
theorem dX13_plans_75 : decode cX13_plans 75 = .ok (.iload 5, 2) := by decide +kernel
theorem dX13_plans_77 : decode cX13_plans 77 = .ok (.invokevirtual 234, 3) := by decide +kernel
theorem dX13_plans_80 : decode cX13_plans 80 = .ok (.ifCond .eq 38, 3) := by decide +kernel
theorem dX13_plans_83 : decode cX13_plans 83 = .ok (.aload_n 0, 1) := by decide +kernel
theorem dX13_plans_84 : decode cX13_plans 84 = .ok (.iload 4, 2) := by decide +kernel
theorem dX13_plans_86 : decode cX13_plans 86 = .ok (.aload_n 0, 1) := by decide +kernel
theorem dX13_plans_87 : decode cX13_plans 87 = .ok (.iload_n 2, 1) := by decide +kernel
theorem dX13_plans_88 : decode cX13_plans 88 = .ok (.iload 5, 2) := by decide +kernel
theorem dX13_plans_90 : decode cX13_plans 90 = .ok (.iload_n 1, 1) := by decide +kernel
theorem dX13_plans_91 : decode cX13_plans 91 = .ok (.invokevirtual 240, 3) := by decide +kernel
theorem dX13_plans_94 : decode cX13_plans 94 = .ok (.aload_n 0, 1) := by decide +kernel
theorem dX13_plans_95 : decode cX13_plans 95 = .ok (.getfield 54, 3) := by decide +kernel
theorem dX13_plans_98 : decode cX13_plans 98 = .ok (.bipush 64, 2) := by decide +kernel
theorem dX13_plans_100 : decode cX13_plans 100 = .ok (.iload_n 2, 1) := by decide +kernel
theorem dX13_plans_101 : decode cX13_plans 101 = .ok (.iconst 1, 1) := by decide +kernel
theorem dX13_plans_102 : decode cX13_plans 102 = .ok (.iadd, 1) := by decide +kernel
theorem dX13_plans_103 : decode cX13_plans 103 = .ok (.imul, 1) := by decide +kernel
theorem dX13_plans_104 : decode cX13_plans 104 = .ok (.iload_n 3, 1) := by decide +kernel
theorem dX13_plans_105 : decode cX13_plans 105 = .ok (.iconst 1, 1) := by decide +kernel
theorem dX13_plans_106 : decode cX13_plans 106 = .ok (.iload 5, 2) := by decide +kernel
theorem dX13_plans_108 : decode cX13_plans 108 = .ok (.ishl, 1) := by decide +kernel
theorem dX13_plans_109 : decode cX13_plans 109 = .ok (.ior, 1) := by decide +kernel
theorem dX13_plans_110 : decode cX13_plans 110 = .ok (.iadd, 1) := by decide +kernel
theorem dX13_plans_111 : decode cX13_plans 111 = .ok (.iaload, 1) := by decide +kernel
theorem dX13_plans_112 : decode cX13_plans 112 = .ok (.iadd, 1) := by decide +kernel
theorem dX13_plans_113 : decode cX13_plans 113 = .ok (.invokevirtual 141, 3) := by decide +kernel
theorem dX13_plans_116 : decode cX13_plans 116 = .ok (.istore 4, 2) := by decide +kernel
theorem dX13_plans_118 : decode cX13_plans 118 = .ok (.iinc 5 1, 3) := by decide +kernel
theorem dX13_plans_121 : decode cX13_plans 121 = .ok (.goto (-74), 3) := by decide +kernel
theorem dX13_plans_124 : decode cX13_plans 124 = .ok (.aload_n 0, 1) := by decide +kernel
theorem dX13_plans_125 : decode cX13_plans 125 = .ok (.getfield 54, 3) := by decide +kernel
theorem dX13_plans_128 : decode cX13_plans 128 = .ok (.bipush 64, 2) := by decide +kernel
theorem dX13_plans_130 : decode cX13_plans 130 = .ok (.iload_n 2, 1) := by decide +kernel
theorem dX13_plans_131 : decode cX13_plans 131 = .ok (.imul, 1) := by decide +kernel
theorem dX13_plans_132 : decode cX13_plans 132 = .ok (.iload_n 3, 1) := by decide +kernel
theorem dX13_plans_133 : decode cX13_plans 133 = .ok (.iadd, 1) := by decide +kernel
theorem dX13_plans_134 : decode cX13_plans 134 = .ok (.iload 4, 2) := by decide +kernel
theorem dX13_plans_136 : decode cX13_plans 136 = .ok (.iastore, 1) := by decide +kernel
theorem dX13_plans_137 : decode cX13_plans 137 = .ok (.iinc 3 1, 3) := by decide +kernel
theorem dX13_plans_140 : decode cX13_plans 140 = .ok (.goto (-129), 3) := by decide +kernel
theorem dX13_plans_143 : decode cX13_plans 143 = .ok (.iinc 2 (-1), 3) := by decide +kernel
theorem dX13_plans_146 : decode cX13_plans 146 = .ok (.goto (-141), 3) := by decide +kernel
theorem dX13_plans_149 : decode cX13_plans 149 = .ok (.return_, 1) := by decide +kernel
def F_X13_plans_L47 (rec : Nat → Int32 → Int32 → Int32 → Int32 → Int32 → AH → Option (Int32 × AH)) (v0 : Nat) (v1 : Int32) (v2 : Int32) (v3 : Int32) (v4 : Int32) (v5 : Int32) (h : AH) : Option (Int32 × AH) := (gi h 12 v0 6).bind fun x1 => if x1 ≤ v5 then (some (v4, h)) else ((gi h 12 v0 5).bind fun x3 => if x3 ≤ v2 then (some (v4, h)) else (if ((v3 >>> (v5 &&& 31)) &&& (1 : Int32)) = 0 then (bT1 (f_X13_could v0 v2 v5 h) fun x8 h6 => if x8 = 0 then (rec v0 v1 v2 v3 v4 (v5 + 1) h6) else (bT1 (f_X13_worth v0 v2 v5 v1 h6) fun x12 h10 => (gr h10 12 v0 29).bind fun r13 => (ai h10 0 r13 (((64 : Int32) * (v2 + (1 : Int32))) + (v3 ||| ((1 : Int32) <<< (v5 &&& 31))))).bind fun x14 => bT1 (f_X13_max v0 v4 (x12 + x14) h10) fun x17 h15 => rec v0 v1 v2 v3 x17 (v5 + 1) h15)) else (rec v0 v1 v2 v3 v4 (v5 + 1) h)))
def f_X13_plans_L47 : Nat → Nat → Int32 → Int32 → Int32 → Int32 → Int32 → AH → Option (Int32 × AH)
  | 0 => fun _ _ _ _ _ _ _ => none
  | n + 1 => F_X13_plans_L47 (f_X13_plans_L47 n)
set_option maxRecDepth 100000 in
set_option maxHeartbeats 4000000 in
theorem lx_X13_plans_L47 (X : SX) (d : Nat) : ∀ n (rv : Option Int32) (h' : AH), ∀ (v0 : Nat) (v1 : Int32) (v2 : Int32) (v3 : Int32) (v4 : Int32) (v5 : Int32) (h : AH) (y4 : Int32) (h1 : AH), f_X13_plans_L47 n v0 v1 v2 v3 v4 v5 h = some (y4, h1) → G X mX13_plans (d + 5) 124 [(0, .ref v0), (1, .int v1), (2, .int v2), (3, .int v3), (4, .int y4)] [] h1 rv h' → G X mX13_plans (d + 5) 47 [(0, .ref v0), (1, .int v1), (2, .int v2), (3, .int v3), (4, .int v4), (5, .int v5)] [] h rv h' := by
  intro n
  induction n with
  | zero =>
    intro rv h' v0 v1 v2 v3 v4 v5 h y4 h1 hf hE
    cases hf
  | succ n ihf =>
    intro rv h' v0 v1 v2 v3 v4 v5 h y4 h1 hf hE
    replace hf : F_X13_plans_L47 (f_X13_plans_L47 n) v0 v1 v2 v3 v4 v5 h = some (y4, h1) := hf
    unfold F_X13_plans_L47 at hf
    have ih := ihf rv h'
    refine G.iload dX13_plans_47 rfl ?_
    refine G.aload_n dX13_plans_49 rfl ?_
    refine G.geti flX13_78 dX13_plans_50 hf (fun x1 hf => ?_)
    refine G.icmp_ge 124 dX13_plans_53 (by decide) (fun c2 => ?_) (fun c2 => ?_)
    · rw [if_pos c2] at hf
      obtain ⟨u0, w1⟩ := Prod.mk.inj (Option.some.inj hf)
      subst u0
      subst w1
      exact G.pick [0, 1, 2, 3, 4] rfl hE
    · rw [if_neg c2] at hf
      refine G.iload_n dX13_plans_56 rfl ?_
      refine G.aload_n dX13_plans_57 rfl ?_
      refine G.geti flX13_75 dX13_plans_58 hf (fun x3 hf => ?_)
      refine G.icmp_ge 124 dX13_plans_61 (by decide) (fun c4 => ?_) (fun c4 => ?_)
      · rw [if_pos c4] at hf
        obtain ⟨u0, w1⟩ := Prod.mk.inj (Option.some.inj hf)
        subst u0
        subst w1
        exact G.pick [0, 1, 2, 3, 4] rfl hE
      · rw [if_neg c4] at hf
        refine G.iload_n dX13_plans_64 rfl ?_
        refine G.iload dX13_plans_65 rfl ?_
        refine G.ishr dX13_plans_67 ?_
        refine G.iconst (v := (1 : Int32)) dX13_plans_68 (by decide) ?_
        refine G.iand dX13_plans_69 ?_
        refine G.if_ne 118 dX13_plans_70 (by decide) (fun c5 => ?_) (fun c5 => ?_)
        · rw [if_neg c5] at hf
          refine G.iinc (v := (v5 + 1)) (lv' := [(5, .int (v5 + 1)), (0, .ref v0), (1, .int v1), (2, .int v2), (3, .int v3), (4, .int v4)]) dX13_plans_118 rfl rfl (by decide) rfl ?_
          refine G.goto 47 dX13_plans_121 (by decide) ?_
          exact G.pick [1, 2, 3, 4, 5, 0] rfl (ih v0 v1 v2 v3 v4 (v5 + 1) h _ _ hf hE)
        · rw [if_pos c5] at hf
          refine G.aload_n dX13_plans_73 rfl ?_
          refine G.iload_n dX13_plans_74 rfl ?_
          refine G.iload dX13_plans_75 rfl ?_
          obtain ⟨x8, h6, e7, hf⟩ := bT1_spec hf
          refine G.callVi (M' := mX13_could) (ci := 12) (As := [.int v2, .int v5]) (st := []) okX13_could viX13_could lkX13_234 rfl rfl rfl (Nat.le_of_ble_eq_true rfl) (Nat.le_of_ble_eq_true rfl) dX13_plans_77 (c_X13_could X (d + 2) _ _ _ _ _ _ e7).1 (c_X13_could X (d + 2) _ _ _ _ _ _ e7).2 ?_
          refine G.if_eq 118 dX13_plans_80 (by decide) (fun c9 => ?_) (fun c9 => ?_)
          · rw [if_pos c9] at hf
            refine G.iinc (v := (v5 + 1)) (lv' := [(5, .int (v5 + 1)), (0, .ref v0), (1, .int v1), (2, .int v2), (3, .int v3), (4, .int v4)]) dX13_plans_118 rfl rfl (by decide) rfl ?_
            refine G.goto 47 dX13_plans_121 (by decide) ?_
            exact G.pick [1, 2, 3, 4, 5, 0] rfl (ih v0 v1 v2 v3 v4 (v5 + 1) h6 _ _ hf hE)
          · rw [if_neg c9] at hf
            refine G.aload_n dX13_plans_83 rfl ?_
            refine G.iload dX13_plans_84 rfl ?_
            refine G.aload_n dX13_plans_86 rfl ?_
            refine G.iload_n dX13_plans_87 rfl ?_
            refine G.iload dX13_plans_88 rfl ?_
            refine G.iload_n dX13_plans_90 rfl ?_
            obtain ⟨x12, h10, e11, hf⟩ := bT1_spec hf
            refine G.callVi (M' := mX13_worth) (ci := 12) (As := [.int v2, .int v5, .int v1]) (st := [.int v4, .ref v0]) okX13_worth viX13_worth lkX13_240 rfl rfl rfl (Nat.le_of_ble_eq_true rfl) (Nat.le_of_ble_eq_true rfl) dX13_plans_91 (c_X13_worth X d _ _ _ _ _ _ _ e11).1 (c_X13_worth X d _ _ _ _ _ _ _ e11).2 ?_
            refine G.aload_n dX13_plans_94 rfl ?_
            refine G.getr flX13_54 dX13_plans_95 hf (fun r13 hf => ?_)
            refine G.bipush (v := (64 : Int32)) dX13_plans_98 (by decide) ?_
            refine G.iload_n dX13_plans_100 rfl ?_
            refine G.iconst (v := (1 : Int32)) dX13_plans_101 (by decide) ?_
            refine G.iadd dX13_plans_102 ?_
            refine G.imul dX13_plans_103 ?_
            refine G.iload_n dX13_plans_104 rfl ?_
            refine G.iconst (v := (1 : Int32)) dX13_plans_105 (by decide) ?_
            refine G.iload dX13_plans_106 rfl ?_
            refine G.ishl dX13_plans_108 ?_
            refine G.ior dX13_plans_109 ?_
            refine G.iadd dX13_plans_110 ?_
            refine G.iald dX13_plans_111 hf (fun x14 hf => ?_)
            refine G.iadd dX13_plans_112 ?_
            obtain ⟨x17, h15, e16, hf⟩ := bT1_spec hf
            refine G.callVi (M' := mX13_max) (ci := 12) (As := [.int v4, .int (x12 + x14)]) (st := []) okX13_max viX13_max lkX13_141 rfl rfl rfl (Nat.le_of_ble_eq_true rfl) (Nat.le_of_ble_eq_true rfl) dX13_plans_113 (c_X13_max X (d + 4) _ _ _ _ _ _ e16).1 (c_X13_max X (d + 4) _ _ _ _ _ _ e16).2 ?_
            refine G.istore (lv' := [(4, .int x17), (0, .ref v0), (1, .int v1), (2, .int v2), (3, .int v3), (5, .int v5)]) dX13_plans_116 (by decide) rfl ?_
            refine G.iinc (v := (v5 + 1)) (lv' := [(5, .int (v5 + 1)), (4, .int x17), (0, .ref v0), (1, .int v1), (2, .int v2), (3, .int v3)]) dX13_plans_118 rfl rfl (by decide) rfl ?_
            refine G.goto 47 dX13_plans_121 (by decide) ?_
            exact G.pick [2, 3, 4, 5, 1, 0] rfl (ih v0 v1 v2 v3 x17 (v5 + 1) h15 _ _ hf hE)
theorem l_X13_plans_L47 (X : SX) (d : Nat) (rv : Option Int32) (h' : AH) (n : Nat) : ∀ (v0 : Nat) (v1 : Int32) (v2 : Int32) (v3 : Int32) (v4 : Int32) (v5 : Int32) (h : AH) (y4 : Int32) (h1 : AH), f_X13_plans_L47 n v0 v1 v2 v3 v4 v5 h = some (y4, h1) → G X mX13_plans (d + 5) 124 [(0, .ref v0), (1, .int v1), (2, .int v2), (3, .int v3), (4, .int y4)] [] h1 rv h' → G X mX13_plans (d + 5) 47 [(0, .ref v0), (1, .int v1), (2, .int v2), (3, .int v3), (4, .int v4), (5, .int v5)] [] h rv h' := lx_X13_plans_L47 X d n rv h'
def f_X13_plans_124 (rec : Nat → Int32 → Int32 → Int32 → AH → Option (AH)) (v0 : Nat) (v1 : Int32) (v2 : Int32) (v3 : Int32) (v4 : Int32) (h : AH) : Option (AH) := (gr h 12 v0 29).bind fun r1 => (aw h 0 r1 (((64 : Int32) * v2) + v3) v4).bind fun h2 => rec v0 v1 v2 (v3 + 1) h2
set_option maxRecDepth 100000 in
set_option maxHeartbeats 4000000 in
theorem j_X13_plans_124 (X : SX) (d : Nat) (rec : Nat → Int32 → Int32 → Int32 → AH → Option (AH)) (hrecf : ∀ (rv : Option Int32) (h' : AH), ∀ (v0 : Nat) (v1 : Int32) (v2 : Int32) (v3 : Int32) (h : AH)  (h1 : AH), rec v0 v1 v2 v3 h = some (h1) → G X mX13_plans (d + 5) 143 [(0, .ref v0), (1, .int v1), (2, .int v2)] [] h1 rv h' → G X mX13_plans (d + 5) 11 [(0, .ref v0), (1, .int v1), (2, .int v2), (3, .int v3)] [] h rv h') (v0 : Nat) (v1 : Int32) (v2 : Int32) (v3 : Int32) (v4 : Int32) (h : AH)  (h1 : AH) (hf : f_X13_plans_124 rec v0 v1 v2 v3 v4 h = some (h1)) (rv : Option Int32) (h' : AH) (hE : G X mX13_plans (d + 5) 143 [(0, .ref v0), (1, .int v1), (2, .int v2)] [] h1 rv h') : G X mX13_plans (d + 5) 124 [(0, .ref v0), (1, .int v1), (2, .int v2), (3, .int v3), (4, .int v4)] [] h rv h' := by
  unfold f_X13_plans_124 at hf
  have hrec := hrecf rv h'
  refine G.aload_n dX13_plans_124 rfl ?_
  refine G.getr flX13_54 dX13_plans_125 hf (fun r1 hf => ?_)
  refine G.bipush (v := (64 : Int32)) dX13_plans_128 (by decide) ?_
  refine G.iload_n dX13_plans_130 rfl ?_
  refine G.imul dX13_plans_131 ?_
  refine G.iload_n dX13_plans_132 rfl ?_
  refine G.iadd dX13_plans_133 ?_
  refine G.iload dX13_plans_134 rfl ?_
  refine G.iast dX13_plans_136 hf (fun h2 hf => ?_)
  refine G.iinc (v := (v3 + 1)) (lv' := [(3, .int (v3 + 1)), (0, .ref v0), (1, .int v1), (2, .int v2), (4, .int v4)]) dX13_plans_137 rfl rfl (by decide) rfl ?_
  refine G.goto 11 dX13_plans_140 (by decide) ?_
  exact G.pick [1, 2, 3, 0] rfl (hrec v0 v1 v2 (v3 + 1) h2 _ hf hE)
def f_X13_plans_42 (rec : Nat → Int32 → Int32 → Int32 → AH → Option (AH)) (v0 : Nat) (v1 : Int32) (v2 : Int32) (v3 : Int32) (s0 : Int32) (h : AH) : Option (AH) := bT1 (f_X13_plans_L47 1000000 v0 v1 v2 v3 s0 (0 : Int32) h) fun y3 h1 => f_X13_plans_124 rec v0 v1 v2 v3 y3 h1
set_option maxRecDepth 100000 in
set_option maxHeartbeats 4000000 in
theorem j_X13_plans_42 (X : SX) (d : Nat) (rec : Nat → Int32 → Int32 → Int32 → AH → Option (AH)) (hrecf : ∀ (rv : Option Int32) (h' : AH), ∀ (v0 : Nat) (v1 : Int32) (v2 : Int32) (v3 : Int32) (h : AH)  (h1 : AH), rec v0 v1 v2 v3 h = some (h1) → G X mX13_plans (d + 5) 143 [(0, .ref v0), (1, .int v1), (2, .int v2)] [] h1 rv h' → G X mX13_plans (d + 5) 11 [(0, .ref v0), (1, .int v1), (2, .int v2), (3, .int v3)] [] h rv h') (v0 : Nat) (v1 : Int32) (v2 : Int32) (v3 : Int32) (s0 : Int32) (h : AH)  (h1 : AH) (hf : f_X13_plans_42 rec v0 v1 v2 v3 s0 h = some (h1)) (rv : Option Int32) (h' : AH) (hE : G X mX13_plans (d + 5) 143 [(0, .ref v0), (1, .int v1), (2, .int v2)] [] h1 rv h') : G X mX13_plans (d + 5) 42 [(0, .ref v0), (1, .int v1), (2, .int v2), (3, .int v3)] [.int s0] h rv h' := by
  unfold f_X13_plans_42 at hf
  have hrec := hrecf rv h'
  refine G.istore (lv' := [(4, .int s0), (0, .ref v0), (1, .int v1), (2, .int v2), (3, .int v3)]) dX13_plans_42 (by decide) rfl ?_
  refine G.iconst (v := (0 : Int32)) dX13_plans_44 (by decide) ?_
  refine G.istore (lv' := [(5, .int (0 : Int32)), (4, .int s0), (0, .ref v0), (1, .int v1), (2, .int v2), (3, .int v3)]) dX13_plans_45 (by decide) rfl ?_
  obtain ⟨y3, h1, e2, hf⟩ := bT1_spec hf
  refine G.pick [2, 3, 4, 5, 1, 0] rfl (l_X13_plans_L47 X d _ _ 1000000 v0 v1 v2 v3 s0 (0 : Int32) h y3 h1 e2 ?_)
  exact G.pick [0, 1, 2, 3, 4] rfl (j_X13_plans_124 X d _ hrecf v0 v1 v2 v3 y3 h1 _ hf _ _ hE)
def F_X13_plans_L11 (rec : Nat → Int32 → Int32 → Int32 → AH → Option (AH)) (v0 : Nat) (v1 : Int32) (v2 : Int32) (v3 : Int32) (h : AH) : Option (AH) := if (64 : Int32) ≤ v3 then (some (h)) else ((gi h 12 v0 5).bind fun x2 => if v2 = x2 then (f_X13_plans_42 rec v0 v1 v2 v3 (0 : Int32) h) else ((gr h 12 v0 29).bind fun r4 => (ai h 0 r4 (((64 : Int32) * (v2 + (1 : Int32))) + v3)).bind fun x5 => f_X13_plans_42 rec v0 v1 v2 v3 x5 h))
def f_X13_plans_L11 : Nat → Nat → Int32 → Int32 → Int32 → AH → Option (AH)
  | 0 => fun _ _ _ _ _ => none
  | n + 1 => F_X13_plans_L11 (f_X13_plans_L11 n)
set_option maxRecDepth 100000 in
set_option maxHeartbeats 4000000 in
theorem lx_X13_plans_L11 (X : SX) (d : Nat) : ∀ n (rv : Option Int32) (h' : AH), ∀ (v0 : Nat) (v1 : Int32) (v2 : Int32) (v3 : Int32) (h : AH)  (h1 : AH), f_X13_plans_L11 n v0 v1 v2 v3 h = some (h1) → G X mX13_plans (d + 5) 143 [(0, .ref v0), (1, .int v1), (2, .int v2)] [] h1 rv h' → G X mX13_plans (d + 5) 11 [(0, .ref v0), (1, .int v1), (2, .int v2), (3, .int v3)] [] h rv h' := by
  intro n
  induction n with
  | zero =>
    intro rv h' v0 v1 v2 v3 h h1 hf hE
    cases hf
  | succ n ihf =>
    intro rv h' v0 v1 v2 v3 h h1 hf hE
    replace hf : F_X13_plans_L11 (f_X13_plans_L11 n) v0 v1 v2 v3 h = some (h1) := hf
    unfold F_X13_plans_L11 at hf
    have ih := ihf rv h'
    refine G.iload_n dX13_plans_11 rfl ?_
    refine G.bipush (v := (64 : Int32)) dX13_plans_12 (by decide) ?_
    refine G.icmp_ge 143 dX13_plans_14 (by decide) (fun c1 => ?_) (fun c1 => ?_)
    · rw [if_pos c1] at hf
      have w0 := Option.some.inj hf
      subst w0
      exact G.pick [0, 1, 2] rfl hE
    · rw [if_neg c1] at hf
      refine G.iload_n dX13_plans_17 rfl ?_
      refine G.aload_n dX13_plans_18 rfl ?_
      refine G.geti flX13_75 dX13_plans_19 hf (fun x2 hf => ?_)
      refine G.icmp_ne 29 dX13_plans_22 (by decide) (fun c3 => ?_) (fun c3 => ?_)
      · rw [if_neg c3] at hf
        refine G.aload_n dX13_plans_29 rfl ?_
        refine G.getr flX13_54 dX13_plans_30 hf (fun r4 hf => ?_)
        refine G.bipush (v := (64 : Int32)) dX13_plans_33 (by decide) ?_
        refine G.iload_n dX13_plans_35 rfl ?_
        refine G.iconst (v := (1 : Int32)) dX13_plans_36 (by decide) ?_
        refine G.iadd dX13_plans_37 ?_
        refine G.imul dX13_plans_38 ?_
        refine G.iload_n dX13_plans_39 rfl ?_
        refine G.iadd dX13_plans_40 ?_
        refine G.iald dX13_plans_41 hf (fun x5 hf => ?_)
        exact G.pick [0, 1, 2, 3] rfl (j_X13_plans_42 X d _ ihf v0 v1 v2 v3 x5 h _ hf _ _ hE)
      · rw [if_pos c3] at hf
        refine G.iconst (v := (0 : Int32)) dX13_plans_25 (by decide) ?_
        refine G.goto 42 dX13_plans_26 (by decide) ?_
        exact G.pick [0, 1, 2, 3] rfl (j_X13_plans_42 X d _ ihf v0 v1 v2 v3 (0 : Int32) h _ hf _ _ hE)
theorem l_X13_plans_L11 (X : SX) (d : Nat) (rv : Option Int32) (h' : AH) (n : Nat) : ∀ (v0 : Nat) (v1 : Int32) (v2 : Int32) (v3 : Int32) (h : AH)  (h1 : AH), f_X13_plans_L11 n v0 v1 v2 v3 h = some (h1) → G X mX13_plans (d + 5) 143 [(0, .ref v0), (1, .int v1), (2, .int v2)] [] h1 rv h' → G X mX13_plans (d + 5) 11 [(0, .ref v0), (1, .int v1), (2, .int v2), (3, .int v3)] [] h rv h' := lx_X13_plans_L11 X d n rv h'
def F_X13_plans_L5 (rec : Nat → Int32 → Int32 → AH → Option (AH)) (v0 : Nat) (v1 : Int32) (v2 : Int32) (h : AH) : Option (AH) := if v2 < 0 then (some (h)) else ((f_X13_plans_L11 1000000 v0 v1 v2 (0 : Int32) h).bind fun h2 => rec v0 v1 (v2 + (-1)) h2)
def f_X13_plans_L5 : Nat → Nat → Int32 → Int32 → AH → Option (AH)
  | 0 => fun _ _ _ _ => none
  | n + 1 => F_X13_plans_L5 (f_X13_plans_L5 n)
set_option maxRecDepth 100000 in
set_option maxHeartbeats 4000000 in
theorem lx_X13_plans_L5 (X : SX) (d : Nat) : ∀ n (rv : Option Int32) (h' : AH), ∀ (v0 : Nat) (v1 : Int32) (v2 : Int32) (h : AH)  (h1 : AH), f_X13_plans_L5 n v0 v1 v2 h = some (h1) → G X mX13_plans (d + 5) 149 [] [] h1 rv h' → G X mX13_plans (d + 5) 5 [(0, .ref v0), (1, .int v1), (2, .int v2)] [] h rv h' := by
  intro n
  induction n with
  | zero =>
    intro rv h' v0 v1 v2 h h1 hf hE
    cases hf
  | succ n ihf =>
    intro rv h' v0 v1 v2 h h1 hf hE
    replace hf : F_X13_plans_L5 (f_X13_plans_L5 n) v0 v1 v2 h = some (h1) := hf
    unfold F_X13_plans_L5 at hf
    have ih := ihf rv h'
    refine G.iload_n dX13_plans_5 rfl ?_
    refine G.if_lt 149 dX13_plans_6 (by decide) (fun c1 => ?_) (fun c1 => ?_)
    · rw [if_pos c1] at hf
      have w0 := Option.some.inj hf
      subst w0
      exact G.pick [] rfl hE
    · rw [if_neg c1] at hf
      refine G.iconst (v := (0 : Int32)) dX13_plans_9 (by decide) ?_
      refine G.istore_n (lv' := [(3, .int (0 : Int32)), (0, .ref v0), (1, .int v1), (2, .int v2)]) dX13_plans_10 (by decide) rfl ?_
      obtain ⟨h2, e3, hf⟩ := Option.bind_eq_some_iff.mp hf
      refine G.pick [1, 2, 3, 0] rfl (l_X13_plans_L11 X d _ _ 1000000 v0 v1 v2 (0 : Int32) h h2 e3 ?_)
      refine G.iinc (v := (v2 + (-1))) (lv' := [(2, .int (v2 + (-1))), (0, .ref v0), (1, .int v1)]) dX13_plans_143 rfl rfl (by decide) rfl ?_
      refine G.goto 5 dX13_plans_146 (by decide) ?_
      exact G.pick [1, 2, 0] rfl (ih v0 v1 (v2 + (-1)) h2 _ hf hE)
theorem l_X13_plans_L5 (X : SX) (d : Nat) (rv : Option Int32) (h' : AH) (n : Nat) : ∀ (v0 : Nat) (v1 : Int32) (v2 : Int32) (h : AH)  (h1 : AH), f_X13_plans_L5 n v0 v1 v2 h = some (h1) → G X mX13_plans (d + 5) 149 [] [] h1 rv h' → G X mX13_plans (d + 5) 5 [(0, .ref v0), (1, .int v1), (2, .int v2)] [] h rv h' := lx_X13_plans_L5 X d n rv h'
def f_X13_plans (a0 : Nat) (a1 : Int32) (h : AH) : Option (AH) := if isO h 12 a0 = true then ((gi h 12 a0 5).bind fun x1 => (f_X13_plans_L5 1000000 a0 a1 x1 h).bind fun h2 => some h2) else none
set_option maxRecDepth 100000 in
set_option maxHeartbeats 4000000 in
theorem c_X13_plans (X : SX) (d : Nat) (a0 : Nat) (a1 : Int32) (h : AH) (h' : AH) (hf : f_X13_plans a0 a1 h = some h') : isO h 12 a0 = true ∧ G X mX13_plans (d + 5) 0 [(0, .ref a0), (1, .int a1)] [] h none h' := by
  unfold f_X13_plans at hf
  by_cases ho : isO h 12 a0 = true
  · rw [if_pos ho] at hf
    refine ⟨ho, ?_⟩
    refine G.aload_n dX13_plans_0 rfl ?_
    refine G.geti flX13_75 dX13_plans_1 hf (fun x1 hf => ?_)
    refine G.istore_n (lv' := [(2, .int x1), (0, .ref a0), (1, .int a1)]) dX13_plans_4 (by decide) rfl ?_
    obtain ⟨h2, e3, hf⟩ := Option.bind_eq_some_iff.mp hf
    refine G.pick [1, 2, 0] rfl (l_X13_plans_L5 X d _ _ 1000000 a0 a1 x1 h h2 e3 ?_)
    have hq := Option.some.inj hf
    subst hq
    exact G.vret rfl dX13_plans_149
  · rw [if_neg ho] at hf
    cases hf
/-! X13_never -/
theorem dX13_never_0 : decode cX13_never 0 = .ok (.aload_n 0, 1) := by decide +kernel
theorem dX13_never_1 : decode cX13_never 1 = .ok (.getfield 29, 3) := by decide +kernel
theorem dX13_never_4 : decode cX13_never 4 = .ok (.bipush 6, 2) := by decide +kernel
theorem dX13_never_6 : decode cX13_never 6 = .ok (.iload_n 1, 1) := by decide +kernel
theorem dX13_never_7 : decode cX13_never 7 = .ok (.iadd, 1) := by decide +kernel
theorem dX13_never_8 : decode cX13_never 8 = .ok (.iaload, 1) := by decide +kernel
theorem dX13_never_9 : decode cX13_never 9 = .ok (.istore_n 2, 1) := by decide +kernel
theorem dX13_never_10 : decode cX13_never 10 = .ok (.iconst 0, 1) := by decide +kernel
theorem dX13_never_11 : decode cX13_never 11 = .ok (.istore_n 3, 1) := by decide +kernel
theorem dX13_never_12 : decode cX13_never 12 = .ok (.iload_n 2, 1) := by decide +kernel
theorem dX13_never_13 : decode cX13_never 13 = .ok (.ifCond .le 72, 3) := by decide +kernel
theorem dX13_never_16 : decode cX13_never 16 = .ok (.aload_n 0, 1) := by decide +kernel
theorem dX13_never_17 : decode cX13_never 17 = .ok (.getfield 17, 3) := by decide +kernel
theorem dX13_never_20 : decode cX13_never 20 = .ok (.iload_n 1, 1) := by decide +kernel
theorem dX13_never_21 : decode cX13_never 21 = .ok (.iaload, 1) := by decide +kernel
theorem dX13_never_22 : decode cX13_never 22 = .ok (.iconst 1, 1) := by decide +kernel
theorem dX13_never_23 : decode cX13_never 23 = .ok (.if_icmp .eq 28, 3) := by decide +kernel
theorem dX13_never_26 : decode cX13_never 26 = .ok (.aload_n 0, 1) := by decide +kernel
theorem dX13_never_27 : decode cX13_never 27 = .ok (.getfield 17, 3) := by decide +kernel
theorem dX13_never_30 : decode cX13_never 30 = .ok (.iload_n 1, 1) := by decide +kernel
theorem dX13_never_31 : decode cX13_never 31 = .ok (.iaload, 1) := by decide +kernel
theorem dX13_never_32 : decode cX13_never 32 = .ok (.iconst 3, 1) := by decide +kernel
theorem dX13_never_33 : decode cX13_never 33 = .ok (.if_icmp .ne 22, 3) := by decide +kernel
theorem dX13_never_36 : decode cX13_never 36 = .ok (.aload_n 0, 1) := by decide +kernel
theorem dX13_never_37 : decode cX13_never 37 = .ok (.getfield 29, 3) := by decide +kernel
theorem dX13_never_40 : decode cX13_never 40 = .ok (.bipush 50, 2) := by decide +kernel
theorem dX13_never_42 : decode cX13_never 42 = .ok (.iaload, 1) := by decide +kernel
theorem dX13_never_43 : decode cX13_never 43 = .ok (.iload_n 3, 1) := by decide +kernel
theorem dX13_never_44 : decode cX13_never 44 = .ok (.iadd, 1) := by decide +kernel
theorem dX13_never_45 : decode cX13_never 45 = .ok (.iconst 2, 1) := by decide +kernel
theorem dX13_never_46 : decode cX13_never 46 = .ok (.irem, 1) := by decide +kernel
theorem dX13_never_47 : decode cX13_never 47 = .ok (.iconst 1, 1) := by decide +kernel
theorem dX13_never_48 : decode cX13_never 48 = .ok (.if_icmp .ne 7, 3) := by decide +kernel
theorem dX13_never_51 : decode cX13_never 51 = .ok (.iconst 1, 1) := by decide +kernel
theorem dX13_never_52 : decode cX13_never 52 = .ok (.goto 4, 3) := by decide +kernel
theorem dX13_never_55 : decode cX13_never 55 = .ok (.iconst 0, 1) := by decide +kernel
theorem dX13_never_56 : decode cX13_never 56 = .ok (.istore 4, 2) := by decide +kernel
theorem dX13_never_58 : decode cX13_never 58 = .ok (.iload_n 2, 1) := by decide +kernel
theorem dX13_never_59 : decode cX13_never 59 = .ok (.iload 4, 2) := by decide +kernel
theorem dX13_never_61 : decode cX13_never 61 = .ok (.ifCond .eq 10, 3) := by decide +kernel
theorem dX13_never_64 : decode cX13_never 64 = .ok (.aload_n 0, 1) := by decide +kernel
theorem dX13_never_65 : decode cX13_never 65 = .ok (.getfield 129, 3) := by decide +kernel
theorem dX13_never_68 : decode cX13_never 68 = .ok (.goto 9, 3) := by decide +kernel
theorem dX13_never_71 : decode cX13_never 71 = .ok (.iconst 2, 1) := by decide +kernel
theorem dX13_never_72 : decode cX13_never 72 = .ok (.aload_n 0, 1) := by decide +kernel
theorem dX13_never_73 : decode cX13_never 73 = .ok (.getfield 129, 3) := by decide +kernel
theorem dX13_never_76 : decode cX13_never 76 = .ok (.imul, 1) := by decide +kernel
theorem dX13_never_77 : decode cX13_never 77 = .ok (.isub, 1) := by decide +kernel
theorem dX13_never_78 : decode cX13_never 78 = .ok (.istore_n 2, 1) := by decide +kernel
theorem dX13_never_79 : decode cX13_never 79 = .ok (.iinc 3 1, 3) := by decide +kernel
theorem dX13_never_82 : decode cX13_never 82 = .ok (.goto (-70), 3) := by decide +kernel
theorem dX13_never_85 : decode cX13_never 85 = .ok (.iload_n 3, 1) := by decide +kernel
theorem dX13_never_86 : decode cX13_never 86 = .ok (.ireturn, 1) := by decide +kernel
def f_X13_never_56 (rec : Nat → Int32 → Int32 → Int32 → AH → Option (Int32 × AH)) (v0 : Nat) (v1 : Int32) (v2 : Int32) (v3 : Int32) (s0 : Int32) (h : AH) : Option (Int32 × AH) := if s0 = 0 then ((gi h 12 v0 4).bind fun x2 => rec v0 v1 (v2 - ((2 : Int32) * x2)) (v3 + 1) h) else ((gi h 12 v0 4).bind fun x3 => rec v0 v1 (v2 - x3) (v3 + 1) h)
set_option maxRecDepth 100000 in
set_option maxHeartbeats 4000000 in
theorem j_X13_never_56 (X : SX) (d : Nat) (rec : Nat → Int32 → Int32 → Int32 → AH → Option (Int32 × AH)) (hrecf : ∀ (rv : Option Int32) (h' : AH), ∀ (v0 : Nat) (v1 : Int32) (v2 : Int32) (v3 : Int32) (h : AH) (y3 : Int32) (h1 : AH), rec v0 v1 v2 v3 h = some (y3, h1) → G X mX13_never d 85 [(3, .int y3)] [] h1 rv h' → G X mX13_never d 12 [(0, .ref v0), (1, .int v1), (2, .int v2), (3, .int v3)] [] h rv h') (v0 : Nat) (v1 : Int32) (v2 : Int32) (v3 : Int32) (s0 : Int32) (h : AH) (y3 : Int32) (h1 : AH) (hf : f_X13_never_56 rec v0 v1 v2 v3 s0 h = some (y3, h1)) (rv : Option Int32) (h' : AH) (hE : G X mX13_never d 85 [(3, .int y3)] [] h1 rv h') : G X mX13_never d 56 [(0, .ref v0), (1, .int v1), (2, .int v2), (3, .int v3)] [.int s0] h rv h' := by
  unfold f_X13_never_56 at hf
  have hrec := hrecf rv h'
  refine G.istore (lv' := [(4, .int s0), (0, .ref v0), (1, .int v1), (2, .int v2), (3, .int v3)]) dX13_never_56 (by decide) rfl ?_
  refine G.iload_n dX13_never_58 rfl ?_
  refine G.iload dX13_never_59 rfl ?_
  refine G.if_eq 71 dX13_never_61 (by decide) (fun c1 => ?_) (fun c1 => ?_)
  · rw [if_pos c1] at hf
    refine G.iconst (v := (2 : Int32)) dX13_never_71 (by decide) ?_
    refine G.aload_n dX13_never_72 rfl ?_
    refine G.geti flX13_129 dX13_never_73 hf (fun x2 hf => ?_)
    refine G.imul dX13_never_76 ?_
    refine G.isub dX13_never_77 ?_
    refine G.istore_n (lv' := [(2, .int (v2 - ((2 : Int32) * x2))), (4, .int s0), (0, .ref v0), (1, .int v1), (3, .int v3)]) dX13_never_78 (by decide) rfl ?_
    refine G.iinc (v := (v3 + 1)) (lv' := [(3, .int (v3 + 1)), (2, .int (v2 - ((2 : Int32) * x2))), (4, .int s0), (0, .ref v0), (1, .int v1)]) dX13_never_79 rfl rfl (by decide) rfl ?_
    refine G.goto 12 dX13_never_82 (by decide) ?_
    exact G.pick [3, 4, 1, 0] rfl (hrec v0 v1 (v2 - ((2 : Int32) * x2)) (v3 + 1) h _ _ hf hE)
  · rw [if_neg c1] at hf
    refine G.aload_n dX13_never_64 rfl ?_
    refine G.geti flX13_129 dX13_never_65 hf (fun x3 hf => ?_)
    refine G.goto 77 dX13_never_68 (by decide) ?_
    refine G.isub dX13_never_77 ?_
    refine G.istore_n (lv' := [(2, .int (v2 - x3)), (4, .int s0), (0, .ref v0), (1, .int v1), (3, .int v3)]) dX13_never_78 (by decide) rfl ?_
    refine G.iinc (v := (v3 + 1)) (lv' := [(3, .int (v3 + 1)), (2, .int (v2 - x3)), (4, .int s0), (0, .ref v0), (1, .int v1)]) dX13_never_79 rfl rfl (by decide) rfl ?_
    refine G.goto 12 dX13_never_82 (by decide) ?_
    exact G.pick [3, 4, 1, 0] rfl (hrec v0 v1 (v2 - x3) (v3 + 1) h _ _ hf hE)
def f_X13_never_51 (rec : Nat → Int32 → Int32 → Int32 → AH → Option (Int32 × AH)) (v0 : Nat) (v1 : Int32) (v2 : Int32) (v3 : Int32) (h : AH) : Option (Int32 × AH) := f_X13_never_56 rec v0 v1 v2 v3 (1 : Int32) h
set_option maxRecDepth 100000 in
set_option maxHeartbeats 4000000 in
theorem j_X13_never_51 (X : SX) (d : Nat) (rec : Nat → Int32 → Int32 → Int32 → AH → Option (Int32 × AH)) (hrecf : ∀ (rv : Option Int32) (h' : AH), ∀ (v0 : Nat) (v1 : Int32) (v2 : Int32) (v3 : Int32) (h : AH) (y3 : Int32) (h1 : AH), rec v0 v1 v2 v3 h = some (y3, h1) → G X mX13_never d 85 [(3, .int y3)] [] h1 rv h' → G X mX13_never d 12 [(0, .ref v0), (1, .int v1), (2, .int v2), (3, .int v3)] [] h rv h') (v0 : Nat) (v1 : Int32) (v2 : Int32) (v3 : Int32) (h : AH) (y3 : Int32) (h1 : AH) (hf : f_X13_never_51 rec v0 v1 v2 v3 h = some (y3, h1)) (rv : Option Int32) (h' : AH) (hE : G X mX13_never d 85 [(3, .int y3)] [] h1 rv h') : G X mX13_never d 51 [(0, .ref v0), (1, .int v1), (2, .int v2), (3, .int v3)] [] h rv h' := by
  unfold f_X13_never_51 at hf
  have hrec := hrecf rv h'
  refine G.iconst (v := (1 : Int32)) dX13_never_51 (by decide) ?_
  refine G.goto 56 dX13_never_52 (by decide) ?_
  exact G.pick [0, 1, 2, 3] rfl (j_X13_never_56 X d _ hrecf v0 v1 v2 v3 (1 : Int32) h _ _ hf _ _ hE)
def f_X13_never_55 (rec : Nat → Int32 → Int32 → Int32 → AH → Option (Int32 × AH)) (v0 : Nat) (v1 : Int32) (v2 : Int32) (v3 : Int32) (h : AH) : Option (Int32 × AH) := f_X13_never_56 rec v0 v1 v2 v3 (0 : Int32) h
set_option maxRecDepth 100000 in
set_option maxHeartbeats 4000000 in
theorem j_X13_never_55 (X : SX) (d : Nat) (rec : Nat → Int32 → Int32 → Int32 → AH → Option (Int32 × AH)) (hrecf : ∀ (rv : Option Int32) (h' : AH), ∀ (v0 : Nat) (v1 : Int32) (v2 : Int32) (v3 : Int32) (h : AH) (y3 : Int32) (h1 : AH), rec v0 v1 v2 v3 h = some (y3, h1) → G X mX13_never d 85 [(3, .int y3)] [] h1 rv h' → G X mX13_never d 12 [(0, .ref v0), (1, .int v1), (2, .int v2), (3, .int v3)] [] h rv h') (v0 : Nat) (v1 : Int32) (v2 : Int32) (v3 : Int32) (h : AH) (y3 : Int32) (h1 : AH) (hf : f_X13_never_55 rec v0 v1 v2 v3 h = some (y3, h1)) (rv : Option Int32) (h' : AH) (hE : G X mX13_never d 85 [(3, .int y3)] [] h1 rv h') : G X mX13_never d 55 [(0, .ref v0), (1, .int v1), (2, .int v2), (3, .int v3)] [] h rv h' := by
  unfold f_X13_never_55 at hf
  have hrec := hrecf rv h'
  refine G.iconst (v := (0 : Int32)) dX13_never_55 (by decide) ?_
  exact G.pick [0, 1, 2, 3] rfl (j_X13_never_56 X d _ hrecf v0 v1 v2 v3 (0 : Int32) h _ _ hf _ _ hE)
def F_X13_never_L12 (rec : Nat → Int32 → Int32 → Int32 → AH → Option (Int32 × AH)) (v0 : Nat) (v1 : Int32) (v2 : Int32) (v3 : Int32) (h : AH) : Option (Int32 × AH) := if v2 ≤ 0 then (some (v3, h)) else ((gr h 12 v0 7).bind fun r2 => (ai h 0 r2 v1).bind fun x3 => if x3 = (1 : Int32) then (f_X13_never_51 rec v0 v1 v2 v3 h) else ((gr h 12 v0 7).bind fun r5 => (ai h 0 r5 v1).bind fun x6 => if x6 = (3 : Int32) then ((gr h 12 v0 11).bind fun r8 => (ai h 0 r8 (50 : Int32)).bind fun x9 => if ((x9 + v3) - (x9 + v3) / (2 : Int32) * (2 : Int32)) = (1 : Int32) then (f_X13_never_51 rec v0 v1 v2 v3 h) else (f_X13_never_55 rec v0 v1 v2 v3 h)) else (f_X13_never_55 rec v0 v1 v2 v3 h)))
def f_X13_never_L12 : Nat → Nat → Int32 → Int32 → Int32 → AH → Option (Int32 × AH)
  | 0 => fun _ _ _ _ _ => none
  | n + 1 => F_X13_never_L12 (f_X13_never_L12 n)
set_option maxRecDepth 100000 in
set_option maxHeartbeats 4000000 in
theorem lx_X13_never_L12 (X : SX) (d : Nat) : ∀ n (rv : Option Int32) (h' : AH), ∀ (v0 : Nat) (v1 : Int32) (v2 : Int32) (v3 : Int32) (h : AH) (y3 : Int32) (h1 : AH), f_X13_never_L12 n v0 v1 v2 v3 h = some (y3, h1) → G X mX13_never d 85 [(3, .int y3)] [] h1 rv h' → G X mX13_never d 12 [(0, .ref v0), (1, .int v1), (2, .int v2), (3, .int v3)] [] h rv h' := by
  intro n
  induction n with
  | zero =>
    intro rv h' v0 v1 v2 v3 h y3 h1 hf hE
    cases hf
  | succ n ihf =>
    intro rv h' v0 v1 v2 v3 h y3 h1 hf hE
    replace hf : F_X13_never_L12 (f_X13_never_L12 n) v0 v1 v2 v3 h = some (y3, h1) := hf
    unfold F_X13_never_L12 at hf
    have ih := ihf rv h'
    refine G.iload_n dX13_never_12 rfl ?_
    refine G.if_le 85 dX13_never_13 (by decide) (fun c1 => ?_) (fun c1 => ?_)
    · rw [if_pos c1] at hf
      obtain ⟨u0, w1⟩ := Prod.mk.inj (Option.some.inj hf)
      subst u0
      subst w1
      exact G.pick [3] rfl hE
    · rw [if_neg c1] at hf
      refine G.aload_n dX13_never_16 rfl ?_
      refine G.getr flX13_17 dX13_never_17 hf (fun r2 hf => ?_)
      refine G.iload_n dX13_never_20 rfl ?_
      refine G.iald dX13_never_21 hf (fun x3 hf => ?_)
      refine G.iconst (v := (1 : Int32)) dX13_never_22 (by decide) ?_
      refine G.icmp_eq 51 dX13_never_23 (by decide) (fun c4 => ?_) (fun c4 => ?_)
      · rw [if_pos c4] at hf
        exact G.pick [0, 1, 2, 3] rfl (j_X13_never_51 X d _ ihf v0 v1 v2 v3 h _ _ hf _ _ hE)
      · rw [if_neg c4] at hf
        refine G.aload_n dX13_never_26 rfl ?_
        refine G.getr flX13_17 dX13_never_27 hf (fun r5 hf => ?_)
        refine G.iload_n dX13_never_30 rfl ?_
        refine G.iald dX13_never_31 hf (fun x6 hf => ?_)
        refine G.iconst (v := (3 : Int32)) dX13_never_32 (by decide) ?_
        refine G.icmp_ne 55 dX13_never_33 (by decide) (fun c7 => ?_) (fun c7 => ?_)
        · rw [if_neg c7] at hf
          exact G.pick [0, 1, 2, 3] rfl (j_X13_never_55 X d _ ihf v0 v1 v2 v3 h _ _ hf _ _ hE)
        · rw [if_pos c7] at hf
          refine G.aload_n dX13_never_36 rfl ?_
          refine G.getr flX13_29 dX13_never_37 hf (fun r8 hf => ?_)
          refine G.bipush (v := (50 : Int32)) dX13_never_40 (by decide) ?_
          refine G.iald dX13_never_42 hf (fun x9 hf => ?_)
          refine G.iload_n dX13_never_43 rfl ?_
          refine G.iadd dX13_never_44 ?_
          refine G.iconst (v := (2 : Int32)) dX13_never_45 (by decide) ?_
          refine G.irem dX13_never_46 (by decide) ?_
          refine G.iconst (v := (1 : Int32)) dX13_never_47 (by decide) ?_
          refine G.icmp_ne 55 dX13_never_48 (by decide) (fun c10 => ?_) (fun c10 => ?_)
          · rw [if_neg c10] at hf
            exact G.pick [0, 1, 2, 3] rfl (j_X13_never_55 X d _ ihf v0 v1 v2 v3 h _ _ hf _ _ hE)
          · rw [if_pos c10] at hf
            exact G.pick [0, 1, 2, 3] rfl (j_X13_never_51 X d _ ihf v0 v1 v2 v3 h _ _ hf _ _ hE)
theorem l_X13_never_L12 (X : SX) (d : Nat) (rv : Option Int32) (h' : AH) (n : Nat) : ∀ (v0 : Nat) (v1 : Int32) (v2 : Int32) (v3 : Int32) (h : AH) (y3 : Int32) (h1 : AH), f_X13_never_L12 n v0 v1 v2 v3 h = some (y3, h1) → G X mX13_never d 85 [(3, .int y3)] [] h1 rv h' → G X mX13_never d 12 [(0, .ref v0), (1, .int v1), (2, .int v2), (3, .int v3)] [] h rv h' := lx_X13_never_L12 X d n rv h'
def f_X13_never (a0 : Nat) (a1 : Int32) (h : AH) : Option (Int32 × AH) := if isO h 12 a0 = true then ((gr h 12 a0 11).bind fun r1 => (ai h 0 r1 ((6 : Int32) + a1)).bind fun x2 => bT1 (f_X13_never_L12 1000000 a0 a1 x2 (0 : Int32) h) fun y5 h3 => some (y5, h3)) else none
set_option maxRecDepth 100000 in
set_option maxHeartbeats 4000000 in
theorem c_X13_never (X : SX) (d : Nat) (a0 : Nat) (a1 : Int32) (h : AH) (rr : Int32) (h' : AH) (hf : f_X13_never a0 a1 h = some (rr, h')) : isO h 12 a0 = true ∧ G X mX13_never d 0 [(0, .ref a0), (1, .int a1)] [] h (some rr) h' := by
  unfold f_X13_never at hf
  by_cases ho : isO h 12 a0 = true
  · rw [if_pos ho] at hf
    refine ⟨ho, ?_⟩
    refine G.aload_n dX13_never_0 rfl ?_
    refine G.getr flX13_29 dX13_never_1 hf (fun r1 hf => ?_)
    refine G.bipush (v := (6 : Int32)) dX13_never_4 (by decide) ?_
    refine G.iload_n dX13_never_6 rfl ?_
    refine G.iadd dX13_never_7 ?_
    refine G.iald dX13_never_8 hf (fun x2 hf => ?_)
    refine G.istore_n (lv' := [(2, .int x2), (0, .ref a0), (1, .int a1)]) dX13_never_9 (by decide) rfl ?_
    refine G.iconst (v := (0 : Int32)) dX13_never_10 (by decide) ?_
    refine G.istore_n (lv' := [(3, .int (0 : Int32)), (2, .int x2), (0, .ref a0), (1, .int a1)]) dX13_never_11 (by decide) rfl ?_
    obtain ⟨y5, h3, e4, hf⟩ := bT1_spec hf
    refine G.pick [2, 3, 1, 0] rfl (l_X13_never_L12 X d _ _ 1000000 a0 a1 x2 (0 : Int32) h y5 h3 e4 ?_)
    refine G.iload_n dX13_never_85 rfl ?_
    obtain ⟨hq1, hq2⟩ := Prod.mk.inj (Option.some.inj hf)
    subst hq1
    subst hq2
    exact G.iret rfl rfl dX13_never_86
  · rw [if_neg ho] at hf
    cases hf
/-! X13_willDefault -/
theorem dX13_willDefault_0 : decode cX13_willDefault 0 = .ok (.iconst 0, 1) := by decide +kernel
theorem dX13_willDefault_1 : decode cX13_willDefault 1 = .ok (.istore_n 1, 1) := by decide +kernel
theorem dX13_willDefault_2 : decode cX13_willDefault 2 = .ok (.iconst 0, 1) := by decide +kernel
theorem dX13_willDefault_3 : decode cX13_willDefault 3 = .ok (.istore_n 2, 1) := by decide +kernel
theorem dX13_willDefault_4 : decode cX13_willDefault 4 = .ok (.iload_n 2, 1) := by decide +kernel
theorem dX13_willDefault_5 : decode cX13_willDefault 5 = .ok (.aload_n 0, 1) := by decide +kernel
theorem dX13_willDefault_6 : decode cX13_willDefault 6 = .ok (.getfield 75, 3) := by decide +kernel
theorem dX13_willDefault_9 : decode cX13_willDefault 9 = .ok (.if_icmp .ge 68, 3) := by decide +kernel
theorem dX13_willDefault_12 : decode cX13_willDefault 12 = .ok (.bipush 50, 2) := by decide +kernel
theorem dX13_willDefault_14 : decode cX13_willDefault 14 = .ok (.aload_n 0, 1) := by decide +kernel
theorem dX13_willDefault_15 : decode cX13_willDefault 15 = .ok (.getfield 29, 3) := by decide +kernel
theorem dX13_willDefault_18 : decode cX13_willDefault 18 = .ok (.iconst 0, 1) := by decide +kernel
theorem dX13_willDefault_19 : decode cX13_willDefault 19 = .ok (.iload_n 2, 1) := by decide +kernel
theorem dX13_willDefault_20 : decode cX13_willDefault 20 = .ok (.iadd, 1) := by decide +kernel
theorem dX13_willDefault_21 : decode cX13_willDefault 21 = .ok (.iaload, 1) := by decide +kernel
theorem dX13_willDefault_22 : decode cX13_willDefault 22 = .ok (.isub, 1) := by decide +kernel
theorem dX13_willDefault_23 : decode cX13_willDefault 23 = .ok (.istore_n 3, 1) := by decide +kernel
theorem dX13_willDefault_24 : decode cX13_willDefault 24 = .ok (.iconst 4, 1) := by decide +kernel
theorem dX13_willDefault_25 : decode cX13_willDefault 25 = .ok (.aload_n 0, 1) := by decide +kernel
theorem dX13_willDefault_26 : decode cX13_willDefault 26 = .ok (.getfield 29, 3) := by decide +kernel
theorem dX13_willDefault_29 : decode cX13_willDefault 29 = .ok (.bipush 50, 2) := by decide +kernel
theorem dX13_willDefault_31 : decode cX13_willDefault 31 = .ok (.iaload, 1) := by decide +kernel
theorem dX13_willDefault_32 : decode cX13_willDefault 32 = .ok (.iconst 4, 1) := by decide +kernel
theorem dX13_willDefault_33 : decode cX13_willDefault 33 = .ok (.idiv, 1) := by decide +kernel
theorem dX13_willDefault_34 : decode cX13_willDefault 34 = .ok (.iload_n 3, 1) := by decide +kernel
theorem dX13_willDefault_35 : decode cX13_willDefault 35 = .ok (.iadd, 1) := by decide +kernel
theorem dX13_willDefault_36 : decode cX13_willDefault 36 = .ok (.imul, 1) := by decide +kernel
theorem dX13_willDefault_37 : decode cX13_willDefault 37 = .ok (.aload_n 0, 1) := by decide +kernel
theorem dX13_willDefault_38 : decode cX13_willDefault 38 = .ok (.getfield 29, 3) := by decide +kernel
theorem dX13_willDefault_41 : decode cX13_willDefault 41 = .ok (.bipush 50, 2) := by decide +kernel
theorem dX13_willDefault_43 : decode cX13_willDefault 43 = .ok (.iaload, 1) := by decide +kernel
theorem dX13_willDefault_44 : decode cX13_willDefault 44 = .ok (.isub, 1) := by decide +kernel
theorem dX13_willDefault_45 : decode cX13_willDefault 45 = .ok (.istore 4, 2) := by decide +kernel
theorem dX13_willDefault_47 : decode cX13_willDefault 47 = .ok (.iload_n 1, 1) := by decide +kernel
theorem dX13_willDefault_48 : decode cX13_willDefault 48 = .ok (.iload_n 3, 1) := by decide +kernel
theorem dX13_willDefault_49 : decode cX13_willDefault 49 = .ok (.ifCond .le 19, 3) := by decide +kernel
theorem dX13_willDefault_52 : decode cX13_willDefault 52 = .ok (.aload_n 0, 1) := by decide +kernel
theorem dX13_willDefault_53 : decode cX13_willDefault 53 = .ok (.iload_n 2, 1) := by decide +kernel
theorem dX13_willDefault_54 : decode cX13_willDefault 54 = .ok (.invokevirtual 151, 3) := by decide +kernel
theorem dX13_willDefault_57 : decode cX13_willDefault 57 = .ok (.iload 4, 2) := by decide +kernel
theorem dX13_willDefault_59 : decode cX13_willDefault 59 = .ok (.if_icmp .le 9, 3) := by decide +kernel
theorem dX13_willDefault_62 : decode cX13_willDefault 62 = .ok (.iconst 1, 1) := by decide +kernel
theorem dX13_willDefault_63 : decode cX13_willDefault 63 = .ok (.iload_n 2, 1) := by decide +kernel
theorem dX13_willDefault_64 : decode cX13_willDefault 64 = .ok (.ishl, 1) := by decide +kernel
theorem dX13_willDefault_65 : decode cX13_willDefault 65 = .ok (.goto 4, 3) := by decide +kernel
theorem dX13_willDefault_68 : decode cX13_willDefault 68 = .ok (.iconst 0, 1) := by decide +kernel
theorem dX13_willDefault_69 : decode cX13_willDefault 69 = .ok (.ior, 1) := by decide +kernel
theorem dX13_willDefault_70 : decode cX13_willDefault 70 = .ok (.istore_n 1, 1) := by decide +kernel
theorem dX13_willDefault_71 : decode cX13_willDefault 71 = .ok (.iinc 2 1, 3) := by decide +kernel
theorem dX13_willDefault_74 : decode cX13_willDefault 74 = .ok (.goto (-70), 3) := by decide +kernel
theorem dX13_willDefault_77 : decode cX13_willDefault 77 = .ok (.iload_n 1, 1) := by decide +kernel
theorem dX13_willDefault_78 : decode cX13_willDefault 78 = .ok (.ireturn, 1) := by decide +kernel
def f_X13_willDefault_68 (rec : Nat → Int32 → Int32 → AH → Option (Int32 × AH)) (v0 : Nat) (v2 : Int32) (s0 : Int32) (h : AH) : Option (Int32 × AH) := rec v0 (s0 ||| (0 : Int32)) (v2 + 1) h
set_option maxRecDepth 100000 in
set_option maxHeartbeats 4000000 in
theorem j_X13_willDefault_68 (X : SX) (d : Nat) (rec : Nat → Int32 → Int32 → AH → Option (Int32 × AH)) (hrecf : ∀ (rv : Option Int32) (h' : AH), ∀ (v0 : Nat) (v1 : Int32) (v2 : Int32) (h : AH) (y1 : Int32) (h1 : AH), rec v0 v1 v2 h = some (y1, h1) → G X mX13_willDefault (d + 1) 77 [(1, .int y1)] [] h1 rv h' → G X mX13_willDefault (d + 1) 4 [(0, .ref v0), (1, .int v1), (2, .int v2)] [] h rv h') (v0 : Nat) (v2 : Int32) (s0 : Int32) (h : AH) (y1 : Int32) (h1 : AH) (hf : f_X13_willDefault_68 rec v0 v2 s0 h = some (y1, h1)) (rv : Option Int32) (h' : AH) (hE : G X mX13_willDefault (d + 1) 77 [(1, .int y1)] [] h1 rv h') : G X mX13_willDefault (d + 1) 68 [(0, .ref v0), (2, .int v2)] [.int s0] h rv h' := by
  unfold f_X13_willDefault_68 at hf
  have hrec := hrecf rv h'
  refine G.iconst (v := (0 : Int32)) dX13_willDefault_68 (by decide) ?_
  refine G.ior dX13_willDefault_69 ?_
  refine G.istore_n (lv' := [(1, .int (s0 ||| (0 : Int32))), (0, .ref v0), (2, .int v2)]) dX13_willDefault_70 (by decide) rfl ?_
  refine G.iinc (v := (v2 + 1)) (lv' := [(2, .int (v2 + 1)), (1, .int (s0 ||| (0 : Int32))), (0, .ref v0)]) dX13_willDefault_71 rfl rfl (by decide) rfl ?_
  refine G.goto 4 dX13_willDefault_74 (by decide) ?_
  exact G.pick [2, 1, 0] rfl (hrec v0 (s0 ||| (0 : Int32)) (v2 + 1) h _ _ hf hE)
def F_X13_willDefault_L4 (rec : Nat → Int32 → Int32 → AH → Option (Int32 × AH)) (v0 : Nat) (v1 : Int32) (v2 : Int32) (h : AH) : Option (Int32 × AH) := (gi h 12 v0 5).bind fun x1 => if x1 ≤ v2 then (some (v1, h)) else ((gr h 12 v0 11).bind fun r3 => (ai h 0 r3 ((0 : Int32) + v2)).bind fun x4 => (gr h 12 v0 11).bind fun r5 => (ai h 0 r5 (50 : Int32)).bind fun x6 => (gr h 12 v0 11).bind fun r7 => (ai h 0 r7 (50 : Int32)).bind fun x8 => if ((50 : Int32) - x4) ≤ 0 then (f_X13_willDefault_68 rec v0 v2 v1 h) else (bT1 (f_X13_never v0 v2 h) fun x12 h10 => if x12 ≤ (((4 : Int32) * ((x6 / (4 : Int32)) + ((50 : Int32) - x4))) - x8) then (f_X13_willDefault_68 rec v0 v2 v1 h10) else (rec v0 (v1 ||| ((1 : Int32) <<< (v2 &&& 31))) (v2 + 1) h10)))
def f_X13_willDefault_L4 : Nat → Nat → Int32 → Int32 → AH → Option (Int32 × AH)
  | 0 => fun _ _ _ _ => none
  | n + 1 => F_X13_willDefault_L4 (f_X13_willDefault_L4 n)
set_option maxRecDepth 100000 in
set_option maxHeartbeats 4000000 in
theorem lx_X13_willDefault_L4 (X : SX) (d : Nat) : ∀ n (rv : Option Int32) (h' : AH), ∀ (v0 : Nat) (v1 : Int32) (v2 : Int32) (h : AH) (y1 : Int32) (h1 : AH), f_X13_willDefault_L4 n v0 v1 v2 h = some (y1, h1) → G X mX13_willDefault (d + 1) 77 [(1, .int y1)] [] h1 rv h' → G X mX13_willDefault (d + 1) 4 [(0, .ref v0), (1, .int v1), (2, .int v2)] [] h rv h' := by
  intro n
  induction n with
  | zero =>
    intro rv h' v0 v1 v2 h y1 h1 hf hE
    cases hf
  | succ n ihf =>
    intro rv h' v0 v1 v2 h y1 h1 hf hE
    replace hf : F_X13_willDefault_L4 (f_X13_willDefault_L4 n) v0 v1 v2 h = some (y1, h1) := hf
    unfold F_X13_willDefault_L4 at hf
    have ih := ihf rv h'
    refine G.iload_n dX13_willDefault_4 rfl ?_
    refine G.aload_n dX13_willDefault_5 rfl ?_
    refine G.geti flX13_75 dX13_willDefault_6 hf (fun x1 hf => ?_)
    refine G.icmp_ge 77 dX13_willDefault_9 (by decide) (fun c2 => ?_) (fun c2 => ?_)
    · rw [if_pos c2] at hf
      obtain ⟨u0, w1⟩ := Prod.mk.inj (Option.some.inj hf)
      subst u0
      subst w1
      exact G.pick [1] rfl hE
    · rw [if_neg c2] at hf
      refine G.bipush (v := (50 : Int32)) dX13_willDefault_12 (by decide) ?_
      refine G.aload_n dX13_willDefault_14 rfl ?_
      refine G.getr flX13_29 dX13_willDefault_15 hf (fun r3 hf => ?_)
      refine G.iconst (v := (0 : Int32)) dX13_willDefault_18 (by decide) ?_
      refine G.iload_n dX13_willDefault_19 rfl ?_
      refine G.iadd dX13_willDefault_20 ?_
      refine G.iald dX13_willDefault_21 hf (fun x4 hf => ?_)
      refine G.isub dX13_willDefault_22 ?_
      refine G.istore_n (lv' := [(3, .int ((50 : Int32) - x4)), (0, .ref v0), (1, .int v1), (2, .int v2)]) dX13_willDefault_23 (by decide) rfl ?_
      refine G.iconst (v := (4 : Int32)) dX13_willDefault_24 (by decide) ?_
      refine G.aload_n dX13_willDefault_25 rfl ?_
      refine G.getr flX13_29 dX13_willDefault_26 hf (fun r5 hf => ?_)
      refine G.bipush (v := (50 : Int32)) dX13_willDefault_29 (by decide) ?_
      refine G.iald dX13_willDefault_31 hf (fun x6 hf => ?_)
      refine G.iconst (v := (4 : Int32)) dX13_willDefault_32 (by decide) ?_
      refine G.idiv dX13_willDefault_33 (by decide) ?_
      refine G.iload_n dX13_willDefault_34 rfl ?_
      refine G.iadd dX13_willDefault_35 ?_
      refine G.imul dX13_willDefault_36 ?_
      refine G.aload_n dX13_willDefault_37 rfl ?_
      refine G.getr flX13_29 dX13_willDefault_38 hf (fun r7 hf => ?_)
      refine G.bipush (v := (50 : Int32)) dX13_willDefault_41 (by decide) ?_
      refine G.iald dX13_willDefault_43 hf (fun x8 hf => ?_)
      refine G.isub dX13_willDefault_44 ?_
      refine G.istore (lv' := [(4, .int (((4 : Int32) * ((x6 / (4 : Int32)) + ((50 : Int32) - x4))) - x8)), (3, .int ((50 : Int32) - x4)), (0, .ref v0), (1, .int v1), (2, .int v2)]) dX13_willDefault_45 (by decide) rfl ?_
      refine G.iload_n dX13_willDefault_47 rfl ?_
      refine G.iload_n dX13_willDefault_48 rfl ?_
      refine G.if_le 68 dX13_willDefault_49 (by decide) (fun c9 => ?_) (fun c9 => ?_)
      · rw [if_pos c9] at hf
        exact G.pick [2, 4] rfl (j_X13_willDefault_68 X d _ ihf v0 v2 v1 h _ _ hf _ _ hE)
      · rw [if_neg c9] at hf
        refine G.aload_n dX13_willDefault_52 rfl ?_
        refine G.iload_n dX13_willDefault_53 rfl ?_
        obtain ⟨x12, h10, e11, hf⟩ := bT1_spec hf
        refine G.callVi (M' := mX13_never) (ci := 12) (As := [.int v2]) (st := [.int v1]) okX13_never viX13_never lkX13_151 rfl rfl rfl (Nat.le_of_ble_eq_true rfl) (Nat.le_of_ble_eq_true rfl) dX13_willDefault_54 (c_X13_never X d _ _ _ _ _ e11).1 (c_X13_never X d _ _ _ _ _ e11).2 ?_
        refine G.iload dX13_willDefault_57 rfl ?_
        refine G.icmp_le 68 dX13_willDefault_59 (by decide) (fun c13 => ?_) (fun c13 => ?_)
        · rw [if_pos c13] at hf
          exact G.pick [2, 4] rfl (j_X13_willDefault_68 X d _ ihf v0 v2 v1 h10 _ _ hf _ _ hE)
        · rw [if_neg c13] at hf
          refine G.iconst (v := (1 : Int32)) dX13_willDefault_62 (by decide) ?_
          refine G.iload_n dX13_willDefault_63 rfl ?_
          refine G.ishl dX13_willDefault_64 ?_
          refine G.goto 69 dX13_willDefault_65 (by decide) ?_
          refine G.ior dX13_willDefault_69 ?_
          refine G.istore_n (lv' := [(1, .int (v1 ||| ((1 : Int32) <<< (v2 &&& 31)))), (4, .int (((4 : Int32) * ((x6 / (4 : Int32)) + ((50 : Int32) - x4))) - x8)), (3, .int ((50 : Int32) - x4)), (0, .ref v0), (2, .int v2)]) dX13_willDefault_70 (by decide) rfl ?_
          refine G.iinc (v := (v2 + 1)) (lv' := [(2, .int (v2 + 1)), (1, .int (v1 ||| ((1 : Int32) <<< (v2 &&& 31)))), (4, .int (((4 : Int32) * ((x6 / (4 : Int32)) + ((50 : Int32) - x4))) - x8)), (3, .int ((50 : Int32) - x4)), (0, .ref v0)]) dX13_willDefault_71 rfl rfl (by decide) rfl ?_
          refine G.goto 4 dX13_willDefault_74 (by decide) ?_
          exact G.pick [4, 1, 0] rfl (ih v0 (v1 ||| ((1 : Int32) <<< (v2 &&& 31))) (v2 + 1) h10 _ _ hf hE)
theorem l_X13_willDefault_L4 (X : SX) (d : Nat) (rv : Option Int32) (h' : AH) (n : Nat) : ∀ (v0 : Nat) (v1 : Int32) (v2 : Int32) (h : AH) (y1 : Int32) (h1 : AH), f_X13_willDefault_L4 n v0 v1 v2 h = some (y1, h1) → G X mX13_willDefault (d + 1) 77 [(1, .int y1)] [] h1 rv h' → G X mX13_willDefault (d + 1) 4 [(0, .ref v0), (1, .int v1), (2, .int v2)] [] h rv h' := lx_X13_willDefault_L4 X d n rv h'
def f_X13_willDefault (a0 : Nat) (h : AH) : Option (Int32 × AH) := if isO h 12 a0 = true then (bT1 (f_X13_willDefault_L4 1000000 a0 (0 : Int32) (0 : Int32) h) fun y3 h1 => some (y3, h1)) else none
set_option maxRecDepth 100000 in
set_option maxHeartbeats 4000000 in
theorem c_X13_willDefault (X : SX) (d : Nat) (a0 : Nat) (h : AH) (rr : Int32) (h' : AH) (hf : f_X13_willDefault a0 h = some (rr, h')) : isO h 12 a0 = true ∧ G X mX13_willDefault (d + 1) 0 [(0, .ref a0)] [] h (some rr) h' := by
  unfold f_X13_willDefault at hf
  by_cases ho : isO h 12 a0 = true
  · rw [if_pos ho] at hf
    refine ⟨ho, ?_⟩
    refine G.iconst (v := (0 : Int32)) dX13_willDefault_0 (by decide) ?_
    refine G.istore_n (lv' := [(1, .int (0 : Int32)), (0, .ref a0)]) dX13_willDefault_1 (by decide) rfl ?_
    refine G.iconst (v := (0 : Int32)) dX13_willDefault_2 (by decide) ?_
    refine G.istore_n (lv' := [(2, .int (0 : Int32)), (1, .int (0 : Int32)), (0, .ref a0)]) dX13_willDefault_3 (by decide) rfl ?_
    obtain ⟨y3, h1, e2, hf⟩ := bT1_spec hf
    refine G.pick [2, 1, 0] rfl (l_X13_willDefault_L4 X d _ _ 1000000 a0 (0 : Int32) (0 : Int32) h y3 h1 e2 ?_)
    refine G.iload_n dX13_willDefault_77 rfl ?_
    obtain ⟨hq1, hq2⟩ := Prod.mk.inj (Option.some.inj hf)
    subst hq1
    subst hq2
    exact G.iret rfl rfl dX13_willDefault_78
  · rw [if_neg ho] at hf
    cases hf
/-! X13_told -/
theorem dX13_told_0 : decode cX13_told 0 = .ok (.iload_n 1, 1) := by decide +kernel
theorem dX13_told_1 : decode cX13_told 1 = .ok (.tableswitch 198 0 18 #[91, 96, 101, 106, 111, 116, 124, 124, 130, 138, 146, 151, 156, 161, 166, 178, 183, 188, 193], 91) := by decide +kernel
theorem dX13_told_92 : decode cX13_told 92 = .ok (.aload_n 0, 1) := by decide +kernel
theorem dX13_told_93 : decode cX13_told 93 = .ok (.getfield 126, 3) := by decide +kernel
theorem dX13_told_96 : decode cX13_told 96 = .ok (.ireturn, 1) := by decide +kernel
theorem dX13_told_97 : decode cX13_told 97 = .ok (.aload_n 0, 1) := by decide +kernel
theorem dX13_told_98 : decode cX13_told 98 = .ok (.getfield 129, 3) := by decide +kernel
theorem dX13_told_101 : decode cX13_told 101 = .ok (.ireturn, 1) := by decide +kernel
theorem dX13_told_102 : decode cX13_told 102 = .ok (.aload_n 0, 1) := by decide +kernel
theorem dX13_told_103 : decode cX13_told 103 = .ok (.getfield 75, 3) := by decide +kernel
theorem dX13_told_106 : decode cX13_told 106 = .ok (.ireturn, 1) := by decide +kernel
theorem dX13_told_107 : decode cX13_told 107 = .ok (.aload_n 0, 1) := by decide +kernel
theorem dX13_told_108 : decode cX13_told 108 = .ok (.getfield 78, 3) := by decide +kernel
theorem dX13_told_111 : decode cX13_told 111 = .ok (.ireturn, 1) := by decide +kernel
theorem dX13_told_112 : decode cX13_told 112 = .ok (.aload_n 0, 1) := by decide +kernel
theorem dX13_told_113 : decode cX13_told 113 = .ok (.getfield 82, 3) := by decide +kernel
theorem dX13_told_116 : decode cX13_told 116 = .ok (.ireturn, 1) := by decide +kernel
theorem dX13_told_117 : decode cX13_told 117 = .ok (.aload_n 0, 1) := by decide +kernel
theorem dX13_told_118 : decode cX13_told 118 = .ok (.getfield 29, 3) := by decide +kernel
theorem dX13_told_121 : decode cX13_told 121 = .ok (.bipush 50, 2) := by decide +kernel
theorem dX13_told_123 : decode cX13_told 123 = .ok (.iaload, 1) := by decide +kernel
theorem dX13_told_124 : decode cX13_told 124 = .ok (.ireturn, 1) := by decide +kernel
theorem dX13_told_125 : decode cX13_told 125 = .ok (.aload_n 0, 1) := by decide +kernel
theorem dX13_told_126 : decode cX13_told 126 = .ok (.iload_n 1, 1) := by decide +kernel
theorem dX13_told_127 : decode cX13_told 127 = .ok (.invokevirtual 154, 3) := by decide +kernel
theorem dX13_told_130 : decode cX13_told 130 = .ok (.ireturn, 1) := by decide +kernel
theorem dX13_told_131 : decode cX13_told 131 = .ok (.aload_n 0, 1) := by decide +kernel
theorem dX13_told_132 : decode cX13_told 132 = .ok (.getfield 29, 3) := by decide +kernel
theorem dX13_told_135 : decode cX13_told 135 = .ok (.bipush 49, 2) := by decide +kernel
theorem dX13_told_137 : decode cX13_told 137 = .ok (.iaload, 1) := by decide +kernel
theorem dX13_told_138 : decode cX13_told 138 = .ok (.ireturn, 1) := by decide +kernel
theorem dX13_told_139 : decode cX13_told 139 = .ok (.aload_n 0, 1) := by decide +kernel
theorem dX13_told_140 : decode cX13_told 140 = .ok (.getfield 29, 3) := by decide +kernel
theorem dX13_told_143 : decode cX13_told 143 = .ok (.bipush 48, 2) := by decide +kernel
theorem dX13_told_145 : decode cX13_told 145 = .ok (.iaload, 1) := by decide +kernel
theorem dX13_told_146 : decode cX13_told 146 = .ok (.ireturn, 1) := by decide +kernel
theorem dX13_told_147 : decode cX13_told 147 = .ok (.aload_n 0, 1) := by decide +kernel
theorem dX13_told_148 : decode cX13_told 148 = .ok (.invokevirtual 157, 3) := by decide +kernel
theorem dX13_told_151 : decode cX13_told 151 = .ok (.ireturn, 1) := by decide +kernel
theorem dX13_told_152 : decode cX13_told 152 = .ok (.aload_n 0, 1) := by decide +kernel
theorem dX13_told_153 : decode cX13_told 153 = .ok (.invokevirtual 161, 3) := by decide +kernel
theorem dX13_told_156 : decode cX13_told 156 = .ok (.ireturn, 1) := by decide +kernel
theorem dX13_told_157 : decode cX13_told 157 = .ok (.aload_n 0, 1) := by decide +kernel
theorem dX13_told_158 : decode cX13_told 158 = .ok (.invokevirtual 164, 3) := by decide +kernel
theorem dX13_told_161 : decode cX13_told 161 = .ok (.ireturn, 1) := by decide +kernel
theorem dX13_told_162 : decode cX13_told 162 = .ok (.aload_n 0, 1) := by decide +kernel
theorem dX13_told_163 : decode cX13_told 163 = .ok (.invokevirtual 167, 3) := by decide +kernel
theorem dX13_told_166 : decode cX13_told 166 = .ok (.ireturn, 1) := by decide +kernel
theorem dX13_told_167 : decode cX13_told 167 = .ok (.aload_n 0, 1) := by decide +kernel
theorem dX13_told_168 : decode cX13_told 168 = .ok (.iconst 0, 1) := by decide +kernel
theorem dX13_told_169 : decode cX13_told 169 = .ok (.invokevirtual 170, 3) := by decide +kernel
theorem dX13_told_172 : decode cX13_told 172 = .ok (.aload_n 0, 1) := by decide +kernel
theorem dX13_told_173 : decode cX13_told 173 = .ok (.getfield 54, 3) := by decide +kernel
theorem dX13_told_176 : decode cX13_told 176 = .ok (.iconst 0, 1) := by decide +kernel
theorem dX13_told_177 : decode cX13_told 177 = .ok (.iaload, 1) := by decide +kernel
theorem dX13_told_178 : decode cX13_told 178 = .ok (.ireturn, 1) := by decide +kernel
theorem dX13_told_179 : decode cX13_told 179 = .ok (.aload_n 0, 1) := by decide +kernel
theorem dX13_told_180 : decode cX13_told 180 = .ok (.invokevirtual 173, 3) := by decide +kernel
theorem dX13_told_183 : decode cX13_told 183 = .ok (.ireturn, 1) := by decide +kernel
theorem dX13_told_184 : decode cX13_told 184 = .ok (.aload_n 0, 1) := by decide +kernel
theorem dX13_told_185 : decode cX13_told 185 = .ok (.getfield 132, 3) := by decide +kernel
theorem dX13_told_188 : decode cX13_told 188 = .ok (.ireturn, 1) := by decide +kernel
theorem dX13_told_189 : decode cX13_told 189 = .ok (.aload_n 0, 1) := by decide +kernel
theorem dX13_told_190 : decode cX13_told 190 = .ok (.getfield 135, 3) := by decide +kernel
theorem dX13_told_193 : decode cX13_told 193 = .ok (.ireturn, 1) := by decide +kernel
theorem dX13_told_194 : decode cX13_told 194 = .ok (.aload_n 0, 1) := by decide +kernel
theorem dX13_told_195 : decode cX13_told 195 = .ok (.getfield 138, 3) := by decide +kernel
theorem dX13_told_198 : decode cX13_told 198 = .ok (.ireturn, 1) := by decide +kernel
theorem dX13_told_199 : decode cX13_told 199 = .ok (.ldc 81, 2) := by decide +kernel
theorem dX13_told_201 : decode cX13_told 201 = .ok (.ireturn, 1) := by decide +kernel
def f_X13_told (a0 : Nat) (a1 : Int32) (h : AH) : Option (Int32 × AH) := if isO h 12 a0 = true then (if a1 = 0 then ((gi h 12 a0 3).bind fun x2 => some (x2, h)) else (if a1 = 1 then ((gi h 12 a0 4).bind fun x4 => some (x4, h)) else (if a1 = 2 then ((gi h 12 a0 5).bind fun x6 => some (x6, h)) else (if a1 = 3 then ((gi h 12 a0 6).bind fun x8 => some (x8, h)) else (if a1 = 4 then ((gi h 12 a0 1).bind fun x10 => some (x10, h)) else (if a1 = 5 then ((gr h 12 a0 11).bind fun r12 => (ai h 0 r12 (50 : Int32)).bind fun x13 => some (x13, h)) else (if a1 = 6 then (bT1 (f_X13_sets a0 a1 h) fun x17 h15 => some (x17, h15)) else (if a1 = 7 then (bT1 (f_X13_sets a0 a1 h) fun x21 h19 => some (x21, h19)) else (if a1 = 8 then ((gr h 12 a0 11).bind fun r23 => (ai h 0 r23 (49 : Int32)).bind fun x24 => some (x24, h)) else (if a1 = 9 then ((gr h 12 a0 11).bind fun r26 => (ai h 0 r26 (48 : Int32)).bind fun x27 => some (x27, h)) else (if a1 = 10 then (bT1 (f_X13_owedByAll a0 h) fun x31 h29 => some (x31, h29)) else (if a1 = 11 then (bT1 (f_X13_last a0 h) fun x35 h33 => some (x35, h33)) else (if a1 = 12 then (bT1 (f_X13_hardest a0 h) fun x39 h37 => some (x39, h37)) else (if a1 = 13 then (bT1 (f_X13_spread a0 h) fun x43 h41 => some (x43, h41)) else (if a1 = 14 then ((f_X13_plans a0 (0 : Int32) h).bind fun h45 => (gr h45 12 a0 29).bind fun r47 => (ai h45 0 r47 (0 : Int32)).bind fun x48 => some (x48, h45)) else (if a1 = 15 then (bT1 (f_X13_willDefault a0 h) fun x52 h50 => some (x52, h50)) else (if a1 = 16 then ((gi h 12 a0 19).bind fun x54 => some (x54, h)) else (if a1 = 17 then ((gi h 12 a0 21).bind fun x56 => some (x56, h)) else (if a1 = 18 then ((gi h 12 a0 13).bind fun x58 => some (x58, h)) else (some ((-1000000002 : Int32), h))))))))))))))))))))) else none
set_option maxRecDepth 100000 in
set_option maxHeartbeats 4000000 in
theorem c_X13_told (X : SX) (d : Nat) (a0 : Nat) (a1 : Int32) (h : AH) (rr : Int32) (h' : AH) (hf : f_X13_told a0 a1 h = some (rr, h')) : isO h 12 a0 = true ∧ G X mX13_told (d + 6) 0 [(0, .ref a0), (1, .int a1)] [] h (some rr) h' := by
  unfold f_X13_told at hf
  by_cases ho : isO h 12 a0 = true
  · rw [if_pos ho] at hf
    refine ⟨ho, ?_⟩
    refine G.iload_n dX13_told_0 rfl ?_
    by_cases c1 : a1 = 0
    · rw [if_pos c1] at hf
      refine G.tswIn 92 dX13_told_1 (by rw [c1]; decide) (by rw [c1]; decide) (by rw [c1]; rfl) (by decide) ?_
      refine G.aload_n dX13_told_92 rfl ?_
      refine G.geti flX13_126 dX13_told_93 hf (fun x2 hf => ?_)
      obtain ⟨hq1, hq2⟩ := Prod.mk.inj (Option.some.inj hf)
      subst hq1
      subst hq2
      exact G.iret rfl rfl dX13_told_96
    · rw [if_neg c1] at hf
      by_cases c3 : a1 = 1
      · rw [if_pos c3] at hf
        refine G.tswIn 97 dX13_told_1 (by rw [c3]; decide) (by rw [c3]; decide) (by rw [c3]; rfl) (by decide) ?_
        refine G.aload_n dX13_told_97 rfl ?_
        refine G.geti flX13_129 dX13_told_98 hf (fun x4 hf => ?_)
        obtain ⟨hq1, hq2⟩ := Prod.mk.inj (Option.some.inj hf)
        subst hq1
        subst hq2
        exact G.iret rfl rfl dX13_told_101
      · rw [if_neg c3] at hf
        by_cases c5 : a1 = 2
        · rw [if_pos c5] at hf
          refine G.tswIn 102 dX13_told_1 (by rw [c5]; decide) (by rw [c5]; decide) (by rw [c5]; rfl) (by decide) ?_
          refine G.aload_n dX13_told_102 rfl ?_
          refine G.geti flX13_75 dX13_told_103 hf (fun x6 hf => ?_)
          obtain ⟨hq1, hq2⟩ := Prod.mk.inj (Option.some.inj hf)
          subst hq1
          subst hq2
          exact G.iret rfl rfl dX13_told_106
        · rw [if_neg c5] at hf
          by_cases c7 : a1 = 3
          · rw [if_pos c7] at hf
            refine G.tswIn 107 dX13_told_1 (by rw [c7]; decide) (by rw [c7]; decide) (by rw [c7]; rfl) (by decide) ?_
            refine G.aload_n dX13_told_107 rfl ?_
            refine G.geti flX13_78 dX13_told_108 hf (fun x8 hf => ?_)
            obtain ⟨hq1, hq2⟩ := Prod.mk.inj (Option.some.inj hf)
            subst hq1
            subst hq2
            exact G.iret rfl rfl dX13_told_111
          · rw [if_neg c7] at hf
            by_cases c9 : a1 = 4
            · rw [if_pos c9] at hf
              refine G.tswIn 112 dX13_told_1 (by rw [c9]; decide) (by rw [c9]; decide) (by rw [c9]; rfl) (by decide) ?_
              refine G.aload_n dX13_told_112 rfl ?_
              refine G.geti flX13_82 dX13_told_113 hf (fun x10 hf => ?_)
              obtain ⟨hq1, hq2⟩ := Prod.mk.inj (Option.some.inj hf)
              subst hq1
              subst hq2
              exact G.iret rfl rfl dX13_told_116
            · rw [if_neg c9] at hf
              by_cases c11 : a1 = 5
              · rw [if_pos c11] at hf
                refine G.tswIn 117 dX13_told_1 (by rw [c11]; decide) (by rw [c11]; decide) (by rw [c11]; rfl) (by decide) ?_
                refine G.aload_n dX13_told_117 rfl ?_
                refine G.getr flX13_29 dX13_told_118 hf (fun r12 hf => ?_)
                refine G.bipush (v := (50 : Int32)) dX13_told_121 (by decide) ?_
                refine G.iald dX13_told_123 hf (fun x13 hf => ?_)
                obtain ⟨hq1, hq2⟩ := Prod.mk.inj (Option.some.inj hf)
                subst hq1
                subst hq2
                exact G.iret rfl rfl dX13_told_124
              · rw [if_neg c11] at hf
                by_cases c14 : a1 = 6
                · rw [if_pos c14] at hf
                  refine G.tswIn 125 dX13_told_1 (by rw [c14]; decide) (by rw [c14]; decide) (by rw [c14]; rfl) (by decide) ?_
                  refine G.aload_n dX13_told_125 rfl ?_
                  refine G.iload_n dX13_told_126 rfl ?_
                  obtain ⟨x17, h15, e16, hf⟩ := bT1_spec hf
                  refine G.callVi (M' := mX13_sets) (ci := 12) (As := [.int a1]) (st := []) okX13_sets viX13_sets lkX13_154 rfl rfl rfl (Nat.le_of_ble_eq_true rfl) (Nat.le_of_ble_eq_true rfl) dX13_told_127 (c_X13_sets X (d + 5) _ _ _ _ _ e16).1 (c_X13_sets X (d + 5) _ _ _ _ _ e16).2 ?_
                  obtain ⟨hq1, hq2⟩ := Prod.mk.inj (Option.some.inj hf)
                  subst hq1
                  subst hq2
                  exact G.iret rfl rfl dX13_told_130
                · rw [if_neg c14] at hf
                  by_cases c18 : a1 = 7
                  · rw [if_pos c18] at hf
                    refine G.tswIn 125 dX13_told_1 (by rw [c18]; decide) (by rw [c18]; decide) (by rw [c18]; rfl) (by decide) ?_
                    refine G.aload_n dX13_told_125 rfl ?_
                    refine G.iload_n dX13_told_126 rfl ?_
                    obtain ⟨x21, h19, e20, hf⟩ := bT1_spec hf
                    refine G.callVi (M' := mX13_sets) (ci := 12) (As := [.int a1]) (st := []) okX13_sets viX13_sets lkX13_154 rfl rfl rfl (Nat.le_of_ble_eq_true rfl) (Nat.le_of_ble_eq_true rfl) dX13_told_127 (c_X13_sets X (d + 5) _ _ _ _ _ e20).1 (c_X13_sets X (d + 5) _ _ _ _ _ e20).2 ?_
                    obtain ⟨hq1, hq2⟩ := Prod.mk.inj (Option.some.inj hf)
                    subst hq1
                    subst hq2
                    exact G.iret rfl rfl dX13_told_130
                  · rw [if_neg c18] at hf
                    by_cases c22 : a1 = 8
                    · rw [if_pos c22] at hf
                      refine G.tswIn 131 dX13_told_1 (by rw [c22]; decide) (by rw [c22]; decide) (by rw [c22]; rfl) (by decide) ?_
                      refine G.aload_n dX13_told_131 rfl ?_
                      refine G.getr flX13_29 dX13_told_132 hf (fun r23 hf => ?_)
                      refine G.bipush (v := (49 : Int32)) dX13_told_135 (by decide) ?_
                      refine G.iald dX13_told_137 hf (fun x24 hf => ?_)
                      obtain ⟨hq1, hq2⟩ := Prod.mk.inj (Option.some.inj hf)
                      subst hq1
                      subst hq2
                      exact G.iret rfl rfl dX13_told_138
                    · rw [if_neg c22] at hf
                      by_cases c25 : a1 = 9
                      · rw [if_pos c25] at hf
                        refine G.tswIn 139 dX13_told_1 (by rw [c25]; decide) (by rw [c25]; decide) (by rw [c25]; rfl) (by decide) ?_
                        refine G.aload_n dX13_told_139 rfl ?_
                        refine G.getr flX13_29 dX13_told_140 hf (fun r26 hf => ?_)
                        refine G.bipush (v := (48 : Int32)) dX13_told_143 (by decide) ?_
                        refine G.iald dX13_told_145 hf (fun x27 hf => ?_)
                        obtain ⟨hq1, hq2⟩ := Prod.mk.inj (Option.some.inj hf)
                        subst hq1
                        subst hq2
                        exact G.iret rfl rfl dX13_told_146
                      · rw [if_neg c25] at hf
                        by_cases c28 : a1 = 10
                        · rw [if_pos c28] at hf
                          refine G.tswIn 147 dX13_told_1 (by rw [c28]; decide) (by rw [c28]; decide) (by rw [c28]; rfl) (by decide) ?_
                          refine G.aload_n dX13_told_147 rfl ?_
                          obtain ⟨x31, h29, e30, hf⟩ := bT1_spec hf
                          refine G.callVi (M' := mX13_owedByAll) (ci := 12) (As := []) (st := []) okX13_owedByAll viX13_owedByAll lkX13_157 rfl rfl rfl (Nat.le_of_ble_eq_true rfl) (Nat.le_of_ble_eq_true rfl) dX13_told_148 (c_X13_owedByAll X (d + 5) _ _ _ _ e30).1 (c_X13_owedByAll X (d + 5) _ _ _ _ e30).2 ?_
                          obtain ⟨hq1, hq2⟩ := Prod.mk.inj (Option.some.inj hf)
                          subst hq1
                          subst hq2
                          exact G.iret rfl rfl dX13_told_151
                        · rw [if_neg c28] at hf
                          by_cases c32 : a1 = 11
                          · rw [if_pos c32] at hf
                            refine G.tswIn 152 dX13_told_1 (by rw [c32]; decide) (by rw [c32]; decide) (by rw [c32]; rfl) (by decide) ?_
                            refine G.aload_n dX13_told_152 rfl ?_
                            obtain ⟨x35, h33, e34, hf⟩ := bT1_spec hf
                            refine G.callVi (M' := mX13_last) (ci := 12) (As := []) (st := []) okX13_last viX13_last lkX13_161 rfl rfl rfl (Nat.le_of_ble_eq_true rfl) (Nat.le_of_ble_eq_true rfl) dX13_told_153 (c_X13_last X (d + 4) _ _ _ _ e34).1 (c_X13_last X (d + 4) _ _ _ _ e34).2 ?_
                            obtain ⟨hq1, hq2⟩ := Prod.mk.inj (Option.some.inj hf)
                            subst hq1
                            subst hq2
                            exact G.iret rfl rfl dX13_told_156
                          · rw [if_neg c32] at hf
                            by_cases c36 : a1 = 12
                            · rw [if_pos c36] at hf
                              refine G.tswIn 157 dX13_told_1 (by rw [c36]; decide) (by rw [c36]; decide) (by rw [c36]; rfl) (by decide) ?_
                              refine G.aload_n dX13_told_157 rfl ?_
                              obtain ⟨x39, h37, e38, hf⟩ := bT1_spec hf
                              refine G.callVi (M' := mX13_hardest) (ci := 12) (As := []) (st := []) okX13_hardest viX13_hardest lkX13_164 rfl rfl rfl (Nat.le_of_ble_eq_true rfl) (Nat.le_of_ble_eq_true rfl) dX13_told_158 (c_X13_hardest X (d + 3) _ _ _ _ e38).1 (c_X13_hardest X (d + 3) _ _ _ _ e38).2 ?_
                              obtain ⟨hq1, hq2⟩ := Prod.mk.inj (Option.some.inj hf)
                              subst hq1
                              subst hq2
                              exact G.iret rfl rfl dX13_told_161
                            · rw [if_neg c36] at hf
                              by_cases c40 : a1 = 13
                              · rw [if_pos c40] at hf
                                refine G.tswIn 162 dX13_told_1 (by rw [c40]; decide) (by rw [c40]; decide) (by rw [c40]; rfl) (by decide) ?_
                                refine G.aload_n dX13_told_162 rfl ?_
                                obtain ⟨x43, h41, e42, hf⟩ := bT1_spec hf
                                refine G.callVi (M' := mX13_spread) (ci := 12) (As := []) (st := []) okX13_spread viX13_spread lkX13_167 rfl rfl rfl (Nat.le_of_ble_eq_true rfl) (Nat.le_of_ble_eq_true rfl) dX13_told_163 (c_X13_spread X (d + 4) _ _ _ _ e42).1 (c_X13_spread X (d + 4) _ _ _ _ e42).2 ?_
                                obtain ⟨hq1, hq2⟩ := Prod.mk.inj (Option.some.inj hf)
                                subst hq1
                                subst hq2
                                exact G.iret rfl rfl dX13_told_166
                              · rw [if_neg c40] at hf
                                by_cases c44 : a1 = 14
                                · rw [if_pos c44] at hf
                                  refine G.tswIn 167 dX13_told_1 (by rw [c44]; decide) (by rw [c44]; decide) (by rw [c44]; rfl) (by decide) ?_
                                  refine G.aload_n dX13_told_167 rfl ?_
                                  refine G.iconst (v := (0 : Int32)) dX13_told_168 (by decide) ?_
                                  obtain ⟨h45, e46, hf⟩ := Option.bind_eq_some_iff.mp hf
                                  refine G.callVv (M' := mX13_plans) (ci := 12) (As := [.int (0 : Int32)]) (st := []) okX13_plans viX13_plans lkX13_170 rfl rfl rfl (Nat.le_of_ble_eq_true rfl) (Nat.le_of_ble_eq_true rfl) dX13_told_169 (c_X13_plans X d _ _ _ _ e46).1 (c_X13_plans X d _ _ _ _ e46).2 ?_
                                  refine G.aload_n dX13_told_172 rfl ?_
                                  refine G.getr flX13_54 dX13_told_173 hf (fun r47 hf => ?_)
                                  refine G.iconst (v := (0 : Int32)) dX13_told_176 (by decide) ?_
                                  refine G.iald dX13_told_177 hf (fun x48 hf => ?_)
                                  obtain ⟨hq1, hq2⟩ := Prod.mk.inj (Option.some.inj hf)
                                  subst hq1
                                  subst hq2
                                  exact G.iret rfl rfl dX13_told_178
                                · rw [if_neg c44] at hf
                                  by_cases c49 : a1 = 15
                                  · rw [if_pos c49] at hf
                                    refine G.tswIn 179 dX13_told_1 (by rw [c49]; decide) (by rw [c49]; decide) (by rw [c49]; rfl) (by decide) ?_
                                    refine G.aload_n dX13_told_179 rfl ?_
                                    obtain ⟨x52, h50, e51, hf⟩ := bT1_spec hf
                                    refine G.callVi (M' := mX13_willDefault) (ci := 12) (As := []) (st := []) okX13_willDefault viX13_willDefault lkX13_173 rfl rfl rfl (Nat.le_of_ble_eq_true rfl) (Nat.le_of_ble_eq_true rfl) dX13_told_180 (c_X13_willDefault X (d + 4) _ _ _ _ e51).1 (c_X13_willDefault X (d + 4) _ _ _ _ e51).2 ?_
                                    obtain ⟨hq1, hq2⟩ := Prod.mk.inj (Option.some.inj hf)
                                    subst hq1
                                    subst hq2
                                    exact G.iret rfl rfl dX13_told_183
                                  · rw [if_neg c49] at hf
                                    by_cases c53 : a1 = 16
                                    · rw [if_pos c53] at hf
                                      refine G.tswIn 184 dX13_told_1 (by rw [c53]; decide) (by rw [c53]; decide) (by rw [c53]; rfl) (by decide) ?_
                                      refine G.aload_n dX13_told_184 rfl ?_
                                      refine G.geti flX13_132 dX13_told_185 hf (fun x54 hf => ?_)
                                      obtain ⟨hq1, hq2⟩ := Prod.mk.inj (Option.some.inj hf)
                                      subst hq1
                                      subst hq2
                                      exact G.iret rfl rfl dX13_told_188
                                    · rw [if_neg c53] at hf
                                      by_cases c55 : a1 = 17
                                      · rw [if_pos c55] at hf
                                        refine G.tswIn 189 dX13_told_1 (by rw [c55]; decide) (by rw [c55]; decide) (by rw [c55]; rfl) (by decide) ?_
                                        refine G.aload_n dX13_told_189 rfl ?_
                                        refine G.geti flX13_135 dX13_told_190 hf (fun x56 hf => ?_)
                                        obtain ⟨hq1, hq2⟩ := Prod.mk.inj (Option.some.inj hf)
                                        subst hq1
                                        subst hq2
                                        exact G.iret rfl rfl dX13_told_193
                                      · rw [if_neg c55] at hf
                                        by_cases c57 : a1 = 18
                                        · rw [if_pos c57] at hf
                                          refine G.tswIn 194 dX13_told_1 (by rw [c57]; decide) (by rw [c57]; decide) (by rw [c57]; rfl) (by decide) ?_
                                          refine G.aload_n dX13_told_194 rfl ?_
                                          refine G.geti flX13_138 dX13_told_195 hf (fun x58 hf => ?_)
                                          obtain ⟨hq1, hq2⟩ := Prod.mk.inj (Option.some.inj hf)
                                          subst hq1
                                          subst hq2
                                          exact G.iret rfl rfl dX13_told_198
                                        · rw [if_neg c57] at hf
                                          have nc1 := lv_neT c1 (a := 0) (by decide)
                                          have nc3 := lv_neT c3 (a := 1) (by decide)
                                          have nc5 := lv_neT c5 (a := 2) (by decide)
                                          have nc7 := lv_neT c7 (a := 3) (by decide)
                                          have nc9 := lv_neT c9 (a := 4) (by decide)
                                          have nc11 := lv_neT c11 (a := 5) (by decide)
                                          have nc14 := lv_neT c14 (a := 6) (by decide)
                                          have nc18 := lv_neT c18 (a := 7) (by decide)
                                          have nc22 := lv_neT c22 (a := 8) (by decide)
                                          have nc25 := lv_neT c25 (a := 9) (by decide)
                                          have nc28 := lv_neT c28 (a := 10) (by decide)
                                          have nc32 := lv_neT c32 (a := 11) (by decide)
                                          have nc36 := lv_neT c36 (a := 12) (by decide)
                                          have nc40 := lv_neT c40 (a := 13) (by decide)
                                          have nc44 := lv_neT c44 (a := 14) (by decide)
                                          have nc49 := lv_neT c49 (a := 15) (by decide)
                                          have nc53 := lv_neT c53 (a := 16) (by decide)
                                          have nc55 := lv_neT c55 (a := 17) (by decide)
                                          have nc57 := lv_neT c57 (a := 18) (by decide)
                                          refine G.tswOut 199 dX13_told_1 (by omega) (by decide) ?_
                                          refine G.ldc ckX13_81 dX13_told_199 ?_
                                          obtain ⟨hq1, hq2⟩ := Prod.mk.inj (Option.some.inj hf)
                                          subst hq1
                                          subst hq2
                                          exact G.iret rfl rfl dX13_told_201
  · rw [if_neg ho] at hf
    cases hf
/-! X3_hasSinger -/
theorem dX3_hasSinger_0 : decode cX3_hasSinger 0 = .ok (.iload_n 1, 1) := by decide +kernel
theorem dX3_hasSinger_1 : decode cX3_hasSinger 1 = .ok (.ifCond .lt 18, 3) := by decide +kernel
theorem dX3_hasSinger_4 : decode cX3_hasSinger 4 = .ok (.iload_n 1, 1) := by decide +kernel
theorem dX3_hasSinger_5 : decode cX3_hasSinger 5 = .ok (.aload_n 0, 1) := by decide +kernel
theorem dX3_hasSinger_6 : decode cX3_hasSinger 6 = .ok (.getfield 21, 3) := by decide +kernel
theorem dX3_hasSinger_9 : decode cX3_hasSinger 9 = .ok (.getfield 35, 3) := by decide +kernel
theorem dX3_hasSinger_12 : decode cX3_hasSinger 12 = .ok (.if_icmp .ge 7, 3) := by decide +kernel
theorem dX3_hasSinger_15 : decode cX3_hasSinger 15 = .ok (.iconst 1, 1) := by decide +kernel
theorem dX3_hasSinger_16 : decode cX3_hasSinger 16 = .ok (.goto 4, 3) := by decide +kernel
theorem dX3_hasSinger_19 : decode cX3_hasSinger 19 = .ok (.iconst 0, 1) := by decide +kernel
theorem dX3_hasSinger_20 : decode cX3_hasSinger 20 = .ok (.ireturn, 1) := by decide +kernel
def f_X3_hasSinger (a0 : Nat) (a1 : Int32) (h : AH) : Option (Int32 × AH) := if isO h 3 a0 = true then (if a1 < 0 then (some ((0 : Int32), h)) else ((gr h 3 a0 1).bind fun r2 => (gi h 9 r2 9).bind fun x3 => if x3 ≤ a1 then (some ((0 : Int32), h)) else (some ((1 : Int32), h)))) else none
set_option maxRecDepth 100000 in
set_option maxHeartbeats 4000000 in
theorem c_X3_hasSinger (X : SX) (d : Nat) (a0 : Nat) (a1 : Int32) (h : AH) (rr : Int32) (h' : AH) (hf : f_X3_hasSinger a0 a1 h = some (rr, h')) : isO h 3 a0 = true ∧ G X mX3_hasSinger d 0 [(0, .ref a0), (1, .int a1)] [] h (some rr) h' := by
  unfold f_X3_hasSinger at hf
  by_cases ho : isO h 3 a0 = true
  · rw [if_pos ho] at hf
    refine ⟨ho, ?_⟩
    refine G.iload_n dX3_hasSinger_0 rfl ?_
    refine G.if_lt 19 dX3_hasSinger_1 (by decide) (fun c1 => ?_) (fun c1 => ?_)
    · rw [if_pos c1] at hf
      refine G.iconst (v := (0 : Int32)) dX3_hasSinger_19 (by decide) ?_
      obtain ⟨hq1, hq2⟩ := Prod.mk.inj (Option.some.inj hf)
      subst hq1
      subst hq2
      exact G.iret rfl (by decide) dX3_hasSinger_20
    · rw [if_neg c1] at hf
      refine G.iload_n dX3_hasSinger_4 rfl ?_
      refine G.aload_n dX3_hasSinger_5 rfl ?_
      refine G.getr flX3_21 dX3_hasSinger_6 hf (fun r2 hf => ?_)
      refine G.geti flX3_35 dX3_hasSinger_9 hf (fun x3 hf => ?_)
      refine G.icmp_ge 19 dX3_hasSinger_12 (by decide) (fun c4 => ?_) (fun c4 => ?_)
      · rw [if_pos c4] at hf
        refine G.iconst (v := (0 : Int32)) dX3_hasSinger_19 (by decide) ?_
        obtain ⟨hq1, hq2⟩ := Prod.mk.inj (Option.some.inj hf)
        subst hq1
        subst hq2
        exact G.iret rfl (by decide) dX3_hasSinger_20
      · rw [if_neg c4] at hf
        refine G.iconst (v := (1 : Int32)) dX3_hasSinger_15 (by decide) ?_
        refine G.goto 20 dX3_hasSinger_16 (by decide) ?_
        obtain ⟨hq1, hq2⟩ := Prod.mk.inj (Option.some.inj hf)
        subst hq1
        subst hq2
        exact G.iret rfl (by decide) dX3_hasSinger_20
  · rw [if_neg ho] at hf
    cases hf
/-! X12_singer -/
theorem dX12_singer_0 : decode cX12_singer 0 = .ok (.aload_n 0, 1) := by decide +kernel
theorem dX12_singer_1 : decode cX12_singer 1 = .ok (.getfield 19, 3) := by decide +kernel
theorem dX12_singer_4 : decode cX12_singer 4 = .ok (.iload_n 1, 1) := by decide +kernel
theorem dX12_singer_5 : decode cX12_singer 5 = .ok (.invokevirtual 166, 3) := by decide +kernel
theorem dX12_singer_8 : decode cX12_singer 8 = .ok (.ifCond .ne 6, 3) := by decide +kernel
theorem dX12_singer_11 : decode cX12_singer 11 = .ok (.ldc 170, 2) := by decide +kernel
theorem dX12_singer_13 : decode cX12_singer 13 = .ok (.ireturn, 1) := by decide +kernel
theorem dX12_singer_14 : decode cX12_singer 14 = .ok (.iload_n 2, 1) := by decide +kernel
theorem dX12_singer_15 : decode cX12_singer 15 = .ok (.tableswitch 128 0 6 #[41, 54, 67, 80, 93, 106, 119], 41) := by decide +kernel
theorem dX12_singer_56 : decode cX12_singer 56 = .ok (.aload_n 0, 1) := by decide +kernel
theorem dX12_singer_57 : decode cX12_singer 57 = .ok (.getfield 19, 3) := by decide +kernel
theorem dX12_singer_60 : decode cX12_singer 60 = .ok (.getfield 86, 3) := by decide +kernel
theorem dX12_singer_63 : decode cX12_singer 63 = .ok (.getfield 171, 3) := by decide +kernel
theorem dX12_singer_66 : decode cX12_singer 66 = .ok (.iload_n 1, 1) := by decide +kernel
theorem dX12_singer_67 : decode cX12_singer 67 = .ok (.iaload, 1) := by decide +kernel
theorem dX12_singer_68 : decode cX12_singer 68 = .ok (.ireturn, 1) := by decide +kernel
theorem dX12_singer_69 : decode cX12_singer 69 = .ok (.aload_n 0, 1) := by decide +kernel
theorem dX12_singer_70 : decode cX12_singer 70 = .ok (.getfield 19, 3) := by decide +kernel
theorem dX12_singer_73 : decode cX12_singer 73 = .ok (.getfield 119, 3) := by decide +kernel
theorem dX12_singer_76 : decode cX12_singer 76 = .ok (.getfield 175, 3) := by decide +kernel
theorem dX12_singer_79 : decode cX12_singer 79 = .ok (.iload_n 1, 1) := by decide +kernel
theorem dX12_singer_80 : decode cX12_singer 80 = .ok (.iaload, 1) := by decide +kernel
theorem dX12_singer_81 : decode cX12_singer 81 = .ok (.ireturn, 1) := by decide +kernel
theorem dX12_singer_82 : decode cX12_singer 82 = .ok (.aload_n 0, 1) := by decide +kernel
theorem dX12_singer_83 : decode cX12_singer 83 = .ok (.getfield 19, 3) := by decide +kernel
theorem dX12_singer_86 : decode cX12_singer 86 = .ok (.getfield 119, 3) := by decide +kernel
theorem dX12_singer_89 : decode cX12_singer 89 = .ok (.getfield 178, 3) := by decide +kernel
theorem dX12_singer_92 : decode cX12_singer 92 = .ok (.iload_n 1, 1) := by decide +kernel
theorem dX12_singer_93 : decode cX12_singer 93 = .ok (.iaload, 1) := by decide +kernel
theorem dX12_singer_94 : decode cX12_singer 94 = .ok (.ireturn, 1) := by decide +kernel
theorem dX12_singer_95 : decode cX12_singer 95 = .ok (.aload_n 0, 1) := by decide +kernel
theorem dX12_singer_96 : decode cX12_singer 96 = .ok (.getfield 19, 3) := by decide +kernel
theorem dX12_singer_99 : decode cX12_singer 99 = .ok (.getfield 119, 3) := by decide +kernel
theorem dX12_singer_102 : decode cX12_singer 102 = .ok (.getfield 181, 3) := by decide +kernel
theorem dX12_singer_105 : decode cX12_singer 105 = .ok (.iload_n 1, 1) := by decide +kernel
theorem dX12_singer_106 : decode cX12_singer 106 = .ok (.iaload, 1) := by decide +kernel
theorem dX12_singer_107 : decode cX12_singer 107 = .ok (.ireturn, 1) := by decide +kernel
theorem dX12_singer_108 : decode cX12_singer 108 = .ok (.aload_n 0, 1) := by decide +kernel
theorem dX12_singer_109 : decode cX12_singer 109 = .ok (.getfield 19, 3) := by decide +kernel
theorem dX12_singer_112 : decode cX12_singer 112 = .ok (.getfield 119, 3) := by decide +kernel
theorem dX12_singer_115 : decode cX12_singer 115 = .ok (.getfield 184, 3) := by decide +kernel
theorem dX12_singer_118 : decode cX12_singer 118 = .ok (.iload_n 1, 1) := by decide +kernel
theorem dX12_singer_119 : decode cX12_singer 119 = .ok (.iaload, 1) := by decide +kernel
theorem dX12_singer_120 : decode cX12_singer 120 = .ok (.ireturn, 1) := by decide +kernel
theorem dX12_singer_121 : decode cX12_singer 121 = .ok (.aload_n 0, 1) := by decide +kernel
theorem dX12_singer_122 : decode cX12_singer 122 = .ok (.getfield 19, 3) := by decide +kernel
theorem dX12_singer_125 : decode cX12_singer 125 = .ok (.getfield 86, 3) := by decide +kernel
theorem dX12_singer_128 : decode cX12_singer 128 = .ok (.getfield 186, 3) := by decide +kernel
theorem dX12_singer_131 : decode cX12_singer 131 = .ok (.iload_n 1, 1) := by decide +kernel
theorem dX12_singer_132 : decode cX12_singer 132 = .ok (.iaload, 1) := by decide +kernel
theorem dX12_singer_133 : decode cX12_singer 133 = .ok (.ireturn, 1) := by decide +kernel
theorem dX12_singer_134 : decode cX12_singer 134 = .ok (.aload_n 0, 1) := by decide +kernel
theorem dX12_singer_135 : decode cX12_singer 135 = .ok (.getfield 19, 3) := by decide +kernel
theorem dX12_singer_138 : decode cX12_singer 138 = .ok (.iload_n 1, 1) := by decide +kernel
theorem dX12_singer_139 : decode cX12_singer 139 = .ok (.invokestatic 189, 3) := by decide +kernel
theorem dX12_singer_142 : decode cX12_singer 142 = .ok (.ireturn, 1) := by decide +kernel
theorem dX12_singer_143 : decode cX12_singer 143 = .ok (.ldc 72, 2) := by decide +kernel
theorem dX12_singer_145 : decode cX12_singer 145 = .ok (.ireturn, 1) := by decide +kernel
def f_X12_singer (a0 : Nat) (a1 : Int32) (a2 : Int32) (h : AH) : Option (Int32 × AH) := if isO h 11 a0 = true then ((gr h 11 a0 1).bind fun r1 => bT1 (f_X3_hasSinger r1 a1 h) fun x4 h2 => if x4 = 0 then (some ((-1000000001 : Int32), h2)) else (if a2 = 0 then ((gr h2 11 a0 1).bind fun r7 => (gr h2 3 r7 1).bind fun r8 => (gr h2 9 r8 0).bind fun r9 => (ai h2 0 r9 a1).bind fun x10 => some (x10, h2)) else (if a2 = 1 then ((gr h2 11 a0 1).bind fun r12 => (gr h2 3 r12 0).bind fun r13 => (gr h2 4 r13 0).bind fun r14 => (ai h2 0 r14 a1).bind fun x15 => some (x15, h2)) else (if a2 = 2 then ((gr h2 11 a0 1).bind fun r17 => (gr h2 3 r17 0).bind fun r18 => (gr h2 4 r18 1).bind fun r19 => (ai h2 0 r19 a1).bind fun x20 => some (x20, h2)) else (if a2 = 3 then ((gr h2 11 a0 1).bind fun r22 => (gr h2 3 r22 0).bind fun r23 => (gr h2 4 r23 2).bind fun r24 => (ai h2 0 r24 a1).bind fun x25 => some (x25, h2)) else (if a2 = 4 then ((gr h2 11 a0 1).bind fun r27 => (gr h2 3 r27 0).bind fun r28 => (gr h2 4 r28 3).bind fun r29 => (ai h2 0 r29 a1).bind fun x30 => some (x30, h2)) else (if a2 = 5 then ((gr h2 11 a0 1).bind fun r32 => (gr h2 3 r32 1).bind fun r33 => (gr h2 9 r33 3).bind fun r34 => (ai h2 0 r34 a1).bind fun x35 => some (x35, h2)) else (if a2 = 6 then ((gr h2 11 a0 1).bind fun r37 => bT1 (f_X5_eveningsTillFree r37 a1 h2) fun x40 h38 => some (x40, h38)) else (some ((-1000000002 : Int32), h2)))))))))) else none
set_option maxRecDepth 100000 in
set_option maxHeartbeats 4000000 in
theorem c_X12_singer (X : SX) (d : Nat) (a0 : Nat) (a1 : Int32) (a2 : Int32) (h : AH) (rr : Int32) (h' : AH) (hf : f_X12_singer a0 a1 a2 h = some (rr, h')) : isO h 11 a0 = true ∧ G X mX12_singer (d + 2) 0 [(0, .ref a0), (1, .int a1), (2, .int a2)] [] h (some rr) h' := by
  unfold f_X12_singer at hf
  by_cases ho : isO h 11 a0 = true
  · rw [if_pos ho] at hf
    refine ⟨ho, ?_⟩
    refine G.aload_n dX12_singer_0 rfl ?_
    refine G.getr flX12_19 dX12_singer_1 hf (fun r1 hf => ?_)
    refine G.iload_n dX12_singer_4 rfl ?_
    obtain ⟨x4, h2, e3, hf⟩ := bT1_spec hf
    refine G.callVi (M' := mX3_hasSinger) (ci := 3) (As := [.int a1]) (st := []) okX3_hasSinger viX3_hasSinger lkX12_166 rfl rfl rfl (Nat.le_of_ble_eq_true rfl) (Nat.le_of_ble_eq_true rfl) dX12_singer_5 (c_X3_hasSinger X (d + 1) _ _ _ _ _ e3).1 (c_X3_hasSinger X (d + 1) _ _ _ _ _ e3).2 ?_
    refine G.if_ne 14 dX12_singer_8 (by decide) (fun c5 => ?_) (fun c5 => ?_)
    · rw [if_neg c5] at hf
      refine G.iload_n dX12_singer_14 rfl ?_
      by_cases c6 : a2 = 0
      · rw [if_pos c6] at hf
        refine G.tswIn 56 dX12_singer_15 (by rw [c6]; decide) (by rw [c6]; decide) (by rw [c6]; rfl) (by decide) ?_
        refine G.aload_n dX12_singer_56 rfl ?_
        refine G.getr flX12_19 dX12_singer_57 hf (fun r7 hf => ?_)
        refine G.getr flX12_86 dX12_singer_60 hf (fun r8 hf => ?_)
        refine G.getr flX12_171 dX12_singer_63 hf (fun r9 hf => ?_)
        refine G.iload_n dX12_singer_66 rfl ?_
        refine G.iald dX12_singer_67 hf (fun x10 hf => ?_)
        obtain ⟨hq1, hq2⟩ := Prod.mk.inj (Option.some.inj hf)
        subst hq1
        subst hq2
        exact G.iret rfl rfl dX12_singer_68
      · rw [if_neg c6] at hf
        by_cases c11 : a2 = 1
        · rw [if_pos c11] at hf
          refine G.tswIn 69 dX12_singer_15 (by rw [c11]; decide) (by rw [c11]; decide) (by rw [c11]; rfl) (by decide) ?_
          refine G.aload_n dX12_singer_69 rfl ?_
          refine G.getr flX12_19 dX12_singer_70 hf (fun r12 hf => ?_)
          refine G.getr flX12_119 dX12_singer_73 hf (fun r13 hf => ?_)
          refine G.getr flX12_175 dX12_singer_76 hf (fun r14 hf => ?_)
          refine G.iload_n dX12_singer_79 rfl ?_
          refine G.iald dX12_singer_80 hf (fun x15 hf => ?_)
          obtain ⟨hq1, hq2⟩ := Prod.mk.inj (Option.some.inj hf)
          subst hq1
          subst hq2
          exact G.iret rfl rfl dX12_singer_81
        · rw [if_neg c11] at hf
          by_cases c16 : a2 = 2
          · rw [if_pos c16] at hf
            refine G.tswIn 82 dX12_singer_15 (by rw [c16]; decide) (by rw [c16]; decide) (by rw [c16]; rfl) (by decide) ?_
            refine G.aload_n dX12_singer_82 rfl ?_
            refine G.getr flX12_19 dX12_singer_83 hf (fun r17 hf => ?_)
            refine G.getr flX12_119 dX12_singer_86 hf (fun r18 hf => ?_)
            refine G.getr flX12_178 dX12_singer_89 hf (fun r19 hf => ?_)
            refine G.iload_n dX12_singer_92 rfl ?_
            refine G.iald dX12_singer_93 hf (fun x20 hf => ?_)
            obtain ⟨hq1, hq2⟩ := Prod.mk.inj (Option.some.inj hf)
            subst hq1
            subst hq2
            exact G.iret rfl rfl dX12_singer_94
          · rw [if_neg c16] at hf
            by_cases c21 : a2 = 3
            · rw [if_pos c21] at hf
              refine G.tswIn 95 dX12_singer_15 (by rw [c21]; decide) (by rw [c21]; decide) (by rw [c21]; rfl) (by decide) ?_
              refine G.aload_n dX12_singer_95 rfl ?_
              refine G.getr flX12_19 dX12_singer_96 hf (fun r22 hf => ?_)
              refine G.getr flX12_119 dX12_singer_99 hf (fun r23 hf => ?_)
              refine G.getr flX12_181 dX12_singer_102 hf (fun r24 hf => ?_)
              refine G.iload_n dX12_singer_105 rfl ?_
              refine G.iald dX12_singer_106 hf (fun x25 hf => ?_)
              obtain ⟨hq1, hq2⟩ := Prod.mk.inj (Option.some.inj hf)
              subst hq1
              subst hq2
              exact G.iret rfl rfl dX12_singer_107
            · rw [if_neg c21] at hf
              by_cases c26 : a2 = 4
              · rw [if_pos c26] at hf
                refine G.tswIn 108 dX12_singer_15 (by rw [c26]; decide) (by rw [c26]; decide) (by rw [c26]; rfl) (by decide) ?_
                refine G.aload_n dX12_singer_108 rfl ?_
                refine G.getr flX12_19 dX12_singer_109 hf (fun r27 hf => ?_)
                refine G.getr flX12_119 dX12_singer_112 hf (fun r28 hf => ?_)
                refine G.getr flX12_184 dX12_singer_115 hf (fun r29 hf => ?_)
                refine G.iload_n dX12_singer_118 rfl ?_
                refine G.iald dX12_singer_119 hf (fun x30 hf => ?_)
                obtain ⟨hq1, hq2⟩ := Prod.mk.inj (Option.some.inj hf)
                subst hq1
                subst hq2
                exact G.iret rfl rfl dX12_singer_120
              · rw [if_neg c26] at hf
                by_cases c31 : a2 = 5
                · rw [if_pos c31] at hf
                  refine G.tswIn 121 dX12_singer_15 (by rw [c31]; decide) (by rw [c31]; decide) (by rw [c31]; rfl) (by decide) ?_
                  refine G.aload_n dX12_singer_121 rfl ?_
                  refine G.getr flX12_19 dX12_singer_122 hf (fun r32 hf => ?_)
                  refine G.getr flX12_86 dX12_singer_125 hf (fun r33 hf => ?_)
                  refine G.getr flX12_186 dX12_singer_128 hf (fun r34 hf => ?_)
                  refine G.iload_n dX12_singer_131 rfl ?_
                  refine G.iald dX12_singer_132 hf (fun x35 hf => ?_)
                  obtain ⟨hq1, hq2⟩ := Prod.mk.inj (Option.some.inj hf)
                  subst hq1
                  subst hq2
                  exact G.iret rfl rfl dX12_singer_133
                · rw [if_neg c31] at hf
                  by_cases c36 : a2 = 6
                  · rw [if_pos c36] at hf
                    refine G.tswIn 134 dX12_singer_15 (by rw [c36]; decide) (by rw [c36]; decide) (by rw [c36]; rfl) (by decide) ?_
                    refine G.aload_n dX12_singer_134 rfl ?_
                    refine G.getr flX12_19 dX12_singer_135 hf (fun r37 hf => ?_)
                    refine G.iload_n dX12_singer_138 rfl ?_
                    obtain ⟨x40, h38, e39, hf⟩ := bT1_spec hf
                    refine G.callSi (M' := mX5_eveningsTillFree) (As := [.ref r37, .int a1]) (st := []) okX5_eveningsTillFree vsX5_eveningsTillFree lkX12_189 rfl (Nat.le_of_ble_eq_true rfl) (Nat.le_of_ble_eq_true rfl) dX12_singer_139 (c_X5_eveningsTillFree X d _ _ _ _ _ e39) ?_
                    obtain ⟨hq1, hq2⟩ := Prod.mk.inj (Option.some.inj hf)
                    subst hq1
                    subst hq2
                    exact G.iret rfl rfl dX12_singer_142
                  · rw [if_neg c36] at hf
                    have nc6 := lv_neT c6 (a := 0) (by decide)
                    have nc11 := lv_neT c11 (a := 1) (by decide)
                    have nc16 := lv_neT c16 (a := 2) (by decide)
                    have nc21 := lv_neT c21 (a := 3) (by decide)
                    have nc26 := lv_neT c26 (a := 4) (by decide)
                    have nc31 := lv_neT c31 (a := 5) (by decide)
                    have nc36 := lv_neT c36 (a := 6) (by decide)
                    refine G.tswOut 143 dX12_singer_15 (by omega) (by decide) ?_
                    refine G.ldc ckX12_72 dX12_singer_143 ?_
                    obtain ⟨hq1, hq2⟩ := Prod.mk.inj (Option.some.inj hf)
                    subst hq1
                    subst hq2
                    exact G.iret rfl rfl dX12_singer_145
    · rw [if_pos c5] at hf
      refine G.ldc ckX12_170 dX12_singer_11 ?_
      obtain ⟨hq1, hq2⟩ := Prod.mk.inj (Option.some.inj hf)
      subst hq1
      subst hq2
      exact G.iret rfl rfl dX12_singer_13
  · rw [if_neg ho] at hf
    cases hf
/-! X13_singer -/
theorem dX13_singer_0 : decode cX13_singer 0 = .ok (.aload_n 0, 1) := by decide +kernel
theorem dX13_singer_1 : decode cX13_singer 1 = .ok (.iload_n 1, 1) := by decide +kernel
theorem dX13_singer_2 : decode cX13_singer 2 = .ok (.invokevirtual 176, 3) := by decide +kernel
theorem dX13_singer_5 : decode cX13_singer 5 = .ok (.ifCond .ne 6, 3) := by decide +kernel
theorem dX13_singer_8 : decode cX13_singer 8 = .ok (.ldc 180, 2) := by decide +kernel
theorem dX13_singer_10 : decode cX13_singer 10 = .ok (.ireturn, 1) := by decide +kernel
theorem dX13_singer_11 : decode cX13_singer 11 = .ok (.iload_n 2, 1) := by decide +kernel
theorem dX13_singer_12 : decode cX13_singer 12 = .ok (.tableswitch 103 0 6 #[44, 51, 60, 70, 80, 90, 97], 44) := by decide +kernel
theorem dX13_singer_56 : decode cX13_singer 56 = .ok (.aload_n 0, 1) := by decide +kernel
theorem dX13_singer_57 : decode cX13_singer 57 = .ok (.getfield 17, 3) := by decide +kernel
theorem dX13_singer_60 : decode cX13_singer 60 = .ok (.iload_n 1, 1) := by decide +kernel
theorem dX13_singer_61 : decode cX13_singer 61 = .ok (.iaload, 1) := by decide +kernel
theorem dX13_singer_62 : decode cX13_singer 62 = .ok (.ireturn, 1) := by decide +kernel
theorem dX13_singer_63 : decode cX13_singer 63 = .ok (.aload_n 0, 1) := by decide +kernel
theorem dX13_singer_64 : decode cX13_singer 64 = .ok (.getfield 29, 3) := by decide +kernel
theorem dX13_singer_67 : decode cX13_singer 67 = .ok (.iconst 0, 1) := by decide +kernel
theorem dX13_singer_68 : decode cX13_singer 68 = .ok (.iload_n 1, 1) := by decide +kernel
theorem dX13_singer_69 : decode cX13_singer 69 = .ok (.iadd, 1) := by decide +kernel
theorem dX13_singer_70 : decode cX13_singer 70 = .ok (.iaload, 1) := by decide +kernel
theorem dX13_singer_71 : decode cX13_singer 71 = .ok (.ireturn, 1) := by decide +kernel
theorem dX13_singer_72 : decode cX13_singer 72 = .ok (.aload_n 0, 1) := by decide +kernel
theorem dX13_singer_73 : decode cX13_singer 73 = .ok (.getfield 29, 3) := by decide +kernel
theorem dX13_singer_76 : decode cX13_singer 76 = .ok (.bipush 6, 2) := by decide +kernel
theorem dX13_singer_78 : decode cX13_singer 78 = .ok (.iload_n 1, 1) := by decide +kernel
theorem dX13_singer_79 : decode cX13_singer 79 = .ok (.iadd, 1) := by decide +kernel
theorem dX13_singer_80 : decode cX13_singer 80 = .ok (.iaload, 1) := by decide +kernel
theorem dX13_singer_81 : decode cX13_singer 81 = .ok (.ireturn, 1) := by decide +kernel
theorem dX13_singer_82 : decode cX13_singer 82 = .ok (.aload_n 0, 1) := by decide +kernel
theorem dX13_singer_83 : decode cX13_singer 83 = .ok (.getfield 29, 3) := by decide +kernel
theorem dX13_singer_86 : decode cX13_singer 86 = .ok (.bipush 12, 2) := by decide +kernel
theorem dX13_singer_88 : decode cX13_singer 88 = .ok (.iload_n 1, 1) := by decide +kernel
theorem dX13_singer_89 : decode cX13_singer 89 = .ok (.iadd, 1) := by decide +kernel
theorem dX13_singer_90 : decode cX13_singer 90 = .ok (.iaload, 1) := by decide +kernel
theorem dX13_singer_91 : decode cX13_singer 91 = .ok (.ireturn, 1) := by decide +kernel
theorem dX13_singer_92 : decode cX13_singer 92 = .ok (.aload_n 0, 1) := by decide +kernel
theorem dX13_singer_93 : decode cX13_singer 93 = .ok (.getfield 29, 3) := by decide +kernel
theorem dX13_singer_96 : decode cX13_singer 96 = .ok (.bipush 18, 2) := by decide +kernel
theorem dX13_singer_98 : decode cX13_singer 98 = .ok (.iload_n 1, 1) := by decide +kernel
theorem dX13_singer_99 : decode cX13_singer 99 = .ok (.iadd, 1) := by decide +kernel
theorem dX13_singer_100 : decode cX13_singer 100 = .ok (.iaload, 1) := by decide +kernel
theorem dX13_singer_101 : decode cX13_singer 101 = .ok (.ireturn, 1) := by decide +kernel
theorem dX13_singer_102 : decode cX13_singer 102 = .ok (.aload_n 0, 1) := by decide +kernel
theorem dX13_singer_103 : decode cX13_singer 103 = .ok (.getfield 20, 3) := by decide +kernel
theorem dX13_singer_106 : decode cX13_singer 106 = .ok (.iload_n 1, 1) := by decide +kernel
theorem dX13_singer_107 : decode cX13_singer 107 = .ok (.iaload, 1) := by decide +kernel
theorem dX13_singer_108 : decode cX13_singer 108 = .ok (.ireturn, 1) := by decide +kernel
theorem dX13_singer_109 : decode cX13_singer 109 = .ok (.aload_n 0, 1) := by decide +kernel
theorem dX13_singer_110 : decode cX13_singer 110 = .ok (.iload_n 1, 1) := by decide +kernel
theorem dX13_singer_111 : decode cX13_singer 111 = .ok (.invokevirtual 151, 3) := by decide +kernel
theorem dX13_singer_114 : decode cX13_singer 114 = .ok (.ireturn, 1) := by decide +kernel
theorem dX13_singer_115 : decode cX13_singer 115 = .ok (.ldc 81, 2) := by decide +kernel
theorem dX13_singer_117 : decode cX13_singer 117 = .ok (.ireturn, 1) := by decide +kernel
def f_X13_singer (a0 : Nat) (a1 : Int32) (a2 : Int32) (h : AH) : Option (Int32 × AH) := if isO h 12 a0 = true then (bT1 (f_X13_isSinger a0 a1 h) fun x3 h1 => if x3 = 0 then (some ((-1000000001 : Int32), h1)) else (if a2 = 0 then ((gr h1 12 a0 7).bind fun r6 => (ai h1 0 r6 a1).bind fun x7 => some (x7, h1)) else (if a2 = 1 then ((gr h1 12 a0 11).bind fun r9 => (ai h1 0 r9 ((0 : Int32) + a1)).bind fun x10 => some (x10, h1)) else (if a2 = 2 then ((gr h1 12 a0 11).bind fun r12 => (ai h1 0 r12 ((6 : Int32) + a1)).bind fun x13 => some (x13, h1)) else (if a2 = 3 then ((gr h1 12 a0 11).bind fun r15 => (ai h1 0 r15 ((12 : Int32) + a1)).bind fun x16 => some (x16, h1)) else (if a2 = 4 then ((gr h1 12 a0 11).bind fun r18 => (ai h1 0 r18 ((18 : Int32) + a1)).bind fun x19 => some (x19, h1)) else (if a2 = 5 then ((gr h1 12 a0 8).bind fun r21 => (ai h1 0 r21 a1).bind fun x22 => some (x22, h1)) else (if a2 = 6 then (bT1 (f_X13_never a0 a1 h1) fun x26 h24 => some (x26, h24)) else (some ((-1000000002 : Int32), h1)))))))))) else none
set_option maxRecDepth 100000 in
set_option maxHeartbeats 4000000 in
theorem c_X13_singer (X : SX) (d : Nat) (a0 : Nat) (a1 : Int32) (a2 : Int32) (h : AH) (rr : Int32) (h' : AH) (hf : f_X13_singer a0 a1 a2 h = some (rr, h')) : isO h 12 a0 = true ∧ G X mX13_singer (d + 1) 0 [(0, .ref a0), (1, .int a1), (2, .int a2)] [] h (some rr) h' := by
  unfold f_X13_singer at hf
  by_cases ho : isO h 12 a0 = true
  · rw [if_pos ho] at hf
    refine ⟨ho, ?_⟩
    refine G.aload_n dX13_singer_0 rfl ?_
    refine G.iload_n dX13_singer_1 rfl ?_
    obtain ⟨x3, h1, e2, hf⟩ := bT1_spec hf
    refine G.callVi (M' := mX13_isSinger) (ci := 12) (As := [.int a1]) (st := []) okX13_isSinger viX13_isSinger lkX13_176 rfl rfl rfl (Nat.le_of_ble_eq_true rfl) (Nat.le_of_ble_eq_true rfl) dX13_singer_2 (c_X13_isSinger X d _ _ _ _ _ e2).1 (c_X13_isSinger X d _ _ _ _ _ e2).2 ?_
    refine G.if_ne 11 dX13_singer_5 (by decide) (fun c4 => ?_) (fun c4 => ?_)
    · rw [if_neg c4] at hf
      refine G.iload_n dX13_singer_11 rfl ?_
      by_cases c5 : a2 = 0
      · rw [if_pos c5] at hf
        refine G.tswIn 56 dX13_singer_12 (by rw [c5]; decide) (by rw [c5]; decide) (by rw [c5]; rfl) (by decide) ?_
        refine G.aload_n dX13_singer_56 rfl ?_
        refine G.getr flX13_17 dX13_singer_57 hf (fun r6 hf => ?_)
        refine G.iload_n dX13_singer_60 rfl ?_
        refine G.iald dX13_singer_61 hf (fun x7 hf => ?_)
        obtain ⟨hq1, hq2⟩ := Prod.mk.inj (Option.some.inj hf)
        subst hq1
        subst hq2
        exact G.iret rfl rfl dX13_singer_62
      · rw [if_neg c5] at hf
        by_cases c8 : a2 = 1
        · rw [if_pos c8] at hf
          refine G.tswIn 63 dX13_singer_12 (by rw [c8]; decide) (by rw [c8]; decide) (by rw [c8]; rfl) (by decide) ?_
          refine G.aload_n dX13_singer_63 rfl ?_
          refine G.getr flX13_29 dX13_singer_64 hf (fun r9 hf => ?_)
          refine G.iconst (v := (0 : Int32)) dX13_singer_67 (by decide) ?_
          refine G.iload_n dX13_singer_68 rfl ?_
          refine G.iadd dX13_singer_69 ?_
          refine G.iald dX13_singer_70 hf (fun x10 hf => ?_)
          obtain ⟨hq1, hq2⟩ := Prod.mk.inj (Option.some.inj hf)
          subst hq1
          subst hq2
          exact G.iret rfl rfl dX13_singer_71
        · rw [if_neg c8] at hf
          by_cases c11 : a2 = 2
          · rw [if_pos c11] at hf
            refine G.tswIn 72 dX13_singer_12 (by rw [c11]; decide) (by rw [c11]; decide) (by rw [c11]; rfl) (by decide) ?_
            refine G.aload_n dX13_singer_72 rfl ?_
            refine G.getr flX13_29 dX13_singer_73 hf (fun r12 hf => ?_)
            refine G.bipush (v := (6 : Int32)) dX13_singer_76 (by decide) ?_
            refine G.iload_n dX13_singer_78 rfl ?_
            refine G.iadd dX13_singer_79 ?_
            refine G.iald dX13_singer_80 hf (fun x13 hf => ?_)
            obtain ⟨hq1, hq2⟩ := Prod.mk.inj (Option.some.inj hf)
            subst hq1
            subst hq2
            exact G.iret rfl rfl dX13_singer_81
          · rw [if_neg c11] at hf
            by_cases c14 : a2 = 3
            · rw [if_pos c14] at hf
              refine G.tswIn 82 dX13_singer_12 (by rw [c14]; decide) (by rw [c14]; decide) (by rw [c14]; rfl) (by decide) ?_
              refine G.aload_n dX13_singer_82 rfl ?_
              refine G.getr flX13_29 dX13_singer_83 hf (fun r15 hf => ?_)
              refine G.bipush (v := (12 : Int32)) dX13_singer_86 (by decide) ?_
              refine G.iload_n dX13_singer_88 rfl ?_
              refine G.iadd dX13_singer_89 ?_
              refine G.iald dX13_singer_90 hf (fun x16 hf => ?_)
              obtain ⟨hq1, hq2⟩ := Prod.mk.inj (Option.some.inj hf)
              subst hq1
              subst hq2
              exact G.iret rfl rfl dX13_singer_91
            · rw [if_neg c14] at hf
              by_cases c17 : a2 = 4
              · rw [if_pos c17] at hf
                refine G.tswIn 92 dX13_singer_12 (by rw [c17]; decide) (by rw [c17]; decide) (by rw [c17]; rfl) (by decide) ?_
                refine G.aload_n dX13_singer_92 rfl ?_
                refine G.getr flX13_29 dX13_singer_93 hf (fun r18 hf => ?_)
                refine G.bipush (v := (18 : Int32)) dX13_singer_96 (by decide) ?_
                refine G.iload_n dX13_singer_98 rfl ?_
                refine G.iadd dX13_singer_99 ?_
                refine G.iald dX13_singer_100 hf (fun x19 hf => ?_)
                obtain ⟨hq1, hq2⟩ := Prod.mk.inj (Option.some.inj hf)
                subst hq1
                subst hq2
                exact G.iret rfl rfl dX13_singer_101
              · rw [if_neg c17] at hf
                by_cases c20 : a2 = 5
                · rw [if_pos c20] at hf
                  refine G.tswIn 102 dX13_singer_12 (by rw [c20]; decide) (by rw [c20]; decide) (by rw [c20]; rfl) (by decide) ?_
                  refine G.aload_n dX13_singer_102 rfl ?_
                  refine G.getr flX13_20 dX13_singer_103 hf (fun r21 hf => ?_)
                  refine G.iload_n dX13_singer_106 rfl ?_
                  refine G.iald dX13_singer_107 hf (fun x22 hf => ?_)
                  obtain ⟨hq1, hq2⟩ := Prod.mk.inj (Option.some.inj hf)
                  subst hq1
                  subst hq2
                  exact G.iret rfl rfl dX13_singer_108
                · rw [if_neg c20] at hf
                  by_cases c23 : a2 = 6
                  · rw [if_pos c23] at hf
                    refine G.tswIn 109 dX13_singer_12 (by rw [c23]; decide) (by rw [c23]; decide) (by rw [c23]; rfl) (by decide) ?_
                    refine G.aload_n dX13_singer_109 rfl ?_
                    refine G.iload_n dX13_singer_110 rfl ?_
                    obtain ⟨x26, h24, e25, hf⟩ := bT1_spec hf
                    refine G.callVi (M' := mX13_never) (ci := 12) (As := [.int a1]) (st := []) okX13_never viX13_never lkX13_151 rfl rfl rfl (Nat.le_of_ble_eq_true rfl) (Nat.le_of_ble_eq_true rfl) dX13_singer_111 (c_X13_never X d _ _ _ _ _ e25).1 (c_X13_never X d _ _ _ _ _ e25).2 ?_
                    obtain ⟨hq1, hq2⟩ := Prod.mk.inj (Option.some.inj hf)
                    subst hq1
                    subst hq2
                    exact G.iret rfl rfl dX13_singer_114
                  · rw [if_neg c23] at hf
                    have nc5 := lv_neT c5 (a := 0) (by decide)
                    have nc8 := lv_neT c8 (a := 1) (by decide)
                    have nc11 := lv_neT c11 (a := 2) (by decide)
                    have nc14 := lv_neT c14 (a := 3) (by decide)
                    have nc17 := lv_neT c17 (a := 4) (by decide)
                    have nc20 := lv_neT c20 (a := 5) (by decide)
                    have nc23 := lv_neT c23 (a := 6) (by decide)
                    refine G.tswOut 115 dX13_singer_12 (by omega) (by decide) ?_
                    refine G.ldc ckX13_81 dX13_singer_115 ?_
                    obtain ⟨hq1, hq2⟩ := Prod.mk.inj (Option.some.inj hf)
                    subst hq1
                    subst hq2
                    exact G.iret rfl rfl dX13_singer_117
    · rw [if_pos c4] at hf
      refine G.ldc ckX13_180 dX13_singer_8 ?_
      obtain ⟨hq1, hq2⟩ := Prod.mk.inj (Option.some.inj hf)
      subst hq1
      subst hq2
      exact G.iret rfl rfl dX13_singer_10
  · rw [if_neg ho] at hf
    cases hf
/-! X3_hasChild -/
theorem dX3_hasChild_0 : decode cX3_hasChild 0 = .ok (.iload_n 1, 1) := by decide +kernel
theorem dX3_hasChild_1 : decode cX3_hasChild 1 = .ok (.ifCond .lt 18, 3) := by decide +kernel
theorem dX3_hasChild_4 : decode cX3_hasChild 4 = .ok (.iload_n 1, 1) := by decide +kernel
theorem dX3_hasChild_5 : decode cX3_hasChild 5 = .ok (.aload_n 0, 1) := by decide +kernel
theorem dX3_hasChild_6 : decode cX3_hasChild 6 = .ok (.getfield 21, 3) := by decide +kernel
theorem dX3_hasChild_9 : decode cX3_hasChild 9 = .ok (.getfield 49, 3) := by decide +kernel
theorem dX3_hasChild_12 : decode cX3_hasChild 12 = .ok (.if_icmp .ge 7, 3) := by decide +kernel
theorem dX3_hasChild_15 : decode cX3_hasChild 15 = .ok (.iconst 1, 1) := by decide +kernel
theorem dX3_hasChild_16 : decode cX3_hasChild 16 = .ok (.goto 4, 3) := by decide +kernel
theorem dX3_hasChild_19 : decode cX3_hasChild 19 = .ok (.iconst 0, 1) := by decide +kernel
theorem dX3_hasChild_20 : decode cX3_hasChild 20 = .ok (.ireturn, 1) := by decide +kernel
def f_X3_hasChild (a0 : Nat) (a1 : Int32) (h : AH) : Option (Int32 × AH) := if isO h 3 a0 = true then (if a1 < 0 then (some ((0 : Int32), h)) else ((gr h 3 a0 1).bind fun r2 => (gi h 9 r2 10).bind fun x3 => if x3 ≤ a1 then (some ((0 : Int32), h)) else (some ((1 : Int32), h)))) else none
set_option maxRecDepth 100000 in
set_option maxHeartbeats 4000000 in
theorem c_X3_hasChild (X : SX) (d : Nat) (a0 : Nat) (a1 : Int32) (h : AH) (rr : Int32) (h' : AH) (hf : f_X3_hasChild a0 a1 h = some (rr, h')) : isO h 3 a0 = true ∧ G X mX3_hasChild d 0 [(0, .ref a0), (1, .int a1)] [] h (some rr) h' := by
  unfold f_X3_hasChild at hf
  by_cases ho : isO h 3 a0 = true
  · rw [if_pos ho] at hf
    refine ⟨ho, ?_⟩
    refine G.iload_n dX3_hasChild_0 rfl ?_
    refine G.if_lt 19 dX3_hasChild_1 (by decide) (fun c1 => ?_) (fun c1 => ?_)
    · rw [if_pos c1] at hf
      refine G.iconst (v := (0 : Int32)) dX3_hasChild_19 (by decide) ?_
      obtain ⟨hq1, hq2⟩ := Prod.mk.inj (Option.some.inj hf)
      subst hq1
      subst hq2
      exact G.iret rfl (by decide) dX3_hasChild_20
    · rw [if_neg c1] at hf
      refine G.iload_n dX3_hasChild_4 rfl ?_
      refine G.aload_n dX3_hasChild_5 rfl ?_
      refine G.getr flX3_21 dX3_hasChild_6 hf (fun r2 hf => ?_)
      refine G.geti flX3_49 dX3_hasChild_9 hf (fun x3 hf => ?_)
      refine G.icmp_ge 19 dX3_hasChild_12 (by decide) (fun c4 => ?_) (fun c4 => ?_)
      · rw [if_pos c4] at hf
        refine G.iconst (v := (0 : Int32)) dX3_hasChild_19 (by decide) ?_
        obtain ⟨hq1, hq2⟩ := Prod.mk.inj (Option.some.inj hf)
        subst hq1
        subst hq2
        exact G.iret rfl (by decide) dX3_hasChild_20
      · rw [if_neg c4] at hf
        refine G.iconst (v := (1 : Int32)) dX3_hasChild_15 (by decide) ?_
        refine G.goto 20 dX3_hasChild_16 (by decide) ?_
        obtain ⟨hq1, hq2⟩ := Prod.mk.inj (Option.some.inj hf)
        subst hq1
        subst hq2
        exact G.iret rfl (by decide) dX3_hasChild_20
  · rw [if_neg ho] at hf
    cases hf
/-! X12_child -/
theorem dX12_child_0 : decode cX12_child 0 = .ok (.aload_n 0, 1) := by decide +kernel
theorem dX12_child_1 : decode cX12_child 1 = .ok (.getfield 19, 3) := by decide +kernel
theorem dX12_child_4 : decode cX12_child 4 = .ok (.iload_n 1, 1) := by decide +kernel
theorem dX12_child_5 : decode cX12_child 5 = .ok (.invokevirtual 193, 3) := by decide +kernel
theorem dX12_child_8 : decode cX12_child 8 = .ok (.ifCond .ne 6, 3) := by decide +kernel
theorem dX12_child_11 : decode cX12_child 11 = .ok (.ldc 170, 2) := by decide +kernel
theorem dX12_child_13 : decode cX12_child 13 = .ok (.ireturn, 1) := by decide +kernel
theorem dX12_child_14 : decode cX12_child 14 = .ok (.iload_n 2, 1) := by decide +kernel
theorem dX12_child_15 : decode cX12_child 15 = .ok (.tableswitch 132 0 6 #[41, 54, 67, 80, 97, 110, 123], 41) := by decide +kernel
theorem dX12_child_56 : decode cX12_child 56 = .ok (.aload_n 0, 1) := by decide +kernel
theorem dX12_child_57 : decode cX12_child 57 = .ok (.getfield 19, 3) := by decide +kernel
theorem dX12_child_60 : decode cX12_child 60 = .ok (.getfield 86, 3) := by decide +kernel
theorem dX12_child_63 : decode cX12_child 63 = .ok (.getfield 196, 3) := by decide +kernel
theorem dX12_child_66 : decode cX12_child 66 = .ok (.iload_n 1, 1) := by decide +kernel
theorem dX12_child_67 : decode cX12_child 67 = .ok (.iaload, 1) := by decide +kernel
theorem dX12_child_68 : decode cX12_child 68 = .ok (.ireturn, 1) := by decide +kernel
theorem dX12_child_69 : decode cX12_child 69 = .ok (.aload_n 0, 1) := by decide +kernel
theorem dX12_child_70 : decode cX12_child 70 = .ok (.getfield 19, 3) := by decide +kernel
theorem dX12_child_73 : decode cX12_child 73 = .ok (.getfield 86, 3) := by decide +kernel
theorem dX12_child_76 : decode cX12_child 76 = .ok (.getfield 199, 3) := by decide +kernel
theorem dX12_child_79 : decode cX12_child 79 = .ok (.iload_n 1, 1) := by decide +kernel
theorem dX12_child_80 : decode cX12_child 80 = .ok (.iaload, 1) := by decide +kernel
theorem dX12_child_81 : decode cX12_child 81 = .ok (.ireturn, 1) := by decide +kernel
theorem dX12_child_82 : decode cX12_child 82 = .ok (.aload_n 0, 1) := by decide +kernel
theorem dX12_child_83 : decode cX12_child 83 = .ok (.getfield 19, 3) := by decide +kernel
theorem dX12_child_86 : decode cX12_child 86 = .ok (.getfield 119, 3) := by decide +kernel
theorem dX12_child_89 : decode cX12_child 89 = .ok (.getfield 202, 3) := by decide +kernel
theorem dX12_child_92 : decode cX12_child 92 = .ok (.iload_n 1, 1) := by decide +kernel
theorem dX12_child_93 : decode cX12_child 93 = .ok (.iaload, 1) := by decide +kernel
theorem dX12_child_94 : decode cX12_child 94 = .ok (.ireturn, 1) := by decide +kernel
theorem dX12_child_95 : decode cX12_child 95 = .ok (.aload_n 0, 1) := by decide +kernel
theorem dX12_child_96 : decode cX12_child 96 = .ok (.getfield 19, 3) := by decide +kernel
theorem dX12_child_99 : decode cX12_child 99 = .ok (.iload_n 1, 1) := by decide +kernel
theorem dX12_child_100 : decode cX12_child 100 = .ok (.invokevirtual 205, 3) := by decide +kernel
theorem dX12_child_103 : decode cX12_child 103 = .ok (.ifCond .eq 7, 3) := by decide +kernel
theorem dX12_child_106 : decode cX12_child 106 = .ok (.iconst 1, 1) := by decide +kernel
theorem dX12_child_107 : decode cX12_child 107 = .ok (.goto 4, 3) := by decide +kernel
theorem dX12_child_110 : decode cX12_child 110 = .ok (.iconst 0, 1) := by decide +kernel
theorem dX12_child_111 : decode cX12_child 111 = .ok (.ireturn, 1) := by decide +kernel
theorem dX12_child_112 : decode cX12_child 112 = .ok (.aload_n 0, 1) := by decide +kernel
theorem dX12_child_113 : decode cX12_child 113 = .ok (.getfield 19, 3) := by decide +kernel
theorem dX12_child_116 : decode cX12_child 116 = .ok (.getfield 119, 3) := by decide +kernel
theorem dX12_child_119 : decode cX12_child 119 = .ok (.getfield 208, 3) := by decide +kernel
theorem dX12_child_122 : decode cX12_child 122 = .ok (.iload_n 1, 1) := by decide +kernel
theorem dX12_child_123 : decode cX12_child 123 = .ok (.iaload, 1) := by decide +kernel
theorem dX12_child_124 : decode cX12_child 124 = .ok (.ireturn, 1) := by decide +kernel
theorem dX12_child_125 : decode cX12_child 125 = .ok (.aload_n 0, 1) := by decide +kernel
theorem dX12_child_126 : decode cX12_child 126 = .ok (.getfield 19, 3) := by decide +kernel
theorem dX12_child_129 : decode cX12_child 129 = .ok (.getfield 119, 3) := by decide +kernel
theorem dX12_child_132 : decode cX12_child 132 = .ok (.getfield 211, 3) := by decide +kernel
theorem dX12_child_135 : decode cX12_child 135 = .ok (.iload_n 1, 1) := by decide +kernel
theorem dX12_child_136 : decode cX12_child 136 = .ok (.iaload, 1) := by decide +kernel
theorem dX12_child_137 : decode cX12_child 137 = .ok (.ireturn, 1) := by decide +kernel
theorem dX12_child_138 : decode cX12_child 138 = .ok (.aload_n 0, 1) := by decide +kernel
theorem dX12_child_139 : decode cX12_child 139 = .ok (.getfield 19, 3) := by decide +kernel
theorem dX12_child_142 : decode cX12_child 142 = .ok (.iload_n 1, 1) := by decide +kernel
theorem dX12_child_143 : decode cX12_child 143 = .ok (.invokevirtual 214, 3) := by decide +kernel
theorem dX12_child_146 : decode cX12_child 146 = .ok (.ireturn, 1) := by decide +kernel
theorem dX12_child_147 : decode cX12_child 147 = .ok (.ldc 72, 2) := by decide +kernel
theorem dX12_child_149 : decode cX12_child 149 = .ok (.ireturn, 1) := by decide +kernel
def f_X12_child (a0 : Nat) (a1 : Int32) (a2 : Int32) (h : AH) : Option (Int32 × AH) := if isO h 11 a0 = true then ((gr h 11 a0 1).bind fun r1 => bT1 (f_X3_hasChild r1 a1 h) fun x4 h2 => if x4 = 0 then (some ((-1000000001 : Int32), h2)) else (if a2 = 0 then ((gr h2 11 a0 1).bind fun r7 => (gr h2 3 r7 1).bind fun r8 => (gr h2 9 r8 4).bind fun r9 => (ai h2 0 r9 a1).bind fun x10 => some (x10, h2)) else (if a2 = 1 then ((gr h2 11 a0 1).bind fun r12 => (gr h2 3 r12 1).bind fun r13 => (gr h2 9 r13 5).bind fun r14 => (ai h2 0 r14 a1).bind fun x15 => some (x15, h2)) else (if a2 = 2 then ((gr h2 11 a0 1).bind fun r17 => (gr h2 3 r17 0).bind fun r18 => (gr h2 4 r18 4).bind fun r19 => (ai h2 0 r19 a1).bind fun x20 => some (x20, h2)) else (if a2 = 3 then ((gr h2 11 a0 1).bind fun r22 => bT1 (f_X3_isAwake r22 a1 h2) fun x25 h23 => if x25 = 0 then (some ((0 : Int32), h23)) else (some ((1 : Int32), h23))) else (if a2 = 4 then ((gr h2 11 a0 1).bind fun r28 => (gr h2 3 r28 0).bind fun r29 => (gr h2 4 r29 5).bind fun r30 => (ai h2 0 r30 a1).bind fun x31 => some (x31, h2)) else (if a2 = 5 then ((gr h2 11 a0 1).bind fun r33 => (gr h2 3 r33 0).bind fun r34 => (gr h2 4 r34 6).bind fun r35 => (ai h2 0 r35 a1).bind fun x36 => some (x36, h2)) else (if a2 = 6 then ((gr h2 11 a0 1).bind fun r38 => bT1 (f_X3_needsOf r38 a1 h2) fun x41 h39 => some (x41, h39)) else (some ((-1000000002 : Int32), h2)))))))))) else none
set_option maxRecDepth 100000 in
set_option maxHeartbeats 4000000 in
theorem c_X12_child (X : SX) (d : Nat) (a0 : Nat) (a1 : Int32) (a2 : Int32) (h : AH) (rr : Int32) (h' : AH) (hf : f_X12_child a0 a1 a2 h = some (rr, h')) : isO h 11 a0 = true ∧ G X mX12_child (d + 2) 0 [(0, .ref a0), (1, .int a1), (2, .int a2)] [] h (some rr) h' := by
  unfold f_X12_child at hf
  by_cases ho : isO h 11 a0 = true
  · rw [if_pos ho] at hf
    refine ⟨ho, ?_⟩
    refine G.aload_n dX12_child_0 rfl ?_
    refine G.getr flX12_19 dX12_child_1 hf (fun r1 hf => ?_)
    refine G.iload_n dX12_child_4 rfl ?_
    obtain ⟨x4, h2, e3, hf⟩ := bT1_spec hf
    refine G.callVi (M' := mX3_hasChild) (ci := 3) (As := [.int a1]) (st := []) okX3_hasChild viX3_hasChild lkX12_193 rfl rfl rfl (Nat.le_of_ble_eq_true rfl) (Nat.le_of_ble_eq_true rfl) dX12_child_5 (c_X3_hasChild X (d + 1) _ _ _ _ _ e3).1 (c_X3_hasChild X (d + 1) _ _ _ _ _ e3).2 ?_
    refine G.if_ne 14 dX12_child_8 (by decide) (fun c5 => ?_) (fun c5 => ?_)
    · rw [if_neg c5] at hf
      refine G.iload_n dX12_child_14 rfl ?_
      by_cases c6 : a2 = 0
      · rw [if_pos c6] at hf
        refine G.tswIn 56 dX12_child_15 (by rw [c6]; decide) (by rw [c6]; decide) (by rw [c6]; rfl) (by decide) ?_
        refine G.aload_n dX12_child_56 rfl ?_
        refine G.getr flX12_19 dX12_child_57 hf (fun r7 hf => ?_)
        refine G.getr flX12_86 dX12_child_60 hf (fun r8 hf => ?_)
        refine G.getr flX12_196 dX12_child_63 hf (fun r9 hf => ?_)
        refine G.iload_n dX12_child_66 rfl ?_
        refine G.iald dX12_child_67 hf (fun x10 hf => ?_)
        obtain ⟨hq1, hq2⟩ := Prod.mk.inj (Option.some.inj hf)
        subst hq1
        subst hq2
        exact G.iret rfl rfl dX12_child_68
      · rw [if_neg c6] at hf
        by_cases c11 : a2 = 1
        · rw [if_pos c11] at hf
          refine G.tswIn 69 dX12_child_15 (by rw [c11]; decide) (by rw [c11]; decide) (by rw [c11]; rfl) (by decide) ?_
          refine G.aload_n dX12_child_69 rfl ?_
          refine G.getr flX12_19 dX12_child_70 hf (fun r12 hf => ?_)
          refine G.getr flX12_86 dX12_child_73 hf (fun r13 hf => ?_)
          refine G.getr flX12_199 dX12_child_76 hf (fun r14 hf => ?_)
          refine G.iload_n dX12_child_79 rfl ?_
          refine G.iald dX12_child_80 hf (fun x15 hf => ?_)
          obtain ⟨hq1, hq2⟩ := Prod.mk.inj (Option.some.inj hf)
          subst hq1
          subst hq2
          exact G.iret rfl rfl dX12_child_81
        · rw [if_neg c11] at hf
          by_cases c16 : a2 = 2
          · rw [if_pos c16] at hf
            refine G.tswIn 82 dX12_child_15 (by rw [c16]; decide) (by rw [c16]; decide) (by rw [c16]; rfl) (by decide) ?_
            refine G.aload_n dX12_child_82 rfl ?_
            refine G.getr flX12_19 dX12_child_83 hf (fun r17 hf => ?_)
            refine G.getr flX12_119 dX12_child_86 hf (fun r18 hf => ?_)
            refine G.getr flX12_202 dX12_child_89 hf (fun r19 hf => ?_)
            refine G.iload_n dX12_child_92 rfl ?_
            refine G.iald dX12_child_93 hf (fun x20 hf => ?_)
            obtain ⟨hq1, hq2⟩ := Prod.mk.inj (Option.some.inj hf)
            subst hq1
            subst hq2
            exact G.iret rfl rfl dX12_child_94
          · rw [if_neg c16] at hf
            by_cases c21 : a2 = 3
            · rw [if_pos c21] at hf
              refine G.tswIn 95 dX12_child_15 (by rw [c21]; decide) (by rw [c21]; decide) (by rw [c21]; rfl) (by decide) ?_
              refine G.aload_n dX12_child_95 rfl ?_
              refine G.getr flX12_19 dX12_child_96 hf (fun r22 hf => ?_)
              refine G.iload_n dX12_child_99 rfl ?_
              obtain ⟨x25, h23, e24, hf⟩ := bT1_spec hf
              refine G.callVi (M' := mX3_isAwake) (ci := 3) (As := [.int a1]) (st := []) okX3_isAwake viX3_isAwake lkX12_205 rfl rfl rfl (Nat.le_of_ble_eq_true rfl) (Nat.le_of_ble_eq_true rfl) dX12_child_100 (c_X3_isAwake X (d + 1) _ _ _ _ _ e24).1 (c_X3_isAwake X (d + 1) _ _ _ _ _ e24).2 ?_
              refine G.if_eq 110 dX12_child_103 (by decide) (fun c26 => ?_) (fun c26 => ?_)
              · rw [if_pos c26] at hf
                refine G.iconst (v := (0 : Int32)) dX12_child_110 (by decide) ?_
                obtain ⟨hq1, hq2⟩ := Prod.mk.inj (Option.some.inj hf)
                subst hq1
                subst hq2
                exact G.iret rfl rfl dX12_child_111
              · rw [if_neg c26] at hf
                refine G.iconst (v := (1 : Int32)) dX12_child_106 (by decide) ?_
                refine G.goto 111 dX12_child_107 (by decide) ?_
                obtain ⟨hq1, hq2⟩ := Prod.mk.inj (Option.some.inj hf)
                subst hq1
                subst hq2
                exact G.iret rfl rfl dX12_child_111
            · rw [if_neg c21] at hf
              by_cases c27 : a2 = 4
              · rw [if_pos c27] at hf
                refine G.tswIn 112 dX12_child_15 (by rw [c27]; decide) (by rw [c27]; decide) (by rw [c27]; rfl) (by decide) ?_
                refine G.aload_n dX12_child_112 rfl ?_
                refine G.getr flX12_19 dX12_child_113 hf (fun r28 hf => ?_)
                refine G.getr flX12_119 dX12_child_116 hf (fun r29 hf => ?_)
                refine G.getr flX12_208 dX12_child_119 hf (fun r30 hf => ?_)
                refine G.iload_n dX12_child_122 rfl ?_
                refine G.iald dX12_child_123 hf (fun x31 hf => ?_)
                obtain ⟨hq1, hq2⟩ := Prod.mk.inj (Option.some.inj hf)
                subst hq1
                subst hq2
                exact G.iret rfl rfl dX12_child_124
              · rw [if_neg c27] at hf
                by_cases c32 : a2 = 5
                · rw [if_pos c32] at hf
                  refine G.tswIn 125 dX12_child_15 (by rw [c32]; decide) (by rw [c32]; decide) (by rw [c32]; rfl) (by decide) ?_
                  refine G.aload_n dX12_child_125 rfl ?_
                  refine G.getr flX12_19 dX12_child_126 hf (fun r33 hf => ?_)
                  refine G.getr flX12_119 dX12_child_129 hf (fun r34 hf => ?_)
                  refine G.getr flX12_211 dX12_child_132 hf (fun r35 hf => ?_)
                  refine G.iload_n dX12_child_135 rfl ?_
                  refine G.iald dX12_child_136 hf (fun x36 hf => ?_)
                  obtain ⟨hq1, hq2⟩ := Prod.mk.inj (Option.some.inj hf)
                  subst hq1
                  subst hq2
                  exact G.iret rfl rfl dX12_child_137
                · rw [if_neg c32] at hf
                  by_cases c37 : a2 = 6
                  · rw [if_pos c37] at hf
                    refine G.tswIn 138 dX12_child_15 (by rw [c37]; decide) (by rw [c37]; decide) (by rw [c37]; rfl) (by decide) ?_
                    refine G.aload_n dX12_child_138 rfl ?_
                    refine G.getr flX12_19 dX12_child_139 hf (fun r38 hf => ?_)
                    refine G.iload_n dX12_child_142 rfl ?_
                    obtain ⟨x41, h39, e40, hf⟩ := bT1_spec hf
                    refine G.callVi (M' := mX3_needsOf) (ci := 3) (As := [.int a1]) (st := []) okX3_needsOf viX3_needsOf lkX12_214 rfl rfl rfl (Nat.le_of_ble_eq_true rfl) (Nat.le_of_ble_eq_true rfl) dX12_child_143 (c_X3_needsOf X d _ _ _ _ _ e40).1 (c_X3_needsOf X d _ _ _ _ _ e40).2 ?_
                    obtain ⟨hq1, hq2⟩ := Prod.mk.inj (Option.some.inj hf)
                    subst hq1
                    subst hq2
                    exact G.iret rfl rfl dX12_child_146
                  · rw [if_neg c37] at hf
                    have nc6 := lv_neT c6 (a := 0) (by decide)
                    have nc11 := lv_neT c11 (a := 1) (by decide)
                    have nc16 := lv_neT c16 (a := 2) (by decide)
                    have nc21 := lv_neT c21 (a := 3) (by decide)
                    have nc27 := lv_neT c27 (a := 4) (by decide)
                    have nc32 := lv_neT c32 (a := 5) (by decide)
                    have nc37 := lv_neT c37 (a := 6) (by decide)
                    refine G.tswOut 147 dX12_child_15 (by omega) (by decide) ?_
                    refine G.ldc ckX12_72 dX12_child_147 ?_
                    obtain ⟨hq1, hq2⟩ := Prod.mk.inj (Option.some.inj hf)
                    subst hq1
                    subst hq2
                    exact G.iret rfl rfl dX12_child_149
    · rw [if_pos c5] at hf
      refine G.ldc ckX12_170 dX12_child_11 ?_
      obtain ⟨hq1, hq2⟩ := Prod.mk.inj (Option.some.inj hf)
      subst hq1
      subst hq2
      exact G.iret rfl rfl dX12_child_13
  · rw [if_neg ho] at hf
    cases hf
/-! X13_child -/
theorem dX13_child_0 : decode cX13_child 0 = .ok (.aload_n 0, 1) := by decide +kernel
theorem dX13_child_1 : decode cX13_child 1 = .ok (.iload_n 1, 1) := by decide +kernel
theorem dX13_child_2 : decode cX13_child 2 = .ok (.invokevirtual 181, 3) := by decide +kernel
theorem dX13_child_5 : decode cX13_child 5 = .ok (.ifCond .ne 6, 3) := by decide +kernel
theorem dX13_child_8 : decode cX13_child 8 = .ok (.ldc 180, 2) := by decide +kernel
theorem dX13_child_10 : decode cX13_child 10 = .ok (.ireturn, 1) := by decide +kernel
theorem dX13_child_11 : decode cX13_child 11 = .ok (.iload_n 2, 1) := by decide +kernel
theorem dX13_child_12 : decode cX13_child 12 = .ok (.tableswitch 106 0 6 #[44, 51, 58, 68, 80, 90, 100], 44) := by decide +kernel
theorem dX13_child_56 : decode cX13_child 56 = .ok (.aload_n 0, 1) := by decide +kernel
theorem dX13_child_57 : decode cX13_child 57 = .ok (.getfield 23, 3) := by decide +kernel
theorem dX13_child_60 : decode cX13_child 60 = .ok (.iload_n 1, 1) := by decide +kernel
theorem dX13_child_61 : decode cX13_child 61 = .ok (.iaload, 1) := by decide +kernel
theorem dX13_child_62 : decode cX13_child 62 = .ok (.ireturn, 1) := by decide +kernel
theorem dX13_child_63 : decode cX13_child 63 = .ok (.aload_n 0, 1) := by decide +kernel
theorem dX13_child_64 : decode cX13_child 64 = .ok (.getfield 26, 3) := by decide +kernel
theorem dX13_child_67 : decode cX13_child 67 = .ok (.iload_n 1, 1) := by decide +kernel
theorem dX13_child_68 : decode cX13_child 68 = .ok (.iaload, 1) := by decide +kernel
theorem dX13_child_69 : decode cX13_child 69 = .ok (.ireturn, 1) := by decide +kernel
theorem dX13_child_70 : decode cX13_child 70 = .ok (.aload_n 0, 1) := by decide +kernel
theorem dX13_child_71 : decode cX13_child 71 = .ok (.getfield 29, 3) := by decide +kernel
theorem dX13_child_74 : decode cX13_child 74 = .ok (.bipush 24, 2) := by decide +kernel
theorem dX13_child_76 : decode cX13_child 76 = .ok (.iload_n 1, 1) := by decide +kernel
theorem dX13_child_77 : decode cX13_child 77 = .ok (.iadd, 1) := by decide +kernel
theorem dX13_child_78 : decode cX13_child 78 = .ok (.iaload, 1) := by decide +kernel
theorem dX13_child_79 : decode cX13_child 79 = .ok (.ireturn, 1) := by decide +kernel
theorem dX13_child_80 : decode cX13_child 80 = .ok (.iconst 1, 1) := by decide +kernel
theorem dX13_child_81 : decode cX13_child 81 = .ok (.aload_n 0, 1) := by decide +kernel
theorem dX13_child_82 : decode cX13_child 82 = .ok (.getfield 29, 3) := by decide +kernel
theorem dX13_child_85 : decode cX13_child 85 = .ok (.bipush 30, 2) := by decide +kernel
theorem dX13_child_87 : decode cX13_child 87 = .ok (.iload_n 1, 1) := by decide +kernel
theorem dX13_child_88 : decode cX13_child 88 = .ok (.iadd, 1) := by decide +kernel
theorem dX13_child_89 : decode cX13_child 89 = .ok (.iaload, 1) := by decide +kernel
theorem dX13_child_90 : decode cX13_child 90 = .ok (.isub, 1) := by decide +kernel
theorem dX13_child_91 : decode cX13_child 91 = .ok (.ireturn, 1) := by decide +kernel
theorem dX13_child_92 : decode cX13_child 92 = .ok (.aload_n 0, 1) := by decide +kernel
theorem dX13_child_93 : decode cX13_child 93 = .ok (.getfield 29, 3) := by decide +kernel
theorem dX13_child_96 : decode cX13_child 96 = .ok (.bipush 36, 2) := by decide +kernel
theorem dX13_child_98 : decode cX13_child 98 = .ok (.iload_n 1, 1) := by decide +kernel
theorem dX13_child_99 : decode cX13_child 99 = .ok (.iadd, 1) := by decide +kernel
theorem dX13_child_100 : decode cX13_child 100 = .ok (.iaload, 1) := by decide +kernel
theorem dX13_child_101 : decode cX13_child 101 = .ok (.ireturn, 1) := by decide +kernel
theorem dX13_child_102 : decode cX13_child 102 = .ok (.aload_n 0, 1) := by decide +kernel
theorem dX13_child_103 : decode cX13_child 103 = .ok (.getfield 29, 3) := by decide +kernel
theorem dX13_child_106 : decode cX13_child 106 = .ok (.bipush 42, 2) := by decide +kernel
theorem dX13_child_108 : decode cX13_child 108 = .ok (.iload_n 1, 1) := by decide +kernel
theorem dX13_child_109 : decode cX13_child 109 = .ok (.iadd, 1) := by decide +kernel
theorem dX13_child_110 : decode cX13_child 110 = .ok (.iaload, 1) := by decide +kernel
theorem dX13_child_111 : decode cX13_child 111 = .ok (.ireturn, 1) := by decide +kernel
theorem dX13_child_112 : decode cX13_child 112 = .ok (.aload_n 0, 1) := by decide +kernel
theorem dX13_child_113 : decode cX13_child 113 = .ok (.iload_n 1, 1) := by decide +kernel
theorem dX13_child_114 : decode cX13_child 114 = .ok (.invokevirtual 144, 3) := by decide +kernel
theorem dX13_child_117 : decode cX13_child 117 = .ok (.ireturn, 1) := by decide +kernel
theorem dX13_child_118 : decode cX13_child 118 = .ok (.ldc 81, 2) := by decide +kernel
theorem dX13_child_120 : decode cX13_child 120 = .ok (.ireturn, 1) := by decide +kernel
def f_X13_child (a0 : Nat) (a1 : Int32) (a2 : Int32) (h : AH) : Option (Int32 × AH) := if isO h 12 a0 = true then (bT1 (f_X13_isChild a0 a1 h) fun x3 h1 => if x3 = 0 then (some ((-1000000001 : Int32), h1)) else (if a2 = 0 then ((gr h1 12 a0 9).bind fun r6 => (ai h1 0 r6 a1).bind fun x7 => some (x7, h1)) else (if a2 = 1 then ((gr h1 12 a0 10).bind fun r9 => (ai h1 0 r9 a1).bind fun x10 => some (x10, h1)) else (if a2 = 2 then ((gr h1 12 a0 11).bind fun r12 => (ai h1 0 r12 ((24 : Int32) + a1)).bind fun x13 => some (x13, h1)) else (if a2 = 3 then ((gr h1 12 a0 11).bind fun r15 => (ai h1 0 r15 ((30 : Int32) + a1)).bind fun x16 => some (((1 : Int32) - x16), h1)) else (if a2 = 4 then ((gr h1 12 a0 11).bind fun r18 => (ai h1 0 r18 ((36 : Int32) + a1)).bind fun x19 => some (x19, h1)) else (if a2 = 5 then ((gr h1 12 a0 11).bind fun r21 => (ai h1 0 r21 ((42 : Int32) + a1)).bind fun x22 => some (x22, h1)) else (if a2 = 6 then (bT1 (f_X13_needs a0 a1 h1) fun x26 h24 => some (x26, h24)) else (some ((-1000000002 : Int32), h1)))))))))) else none
set_option maxRecDepth 100000 in
set_option maxHeartbeats 4000000 in
theorem c_X13_child (X : SX) (d : Nat) (a0 : Nat) (a1 : Int32) (a2 : Int32) (h : AH) (rr : Int32) (h' : AH) (hf : f_X13_child a0 a1 a2 h = some (rr, h')) : isO h 12 a0 = true ∧ G X mX13_child (d + 2) 0 [(0, .ref a0), (1, .int a1), (2, .int a2)] [] h (some rr) h' := by
  unfold f_X13_child at hf
  by_cases ho : isO h 12 a0 = true
  · rw [if_pos ho] at hf
    refine ⟨ho, ?_⟩
    refine G.aload_n dX13_child_0 rfl ?_
    refine G.iload_n dX13_child_1 rfl ?_
    obtain ⟨x3, h1, e2, hf⟩ := bT1_spec hf
    refine G.callVi (M' := mX13_isChild) (ci := 12) (As := [.int a1]) (st := []) okX13_isChild viX13_isChild lkX13_181 rfl rfl rfl (Nat.le_of_ble_eq_true rfl) (Nat.le_of_ble_eq_true rfl) dX13_child_2 (c_X13_isChild X (d + 1) _ _ _ _ _ e2).1 (c_X13_isChild X (d + 1) _ _ _ _ _ e2).2 ?_
    refine G.if_ne 11 dX13_child_5 (by decide) (fun c4 => ?_) (fun c4 => ?_)
    · rw [if_neg c4] at hf
      refine G.iload_n dX13_child_11 rfl ?_
      by_cases c5 : a2 = 0
      · rw [if_pos c5] at hf
        refine G.tswIn 56 dX13_child_12 (by rw [c5]; decide) (by rw [c5]; decide) (by rw [c5]; rfl) (by decide) ?_
        refine G.aload_n dX13_child_56 rfl ?_
        refine G.getr flX13_23 dX13_child_57 hf (fun r6 hf => ?_)
        refine G.iload_n dX13_child_60 rfl ?_
        refine G.iald dX13_child_61 hf (fun x7 hf => ?_)
        obtain ⟨hq1, hq2⟩ := Prod.mk.inj (Option.some.inj hf)
        subst hq1
        subst hq2
        exact G.iret rfl rfl dX13_child_62
      · rw [if_neg c5] at hf
        by_cases c8 : a2 = 1
        · rw [if_pos c8] at hf
          refine G.tswIn 63 dX13_child_12 (by rw [c8]; decide) (by rw [c8]; decide) (by rw [c8]; rfl) (by decide) ?_
          refine G.aload_n dX13_child_63 rfl ?_
          refine G.getr flX13_26 dX13_child_64 hf (fun r9 hf => ?_)
          refine G.iload_n dX13_child_67 rfl ?_
          refine G.iald dX13_child_68 hf (fun x10 hf => ?_)
          obtain ⟨hq1, hq2⟩ := Prod.mk.inj (Option.some.inj hf)
          subst hq1
          subst hq2
          exact G.iret rfl rfl dX13_child_69
        · rw [if_neg c8] at hf
          by_cases c11 : a2 = 2
          · rw [if_pos c11] at hf
            refine G.tswIn 70 dX13_child_12 (by rw [c11]; decide) (by rw [c11]; decide) (by rw [c11]; rfl) (by decide) ?_
            refine G.aload_n dX13_child_70 rfl ?_
            refine G.getr flX13_29 dX13_child_71 hf (fun r12 hf => ?_)
            refine G.bipush (v := (24 : Int32)) dX13_child_74 (by decide) ?_
            refine G.iload_n dX13_child_76 rfl ?_
            refine G.iadd dX13_child_77 ?_
            refine G.iald dX13_child_78 hf (fun x13 hf => ?_)
            obtain ⟨hq1, hq2⟩ := Prod.mk.inj (Option.some.inj hf)
            subst hq1
            subst hq2
            exact G.iret rfl rfl dX13_child_79
          · rw [if_neg c11] at hf
            by_cases c14 : a2 = 3
            · rw [if_pos c14] at hf
              refine G.tswIn 80 dX13_child_12 (by rw [c14]; decide) (by rw [c14]; decide) (by rw [c14]; rfl) (by decide) ?_
              refine G.iconst (v := (1 : Int32)) dX13_child_80 (by decide) ?_
              refine G.aload_n dX13_child_81 rfl ?_
              refine G.getr flX13_29 dX13_child_82 hf (fun r15 hf => ?_)
              refine G.bipush (v := (30 : Int32)) dX13_child_85 (by decide) ?_
              refine G.iload_n dX13_child_87 rfl ?_
              refine G.iadd dX13_child_88 ?_
              refine G.iald dX13_child_89 hf (fun x16 hf => ?_)
              refine G.isub dX13_child_90 ?_
              obtain ⟨hq1, hq2⟩ := Prod.mk.inj (Option.some.inj hf)
              subst hq1
              subst hq2
              exact G.iret rfl rfl dX13_child_91
            · rw [if_neg c14] at hf
              by_cases c17 : a2 = 4
              · rw [if_pos c17] at hf
                refine G.tswIn 92 dX13_child_12 (by rw [c17]; decide) (by rw [c17]; decide) (by rw [c17]; rfl) (by decide) ?_
                refine G.aload_n dX13_child_92 rfl ?_
                refine G.getr flX13_29 dX13_child_93 hf (fun r18 hf => ?_)
                refine G.bipush (v := (36 : Int32)) dX13_child_96 (by decide) ?_
                refine G.iload_n dX13_child_98 rfl ?_
                refine G.iadd dX13_child_99 ?_
                refine G.iald dX13_child_100 hf (fun x19 hf => ?_)
                obtain ⟨hq1, hq2⟩ := Prod.mk.inj (Option.some.inj hf)
                subst hq1
                subst hq2
                exact G.iret rfl rfl dX13_child_101
              · rw [if_neg c17] at hf
                by_cases c20 : a2 = 5
                · rw [if_pos c20] at hf
                  refine G.tswIn 102 dX13_child_12 (by rw [c20]; decide) (by rw [c20]; decide) (by rw [c20]; rfl) (by decide) ?_
                  refine G.aload_n dX13_child_102 rfl ?_
                  refine G.getr flX13_29 dX13_child_103 hf (fun r21 hf => ?_)
                  refine G.bipush (v := (42 : Int32)) dX13_child_106 (by decide) ?_
                  refine G.iload_n dX13_child_108 rfl ?_
                  refine G.iadd dX13_child_109 ?_
                  refine G.iald dX13_child_110 hf (fun x22 hf => ?_)
                  obtain ⟨hq1, hq2⟩ := Prod.mk.inj (Option.some.inj hf)
                  subst hq1
                  subst hq2
                  exact G.iret rfl rfl dX13_child_111
                · rw [if_neg c20] at hf
                  by_cases c23 : a2 = 6
                  · rw [if_pos c23] at hf
                    refine G.tswIn 112 dX13_child_12 (by rw [c23]; decide) (by rw [c23]; decide) (by rw [c23]; rfl) (by decide) ?_
                    refine G.aload_n dX13_child_112 rfl ?_
                    refine G.iload_n dX13_child_113 rfl ?_
                    obtain ⟨x26, h24, e25, hf⟩ := bT1_spec hf
                    refine G.callVi (M' := mX13_needs) (ci := 12) (As := [.int a1]) (st := []) okX13_needs viX13_needs lkX13_144 rfl rfl rfl (Nat.le_of_ble_eq_true rfl) (Nat.le_of_ble_eq_true rfl) dX13_child_114 (c_X13_needs X d _ _ _ _ _ e25).1 (c_X13_needs X d _ _ _ _ _ e25).2 ?_
                    obtain ⟨hq1, hq2⟩ := Prod.mk.inj (Option.some.inj hf)
                    subst hq1
                    subst hq2
                    exact G.iret rfl rfl dX13_child_117
                  · rw [if_neg c23] at hf
                    have nc5 := lv_neT c5 (a := 0) (by decide)
                    have nc8 := lv_neT c8 (a := 1) (by decide)
                    have nc11 := lv_neT c11 (a := 2) (by decide)
                    have nc14 := lv_neT c14 (a := 3) (by decide)
                    have nc17 := lv_neT c17 (a := 4) (by decide)
                    have nc20 := lv_neT c20 (a := 5) (by decide)
                    have nc23 := lv_neT c23 (a := 6) (by decide)
                    refine G.tswOut 118 dX13_child_12 (by omega) (by decide) ?_
                    refine G.ldc ckX13_81 dX13_child_118 ?_
                    obtain ⟨hq1, hq2⟩ := Prod.mk.inj (Option.some.inj hf)
                    subst hq1
                    subst hq2
                    exact G.iret rfl rfl dX13_child_120
    · rw [if_pos c4] at hf
      refine G.ldc ckX13_180 dX13_child_8 ?_
      obtain ⟨hq1, hq2⟩ := Prod.mk.inj (Option.some.inj hf)
      subst hq1
      subst hq2
      exact G.iret rfl rfl dX13_child_10
  · rw [if_neg ho] at hf
    cases hf
/-! X3_mayWalk -/
theorem dX3_mayWalk_0 : decode cX3_mayWalk 0 = .ok (.aload_n 0, 1) := by decide +kernel
theorem dX3_mayWalk_1 : decode cX3_mayWalk 1 = .ok (.iload_n 1, 1) := by decide +kernel
theorem dX3_mayWalk_2 : decode cX3_mayWalk 2 = .ok (.iload_n 2, 1) := by decide +kernel
theorem dX3_mayWalk_3 : decode cX3_mayWalk 3 = .ok (.invokevirtual 106, 3) := by decide +kernel
theorem dX3_mayWalk_6 : decode cX3_mayWalk 6 = .ok (.aload_n 0, 1) := by decide +kernel
theorem dX3_mayWalk_7 : decode cX3_mayWalk 7 = .ok (.getfield 12, 3) := by decide +kernel
theorem dX3_mayWalk_10 : decode cX3_mayWalk 10 = .ok (.getfield 112, 3) := by decide +kernel
theorem dX3_mayWalk_13 : decode cX3_mayWalk 13 = .ok (.iload_n 1, 1) := by decide +kernel
theorem dX3_mayWalk_14 : decode cX3_mayWalk 14 = .ok (.iaload, 1) := by decide +kernel
theorem dX3_mayWalk_15 : decode cX3_mayWalk 15 = .ok (.if_icmp .gt 7, 3) := by decide +kernel
theorem dX3_mayWalk_18 : decode cX3_mayWalk 18 = .ok (.iconst 1, 1) := by decide +kernel
theorem dX3_mayWalk_19 : decode cX3_mayWalk 19 = .ok (.goto 4, 3) := by decide +kernel
theorem dX3_mayWalk_22 : decode cX3_mayWalk 22 = .ok (.iconst 0, 1) := by decide +kernel
theorem dX3_mayWalk_23 : decode cX3_mayWalk 23 = .ok (.ireturn, 1) := by decide +kernel
def f_X3_mayWalk (a0 : Nat) (a1 : Int32) (a2 : Int32) (h : AH) : Option (Int32 × AH) := if isO h 3 a0 = true then (bT1 (f_X3_stepsTo a0 a1 a2 h) fun x3 h1 => (gr h1 3 a0 0).bind fun r4 => (gr h1 4 r4 3).bind fun r5 => (ai h1 0 r5 a1).bind fun x6 => if x6 < x3 then (some ((0 : Int32), h1)) else (some ((1 : Int32), h1))) else none
set_option maxRecDepth 100000 in
set_option maxHeartbeats 4000000 in
theorem c_X3_mayWalk (X : SX) (d : Nat) (a0 : Nat) (a1 : Int32) (a2 : Int32) (h : AH) (rr : Int32) (h' : AH) (hf : f_X3_mayWalk a0 a1 a2 h = some (rr, h')) : isO h 3 a0 = true ∧ G X mX3_mayWalk (d + 2) 0 [(0, .ref a0), (1, .int a1), (2, .int a2)] [] h (some rr) h' := by
  unfold f_X3_mayWalk at hf
  by_cases ho : isO h 3 a0 = true
  · rw [if_pos ho] at hf
    refine ⟨ho, ?_⟩
    refine G.aload_n dX3_mayWalk_0 rfl ?_
    refine G.iload_n dX3_mayWalk_1 rfl ?_
    refine G.iload_n dX3_mayWalk_2 rfl ?_
    obtain ⟨x3, h1, e2, hf⟩ := bT1_spec hf
    refine G.callVi (M' := mX3_stepsTo) (ci := 3) (As := [.int a1, .int a2]) (st := []) okX3_stepsTo viX3_stepsTo lkX3_106 rfl rfl rfl (Nat.le_of_ble_eq_true rfl) (Nat.le_of_ble_eq_true rfl) dX3_mayWalk_3 (c_X3_stepsTo X d _ _ _ _ _ _ e2).1 (c_X3_stepsTo X d _ _ _ _ _ _ e2).2 ?_
    refine G.aload_n dX3_mayWalk_6 rfl ?_
    refine G.getr flX3_12 dX3_mayWalk_7 hf (fun r4 hf => ?_)
    refine G.getr flX3_112 dX3_mayWalk_10 hf (fun r5 hf => ?_)
    refine G.iload_n dX3_mayWalk_13 rfl ?_
    refine G.iald dX3_mayWalk_14 hf (fun x6 hf => ?_)
    refine G.icmp_gt 22 dX3_mayWalk_15 (by decide) (fun c7 => ?_) (fun c7 => ?_)
    · rw [if_pos c7] at hf
      refine G.iconst (v := (0 : Int32)) dX3_mayWalk_22 (by decide) ?_
      obtain ⟨hq1, hq2⟩ := Prod.mk.inj (Option.some.inj hf)
      subst hq1
      subst hq2
      exact G.iret rfl (by decide) dX3_mayWalk_23
    · rw [if_neg c7] at hf
      refine G.iconst (v := (1 : Int32)) dX3_mayWalk_18 (by decide) ?_
      refine G.goto 23 dX3_mayWalk_19 (by decide) ?_
      obtain ⟨hq1, hq2⟩ := Prod.mk.inj (Option.some.inj hf)
      subst hq1
      subst hq2
      exact G.iret rfl (by decide) dX3_mayWalk_23
  · rw [if_neg ho] at hf
    cases hf
