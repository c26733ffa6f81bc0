/-! X3_mayPass -/
theorem dX3_mayPass_0 : decode cX3_mayPass 0 = .ok (.aload_n 0, 1) := by decide +kernel
theorem dX3_mayPass_1 : decode cX3_mayPass 1 = .ok (.getfield 12, 3) := by decide +kernel
theorem dX3_mayPass_4 : decode cX3_mayPass 4 = .ok (.getfield 52, 3) := by decide +kernel
theorem dX3_mayPass_7 : decode cX3_mayPass 7 = .ok (.iload_n 1, 1) := by decide +kernel
theorem dX3_mayPass_8 : decode cX3_mayPass 8 = .ok (.iaload, 1) := by decide +kernel
theorem dX3_mayPass_9 : decode cX3_mayPass 9 = .ok (.iload_n 2, 1) := by decide +kernel
theorem dX3_mayPass_10 : decode cX3_mayPass 10 = .ok (.iadd, 1) := by decide +kernel
theorem dX3_mayPass_11 : decode cX3_mayPass 11 = .ok (.istore_n 3, 1) := by decide +kernel
theorem dX3_mayPass_12 : decode cX3_mayPass 12 = .ok (.aload_n 0, 1) := by decide +kernel
theorem dX3_mayPass_13 : decode cX3_mayPass 13 = .ok (.iload_n 1, 1) := by decide +kernel
theorem dX3_mayPass_14 : decode cX3_mayPass 14 = .ok (.invokevirtual 72, 3) := by decide +kernel
theorem dX3_mayPass_17 : decode cX3_mayPass 17 = .ok (.ifCond .eq 22, 3) := by decide +kernel
theorem dX3_mayPass_20 : decode cX3_mayPass 20 = .ok (.iload_n 3, 1) := by decide +kernel
theorem dX3_mayPass_21 : decode cX3_mayPass 21 = .ok (.ifCond .lt 18, 3) := by decide +kernel
theorem dX3_mayPass_24 : decode cX3_mayPass 24 = .ok (.iload_n 3, 1) := by decide +kernel
theorem dX3_mayPass_25 : decode cX3_mayPass 25 = .ok (.aload_n 0, 1) := by decide +kernel
theorem dX3_mayPass_26 : decode cX3_mayPass 26 = .ok (.getfield 21, 3) := by decide +kernel
theorem dX3_mayPass_29 : decode cX3_mayPass 29 = .ok (.getfield 125, 3) := by decide +kernel
theorem dX3_mayPass_32 : decode cX3_mayPass 32 = .ok (.if_icmp .ge 7, 3) := by decide +kernel
theorem dX3_mayPass_35 : decode cX3_mayPass 35 = .ok (.iconst 1, 1) := by decide +kernel
theorem dX3_mayPass_36 : decode cX3_mayPass 36 = .ok (.goto 4, 3) := by decide +kernel
theorem dX3_mayPass_39 : decode cX3_mayPass 39 = .ok (.iconst 0, 1) := by decide +kernel
theorem dX3_mayPass_40 : decode cX3_mayPass 40 = .ok (.ireturn, 1) := by decide +kernel
def f_X3_mayPass (a0 : Nat) (a1 : Int32) (a2 : Int32) (h : AH) : Option (Int32 × AH) := if isO h 3 a0 = true then ((gr h 3 a0 0).bind fun r1 => (gr h 4 r1 4).bind fun r2 => (ai h 0 r2 a1).bind fun x3 => bT1 (f_X3_isAwake a0 a1 h) fun x6 h4 => if x6 = 0 then (some ((0 : Int32), h4)) else (if (x3 + a2) < 0 then (some ((0 : Int32), h4)) else ((gr h4 3 a0 1).bind fun r9 => (gi h4 9 r9 7).bind fun x10 => if x10 ≤ (x3 + a2) then (some ((0 : Int32), h4)) else (some ((1 : Int32), h4))))) else none
set_option maxRecDepth 100000 in
set_option maxHeartbeats 4000000 in
theorem c_X3_mayPass (X : SX) (d : Nat) (a0 : Nat) (a1 : Int32) (a2 : Int32) (h : AH) (rr : Int32) (h' : AH) (hf : f_X3_mayPass a0 a1 a2 h = some (rr, h')) : isO h 3 a0 = true ∧ G X mX3_mayPass (d + 1) 0 [(0, .ref a0), (1, .int a1), (2, .int a2)] [] h (some rr) h' := by
  unfold f_X3_mayPass at hf
  by_cases ho : isO h 3 a0 = true
  · rw [if_pos ho] at hf
    refine ⟨ho, ?_⟩
    refine G.aload_n dX3_mayPass_0 rfl ?_
    refine G.getr flX3_12 dX3_mayPass_1 hf (fun r1 hf => ?_)
    refine G.getr flX3_52 dX3_mayPass_4 hf (fun r2 hf => ?_)
    refine G.iload_n dX3_mayPass_7 rfl ?_
    refine G.iald dX3_mayPass_8 hf (fun x3 hf => ?_)
    refine G.iload_n dX3_mayPass_9 rfl ?_
    refine G.iadd dX3_mayPass_10 ?_
    refine G.istore_n (lv' := [(3, .int (x3 + a2)), (0, .ref a0), (1, .int a1), (2, .int a2)]) dX3_mayPass_11 (by decide) rfl ?_
    refine G.aload_n dX3_mayPass_12 rfl ?_
    refine G.iload_n dX3_mayPass_13 rfl ?_
    obtain ⟨x6, h4, e5, hf⟩ := bT1_spec hf
    refine G.callVi (M' := mX3_isAwake) (ci := 3) (As := [.int a1]) (st := []) okX3_isAwake viX3_isAwake lkX3_72 rfl rfl rfl (Nat.le_of_ble_eq_true rfl) (Nat.le_of_ble_eq_true rfl) dX3_mayPass_14 (c_X3_isAwake X d _ _ _ _ _ e5).1 (c_X3_isAwake X d _ _ _ _ _ e5).2 ?_
    refine G.if_eq 39 dX3_mayPass_17 (by decide) (fun c7 => ?_) (fun c7 => ?_)
    · rw [if_pos c7] at hf
      refine G.iconst (v := (0 : Int32)) dX3_mayPass_39 (by decide) ?_
      obtain ⟨hq1, hq2⟩ := Prod.mk.inj (Option.some.inj hf)
      subst hq1
      subst hq2
      exact G.iret rfl (by decide) dX3_mayPass_40
    · rw [if_neg c7] at hf
      refine G.iload_n dX3_mayPass_20 rfl ?_
      refine G.if_lt 39 dX3_mayPass_21 (by decide) (fun c8 => ?_) (fun c8 => ?_)
      · rw [if_pos c8] at hf
        refine G.iconst (v := (0 : Int32)) dX3_mayPass_39 (by decide) ?_
        obtain ⟨hq1, hq2⟩ := Prod.mk.inj (Option.some.inj hf)
        subst hq1
        subst hq2
        exact G.iret rfl (by decide) dX3_mayPass_40
      · rw [if_neg c8] at hf
        refine G.iload_n dX3_mayPass_24 rfl ?_
        refine G.aload_n dX3_mayPass_25 rfl ?_
        refine G.getr flX3_21 dX3_mayPass_26 hf (fun r9 hf => ?_)
        refine G.geti flX3_125 dX3_mayPass_29 hf (fun x10 hf => ?_)
        refine G.icmp_ge 39 dX3_mayPass_32 (by decide) (fun c11 => ?_) (fun c11 => ?_)
        · rw [if_pos c11] at hf
          refine G.iconst (v := (0 : Int32)) dX3_mayPass_39 (by decide) ?_
          obtain ⟨hq1, hq2⟩ := Prod.mk.inj (Option.some.inj hf)
          subst hq1
          subst hq2
          exact G.iret rfl (by decide) dX3_mayPass_40
        · rw [if_neg c11] at hf
          refine G.iconst (v := (1 : Int32)) dX3_mayPass_35 (by decide) ?_
          refine G.goto 40 dX3_mayPass_36 (by decide) ?_
          obtain ⟨hq1, hq2⟩ := Prod.mk.inj (Option.some.inj hf)
          subst hq1
          subst hq2
          exact G.iret rfl (by decide) dX3_mayPass_40
  · rw [if_neg ho] at hf
    cases hf
/-! X3_pass -/
theorem dX3_pass_0 : decode cX3_pass 0 = .ok (.aload_n 0, 1) := by decide +kernel
theorem dX3_pass_1 : decode cX3_pass 1 = .ok (.getfield 12, 3) := by decide +kernel
theorem dX3_pass_4 : decode cX3_pass 4 = .ok (.getfield 52, 3) := by decide +kernel
theorem dX3_pass_7 : decode cX3_pass 7 = .ok (.iload_n 1, 1) := by decide +kernel
theorem dX3_pass_8 : decode cX3_pass 8 = .ok (.dup2, 1) := by decide +kernel
theorem dX3_pass_9 : decode cX3_pass 9 = .ok (.iaload, 1) := by decide +kernel
theorem dX3_pass_10 : decode cX3_pass 10 = .ok (.iload_n 2, 1) := by decide +kernel
theorem dX3_pass_11 : decode cX3_pass 11 = .ok (.iadd, 1) := by decide +kernel
theorem dX3_pass_12 : decode cX3_pass 12 = .ok (.iastore, 1) := by decide +kernel
theorem dX3_pass_13 : decode cX3_pass 13 = .ok (.aload_n 0, 1) := by decide +kernel
theorem dX3_pass_14 : decode cX3_pass 14 = .ok (.getfield 12, 3) := by decide +kernel
theorem dX3_pass_17 : decode cX3_pass 17 = .ok (.getfield 81, 3) := by decide +kernel
theorem dX3_pass_20 : decode cX3_pass 20 = .ok (.iload_n 1, 1) := by decide +kernel
theorem dX3_pass_21 : decode cX3_pass 21 = .ok (.iconst 0, 1) := by decide +kernel
theorem dX3_pass_22 : decode cX3_pass 22 = .ok (.iastore, 1) := by decide +kernel
theorem dX3_pass_23 : decode cX3_pass 23 = .ok (.return_, 1) := by decide +kernel
def f_X3_pass (a0 : Nat) (a1 : Int32) (a2 : Int32) (h : AH) : Option (AH) := if isO h 3 a0 = true then ((gr h 3 a0 0).bind fun r1 => (gr h 4 r1 4).bind fun r2 => (ai h 0 r2 a1).bind fun x3 => (aw h 0 r2 a1 (x3 + a2)).bind fun h4 => (gr h4 3 a0 0).bind fun r5 => (gr h4 4 r5 5).bind fun r6 => (aw h4 0 r6 a1 (0 : Int32)).bind fun h7 => some h7) else none
set_option maxRecDepth 100000 in
set_option maxHeartbeats 4000000 in
theorem c_X3_pass (X : SX) (d : Nat) (a0 : Nat) (a1 : Int32) (a2 : Int32) (h : AH) (h' : AH) (hf : f_X3_pass a0 a1 a2 h = some h') : isO h 3 a0 = true ∧ G X mX3_pass d 0 [(0, .ref a0), (1, .int a1), (2, .int a2)] [] h none h' := by
  unfold f_X3_pass at hf
  by_cases ho : isO h 3 a0 = true
  · rw [if_pos ho] at hf
    refine ⟨ho, ?_⟩
    refine G.aload_n dX3_pass_0 rfl ?_
    refine G.getr flX3_12 dX3_pass_1 hf (fun r1 hf => ?_)
    refine G.getr flX3_52 dX3_pass_4 hf (fun r2 hf => ?_)
    refine G.iload_n dX3_pass_7 rfl ?_
    refine G.dup2 dX3_pass_8 rfl rfl ?_
    refine G.iald dX3_pass_9 hf (fun x3 hf => ?_)
    refine G.iload_n dX3_pass_10 rfl ?_
    refine G.iadd dX3_pass_11 ?_
    refine G.iast dX3_pass_12 hf (fun h4 hf => ?_)
    refine G.aload_n dX3_pass_13 rfl ?_
    refine G.getr flX3_12 dX3_pass_14 hf (fun r5 hf => ?_)
    refine G.getr flX3_81 dX3_pass_17 hf (fun r6 hf => ?_)
    refine G.iload_n dX3_pass_20 rfl ?_
    refine G.iconst (v := (0 : Int32)) dX3_pass_21 (by decide) ?_
    refine G.iast dX3_pass_22 hf (fun h7 hf => ?_)
    have hq := Option.some.inj hf
    subst hq
    exact G.vret rfl dX3_pass_23
  · rw [if_neg ho] at hf
    cases hf
/-! X12_carry -/
theorem dX12_carry_0 : decode cX12_carry 0 = .ok (.aload_n 0, 1) := by decide +kernel
theorem dX12_carry_1 : decode cX12_carry 1 = .ok (.getfield 19, 3) := by decide +kernel
theorem dX12_carry_4 : decode cX12_carry 4 = .ok (.iload_n 1, 1) := by decide +kernel
theorem dX12_carry_5 : decode cX12_carry 5 = .ok (.invokevirtual 193, 3) := by decide +kernel
theorem dX12_carry_8 : decode cX12_carry 8 = .ok (.ifCond .ne 6, 3) := by decide +kernel
theorem dX12_carry_11 : decode cX12_carry 11 = .ok (.ldc 170, 2) := by decide +kernel
theorem dX12_carry_13 : decode cX12_carry 13 = .ok (.ireturn, 1) := by decide +kernel
theorem dX12_carry_14 : decode cX12_carry 14 = .ok (.iload_n 2, 1) := by decide +kernel
theorem dX12_carry_15 : decode cX12_carry 15 = .ok (.iconst 1, 1) := by decide +kernel
theorem dX12_carry_16 : decode cX12_carry 16 = .ok (.if_icmp .eq 11, 3) := by decide +kernel
theorem dX12_carry_19 : decode cX12_carry 19 = .ok (.iload_n 2, 1) := by decide +kernel
theorem dX12_carry_20 : decode cX12_carry 20 = .ok (.iconst (-1), 1) := by decide +kernel
theorem dX12_carry_21 : decode cX12_carry 21 = .ok (.if_icmp .eq 6, 3) := by decide +kernel
theorem dX12_carry_24 : decode cX12_carry 24 = .ok (.ldc 72, 2) := by decide +kernel
theorem dX12_carry_26 : decode cX12_carry 26 = .ok (.ireturn, 1) := by decide +kernel
theorem dX12_carry_27 : decode cX12_carry 27 = .ok (.aload_n 0, 1) := by decide +kernel
theorem dX12_carry_28 : decode cX12_carry 28 = .ok (.getfield 19, 3) := by decide +kernel
theorem dX12_carry_31 : decode cX12_carry 31 = .ok (.iload_n 1, 1) := by decide +kernel
theorem dX12_carry_32 : decode cX12_carry 32 = .ok (.iload_n 2, 1) := by decide +kernel
theorem dX12_carry_33 : decode cX12_carry 33 = .ok (.invokevirtual 241, 3) := by decide +kernel
theorem dX12_carry_36 : decode cX12_carry 36 = .ok (.ifCond .ne 6, 3) := by decide +kernel
theorem dX12_carry_39 : decode cX12_carry 39 = .ok (.ldc 222, 2) := by decide +kernel
theorem dX12_carry_41 : decode cX12_carry 41 = .ok (.ireturn, 1) := by decide +kernel
theorem dX12_carry_42 : decode cX12_carry 42 = .ok (.aload_n 0, 1) := by decide +kernel
theorem dX12_carry_43 : decode cX12_carry 43 = .ok (.getfield 40, 3) := by decide +kernel
theorem dX12_carry_46 : decode cX12_carry 46 = .ok (.aload_n 0, 1) := by decide +kernel
theorem dX12_carry_47 : decode cX12_carry 47 = .ok (.getfield 19, 3) := by decide +kernel
theorem dX12_carry_50 : decode cX12_carry 50 = .ok (.getfield 119, 3) := by decide +kernel
theorem dX12_carry_53 : decode cX12_carry 53 = .ok (.invokevirtual 223, 3) := by decide +kernel
theorem dX12_carry_56 : decode cX12_carry 56 = .ok (.aload_n 0, 1) := by decide +kernel
theorem dX12_carry_57 : decode cX12_carry 57 = .ok (.getfield 19, 3) := by decide +kernel
theorem dX12_carry_60 : decode cX12_carry 60 = .ok (.iload_n 1, 1) := by decide +kernel
theorem dX12_carry_61 : decode cX12_carry 61 = .ok (.iload_n 2, 1) := by decide +kernel
theorem dX12_carry_62 : decode cX12_carry 62 = .ok (.invokevirtual 244, 3) := by decide +kernel
theorem dX12_carry_65 : decode cX12_carry 65 = .ok (.aload_n 0, 1) := by decide +kernel
theorem dX12_carry_66 : decode cX12_carry 66 = .ok (.getfield 19, 3) := by decide +kernel
theorem dX12_carry_69 : decode cX12_carry 69 = .ok (.getfield 119, 3) := by decide +kernel
theorem dX12_carry_72 : decode cX12_carry 72 = .ok (.getfield 202, 3) := by decide +kernel
theorem dX12_carry_75 : decode cX12_carry 75 = .ok (.iload_n 1, 1) := by decide +kernel
theorem dX12_carry_76 : decode cX12_carry 76 = .ok (.iaload, 1) := by decide +kernel
theorem dX12_carry_77 : decode cX12_carry 77 = .ok (.ireturn, 1) := by decide +kernel
def f_X12_carry_27 (v0 : Nat) (v1 : Int32) (v2 : Int32) (h : AH) : Option (Int32 × AH) := (gr h 11 v0 1).bind fun r1 => bT1 (f_X3_mayPass r1 v1 v2 h) fun x4 h2 => if x4 = 0 then (some ((-1000000003 : Int32), h2)) else ((gr h2 11 v0 4).bind fun r6 => (gr h2 11 v0 1).bind fun r7 => (gr h2 3 r7 0).bind fun r8 => (f_X6_remember r6 r8 h2).bind fun h9 => (gr h9 11 v0 1).bind fun r11 => (f_X3_pass r11 v1 v2 h9).bind fun h12 => (gr h12 11 v0 1).bind fun r14 => (gr h12 3 r14 0).bind fun r15 => (gr h12 4 r15 4).bind fun r16 => (ai h12 0 r16 v1).bind fun x17 => some (x17, h12))
set_option maxRecDepth 100000 in
set_option maxHeartbeats 4000000 in
theorem j_X12_carry_27 (X : SX) (d : Nat) (v0 : Nat) (v1 : Int32) (v2 : Int32) (h : AH) (rr : Int32) (h' : AH) (hf : f_X12_carry_27 v0 v1 v2 h = some (rr, h')) : G X mX12_carry (d + 3) 27 [(0, .ref v0), (1, .int v1), (2, .int v2)] [] h (some rr) h' := by
  unfold f_X12_carry_27 at hf
  refine G.aload_n dX12_carry_27 rfl ?_
  refine G.getr flX12_19 dX12_carry_28 hf (fun r1 hf => ?_)
  refine G.iload_n dX12_carry_31 rfl ?_
  refine G.iload_n dX12_carry_32 rfl ?_
  obtain ⟨x4, h2, e3, hf⟩ := bT1_spec hf
  refine G.callVi (M' := mX3_mayPass) (ci := 3) (As := [.int v1, .int v2]) (st := []) okX3_mayPass viX3_mayPass lkX12_241 rfl rfl rfl (Nat.le_of_ble_eq_true rfl) (Nat.le_of_ble_eq_true rfl) dX12_carry_33 (c_X3_mayPass X (d + 1) _ _ _ _ _ _ e3).1 (c_X3_mayPass X (d + 1) _ _ _ _ _ _ e3).2 ?_
  refine G.if_ne 42 dX12_carry_36 (by decide) (fun c5 => ?_) (fun c5 => ?_)
  · rw [if_neg c5] at hf
    refine G.aload_n dX12_carry_42 rfl ?_
    refine G.getr flX12_40 dX12_carry_43 hf (fun r6 hf => ?_)
    refine G.aload_n dX12_carry_46 rfl ?_
    refine G.getr flX12_19 dX12_carry_47 hf (fun r7 hf => ?_)
    refine G.getr flX12_119 dX12_carry_50 hf (fun r8 hf => ?_)
    obtain ⟨h9, e10, hf⟩ := Option.bind_eq_some_iff.mp hf
    refine G.callVv (M' := mX6_remember) (ci := 5) (As := [.ref r8]) (st := []) okX6_remember viX6_remember lkX12_223 rfl rfl rfl (Nat.le_of_ble_eq_true rfl) (Nat.le_of_ble_eq_true rfl) dX12_carry_53 (c_X6_remember X d _ _ _ _ e10).1 (c_X6_remember X d _ _ _ _ e10).2 ?_
    refine G.aload_n dX12_carry_56 rfl ?_
    refine G.getr flX12_19 dX12_carry_57 hf (fun r11 hf => ?_)
    refine G.iload_n dX12_carry_60 rfl ?_
    refine G.iload_n dX12_carry_61 rfl ?_
    obtain ⟨h12, e13, hf⟩ := Option.bind_eq_some_iff.mp hf
    refine G.callVv (M' := mX3_pass) (ci := 3) (As := [.int v1, .int v2]) (st := []) okX3_pass viX3_pass lkX12_244 rfl rfl rfl (Nat.le_of_ble_eq_true rfl) (Nat.le_of_ble_eq_true rfl) dX12_carry_62 (c_X3_pass X (d + 2) _ _ _ _ _ e13).1 (c_X3_pass X (d + 2) _ _ _ _ _ e13).2 ?_
    refine G.aload_n dX12_carry_65 rfl ?_
    refine G.getr flX12_19 dX12_carry_66 hf (fun r14 hf => ?_)
    refine G.getr flX12_119 dX12_carry_69 hf (fun r15 hf => ?_)
    refine G.getr flX12_202 dX12_carry_72 hf (fun r16 hf => ?_)
    refine G.iload_n dX12_carry_75 rfl ?_
    refine G.iald dX12_carry_76 hf (fun x17 hf => ?_)
    obtain ⟨hq1, hq2⟩ := Prod.mk.inj (Option.some.inj hf)
    subst hq1
    subst hq2
    exact G.iret rfl rfl dX12_carry_77
  · rw [if_pos c5] at hf
    refine G.ldc ckX12_222 dX12_carry_39 ?_
    obtain ⟨hq1, hq2⟩ := Prod.mk.inj (Option.some.inj hf)
    subst hq1
    subst hq2
    exact G.iret rfl rfl dX12_carry_41
def f_X12_carry (a0 : Nat) (a1 : Int32) (a2 : Int32) (h : AH) : Option (Int32 × AH) := if isO h 11 a0 = true then ((gr h 11 a0 1).bind fun r1 => bT1 (f_X3_hasChild r1 a1 h) fun x4 h2 => if x4 = 0 then (some ((-1000000001 : Int32), h2)) else (if a2 = (1 : Int32) then (f_X12_carry_27 a0 a1 a2 h2) else (if a2 = (-1 : Int32) then (f_X12_carry_27 a0 a1 a2 h2) else (some ((-1000000002 : Int32), h2))))) else none
set_option maxRecDepth 100000 in
set_option maxHeartbeats 4000000 in
theorem c_X12_carry (X : SX) (d : Nat) (a0 : Nat) (a1 : Int32) (a2 : Int32) (h : AH) (rr : Int32) (h' : AH) (hf : f_X12_carry a0 a1 a2 h = some (rr, h')) : isO h 11 a0 = true ∧ G X mX12_carry (d + 3) 0 [(0, .ref a0), (1, .int a1), (2, .int a2)] [] h (some rr) h' := by
  unfold f_X12_carry at hf
  by_cases ho : isO h 11 a0 = true
  · rw [if_pos ho] at hf
    refine ⟨ho, ?_⟩
    refine G.aload_n dX12_carry_0 rfl ?_
    refine G.getr flX12_19 dX12_carry_1 hf (fun r1 hf => ?_)
    refine G.iload_n dX12_carry_4 rfl ?_
    obtain ⟨x4, h2, e3, hf⟩ := bT1_spec hf
    refine G.callVi (M' := mX3_hasChild) (ci := 3) (As := [.int a1]) (st := []) okX3_hasChild viX3_hasChild lkX12_193 rfl rfl rfl (Nat.le_of_ble_eq_true rfl) (Nat.le_of_ble_eq_true rfl) dX12_carry_5 (c_X3_hasChild X (d + 2) _ _ _ _ _ e3).1 (c_X3_hasChild X (d + 2) _ _ _ _ _ e3).2 ?_
    refine G.if_ne 14 dX12_carry_8 (by decide) (fun c5 => ?_) (fun c5 => ?_)
    · rw [if_neg c5] at hf
      refine G.iload_n dX12_carry_14 rfl ?_
      refine G.iconst (v := (1 : Int32)) dX12_carry_15 (by decide) ?_
      refine G.icmp_eq 27 dX12_carry_16 (by decide) (fun c6 => ?_) (fun c6 => ?_)
      · rw [if_pos c6] at hf
        exact G.pick [0, 1, 2] rfl (j_X12_carry_27 X d a0 a1 a2 h2 _ _ hf)
      · rw [if_neg c6] at hf
        refine G.iload_n dX12_carry_19 rfl ?_
        refine G.iconst (v := (-1 : Int32)) dX12_carry_20 (by decide) ?_
        refine G.icmp_eq 27 dX12_carry_21 (by decide) (fun c7 => ?_) (fun c7 => ?_)
        · rw [if_pos c7] at hf
          exact G.pick [0, 1, 2] rfl (j_X12_carry_27 X d a0 a1 a2 h2 _ _ hf)
        · rw [if_neg c7] at hf
          refine G.ldc ckX12_72 dX12_carry_24 ?_
          obtain ⟨hq1, hq2⟩ := Prod.mk.inj (Option.some.inj hf)
          subst hq1
          subst hq2
          exact G.iret rfl rfl dX12_carry_26
    · rw [if_pos c5] at hf
      refine G.ldc ckX12_170 dX12_carry_11 ?_
      obtain ⟨hq1, hq2⟩ := Prod.mk.inj (Option.some.inj hf)
      subst hq1
      subst hq2
      exact G.iret rfl rfl dX12_carry_13
  · rw [if_neg ho] at hf
    cases hf
/-! X13_canBeCarried -/
theorem dX13_canBeCarried_0 : decode cX13_canBeCarried 0 = .ok (.aload_n 0, 1) := by decide +kernel
theorem dX13_canBeCarried_1 : decode cX13_canBeCarried 1 = .ok (.getfield 29, 3) := by decide +kernel
theorem dX13_canBeCarried_4 : decode cX13_canBeCarried 4 = .ok (.bipush 24, 2) := by decide +kernel
theorem dX13_canBeCarried_6 : decode cX13_canBeCarried 6 = .ok (.iload_n 1, 1) := by decide +kernel
theorem dX13_canBeCarried_7 : decode cX13_canBeCarried 7 = .ok (.iadd, 1) := by decide +kernel
theorem dX13_canBeCarried_8 : decode cX13_canBeCarried 8 = .ok (.iaload, 1) := by decide +kernel
theorem dX13_canBeCarried_9 : decode cX13_canBeCarried 9 = .ok (.iload_n 2, 1) := by decide +kernel
theorem dX13_canBeCarried_10 : decode cX13_canBeCarried 10 = .ok (.iadd, 1) := by decide +kernel
theorem dX13_canBeCarried_11 : decode cX13_canBeCarried 11 = .ok (.istore_n 3, 1) := by decide +kernel
theorem dX13_canBeCarried_12 : decode cX13_canBeCarried 12 = .ok (.aload_n 0, 1) := by decide +kernel
theorem dX13_canBeCarried_13 : decode cX13_canBeCarried 13 = .ok (.getfield 29, 3) := by decide +kernel
theorem dX13_canBeCarried_16 : decode cX13_canBeCarried 16 = .ok (.bipush 30, 2) := by decide +kernel
theorem dX13_canBeCarried_18 : decode cX13_canBeCarried 18 = .ok (.iload_n 1, 1) := by decide +kernel
theorem dX13_canBeCarried_19 : decode cX13_canBeCarried 19 = .ok (.iadd, 1) := by decide +kernel
theorem dX13_canBeCarried_20 : decode cX13_canBeCarried 20 = .ok (.iaload, 1) := by decide +kernel
theorem dX13_canBeCarried_21 : decode cX13_canBeCarried 21 = .ok (.ifCond .ne 19, 3) := by decide +kernel
theorem dX13_canBeCarried_24 : decode cX13_canBeCarried 24 = .ok (.iload_n 3, 1) := by decide +kernel
theorem dX13_canBeCarried_25 : decode cX13_canBeCarried 25 = .ok (.ifCond .lt 15, 3) := by decide +kernel
theorem dX13_canBeCarried_28 : decode cX13_canBeCarried 28 = .ok (.iload_n 3, 1) := by decide +kernel
theorem dX13_canBeCarried_29 : decode cX13_canBeCarried 29 = .ok (.aload_n 0, 1) := by decide +kernel
theorem dX13_canBeCarried_30 : decode cX13_canBeCarried 30 = .ok (.getfield 126, 3) := by decide +kernel
theorem dX13_canBeCarried_33 : decode cX13_canBeCarried 33 = .ok (.if_icmp .ge 7, 3) := by decide +kernel
theorem dX13_canBeCarried_36 : decode cX13_canBeCarried 36 = .ok (.iconst 1, 1) := by decide +kernel
theorem dX13_canBeCarried_37 : decode cX13_canBeCarried 37 = .ok (.goto 4, 3) := by decide +kernel
theorem dX13_canBeCarried_40 : decode cX13_canBeCarried 40 = .ok (.iconst 0, 1) := by decide +kernel
theorem dX13_canBeCarried_41 : decode cX13_canBeCarried 41 = .ok (.ireturn, 1) := by decide +kernel
def f_X13_canBeCarried (a0 : Nat) (a1 : Int32) (a2 : Int32) (h : AH) : Option (Int32 × AH) := if isO h 12 a0 = true then ((gr h 12 a0 11).bind fun r1 => (ai h 0 r1 ((24 : Int32) + a1)).bind fun x2 => (gr h 12 a0 11).bind fun r3 => (ai h 0 r3 ((30 : Int32) + a1)).bind fun x4 => if x4 = 0 then (if (x2 + a2) < 0 then (some ((0 : Int32), h)) else ((gi h 12 a0 3).bind fun x7 => if x7 ≤ (x2 + a2) then (some ((0 : Int32), h)) else (some ((1 : Int32), h)))) else (some ((0 : Int32), h))) else none
set_option maxRecDepth 100000 in
set_option maxHeartbeats 4000000 in
theorem c_X13_canBeCarried (X : SX) (d : Nat) (a0 : Nat) (a1 : Int32) (a2 : Int32) (h : AH) (rr : Int32) (h' : AH) (hf : f_X13_canBeCarried a0 a1 a2 h = some (rr, h')) : isO h 12 a0 = true ∧ G X mX13_canBeCarried d 0 [(0, .ref a0), (1, .int a1), (2, .int a2)] [] h (some rr) h' := by
  unfold f_X13_canBeCarried at hf
  by_cases ho : isO h 12 a0 = true
  · rw [if_pos ho] at hf
    refine ⟨ho, ?_⟩
    refine G.aload_n dX13_canBeCarried_0 rfl ?_
    refine G.getr flX13_29 dX13_canBeCarried_1 hf (fun r1 hf => ?_)
    refine G.bipush (v := (24 : Int32)) dX13_canBeCarried_4 (by decide) ?_
    refine G.iload_n dX13_canBeCarried_6 rfl ?_
    refine G.iadd dX13_canBeCarried_7 ?_
    refine G.iald dX13_canBeCarried_8 hf (fun x2 hf => ?_)
    refine G.iload_n dX13_canBeCarried_9 rfl ?_
    refine G.iadd dX13_canBeCarried_10 ?_
    refine G.istore_n (lv' := [(3, .int (x2 + a2)), (0, .ref a0), (1, .int a1), (2, .int a2)]) dX13_canBeCarried_11 (by decide) rfl ?_
    refine G.aload_n dX13_canBeCarried_12 rfl ?_
    refine G.getr flX13_29 dX13_canBeCarried_13 hf (fun r3 hf => ?_)
    refine G.bipush (v := (30 : Int32)) dX13_canBeCarried_16 (by decide) ?_
    refine G.iload_n dX13_canBeCarried_18 rfl ?_
    refine G.iadd dX13_canBeCarried_19 ?_
    refine G.iald dX13_canBeCarried_20 hf (fun x4 hf => ?_)
    refine G.if_ne 40 dX13_canBeCarried_21 (by decide) (fun c5 => ?_) (fun c5 => ?_)
    · rw [if_neg c5] at hf
      refine G.iconst (v := (0 : Int32)) dX13_canBeCarried_40 (by decide) ?_
      obtain ⟨hq1, hq2⟩ := Prod.mk.inj (Option.some.inj hf)
      subst hq1
      subst hq2
      exact G.iret rfl (by decide) dX13_canBeCarried_41
    · rw [if_pos c5] at hf
      refine G.iload_n dX13_canBeCarried_24 rfl ?_
      refine G.if_lt 40 dX13_canBeCarried_25 (by decide) (fun c6 => ?_) (fun c6 => ?_)
      · rw [if_pos c6] at hf
        refine G.iconst (v := (0 : Int32)) dX13_canBeCarried_40 (by decide) ?_
        obtain ⟨hq1, hq2⟩ := Prod.mk.inj (Option.some.inj hf)
        subst hq1
        subst hq2
        exact G.iret rfl (by decide) dX13_canBeCarried_41
      · rw [if_neg c6] at hf
        refine G.iload_n dX13_canBeCarried_28 rfl ?_
        refine G.aload_n dX13_canBeCarried_29 rfl ?_
        refine G.geti flX13_126 dX13_canBeCarried_30 hf (fun x7 hf => ?_)
        refine G.icmp_ge 40 dX13_canBeCarried_33 (by decide) (fun c8 => ?_) (fun c8 => ?_)
        · rw [if_pos c8] at hf
          refine G.iconst (v := (0 : Int32)) dX13_canBeCarried_40 (by decide) ?_
          obtain ⟨hq1, hq2⟩ := Prod.mk.inj (Option.some.inj hf)
          subst hq1
          subst hq2
          exact G.iret rfl (by decide) dX13_canBeCarried_41
        · rw [if_neg c8] at hf
          refine G.iconst (v := (1 : Int32)) dX13_canBeCarried_36 (by decide) ?_
          refine G.goto 41 dX13_canBeCarried_37 (by decide) ?_
          obtain ⟨hq1, hq2⟩ := Prod.mk.inj (Option.some.inj hf)
          subst hq1
          subst hq2
          exact G.iret rfl (by decide) dX13_canBeCarried_41
  · rw [if_neg ho] at hf
    cases hf
/-! X13_carries -/
theorem dX13_carries_0 : decode cX13_carries 0 = .ok (.aload_n 0, 1) := by decide +kernel
theorem dX13_carries_1 : decode cX13_carries 1 = .ok (.getfield 29, 3) := by decide +kernel
theorem dX13_carries_4 : decode cX13_carries 4 = .ok (.bipush 24, 2) := by decide +kernel
theorem dX13_carries_6 : decode cX13_carries 6 = .ok (.iload_n 1, 1) := by decide +kernel
theorem dX13_carries_7 : decode cX13_carries 7 = .ok (.iadd, 1) := by decide +kernel
theorem dX13_carries_8 : decode cX13_carries 8 = .ok (.dup2, 1) := by decide +kernel
theorem dX13_carries_9 : decode cX13_carries 9 = .ok (.iaload, 1) := by decide +kernel
theorem dX13_carries_10 : decode cX13_carries 10 = .ok (.iload_n 2, 1) := by decide +kernel
theorem dX13_carries_11 : decode cX13_carries 11 = .ok (.iadd, 1) := by decide +kernel
theorem dX13_carries_12 : decode cX13_carries 12 = .ok (.iastore, 1) := by decide +kernel
theorem dX13_carries_13 : decode cX13_carries 13 = .ok (.aload_n 0, 1) := by decide +kernel
theorem dX13_carries_14 : decode cX13_carries 14 = .ok (.getfield 29, 3) := by decide +kernel
theorem dX13_carries_17 : decode cX13_carries 17 = .ok (.bipush 36, 2) := by decide +kernel
theorem dX13_carries_19 : decode cX13_carries 19 = .ok (.iload_n 1, 1) := by decide +kernel
theorem dX13_carries_20 : decode cX13_carries 20 = .ok (.iadd, 1) := by decide +kernel
theorem dX13_carries_21 : decode cX13_carries 21 = .ok (.iconst 0, 1) := by decide +kernel
theorem dX13_carries_22 : decode cX13_carries 22 = .ok (.iastore, 1) := by decide +kernel
theorem dX13_carries_23 : decode cX13_carries 23 = .ok (.return_, 1) := by decide +kernel
def f_X13_carries (a0 : Nat) (a1 : Int32) (a2 : Int32) (h : AH) : Option (AH) := if isO h 12 a0 = true then ((gr h 12 a0 11).bind fun r1 => (ai h 0 r1 ((24 : Int32) + a1)).bind fun x2 => (aw h 0 r1 ((24 : Int32) + a1) (x2 + a2)).bind fun h3 => (gr h3 12 a0 11).bind fun r4 => (aw h3 0 r4 ((36 : Int32) + a1) (0 : Int32)).bind fun h5 => some h5) else none
set_option maxRecDepth 100000 in
set_option maxHeartbeats 4000000 in
theorem c_X13_carries (X : SX) (d : Nat) (a0 : Nat) (a1 : Int32) (a2 : Int32) (h : AH) (h' : AH) (hf : f_X13_carries a0 a1 a2 h = some h') : isO h 12 a0 = true ∧ G X mX13_carries d 0 [(0, .ref a0), (1, .int a1), (2, .int a2)] [] h none h' := by
  unfold f_X13_carries at hf
  by_cases ho : isO h 12 a0 = true
  · rw [if_pos ho] at hf
    refine ⟨ho, ?_⟩
    refine G.aload_n dX13_carries_0 rfl ?_
    refine G.getr flX13_29 dX13_carries_1 hf (fun r1 hf => ?_)
    refine G.bipush (v := (24 : Int32)) dX13_carries_4 (by decide) ?_
    refine G.iload_n dX13_carries_6 rfl ?_
    refine G.iadd dX13_carries_7 ?_
    refine G.dup2 dX13_carries_8 rfl rfl ?_
    refine G.iald dX13_carries_9 hf (fun x2 hf => ?_)
    refine G.iload_n dX13_carries_10 rfl ?_
    refine G.iadd dX13_carries_11 ?_
    refine G.iast dX13_carries_12 hf (fun h3 hf => ?_)
    refine G.aload_n dX13_carries_13 rfl ?_
    refine G.getr flX13_29 dX13_carries_14 hf (fun r4 hf => ?_)
    refine G.bipush (v := (36 : Int32)) dX13_carries_17 (by decide) ?_
    refine G.iload_n dX13_carries_19 rfl ?_
    refine G.iadd dX13_carries_20 ?_
    refine G.iconst (v := (0 : Int32)) dX13_carries_21 (by decide) ?_
    refine G.iast dX13_carries_22 hf (fun h5 hf => ?_)
    have hq := Option.some.inj hf
    subst hq
    exact G.vret rfl dX13_carries_23
  · rw [if_neg ho] at hf
    cases hf
/-! X13_carry -/
theorem dX13_carry_0 : decode cX13_carry 0 = .ok (.aload_n 0, 1) := by decide +kernel
theorem dX13_carry_1 : decode cX13_carry 1 = .ok (.iload_n 1, 1) := by decide +kernel
theorem dX13_carry_2 : decode cX13_carry 2 = .ok (.invokevirtual 181, 3) := by decide +kernel
theorem dX13_carry_5 : decode cX13_carry 5 = .ok (.ifCond .ne 6, 3) := by decide +kernel
theorem dX13_carry_8 : decode cX13_carry 8 = .ok (.ldc 180, 2) := by decide +kernel
theorem dX13_carry_10 : decode cX13_carry 10 = .ok (.ireturn, 1) := by decide +kernel
theorem dX13_carry_11 : decode cX13_carry 11 = .ok (.iload_n 2, 1) := by decide +kernel
theorem dX13_carry_12 : decode cX13_carry 12 = .ok (.iconst 1, 1) := by decide +kernel
theorem dX13_carry_13 : decode cX13_carry 13 = .ok (.if_icmp .eq 11, 3) := by decide +kernel
theorem dX13_carry_16 : decode cX13_carry 16 = .ok (.iload_n 2, 1) := by decide +kernel
theorem dX13_carry_17 : decode cX13_carry 17 = .ok (.iconst (-1), 1) := by decide +kernel
theorem dX13_carry_18 : decode cX13_carry 18 = .ok (.if_icmp .eq 6, 3) := by decide +kernel
theorem dX13_carry_21 : decode cX13_carry 21 = .ok (.ldc 81, 2) := by decide +kernel
theorem dX13_carry_23 : decode cX13_carry 23 = .ok (.ireturn, 1) := by decide +kernel
theorem dX13_carry_24 : decode cX13_carry 24 = .ok (.aload_n 0, 1) := by decide +kernel
theorem dX13_carry_25 : decode cX13_carry 25 = .ok (.iload_n 1, 1) := by decide +kernel
theorem dX13_carry_26 : decode cX13_carry 26 = .ok (.iload_n 2, 1) := by decide +kernel
theorem dX13_carry_27 : decode cX13_carry 27 = .ok (.invokevirtual 201, 3) := by decide +kernel
theorem dX13_carry_30 : decode cX13_carry 30 = .ok (.ifCond .ne 6, 3) := by decide +kernel
theorem dX13_carry_33 : decode cX13_carry 33 = .ok (.ldc 184, 2) := by decide +kernel
theorem dX13_carry_35 : decode cX13_carry 35 = .ok (.ireturn, 1) := by decide +kernel
theorem dX13_carry_36 : decode cX13_carry 36 = .ok (.aload_n 0, 1) := by decide +kernel
theorem dX13_carry_37 : decode cX13_carry 37 = .ok (.invokevirtual 185, 3) := by decide +kernel
theorem dX13_carry_40 : decode cX13_carry 40 = .ok (.aload_n 0, 1) := by decide +kernel
theorem dX13_carry_41 : decode cX13_carry 41 = .ok (.iload_n 1, 1) := by decide +kernel
theorem dX13_carry_42 : decode cX13_carry 42 = .ok (.iload_n 2, 1) := by decide +kernel
theorem dX13_carry_43 : decode cX13_carry 43 = .ok (.invokevirtual 204, 3) := by decide +kernel
theorem dX13_carry_46 : decode cX13_carry 46 = .ok (.aload_n 0, 1) := by decide +kernel
theorem dX13_carry_47 : decode cX13_carry 47 = .ok (.getfield 29, 3) := by decide +kernel
theorem dX13_carry_50 : decode cX13_carry 50 = .ok (.bipush 24, 2) := by decide +kernel
theorem dX13_carry_52 : decode cX13_carry 52 = .ok (.iload_n 1, 1) := by decide +kernel
theorem dX13_carry_53 : decode cX13_carry 53 = .ok (.iadd, 1) := by decide +kernel
theorem dX13_carry_54 : decode cX13_carry 54 = .ok (.iaload, 1) := by decide +kernel
theorem dX13_carry_55 : decode cX13_carry 55 = .ok (.ireturn, 1) := by decide +kernel
def f_X13_carry_24 (v0 : Nat) (v1 : Int32) (v2 : Int32) (h : AH) : Option (Int32 × AH) := bT1 (f_X13_canBeCarried v0 v1 v2 h) fun x3 h1 => if x3 = 0 then (some ((-1000000003 : Int32), h1)) else ((f_X13_remembers v0 h1).bind fun h5 => (f_X13_carries v0 v1 v2 h5).bind fun h7 => (gr h7 12 v0 11).bind fun r9 => (ai h7 0 r9 ((24 : Int32) + v1)).bind fun x10 => some (x10, h7))
set_option maxRecDepth 100000 in
set_option maxHeartbeats 4000000 in
theorem j_X13_carry_24 (X : SX) (d : Nat) (v0 : Nat) (v1 : Int32) (v2 : Int32) (h : AH) (rr : Int32) (h' : AH) (hf : f_X13_carry_24 v0 v1 v2 h = some (rr, h')) : G X mX13_carry (d + 1) 24 [(0, .ref v0), (1, .int v1), (2, .int v2)] [] h (some rr) h' := by
  unfold f_X13_carry_24 at hf
  refine G.aload_n dX13_carry_24 rfl ?_
  refine G.iload_n dX13_carry_25 rfl ?_
  refine G.iload_n dX13_carry_26 rfl ?_
  obtain ⟨x3, h1, e2, hf⟩ := bT1_spec hf
  refine G.callVi (M' := mX13_canBeCarried) (ci := 12) (As := [.int v1, .int v2]) (st := []) okX13_canBeCarried viX13_canBeCarried lkX13_201 rfl rfl rfl (Nat.le_of_ble_eq_true rfl) (Nat.le_of_ble_eq_true rfl) dX13_carry_27 (c_X13_canBeCarried X d _ _ _ _ _ _ e2).1 (c_X13_canBeCarried X d _ _ _ _ _ _ e2).2 ?_
  refine G.if_ne 36 dX13_carry_30 (by decide) (fun c4 => ?_) (fun c4 => ?_)
  · rw [if_neg c4] at hf
    refine G.aload_n dX13_carry_36 rfl ?_
    obtain ⟨h5, e6, hf⟩ := Option.bind_eq_some_iff.mp hf
    refine G.callVv (M' := mX13_remembers) (ci := 12) (As := []) (st := []) okX13_remembers viX13_remembers lkX13_185 rfl rfl rfl (Nat.le_of_ble_eq_true rfl) (Nat.le_of_ble_eq_true rfl) dX13_carry_37 (c_X13_remembers X d _ _ _ e6).1 (c_X13_remembers X d _ _ _ e6).2 ?_
    refine G.aload_n dX13_carry_40 rfl ?_
    refine G.iload_n dX13_carry_41 rfl ?_
    refine G.iload_n dX13_carry_42 rfl ?_
    obtain ⟨h7, e8, hf⟩ := Option.bind_eq_some_iff.mp hf
    refine G.callVv (M' := mX13_carries) (ci := 12) (As := [.int v1, .int v2]) (st := []) okX13_carries viX13_carries lkX13_204 rfl rfl rfl (Nat.le_of_ble_eq_true rfl) (Nat.le_of_ble_eq_true rfl) dX13_carry_43 (c_X13_carries X d _ _ _ _ _ e8).1 (c_X13_carries X d _ _ _ _ _ e8).2 ?_
    refine G.aload_n dX13_carry_46 rfl ?_
    refine G.getr flX13_29 dX13_carry_47 hf (fun r9 hf => ?_)
    refine G.bipush (v := (24 : Int32)) dX13_carry_50 (by decide) ?_
    refine G.iload_n dX13_carry_52 rfl ?_
    refine G.iadd dX13_carry_53 ?_
    refine G.iald dX13_carry_54 hf (fun x10 hf => ?_)
    obtain ⟨hq1, hq2⟩ := Prod.mk.inj (Option.some.inj hf)
    subst hq1
    subst hq2
    exact G.iret rfl rfl dX13_carry_55
  · rw [if_pos c4] at hf
    refine G.ldc ckX13_184 dX13_carry_33 ?_
    obtain ⟨hq1, hq2⟩ := Prod.mk.inj (Option.some.inj hf)
    subst hq1
    subst hq2
    exact G.iret rfl rfl dX13_carry_35
def f_X13_carry (a0 : Nat) (a1 : Int32) (a2 : Int32) (h : AH) : Option (Int32 × AH) := if isO h 12 a0 = true then (bT1 (f_X13_isChild a0 a1 h) fun x3 h1 => if x3 = 0 then (some ((-1000000001 : Int32), h1)) else (if a2 = (1 : Int32) then (f_X13_carry_24 a0 a1 a2 h1) else (if a2 = (-1 : Int32) then (f_X13_carry_24 a0 a1 a2 h1) else (some ((-1000000002 : Int32), h1))))) else none
set_option maxRecDepth 100000 in
set_option maxHeartbeats 4000000 in
theorem c_X13_carry (X : SX) (d : Nat) (a0 : Nat) (a1 : Int32) (a2 : Int32) (h : AH) (rr : Int32) (h' : AH) (hf : f_X13_carry a0 a1 a2 h = some (rr, h')) : isO h 12 a0 = true ∧ G X mX13_carry (d + 1) 0 [(0, .ref a0), (1, .int a1), (2, .int a2)] [] h (some rr) h' := by
  unfold f_X13_carry at hf
  by_cases ho : isO h 12 a0 = true
  · rw [if_pos ho] at hf
    refine ⟨ho, ?_⟩
    refine G.aload_n dX13_carry_0 rfl ?_
    refine G.iload_n dX13_carry_1 rfl ?_
    obtain ⟨x3, h1, e2, hf⟩ := bT1_spec hf
    refine G.callVi (M' := mX13_isChild) (ci := 12) (As := [.int a1]) (st := []) okX13_isChild viX13_isChild lkX13_181 rfl rfl rfl (Nat.le_of_ble_eq_true rfl) (Nat.le_of_ble_eq_true rfl) dX13_carry_2 (c_X13_isChild X d _ _ _ _ _ e2).1 (c_X13_isChild X d _ _ _ _ _ e2).2 ?_
    refine G.if_ne 11 dX13_carry_5 (by decide) (fun c4 => ?_) (fun c4 => ?_)
    · rw [if_neg c4] at hf
      refine G.iload_n dX13_carry_11 rfl ?_
      refine G.iconst (v := (1 : Int32)) dX13_carry_12 (by decide) ?_
      refine G.icmp_eq 24 dX13_carry_13 (by decide) (fun c5 => ?_) (fun c5 => ?_)
      · rw [if_pos c5] at hf
        exact G.pick [0, 1, 2] rfl (j_X13_carry_24 X d a0 a1 a2 h1 _ _ hf)
      · rw [if_neg c5] at hf
        refine G.iload_n dX13_carry_16 rfl ?_
        refine G.iconst (v := (-1 : Int32)) dX13_carry_17 (by decide) ?_
        refine G.icmp_eq 24 dX13_carry_18 (by decide) (fun c6 => ?_) (fun c6 => ?_)
        · rw [if_pos c6] at hf
          exact G.pick [0, 1, 2] rfl (j_X13_carry_24 X d a0 a1 a2 h1 _ _ hf)
        · rw [if_neg c6] at hf
          refine G.ldc ckX13_81 dX13_carry_21 ?_
          obtain ⟨hq1, hq2⟩ := Prod.mk.inj (Option.some.inj hf)
          subst hq1
          subst hq2
          exact G.iret rfl rfl dX13_carry_23
    · rw [if_pos c4] at hf
      refine G.ldc ckX13_180 dX13_carry_8 ?_
      obtain ⟨hq1, hq2⟩ := Prod.mk.inj (Option.some.inj hf)
      subst hq1
      subst hq2
      exact G.iret rfl rfl dX13_carry_10
  · rw [if_neg ho] at hf
    cases hf
/-! X12_refuseTimes -/
theorem dX12_refuseTimes_0 : decode cX12_refuseTimes 0 = .ok (.iload_n 1, 1) := by decide +kernel
theorem dX12_refuseTimes_1 : decode cX12_refuseTimes 1 = .ok (.iconst 1, 1) := by decide +kernel
theorem dX12_refuseTimes_2 : decode cX12_refuseTimes 2 = .ok (.if_icmp .lt 9, 3) := by decide +kernel
theorem dX12_refuseTimes_5 : decode cX12_refuseTimes 5 = .ok (.iload_n 1, 1) := by decide +kernel
theorem dX12_refuseTimes_6 : decode cX12_refuseTimes 6 = .ok (.bipush 20, 2) := by decide +kernel
theorem dX12_refuseTimes_8 : decode cX12_refuseTimes 8 = .ok (.if_icmp .le 6, 3) := by decide +kernel
theorem dX12_refuseTimes_11 : decode cX12_refuseTimes 11 = .ok (.ldc 72, 2) := by decide +kernel
theorem dX12_refuseTimes_13 : decode cX12_refuseTimes 13 = .ok (.ireturn, 1) := by decide +kernel
theorem dX12_refuseTimes_14 : decode cX12_refuseTimes 14 = .ok (.aload_n 0, 1) := by decide +kernel
theorem dX12_refuseTimes_15 : decode cX12_refuseTimes 15 = .ok (.getfield 19, 3) := by decide +kernel
theorem dX12_refuseTimes_18 : decode cX12_refuseTimes 18 = .ok (.getfield 86, 3) := by decide +kernel
theorem dX12_refuseTimes_21 : decode cX12_refuseTimes 21 = .ok (.getfield 110, 3) := by decide +kernel
theorem dX12_refuseTimes_24 : decode cX12_refuseTimes 24 = .ok (.ifCond .ne 6, 3) := by decide +kernel
theorem dX12_refuseTimes_27 : decode cX12_refuseTimes 27 = .ok (.ldc 222, 2) := by decide +kernel
theorem dX12_refuseTimes_29 : decode cX12_refuseTimes 29 = .ok (.ireturn, 1) := by decide +kernel
theorem dX12_refuseTimes_30 : decode cX12_refuseTimes 30 = .ok (.aload_n 0, 1) := by decide +kernel
theorem dX12_refuseTimes_31 : decode cX12_refuseTimes 31 = .ok (.getfield 19, 3) := by decide +kernel
theorem dX12_refuseTimes_34 : decode cX12_refuseTimes 34 = .ok (.getfield 119, 3) := by decide +kernel
theorem dX12_refuseTimes_37 : decode cX12_refuseTimes 37 = .ok (.getfield 123, 3) := by decide +kernel
theorem dX12_refuseTimes_40 : decode cX12_refuseTimes 40 = .ok (.sipush 9000, 3) := by decide +kernel
theorem dX12_refuseTimes_43 : decode cX12_refuseTimes 43 = .ok (.if_icmp .le 8, 3) := by decide +kernel
theorem dX12_refuseTimes_46 : decode cX12_refuseTimes 46 = .ok (.ldc 77, 2) := by decide +kernel
theorem dX12_refuseTimes_48 : decode cX12_refuseTimes 48 = .ok (.goto 4, 3) := by decide +kernel
theorem dX12_refuseTimes_51 : decode cX12_refuseTimes 51 = .ok (.iconst 0, 1) := by decide +kernel
theorem dX12_refuseTimes_52 : decode cX12_refuseTimes 52 = .ok (.ireturn, 1) := by decide +kernel
def f_X12_refuseTimes (a0 : Nat) (a1 : Int32) (h : AH) : Option (Int32 × AH) := if isO h 11 a0 = true then (if a1 < (1 : Int32) then (some ((-1000000002 : Int32), h)) else (if a1 ≤ (20 : Int32) then ((gr h 11 a0 1).bind fun r3 => (gr h 3 r3 1).bind fun r4 => (gi h 9 r4 7).bind fun x5 => if x5 = 0 then (some ((-1000000003 : Int32), h)) else ((gr h 11 a0 1).bind fun r7 => (gr h 3 r7 0).bind fun r8 => (gi h 4 r8 8).bind fun x9 => if x9 ≤ (9000 : Int32) then (some ((0 : Int32), h)) else (some ((-1000000004 : Int32), h)))) else (some ((-1000000002 : Int32), h)))) else none
set_option maxRecDepth 100000 in
set_option maxHeartbeats 4000000 in
theorem c_X12_refuseTimes (X : SX) (d : Nat) (a0 : Nat) (a1 : Int32) (h : AH) (rr : Int32) (h' : AH) (hf : f_X12_refuseTimes a0 a1 h = some (rr, h')) : isO h 11 a0 = true ∧ G X mX12_refuseTimes d 0 [(0, .ref a0), (1, .int a1)] [] h (some rr) h' := by
  unfold f_X12_refuseTimes at hf
  by_cases ho : isO h 11 a0 = true
  · rw [if_pos ho] at hf
    refine ⟨ho, ?_⟩
    refine G.iload_n dX12_refuseTimes_0 rfl ?_
    refine G.iconst (v := (1 : Int32)) dX12_refuseTimes_1 (by decide) ?_
    refine G.icmp_lt 11 dX12_refuseTimes_2 (by decide) (fun c1 => ?_) (fun c1 => ?_)
    · rw [if_pos c1] at hf
      refine G.ldc ckX12_72 dX12_refuseTimes_11 ?_
      obtain ⟨hq1, hq2⟩ := Prod.mk.inj (Option.some.inj hf)
      subst hq1
      subst hq2
      exact G.iret rfl rfl dX12_refuseTimes_13
    · rw [if_neg c1] at hf
      refine G.iload_n dX12_refuseTimes_5 rfl ?_
      refine G.bipush (v := (20 : Int32)) dX12_refuseTimes_6 (by decide) ?_
      refine G.icmp_le 14 dX12_refuseTimes_8 (by decide) (fun c2 => ?_) (fun c2 => ?_)
      · rw [if_pos c2] at hf
        refine G.aload_n dX12_refuseTimes_14 rfl ?_
        refine G.getr flX12_19 dX12_refuseTimes_15 hf (fun r3 hf => ?_)
        refine G.getr flX12_86 dX12_refuseTimes_18 hf (fun r4 hf => ?_)
        refine G.geti flX12_110 dX12_refuseTimes_21 hf (fun x5 hf => ?_)
        refine G.if_ne 30 dX12_refuseTimes_24 (by decide) (fun c6 => ?_) (fun c6 => ?_)
        · rw [if_neg c6] at hf
          refine G.aload_n dX12_refuseTimes_30 rfl ?_
          refine G.getr flX12_19 dX12_refuseTimes_31 hf (fun r7 hf => ?_)
          refine G.getr flX12_119 dX12_refuseTimes_34 hf (fun r8 hf => ?_)
          refine G.geti flX12_123 dX12_refuseTimes_37 hf (fun x9 hf => ?_)
          refine G.sipush (v := (9000 : Int32)) dX12_refuseTimes_40 (by decide) ?_
          refine G.icmp_le 51 dX12_refuseTimes_43 (by decide) (fun c10 => ?_) (fun c10 => ?_)
          · rw [if_pos c10] at hf
            refine G.iconst (v := (0 : Int32)) dX12_refuseTimes_51 (by decide) ?_
            obtain ⟨hq1, hq2⟩ := Prod.mk.inj (Option.some.inj hf)
            subst hq1
            subst hq2
            exact G.iret rfl rfl dX12_refuseTimes_52
          · rw [if_neg c10] at hf
            refine G.ldc ckX12_77 dX12_refuseTimes_46 ?_
            refine G.goto 52 dX12_refuseTimes_48 (by decide) ?_
            obtain ⟨hq1, hq2⟩ := Prod.mk.inj (Option.some.inj hf)
            subst hq1
            subst hq2
            exact G.iret rfl rfl dX12_refuseTimes_52
        · rw [if_pos c6] at hf
          refine G.ldc ckX12_222 dX12_refuseTimes_27 ?_
          obtain ⟨hq1, hq2⟩ := Prod.mk.inj (Option.some.inj hf)
          subst hq1
          subst hq2
          exact G.iret rfl rfl dX12_refuseTimes_29
      · rw [if_neg c2] at hf
        refine G.ldc ckX12_72 dX12_refuseTimes_11 ?_
        obtain ⟨hq1, hq2⟩ := Prod.mk.inj (Option.some.inj hf)
        subst hq1
        subst hq2
        exact G.iret rfl rfl dX12_refuseTimes_13
  · rw [if_neg ho] at hf
    cases hf
/-! X3_addYear -/
theorem dX3_addYear_0 : decode cX3_addYear 0 = .ok (.iconst 0, 1) := by decide +kernel
theorem dX3_addYear_1 : decode cX3_addYear 1 = .ok (.istore_n 1, 1) := by decide +kernel
theorem dX3_addYear_2 : decode cX3_addYear 2 = .ok (.iload_n 1, 1) := by decide +kernel
theorem dX3_addYear_3 : decode cX3_addYear 3 = .ok (.aload_n 0, 1) := by decide +kernel
theorem dX3_addYear_4 : decode cX3_addYear 4 = .ok (.getfield 21, 3) := by decide +kernel
theorem dX3_addYear_7 : decode cX3_addYear 7 = .ok (.getfield 35, 3) := by decide +kernel
theorem dX3_addYear_10 : decode cX3_addYear 10 = .ok (.if_icmp .ge 75, 3) := by decide +kernel
theorem dX3_addYear_13 : decode cX3_addYear 13 = .ok (.aload_n 0, 1) := by decide +kernel
theorem dX3_addYear_14 : decode cX3_addYear 14 = .ok (.getfield 12, 3) := by decide +kernel
theorem dX3_addYear_17 : decode cX3_addYear 17 = .ok (.getfield 38, 3) := by decide +kernel
theorem dX3_addYear_20 : decode cX3_addYear 20 = .ok (.iload_n 1, 1) := by decide +kernel
theorem dX3_addYear_21 : decode cX3_addYear 21 = .ok (.bipush 99, 2) := by decide +kernel
theorem dX3_addYear_23 : decode cX3_addYear 23 = .ok (.aload_n 0, 1) := by decide +kernel
theorem dX3_addYear_24 : decode cX3_addYear 24 = .ok (.getfield 12, 3) := by decide +kernel
theorem dX3_addYear_27 : decode cX3_addYear 27 = .ok (.getfield 38, 3) := by decide +kernel
theorem dX3_addYear_30 : decode cX3_addYear 30 = .ok (.iload_n 1, 1) := by decide +kernel
theorem dX3_addYear_31 : decode cX3_addYear 31 = .ok (.iaload, 1) := by decide +kernel
theorem dX3_addYear_32 : decode cX3_addYear 32 = .ok (.iconst 1, 1) := by decide +kernel
theorem dX3_addYear_33 : decode cX3_addYear 33 = .ok (.iadd, 1) := by decide +kernel
theorem dX3_addYear_34 : decode cX3_addYear 34 = .ok (.invokestatic 122, 3) := by decide +kernel
theorem dX3_addYear_37 : decode cX3_addYear 37 = .ok (.iastore, 1) := by decide +kernel
theorem dX3_addYear_38 : decode cX3_addYear 38 = .ok (.aload_n 0, 1) := by decide +kernel
theorem dX3_addYear_39 : decode cX3_addYear 39 = .ok (.getfield 12, 3) := by decide +kernel
theorem dX3_addYear_42 : decode cX3_addYear 42 = .ok (.getfield 38, 3) := by decide +kernel
theorem dX3_addYear_45 : decode cX3_addYear 45 = .ok (.iload_n 1, 1) := by decide +kernel
theorem dX3_addYear_46 : decode cX3_addYear 46 = .ok (.iaload, 1) := by decide +kernel
theorem dX3_addYear_47 : decode cX3_addYear 47 = .ok (.bipush 50, 2) := by decide +kernel
theorem dX3_addYear_49 : decode cX3_addYear 49 = .ok (.if_icmp .ne 30, 3) := by decide +kernel
theorem dX3_addYear_52 : decode cX3_addYear 52 = .ok (.aload_n 0, 1) := by decide +kernel
theorem dX3_addYear_53 : decode cX3_addYear 53 = .ok (.getfield 12, 3) := by decide +kernel
theorem dX3_addYear_56 : decode cX3_addYear 56 = .ok (.getfield 43, 3) := by decide +kernel
theorem dX3_addYear_59 : decode cX3_addYear 59 = .ok (.iload_n 1, 1) := by decide +kernel
theorem dX3_addYear_60 : decode cX3_addYear 60 = .ok (.iaload, 1) := by decide +kernel
theorem dX3_addYear_61 : decode cX3_addYear 61 = .ok (.ifCond .le 18, 3) := by decide +kernel
theorem dX3_addYear_64 : decode cX3_addYear 64 = .ok (.aload_n 0, 1) := by decide +kernel
theorem dX3_addYear_65 : decode cX3_addYear 65 = .ok (.getfield 12, 3) := by decide +kernel
theorem dX3_addYear_68 : decode cX3_addYear 68 = .ok (.dup, 1) := by decide +kernel
theorem dX3_addYear_69 : decode cX3_addYear 69 = .ok (.getfield 29, 3) := by decide +kernel
theorem dX3_addYear_72 : decode cX3_addYear 72 = .ok (.iconst 1, 1) := by decide +kernel
theorem dX3_addYear_73 : decode cX3_addYear 73 = .ok (.iload_n 1, 1) := by decide +kernel
theorem dX3_addYear_74 : decode cX3_addYear 74 = .ok (.ishl, 1) := by decide +kernel
theorem dX3_addYear_75 : decode cX3_addYear 75 = .ok (.ior, 1) := by decide +kernel
theorem dX3_addYear_76 : decode cX3_addYear 76 = .ok (.putfield 29, 3) := by decide +kernel
theorem dX3_addYear_79 : decode cX3_addYear 79 = .ok (.iinc 1 1, 3) := by decide +kernel
theorem dX3_addYear_82 : decode cX3_addYear 82 = .ok (.goto (-80), 3) := by decide +kernel
theorem dX3_addYear_85 : decode cX3_addYear 85 = .ok (.return_, 1) := by decide +kernel
def F_X3_addYear_L2 (rec : Nat → Int32 → AH → Option (AH)) (v0 : Nat) (v1 : Int32) (h : AH) : Option (AH) := (gr h 3 v0 1).bind fun r1 => (gi h 9 r1 9).bind fun x2 => if x2 ≤ v1 then (some (h)) else ((gr h 3 v0 0).bind fun r4 => (gr h 4 r4 0).bind fun r5 => (gr h 3 v0 0).bind fun r6 => (gr h 4 r6 0).bind fun r7 => (ai h 0 r7 v1).bind fun x8 => (aw h 0 r5 v1 (if (x8 + (1 : Int32)) < (99 : Int32) then (x8 + (1 : Int32)) else (99 : Int32))).bind fun h9 => (gr h9 3 v0 0).bind fun r10 => (gr h9 4 r10 0).bind fun r11 => (ai h9 0 r11 v1).bind fun x12 => if x12 = (50 : Int32) then ((gr h9 3 v0 0).bind fun r14 => (gr h9 4 r14 1).bind fun r15 => (ai h9 0 r15 v1).bind fun x16 => if x16 ≤ 0 then (rec v0 (v1 + 1) h9) else ((gr h9 3 v0 0).bind fun r18 => (gi h9 4 r18 9).bind fun x19 => (pf h9 4 r18 9 (.int (x19 ||| ((1 : Int32) <<< (v1 &&& 31))))).bind fun h20 => rec v0 (v1 + 1) h20)) else (rec v0 (v1 + 1) h9))
def f_X3_addYear_L2 : Nat → Nat → Int32 → AH → Option (AH)
  | 0 => fun _ _ _ => none
  | n + 1 => F_X3_addYear_L2 (f_X3_addYear_L2 n)
set_option maxRecDepth 100000 in
set_option maxHeartbeats 4000000 in
theorem lx_X3_addYear_L2 (X : SX) (d : Nat) : ∀ n (rv : Option Int32) (h' : AH), ∀ (v0 : Nat) (v1 : Int32) (h : AH)  (h1 : AH), f_X3_addYear_L2 n v0 v1 h = some (h1) → G X mX3_addYear (d + 1) 85 [] [] h1 rv h' → G X mX3_addYear (d + 1) 2 [(0, .ref v0), (1, .int v1)] [] h rv h' := by
  intro n
  induction n with
  | zero =>
    intro rv h' v0 v1 h h1 hf hE
    cases hf
  | succ n ihf =>
    intro rv h' v0 v1 h h1 hf hE
    replace hf : F_X3_addYear_L2 (f_X3_addYear_L2 n) v0 v1 h = some (h1) := hf
    unfold F_X3_addYear_L2 at hf
    have ih := ihf rv h'
    refine G.iload_n dX3_addYear_2 rfl ?_
    refine G.aload_n dX3_addYear_3 rfl ?_
    refine G.getr flX3_21 dX3_addYear_4 hf (fun r1 hf => ?_)
    refine G.geti flX3_35 dX3_addYear_7 hf (fun x2 hf => ?_)
    refine G.icmp_ge 85 dX3_addYear_10 (by decide) (fun c3 => ?_) (fun c3 => ?_)
    · rw [if_pos c3] at hf
      have w0 := Option.some.inj hf
      subst w0
      exact G.pick [] rfl hE
    · rw [if_neg c3] at hf
      refine G.aload_n dX3_addYear_13 rfl ?_
      refine G.getr flX3_12 dX3_addYear_14 hf (fun r4 hf => ?_)
      refine G.getr flX3_38 dX3_addYear_17 hf (fun r5 hf => ?_)
      refine G.iload_n dX3_addYear_20 rfl ?_
      refine G.bipush (v := (99 : Int32)) dX3_addYear_21 (by decide) ?_
      refine G.aload_n dX3_addYear_23 rfl ?_
      refine G.getr flX3_12 dX3_addYear_24 hf (fun r6 hf => ?_)
      refine G.getr flX3_38 dX3_addYear_27 hf (fun r7 hf => ?_)
      refine G.iload_n dX3_addYear_30 rfl ?_
      refine G.iald dX3_addYear_31 hf (fun x8 hf => ?_)
      refine G.iconst (v := (1 : Int32)) dX3_addYear_32 (by decide) ?_
      refine G.iadd dX3_addYear_33 ?_
      refine G.min lkX3_122 (Nat.le_of_ble_eq_true rfl) dX3_addYear_34 ?_
      refine G.iast dX3_addYear_37 hf (fun h9 hf => ?_)
      refine G.aload_n dX3_addYear_38 rfl ?_
      refine G.getr flX3_12 dX3_addYear_39 hf (fun r10 hf => ?_)
      refine G.getr flX3_38 dX3_addYear_42 hf (fun r11 hf => ?_)
      refine G.iload_n dX3_addYear_45 rfl ?_
      refine G.iald dX3_addYear_46 hf (fun x12 hf => ?_)
      refine G.bipush (v := (50 : Int32)) dX3_addYear_47 (by decide) ?_
      refine G.icmp_ne 79 dX3_addYear_49 (by decide) (fun c13 => ?_) (fun c13 => ?_)
      · rw [if_neg c13] at hf
        refine G.iinc (v := (v1 + 1)) (lv' := [(1, .int (v1 + 1)), (0, .ref v0)]) dX3_addYear_79 rfl rfl (by decide) rfl ?_
        refine G.goto 2 dX3_addYear_82 (by decide) ?_
        exact G.pick [1, 0] rfl (ih v0 (v1 + 1) h9 _ hf hE)
      · rw [if_pos c13] at hf
        refine G.aload_n dX3_addYear_52 rfl ?_
        refine G.getr flX3_12 dX3_addYear_53 hf (fun r14 hf => ?_)
        refine G.getr flX3_43 dX3_addYear_56 hf (fun r15 hf => ?_)
        refine G.iload_n dX3_addYear_59 rfl ?_
        refine G.iald dX3_addYear_60 hf (fun x16 hf => ?_)
        refine G.if_le 79 dX3_addYear_61 (by decide) (fun c17 => ?_) (fun c17 => ?_)
        · rw [if_pos c17] at hf
          refine G.iinc (v := (v1 + 1)) (lv' := [(1, .int (v1 + 1)), (0, .ref v0)]) dX3_addYear_79 rfl rfl (by decide) rfl ?_
          refine G.goto 2 dX3_addYear_82 (by decide) ?_
          exact G.pick [1, 0] rfl (ih v0 (v1 + 1) h9 _ hf hE)
        · rw [if_neg c17] at hf
          refine G.aload_n dX3_addYear_64 rfl ?_
          refine G.getr flX3_12 dX3_addYear_65 hf (fun r18 hf => ?_)
          refine G.dup dX3_addYear_68 rfl ?_
          refine G.geti flX3_29 dX3_addYear_69 hf (fun x19 hf => ?_)
          refine G.iconst (v := (1 : Int32)) dX3_addYear_72 (by decide) ?_
          refine G.iload_n dX3_addYear_73 rfl ?_
          refine G.ishl dX3_addYear_74 ?_
          refine G.ior dX3_addYear_75 ?_
          refine G.put flX3_29 (Or.inl rfl) (fun _ _ => ⟨rfl, rfl⟩) dX3_addYear_76 hf (fun h20 hf => ?_)
          refine G.iinc (v := (v1 + 1)) (lv' := [(1, .int (v1 + 1)), (0, .ref v0)]) dX3_addYear_79 rfl rfl (by decide) rfl ?_
          refine G.goto 2 dX3_addYear_82 (by decide) ?_
          exact G.pick [1, 0] rfl (ih v0 (v1 + 1) h20 _ hf hE)
theorem l_X3_addYear_L2 (X : SX) (d : Nat) (rv : Option Int32) (h' : AH) (n : Nat) : ∀ (v0 : Nat) (v1 : Int32) (h : AH)  (h1 : AH), f_X3_addYear_L2 n v0 v1 h = some (h1) → G X mX3_addYear (d + 1) 85 [] [] h1 rv h' → G X mX3_addYear (d + 1) 2 [(0, .ref v0), (1, .int v1)] [] h rv h' := lx_X3_addYear_L2 X d n rv h'
def f_X3_addYear (a0 : Nat) (h : AH) : Option (AH) := if isO h 3 a0 = true then ((f_X3_addYear_L2 1000000 a0 (0 : Int32) h).bind fun h1 => some h1) else none
set_option maxRecDepth 100000 in
set_option maxHeartbeats 4000000 in
theorem c_X3_addYear (X : SX) (d : Nat) (a0 : Nat) (h : AH) (h' : AH) (hf : f_X3_addYear a0 h = some h') : isO h 3 a0 = true ∧ G X mX3_addYear (d + 1) 0 [(0, .ref a0)] [] h none h' := by
  unfold f_X3_addYear at hf
  by_cases ho : isO h 3 a0 = true
  · rw [if_pos ho] at hf
    refine ⟨ho, ?_⟩
    refine G.iconst (v := (0 : Int32)) dX3_addYear_0 (by decide) ?_
    refine G.istore_n (lv' := [(1, .int (0 : Int32)), (0, .ref a0)]) dX3_addYear_1 (by decide) rfl ?_
    obtain ⟨h1, e2, hf⟩ := Option.bind_eq_some_iff.mp hf
    refine G.pick [1, 0] rfl (l_X3_addYear_L2 X d _ _ 1000000 a0 (0 : Int32) h h1 e2 ?_)
    have hq := Option.some.inj hf
    subst hq
    exact G.vret rfl dX3_addYear_85
  · rw [if_neg ho] at hf
    cases hf
/-! X3_endEvening -/
theorem dX3_endEvening_0 : decode cX3_endEvening 0 = .ok (.aload_n 0, 1) := by decide +kernel
theorem dX3_endEvening_1 : decode cX3_endEvening 1 = .ok (.getfield 12, 3) := by decide +kernel
theorem dX3_endEvening_4 : decode cX3_endEvening 4 = .ok (.dup, 1) := by decide +kernel
theorem dX3_endEvening_5 : decode cX3_endEvening 5 = .ok (.getfield 25, 3) := by decide +kernel
theorem dX3_endEvening_8 : decode cX3_endEvening 8 = .ok (.iconst 1, 1) := by decide +kernel
theorem dX3_endEvening_9 : decode cX3_endEvening 9 = .ok (.iadd, 1) := by decide +kernel
theorem dX3_endEvening_10 : decode cX3_endEvening 10 = .ok (.putfield 25, 3) := by decide +kernel
theorem dX3_endEvening_13 : decode cX3_endEvening 13 = .ok (.aload_n 0, 1) := by decide +kernel
theorem dX3_endEvening_14 : decode cX3_endEvening 14 = .ok (.invokevirtual 59, 3) := by decide +kernel
theorem dX3_endEvening_17 : decode cX3_endEvening 17 = .ok (.aload_n 0, 1) := by decide +kernel
theorem dX3_endEvening_18 : decode cX3_endEvening 18 = .ok (.getfield 12, 3) := by decide +kernel
theorem dX3_endEvening_21 : decode cX3_endEvening 21 = .ok (.getfield 25, 3) := by decide +kernel
theorem dX3_endEvening_24 : decode cX3_endEvening 24 = .ok (.iconst 4, 1) := by decide +kernel
theorem dX3_endEvening_25 : decode cX3_endEvening 25 = .ok (.irem, 1) := by decide +kernel
theorem dX3_endEvening_26 : decode cX3_endEvening 26 = .ok (.ifCond .ne 7, 3) := by decide +kernel
theorem dX3_endEvening_29 : decode cX3_endEvening 29 = .ok (.aload_n 0, 1) := by decide +kernel
theorem dX3_endEvening_30 : decode cX3_endEvening 30 = .ok (.invokevirtual 141, 3) := by decide +kernel
theorem dX3_endEvening_33 : decode cX3_endEvening 33 = .ok (.return_, 1) := by decide +kernel
def f_X3_endEvening (a0 : Nat) (h : AH) : Option (AH) := if isO h 3 a0 = true then ((gr h 3 a0 0).bind fun r1 => (gi h 4 r1 8).bind fun x2 => (pf h 4 r1 8 (.int (x2 + (1 : Int32)))).bind fun h3 => (f_X3_beginEvening a0 h3).bind fun h4 => (gr h4 3 a0 0).bind fun r6 => (gi h4 4 r6 8).bind fun x7 => if (x7 - x7 / (4 : Int32) * (4 : Int32)) = 0 then ((f_X3_addYear a0 h4).bind fun h9 => some h9) else (some h4)) else none
set_option maxRecDepth 100000 in
set_option maxHeartbeats 4000000 in
theorem c_X3_endEvening (X : SX) (d : Nat) (a0 : Nat) (h : AH) (h' : AH) (hf : f_X3_endEvening a0 h = some h') : isO h 3 a0 = true ∧ G X mX3_endEvening (d + 2) 0 [(0, .ref a0)] [] h none h' := by
  unfold f_X3_endEvening at hf
  by_cases ho : isO h 3 a0 = true
  · rw [if_pos ho] at hf
    refine ⟨ho, ?_⟩
    refine G.aload_n dX3_endEvening_0 rfl ?_
    refine G.getr flX3_12 dX3_endEvening_1 hf (fun r1 hf => ?_)
    refine G.dup dX3_endEvening_4 rfl ?_
    refine G.geti flX3_25 dX3_endEvening_5 hf (fun x2 hf => ?_)
    refine G.iconst (v := (1 : Int32)) dX3_endEvening_8 (by decide) ?_
    refine G.iadd dX3_endEvening_9 ?_
    refine G.put flX3_25 (Or.inl rfl) (fun _ _ => ⟨rfl, rfl⟩) dX3_endEvening_10 hf (fun h3 hf => ?_)
    refine G.aload_n dX3_endEvening_13 rfl ?_
    obtain ⟨h4, e5, hf⟩ := Option.bind_eq_some_iff.mp hf
    refine G.callVv (M' := mX3_beginEvening) (ci := 3) (As := []) (st := []) okX3_beginEvening viX3_beginEvening lkX3_59 rfl rfl rfl (Nat.le_of_ble_eq_true rfl) (Nat.le_of_ble_eq_true rfl) dX3_endEvening_14 (c_X3_beginEvening X (d + 1) _ _ _ e5).1 (c_X3_beginEvening X (d + 1) _ _ _ e5).2 ?_
    refine G.aload_n dX3_endEvening_17 rfl ?_
    refine G.getr flX3_12 dX3_endEvening_18 hf (fun r6 hf => ?_)
    refine G.geti flX3_25 dX3_endEvening_21 hf (fun x7 hf => ?_)
    refine G.iconst (v := (4 : Int32)) dX3_endEvening_24 (by decide) ?_
    refine G.irem dX3_endEvening_25 (by decide) ?_
    refine G.if_ne 33 dX3_endEvening_26 (by decide) (fun c8 => ?_) (fun c8 => ?_)
    · rw [if_neg c8] at hf
      have hq := Option.some.inj hf
      subst hq
      exact G.vret rfl dX3_endEvening_33
    · rw [if_pos c8] at hf
      refine G.aload_n dX3_endEvening_29 rfl ?_
      obtain ⟨h9, e10, hf⟩ := Option.bind_eq_some_iff.mp hf
      refine G.callVv (M' := mX3_addYear) (ci := 3) (As := []) (st := []) okX3_addYear viX3_addYear lkX3_141 rfl rfl rfl (Nat.le_of_ble_eq_true rfl) (Nat.le_of_ble_eq_true rfl) dX3_endEvening_30 (c_X3_addYear X d _ _ _ e10).1 (c_X3_addYear X d _ _ _ e10).2 ?_
      have hq := Option.some.inj hf
      subst hq
      exact G.vret rfl dX3_endEvening_33
  · rw [if_neg ho] at hf
    cases hf
/-! X12_evening -/
theorem dX12_evening_0 : decode cX12_evening 0 = .ok (.aload_n 0, 1) := by decide +kernel
theorem dX12_evening_1 : decode cX12_evening 1 = .ok (.iload_n 1, 1) := by decide +kernel
theorem dX12_evening_2 : decode cX12_evening 2 = .ok (.invokevirtual 247, 3) := by decide +kernel
theorem dX12_evening_5 : decode cX12_evening 5 = .ok (.istore_n 2, 1) := by decide +kernel
theorem dX12_evening_6 : decode cX12_evening 6 = .ok (.iload_n 2, 1) := by decide +kernel
theorem dX12_evening_7 : decode cX12_evening 7 = .ok (.ifCond .eq 5, 3) := by decide +kernel
theorem dX12_evening_10 : decode cX12_evening 10 = .ok (.iload_n 2, 1) := by decide +kernel
theorem dX12_evening_11 : decode cX12_evening 11 = .ok (.ireturn, 1) := by decide +kernel
theorem dX12_evening_12 : decode cX12_evening 12 = .ok (.iconst 0, 1) := by decide +kernel
theorem dX12_evening_13 : decode cX12_evening 13 = .ok (.istore_n 3, 1) := by decide +kernel
theorem dX12_evening_14 : decode cX12_evening 14 = .ok (.iload_n 3, 1) := by decide +kernel
theorem dX12_evening_15 : decode cX12_evening 15 = .ok (.iload_n 1, 1) := by decide +kernel
theorem dX12_evening_16 : decode cX12_evening 16 = .ok (.if_icmp .ge 30, 3) := by decide +kernel
theorem dX12_evening_19 : decode cX12_evening 19 = .ok (.aload_n 0, 1) := by decide +kernel
theorem dX12_evening_20 : decode cX12_evening 20 = .ok (.getfield 40, 3) := by decide +kernel
theorem dX12_evening_23 : decode cX12_evening 23 = .ok (.aload_n 0, 1) := by decide +kernel
theorem dX12_evening_24 : decode cX12_evening 24 = .ok (.getfield 19, 3) := by decide +kernel
theorem dX12_evening_27 : decode cX12_evening 27 = .ok (.getfield 119, 3) := by decide +kernel
theorem dX12_evening_30 : decode cX12_evening 30 = .ok (.invokevirtual 223, 3) := by decide +kernel
theorem dX12_evening_33 : decode cX12_evening 33 = .ok (.aload_n 0, 1) := by decide +kernel
theorem dX12_evening_34 : decode cX12_evening 34 = .ok (.getfield 19, 3) := by decide +kernel
theorem dX12_evening_37 : decode cX12_evening 37 = .ok (.invokevirtual 250, 3) := by decide +kernel
theorem dX12_evening_40 : decode cX12_evening 40 = .ok (.iinc 3 1, 3) := by decide +kernel
theorem dX12_evening_43 : decode cX12_evening 43 = .ok (.goto (-29), 3) := by decide +kernel
theorem dX12_evening_46 : decode cX12_evening 46 = .ok (.aload_n 0, 1) := by decide +kernel
theorem dX12_evening_47 : decode cX12_evening 47 = .ok (.getfield 19, 3) := by decide +kernel
theorem dX12_evening_50 : decode cX12_evening 50 = .ok (.getfield 119, 3) := by decide +kernel
theorem dX12_evening_53 : decode cX12_evening 53 = .ok (.getfield 123, 3) := by decide +kernel
theorem dX12_evening_56 : decode cX12_evening 56 = .ok (.ireturn, 1) := by decide +kernel
def F_X12_evening_L14 (rec : Nat → Int32 → Int32 → AH → Option (AH)) (v0 : Nat) (v1 : Int32) (v3 : Int32) (h : AH) : Option (AH) := if v1 ≤ v3 then (some (h)) else ((gr h 11 v0 4).bind fun r2 => (gr h 11 v0 1).bind fun r3 => (gr h 3 r3 0).bind fun r4 => (f_X6_remember r2 r4 h).bind fun h5 => (gr h5 11 v0 1).bind fun r7 => (f_X3_endEvening r7 h5).bind fun h8 => rec v0 v1 (v3 + 1) h8)
def f_X12_evening_L14 : Nat → Nat → Int32 → Int32 → AH → Option (AH)
  | 0 => fun _ _ _ _ => none
  | n + 1 => F_X12_evening_L14 (f_X12_evening_L14 n)
set_option maxRecDepth 100000 in
set_option maxHeartbeats 4000000 in
theorem lx_X12_evening_L14 (X : SX) (d : Nat) : ∀ n (rv : Option Int32) (h' : AH), ∀ (v0 : Nat) (v1 : Int32) (v3 : Int32) (h : AH)  (h1 : AH), f_X12_evening_L14 n v0 v1 v3 h = some (h1) → G X mX12_evening (d + 3) 46 [(0, .ref v0)] [] h1 rv h' → G X mX12_evening (d + 3) 14 [(0, .ref v0), (1, .int v1), (3, .int v3)] [] h rv h' := by
  intro n
  induction n with
  | zero =>
    intro rv h' v0 v1 v3 h h1 hf hE
    cases hf
  | succ n ihf =>
    intro rv h' v0 v1 v3 h h1 hf hE
    replace hf : F_X12_evening_L14 (f_X12_evening_L14 n) v0 v1 v3 h = some (h1) := hf
    unfold F_X12_evening_L14 at hf
    have ih := ihf rv h'
    refine G.iload_n dX12_evening_14 rfl ?_
    refine G.iload_n dX12_evening_15 rfl ?_
    refine G.icmp_ge 46 dX12_evening_16 (by decide) (fun c1 => ?_) (fun c1 => ?_)
    · rw [if_pos c1] at hf
      have w0 := Option.some.inj hf
      subst w0
      exact G.pick [0] rfl hE
    · rw [if_neg c1] at hf
      refine G.aload_n dX12_evening_19 rfl ?_
      refine G.getr flX12_40 dX12_evening_20 hf (fun r2 hf => ?_)
      refine G.aload_n dX12_evening_23 rfl ?_
      refine G.getr flX12_19 dX12_evening_24 hf (fun r3 hf => ?_)
      refine G.getr flX12_119 dX12_evening_27 hf (fun r4 hf => ?_)
      obtain ⟨h5, e6, hf⟩ := Option.bind_eq_some_iff.mp hf
      refine G.callVv (M' := mX6_remember) (ci := 5) (As := [.ref r4]) (st := []) okX6_remember viX6_remember lkX12_223 rfl rfl rfl (Nat.le_of_ble_eq_true rfl) (Nat.le_of_ble_eq_true rfl) dX12_evening_30 (c_X6_remember X d _ _ _ _ e6).1 (c_X6_remember X d _ _ _ _ e6).2 ?_
      refine G.aload_n dX12_evening_33 rfl ?_
      refine G.getr flX12_19 dX12_evening_34 hf (fun r7 hf => ?_)
      obtain ⟨h8, e9, hf⟩ := Option.bind_eq_some_iff.mp hf
      refine G.callVv (M' := mX3_endEvening) (ci := 3) (As := []) (st := []) okX3_endEvening viX3_endEvening lkX12_250 rfl rfl rfl (Nat.le_of_ble_eq_true rfl) (Nat.le_of_ble_eq_true rfl) dX12_evening_37 (c_X3_endEvening X d _ _ _ e9).1 (c_X3_endEvening X d _ _ _ e9).2 ?_
      refine G.iinc (v := (v3 + 1)) (lv' := [(3, .int (v3 + 1)), (0, .ref v0), (1, .int v1)]) dX12_evening_40 rfl rfl (by decide) rfl ?_
      refine G.goto 14 dX12_evening_43 (by decide) ?_
      exact G.pick [1, 2, 0] rfl (ih v0 v1 (v3 + 1) h8 _ hf hE)
theorem l_X12_evening_L14 (X : SX) (d : Nat) (rv : Option Int32) (h' : AH) (n : Nat) : ∀ (v0 : Nat) (v1 : Int32) (v3 : Int32) (h : AH)  (h1 : AH), f_X12_evening_L14 n v0 v1 v3 h = some (h1) → G X mX12_evening (d + 3) 46 [(0, .ref v0)] [] h1 rv h' → G X mX12_evening (d + 3) 14 [(0, .ref v0), (1, .int v1), (3, .int v3)] [] h rv h' := lx_X12_evening_L14 X d n rv h'
def f_X12_evening (a0 : Nat) (a1 : Int32) (h : AH) : Option (Int32 × AH) := if isO h 11 a0 = true then (bT1 (f_X12_refuseTimes a0 a1 h) fun x3 h1 => if x3 = 0 then ((f_X12_evening_L14 1000000 a0 a1 (0 : Int32) h1).bind fun h5 => (gr h5 11 a0 1).bind fun r7 => (gr h5 3 r7 0).bind fun r8 => (gi h5 4 r8 8).bind fun x9 => some (x9, h5)) else (some (x3, h1))) else none
set_option maxRecDepth 100000 in
set_option maxHeartbeats 4000000 in
theorem c_X12_evening (X : SX) (d : Nat) (a0 : Nat) (a1 : Int32) (h : AH) (rr : Int32) (h' : AH) (hf : f_X12_evening a0 a1 h = some (rr, h')) : isO h 11 a0 = true ∧ G X mX12_evening (d + 3) 0 [(0, .ref a0), (1, .int a1)] [] h (some rr) h' := by
  unfold f_X12_evening at hf
  by_cases ho : isO h 11 a0 = true
  · rw [if_pos ho] at hf
    refine ⟨ho, ?_⟩
    refine G.aload_n dX12_evening_0 rfl ?_
    refine G.iload_n dX12_evening_1 rfl ?_
    obtain ⟨x3, h1, e2, hf⟩ := bT1_spec hf
    refine G.callVi (M' := mX12_refuseTimes) (ci := 11) (As := [.int a1]) (st := []) okX12_refuseTimes viX12_refuseTimes lkX12_247 rfl rfl rfl (Nat.le_of_ble_eq_true rfl) (Nat.le_of_ble_eq_true rfl) dX12_evening_2 (c_X12_refuseTimes X (d + 2) _ _ _ _ _ e2).1 (c_X12_refuseTimes X (d + 2) _ _ _ _ _ e2).2 ?_
    refine G.istore_n (lv' := [(2, .int x3), (0, .ref a0), (1, .int a1)]) dX12_evening_5 (by decide) rfl ?_
    refine G.iload_n dX12_evening_6 rfl ?_
    refine G.if_eq 12 dX12_evening_7 (by decide) (fun c4 => ?_) (fun c4 => ?_)
    · rw [if_pos c4] at hf
      refine G.iconst (v := (0 : Int32)) dX12_evening_12 (by decide) ?_
      refine G.istore_n (lv' := [(3, .int (0 : Int32)), (2, .int x3), (0, .ref a0), (1, .int a1)]) dX12_evening_13 (by decide) rfl ?_
      obtain ⟨h5, e6, hf⟩ := Option.bind_eq_some_iff.mp hf
      refine G.pick [2, 3, 0] rfl (l_X12_evening_L14 X d _ _ 1000000 a0 a1 (0 : Int32) h1 h5 e6 ?_)
      refine G.aload_n dX12_evening_46 rfl ?_
      refine G.getr flX12_19 dX12_evening_47 hf (fun r7 hf => ?_)
      refine G.getr flX12_119 dX12_evening_50 hf (fun r8 hf => ?_)
      refine G.geti flX12_123 dX12_evening_53 hf (fun x9 hf => ?_)
      obtain ⟨hq1, hq2⟩ := Prod.mk.inj (Option.some.inj hf)
      subst hq1
      subst hq2
      exact G.iret rfl rfl dX12_evening_56
    · rw [if_neg c4] at hf
      refine G.iload_n dX12_evening_10 rfl ?_
      obtain ⟨hq1, hq2⟩ := Prod.mk.inj (Option.some.inj hf)
      subst hq1
      subst hq2
      exact G.iret rfl rfl dX12_evening_11
  · rw [if_neg ho] at hf
    cases hf
/-! X13_mayPass -/
theorem dX13_mayPass_0 : decode cX13_mayPass 0 = .ok (.iload_n 1, 1) := by decide +kernel
theorem dX13_mayPass_1 : decode cX13_mayPass 1 = .ok (.iconst 1, 1) := by decide +kernel
theorem dX13_mayPass_2 : decode cX13_mayPass 2 = .ok (.if_icmp .lt 9, 3) := by decide +kernel
theorem dX13_mayPass_5 : decode cX13_mayPass 5 = .ok (.iload_n 1, 1) := by decide +kernel
theorem dX13_mayPass_6 : decode cX13_mayPass 6 = .ok (.bipush 20, 2) := by decide +kernel
theorem dX13_mayPass_8 : decode cX13_mayPass 8 = .ok (.if_icmp .le 8, 3) := by decide +kernel
theorem dX13_mayPass_11 : decode cX13_mayPass 11 = .ok (.ldc 81, 2) := by decide +kernel
theorem dX13_mayPass_13 : decode cX13_mayPass 13 = .ok (.goto 34, 3) := by decide +kernel
theorem dX13_mayPass_16 : decode cX13_mayPass 16 = .ok (.aload_n 0, 1) := by decide +kernel
theorem dX13_mayPass_17 : decode cX13_mayPass 17 = .ok (.getfield 126, 3) := by decide +kernel
theorem dX13_mayPass_20 : decode cX13_mayPass 20 = .ok (.ifCond .ne 8, 3) := by decide +kernel
theorem dX13_mayPass_23 : decode cX13_mayPass 23 = .ok (.ldc 184, 2) := by decide +kernel
theorem dX13_mayPass_25 : decode cX13_mayPass 25 = .ok (.goto 22, 3) := by decide +kernel
theorem dX13_mayPass_28 : decode cX13_mayPass 28 = .ok (.aload_n 0, 1) := by decide +kernel
theorem dX13_mayPass_29 : decode cX13_mayPass 29 = .ok (.getfield 29, 3) := by decide +kernel
theorem dX13_mayPass_32 : decode cX13_mayPass 32 = .ok (.bipush 50, 2) := by decide +kernel
theorem dX13_mayPass_34 : decode cX13_mayPass 34 = .ok (.iaload, 1) := by decide +kernel
theorem dX13_mayPass_35 : decode cX13_mayPass 35 = .ok (.sipush 9000, 3) := by decide +kernel
theorem dX13_mayPass_38 : decode cX13_mayPass 38 = .ok (.if_icmp .le 8, 3) := by decide +kernel
theorem dX13_mayPass_41 : decode cX13_mayPass 41 = .ok (.ldc 85, 2) := by decide +kernel
theorem dX13_mayPass_43 : decode cX13_mayPass 43 = .ok (.goto 4, 3) := by decide +kernel
theorem dX13_mayPass_46 : decode cX13_mayPass 46 = .ok (.iconst 0, 1) := by decide +kernel
theorem dX13_mayPass_47 : decode cX13_mayPass 47 = .ok (.ireturn, 1) := by decide +kernel
def f_X13_mayPass_11  (h : AH) : Option (Int32 × AH) := some ((-1000000002 : Int32), h)
set_option maxRecDepth 100000 in
set_option maxHeartbeats 4000000 in
theorem j_X13_mayPass_11 (X : SX) (d : Nat)  (h : AH) (rr : Int32) (h' : AH) (hf : f_X13_mayPass_11  h = some (rr, h')) : G X mX13_mayPass d 11 [] [] h (some rr) h' := by
  unfold f_X13_mayPass_11 at hf
  refine G.ldc ckX13_81 dX13_mayPass_11 ?_
  refine G.goto 47 dX13_mayPass_13 (by decide) ?_
  obtain ⟨hq1, hq2⟩ := Prod.mk.inj (Option.some.inj hf)
  subst hq1
  subst hq2
  exact G.iret rfl rfl dX13_mayPass_47
def f_X13_mayPass (a0 : Nat) (a1 : Int32) (h : AH) : Option (Int32 × AH) := if isO h 12 a0 = true then (if a1 < (1 : Int32) then (f_X13_mayPass_11 h) else (if a1 ≤ (20 : Int32) then ((gi h 12 a0 3).bind fun x3 => if x3 = 0 then (some ((-1000000003 : Int32), h)) else ((gr h 12 a0 11).bind fun r5 => (ai h 0 r5 (50 : Int32)).bind fun x6 => if x6 ≤ (9000 : Int32) then (some ((0 : Int32), h)) else (some ((-1000000004 : Int32), h)))) else (f_X13_mayPass_11 h))) else none
set_option maxRecDepth 100000 in
set_option maxHeartbeats 4000000 in
theorem c_X13_mayPass (X : SX) (d : Nat) (a0 : Nat) (a1 : Int32) (h : AH) (rr : Int32) (h' : AH) (hf : f_X13_mayPass a0 a1 h = some (rr, h')) : isO h 12 a0 = true ∧ G X mX13_mayPass d 0 [(0, .ref a0), (1, .int a1)] [] h (some rr) h' := by
  unfold f_X13_mayPass at hf
  by_cases ho : isO h 12 a0 = true
  · rw [if_pos ho] at hf
    refine ⟨ho, ?_⟩
    refine G.iload_n dX13_mayPass_0 rfl ?_
    refine G.iconst (v := (1 : Int32)) dX13_mayPass_1 (by decide) ?_
    refine G.icmp_lt 11 dX13_mayPass_2 (by decide) (fun c1 => ?_) (fun c1 => ?_)
    · rw [if_pos c1] at hf
      exact G.pick [] rfl (j_X13_mayPass_11 X d  h _ _ hf)
    · rw [if_neg c1] at hf
      refine G.iload_n dX13_mayPass_5 rfl ?_
      refine G.bipush (v := (20 : Int32)) dX13_mayPass_6 (by decide) ?_
      refine G.icmp_le 16 dX13_mayPass_8 (by decide) (fun c2 => ?_) (fun c2 => ?_)
      · rw [if_pos c2] at hf
        refine G.aload_n dX13_mayPass_16 rfl ?_
        refine G.geti flX13_126 dX13_mayPass_17 hf (fun x3 hf => ?_)
        refine G.if_ne 28 dX13_mayPass_20 (by decide) (fun c4 => ?_) (fun c4 => ?_)
        · rw [if_neg c4] at hf
          refine G.aload_n dX13_mayPass_28 rfl ?_
          refine G.getr flX13_29 dX13_mayPass_29 hf (fun r5 hf => ?_)
          refine G.bipush (v := (50 : Int32)) dX13_mayPass_32 (by decide) ?_
          refine G.iald dX13_mayPass_34 hf (fun x6 hf => ?_)
          refine G.sipush (v := (9000 : Int32)) dX13_mayPass_35 (by decide) ?_
          refine G.icmp_le 46 dX13_mayPass_38 (by decide) (fun c7 => ?_) (fun c7 => ?_)
          · rw [if_pos c7] at hf
            refine G.iconst (v := (0 : Int32)) dX13_mayPass_46 (by decide) ?_
            obtain ⟨hq1, hq2⟩ := Prod.mk.inj (Option.some.inj hf)
            subst hq1
            subst hq2
            exact G.iret rfl rfl dX13_mayPass_47
          · rw [if_neg c7] at hf
            refine G.ldc ckX13_85 dX13_mayPass_41 ?_
            refine G.goto 47 dX13_mayPass_43 (by decide) ?_
            obtain ⟨hq1, hq2⟩ := Prod.mk.inj (Option.some.inj hf)
            subst hq1
            subst hq2
            exact G.iret rfl rfl dX13_mayPass_47
        · rw [if_pos c4] at hf
          refine G.ldc ckX13_184 dX13_mayPass_23 ?_
          refine G.goto 47 dX13_mayPass_25 (by decide) ?_
          obtain ⟨hq1, hq2⟩ := Prod.mk.inj (Option.some.inj hf)
          subst hq1
          subst hq2
          exact G.iret rfl rfl dX13_mayPass_47
      · rw [if_neg c2] at hf
        exact G.pick [] rfl (j_X13_mayPass_11 X d  h _ _ hf)
  · rw [if_neg ho] at hf
    cases hf
/-! X13_ends -/
theorem dX13_ends_0 : decode cX13_ends 0 = .ok (.iconst 0, 1) := by decide +kernel
theorem dX13_ends_1 : decode cX13_ends 1 = .ok (.istore_n 1, 1) := by decide +kernel
theorem dX13_ends_2 : decode cX13_ends 2 = .ok (.iload_n 1, 1) := by decide +kernel
theorem dX13_ends_3 : decode cX13_ends 3 = .ok (.aload_n 0, 1) := by decide +kernel
theorem dX13_ends_4 : decode cX13_ends 4 = .ok (.getfield 78, 3) := by decide +kernel
theorem dX13_ends_7 : decode cX13_ends 7 = .ok (.if_icmp .ge 29, 3) := by decide +kernel
theorem dX13_ends_10 : decode cX13_ends 10 = .ok (.aload_n 0, 1) := by decide +kernel
theorem dX13_ends_11 : decode cX13_ends 11 = .ok (.getfield 29, 3) := by decide +kernel
theorem dX13_ends_14 : decode cX13_ends 14 = .ok (.bipush 30, 2) := by decide +kernel
theorem dX13_ends_16 : decode cX13_ends 16 = .ok (.iload_n 1, 1) := by decide +kernel
theorem dX13_ends_17 : decode cX13_ends 17 = .ok (.iadd, 1) := by decide +kernel
theorem dX13_ends_18 : decode cX13_ends 18 = .ok (.iconst 0, 1) := by decide +kernel
theorem dX13_ends_19 : decode cX13_ends 19 = .ok (.iastore, 1) := by decide +kernel
theorem dX13_ends_20 : decode cX13_ends 20 = .ok (.aload_n 0, 1) := by decide +kernel
theorem dX13_ends_21 : decode cX13_ends 21 = .ok (.getfield 29, 3) := by decide +kernel
theorem dX13_ends_24 : decode cX13_ends 24 = .ok (.bipush 36, 2) := by decide +kernel
theorem dX13_ends_26 : decode cX13_ends 26 = .ok (.iload_n 1, 1) := by decide +kernel
theorem dX13_ends_27 : decode cX13_ends 27 = .ok (.iadd, 1) := by decide +kernel
theorem dX13_ends_28 : decode cX13_ends 28 = .ok (.iconst 0, 1) := by decide +kernel
theorem dX13_ends_29 : decode cX13_ends 29 = .ok (.iastore, 1) := by decide +kernel
theorem dX13_ends_30 : decode cX13_ends 30 = .ok (.iinc 1 1, 3) := by decide +kernel
theorem dX13_ends_33 : decode cX13_ends 33 = .ok (.goto (-31), 3) := by decide +kernel
theorem dX13_ends_36 : decode cX13_ends 36 = .ok (.aload_n 0, 1) := by decide +kernel
theorem dX13_ends_37 : decode cX13_ends 37 = .ok (.getfield 29, 3) := by decide +kernel
theorem dX13_ends_40 : decode cX13_ends 40 = .ok (.bipush 50, 2) := by decide +kernel
theorem dX13_ends_42 : decode cX13_ends 42 = .ok (.dup2, 1) := by decide +kernel
theorem dX13_ends_43 : decode cX13_ends 43 = .ok (.iaload, 1) := by decide +kernel
theorem dX13_ends_44 : decode cX13_ends 44 = .ok (.iconst 1, 1) := by decide +kernel
theorem dX13_ends_45 : decode cX13_ends 45 = .ok (.iadd, 1) := by decide +kernel
theorem dX13_ends_46 : decode cX13_ends 46 = .ok (.iastore, 1) := by decide +kernel
theorem dX13_ends_47 : decode cX13_ends 47 = .ok (.iconst 0, 1) := by decide +kernel
theorem dX13_ends_48 : decode cX13_ends 48 = .ok (.istore_n 1, 1) := by decide +kernel
theorem dX13_ends_49 : decode cX13_ends 49 = .ok (.iload_n 1, 1) := by decide +kernel
theorem dX13_ends_50 : decode cX13_ends 50 = .ok (.aload_n 0, 1) := by decide +kernel
theorem dX13_ends_51 : decode cX13_ends 51 = .ok (.getfield 75, 3) := by decide +kernel
theorem dX13_ends_54 : decode cX13_ends 54 = .ok (.if_icmp .ge 112, 3) := by decide +kernel
theorem dX13_ends_57 : decode cX13_ends 57 = .ok (.aload_n 0, 1) := by decide +kernel
theorem dX13_ends_58 : decode cX13_ends 58 = .ok (.getfield 29, 3) := by decide +kernel
theorem dX13_ends_61 : decode cX13_ends 61 = .ok (.bipush 12, 2) := by decide +kernel
theorem dX13_ends_63 : decode cX13_ends 63 = .ok (.iload_n 1, 1) := by decide +kernel
theorem dX13_ends_64 : decode cX13_ends 64 = .ok (.iadd, 1) := by decide +kernel
theorem dX13_ends_65 : decode cX13_ends 65 = .ok (.aload_n 0, 1) := by decide +kernel
theorem dX13_ends_66 : decode cX13_ends 66 = .ok (.getfield 20, 3) := by decide +kernel
theorem dX13_ends_69 : decode cX13_ends 69 = .ok (.iload_n 1, 1) := by decide +kernel
theorem dX13_ends_70 : decode cX13_ends 70 = .ok (.iaload, 1) := by decide +kernel
theorem dX13_ends_71 : decode cX13_ends 71 = .ok (.iastore, 1) := by decide +kernel
theorem dX13_ends_72 : decode cX13_ends 72 = .ok (.aload_n 0, 1) := by decide +kernel
theorem dX13_ends_73 : decode cX13_ends 73 = .ok (.getfield 29, 3) := by decide +kernel
theorem dX13_ends_76 : decode cX13_ends 76 = .ok (.bipush 18, 2) := by decide +kernel
theorem dX13_ends_78 : decode cX13_ends 78 = .ok (.iload_n 1, 1) := by decide +kernel
theorem dX13_ends_79 : decode cX13_ends 79 = .ok (.iadd, 1) := by decide +kernel
theorem dX13_ends_80 : decode cX13_ends 80 = .ok (.aload_n 0, 1) := by decide +kernel
theorem dX13_ends_81 : decode cX13_ends 81 = .ok (.getfield 129, 3) := by decide +kernel
theorem dX13_ends_84 : decode cX13_ends 84 = .ok (.iastore, 1) := by decide +kernel
theorem dX13_ends_85 : decode cX13_ends 85 = .ok (.aload_n 0, 1) := by decide +kernel
theorem dX13_ends_86 : decode cX13_ends 86 = .ok (.getfield 29, 3) := by decide +kernel
theorem dX13_ends_89 : decode cX13_ends 89 = .ok (.bipush 50, 2) := by decide +kernel
theorem dX13_ends_91 : decode cX13_ends 91 = .ok (.iaload, 1) := by decide +kernel
theorem dX13_ends_92 : decode cX13_ends 92 = .ok (.iconst 4, 1) := by decide +kernel
theorem dX13_ends_93 : decode cX13_ends 93 = .ok (.irem, 1) := by decide +kernel
theorem dX13_ends_94 : decode cX13_ends 94 = .ok (.ifCond .ne 66, 3) := by decide +kernel
theorem dX13_ends_97 : decode cX13_ends 97 = .ok (.aload_n 0, 1) := by decide +kernel
theorem dX13_ends_98 : decode cX13_ends 98 = .ok (.getfield 29, 3) := by decide +kernel
theorem dX13_ends_101 : decode cX13_ends 101 = .ok (.iconst 0, 1) := by decide +kernel
theorem dX13_ends_102 : decode cX13_ends 102 = .ok (.iload_n 1, 1) := by decide +kernel
theorem dX13_ends_103 : decode cX13_ends 103 = .ok (.iadd, 1) := by decide +kernel
theorem dX13_ends_104 : decode cX13_ends 104 = .ok (.iaload, 1) := by decide +kernel
theorem dX13_ends_105 : decode cX13_ends 105 = .ok (.bipush 99, 2) := by decide +kernel
theorem dX13_ends_107 : decode cX13_ends 107 = .ok (.if_icmp .ge 53, 3) := by decide +kernel
theorem dX13_ends_110 : decode cX13_ends 110 = .ok (.aload_n 0, 1) := by decide +kernel
theorem dX13_ends_111 : decode cX13_ends 111 = .ok (.getfield 29, 3) := by decide +kernel
theorem dX13_ends_114 : decode cX13_ends 114 = .ok (.iconst 0, 1) := by decide +kernel
theorem dX13_ends_115 : decode cX13_ends 115 = .ok (.iload_n 1, 1) := by decide +kernel
theorem dX13_ends_116 : decode cX13_ends 116 = .ok (.iadd, 1) := by decide +kernel
theorem dX13_ends_117 : decode cX13_ends 117 = .ok (.dup2, 1) := by decide +kernel
theorem dX13_ends_118 : decode cX13_ends 118 = .ok (.iaload, 1) := by decide +kernel
theorem dX13_ends_119 : decode cX13_ends 119 = .ok (.iconst 1, 1) := by decide +kernel
theorem dX13_ends_120 : decode cX13_ends 120 = .ok (.iadd, 1) := by decide +kernel
theorem dX13_ends_121 : decode cX13_ends 121 = .ok (.iastore, 1) := by decide +kernel
theorem dX13_ends_122 : decode cX13_ends 122 = .ok (.aload_n 0, 1) := by decide +kernel
theorem dX13_ends_123 : decode cX13_ends 123 = .ok (.getfield 29, 3) := by decide +kernel
theorem dX13_ends_126 : decode cX13_ends 126 = .ok (.iconst 0, 1) := by decide +kernel
theorem dX13_ends_127 : decode cX13_ends 127 = .ok (.iload_n 1, 1) := by decide +kernel
theorem dX13_ends_128 : decode cX13_ends 128 = .ok (.iadd, 1) := by decide +kernel
theorem dX13_ends_129 : decode cX13_ends 129 = .ok (.iaload, 1) := by decide +kernel
theorem dX13_ends_130 : decode cX13_ends 130 = .ok (.bipush 50, 2) := by decide +kernel
theorem dX13_ends_132 : decode cX13_ends 132 = .ok (.if_icmp .ne 28, 3) := by decide +kernel
theorem dX13_ends_135 : decode cX13_ends 135 = .ok (.aload_n 0, 1) := by decide +kernel
theorem dX13_ends_136 : decode cX13_ends 136 = .ok (.getfield 29, 3) := by decide +kernel
theorem dX13_ends_139 : decode cX13_ends 139 = .ok (.bipush 6, 2) := by decide +kernel
theorem dX13_ends_141 : decode cX13_ends 141 = .ok (.iload_n 1, 1) := by decide +kernel
theorem dX13_ends_142 : decode cX13_ends 142 = .ok (.iadd, 1) := by decide +kernel
theorem dX13_ends_143 : decode cX13_ends 143 = .ok (.iaload, 1) := by decide +kernel
theorem dX13_ends_144 : decode cX13_ends 144 = .ok (.ifCond .le 16, 3) := by decide +kernel
theorem dX13_ends_147 : decode cX13_ends 147 = .ok (.aload_n 0, 1) := by decide +kernel
theorem dX13_ends_148 : decode cX13_ends 148 = .ok (.getfield 29, 3) := by decide +kernel
theorem dX13_ends_151 : decode cX13_ends 151 = .ok (.bipush 49, 2) := by decide +kernel
theorem dX13_ends_153 : decode cX13_ends 153 = .ok (.dup2, 1) := by decide +kernel
theorem dX13_ends_154 : decode cX13_ends 154 = .ok (.iaload, 1) := by decide +kernel
theorem dX13_ends_155 : decode cX13_ends 155 = .ok (.iconst 1, 1) := by decide +kernel
theorem dX13_ends_156 : decode cX13_ends 156 = .ok (.iload_n 1, 1) := by decide +kernel
theorem dX13_ends_157 : decode cX13_ends 157 = .ok (.ishl, 1) := by decide +kernel
theorem dX13_ends_158 : decode cX13_ends 158 = .ok (.ior, 1) := by decide +kernel
theorem dX13_ends_159 : decode cX13_ends 159 = .ok (.iastore, 1) := by decide +kernel
theorem dX13_ends_160 : decode cX13_ends 160 = .ok (.iinc 1 1, 3) := by decide +kernel
theorem dX13_ends_163 : decode cX13_ends 163 = .ok (.goto (-114), 3) := by decide +kernel
theorem dX13_ends_166 : decode cX13_ends 166 = .ok (.return_, 1) := by decide +kernel
def F_X13_ends_L2 (rec : Nat → Int32 → AH → Option (AH)) (v0 : Nat) (v1 : Int32) (h : AH) : Option (AH) := (gi h 12 v0 6).bind fun x1 => if x1 ≤ v1 then (some (h)) else ((gr h 12 v0 11).bind fun r3 => (aw h 0 r3 ((30 : Int32) + v1) (0 : Int32)).bind fun h4 => (gr h4 12 v0 11).bind fun r5 => (aw h4 0 r5 ((36 : Int32) + v1) (0 : Int32)).bind fun h6 => rec v0 (v1 + 1) h6)
def f_X13_ends_L2 : Nat → Nat → Int32 → AH → Option (AH)
  | 0 => fun _ _ _ => none
  | n + 1 => F_X13_ends_L2 (f_X13_ends_L2 n)
set_option maxRecDepth 100000 in
set_option maxHeartbeats 4000000 in
theorem lx_X13_ends_L2 (X : SX) (d : Nat) : ∀ n (rv : Option Int32) (h' : AH), ∀ (v0 : Nat) (v1 : Int32) (h : AH)  (h1 : AH), f_X13_ends_L2 n v0 v1 h = some (h1) → G X mX13_ends d 36 [(0, .ref v0)] [] h1 rv h' → G X mX13_ends d 2 [(0, .ref v0), (1, .int v1)] [] h rv h' := by
  intro n
  induction n with
  | zero =>
    intro rv h' v0 v1 h h1 hf hE
    cases hf
  | succ n ihf =>
    intro rv h' v0 v1 h h1 hf hE
    replace hf : F_X13_ends_L2 (f_X13_ends_L2 n) v0 v1 h = some (h1) := hf
    unfold F_X13_ends_L2 at hf
    have ih := ihf rv h'
    refine G.iload_n dX13_ends_2 rfl ?_
    refine G.aload_n dX13_ends_3 rfl ?_
    refine G.geti flX13_78 dX13_ends_4 hf (fun x1 hf => ?_)
    refine G.icmp_ge 36 dX13_ends_7 (by decide) (fun c2 => ?_) (fun c2 => ?_)
    · rw [if_pos c2] at hf
      have w0 := Option.some.inj hf
      subst w0
      exact G.pick [0] rfl hE
    · rw [if_neg c2] at hf
      refine G.aload_n dX13_ends_10 rfl ?_
      refine G.getr flX13_29 dX13_ends_11 hf (fun r3 hf => ?_)
      refine G.bipush (v := (30 : Int32)) dX13_ends_14 (by decide) ?_
      refine G.iload_n dX13_ends_16 rfl ?_
      refine G.iadd dX13_ends_17 ?_
      refine G.iconst (v := (0 : Int32)) dX13_ends_18 (by decide) ?_
      refine G.iast dX13_ends_19 hf (fun h4 hf => ?_)
      refine G.aload_n dX13_ends_20 rfl ?_
      refine G.getr flX13_29 dX13_ends_21 hf (fun r5 hf => ?_)
      refine G.bipush (v := (36 : Int32)) dX13_ends_24 (by decide) ?_
      refine G.iload_n dX13_ends_26 rfl ?_
      refine G.iadd dX13_ends_27 ?_
      refine G.iconst (v := (0 : Int32)) dX13_ends_28 (by decide) ?_
      refine G.iast dX13_ends_29 hf (fun h6 hf => ?_)
      refine G.iinc (v := (v1 + 1)) (lv' := [(1, .int (v1 + 1)), (0, .ref v0)]) dX13_ends_30 rfl rfl (by decide) rfl ?_
      refine G.goto 2 dX13_ends_33 (by decide) ?_
      exact G.pick [1, 0] rfl (ih v0 (v1 + 1) h6 _ hf hE)
theorem l_X13_ends_L2 (X : SX) (d : Nat) (rv : Option Int32) (h' : AH) (n : Nat) : ∀ (v0 : Nat) (v1 : Int32) (h : AH)  (h1 : AH), f_X13_ends_L2 n v0 v1 h = some (h1) → G X mX13_ends d 36 [(0, .ref v0)] [] h1 rv h' → G X mX13_ends d 2 [(0, .ref v0), (1, .int v1)] [] h rv h' := lx_X13_ends_L2 X d n rv h'
def F_X13_ends_L49 (rec : Nat → Int32 → AH → Option (AH)) (v0 : Nat) (v1 : Int32) (h : AH) : Option (AH) := (gi h 12 v0 5).bind fun x1 => if x1 ≤ v1 then (some (h)) else ((gr h 12 v0 11).bind fun r3 => (gr h 12 v0 8).bind fun r4 => (ai h 0 r4 v1).bind fun x5 => (aw h 0 r3 ((12 : Int32) + v1) x5).bind fun h6 => (gr h6 12 v0 11).bind fun r7 => (gi h6 12 v0 4).bind fun x8 => (aw h6 0 r7 ((18 : Int32) + v1) x8).bind fun h9 => (gr h9 12 v0 11).bind fun r10 => (ai h9 0 r10 (50 : Int32)).bind fun x11 => if (x11 - x11 / (4 : Int32) * (4 : Int32)) = 0 then ((gr h9 12 v0 11).bind fun r13 => (ai h9 0 r13 ((0 : Int32) + v1)).bind fun x14 => if (99 : Int32) ≤ x14 then (rec v0 (v1 + 1) h9) else ((gr h9 12 v0 11).bind fun r16 => (ai h9 0 r16 ((0 : Int32) + v1)).bind fun x17 => (aw h9 0 r16 ((0 : Int32) + v1) (x17 + (1 : Int32))).bind fun h18 => (gr h18 12 v0 11).bind fun r19 => (ai h18 0 r19 ((0 : Int32) + v1)).bind fun x20 => if x20 = (50 : Int32) then ((gr h18 12 v0 11).bind fun r22 => (ai h18 0 r22 ((6 : Int32) + v1)).bind fun x23 => if x23 ≤ 0 then (rec v0 (v1 + 1) h18) else ((gr h18 12 v0 11).bind fun r25 => (ai h18 0 r25 (49 : Int32)).bind fun x26 => (aw h18 0 r25 (49 : Int32) (x26 ||| ((1 : Int32) <<< (v1 &&& 31)))).bind fun h27 => rec v0 (v1 + 1) h27)) else (rec v0 (v1 + 1) h18))) else (rec v0 (v1 + 1) h9))
def f_X13_ends_L49 : Nat → Nat → Int32 → AH → Option (AH)
  | 0 => fun _ _ _ => none
  | n + 1 => F_X13_ends_L49 (f_X13_ends_L49 n)
set_option maxRecDepth 100000 in
set_option maxHeartbeats 4000000 in
theorem lx_X13_ends_L49 (X : SX) (d : Nat) : ∀ n (rv : Option Int32) (h' : AH), ∀ (v0 : Nat) (v1 : Int32) (h : AH)  (h1 : AH), f_X13_ends_L49 n v0 v1 h = some (h1) → G X mX13_ends d 166 [] [] h1 rv h' → G X mX13_ends d 49 [(0, .ref v0), (1, .int v1)] [] h rv h' := by
  intro n
  induction n with
  | zero =>
    intro rv h' v0 v1 h h1 hf hE
    cases hf
  | succ n ihf =>
    intro rv h' v0 v1 h h1 hf hE
    replace hf : F_X13_ends_L49 (f_X13_ends_L49 n) v0 v1 h = some (h1) := hf
    unfold F_X13_ends_L49 at hf
    have ih := ihf rv h'
    refine G.iload_n dX13_ends_49 rfl ?_
    refine G.aload_n dX13_ends_50 rfl ?_
    refine G.geti flX13_75 dX13_ends_51 hf (fun x1 hf => ?_)
    refine G.icmp_ge 166 dX13_ends_54 (by decide) (fun c2 => ?_) (fun c2 => ?_)
    · rw [if_pos c2] at hf
      have w0 := Option.some.inj hf
      subst w0
      exact G.pick [] rfl hE
    · rw [if_neg c2] at hf
      refine G.aload_n dX13_ends_57 rfl ?_
      refine G.getr flX13_29 dX13_ends_58 hf (fun r3 hf => ?_)
      refine G.bipush (v := (12 : Int32)) dX13_ends_61 (by decide) ?_
      refine G.iload_n dX13_ends_63 rfl ?_
      refine G.iadd dX13_ends_64 ?_
      refine G.aload_n dX13_ends_65 rfl ?_
      refine G.getr flX13_20 dX13_ends_66 hf (fun r4 hf => ?_)
      refine G.iload_n dX13_ends_69 rfl ?_
      refine G.iald dX13_ends_70 hf (fun x5 hf => ?_)
      refine G.iast dX13_ends_71 hf (fun h6 hf => ?_)
      refine G.aload_n dX13_ends_72 rfl ?_
      refine G.getr flX13_29 dX13_ends_73 hf (fun r7 hf => ?_)
      refine G.bipush (v := (18 : Int32)) dX13_ends_76 (by decide) ?_
      refine G.iload_n dX13_ends_78 rfl ?_
      refine G.iadd dX13_ends_79 ?_
      refine G.aload_n dX13_ends_80 rfl ?_
      refine G.geti flX13_129 dX13_ends_81 hf (fun x8 hf => ?_)
      refine G.iast dX13_ends_84 hf (fun h9 hf => ?_)
      refine G.aload_n dX13_ends_85 rfl ?_
      refine G.getr flX13_29 dX13_ends_86 hf (fun r10 hf => ?_)
      refine G.bipush (v := (50 : Int32)) dX13_ends_89 (by decide) ?_
      refine G.iald dX13_ends_91 hf (fun x11 hf => ?_)
      refine G.iconst (v := (4 : Int32)) dX13_ends_92 (by decide) ?_
      refine G.irem dX13_ends_93 (by decide) ?_
      refine G.if_ne 160 dX13_ends_94 (by decide) (fun c12 => ?_) (fun c12 => ?_)
      · rw [if_neg c12] at hf
        refine G.iinc (v := (v1 + 1)) (lv' := [(1, .int (v1 + 1)), (0, .ref v0)]) dX13_ends_160 rfl rfl (by decide) rfl ?_
        refine G.goto 49 dX13_ends_163 (by decide) ?_
        exact G.pick [1, 0] rfl (ih v0 (v1 + 1) h9 _ hf hE)
      · rw [if_pos c12] at hf
        refine G.aload_n dX13_ends_97 rfl ?_
        refine G.getr flX13_29 dX13_ends_98 hf (fun r13 hf => ?_)
        refine G.iconst (v := (0 : Int32)) dX13_ends_101 (by decide) ?_
        refine G.iload_n dX13_ends_102 rfl ?_
        refine G.iadd dX13_ends_103 ?_
        refine G.iald dX13_ends_104 hf (fun x14 hf => ?_)
        refine G.bipush (v := (99 : Int32)) dX13_ends_105 (by decide) ?_
        refine G.icmp_ge 160 dX13_ends_107 (by decide) (fun c15 => ?_) (fun c15 => ?_)
        · rw [if_pos c15] at hf
          refine G.iinc (v := (v1 + 1)) (lv' := [(1, .int (v1 + 1)), (0, .ref v0)]) dX13_ends_160 rfl rfl (by decide) rfl ?_
          refine G.goto 49 dX13_ends_163 (by decide) ?_
          exact G.pick [1, 0] rfl (ih v0 (v1 + 1) h9 _ hf hE)
        · rw [if_neg c15] at hf
          refine G.aload_n dX13_ends_110 rfl ?_
          refine G.getr flX13_29 dX13_ends_111 hf (fun r16 hf => ?_)
          refine G.iconst (v := (0 : Int32)) dX13_ends_114 (by decide) ?_
          refine G.iload_n dX13_ends_115 rfl ?_
          refine G.iadd dX13_ends_116 ?_
          refine G.dup2 dX13_ends_117 rfl rfl ?_
          refine G.iald dX13_ends_118 hf (fun x17 hf => ?_)
          refine G.iconst (v := (1 : Int32)) dX13_ends_119 (by decide) ?_
          refine G.iadd dX13_ends_120 ?_
          refine G.iast dX13_ends_121 hf (fun h18 hf => ?_)
          refine G.aload_n dX13_ends_122 rfl ?_
          refine G.getr flX13_29 dX13_ends_123 hf (fun r19 hf => ?_)
          refine G.iconst (v := (0 : Int32)) dX13_ends_126 (by decide) ?_
          refine G.iload_n dX13_ends_127 rfl ?_
          refine G.iadd dX13_ends_128 ?_
          refine G.iald dX13_ends_129 hf (fun x20 hf => ?_)
          refine G.bipush (v := (50 : Int32)) dX13_ends_130 (by decide) ?_
          refine G.icmp_ne 160 dX13_ends_132 (by decide) (fun c21 => ?_) (fun c21 => ?_)
          · rw [if_neg c21] at hf
            refine G.iinc (v := (v1 + 1)) (lv' := [(1, .int (v1 + 1)), (0, .ref v0)]) dX13_ends_160 rfl rfl (by decide) rfl ?_
            refine G.goto 49 dX13_ends_163 (by decide) ?_
            exact G.pick [1, 0] rfl (ih v0 (v1 + 1) h18 _ hf hE)
          · rw [if_pos c21] at hf
            refine G.aload_n dX13_ends_135 rfl ?_
            refine G.getr flX13_29 dX13_ends_136 hf (fun r22 hf => ?_)
            refine G.bipush (v := (6 : Int32)) dX13_ends_139 (by decide) ?_
            refine G.iload_n dX13_ends_141 rfl ?_
            refine G.iadd dX13_ends_142 ?_
            refine G.iald dX13_ends_143 hf (fun x23 hf => ?_)
            refine G.if_le 160 dX13_ends_144 (by decide) (fun c24 => ?_) (fun c24 => ?_)
            · rw [if_pos c24] at hf
              refine G.iinc (v := (v1 + 1)) (lv' := [(1, .int (v1 + 1)), (0, .ref v0)]) dX13_ends_160 rfl rfl (by decide) rfl ?_
              refine G.goto 49 dX13_ends_163 (by decide) ?_
              exact G.pick [1, 0] rfl (ih v0 (v1 + 1) h18 _ hf hE)
            · rw [if_neg c24] at hf
              refine G.aload_n dX13_ends_147 rfl ?_
              refine G.getr flX13_29 dX13_ends_148 hf (fun r25 hf => ?_)
              refine G.bipush (v := (49 : Int32)) dX13_ends_151 (by decide) ?_
              refine G.dup2 dX13_ends_153 rfl rfl ?_
              refine G.iald dX13_ends_154 hf (fun x26 hf => ?_)
              refine G.iconst (v := (1 : Int32)) dX13_ends_155 (by decide) ?_
              refine G.iload_n dX13_ends_156 rfl ?_
              refine G.ishl dX13_ends_157 ?_
              refine G.ior dX13_ends_158 ?_
              refine G.iast dX13_ends_159 hf (fun h27 hf => ?_)
              refine G.iinc (v := (v1 + 1)) (lv' := [(1, .int (v1 + 1)), (0, .ref v0)]) dX13_ends_160 rfl rfl (by decide) rfl ?_
              refine G.goto 49 dX13_ends_163 (by decide) ?_
              exact G.pick [1, 0] rfl (ih v0 (v1 + 1) h27 _ hf hE)
theorem l_X13_ends_L49 (X : SX) (d : Nat) (rv : Option Int32) (h' : AH) (n : Nat) : ∀ (v0 : Nat) (v1 : Int32) (h : AH)  (h1 : AH), f_X13_ends_L49 n v0 v1 h = some (h1) → G X mX13_ends d 166 [] [] h1 rv h' → G X mX13_ends d 49 [(0, .ref v0), (1, .int v1)] [] h rv h' := lx_X13_ends_L49 X d n rv h'
def f_X13_ends (a0 : Nat) (h : AH) : Option (AH) := if isO h 12 a0 = true then ((f_X13_ends_L2 1000000 a0 (0 : Int32) h).bind fun h1 => (gr h1 12 a0 11).bind fun r3 => (ai h1 0 r3 (50 : Int32)).bind fun x4 => (aw h1 0 r3 (50 : Int32) (x4 + (1 : Int32))).bind fun h5 => (f_X13_ends_L49 1000000 a0 (0 : Int32) h5).bind fun h6 => some h6) else none
set_option maxRecDepth 100000 in
set_option maxHeartbeats 4000000 in
theorem c_X13_ends (X : SX) (d : Nat) (a0 : Nat) (h : AH) (h' : AH) (hf : f_X13_ends a0 h = some h') : isO h 12 a0 = true ∧ G X mX13_ends d 0 [(0, .ref a0)] [] h none h' := by
  unfold f_X13_ends at hf
  by_cases ho : isO h 12 a0 = true
  · rw [if_pos ho] at hf
    refine ⟨ho, ?_⟩
    refine G.iconst (v := (0 : Int32)) dX13_ends_0 (by decide) ?_
    refine G.istore_n (lv' := [(1, .int (0 : Int32)), (0, .ref a0)]) dX13_ends_1 (by decide) rfl ?_
    obtain ⟨h1, e2, hf⟩ := Option.bind_eq_some_iff.mp hf
    refine G.pick [1, 0] rfl (l_X13_ends_L2 X d _ _ 1000000 a0 (0 : Int32) h h1 e2 ?_)
    refine G.aload_n dX13_ends_36 rfl ?_
    refine G.getr flX13_29 dX13_ends_37 hf (fun r3 hf => ?_)
    refine G.bipush (v := (50 : Int32)) dX13_ends_40 (by decide) ?_
    refine G.dup2 dX13_ends_42 rfl rfl ?_
    refine G.iald dX13_ends_43 hf (fun x4 hf => ?_)
    refine G.iconst (v := (1 : Int32)) dX13_ends_44 (by decide) ?_
    refine G.iadd dX13_ends_45 ?_
    refine G.iast dX13_ends_46 hf (fun h5 hf => ?_)
    refine G.iconst (v := (0 : Int32)) dX13_ends_47 (by decide) ?_
    refine G.istore_n (lv' := [(1, .int (0 : Int32)), (0, .ref a0)]) dX13_ends_48 (by decide) rfl ?_
    obtain ⟨h6, e7, hf⟩ := Option.bind_eq_some_iff.mp hf
    refine G.pick [1, 0] rfl (l_X13_ends_L49 X d _ _ 1000000 a0 (0 : Int32) h5 h6 e7 ?_)
    have hq := Option.some.inj hf
    subst hq
    exact G.vret rfl dX13_ends_166
  · rw [if_neg ho] at hf
    cases hf
/-! X13_evening -/
theorem dX13_evening_0 : decode cX13_evening 0 = .ok (.aload_n 0, 1) := by decide +kernel
theorem dX13_evening_1 : decode cX13_evening 1 = .ok (.iload_n 1, 1) := by decide +kernel
theorem dX13_evening_2 : decode cX13_evening 2 = .ok (.invokevirtual 207, 3) := by decide +kernel
theorem dX13_evening_5 : decode cX13_evening 5 = .ok (.istore_n 2, 1) := by decide +kernel
theorem dX13_evening_6 : decode cX13_evening 6 = .ok (.iload_n 2, 1) := by decide +kernel
theorem dX13_evening_7 : decode cX13_evening 7 = .ok (.ifCond .eq 5, 3) := by decide +kernel
theorem dX13_evening_10 : decode cX13_evening 10 = .ok (.iload_n 2, 1) := by decide +kernel
theorem dX13_evening_11 : decode cX13_evening 11 = .ok (.ireturn, 1) := by decide +kernel
theorem dX13_evening_12 : decode cX13_evening 12 = .ok (.iconst 0, 1) := by decide +kernel
theorem dX13_evening_13 : decode cX13_evening 13 = .ok (.istore_n 3, 1) := by decide +kernel
theorem dX13_evening_14 : decode cX13_evening 14 = .ok (.iload_n 3, 1) := by decide +kernel
theorem dX13_evening_15 : decode cX13_evening 15 = .ok (.iload_n 1, 1) := by decide +kernel
theorem dX13_evening_16 : decode cX13_evening 16 = .ok (.if_icmp .ge 17, 3) := by decide +kernel
theorem dX13_evening_19 : decode cX13_evening 19 = .ok (.aload_n 0, 1) := by decide +kernel
theorem dX13_evening_20 : decode cX13_evening 20 = .ok (.invokevirtual 185, 3) := by decide +kernel
theorem dX13_evening_23 : decode cX13_evening 23 = .ok (.aload_n 0, 1) := by decide +kernel
theorem dX13_evening_24 : decode cX13_evening 24 = .ok (.invokevirtual 210, 3) := by decide +kernel
theorem dX13_evening_27 : decode cX13_evening 27 = .ok (.iinc 3 1, 3) := by decide +kernel
theorem dX13_evening_30 : decode cX13_evening 30 = .ok (.goto (-16), 3) := by decide +kernel
theorem dX13_evening_33 : decode cX13_evening 33 = .ok (.aload_n 0, 1) := by decide +kernel
theorem dX13_evening_34 : decode cX13_evening 34 = .ok (.getfield 29, 3) := by decide +kernel
theorem dX13_evening_37 : decode cX13_evening 37 = .ok (.bipush 50, 2) := by decide +kernel
theorem dX13_evening_39 : decode cX13_evening 39 = .ok (.iaload, 1) := by decide +kernel
theorem dX13_evening_40 : decode cX13_evening 40 = .ok (.ireturn, 1) := by decide +kernel
def F_X13_evening_L14 (rec : Nat → Int32 → Int32 → AH → Option (AH)) (v0 : Nat) (v1 : Int32) (v3 : Int32) (h : AH) : Option (AH) := if v1 ≤ v3 then (some (h)) else ((f_X13_remembers v0 h).bind fun h2 => (f_X13_ends v0 h2).bind fun h4 => rec v0 v1 (v3 + 1) h4)
def f_X13_evening_L14 : Nat → Nat → Int32 → Int32 → AH → Option (AH)
  | 0 => fun _ _ _ _ => none
  | n + 1 => F_X13_evening_L14 (f_X13_evening_L14 n)
set_option maxRecDepth 100000 in
set_option maxHeartbeats 4000000 in
theorem lx_X13_evening_L14 (X : SX) (d : Nat) : ∀ n (rv : Option Int32) (h' : AH), ∀ (v0 : Nat) (v1 : Int32) (v3 : Int32) (h : AH)  (h1 : AH), f_X13_evening_L14 n v0 v1 v3 h = some (h1) → G X mX13_evening (d + 1) 33 [(0, .ref v0)] [] h1 rv h' → G X mX13_evening (d + 1) 14 [(0, .ref v0), (1, .int v1), (3, .int v3)] [] h rv h' := by
  intro n
  induction n with
  | zero =>
    intro rv h' v0 v1 v3 h h1 hf hE
    cases hf
  | succ n ihf =>
    intro rv h' v0 v1 v3 h h1 hf hE
    replace hf : F_X13_evening_L14 (f_X13_evening_L14 n) v0 v1 v3 h = some (h1) := hf
    unfold F_X13_evening_L14 at hf
    have ih := ihf rv h'
    refine G.iload_n dX13_evening_14 rfl ?_
    refine G.iload_n dX13_evening_15 rfl ?_
    refine G.icmp_ge 33 dX13_evening_16 (by decide) (fun c1 => ?_) (fun c1 => ?_)
    · rw [if_pos c1] at hf
      have w0 := Option.some.inj hf
      subst w0
      exact G.pick [0] rfl hE
    · rw [if_neg c1] at hf
      refine G.aload_n dX13_evening_19 rfl ?_
      obtain ⟨h2, e3, hf⟩ := Option.bind_eq_some_iff.mp hf
      refine G.callVv (M' := mX13_remembers) (ci := 12) (As := []) (st := []) okX13_remembers viX13_remembers lkX13_185 rfl rfl rfl (Nat.le_of_ble_eq_true rfl) (Nat.le_of_ble_eq_true rfl) dX13_evening_20 (c_X13_remembers X d _ _ _ e3).1 (c_X13_remembers X d _ _ _ e3).2 ?_
      refine G.aload_n dX13_evening_23 rfl ?_
      obtain ⟨h4, e5, hf⟩ := Option.bind_eq_some_iff.mp hf
      refine G.callVv (M' := mX13_ends) (ci := 12) (As := []) (st := []) okX13_ends viX13_ends lkX13_210 rfl rfl rfl (Nat.le_of_ble_eq_true rfl) (Nat.le_of_ble_eq_true rfl) dX13_evening_24 (c_X13_ends X d _ _ _ e5).1 (c_X13_ends X d _ _ _ e5).2 ?_
      refine G.iinc (v := (v3 + 1)) (lv' := [(3, .int (v3 + 1)), (0, .ref v0), (1, .int v1)]) dX13_evening_27 rfl rfl (by decide) rfl ?_
      refine G.goto 14 dX13_evening_30 (by decide) ?_
      exact G.pick [1, 2, 0] rfl (ih v0 v1 (v3 + 1) h4 _ hf hE)
theorem l_X13_evening_L14 (X : SX) (d : Nat) (rv : Option Int32) (h' : AH) (n : Nat) : ∀ (v0 : Nat) (v1 : Int32) (v3 : Int32) (h : AH)  (h1 : AH), f_X13_evening_L14 n v0 v1 v3 h = some (h1) → G X mX13_evening (d + 1) 33 [(0, .ref v0)] [] h1 rv h' → G X mX13_evening (d + 1) 14 [(0, .ref v0), (1, .int v1), (3, .int v3)] [] h rv h' := lx_X13_evening_L14 X d n rv h'
def f_X13_evening (a0 : Nat) (a1 : Int32) (h : AH) : Option (Int32 × AH) := if isO h 12 a0 = true then (bT1 (f_X13_mayPass a0 a1 h) fun x3 h1 => if x3 = 0 then ((f_X13_evening_L14 1000000 a0 a1 (0 : Int32) h1).bind fun h5 => (gr h5 12 a0 11).bind fun r7 => (ai h5 0 r7 (50 : Int32)).bind fun x8 => some (x8, h5)) else (some (x3, h1))) else none
set_option maxRecDepth 100000 in
set_option maxHeartbeats 4000000 in
theorem c_X13_evening (X : SX) (d : Nat) (a0 : Nat) (a1 : Int32) (h : AH) (rr : Int32) (h' : AH) (hf : f_X13_evening a0 a1 h = some (rr, h')) : isO h 12 a0 = true ∧ G X mX13_evening (d + 1) 0 [(0, .ref a0), (1, .int a1)] [] h (some rr) h' := by
  unfold f_X13_evening at hf
  by_cases ho : isO h 12 a0 = true
  · rw [if_pos ho] at hf
    refine ⟨ho, ?_⟩
    refine G.aload_n dX13_evening_0 rfl ?_
    refine G.iload_n dX13_evening_1 rfl ?_
    obtain ⟨x3, h1, e2, hf⟩ := bT1_spec hf
    refine G.callVi (M' := mX13_mayPass) (ci := 12) (As := [.int a1]) (st := []) okX13_mayPass viX13_mayPass lkX13_207 rfl rfl rfl (Nat.le_of_ble_eq_true rfl) (Nat.le_of_ble_eq_true rfl) dX13_evening_2 (c_X13_mayPass X d _ _ _ _ _ e2).1 (c_X13_mayPass X d _ _ _ _ _ e2).2 ?_
    refine G.istore_n (lv' := [(2, .int x3), (0, .ref a0), (1, .int a1)]) dX13_evening_5 (by decide) rfl ?_
    refine G.iload_n dX13_evening_6 rfl ?_
    refine G.if_eq 12 dX13_evening_7 (by decide) (fun c4 => ?_) (fun c4 => ?_)
    · rw [if_pos c4] at hf
      refine G.iconst (v := (0 : Int32)) dX13_evening_12 (by decide) ?_
      refine G.istore_n (lv' := [(3, .int (0 : Int32)), (2, .int x3), (0, .ref a0), (1, .int a1)]) dX13_evening_13 (by decide) rfl ?_
      obtain ⟨h5, e6, hf⟩ := Option.bind_eq_some_iff.mp hf
      refine G.pick [2, 3, 0] rfl (l_X13_evening_L14 X d _ _ 1000000 a0 a1 (0 : Int32) h1 h5 e6 ?_)
      refine G.aload_n dX13_evening_33 rfl ?_
      refine G.getr flX13_29 dX13_evening_34 hf (fun r7 hf => ?_)
      refine G.bipush (v := (50 : Int32)) dX13_evening_37 (by decide) ?_
      refine G.iald dX13_evening_39 hf (fun x8 hf => ?_)
      obtain ⟨hq1, hq2⟩ := Prod.mk.inj (Option.some.inj hf)
      subst hq1
      subst hq2
      exact G.iret rfl rfl dX13_evening_40
    · rw [if_neg c4] at hf
      refine G.iload_n dX13_evening_10 rfl ?_
      obtain ⟨hq1, hq2⟩ := Prod.mk.inj (Option.some.inj hf)
      subst hq1
      subst hq2
      exact G.iret rfl rfl dX13_evening_11
  · rw [if_neg ho] at hf
    cases hf
/-! X12_drawOf -/
theorem dX12_drawOf_0 : decode cX12_drawOf 0 = .ok (.aload_n 0, 1) := by decide +kernel
theorem dX12_drawOf_1 : decode cX12_drawOf 1 = .ok (.aload_n 0, 1) := by decide +kernel
theorem dX12_drawOf_2 : decode cX12_drawOf 2 = .ok (.getfield 304, 3) := by decide +kernel
theorem dX12_drawOf_5 : decode cX12_drawOf 5 = .ok (.i2l, 1) := by decide +kernel
theorem dX12_drawOf_6 : decode cX12_drawOf 6 = .ok (.ldc2_w 322, 3) := by decide +kernel
theorem dX12_drawOf_9 : decode cX12_drawOf 9 = .ok (.lmul, 1) := by decide +kernel
theorem dX12_drawOf_10 : decode cX12_drawOf 10 = .ok (.ldc2_w 324, 3) := by decide +kernel
theorem dX12_drawOf_13 : decode cX12_drawOf 13 = .ok (.ladd, 1) := by decide +kernel
theorem dX12_drawOf_14 : decode cX12_drawOf 14 = .ok (.ldc2_w 326, 3) := by decide +kernel
theorem dX12_drawOf_17 : decode cX12_drawOf 17 = .ok (.lrem, 1) := by decide +kernel
theorem dX12_drawOf_18 : decode cX12_drawOf 18 = .ok (.l2i, 1) := by decide +kernel
theorem dX12_drawOf_19 : decode cX12_drawOf 19 = .ok (.putfield 304, 3) := by decide +kernel
theorem dX12_drawOf_22 : decode cX12_drawOf 22 = .ok (.iload_n 1, 1) := by decide +kernel
theorem dX12_drawOf_23 : decode cX12_drawOf 23 = .ok (.ifCond .le 16, 3) := by decide +kernel
theorem dX12_drawOf_26 : decode cX12_drawOf 26 = .ok (.aload_n 0, 1) := by decide +kernel
theorem dX12_drawOf_27 : decode cX12_drawOf 27 = .ok (.getfield 304, 3) := by decide +kernel
theorem dX12_drawOf_30 : decode cX12_drawOf 30 = .ok (.ldc_w 328, 3) := by decide +kernel
theorem dX12_drawOf_33 : decode cX12_drawOf 33 = .ok (.idiv, 1) := by decide +kernel
theorem dX12_drawOf_34 : decode cX12_drawOf 34 = .ok (.iload_n 1, 1) := by decide +kernel
theorem dX12_drawOf_35 : decode cX12_drawOf 35 = .ok (.irem, 1) := by decide +kernel
theorem dX12_drawOf_36 : decode cX12_drawOf 36 = .ok (.goto 4, 3) := by decide +kernel
theorem dX12_drawOf_39 : decode cX12_drawOf 39 = .ok (.iconst 0, 1) := by decide +kernel
theorem dX12_drawOf_40 : decode cX12_drawOf 40 = .ok (.ireturn, 1) := by decide +kernel
def f_X12_drawOf (a0 : Nat) (a1 : Int32) (h : AH) : Option (Int32 × AH) := if isO h 11 a0 = true then ((gi h 11 a0 9).bind fun x1 => (pf h 11 a0 9 (.int (Int64.toInt32 ((((Int32.toInt64 x1) * (1103515245 : Int64)) + (12345 : Int64)) - (((Int32.toInt64 x1) * (1103515245 : Int64)) + (12345 : Int64)) / (2147483648 : Int64) * (2147483648 : Int64))))).bind fun h2 => if a1 ≤ 0 then (some ((0 : Int32), h2)) else ((gi h2 11 a0 9).bind fun x4 => if a1 = 0 then none else (some (((x4 / (65536 : Int32)) - (x4 / (65536 : Int32)) / a1 * a1), h2)))) else none
set_option maxRecDepth 100000 in
set_option maxHeartbeats 4000000 in
theorem c_X12_drawOf (X : SX) (d : Nat) (a0 : Nat) (a1 : Int32) (h : AH) (rr : Int32) (h' : AH) (hf : f_X12_drawOf a0 a1 h = some (rr, h')) : isO h 11 a0 = true ∧ G X mX12_drawOf d 0 [(0, .ref a0), (1, .int a1)] [] h (some rr) h' := by
  unfold f_X12_drawOf at hf
  by_cases ho : isO h 11 a0 = true
  · rw [if_pos ho] at hf
    refine ⟨ho, ?_⟩
    refine G.aload_n dX12_drawOf_0 rfl ?_
    refine G.aload_n dX12_drawOf_1 rfl ?_
    refine G.geti flX12_304 dX12_drawOf_2 hf (fun x1 hf => ?_)
    refine G.i2l dX12_drawOf_5 ?_
    refine G.ldc2 ckX12_322 dX12_drawOf_6 ?_
    refine G.lmul dX12_drawOf_9 ?_
    refine G.ldc2 ckX12_324 dX12_drawOf_10 ?_
    refine G.ladd dX12_drawOf_13 ?_
    refine G.ldc2 ckX12_326 dX12_drawOf_14 ?_
    refine G.lrem dX12_drawOf_17 (by decide) ?_
    refine G.l2i dX12_drawOf_18 ?_
    refine G.put flX12_304 (Or.inl rfl) (fun _ _ => ⟨rfl, rfl⟩) dX12_drawOf_19 hf (fun h2 hf => ?_)
    refine G.iload_n dX12_drawOf_22 rfl ?_
    refine G.if_le 39 dX12_drawOf_23 (by decide) (fun c3 => ?_) (fun c3 => ?_)
    · rw [if_pos c3] at hf
      refine G.iconst (v := (0 : Int32)) dX12_drawOf_39 (by decide) ?_
      obtain ⟨hq1, hq2⟩ := Prod.mk.inj (Option.some.inj hf)
      subst hq1
      subst hq2
      exact G.iret rfl rfl dX12_drawOf_40
    · rw [if_neg c3] at hf
      refine G.aload_n dX12_drawOf_26 rfl ?_
      refine G.geti flX12_304 dX12_drawOf_27 hf (fun x4 hf => ?_)
      refine G.ldcw ckX12_328 dX12_drawOf_30 ?_
      refine G.idiv dX12_drawOf_33 (by decide) ?_
      refine G.iload_n dX12_drawOf_34 rfl ?_
      by_cases c5 : a1 = 0
      · rw [if_pos c5] at hf
        cases hf
      · rw [if_neg c5] at hf
        refine G.irem dX12_drawOf_35 c5 ?_
        refine G.goto 40 dX12_drawOf_36 (by decide) ?_
        obtain ⟨hq1, hq2⟩ := Prod.mk.inj (Option.some.inj hf)
        subst hq1
        subst hq2
        exact G.iret rfl rfl dX12_drawOf_40
  · rw [if_neg ho] at hf
    cases hf
/-! X3_visit -/
theorem dX3_visit_0 : decode cX3_visit 0 = .ok (.aload_n 0, 1) := by decide +kernel
theorem dX3_visit_1 : decode cX3_visit 1 = .ok (.iload_n 1, 1) := by decide +kernel
theorem dX3_visit_2 : decode cX3_visit 2 = .ok (.aload_n 0, 1) := by decide +kernel
theorem dX3_visit_3 : decode cX3_visit 3 = .ok (.getfield 12, 3) := by decide +kernel
theorem dX3_visit_6 : decode cX3_visit 6 = .ok (.getfield 52, 3) := by decide +kernel
theorem dX3_visit_9 : decode cX3_visit 9 = .ok (.iload_n 2, 1) := by decide +kernel
theorem dX3_visit_10 : decode cX3_visit 10 = .ok (.iaload, 1) := by decide +kernel
theorem dX3_visit_11 : decode cX3_visit 11 = .ok (.invokevirtual 128, 3) := by decide +kernel
theorem dX3_visit_14 : decode cX3_visit 14 = .ok (.ifCond .eq 17, 3) := by decide +kernel
theorem dX3_visit_17 : decode cX3_visit 17 = .ok (.aload_n 0, 1) := by decide +kernel
theorem dX3_visit_18 : decode cX3_visit 18 = .ok (.iload_n 1, 1) := by decide +kernel
theorem dX3_visit_19 : decode cX3_visit 19 = .ok (.aload_n 0, 1) := by decide +kernel
theorem dX3_visit_20 : decode cX3_visit 20 = .ok (.getfield 12, 3) := by decide +kernel
theorem dX3_visit_23 : decode cX3_visit 23 = .ok (.getfield 52, 3) := by decide +kernel
theorem dX3_visit_26 : decode cX3_visit 26 = .ok (.iload_n 2, 1) := by decide +kernel
theorem dX3_visit_27 : decode cX3_visit 27 = .ok (.iaload, 1) := by decide +kernel
theorem dX3_visit_28 : decode cX3_visit 28 = .ok (.invokevirtual 131, 3) := by decide +kernel
theorem dX3_visit_31 : decode cX3_visit 31 = .ok (.aload_n 0, 1) := by decide +kernel
theorem dX3_visit_32 : decode cX3_visit 32 = .ok (.iload_n 1, 1) := by decide +kernel
theorem dX3_visit_33 : decode cX3_visit 33 = .ok (.iload_n 2, 1) := by decide +kernel
theorem dX3_visit_34 : decode cX3_visit 34 = .ok (.invokevirtual 135, 3) := by decide +kernel
theorem dX3_visit_37 : decode cX3_visit 37 = .ok (.ifCond .eq 10, 3) := by decide +kernel
theorem dX3_visit_40 : decode cX3_visit 40 = .ok (.aload_n 0, 1) := by decide +kernel
theorem dX3_visit_41 : decode cX3_visit 41 = .ok (.iload_n 1, 1) := by decide +kernel
theorem dX3_visit_42 : decode cX3_visit 42 = .ok (.iload_n 2, 1) := by decide +kernel
theorem dX3_visit_43 : decode cX3_visit 43 = .ok (.invokevirtual 138, 3) := by decide +kernel
theorem dX3_visit_46 : decode cX3_visit 46 = .ok (.pop, 1) := by decide +kernel
theorem dX3_visit_47 : decode cX3_visit 47 = .ok (.return_, 1) := by decide +kernel
def f_X3_visit_31 (v0 : Nat) (v1 : Int32) (v2 : Int32) (h : AH) : Option (AH) := bT1 (f_X3_mayLull v0 v1 v2 h) fun x3 h1 => if x3 = 0 then (some h1) else (bT1 (f_X3_lull v0 v1 v2 h1) fun x7 h5 => some h5)
set_option maxRecDepth 100000 in
set_option maxHeartbeats 4000000 in
theorem j_X3_visit_31 (X : SX) (d : Nat) (v0 : Nat) (v1 : Int32) (v2 : Int32) (h : AH) (h' : AH) (hf : f_X3_visit_31 v0 v1 v2 h = some h') : G X mX3_visit (d + 3) 31 [(0, .ref v0), (1, .int v1), (2, .int v2)] [] h none h' := by
  unfold f_X3_visit_31 at hf
  refine G.aload_n dX3_visit_31 rfl ?_
  refine G.iload_n dX3_visit_32 rfl ?_
  refine G.iload_n dX3_visit_33 rfl ?_
  obtain ⟨x3, h1, e2, hf⟩ := bT1_spec hf
  refine G.callVi (M' := mX3_mayLull) (ci := 3) (As := [.int v1, .int v2]) (st := []) okX3_mayLull viX3_mayLull lkX3_135 rfl rfl rfl (Nat.le_of_ble_eq_true rfl) (Nat.le_of_ble_eq_true rfl) dX3_visit_34 (c_X3_mayLull X (d + 1) _ _ _ _ _ _ e2).1 (c_X3_mayLull X (d + 1) _ _ _ _ _ _ e2).2 ?_
  refine G.if_eq 47 dX3_visit_37 (by decide) (fun c4 => ?_) (fun c4 => ?_)
  · rw [if_pos c4] at hf
    have hq := Option.some.inj hf
    subst hq
    exact G.vret rfl dX3_visit_47
  · rw [if_neg c4] at hf
    refine G.aload_n dX3_visit_40 rfl ?_
    refine G.iload_n dX3_visit_41 rfl ?_
    refine G.iload_n dX3_visit_42 rfl ?_
    obtain ⟨x7, h5, e6, hf⟩ := bT1_spec hf
    refine G.callVi (M' := mX3_lull) (ci := 3) (As := [.int v1, .int v2]) (st := []) okX3_lull viX3_lull lkX3_138 rfl rfl rfl (Nat.le_of_ble_eq_true rfl) (Nat.le_of_ble_eq_true rfl) dX3_visit_43 (c_X3_lull X d _ _ _ _ _ _ e6).1 (c_X3_lull X d _ _ _ _ _ _ e6).2 ?_
    refine G.pop dX3_visit_46 rfl ?_
    have hq := Option.some.inj hf
    subst hq
    exact G.vret rfl dX3_visit_47
def f_X3_visit (a0 : Nat) (a1 : Int32) (a2 : Int32) (h : AH) : Option (AH) := if isO h 3 a0 = true then ((gr h 3 a0 0).bind fun r1 => (gr h 4 r1 4).bind fun r2 => (ai h 0 r2 a2).bind fun x3 => bT1 (f_X3_mayWalk a0 a1 x3 h) fun x6 h4 => if x6 = 0 then (f_X3_visit_31 a0 a1 a2 h4) else ((gr h4 3 a0 0).bind fun r8 => (gr h4 4 r8 4).bind fun r9 => (ai h4 0 r9 a2).bind fun x10 => (f_X3_walk a0 a1 x10 h4).bind fun h11 => f_X3_visit_31 a0 a1 a2 h11)) else none
set_option maxRecDepth 100000 in
set_option maxHeartbeats 4000000 in
theorem c_X3_visit (X : SX) (d : Nat) (a0 : Nat) (a1 : Int32) (a2 : Int32) (h : AH) (h' : AH) (hf : f_X3_visit a0 a1 a2 h = some h') : isO h 3 a0 = true ∧ G X mX3_visit (d + 3) 0 [(0, .ref a0), (1, .int a1), (2, .int a2)] [] h none h' := by
  unfold f_X3_visit at hf
  by_cases ho : isO h 3 a0 = true
  · rw [if_pos ho] at hf
    refine ⟨ho, ?_⟩
    refine G.aload_n dX3_visit_0 rfl ?_
    refine G.iload_n dX3_visit_1 rfl ?_
    refine G.aload_n dX3_visit_2 rfl ?_
    refine G.getr flX3_12 dX3_visit_3 hf (fun r1 hf => ?_)
    refine G.getr flX3_52 dX3_visit_6 hf (fun r2 hf => ?_)
    refine G.iload_n dX3_visit_9 rfl ?_
    refine G.iald dX3_visit_10 hf (fun x3 hf => ?_)
    obtain ⟨x6, h4, e5, hf⟩ := bT1_spec hf
    refine G.callVi (M' := mX3_mayWalk) (ci := 3) (As := [.int a1, .int x3]) (st := []) okX3_mayWalk viX3_mayWalk lkX3_128 rfl rfl rfl (Nat.le_of_ble_eq_true rfl) (Nat.le_of_ble_eq_true rfl) dX3_visit_11 (c_X3_mayWalk X d _ _ _ _ _ _ e5).1 (c_X3_mayWalk X d _ _ _ _ _ _ e5).2 ?_
    refine G.if_eq 31 dX3_visit_14 (by decide) (fun c7 => ?_) (fun c7 => ?_)
    · rw [if_pos c7] at hf
      exact G.pick [0, 1, 2] rfl (j_X3_visit_31 X d a0 a1 a2 h4 _ hf)
    · rw [if_neg c7] at hf
      refine G.aload_n dX3_visit_17 rfl ?_
      refine G.iload_n dX3_visit_18 rfl ?_
      refine G.aload_n dX3_visit_19 rfl ?_
      refine G.getr flX3_12 dX3_visit_20 hf (fun r8 hf => ?_)
      refine G.getr flX3_52 dX3_visit_23 hf (fun r9 hf => ?_)
      refine G.iload_n dX3_visit_26 rfl ?_
      refine G.iald dX3_visit_27 hf (fun x10 hf => ?_)
      obtain ⟨h11, e12, hf⟩ := Option.bind_eq_some_iff.mp hf
      refine G.callVv (M' := mX3_walk) (ci := 3) (As := [.int a1, .int x10]) (st := []) okX3_walk viX3_walk lkX3_131 rfl rfl rfl (Nat.le_of_ble_eq_true rfl) (Nat.le_of_ble_eq_true rfl) dX3_visit_28 (c_X3_walk X d _ _ _ _ _ e12).1 (c_X3_walk X d _ _ _ _ _ e12).2 ?_
      exact G.pick [0, 1, 2] rfl (j_X3_visit_31 X d a0 a1 a2 h11 _ hf)
  · rw [if_neg ho] at hf
    cases hf
/-! X12_doByDraws -/
theorem dX12_doByDraws_0 : decode cX12_doByDraws 0 = .ok (.aload_n 0, 1) := by decide +kernel
theorem dX12_doByDraws_1 : decode cX12_doByDraws 1 = .ok (.getfield 19, 3) := by decide +kernel
theorem dX12_doByDraws_4 : decode cX12_doByDraws 4 = .ok (.getfield 86, 3) := by decide +kernel
theorem dX12_doByDraws_7 : decode cX12_doByDraws 7 = .ok (.getfield 104, 3) := by decide +kernel
theorem dX12_doByDraws_10 : decode cX12_doByDraws 10 = .ok (.ifCond .eq 16, 3) := by decide +kernel
theorem dX12_doByDraws_13 : decode cX12_doByDraws 13 = .ok (.aload_n 0, 1) := by decide +kernel
theorem dX12_doByDraws_14 : decode cX12_doByDraws 14 = .ok (.getfield 19, 3) := by decide +kernel
theorem dX12_doByDraws_17 : decode cX12_doByDraws 17 = .ok (.getfield 86, 3) := by decide +kernel
theorem dX12_doByDraws_20 : decode cX12_doByDraws 20 = .ok (.getfield 116, 3) := by decide +kernel
theorem dX12_doByDraws_23 : decode cX12_doByDraws 23 = .ok (.ifCond .ne 4, 3) := by decide +kernel
theorem dX12_doByDraws_26 : decode cX12_doByDraws 26 = .ok (.return_, 1) := by decide +kernel
theorem dX12_doByDraws_27 : decode cX12_doByDraws 27 = .ok (.aload_n 0, 1) := by decide +kernel
theorem dX12_doByDraws_28 : decode cX12_doByDraws 28 = .ok (.bipush 6, 2) := by decide +kernel
theorem dX12_doByDraws_30 : decode cX12_doByDraws 30 = .ok (.invokevirtual 316, 3) := by decide +kernel
theorem dX12_doByDraws_33 : decode cX12_doByDraws 33 = .ok (.istore_n 1, 1) := by decide +kernel
theorem dX12_doByDraws_34 : decode cX12_doByDraws 34 = .ok (.aload_n 0, 1) := by decide +kernel
theorem dX12_doByDraws_35 : decode cX12_doByDraws 35 = .ok (.aload_n 0, 1) := by decide +kernel
theorem dX12_doByDraws_36 : decode cX12_doByDraws 36 = .ok (.getfield 19, 3) := by decide +kernel
theorem dX12_doByDraws_39 : decode cX12_doByDraws 39 = .ok (.getfield 86, 3) := by decide +kernel
theorem dX12_doByDraws_42 : decode cX12_doByDraws 42 = .ok (.getfield 104, 3) := by decide +kernel
theorem dX12_doByDraws_45 : decode cX12_doByDraws 45 = .ok (.invokevirtual 316, 3) := by decide +kernel
theorem dX12_doByDraws_48 : decode cX12_doByDraws 48 = .ok (.istore_n 2, 1) := by decide +kernel
theorem dX12_doByDraws_49 : decode cX12_doByDraws 49 = .ok (.aload_n 0, 1) := by decide +kernel
theorem dX12_doByDraws_50 : decode cX12_doByDraws 50 = .ok (.aload_n 0, 1) := by decide +kernel
theorem dX12_doByDraws_51 : decode cX12_doByDraws 51 = .ok (.getfield 19, 3) := by decide +kernel
theorem dX12_doByDraws_54 : decode cX12_doByDraws 54 = .ok (.getfield 86, 3) := by decide +kernel
theorem dX12_doByDraws_57 : decode cX12_doByDraws 57 = .ok (.getfield 116, 3) := by decide +kernel
theorem dX12_doByDraws_60 : decode cX12_doByDraws 60 = .ok (.invokevirtual 316, 3) := by decide +kernel
theorem dX12_doByDraws_63 : decode cX12_doByDraws 63 = .ok (.istore_n 3, 1) := by decide +kernel
theorem dX12_doByDraws_64 : decode cX12_doByDraws 64 = .ok (.iload_n 1, 1) := by decide +kernel
theorem dX12_doByDraws_65 : decode cX12_doByDraws 65 = .ok (.iconst 5, 1) := by decide +kernel
theorem dX12_doByDraws_66 : decode cX12_doByDraws 66 = .ok (.if_icmp .ne 13, 3) := by decide +kernel
theorem dX12_doByDraws_69 : decode cX12_doByDraws 69 = .ok (.aload_n 0, 1) := by decide +kernel
theorem dX12_doByDraws_70 : decode cX12_doByDraws 70 = .ok (.getfield 19, 3) := by decide +kernel
theorem dX12_doByDraws_73 : decode cX12_doByDraws 73 = .ok (.invokevirtual 250, 3) := by decide +kernel
theorem dX12_doByDraws_76 : decode cX12_doByDraws 76 = .ok (.goto 41, 3) := by decide +kernel
theorem dX12_doByDraws_79 : decode cX12_doByDraws 79 = .ok (.iload_n 1, 1) := by decide +kernel
theorem dX12_doByDraws_80 : decode cX12_doByDraws 80 = .ok (.iconst 4, 1) := by decide +kernel
theorem dX12_doByDraws_81 : decode cX12_doByDraws 81 = .ok (.if_icmp .ne 27, 3) := by decide +kernel
theorem dX12_doByDraws_84 : decode cX12_doByDraws 84 = .ok (.aload_n 0, 1) := by decide +kernel
theorem dX12_doByDraws_85 : decode cX12_doByDraws 85 = .ok (.getfield 19, 3) := by decide +kernel
theorem dX12_doByDraws_88 : decode cX12_doByDraws 88 = .ok (.iload_n 3, 1) := by decide +kernel
theorem dX12_doByDraws_89 : decode cX12_doByDraws 89 = .ok (.iconst 1, 1) := by decide +kernel
theorem dX12_doByDraws_90 : decode cX12_doByDraws 90 = .ok (.invokevirtual 241, 3) := by decide +kernel
theorem dX12_doByDraws_93 : decode cX12_doByDraws 93 = .ok (.ifCond .eq 24, 3) := by decide +kernel
theorem dX12_doByDraws_96 : decode cX12_doByDraws 96 = .ok (.aload_n 0, 1) := by decide +kernel
theorem dX12_doByDraws_97 : decode cX12_doByDraws 97 = .ok (.getfield 19, 3) := by decide +kernel
theorem dX12_doByDraws_100 : decode cX12_doByDraws 100 = .ok (.iload_n 3, 1) := by decide +kernel
theorem dX12_doByDraws_101 : decode cX12_doByDraws 101 = .ok (.iconst 1, 1) := by decide +kernel
theorem dX12_doByDraws_102 : decode cX12_doByDraws 102 = .ok (.invokevirtual 244, 3) := by decide +kernel
theorem dX12_doByDraws_105 : decode cX12_doByDraws 105 = .ok (.goto 12, 3) := by decide +kernel
theorem dX12_doByDraws_108 : decode cX12_doByDraws 108 = .ok (.aload_n 0, 1) := by decide +kernel
theorem dX12_doByDraws_109 : decode cX12_doByDraws 109 = .ok (.getfield 19, 3) := by decide +kernel
theorem dX12_doByDraws_112 : decode cX12_doByDraws 112 = .ok (.iload_n 2, 1) := by decide +kernel
theorem dX12_doByDraws_113 : decode cX12_doByDraws 113 = .ok (.iload_n 3, 1) := by decide +kernel
theorem dX12_doByDraws_114 : decode cX12_doByDraws 114 = .ok (.invokevirtual 319, 3) := by decide +kernel
theorem dX12_doByDraws_117 : decode cX12_doByDraws 117 = .ok (.return_, 1) := by decide +kernel
def f_X12_doByDraws (a0 : Nat) (h : AH) : Option (AH) := if isO h 11 a0 = true then ((gr h 11 a0 1).bind fun r1 => (gr h 3 r1 1).bind fun r2 => (gi h 9 r2 9).bind fun x3 => if x3 = 0 then (some h) else ((gr h 11 a0 1).bind fun r5 => (gr h 3 r5 1).bind fun r6 => (gi h 9 r6 10).bind fun x7 => if x7 = 0 then (some h) else (bT1 (f_X12_drawOf a0 (6 : Int32) h) fun x11 h9 => (gr h9 11 a0 1).bind fun r12 => (gr h9 3 r12 1).bind fun r13 => (gi h9 9 r13 9).bind fun x14 => bT1 (f_X12_drawOf a0 x14 h9) fun x17 h15 => (gr h15 11 a0 1).bind fun r18 => (gr h15 3 r18 1).bind fun r19 => (gi h15 9 r19 10).bind fun x20 => bT1 (f_X12_drawOf a0 x20 h15) fun x23 h21 => if x11 = (5 : Int32) then ((gr h21 11 a0 1).bind fun r37 => (f_X3_endEvening r37 h21).bind fun h38 => some h38) else (if x11 = (4 : Int32) then ((gr h21 11 a0 1).bind fun r29 => bT1 (f_X3_mayPass r29 x23 (1 : Int32) h21) fun x32 h30 => if x32 = 0 then (some h30) else ((gr h30 11 a0 1).bind fun r34 => (f_X3_pass r34 x23 (1 : Int32) h30).bind fun h35 => some h35)) else ((gr h21 11 a0 1).bind fun r26 => (f_X3_visit r26 x17 x23 h21).bind fun h27 => some h27))))) else none
set_option maxRecDepth 100000 in
set_option maxHeartbeats 4000000 in
theorem c_X12_doByDraws (X : SX) (d : Nat) (a0 : Nat) (h : AH) (h' : AH) (hf : f_X12_doByDraws a0 h = some h') : isO h 11 a0 = true ∧ G X mX12_doByDraws (d + 4) 0 [(0, .ref a0)] [] h none h' := by
  unfold f_X12_doByDraws at hf
  by_cases ho : isO h 11 a0 = true
  · rw [if_pos ho] at hf
    refine ⟨ho, ?_⟩
    refine G.aload_n dX12_doByDraws_0 rfl ?_
    refine G.getr flX12_19 dX12_doByDraws_1 hf (fun r1 hf => ?_)
    refine G.getr flX12_86 dX12_doByDraws_4 hf (fun r2 hf => ?_)
    refine G.geti flX12_104 dX12_doByDraws_7 hf (fun x3 hf => ?_)
    refine G.if_eq 26 dX12_doByDraws_10 (by decide) (fun c4 => ?_) (fun c4 => ?_)
    · rw [if_pos c4] at hf
      have hq := Option.some.inj hf
      subst hq
      exact G.vret rfl dX12_doByDraws_26
    · rw [if_neg c4] at hf
      refine G.aload_n dX12_doByDraws_13 rfl ?_
      refine G.getr flX12_19 dX12_doByDraws_14 hf (fun r5 hf => ?_)
      refine G.getr flX12_86 dX12_doByDraws_17 hf (fun r6 hf => ?_)
      refine G.geti flX12_116 dX12_doByDraws_20 hf (fun x7 hf => ?_)
      refine G.if_ne 27 dX12_doByDraws_23 (by decide) (fun c8 => ?_) (fun c8 => ?_)
      · rw [if_neg c8] at hf
        refine G.aload_n dX12_doByDraws_27 rfl ?_
        refine G.bipush (v := (6 : Int32)) dX12_doByDraws_28 (by decide) ?_
        obtain ⟨x11, h9, e10, hf⟩ := bT1_spec hf
        refine G.callVi (M' := mX12_drawOf) (ci := 11) (As := [.int (6 : Int32)]) (st := []) okX12_drawOf viX12_drawOf lkX12_316 rfl rfl rfl (Nat.le_of_ble_eq_true rfl) (Nat.le_of_ble_eq_true rfl) dX12_doByDraws_30 (c_X12_drawOf X (d + 3) _ _ _ _ _ e10).1 (c_X12_drawOf X (d + 3) _ _ _ _ _ e10).2 ?_
        refine G.istore_n (lv' := [(1, .int x11), (0, .ref a0)]) dX12_doByDraws_33 (by decide) rfl ?_
        refine G.aload_n dX12_doByDraws_34 rfl ?_
        refine G.aload_n dX12_doByDraws_35 rfl ?_
        refine G.getr flX12_19 dX12_doByDraws_36 hf (fun r12 hf => ?_)
        refine G.getr flX12_86 dX12_doByDraws_39 hf (fun r13 hf => ?_)
        refine G.geti flX12_104 dX12_doByDraws_42 hf (fun x14 hf => ?_)
        obtain ⟨x17, h15, e16, hf⟩ := bT1_spec hf
        refine G.callVi (M' := mX12_drawOf) (ci := 11) (As := [.int x14]) (st := []) okX12_drawOf viX12_drawOf lkX12_316 rfl rfl rfl (Nat.le_of_ble_eq_true rfl) (Nat.le_of_ble_eq_true rfl) dX12_doByDraws_45 (c_X12_drawOf X (d + 3) _ _ _ _ _ e16).1 (c_X12_drawOf X (d + 3) _ _ _ _ _ e16).2 ?_
        refine G.istore_n (lv' := [(2, .int x17), (1, .int x11), (0, .ref a0)]) dX12_doByDraws_48 (by decide) rfl ?_
        refine G.aload_n dX12_doByDraws_49 rfl ?_
        refine G.aload_n dX12_doByDraws_50 rfl ?_
        refine G.getr flX12_19 dX12_doByDraws_51 hf (fun r18 hf => ?_)
        refine G.getr flX12_86 dX12_doByDraws_54 hf (fun r19 hf => ?_)
        refine G.geti flX12_116 dX12_doByDraws_57 hf (fun x20 hf => ?_)
        obtain ⟨x23, h21, e22, hf⟩ := bT1_spec hf
        refine G.callVi (M' := mX12_drawOf) (ci := 11) (As := [.int x20]) (st := []) okX12_drawOf viX12_drawOf lkX12_316 rfl rfl rfl (Nat.le_of_ble_eq_true rfl) (Nat.le_of_ble_eq_true rfl) dX12_doByDraws_60 (c_X12_drawOf X (d + 3) _ _ _ _ _ e22).1 (c_X12_drawOf X (d + 3) _ _ _ _ _ e22).2 ?_
        refine G.istore_n (lv' := [(3, .int x23), (2, .int x17), (1, .int x11), (0, .ref a0)]) dX12_doByDraws_63 (by decide) rfl ?_
        refine G.iload_n dX12_doByDraws_64 rfl ?_
        refine G.iconst (v := (5 : Int32)) dX12_doByDraws_65 (by decide) ?_
        refine G.icmp_ne 79 dX12_doByDraws_66 (by decide) (fun c24 => ?_) (fun c24 => ?_)
        · rw [if_neg c24] at hf
          refine G.iload_n dX12_doByDraws_79 rfl ?_
          refine G.iconst (v := (4 : Int32)) dX12_doByDraws_80 (by decide) ?_
          refine G.icmp_ne 108 dX12_doByDraws_81 (by decide) (fun c25 => ?_) (fun c25 => ?_)
          · rw [if_neg c25] at hf
            refine G.aload_n dX12_doByDraws_108 rfl ?_
            refine G.getr flX12_19 dX12_doByDraws_109 hf (fun r26 hf => ?_)
            refine G.iload_n dX12_doByDraws_112 rfl ?_
            refine G.iload_n dX12_doByDraws_113 rfl ?_
            obtain ⟨h27, e28, hf⟩ := Option.bind_eq_some_iff.mp hf
            refine G.callVv (M' := mX3_visit) (ci := 3) (As := [.int x17, .int x23]) (st := []) okX3_visit viX3_visit lkX12_319 rfl rfl rfl (Nat.le_of_ble_eq_true rfl) (Nat.le_of_ble_eq_true rfl) dX12_doByDraws_114 (c_X3_visit X d _ _ _ _ _ e28).1 (c_X3_visit X d _ _ _ _ _ e28).2 ?_
            have hq := Option.some.inj hf
            subst hq
            exact G.vret rfl dX12_doByDraws_117
          · rw [if_pos c25] at hf
            refine G.aload_n dX12_doByDraws_84 rfl ?_
            refine G.getr flX12_19 dX12_doByDraws_85 hf (fun r29 hf => ?_)
            refine G.iload_n dX12_doByDraws_88 rfl ?_
            refine G.iconst (v := (1 : Int32)) dX12_doByDraws_89 (by decide) ?_
            obtain ⟨x32, h30, e31, hf⟩ := bT1_spec hf
            refine G.callVi (M' := mX3_mayPass) (ci := 3) (As := [.int x23, .int (1 : Int32)]) (st := []) okX3_mayPass viX3_mayPass lkX12_241 rfl rfl rfl (Nat.le_of_ble_eq_true rfl) (Nat.le_of_ble_eq_true rfl) dX12_doByDraws_90 (c_X3_mayPass X (d + 2) _ _ _ _ _ _ e31).1 (c_X3_mayPass X (d + 2) _ _ _ _ _ _ e31).2 ?_
            refine G.if_eq 117 dX12_doByDraws_93 (by decide) (fun c33 => ?_) (fun c33 => ?_)
            · rw [if_pos c33] at hf
              have hq := Option.some.inj hf
              subst hq
              exact G.vret rfl dX12_doByDraws_117
            · rw [if_neg c33] at hf
              refine G.aload_n dX12_doByDraws_96 rfl ?_
              refine G.getr flX12_19 dX12_doByDraws_97 hf (fun r34 hf => ?_)
              refine G.iload_n dX12_doByDraws_100 rfl ?_
              refine G.iconst (v := (1 : Int32)) dX12_doByDraws_101 (by decide) ?_
              obtain ⟨h35, e36, hf⟩ := Option.bind_eq_some_iff.mp hf
              refine G.callVv (M' := mX3_pass) (ci := 3) (As := [.int x23, .int (1 : Int32)]) (st := []) okX3_pass viX3_pass lkX12_244 rfl rfl rfl (Nat.le_of_ble_eq_true rfl) (Nat.le_of_ble_eq_true rfl) dX12_doByDraws_102 (c_X3_pass X (d + 3) _ _ _ _ _ e36).1 (c_X3_pass X (d + 3) _ _ _ _ _ e36).2 ?_
              refine G.goto 117 dX12_doByDraws_105 (by decide) ?_
              have hq := Option.some.inj hf
              subst hq
              exact G.vret rfl dX12_doByDraws_117
        · rw [if_pos c24] at hf
          refine G.aload_n dX12_doByDraws_69 rfl ?_
          refine G.getr flX12_19 dX12_doByDraws_70 hf (fun r37 hf => ?_)
          obtain ⟨h38, e39, hf⟩ := Option.bind_eq_some_iff.mp hf
          refine G.callVv (M' := mX3_endEvening) (ci := 3) (As := []) (st := []) okX3_endEvening viX3_endEvening lkX12_250 rfl rfl rfl (Nat.le_of_ble_eq_true rfl) (Nat.le_of_ble_eq_true rfl) dX12_doByDraws_73 (c_X3_endEvening X (d + 1) _ _ _ e39).1 (c_X3_endEvening X (d + 1) _ _ _ e39).2 ?_
          refine G.goto 117 dX12_doByDraws_76 (by decide) ?_
          have hq := Option.some.inj hf
          subst hq
          exact G.vret rfl dX12_doByDraws_117
      · rw [if_pos c8] at hf
        have hq := Option.some.inj hf
        subst hq
        exact G.vret rfl dX12_doByDraws_26
  · rw [if_neg ho] at hf
    cases hf
/-! X12_drift -/
theorem dX12_drift_0 : decode cX12_drift 0 = .ok (.aload_n 0, 1) := by decide +kernel
theorem dX12_drift_1 : decode cX12_drift 1 = .ok (.iload_n 1, 1) := by decide +kernel
theorem dX12_drift_2 : decode cX12_drift 2 = .ok (.invokevirtual 247, 3) := by decide +kernel
theorem dX12_drift_5 : decode cX12_drift 5 = .ok (.istore_n 2, 1) := by decide +kernel
theorem dX12_drift_6 : decode cX12_drift 6 = .ok (.iload_n 2, 1) := by decide +kernel
theorem dX12_drift_7 : decode cX12_drift 7 = .ok (.ifCond .eq 5, 3) := by decide +kernel
theorem dX12_drift_10 : decode cX12_drift 10 = .ok (.iload_n 2, 1) := by decide +kernel
theorem dX12_drift_11 : decode cX12_drift 11 = .ok (.ireturn, 1) := by decide +kernel
theorem dX12_drift_12 : decode cX12_drift 12 = .ok (.iconst 0, 1) := by decide +kernel
theorem dX12_drift_13 : decode cX12_drift 13 = .ok (.istore_n 3, 1) := by decide +kernel
theorem dX12_drift_14 : decode cX12_drift 14 = .ok (.iload_n 3, 1) := by decide +kernel
theorem dX12_drift_15 : decode cX12_drift 15 = .ok (.iload_n 1, 1) := by decide +kernel
theorem dX12_drift_16 : decode cX12_drift 16 = .ok (.if_icmp .ge 27, 3) := by decide +kernel
theorem dX12_drift_19 : decode cX12_drift 19 = .ok (.aload_n 0, 1) := by decide +kernel
theorem dX12_drift_20 : decode cX12_drift 20 = .ok (.getfield 40, 3) := by decide +kernel
theorem dX12_drift_23 : decode cX12_drift 23 = .ok (.aload_n 0, 1) := by decide +kernel
theorem dX12_drift_24 : decode cX12_drift 24 = .ok (.getfield 19, 3) := by decide +kernel
theorem dX12_drift_27 : decode cX12_drift 27 = .ok (.getfield 119, 3) := by decide +kernel
theorem dX12_drift_30 : decode cX12_drift 30 = .ok (.invokevirtual 223, 3) := by decide +kernel
theorem dX12_drift_33 : decode cX12_drift 33 = .ok (.aload_n 0, 1) := by decide +kernel
theorem dX12_drift_34 : decode cX12_drift 34 = .ok (.invokevirtual 253, 3) := by decide +kernel
theorem dX12_drift_37 : decode cX12_drift 37 = .ok (.iinc 3 1, 3) := by decide +kernel
theorem dX12_drift_40 : decode cX12_drift 40 = .ok (.goto (-26), 3) := by decide +kernel
theorem dX12_drift_43 : decode cX12_drift 43 = .ok (.aload_n 0, 1) := by decide +kernel
theorem dX12_drift_44 : decode cX12_drift 44 = .ok (.getfield 19, 3) := by decide +kernel
theorem dX12_drift_47 : decode cX12_drift 47 = .ok (.invokestatic 143, 3) := by decide +kernel
theorem dX12_drift_50 : decode cX12_drift 50 = .ok (.ireturn, 1) := by decide +kernel
def F_X12_drift_L14 (rec : Nat → Int32 → Int32 → AH → Option (AH)) (v0 : Nat) (v1 : Int32) (v3 : Int32) (h : AH) : Option (AH) := if v1 ≤ v3 then (some (h)) else ((gr h 11 v0 4).bind fun r2 => (gr h 11 v0 1).bind fun r3 => (gr h 3 r3 0).bind fun r4 => (f_X6_remember r2 r4 h).bind fun h5 => (f_X12_doByDraws v0 h5).bind fun h7 => rec v0 v1 (v3 + 1) h7)
def f_X12_drift_L14 : Nat → Nat → Int32 → Int32 → AH → Option (AH)
  | 0 => fun _ _ _ _ => none
  | n + 1 => F_X12_drift_L14 (f_X12_drift_L14 n)
set_option maxRecDepth 100000 in
set_option maxHeartbeats 4000000 in
theorem lx_X12_drift_L14 (X : SX) (d : Nat) : ∀ n (rv : Option Int32) (h' : AH), ∀ (v0 : Nat) (v1 : Int32) (v3 : Int32) (h : AH)  (h1 : AH), f_X12_drift_L14 n v0 v1 v3 h = some (h1) → G X mX12_drift (d + 5) 43 [(0, .ref v0)] [] h1 rv h' → G X mX12_drift (d + 5) 14 [(0, .ref v0), (1, .int v1), (3, .int v3)] [] h rv h' := by
  intro n
  induction n with
  | zero =>
    intro rv h' v0 v1 v3 h h1 hf hE
    cases hf
  | succ n ihf =>
    intro rv h' v0 v1 v3 h h1 hf hE
    replace hf : F_X12_drift_L14 (f_X12_drift_L14 n) v0 v1 v3 h = some (h1) := hf
    unfold F_X12_drift_L14 at hf
    have ih := ihf rv h'
    refine G.iload_n dX12_drift_14 rfl ?_
    refine G.iload_n dX12_drift_15 rfl ?_
    refine G.icmp_ge 43 dX12_drift_16 (by decide) (fun c1 => ?_) (fun c1 => ?_)
    · rw [if_pos c1] at hf
      have w0 := Option.some.inj hf
      subst w0
      exact G.pick [0] rfl hE
    · rw [if_neg c1] at hf
      refine G.aload_n dX12_drift_19 rfl ?_
      refine G.getr flX12_40 dX12_drift_20 hf (fun r2 hf => ?_)
      refine G.aload_n dX12_drift_23 rfl ?_
      refine G.getr flX12_19 dX12_drift_24 hf (fun r3 hf => ?_)
      refine G.getr flX12_119 dX12_drift_27 hf (fun r4 hf => ?_)
      obtain ⟨h5, e6, hf⟩ := Option.bind_eq_some_iff.mp hf
      refine G.callVv (M' := mX6_remember) (ci := 5) (As := [.ref r4]) (st := []) okX6_remember viX6_remember lkX12_223 rfl rfl rfl (Nat.le_of_ble_eq_true rfl) (Nat.le_of_ble_eq_true rfl) dX12_drift_30 (c_X6_remember X (d + 2) _ _ _ _ e6).1 (c_X6_remember X (d + 2) _ _ _ _ e6).2 ?_
      refine G.aload_n dX12_drift_33 rfl ?_
      obtain ⟨h7, e8, hf⟩ := Option.bind_eq_some_iff.mp hf
      refine G.callVv (M' := mX12_doByDraws) (ci := 11) (As := []) (st := []) okX12_doByDraws viX12_doByDraws lkX12_253 rfl rfl rfl (Nat.le_of_ble_eq_true rfl) (Nat.le_of_ble_eq_true rfl) dX12_drift_34 (c_X12_doByDraws X d _ _ _ e8).1 (c_X12_doByDraws X d _ _ _ e8).2 ?_
      refine G.iinc (v := (v3 + 1)) (lv' := [(3, .int (v3 + 1)), (0, .ref v0), (1, .int v1)]) dX12_drift_37 rfl rfl (by decide) rfl ?_
      refine G.goto 14 dX12_drift_40 (by decide) ?_
      exact G.pick [1, 2, 0] rfl (ih v0 v1 (v3 + 1) h7 _ hf hE)
theorem l_X12_drift_L14 (X : SX) (d : Nat) (rv : Option Int32) (h' : AH) (n : Nat) : ∀ (v0 : Nat) (v1 : Int32) (v3 : Int32) (h : AH)  (h1 : AH), f_X12_drift_L14 n v0 v1 v3 h = some (h1) → G X mX12_drift (d + 5) 43 [(0, .ref v0)] [] h1 rv h' → G X mX12_drift (d + 5) 14 [(0, .ref v0), (1, .int v1), (3, .int v3)] [] h rv h' := lx_X12_drift_L14 X d n rv h'
def f_X12_drift (a0 : Nat) (a1 : Int32) (h : AH) : Option (Int32 × AH) := if isO h 11 a0 = true then (bT1 (f_X12_refuseTimes a0 a1 h) fun x3 h1 => if x3 = 0 then ((f_X12_drift_L14 1000000 a0 a1 (0 : Int32) h1).bind fun h5 => (gr h5 11 a0 1).bind fun r7 => bT1 (f_X5_allNotches r7 h5) fun x10 h8 => some (x10, h8)) else (some (x3, h1))) else none
set_option maxRecDepth 100000 in
set_option maxHeartbeats 4000000 in
theorem c_X12_drift (X : SX) (d : Nat) (a0 : Nat) (a1 : Int32) (h : AH) (rr : Int32) (h' : AH) (hf : f_X12_drift a0 a1 h = some (rr, h')) : isO h 11 a0 = true ∧ G X mX12_drift (d + 5) 0 [(0, .ref a0), (1, .int a1)] [] h (some rr) h' := by
  unfold f_X12_drift at hf
  by_cases ho : isO h 11 a0 = true
  · rw [if_pos ho] at hf
    refine ⟨ho, ?_⟩
    refine G.aload_n dX12_drift_0 rfl ?_
    refine G.iload_n dX12_drift_1 rfl ?_
    obtain ⟨x3, h1, e2, hf⟩ := bT1_spec hf
    refine G.callVi (M' := mX12_refuseTimes) (ci := 11) (As := [.int a1]) (st := []) okX12_refuseTimes viX12_refuseTimes lkX12_247 rfl rfl rfl (Nat.le_of_ble_eq_true rfl) (Nat.le_of_ble_eq_true rfl) dX12_drift_2 (c_X12_refuseTimes X (d + 4) _ _ _ _ _ e2).1 (c_X12_refuseTimes X (d + 4) _ _ _ _ _ e2).2 ?_
    refine G.istore_n (lv' := [(2, .int x3), (0, .ref a0), (1, .int a1)]) dX12_drift_5 (by decide) rfl ?_
    refine G.iload_n dX12_drift_6 rfl ?_
    refine G.if_eq 12 dX12_drift_7 (by decide) (fun c4 => ?_) (fun c4 => ?_)
    · rw [if_pos c4] at hf
      refine G.iconst (v := (0 : Int32)) dX12_drift_12 (by decide) ?_
      refine G.istore_n (lv' := [(3, .int (0 : Int32)), (2, .int x3), (0, .ref a0), (1, .int a1)]) dX12_drift_13 (by decide) rfl ?_
      obtain ⟨h5, e6, hf⟩ := Option.bind_eq_some_iff.mp hf
      refine G.pick [2, 3, 0] rfl (l_X12_drift_L14 X d _ _ 1000000 a0 a1 (0 : Int32) h1 h5 e6 ?_)
      refine G.aload_n dX12_drift_43 rfl ?_
      refine G.getr flX12_19 dX12_drift_44 hf (fun r7 hf => ?_)
      obtain ⟨x10, h8, e9, hf⟩ := bT1_spec hf
      refine G.callSi (M' := mX5_allNotches) (As := [.ref r7]) (st := []) okX5_allNotches vsX5_allNotches lkX12_143 rfl (Nat.le_of_ble_eq_true rfl) (Nat.le_of_ble_eq_true rfl) dX12_drift_47 (c_X5_allNotches X (d + 4) _ _ _ _ e9) ?_
      obtain ⟨hq1, hq2⟩ := Prod.mk.inj (Option.some.inj hf)
      subst hq1
      subst hq2
      exact G.iret rfl rfl dX12_drift_50
    · rw [if_neg c4] at hf
      refine G.iload_n dX12_drift_10 rfl ?_
      obtain ⟨hq1, hq2⟩ := Prod.mk.inj (Option.some.inj hf)
      subst hq1
      subst hq2
      exact G.iret rfl rfl dX12_drift_11
  · rw [if_neg ho] at hf
    cases hf
/-! X13_draw -/
theorem dX13_draw_0 : decode cX13_draw 0 = .ok (.aload_n 0, 1) := by decide +kernel
theorem dX13_draw_1 : decode cX13_draw 1 = .ok (.aload_n 0, 1) := by decide +kernel
theorem dX13_draw_2 : decode cX13_draw 2 = .ok (.getfield 213, 3) := by decide +kernel
theorem dX13_draw_5 : decode cX13_draw 5 = .ok (.ldc2_w 217, 3) := by decide +kernel
theorem dX13_draw_8 : decode cX13_draw 8 = .ok (.lmul, 1) := by decide +kernel
theorem dX13_draw_9 : decode cX13_draw 9 = .ok (.ldc2_w 219, 3) := by decide +kernel
theorem dX13_draw_12 : decode cX13_draw 12 = .ok (.ladd, 1) := by decide +kernel
theorem dX13_draw_13 : decode cX13_draw 13 = .ok (.ldc2_w 221, 3) := by decide +kernel
theorem dX13_draw_16 : decode cX13_draw 16 = .ok (.lrem, 1) := by decide +kernel
theorem dX13_draw_17 : decode cX13_draw 17 = .ok (.putfield 213, 3) := by decide +kernel
theorem dX13_draw_20 : decode cX13_draw 20 = .ok (.aload_n 0, 1) := by decide +kernel
theorem dX13_draw_21 : decode cX13_draw 21 = .ok (.getfield 213, 3) := by decide +kernel
theorem dX13_draw_24 : decode cX13_draw 24 = .ok (.ldc2_w 223, 3) := by decide +kernel
theorem dX13_draw_27 : decode cX13_draw 27 = .ok (.ldiv, 1) := by decide +kernel
theorem dX13_draw_28 : decode cX13_draw 28 = .ok (.iload_n 1, 1) := by decide +kernel
theorem dX13_draw_29 : decode cX13_draw 29 = .ok (.i2l, 1) := by decide +kernel
theorem dX13_draw_30 : decode cX13_draw 30 = .ok (.lrem, 1) := by decide +kernel
theorem dX13_draw_31 : decode cX13_draw 31 = .ok (.l2i, 1) := by decide +kernel
theorem dX13_draw_32 : decode cX13_draw 32 = .ok (.ireturn, 1) := by decide +kernel
def f_X13_draw (a0 : Nat) (a1 : Int32) (h : AH) : Option (Int32 × AH) := if isO h 12 a0 = true then ((gl h 12 a0 14).bind fun l1 => (pf h 12 a0 14 (.long (((l1 * (1103515245 : Int64)) + (12345 : Int64)) - ((l1 * (1103515245 : Int64)) + (12345 : Int64)) / (2147483648 : Int64) * (2147483648 : Int64)))).bind fun h2 => (gl h2 12 a0 14).bind fun l3 => if (Int32.toInt64 a1) = 0 then none else (some ((Int64.toInt32 ((l3 / (65536 : Int64)) - (l3 / (65536 : Int64)) / (Int32.toInt64 a1) * (Int32.toInt64 a1))), h2))) else none
set_option maxRecDepth 100000 in
set_option maxHeartbeats 4000000 in
theorem c_X13_draw (X : SX) (d : Nat) (a0 : Nat) (a1 : Int32) (h : AH) (rr : Int32) (h' : AH) (hf : f_X13_draw a0 a1 h = some (rr, h')) : isO h 12 a0 = true ∧ G X mX13_draw d 0 [(0, .ref a0), (1, .int a1)] [] h (some rr) h' := by
  unfold f_X13_draw at hf
  by_cases ho : isO h 12 a0 = true
  · rw [if_pos ho] at hf
    refine ⟨ho, ?_⟩
    refine G.aload_n dX13_draw_0 rfl ?_
    refine G.aload_n dX13_draw_1 rfl ?_
    refine G.getl flX13_213 dX13_draw_2 hf (fun l1 hf => ?_)
    refine G.ldc2 ckX13_217 dX13_draw_5 ?_
    refine G.lmul dX13_draw_8 ?_
    refine G.ldc2 ckX13_219 dX13_draw_9 ?_
    refine G.ladd dX13_draw_12 ?_
    refine G.ldc2 ckX13_221 dX13_draw_13 ?_
    refine G.lrem dX13_draw_16 (by decide) ?_
    refine G.put flX13_213 (Or.inl rfl) (fun _ _ => ⟨rfl, rfl⟩) dX13_draw_17 hf (fun h2 hf => ?_)
    refine G.aload_n dX13_draw_20 rfl ?_
    refine G.getl flX13_213 dX13_draw_21 hf (fun l3 hf => ?_)
    refine G.ldc2 ckX13_223 dX13_draw_24 ?_
    refine G.ldiv dX13_draw_27 (by decide) ?_
    refine G.iload_n dX13_draw_28 rfl ?_
    refine G.i2l dX13_draw_29 ?_
    by_cases c4 : (Int32.toInt64 a1) = 0
    · rw [if_pos c4] at hf
      cases hf
    · rw [if_neg c4] at hf
      refine G.lrem dX13_draw_30 c4 ?_
      refine G.l2i dX13_draw_31 ?_
      obtain ⟨hq1, hq2⟩ := Prod.mk.inj (Option.some.inj hf)
      subst hq1
      subst hq2
      exact G.iret rfl rfl dX13_draw_32
  · rw [if_neg ho] at hf
    cases hf
/-! X13_drifts -/
theorem dX13_drifts_0 : decode cX13_drifts 0 = .ok (.aload_n 0, 1) := by decide +kernel
theorem dX13_drifts_1 : decode cX13_drifts 1 = .ok (.bipush 6, 2) := by decide +kernel
theorem dX13_drifts_3 : decode cX13_drifts 3 = .ok (.invokevirtual 225, 3) := by decide +kernel
theorem dX13_drifts_6 : decode cX13_drifts 6 = .ok (.istore_n 1, 1) := by decide +kernel
theorem dX13_drifts_7 : decode cX13_drifts 7 = .ok (.aload_n 0, 1) := by decide +kernel
theorem dX13_drifts_8 : decode cX13_drifts 8 = .ok (.aload_n 0, 1) := by decide +kernel
theorem dX13_drifts_9 : decode cX13_drifts 9 = .ok (.getfield 75, 3) := by decide +kernel
theorem dX13_drifts_12 : decode cX13_drifts 12 = .ok (.invokevirtual 225, 3) := by decide +kernel
theorem dX13_drifts_15 : decode cX13_drifts 15 = .ok (.istore_n 2, 1) := by decide +kernel
theorem dX13_drifts_16 : decode cX13_drifts 16 = .ok (.aload_n 0, 1) := by decide +kernel
theorem dX13_drifts_17 : decode cX13_drifts 17 = .ok (.aload_n 0, 1) := by decide +kernel
theorem dX13_drifts_18 : decode cX13_drifts 18 = .ok (.getfield 78, 3) := by decide +kernel
theorem dX13_drifts_21 : decode cX13_drifts 21 = .ok (.invokevirtual 225, 3) := by decide +kernel
theorem dX13_drifts_24 : decode cX13_drifts 24 = .ok (.istore_n 3, 1) := by decide +kernel
theorem dX13_drifts_25 : decode cX13_drifts 25 = .ok (.iload_n 1, 1) := by decide +kernel
theorem dX13_drifts_26 : decode cX13_drifts 26 = .ok (.iconst 3, 1) := by decide +kernel
theorem dX13_drifts_27 : decode cX13_drifts 27 = .ok (.if_icmp .gt 92, 3) := by decide +kernel
theorem dX13_drifts_30 : decode cX13_drifts 30 = .ok (.aload_n 0, 1) := by decide +kernel
theorem dX13_drifts_31 : decode cX13_drifts 31 = .ok (.aload_n 0, 1) := by decide +kernel
theorem dX13_drifts_32 : decode cX13_drifts 32 = .ok (.getfield 29, 3) := by decide +kernel
theorem dX13_drifts_35 : decode cX13_drifts 35 = .ok (.bipush 12, 2) := by decide +kernel
theorem dX13_drifts_37 : decode cX13_drifts 37 = .ok (.iload_n 2, 1) := by decide +kernel
theorem dX13_drifts_38 : decode cX13_drifts 38 = .ok (.iadd, 1) := by decide +kernel
theorem dX13_drifts_39 : decode cX13_drifts 39 = .ok (.iaload, 1) := by decide +kernel
theorem dX13_drifts_40 : decode cX13_drifts 40 = .ok (.aload_n 0, 1) := by decide +kernel
theorem dX13_drifts_41 : decode cX13_drifts 41 = .ok (.getfield 29, 3) := by decide +kernel
theorem dX13_drifts_44 : decode cX13_drifts 44 = .ok (.bipush 24, 2) := by decide +kernel
theorem dX13_drifts_46 : decode cX13_drifts 46 = .ok (.iload_n 3, 1) := by decide +kernel
theorem dX13_drifts_47 : decode cX13_drifts 47 = .ok (.iadd, 1) := by decide +kernel
theorem dX13_drifts_48 : decode cX13_drifts 48 = .ok (.iaload, 1) := by decide +kernel
theorem dX13_drifts_49 : decode cX13_drifts 49 = .ok (.invokevirtual 148, 3) := by decide +kernel
theorem dX13_drifts_52 : decode cX13_drifts 52 = .ok (.istore 4, 2) := by decide +kernel
theorem dX13_drifts_54 : decode cX13_drifts 54 = .ok (.iload 4, 2) := by decide +kernel
theorem dX13_drifts_56 : decode cX13_drifts 56 = .ok (.aload_n 0, 1) := by decide +kernel
theorem dX13_drifts_57 : decode cX13_drifts 57 = .ok (.getfield 29, 3) := by decide +kernel
theorem dX13_drifts_60 : decode cX13_drifts 60 = .ok (.bipush 18, 2) := by decide +kernel
theorem dX13_drifts_62 : decode cX13_drifts 62 = .ok (.iload_n 2, 1) := by decide +kernel
theorem dX13_drifts_63 : decode cX13_drifts 63 = .ok (.iadd, 1) := by decide +kernel
theorem dX13_drifts_64 : decode cX13_drifts 64 = .ok (.iaload, 1) := by decide +kernel
theorem dX13_drifts_65 : decode cX13_drifts 65 = .ok (.if_icmp .gt 35, 3) := by decide +kernel
theorem dX13_drifts_68 : decode cX13_drifts 68 = .ok (.aload_n 0, 1) := by decide +kernel
theorem dX13_drifts_69 : decode cX13_drifts 69 = .ok (.getfield 29, 3) := by decide +kernel
theorem dX13_drifts_72 : decode cX13_drifts 72 = .ok (.bipush 18, 2) := by decide +kernel
theorem dX13_drifts_74 : decode cX13_drifts 74 = .ok (.iload_n 2, 1) := by decide +kernel
theorem dX13_drifts_75 : decode cX13_drifts 75 = .ok (.iadd, 1) := by decide +kernel
theorem dX13_drifts_76 : decode cX13_drifts 76 = .ok (.dup2, 1) := by decide +kernel
theorem dX13_drifts_77 : decode cX13_drifts 77 = .ok (.iaload, 1) := by decide +kernel
theorem dX13_drifts_78 : decode cX13_drifts 78 = .ok (.iload 4, 2) := by decide +kernel
theorem dX13_drifts_80 : decode cX13_drifts 80 = .ok (.isub, 1) := by decide +kernel
theorem dX13_drifts_81 : decode cX13_drifts 81 = .ok (.iastore, 1) := by decide +kernel
theorem dX13_drifts_82 : decode cX13_drifts 82 = .ok (.aload_n 0, 1) := by decide +kernel
theorem dX13_drifts_83 : decode cX13_drifts 83 = .ok (.getfield 29, 3) := by decide +kernel
theorem dX13_drifts_86 : decode cX13_drifts 86 = .ok (.bipush 12, 2) := by decide +kernel
theorem dX13_drifts_88 : decode cX13_drifts 88 = .ok (.iload_n 2, 1) := by decide +kernel
theorem dX13_drifts_89 : decode cX13_drifts 89 = .ok (.iadd, 1) := by decide +kernel
theorem dX13_drifts_90 : decode cX13_drifts 90 = .ok (.aload_n 0, 1) := by decide +kernel
theorem dX13_drifts_91 : decode cX13_drifts 91 = .ok (.getfield 29, 3) := by decide +kernel
theorem dX13_drifts_94 : decode cX13_drifts 94 = .ok (.bipush 24, 2) := by decide +kernel
theorem dX13_drifts_96 : decode cX13_drifts 96 = .ok (.iload_n 3, 1) := by decide +kernel
theorem dX13_drifts_97 : decode cX13_drifts 97 = .ok (.iadd, 1) := by decide +kernel
theorem dX13_drifts_98 : decode cX13_drifts 98 = .ok (.iaload, 1) := by decide +kernel
theorem dX13_drifts_99 : decode cX13_drifts 99 = .ok (.iastore, 1) := by decide +kernel
theorem dX13_drifts_100 : decode cX13_drifts 100 = .ok (.aload_n 0, 1) := by decide +kernel
theorem dX13_drifts_101 : decode cX13_drifts 101 = .ok (.iload_n 2, 1) := by decide +kernel
theorem dX13_drifts_102 : decode cX13_drifts 102 = .ok (.iload_n 3, 1) := by decide +kernel
theorem dX13_drifts_103 : decode cX13_drifts 103 = .ok (.invokevirtual 194, 3) := by decide +kernel
theorem dX13_drifts_106 : decode cX13_drifts 106 = .ok (.ifCond .eq 10, 3) := by decide +kernel
theorem dX13_drifts_109 : decode cX13_drifts 109 = .ok (.aload_n 0, 1) := by decide +kernel
theorem dX13_drifts_110 : decode cX13_drifts 110 = .ok (.iload_n 2, 1) := by decide +kernel
theorem dX13_drifts_111 : decode cX13_drifts 111 = .ok (.iload_n 3, 1) := by decide +kernel
theorem dX13_drifts_112 : decode cX13_drifts 112 = .ok (.invokevirtual 198, 3) := by decide +kernel
theorem dX13_drifts_115 : decode cX13_drifts 115 = .ok (.pop, 1) := by decide +kernel
theorem dX13_drifts_116 : decode cX13_drifts 116 = .ok (.goto 30, 3) := by decide +kernel
theorem dX13_drifts_119 : decode cX13_drifts 119 = .ok (.iload_n 1, 1) := by decide +kernel
theorem dX13_drifts_120 : decode cX13_drifts 120 = .ok (.iconst 5, 1) := by decide +kernel
theorem dX13_drifts_121 : decode cX13_drifts 121 = .ok (.if_icmp .ne 10, 3) := by decide +kernel
theorem dX13_drifts_124 : decode cX13_drifts 124 = .ok (.aload_n 0, 1) := by decide +kernel
theorem dX13_drifts_125 : decode cX13_drifts 125 = .ok (.invokevirtual 210, 3) := by decide +kernel
theorem dX13_drifts_128 : decode cX13_drifts 128 = .ok (.goto 18, 3) := by decide +kernel
theorem dX13_drifts_131 : decode cX13_drifts 131 = .ok (.aload_n 0, 1) := by decide +kernel
theorem dX13_drifts_132 : decode cX13_drifts 132 = .ok (.iload_n 3, 1) := by decide +kernel
theorem dX13_drifts_133 : decode cX13_drifts 133 = .ok (.iconst 1, 1) := by decide +kernel
theorem dX13_drifts_134 : decode cX13_drifts 134 = .ok (.invokevirtual 201, 3) := by decide +kernel
theorem dX13_drifts_137 : decode cX13_drifts 137 = .ok (.ifCond .eq 9, 3) := by decide +kernel
theorem dX13_drifts_140 : decode cX13_drifts 140 = .ok (.aload_n 0, 1) := by decide +kernel
theorem dX13_drifts_141 : decode cX13_drifts 141 = .ok (.iload_n 3, 1) := by decide +kernel
theorem dX13_drifts_142 : decode cX13_drifts 142 = .ok (.iconst 1, 1) := by decide +kernel
theorem dX13_drifts_143 : decode cX13_drifts 143 = .ok (.invokevirtual 204, 3) := by decide +kernel
theorem dX13_drifts_146 : decode cX13_drifts 146 = .ok (.return_, 1) := by decide +kernel
def f_X13_drifts_116  (h : AH) : Option (AH) := some h
set_option maxRecDepth 100000 in
set_option maxHeartbeats 4000000 in
theorem j_X13_drifts_116 (X : SX) (d : Nat)  (h : AH) (h' : AH) (hf : f_X13_drifts_116  h = some h') : G X mX13_drifts (d + 3) 116 [] [] h none h' := by
  unfold f_X13_drifts_116 at hf
  refine G.goto 146 dX13_drifts_116 (by decide) ?_
  have hq := Option.some.inj hf
  subst hq
  exact G.vret rfl dX13_drifts_146
def f_X13_drifts_100 (v0 : Nat) (v2 : Int32) (v3 : Int32) (h : AH) : Option (AH) := bT1 (f_X13_may v0 v2 v3 h) fun x3 h1 => if x3 = 0 then (f_X13_drifts_116 h1) else (bT1 (f_X13_sings v0 v2 v3 h1) fun x7 h5 => f_X13_drifts_116 h5)
set_option maxRecDepth 100000 in
set_option maxHeartbeats 4000000 in
theorem j_X13_drifts_100 (X : SX) (d : Nat) (v0 : Nat) (v2 : Int32) (v3 : Int32) (h : AH) (h' : AH) (hf : f_X13_drifts_100 v0 v2 v3 h = some h') : G X mX13_drifts (d + 3) 100 [(0, .ref v0), (2, .int v2), (3, .int v3)] [] h none h' := by
  unfold f_X13_drifts_100 at hf
  refine G.aload_n dX13_drifts_100 rfl ?_
  refine G.iload_n dX13_drifts_101 rfl ?_
  refine G.iload_n dX13_drifts_102 rfl ?_
  obtain ⟨x3, h1, e2, hf⟩ := bT1_spec hf
  refine G.callVi (M' := mX13_may) (ci := 12) (As := [.int v2, .int v3]) (st := []) okX13_may viX13_may lkX13_194 rfl rfl rfl (Nat.le_of_ble_eq_true rfl) (Nat.le_of_ble_eq_true rfl) dX13_drifts_103 (c_X13_may X (d + 2) _ _ _ _ _ _ e2).1 (c_X13_may X (d + 2) _ _ _ _ _ _ e2).2 ?_
  refine G.if_eq 116 dX13_drifts_106 (by decide) (fun c4 => ?_) (fun c4 => ?_)
  · rw [if_pos c4] at hf
    exact G.pick [] rfl (j_X13_drifts_116 X d  h1 _ hf)
  · rw [if_neg c4] at hf
    refine G.aload_n dX13_drifts_109 rfl ?_
    refine G.iload_n dX13_drifts_110 rfl ?_
    refine G.iload_n dX13_drifts_111 rfl ?_
    obtain ⟨x7, h5, e6, hf⟩ := bT1_spec hf
    refine G.callVi (M' := mX13_sings) (ci := 12) (As := [.int v2, .int v3]) (st := []) okX13_sings viX13_sings lkX13_198 rfl rfl rfl (Nat.le_of_ble_eq_true rfl) (Nat.le_of_ble_eq_true rfl) dX13_drifts_112 (c_X13_sings X d _ _ _ _ _ _ e6).1 (c_X13_sings X d _ _ _ _ _ _ e6).2 ?_
    refine G.pop dX13_drifts_115 rfl ?_
    exact G.pick [] rfl (j_X13_drifts_116 X d  h5 _ hf)
def f_X13_drifts (a0 : Nat) (h : AH) : Option (AH) := if isO h 12 a0 = true then (bT1 (f_X13_draw a0 (6 : Int32) h) fun x3 h1 => (gi h1 12 a0 5).bind fun x4 => bT1 (f_X13_draw a0 x4 h1) fun x7 h5 => (gi h5 12 a0 6).bind fun x8 => bT1 (f_X13_draw a0 x8 h5) fun x11 h9 => if (3 : Int32) < x3 then (if x3 = (5 : Int32) then ((f_X13_ends a0 h9).bind fun h20 => some h20) else (bT1 (f_X13_canBeCarried a0 x11 (1 : Int32) h9) fun x16 h14 => if x16 = 0 then (some h14) else ((f_X13_carries a0 x11 (1 : Int32) h14).bind fun h18 => some h18))) else ((gr h9 12 a0 11).bind fun r22 => (ai h9 0 r22 ((12 : Int32) + x7)).bind fun x23 => (gr h9 12 a0 11).bind fun r24 => (ai h9 0 r24 ((24 : Int32) + x11)).bind fun x25 => bT1 (f_X13_apart a0 x23 x25 h9) fun x28 h26 => (gr h26 12 a0 11).bind fun r29 => (ai h26 0 r29 ((18 : Int32) + x7)).bind fun x30 => if x30 < x28 then (f_X13_drifts_100 a0 x7 x11 h26) else ((gr h26 12 a0 11).bind fun r32 => (ai h26 0 r32 ((18 : Int32) + x7)).bind fun x33 => (aw h26 0 r32 ((18 : Int32) + x7) (x33 - x28)).bind fun h34 => (gr h34 12 a0 11).bind fun r35 => (gr h34 12 a0 11).bind fun r36 => (ai h34 0 r36 ((24 : Int32) + x11)).bind fun x37 => (aw h34 0 r35 ((12 : Int32) + x7) x37).bind fun h38 => f_X13_drifts_100 a0 x7 x11 h38))) else none
set_option maxRecDepth 100000 in
set_option maxHeartbeats 4000000 in
theorem c_X13_drifts (X : SX) (d : Nat) (a0 : Nat) (h : AH) (h' : AH) (hf : f_X13_drifts a0 h = some h') : isO h 12 a0 = true ∧ G X mX13_drifts (d + 3) 0 [(0, .ref a0)] [] h none h' := by
  unfold f_X13_drifts at hf
  by_cases ho : isO h 12 a0 = true
  · rw [if_pos ho] at hf
    refine ⟨ho, ?_⟩
    refine G.aload_n dX13_drifts_0 rfl ?_
    refine G.bipush (v := (6 : Int32)) dX13_drifts_1 (by decide) ?_
    obtain ⟨x3, h1, e2, hf⟩ := bT1_spec hf
    refine G.callVi (M' := mX13_draw) (ci := 12) (As := [.int (6 : Int32)]) (st := []) okX13_draw viX13_draw lkX13_225 rfl rfl rfl (Nat.le_of_ble_eq_true rfl) (Nat.le_of_ble_eq_true rfl) dX13_drifts_3 (c_X13_draw X (d + 2) _ _ _ _ _ e2).1 (c_X13_draw X (d + 2) _ _ _ _ _ e2).2 ?_
    refine G.istore_n (lv' := [(1, .int x3), (0, .ref a0)]) dX13_drifts_6 (by decide) rfl ?_
    refine G.aload_n dX13_drifts_7 rfl ?_
    refine G.aload_n dX13_drifts_8 rfl ?_
    refine G.geti flX13_75 dX13_drifts_9 hf (fun x4 hf => ?_)
    obtain ⟨x7, h5, e6, hf⟩ := bT1_spec hf
    refine G.callVi (M' := mX13_draw) (ci := 12) (As := [.int x4]) (st := []) okX13_draw viX13_draw lkX13_225 rfl rfl rfl (Nat.le_of_ble_eq_true rfl) (Nat.le_of_ble_eq_true rfl) dX13_drifts_12 (c_X13_draw X (d + 2) _ _ _ _ _ e6).1 (c_X13_draw X (d + 2) _ _ _ _ _ e6).2 ?_
    refine G.istore_n (lv' := [(2, .int x7), (1, .int x3), (0, .ref a0)]) dX13_drifts_15 (by decide) rfl ?_
    refine G.aload_n dX13_drifts_16 rfl ?_
    refine G.aload_n dX13_drifts_17 rfl ?_
    refine G.geti flX13_78 dX13_drifts_18 hf (fun x8 hf => ?_)
    obtain ⟨x11, h9, e10, hf⟩ := bT1_spec hf
    refine G.callVi (M' := mX13_draw) (ci := 12) (As := [.int x8]) (st := []) okX13_draw viX13_draw lkX13_225 rfl rfl rfl (Nat.le_of_ble_eq_true rfl) (Nat.le_of_ble_eq_true rfl) dX13_drifts_21 (c_X13_draw X (d + 2) _ _ _ _ _ e10).1 (c_X13_draw X (d + 2) _ _ _ _ _ e10).2 ?_
    refine G.istore_n (lv' := [(3, .int x11), (2, .int x7), (1, .int x3), (0, .ref a0)]) dX13_drifts_24 (by decide) rfl ?_
    refine G.iload_n dX13_drifts_25 rfl ?_
    refine G.iconst (v := (3 : Int32)) dX13_drifts_26 (by decide) ?_
    refine G.icmp_gt 119 dX13_drifts_27 (by decide) (fun c12 => ?_) (fun c12 => ?_)
    · rw [if_pos c12] at hf
      refine G.iload_n dX13_drifts_119 rfl ?_
      refine G.iconst (v := (5 : Int32)) dX13_drifts_120 (by decide) ?_
      refine G.icmp_ne 131 dX13_drifts_121 (by decide) (fun c13 => ?_) (fun c13 => ?_)
      · rw [if_neg c13] at hf
        refine G.aload_n dX13_drifts_131 rfl ?_
        refine G.iload_n dX13_drifts_132 rfl ?_
        refine G.iconst (v := (1 : Int32)) dX13_drifts_133 (by decide) ?_
        obtain ⟨x16, h14, e15, hf⟩ := bT1_spec hf
        refine G.callVi (M' := mX13_canBeCarried) (ci := 12) (As := [.int x11, .int (1 : Int32)]) (st := []) okX13_canBeCarried viX13_canBeCarried lkX13_201 rfl rfl rfl (Nat.le_of_ble_eq_true rfl) (Nat.le_of_ble_eq_true rfl) dX13_drifts_134 (c_X13_canBeCarried X (d + 2) _ _ _ _ _ _ e15).1 (c_X13_canBeCarried X (d + 2) _ _ _ _ _ _ e15).2 ?_
        refine G.if_eq 146 dX13_drifts_137 (by decide) (fun c17 => ?_) (fun c17 => ?_)
        · rw [if_pos c17] at hf
          have hq := Option.some.inj hf
          subst hq
          exact G.vret rfl dX13_drifts_146
        · rw [if_neg c17] at hf
          refine G.aload_n dX13_drifts_140 rfl ?_
          refine G.iload_n dX13_drifts_141 rfl ?_
          refine G.iconst (v := (1 : Int32)) dX13_drifts_142 (by decide) ?_
          obtain ⟨h18, e19, hf⟩ := Option.bind_eq_some_iff.mp hf
          refine G.callVv (M' := mX13_carries) (ci := 12) (As := [.int x11, .int (1 : Int32)]) (st := []) okX13_carries viX13_carries lkX13_204 rfl rfl rfl (Nat.le_of_ble_eq_true rfl) (Nat.le_of_ble_eq_true rfl) dX13_drifts_143 (c_X13_carries X (d + 2) _ _ _ _ _ e19).1 (c_X13_carries X (d + 2) _ _ _ _ _ e19).2 ?_
          have hq := Option.some.inj hf
          subst hq
          exact G.vret rfl dX13_drifts_146
      · rw [if_pos c13] at hf
        refine G.aload_n dX13_drifts_124 rfl ?_
        obtain ⟨h20, e21, hf⟩ := Option.bind_eq_some_iff.mp hf
        refine G.callVv (M' := mX13_ends) (ci := 12) (As := []) (st := []) okX13_ends viX13_ends lkX13_210 rfl rfl rfl (Nat.le_of_ble_eq_true rfl) (Nat.le_of_ble_eq_true rfl) dX13_drifts_125 (c_X13_ends X (d + 2) _ _ _ e21).1 (c_X13_ends X (d + 2) _ _ _ e21).2 ?_
        refine G.goto 146 dX13_drifts_128 (by decide) ?_
        have hq := Option.some.inj hf
        subst hq
        exact G.vret rfl dX13_drifts_146
    · rw [if_neg c12] at hf
      refine G.aload_n dX13_drifts_30 rfl ?_
      refine G.aload_n dX13_drifts_31 rfl ?_
      refine G.getr flX13_29 dX13_drifts_32 hf (fun r22 hf => ?_)
      refine G.bipush (v := (12 : Int32)) dX13_drifts_35 (by decide) ?_
      refine G.iload_n dX13_drifts_37 rfl ?_
      refine G.iadd dX13_drifts_38 ?_
      refine G.iald dX13_drifts_39 hf (fun x23 hf => ?_)
      refine G.aload_n dX13_drifts_40 rfl ?_
      refine G.getr flX13_29 dX13_drifts_41 hf (fun r24 hf => ?_)
      refine G.bipush (v := (24 : Int32)) dX13_drifts_44 (by decide) ?_
      refine G.iload_n dX13_drifts_46 rfl ?_
      refine G.iadd dX13_drifts_47 ?_
      refine G.iald dX13_drifts_48 hf (fun x25 hf => ?_)
      obtain ⟨x28, h26, e27, hf⟩ := bT1_spec hf
      refine G.callVi (M' := mX13_apart) (ci := 12) (As := [.int x23, .int x25]) (st := []) okX13_apart viX13_apart lkX13_148 rfl rfl rfl (Nat.le_of_ble_eq_true rfl) (Nat.le_of_ble_eq_true rfl) dX13_drifts_49 (c_X13_apart X (d + 2) _ _ _ _ _ _ e27).1 (c_X13_apart X (d + 2) _ _ _ _ _ _ e27).2 ?_
      refine G.istore (lv' := [(4, .int x28), (3, .int x11), (2, .int x7), (1, .int x3), (0, .ref a0)]) dX13_drifts_52 (by decide) rfl ?_
      refine G.iload dX13_drifts_54 rfl ?_
      refine G.aload_n dX13_drifts_56 rfl ?_
      refine G.getr flX13_29 dX13_drifts_57 hf (fun r29 hf => ?_)
      refine G.bipush (v := (18 : Int32)) dX13_drifts_60 (by decide) ?_
      refine G.iload_n dX13_drifts_62 rfl ?_
      refine G.iadd dX13_drifts_63 ?_
      refine G.iald dX13_drifts_64 hf (fun x30 hf => ?_)
      refine G.icmp_gt 100 dX13_drifts_65 (by decide) (fun c31 => ?_) (fun c31 => ?_)
      · rw [if_pos c31] at hf
        exact G.pick [4, 2, 1] rfl (j_X13_drifts_100 X d a0 x7 x11 h26 _ hf)
      · rw [if_neg c31] at hf
        refine G.aload_n dX13_drifts_68 rfl ?_
        refine G.getr flX13_29 dX13_drifts_69 hf (fun r32 hf => ?_)
        refine G.bipush (v := (18 : Int32)) dX13_drifts_72 (by decide) ?_
        refine G.iload_n dX13_drifts_74 rfl ?_
        refine G.iadd dX13_drifts_75 ?_
        refine G.dup2 dX13_drifts_76 rfl rfl ?_
        refine G.iald dX13_drifts_77 hf (fun x33 hf => ?_)
        refine G.iload dX13_drifts_78 rfl ?_
        refine G.isub dX13_drifts_80 ?_
        refine G.iast dX13_drifts_81 hf (fun h34 hf => ?_)
        refine G.aload_n dX13_drifts_82 rfl ?_
        refine G.getr flX13_29 dX13_drifts_83 hf (fun r35 hf => ?_)
        refine G.bipush (v := (12 : Int32)) dX13_drifts_86 (by decide) ?_
        refine G.iload_n dX13_drifts_88 rfl ?_
        refine G.iadd dX13_drifts_89 ?_
        refine G.aload_n dX13_drifts_90 rfl ?_
        refine G.getr flX13_29 dX13_drifts_91 hf (fun r36 hf => ?_)
        refine G.bipush (v := (24 : Int32)) dX13_drifts_94 (by decide) ?_
        refine G.iload_n dX13_drifts_96 rfl ?_
        refine G.iadd dX13_drifts_97 ?_
        refine G.iald dX13_drifts_98 hf (fun x37 hf => ?_)
        refine G.iast dX13_drifts_99 hf (fun h38 hf => ?_)
        exact G.pick [4, 2, 1] rfl (j_X13_drifts_100 X d a0 x7 x11 h38 _ hf)
  · rw [if_neg ho] at hf
    cases hf
