/-! X4_copyFrom -/
theorem dX4_copyFrom_0 : decode cX4_copyFrom 0 = .ok (.aload_n 1, 1) := by decide +kernel
theorem dX4_copyFrom_1 : decode cX4_copyFrom 1 = .ok (.getfield 9, 3) := by decide +kernel
theorem dX4_copyFrom_4 : decode cX4_copyFrom 4 = .ok (.iconst 0, 1) := by decide +kernel
theorem dX4_copyFrom_5 : decode cX4_copyFrom 5 = .ok (.aload_n 0, 1) := by decide +kernel
theorem dX4_copyFrom_6 : decode cX4_copyFrom 6 = .ok (.getfield 9, 3) := by decide +kernel
theorem dX4_copyFrom_9 : decode cX4_copyFrom 9 = .ok (.iconst 0, 1) := by decide +kernel
theorem dX4_copyFrom_10 : decode cX4_copyFrom 10 = .ok (.bipush 6, 2) := by decide +kernel
theorem dX4_copyFrom_12 : decode cX4_copyFrom 12 = .ok (.invokestatic 33, 3) := by decide +kernel
theorem dX4_copyFrom_15 : decode cX4_copyFrom 15 = .ok (.aload_n 1, 1) := by decide +kernel
theorem dX4_copyFrom_16 : decode cX4_copyFrom 16 = .ok (.getfield 15, 3) := by decide +kernel
theorem dX4_copyFrom_19 : decode cX4_copyFrom 19 = .ok (.iconst 0, 1) := by decide +kernel
theorem dX4_copyFrom_20 : decode cX4_copyFrom 20 = .ok (.aload_n 0, 1) := by decide +kernel
theorem dX4_copyFrom_21 : decode cX4_copyFrom 21 = .ok (.getfield 15, 3) := by decide +kernel
theorem dX4_copyFrom_24 : decode cX4_copyFrom 24 = .ok (.iconst 0, 1) := by decide +kernel
theorem dX4_copyFrom_25 : decode cX4_copyFrom 25 = .ok (.bipush 6, 2) := by decide +kernel
theorem dX4_copyFrom_27 : decode cX4_copyFrom 27 = .ok (.invokestatic 33, 3) := by decide +kernel
theorem dX4_copyFrom_30 : decode cX4_copyFrom 30 = .ok (.aload_n 1, 1) := by decide +kernel
theorem dX4_copyFrom_31 : decode cX4_copyFrom 31 = .ok (.getfield 18, 3) := by decide +kernel
theorem dX4_copyFrom_34 : decode cX4_copyFrom 34 = .ok (.iconst 0, 1) := by decide +kernel
theorem dX4_copyFrom_35 : decode cX4_copyFrom 35 = .ok (.aload_n 0, 1) := by decide +kernel
theorem dX4_copyFrom_36 : decode cX4_copyFrom 36 = .ok (.getfield 18, 3) := by decide +kernel
theorem dX4_copyFrom_39 : decode cX4_copyFrom 39 = .ok (.iconst 0, 1) := by decide +kernel
theorem dX4_copyFrom_40 : decode cX4_copyFrom 40 = .ok (.bipush 6, 2) := by decide +kernel
theorem dX4_copyFrom_42 : decode cX4_copyFrom 42 = .ok (.invokestatic 33, 3) := by decide +kernel
theorem dX4_copyFrom_45 : decode cX4_copyFrom 45 = .ok (.aload_n 1, 1) := by decide +kernel
theorem dX4_copyFrom_46 : decode cX4_copyFrom 46 = .ok (.getfield 21, 3) := by decide +kernel
theorem dX4_copyFrom_49 : decode cX4_copyFrom 49 = .ok (.iconst 0, 1) := by decide +kernel
theorem dX4_copyFrom_50 : decode cX4_copyFrom 50 = .ok (.aload_n 0, 1) := by decide +kernel
theorem dX4_copyFrom_51 : decode cX4_copyFrom 51 = .ok (.getfield 21, 3) := by decide +kernel
theorem dX4_copyFrom_54 : decode cX4_copyFrom 54 = .ok (.iconst 0, 1) := by decide +kernel
theorem dX4_copyFrom_55 : decode cX4_copyFrom 55 = .ok (.bipush 6, 2) := by decide +kernel
theorem dX4_copyFrom_57 : decode cX4_copyFrom 57 = .ok (.invokestatic 33, 3) := by decide +kernel
theorem dX4_copyFrom_60 : decode cX4_copyFrom 60 = .ok (.aload_n 1, 1) := by decide +kernel
theorem dX4_copyFrom_61 : decode cX4_copyFrom 61 = .ok (.getfield 24, 3) := by decide +kernel
theorem dX4_copyFrom_64 : decode cX4_copyFrom 64 = .ok (.iconst 0, 1) := by decide +kernel
theorem dX4_copyFrom_65 : decode cX4_copyFrom 65 = .ok (.aload_n 0, 1) := by decide +kernel
theorem dX4_copyFrom_66 : decode cX4_copyFrom 66 = .ok (.getfield 24, 3) := by decide +kernel
theorem dX4_copyFrom_69 : decode cX4_copyFrom 69 = .ok (.iconst 0, 1) := by decide +kernel
theorem dX4_copyFrom_70 : decode cX4_copyFrom 70 = .ok (.bipush 6, 2) := by decide +kernel
theorem dX4_copyFrom_72 : decode cX4_copyFrom 72 = .ok (.invokestatic 33, 3) := by decide +kernel
theorem dX4_copyFrom_75 : decode cX4_copyFrom 75 = .ok (.aload_n 1, 1) := by decide +kernel
theorem dX4_copyFrom_76 : decode cX4_copyFrom 76 = .ok (.getfield 27, 3) := by decide +kernel
theorem dX4_copyFrom_79 : decode cX4_copyFrom 79 = .ok (.iconst 0, 1) := by decide +kernel
theorem dX4_copyFrom_80 : decode cX4_copyFrom 80 = .ok (.aload_n 0, 1) := by decide +kernel
theorem dX4_copyFrom_81 : decode cX4_copyFrom 81 = .ok (.getfield 27, 3) := by decide +kernel
theorem dX4_copyFrom_84 : decode cX4_copyFrom 84 = .ok (.iconst 0, 1) := by decide +kernel
theorem dX4_copyFrom_85 : decode cX4_copyFrom 85 = .ok (.bipush 6, 2) := by decide +kernel
theorem dX4_copyFrom_87 : decode cX4_copyFrom 87 = .ok (.invokestatic 33, 3) := by decide +kernel
theorem dX4_copyFrom_90 : decode cX4_copyFrom 90 = .ok (.aload_n 1, 1) := by decide +kernel
theorem dX4_copyFrom_91 : decode cX4_copyFrom 91 = .ok (.getfield 30, 3) := by decide +kernel
theorem dX4_copyFrom_94 : decode cX4_copyFrom 94 = .ok (.iconst 0, 1) := by decide +kernel
theorem dX4_copyFrom_95 : decode cX4_copyFrom 95 = .ok (.aload_n 0, 1) := by decide +kernel
theorem dX4_copyFrom_96 : decode cX4_copyFrom 96 = .ok (.getfield 30, 3) := by decide +kernel
theorem dX4_copyFrom_99 : decode cX4_copyFrom 99 = .ok (.iconst 0, 1) := by decide +kernel
theorem dX4_copyFrom_100 : decode cX4_copyFrom 100 = .ok (.bipush 6, 2) := by decide +kernel
theorem dX4_copyFrom_102 : decode cX4_copyFrom 102 = .ok (.invokestatic 33, 3) := by decide +kernel
theorem dX4_copyFrom_105 : decode cX4_copyFrom 105 = .ok (.aload_n 0, 1) := by decide +kernel
theorem dX4_copyFrom_106 : decode cX4_copyFrom 106 = .ok (.aload_n 1, 1) := by decide +kernel
theorem dX4_copyFrom_107 : decode cX4_copyFrom 107 = .ok (.getfield 39, 3) := by decide +kernel
theorem dX4_copyFrom_110 : decode cX4_copyFrom 110 = .ok (.putfield 39, 3) := by decide +kernel
theorem dX4_copyFrom_113 : decode cX4_copyFrom 113 = .ok (.aload_n 0, 1) := by decide +kernel
theorem dX4_copyFrom_114 : decode cX4_copyFrom 114 = .ok (.aload_n 1, 1) := by decide +kernel
theorem dX4_copyFrom_115 : decode cX4_copyFrom 115 = .ok (.getfield 43, 3) := by decide +kernel
theorem dX4_copyFrom_118 : decode cX4_copyFrom 118 = .ok (.putfield 43, 3) := by decide +kernel
theorem dX4_copyFrom_121 : decode cX4_copyFrom 121 = .ok (.aload_n 0, 1) := by decide +kernel
theorem dX4_copyFrom_122 : decode cX4_copyFrom 122 = .ok (.aload_n 1, 1) := by decide +kernel
theorem dX4_copyFrom_123 : decode cX4_copyFrom 123 = .ok (.getfield 46, 3) := by decide +kernel
theorem dX4_copyFrom_126 : decode cX4_copyFrom 126 = .ok (.putfield 46, 3) := by decide +kernel
theorem dX4_copyFrom_129 : decode cX4_copyFrom 129 = .ok (.aload_n 0, 1) := by decide +kernel
theorem dX4_copyFrom_130 : decode cX4_copyFrom 130 = .ok (.aload_n 1, 1) := by decide +kernel
theorem dX4_copyFrom_131 : decode cX4_copyFrom 131 = .ok (.getfield 49, 3) := by decide +kernel
theorem dX4_copyFrom_134 : decode cX4_copyFrom 134 = .ok (.putfield 49, 3) := by decide +kernel
theorem dX4_copyFrom_137 : decode cX4_copyFrom 137 = .ok (.return_, 1) := by decide +kernel
def f_X4_copyFrom (a0 : Nat) (a1 : Nat) (h : AH) : Option (AH) := if isO h 4 a0 = true then ((gr h 4 a1 0).bind fun r1 => (gr h 4 a0 0).bind fun r2 => (acp h r1 (0 : Int32) r2 (0 : Int32) (6 : Int32)).bind fun h3 => (gr h3 4 a1 1).bind fun r4 => (gr h3 4 a0 1).bind fun r5 => (acp h3 r4 (0 : Int32) r5 (0 : Int32) (6 : Int32)).bind fun h6 => (gr h6 4 a1 2).bind fun r7 => (gr h6 4 a0 2).bind fun r8 => (acp h6 r7 (0 : Int32) r8 (0 : Int32) (6 : Int32)).bind fun h9 => (gr h9 4 a1 3).bind fun r10 => (gr h9 4 a0 3).bind fun r11 => (acp h9 r10 (0 : Int32) r11 (0 : Int32) (6 : Int32)).bind fun h12 => (gr h12 4 a1 4).bind fun r13 => (gr h12 4 a0 4).bind fun r14 => (acp h12 r13 (0 : Int32) r14 (0 : Int32) (6 : Int32)).bind fun h15 => (gr h15 4 a1 5).bind fun r16 => (gr h15 4 a0 5).bind fun r17 => (acp h15 r16 (0 : Int32) r17 (0 : Int32) (6 : Int32)).bind fun h18 => (gr h18 4 a1 6).bind fun r19 => (gr h18 4 a0 6).bind fun r20 => (acp h18 r19 (0 : Int32) r20 (0 : Int32) (6 : Int32)).bind fun h21 => (gi h21 4 a1 7).bind fun x22 => (pf h21 4 a0 7 (.int x22)).bind fun h23 => (gi h23 4 a1 8).bind fun x24 => (pf h23 4 a0 8 (.int x24)).bind fun h25 => (gi h25 4 a1 9).bind fun x26 => (pf h25 4 a0 9 (.int x26)).bind fun h27 => (gi h27 4 a1 10).bind fun x28 => (pf h27 4 a0 10 (.int x28)).bind fun h29 => some h29) else none
set_option maxRecDepth 100000 in
set_option maxHeartbeats 4000000 in
theorem c_X4_copyFrom (X : SX) (d : Nat) (a0 : Nat) (a1 : Nat) (h : AH) (h' : AH) (hf : f_X4_copyFrom a0 a1 h = some h') : isO h 4 a0 = true ∧ G X mX4_copyFrom (d + 1) 0 [(0, .ref a0), (1, .ref a1)] [] h none h' := by
  unfold f_X4_copyFrom at hf
  by_cases ho : isO h 4 a0 = true
  · rw [if_pos ho] at hf
    refine ⟨ho, ?_⟩
    refine G.aload_n dX4_copyFrom_0 rfl ?_
    refine G.getr flX4_9 dX4_copyFrom_1 hf (fun r1 hf => ?_)
    refine G.iconst (v := (0 : Int32)) dX4_copyFrom_4 (by decide) ?_
    refine G.aload_n dX4_copyFrom_5 rfl ?_
    refine G.getr flX4_9 dX4_copyFrom_6 hf (fun r2 hf => ?_)
    refine G.iconst (v := (0 : Int32)) dX4_copyFrom_9 (by decide) ?_
    refine G.bipush (v := (6 : Int32)) dX4_copyFrom_10 (by decide) ?_
    refine G.acopy lkX4_33 (Nat.le_of_ble_eq_true rfl) dX4_copyFrom_12 hf (fun h3 hf => ?_)
    refine G.aload_n dX4_copyFrom_15 rfl ?_
    refine G.getr flX4_15 dX4_copyFrom_16 hf (fun r4 hf => ?_)
    refine G.iconst (v := (0 : Int32)) dX4_copyFrom_19 (by decide) ?_
    refine G.aload_n dX4_copyFrom_20 rfl ?_
    refine G.getr flX4_15 dX4_copyFrom_21 hf (fun r5 hf => ?_)
    refine G.iconst (v := (0 : Int32)) dX4_copyFrom_24 (by decide) ?_
    refine G.bipush (v := (6 : Int32)) dX4_copyFrom_25 (by decide) ?_
    refine G.acopy lkX4_33 (Nat.le_of_ble_eq_true rfl) dX4_copyFrom_27 hf (fun h6 hf => ?_)
    refine G.aload_n dX4_copyFrom_30 rfl ?_
    refine G.getr flX4_18 dX4_copyFrom_31 hf (fun r7 hf => ?_)
    refine G.iconst (v := (0 : Int32)) dX4_copyFrom_34 (by decide) ?_
    refine G.aload_n dX4_copyFrom_35 rfl ?_
    refine G.getr flX4_18 dX4_copyFrom_36 hf (fun r8 hf => ?_)
    refine G.iconst (v := (0 : Int32)) dX4_copyFrom_39 (by decide) ?_
    refine G.bipush (v := (6 : Int32)) dX4_copyFrom_40 (by decide) ?_
    refine G.acopy lkX4_33 (Nat.le_of_ble_eq_true rfl) dX4_copyFrom_42 hf (fun h9 hf => ?_)
    refine G.aload_n dX4_copyFrom_45 rfl ?_
    refine G.getr flX4_21 dX4_copyFrom_46 hf (fun r10 hf => ?_)
    refine G.iconst (v := (0 : Int32)) dX4_copyFrom_49 (by decide) ?_
    refine G.aload_n dX4_copyFrom_50 rfl ?_
    refine G.getr flX4_21 dX4_copyFrom_51 hf (fun r11 hf => ?_)
    refine G.iconst (v := (0 : Int32)) dX4_copyFrom_54 (by decide) ?_
    refine G.bipush (v := (6 : Int32)) dX4_copyFrom_55 (by decide) ?_
    refine G.acopy lkX4_33 (Nat.le_of_ble_eq_true rfl) dX4_copyFrom_57 hf (fun h12 hf => ?_)
    refine G.aload_n dX4_copyFrom_60 rfl ?_
    refine G.getr flX4_24 dX4_copyFrom_61 hf (fun r13 hf => ?_)
    refine G.iconst (v := (0 : Int32)) dX4_copyFrom_64 (by decide) ?_
    refine G.aload_n dX4_copyFrom_65 rfl ?_
    refine G.getr flX4_24 dX4_copyFrom_66 hf (fun r14 hf => ?_)
    refine G.iconst (v := (0 : Int32)) dX4_copyFrom_69 (by decide) ?_
    refine G.bipush (v := (6 : Int32)) dX4_copyFrom_70 (by decide) ?_
    refine G.acopy lkX4_33 (Nat.le_of_ble_eq_true rfl) dX4_copyFrom_72 hf (fun h15 hf => ?_)
    refine G.aload_n dX4_copyFrom_75 rfl ?_
    refine G.getr flX4_27 dX4_copyFrom_76 hf (fun r16 hf => ?_)
    refine G.iconst (v := (0 : Int32)) dX4_copyFrom_79 (by decide) ?_
    refine G.aload_n dX4_copyFrom_80 rfl ?_
    refine G.getr flX4_27 dX4_copyFrom_81 hf (fun r17 hf => ?_)
    refine G.iconst (v := (0 : Int32)) dX4_copyFrom_84 (by decide) ?_
    refine G.bipush (v := (6 : Int32)) dX4_copyFrom_85 (by decide) ?_
    refine G.acopy lkX4_33 (Nat.le_of_ble_eq_true rfl) dX4_copyFrom_87 hf (fun h18 hf => ?_)
    refine G.aload_n dX4_copyFrom_90 rfl ?_
    refine G.getr flX4_30 dX4_copyFrom_91 hf (fun r19 hf => ?_)
    refine G.iconst (v := (0 : Int32)) dX4_copyFrom_94 (by decide) ?_
    refine G.aload_n dX4_copyFrom_95 rfl ?_
    refine G.getr flX4_30 dX4_copyFrom_96 hf (fun r20 hf => ?_)
    refine G.iconst (v := (0 : Int32)) dX4_copyFrom_99 (by decide) ?_
    refine G.bipush (v := (6 : Int32)) dX4_copyFrom_100 (by decide) ?_
    refine G.acopy lkX4_33 (Nat.le_of_ble_eq_true rfl) dX4_copyFrom_102 hf (fun h21 hf => ?_)
    refine G.aload_n dX4_copyFrom_105 rfl ?_
    refine G.aload_n dX4_copyFrom_106 rfl ?_
    refine G.geti flX4_39 dX4_copyFrom_107 hf (fun x22 hf => ?_)
    refine G.put flX4_39 (Or.inl rfl) (fun _ _ => ⟨rfl, rfl⟩) dX4_copyFrom_110 hf (fun h23 hf => ?_)
    refine G.aload_n dX4_copyFrom_113 rfl ?_
    refine G.aload_n dX4_copyFrom_114 rfl ?_
    refine G.geti flX4_43 dX4_copyFrom_115 hf (fun x24 hf => ?_)
    refine G.put flX4_43 (Or.inl rfl) (fun _ _ => ⟨rfl, rfl⟩) dX4_copyFrom_118 hf (fun h25 hf => ?_)
    refine G.aload_n dX4_copyFrom_121 rfl ?_
    refine G.aload_n dX4_copyFrom_122 rfl ?_
    refine G.geti flX4_46 dX4_copyFrom_123 hf (fun x26 hf => ?_)
    refine G.put flX4_46 (Or.inl rfl) (fun _ _ => ⟨rfl, rfl⟩) dX4_copyFrom_126 hf (fun h27 hf => ?_)
    refine G.aload_n dX4_copyFrom_129 rfl ?_
    refine G.aload_n dX4_copyFrom_130 rfl ?_
    refine G.geti flX4_49 dX4_copyFrom_131 hf (fun x28 hf => ?_)
    refine G.put flX4_49 (Or.inl rfl) (fun _ _ => ⟨rfl, rfl⟩) dX4_copyFrom_134 hf (fun h29 hf => ?_)
    have hq := Option.some.inj hf
    subst hq
    exact G.vret rfl dX4_copyFrom_137
  · rw [if_neg ho] at hf
    cases hf
/-! X6_remember -/
theorem dX6_remember_0 : decode cX6_remember 0 = .ok (.aload_n 0, 1) := by decide +kernel
theorem dX6_remember_1 : decode cX6_remember 1 = .ok (.getfield 11, 3) := by decide +kernel
theorem dX6_remember_4 : decode cX6_remember 4 = .ok (.aload_n 0, 1) := by decide +kernel
theorem dX6_remember_5 : decode cX6_remember 5 = .ok (.getfield 18, 3) := by decide +kernel
theorem dX6_remember_8 : decode cX6_remember 8 = .ok (.aaload, 1) := by decide +kernel
theorem dX6_remember_9 : decode cX6_remember 9 = .ok (.aload_n 1, 1) := by decide +kernel
theorem dX6_remember_10 : decode cX6_remember 10 = .ok (.invokevirtual 22, 3) := by decide +kernel
theorem dX6_remember_13 : decode cX6_remember 13 = .ok (.aload_n 0, 1) := by decide +kernel
theorem dX6_remember_14 : decode cX6_remember 14 = .ok (.aload_n 0, 1) := by decide +kernel
theorem dX6_remember_15 : decode cX6_remember 15 = .ok (.getfield 18, 3) := by decide +kernel
theorem dX6_remember_18 : decode cX6_remember 18 = .ok (.iconst 1, 1) := by decide +kernel
theorem dX6_remember_19 : decode cX6_remember 19 = .ok (.iadd, 1) := by decide +kernel
theorem dX6_remember_20 : decode cX6_remember 20 = .ok (.bipush 30, 2) := by decide +kernel
theorem dX6_remember_22 : decode cX6_remember 22 = .ok (.irem, 1) := by decide +kernel
theorem dX6_remember_23 : decode cX6_remember 23 = .ok (.putfield 18, 3) := by decide +kernel
theorem dX6_remember_26 : decode cX6_remember 26 = .ok (.aload_n 0, 1) := by decide +kernel
theorem dX6_remember_27 : decode cX6_remember 27 = .ok (.bipush 30, 2) := by decide +kernel
theorem dX6_remember_29 : decode cX6_remember 29 = .ok (.aload_n 0, 1) := by decide +kernel
theorem dX6_remember_30 : decode cX6_remember 30 = .ok (.getfield 26, 3) := by decide +kernel
theorem dX6_remember_33 : decode cX6_remember 33 = .ok (.iconst 1, 1) := by decide +kernel
theorem dX6_remember_34 : decode cX6_remember 34 = .ok (.iadd, 1) := by decide +kernel
theorem dX6_remember_35 : decode cX6_remember 35 = .ok (.invokestatic 29, 3) := by decide +kernel
theorem dX6_remember_38 : decode cX6_remember 38 = .ok (.putfield 26, 3) := by decide +kernel
theorem dX6_remember_41 : decode cX6_remember 41 = .ok (.return_, 1) := by decide +kernel
def f_X6_remember (a0 : Nat) (a1 : Nat) (h : AH) : Option (AH) := if isO h 5 a0 = true then ((gr h 5 a0 0).bind fun r1 => (gi h 5 a0 1).bind fun x2 => (ar h 4 r1 x2).bind fun r3 => (f_X4_copyFrom r3 a1 h).bind fun h4 => (gi h4 5 a0 1).bind fun x6 => (pf h4 5 a0 1 (.int ((x6 + (1 : Int32)) - (x6 + (1 : Int32)) / (30 : Int32) * (30 : Int32)))).bind fun h7 => (gi h7 5 a0 2).bind fun x8 => (pf h7 5 a0 2 (.int (if (x8 + (1 : Int32)) < (30 : Int32) then (x8 + (1 : Int32)) else (30 : Int32)))).bind fun h9 => some h9) else none
set_option maxRecDepth 100000 in
set_option maxHeartbeats 4000000 in
theorem c_X6_remember (X : SX) (d : Nat) (a0 : Nat) (a1 : Nat) (h : AH) (h' : AH) (hf : f_X6_remember a0 a1 h = some h') : isO h 5 a0 = true ∧ G X mX6_remember (d + 2) 0 [(0, .ref a0), (1, .ref a1)] [] h none h' := by
  unfold f_X6_remember at hf
  by_cases ho : isO h 5 a0 = true
  · rw [if_pos ho] at hf
    refine ⟨ho, ?_⟩
    refine G.aload_n dX6_remember_0 rfl ?_
    refine G.getr flX6_11 dX6_remember_1 hf (fun r1 hf => ?_)
    refine G.aload_n dX6_remember_4 rfl ?_
    refine G.geti flX6_18 dX6_remember_5 hf (fun x2 hf => ?_)
    refine G.aald (Or.inl ⟨rfl, rfl⟩) dX6_remember_8 hf (fun r3 hf => ?_)
    refine G.aload_n dX6_remember_9 rfl ?_
    obtain ⟨h4, e5, hf⟩ := Option.bind_eq_some_iff.mp hf
    refine G.callVv (M' := mX4_copyFrom) (ci := 4) (As := [.ref a1]) (st := []) okX4_copyFrom viX4_copyFrom lkX6_22 rfl rfl rfl (Nat.le_of_ble_eq_true rfl) (Nat.le_of_ble_eq_true rfl) dX6_remember_10 (c_X4_copyFrom X d _ _ _ _ e5).1 (c_X4_copyFrom X d _ _ _ _ e5).2 ?_
    refine G.aload_n dX6_remember_13 rfl ?_
    refine G.aload_n dX6_remember_14 rfl ?_
    refine G.geti flX6_18 dX6_remember_15 hf (fun x6 hf => ?_)
    refine G.iconst (v := (1 : Int32)) dX6_remember_18 (by decide) ?_
    refine G.iadd dX6_remember_19 ?_
    refine G.bipush (v := (30 : Int32)) dX6_remember_20 (by decide) ?_
    refine G.irem dX6_remember_22 (by decide) ?_
    refine G.put flX6_18 (Or.inl rfl) (fun _ _ => ⟨rfl, rfl⟩) dX6_remember_23 hf (fun h7 hf => ?_)
    refine G.aload_n dX6_remember_26 rfl ?_
    refine G.bipush (v := (30 : Int32)) dX6_remember_27 (by decide) ?_
    refine G.aload_n dX6_remember_29 rfl ?_
    refine G.geti flX6_26 dX6_remember_30 hf (fun x8 hf => ?_)
    refine G.iconst (v := (1 : Int32)) dX6_remember_33 (by decide) ?_
    refine G.iadd dX6_remember_34 ?_
    refine G.min lkX6_29 (Nat.le_of_ble_eq_true rfl) dX6_remember_35 ?_
    refine G.put flX6_26 (Or.inl rfl) (fun _ _ => ⟨rfl, rfl⟩) dX6_remember_38 hf (fun h9 hf => ?_)
    have hq := Option.some.inj hf
    subst hq
    exact G.vret rfl dX6_remember_41
  · rw [if_neg ho] at hf
    cases hf
/-! X3_walk -/
theorem dX3_walk_0 : decode cX3_walk 0 = .ok (.aload_n 0, 1) := by decide +kernel
theorem dX3_walk_1 : decode cX3_walk 1 = .ok (.getfield 12, 3) := by decide +kernel
theorem dX3_walk_4 : decode cX3_walk 4 = .ok (.getfield 112, 3) := by decide +kernel
theorem dX3_walk_7 : decode cX3_walk 7 = .ok (.iload_n 1, 1) := by decide +kernel
theorem dX3_walk_8 : decode cX3_walk 8 = .ok (.dup2, 1) := by decide +kernel
theorem dX3_walk_9 : decode cX3_walk 9 = .ok (.iaload, 1) := by decide +kernel
theorem dX3_walk_10 : decode cX3_walk 10 = .ok (.aload_n 0, 1) := by decide +kernel
theorem dX3_walk_11 : decode cX3_walk 11 = .ok (.iload_n 1, 1) := by decide +kernel
theorem dX3_walk_12 : decode cX3_walk 12 = .ok (.iload_n 2, 1) := by decide +kernel
theorem dX3_walk_13 : decode cX3_walk 13 = .ok (.invokevirtual 106, 3) := by decide +kernel
theorem dX3_walk_16 : decode cX3_walk 16 = .ok (.isub, 1) := by decide +kernel
theorem dX3_walk_17 : decode cX3_walk 17 = .ok (.iastore, 1) := by decide +kernel
theorem dX3_walk_18 : decode cX3_walk 18 = .ok (.aload_n 0, 1) := by decide +kernel
theorem dX3_walk_19 : decode cX3_walk 19 = .ok (.getfield 12, 3) := by decide +kernel
theorem dX3_walk_22 : decode cX3_walk 22 = .ok (.getfield 99, 3) := by decide +kernel
theorem dX3_walk_25 : decode cX3_walk 25 = .ok (.iload_n 1, 1) := by decide +kernel
theorem dX3_walk_26 : decode cX3_walk 26 = .ok (.iload_n 2, 1) := by decide +kernel
theorem dX3_walk_27 : decode cX3_walk 27 = .ok (.iastore, 1) := by decide +kernel
theorem dX3_walk_28 : decode cX3_walk 28 = .ok (.return_, 1) := by decide +kernel
def f_X3_walk (a0 : Nat) (a1 : Int32) (a2 : Int32) (h : AH) : Option (AH) := if isO h 3 a0 = true then ((gr h 3 a0 0).bind fun r1 => (gr h 4 r1 3).bind fun r2 => (ai h 0 r2 a1).bind fun x3 => bT1 (f_X3_stepsTo a0 a1 a2 h) fun x6 h4 => (aw h4 0 r2 a1 (x3 - x6)).bind fun h7 => (gr h7 3 a0 0).bind fun r8 => (gr h7 4 r8 2).bind fun r9 => (aw h7 0 r9 a1 a2).bind fun h10 => some h10) else none
set_option maxRecDepth 100000 in
set_option maxHeartbeats 4000000 in
theorem c_X3_walk (X : SX) (d : Nat) (a0 : Nat) (a1 : Int32) (a2 : Int32) (h : AH) (h' : AH) (hf : f_X3_walk a0 a1 a2 h = some h') : isO h 3 a0 = true ∧ G X mX3_walk (d + 2) 0 [(0, .ref a0), (1, .int a1), (2, .int a2)] [] h none h' := by
  unfold f_X3_walk at hf
  by_cases ho : isO h 3 a0 = true
  · rw [if_pos ho] at hf
    refine ⟨ho, ?_⟩
    refine G.aload_n dX3_walk_0 rfl ?_
    refine G.getr flX3_12 dX3_walk_1 hf (fun r1 hf => ?_)
    refine G.getr flX3_112 dX3_walk_4 hf (fun r2 hf => ?_)
    refine G.iload_n dX3_walk_7 rfl ?_
    refine G.dup2 dX3_walk_8 rfl rfl ?_
    refine G.iald dX3_walk_9 hf (fun x3 hf => ?_)
    refine G.aload_n dX3_walk_10 rfl ?_
    refine G.iload_n dX3_walk_11 rfl ?_
    refine G.iload_n dX3_walk_12 rfl ?_
    obtain ⟨x6, h4, e5, hf⟩ := bT1_spec hf
    refine G.callVi (M' := mX3_stepsTo) (ci := 3) (As := [.int a1, .int a2]) (st := [.int x3, .int a1, .ref r2]) okX3_stepsTo viX3_stepsTo lkX3_106 rfl rfl rfl (Nat.le_of_ble_eq_true rfl) (Nat.le_of_ble_eq_true rfl) dX3_walk_13 (c_X3_stepsTo X d _ _ _ _ _ _ e5).1 (c_X3_stepsTo X d _ _ _ _ _ _ e5).2 ?_
    refine G.isub dX3_walk_16 ?_
    refine G.iast dX3_walk_17 hf (fun h7 hf => ?_)
    refine G.aload_n dX3_walk_18 rfl ?_
    refine G.getr flX3_12 dX3_walk_19 hf (fun r8 hf => ?_)
    refine G.getr flX3_99 dX3_walk_22 hf (fun r9 hf => ?_)
    refine G.iload_n dX3_walk_25 rfl ?_
    refine G.iload_n dX3_walk_26 rfl ?_
    refine G.iast dX3_walk_27 hf (fun h10 hf => ?_)
    have hq := Option.some.inj hf
    subst hq
    exact G.vret rfl dX3_walk_28
  · rw [if_neg ho] at hf
    cases hf
/-! X12_go -/
theorem dX12_go_0 : decode cX12_go 0 = .ok (.aload_n 0, 1) := by decide +kernel
theorem dX12_go_1 : decode cX12_go 1 = .ok (.getfield 19, 3) := by decide +kernel
theorem dX12_go_4 : decode cX12_go 4 = .ok (.iload_n 1, 1) := by decide +kernel
theorem dX12_go_5 : decode cX12_go 5 = .ok (.invokevirtual 166, 3) := by decide +kernel
theorem dX12_go_8 : decode cX12_go 8 = .ok (.ifCond .ne 6, 3) := by decide +kernel
theorem dX12_go_11 : decode cX12_go 11 = .ok (.ldc 170, 2) := by decide +kernel
theorem dX12_go_13 : decode cX12_go 13 = .ok (.ireturn, 1) := by decide +kernel
theorem dX12_go_14 : decode cX12_go 14 = .ok (.iload_n 2, 1) := by decide +kernel
theorem dX12_go_15 : decode cX12_go 15 = .ok (.ifCond .lt 17, 3) := by decide +kernel
theorem dX12_go_18 : decode cX12_go 18 = .ok (.iload_n 2, 1) := by decide +kernel
theorem dX12_go_19 : decode cX12_go 19 = .ok (.aload_n 0, 1) := by decide +kernel
theorem dX12_go_20 : decode cX12_go 20 = .ok (.getfield 19, 3) := by decide +kernel
theorem dX12_go_23 : decode cX12_go 23 = .ok (.getfield 86, 3) := by decide +kernel
theorem dX12_go_26 : decode cX12_go 26 = .ok (.getfield 110, 3) := by decide +kernel
theorem dX12_go_29 : decode cX12_go 29 = .ok (.if_icmp .lt 6, 3) := by decide +kernel
theorem dX12_go_32 : decode cX12_go 32 = .ok (.ldc 72, 2) := by decide +kernel
theorem dX12_go_34 : decode cX12_go 34 = .ok (.ireturn, 1) := by decide +kernel
theorem dX12_go_35 : decode cX12_go 35 = .ok (.aload_n 0, 1) := by decide +kernel
theorem dX12_go_36 : decode cX12_go 36 = .ok (.getfield 19, 3) := by decide +kernel
theorem dX12_go_39 : decode cX12_go 39 = .ok (.getfield 119, 3) := by decide +kernel
theorem dX12_go_42 : decode cX12_go 42 = .ok (.getfield 181, 3) := by decide +kernel
theorem dX12_go_45 : decode cX12_go 45 = .ok (.iload_n 1, 1) := by decide +kernel
theorem dX12_go_46 : decode cX12_go 46 = .ok (.iaload, 1) := by decide +kernel
theorem dX12_go_47 : decode cX12_go 47 = .ok (.iload_n 2, 1) := by decide +kernel
theorem dX12_go_48 : decode cX12_go 48 = .ok (.if_icmp .eq 15, 3) := by decide +kernel
theorem dX12_go_51 : decode cX12_go 51 = .ok (.aload_n 0, 1) := by decide +kernel
theorem dX12_go_52 : decode cX12_go 52 = .ok (.getfield 19, 3) := by decide +kernel
theorem dX12_go_55 : decode cX12_go 55 = .ok (.iload_n 1, 1) := by decide +kernel
theorem dX12_go_56 : decode cX12_go 56 = .ok (.iload_n 2, 1) := by decide +kernel
theorem dX12_go_57 : decode cX12_go 57 = .ok (.invokevirtual 218, 3) := by decide +kernel
theorem dX12_go_60 : decode cX12_go 60 = .ok (.ifCond .ne 6, 3) := by decide +kernel
theorem dX12_go_63 : decode cX12_go 63 = .ok (.ldc 222, 2) := by decide +kernel
theorem dX12_go_65 : decode cX12_go 65 = .ok (.ireturn, 1) := by decide +kernel
theorem dX12_go_66 : decode cX12_go 66 = .ok (.aload_n 0, 1) := by decide +kernel
theorem dX12_go_67 : decode cX12_go 67 = .ok (.getfield 40, 3) := by decide +kernel
theorem dX12_go_70 : decode cX12_go 70 = .ok (.aload_n 0, 1) := by decide +kernel
theorem dX12_go_71 : decode cX12_go 71 = .ok (.getfield 19, 3) := by decide +kernel
theorem dX12_go_74 : decode cX12_go 74 = .ok (.getfield 119, 3) := by decide +kernel
theorem dX12_go_77 : decode cX12_go 77 = .ok (.invokevirtual 223, 3) := by decide +kernel
theorem dX12_go_80 : decode cX12_go 80 = .ok (.aload_n 0, 1) := by decide +kernel
theorem dX12_go_81 : decode cX12_go 81 = .ok (.getfield 19, 3) := by decide +kernel
theorem dX12_go_84 : decode cX12_go 84 = .ok (.iload_n 1, 1) := by decide +kernel
theorem dX12_go_85 : decode cX12_go 85 = .ok (.iload_n 2, 1) := by decide +kernel
theorem dX12_go_86 : decode cX12_go 86 = .ok (.invokevirtual 227, 3) := by decide +kernel
theorem dX12_go_89 : decode cX12_go 89 = .ok (.aload_n 0, 1) := by decide +kernel
theorem dX12_go_90 : decode cX12_go 90 = .ok (.getfield 19, 3) := by decide +kernel
theorem dX12_go_93 : decode cX12_go 93 = .ok (.getfield 119, 3) := by decide +kernel
theorem dX12_go_96 : decode cX12_go 96 = .ok (.getfield 184, 3) := by decide +kernel
theorem dX12_go_99 : decode cX12_go 99 = .ok (.iload_n 1, 1) := by decide +kernel
theorem dX12_go_100 : decode cX12_go 100 = .ok (.iaload, 1) := by decide +kernel
theorem dX12_go_101 : decode cX12_go 101 = .ok (.ireturn, 1) := by decide +kernel
def f_X12_go (a0 : Nat) (a1 : Int32) (a2 : Int32) (h : AH) : Option (Int32 × AH) := if isO h 11 a0 = true then ((gr h 11 a0 1).bind fun r1 => bT1 (f_X3_hasSinger r1 a1 h) fun x4 h2 => if x4 = 0 then (some ((-1000000001 : Int32), h2)) else (if a2 < 0 then (some ((-1000000002 : Int32), h2)) else ((gr h2 11 a0 1).bind fun r7 => (gr h2 3 r7 1).bind fun r8 => (gi h2 9 r8 7).bind fun x9 => if a2 < x9 then ((gr h2 11 a0 1).bind fun r11 => (gr h2 3 r11 0).bind fun r12 => (gr h2 4 r12 2).bind fun r13 => (ai h2 0 r13 a1).bind fun x14 => if x14 = a2 then (some ((-1000000003 : Int32), h2)) else ((gr h2 11 a0 1).bind fun r16 => bT1 (f_X3_mayWalk r16 a1 a2 h2) fun x19 h17 => if x19 = 0 then (some ((-1000000003 : Int32), h17)) else ((gr h17 11 a0 4).bind fun r21 => (gr h17 11 a0 1).bind fun r22 => (gr h17 3 r22 0).bind fun r23 => (f_X6_remember r21 r23 h17).bind fun h24 => (gr h24 11 a0 1).bind fun r26 => (f_X3_walk r26 a1 a2 h24).bind fun h27 => (gr h27 11 a0 1).bind fun r29 => (gr h27 3 r29 0).bind fun r30 => (gr h27 4 r30 3).bind fun r31 => (ai h27 0 r31 a1).bind fun x32 => some (x32, h27)))) else (some ((-1000000002 : Int32), h2))))) else none
set_option maxRecDepth 100000 in
set_option maxHeartbeats 4000000 in
theorem c_X12_go (X : SX) (d : Nat) (a0 : Nat) (a1 : Int32) (a2 : Int32) (h : AH) (rr : Int32) (h' : AH) (hf : f_X12_go a0 a1 a2 h = some (rr, h')) : isO h 11 a0 = true ∧ G X mX12_go (d + 3) 0 [(0, .ref a0), (1, .int a1), (2, .int a2)] [] h (some rr) h' := by
  unfold f_X12_go at hf
  by_cases ho : isO h 11 a0 = true
  · rw [if_pos ho] at hf
    refine ⟨ho, ?_⟩
    refine G.aload_n dX12_go_0 rfl ?_
    refine G.getr flX12_19 dX12_go_1 hf (fun r1 hf => ?_)
    refine G.iload_n dX12_go_4 rfl ?_
    obtain ⟨x4, h2, e3, hf⟩ := bT1_spec hf
    refine G.callVi (M' := mX3_hasSinger) (ci := 3) (As := [.int a1]) (st := []) okX3_hasSinger viX3_hasSinger lkX12_166 rfl rfl rfl (Nat.le_of_ble_eq_true rfl) (Nat.le_of_ble_eq_true rfl) dX12_go_5 (c_X3_hasSinger X (d + 2) _ _ _ _ _ e3).1 (c_X3_hasSinger X (d + 2) _ _ _ _ _ e3).2 ?_
    refine G.if_ne 14 dX12_go_8 (by decide) (fun c5 => ?_) (fun c5 => ?_)
    · rw [if_neg c5] at hf
      refine G.iload_n dX12_go_14 rfl ?_
      refine G.if_lt 32 dX12_go_15 (by decide) (fun c6 => ?_) (fun c6 => ?_)
      · rw [if_pos c6] at hf
        refine G.ldc ckX12_72 dX12_go_32 ?_
        obtain ⟨hq1, hq2⟩ := Prod.mk.inj (Option.some.inj hf)
        subst hq1
        subst hq2
        exact G.iret rfl rfl dX12_go_34
      · rw [if_neg c6] at hf
        refine G.iload_n dX12_go_18 rfl ?_
        refine G.aload_n dX12_go_19 rfl ?_
        refine G.getr flX12_19 dX12_go_20 hf (fun r7 hf => ?_)
        refine G.getr flX12_86 dX12_go_23 hf (fun r8 hf => ?_)
        refine G.geti flX12_110 dX12_go_26 hf (fun x9 hf => ?_)
        refine G.icmp_lt 35 dX12_go_29 (by decide) (fun c10 => ?_) (fun c10 => ?_)
        · rw [if_pos c10] at hf
          refine G.aload_n dX12_go_35 rfl ?_
          refine G.getr flX12_19 dX12_go_36 hf (fun r11 hf => ?_)
          refine G.getr flX12_119 dX12_go_39 hf (fun r12 hf => ?_)
          refine G.getr flX12_181 dX12_go_42 hf (fun r13 hf => ?_)
          refine G.iload_n dX12_go_45 rfl ?_
          refine G.iald dX12_go_46 hf (fun x14 hf => ?_)
          refine G.iload_n dX12_go_47 rfl ?_
          refine G.icmp_eq 63 dX12_go_48 (by decide) (fun c15 => ?_) (fun c15 => ?_)
          · rw [if_pos c15] at hf
            refine G.ldc ckX12_222 dX12_go_63 ?_
            obtain ⟨hq1, hq2⟩ := Prod.mk.inj (Option.some.inj hf)
            subst hq1
            subst hq2
            exact G.iret rfl rfl dX12_go_65
          · rw [if_neg c15] at hf
            refine G.aload_n dX12_go_51 rfl ?_
            refine G.getr flX12_19 dX12_go_52 hf (fun r16 hf => ?_)
            refine G.iload_n dX12_go_55 rfl ?_
            refine G.iload_n dX12_go_56 rfl ?_
            obtain ⟨x19, h17, e18, hf⟩ := bT1_spec hf
            refine G.callVi (M' := mX3_mayWalk) (ci := 3) (As := [.int a1, .int a2]) (st := []) okX3_mayWalk viX3_mayWalk lkX12_218 rfl rfl rfl (Nat.le_of_ble_eq_true rfl) (Nat.le_of_ble_eq_true rfl) dX12_go_57 (c_X3_mayWalk X d _ _ _ _ _ _ e18).1 (c_X3_mayWalk X d _ _ _ _ _ _ e18).2 ?_
            refine G.if_ne 66 dX12_go_60 (by decide) (fun c20 => ?_) (fun c20 => ?_)
            · rw [if_neg c20] at hf
              refine G.aload_n dX12_go_66 rfl ?_
              refine G.getr flX12_40 dX12_go_67 hf (fun r21 hf => ?_)
              refine G.aload_n dX12_go_70 rfl ?_
              refine G.getr flX12_19 dX12_go_71 hf (fun r22 hf => ?_)
              refine G.getr flX12_119 dX12_go_74 hf (fun r23 hf => ?_)
              obtain ⟨h24, e25, hf⟩ := Option.bind_eq_some_iff.mp hf
              refine G.callVv (M' := mX6_remember) (ci := 5) (As := [.ref r23]) (st := []) okX6_remember viX6_remember lkX12_223 rfl rfl rfl (Nat.le_of_ble_eq_true rfl) (Nat.le_of_ble_eq_true rfl) dX12_go_77 (c_X6_remember X d _ _ _ _ e25).1 (c_X6_remember X d _ _ _ _ e25).2 ?_
              refine G.aload_n dX12_go_80 rfl ?_
              refine G.getr flX12_19 dX12_go_81 hf (fun r26 hf => ?_)
              refine G.iload_n dX12_go_84 rfl ?_
              refine G.iload_n dX12_go_85 rfl ?_
              obtain ⟨h27, e28, hf⟩ := Option.bind_eq_some_iff.mp hf
              refine G.callVv (M' := mX3_walk) (ci := 3) (As := [.int a1, .int a2]) (st := []) okX3_walk viX3_walk lkX12_227 rfl rfl rfl (Nat.le_of_ble_eq_true rfl) (Nat.le_of_ble_eq_true rfl) dX12_go_86 (c_X3_walk X d _ _ _ _ _ e28).1 (c_X3_walk X d _ _ _ _ _ e28).2 ?_
              refine G.aload_n dX12_go_89 rfl ?_
              refine G.getr flX12_19 dX12_go_90 hf (fun r29 hf => ?_)
              refine G.getr flX12_119 dX12_go_93 hf (fun r30 hf => ?_)
              refine G.getr flX12_184 dX12_go_96 hf (fun r31 hf => ?_)
              refine G.iload_n dX12_go_99 rfl ?_
              refine G.iald dX12_go_100 hf (fun x32 hf => ?_)
              obtain ⟨hq1, hq2⟩ := Prod.mk.inj (Option.some.inj hf)
              subst hq1
              subst hq2
              exact G.iret rfl rfl dX12_go_101
            · rw [if_pos c20] at hf
              refine G.ldc ckX12_222 dX12_go_63 ?_
              obtain ⟨hq1, hq2⟩ := Prod.mk.inj (Option.some.inj hf)
              subst hq1
              subst hq2
              exact G.iret rfl rfl dX12_go_65
        · rw [if_neg c10] at hf
          refine G.ldc ckX12_72 dX12_go_32 ?_
          obtain ⟨hq1, hq2⟩ := Prod.mk.inj (Option.some.inj hf)
          subst hq1
          subst hq2
          exact G.iret rfl rfl dX12_go_34
    · rw [if_pos c5] at hf
      refine G.ldc ckX12_170 dX12_go_11 ?_
      obtain ⟨hq1, hq2⟩ := Prod.mk.inj (Option.some.inj hf)
      subst hq1
      subst hq2
      exact G.iret rfl rfl dX12_go_13
  · rw [if_neg ho] at hf
    cases hf
/-! X13_remembers -/
theorem dX13_remembers_0 : decode cX13_remembers 0 = .ok (.aload_n 0, 1) := by decide +kernel
theorem dX13_remembers_1 : decode cX13_remembers 1 = .ok (.getfield 138, 3) := by decide +kernel
theorem dX13_remembers_4 : decode cX13_remembers 4 = .ok (.bipush 30, 2) := by decide +kernel
theorem dX13_remembers_6 : decode cX13_remembers 6 = .ok (.if_icmp .ne 44, 3) := by decide +kernel
theorem dX13_remembers_9 : decode cX13_remembers 9 = .ok (.bipush 51, 2) := by decide +kernel
theorem dX13_remembers_11 : decode cX13_remembers 11 = .ok (.istore_n 1, 1) := by decide +kernel
theorem dX13_remembers_12 : decode cX13_remembers 12 = .ok (.iload_n 1, 1) := by decide +kernel
theorem dX13_remembers_13 : decode cX13_remembers 13 = .ok (.sipush 1530, 3) := by decide +kernel
theorem dX13_remembers_16 : decode cX13_remembers 16 = .ok (.if_icmp .ge 24, 3) := by decide +kernel
theorem dX13_remembers_19 : decode cX13_remembers 19 = .ok (.aload_n 0, 1) := by decide +kernel
theorem dX13_remembers_20 : decode cX13_remembers 20 = .ok (.getfield 32, 3) := by decide +kernel
theorem dX13_remembers_23 : decode cX13_remembers 23 = .ok (.iload_n 1, 1) := by decide +kernel
theorem dX13_remembers_24 : decode cX13_remembers 24 = .ok (.bipush 51, 2) := by decide +kernel
theorem dX13_remembers_26 : decode cX13_remembers 26 = .ok (.isub, 1) := by decide +kernel
theorem dX13_remembers_27 : decode cX13_remembers 27 = .ok (.aload_n 0, 1) := by decide +kernel
theorem dX13_remembers_28 : decode cX13_remembers 28 = .ok (.getfield 32, 3) := by decide +kernel
theorem dX13_remembers_31 : decode cX13_remembers 31 = .ok (.iload_n 1, 1) := by decide +kernel
theorem dX13_remembers_32 : decode cX13_remembers 32 = .ok (.iaload, 1) := by decide +kernel
theorem dX13_remembers_33 : decode cX13_remembers 33 = .ok (.iastore, 1) := by decide +kernel
theorem dX13_remembers_34 : decode cX13_remembers 34 = .ok (.iinc 1 1, 3) := by decide +kernel
theorem dX13_remembers_37 : decode cX13_remembers 37 = .ok (.goto (-25), 3) := by decide +kernel
theorem dX13_remembers_40 : decode cX13_remembers 40 = .ok (.aload_n 0, 1) := by decide +kernel
theorem dX13_remembers_41 : decode cX13_remembers 41 = .ok (.dup, 1) := by decide +kernel
theorem dX13_remembers_42 : decode cX13_remembers 42 = .ok (.getfield 138, 3) := by decide +kernel
theorem dX13_remembers_45 : decode cX13_remembers 45 = .ok (.iconst 1, 1) := by decide +kernel
theorem dX13_remembers_46 : decode cX13_remembers 46 = .ok (.isub, 1) := by decide +kernel
theorem dX13_remembers_47 : decode cX13_remembers 47 = .ok (.putfield 138, 3) := by decide +kernel
theorem dX13_remembers_50 : decode cX13_remembers 50 = .ok (.iconst 0, 1) := by decide +kernel
theorem dX13_remembers_51 : decode cX13_remembers 51 = .ok (.istore_n 1, 1) := by decide +kernel
theorem dX13_remembers_52 : decode cX13_remembers 52 = .ok (.iload_n 1, 1) := by decide +kernel
theorem dX13_remembers_53 : decode cX13_remembers 53 = .ok (.bipush 51, 2) := by decide +kernel
theorem dX13_remembers_55 : decode cX13_remembers 55 = .ok (.if_icmp .ge 29, 3) := by decide +kernel
theorem dX13_remembers_58 : decode cX13_remembers 58 = .ok (.aload_n 0, 1) := by decide +kernel
theorem dX13_remembers_59 : decode cX13_remembers 59 = .ok (.getfield 32, 3) := by decide +kernel
theorem dX13_remembers_62 : decode cX13_remembers 62 = .ok (.bipush 51, 2) := by decide +kernel
theorem dX13_remembers_64 : decode cX13_remembers 64 = .ok (.aload_n 0, 1) := by decide +kernel
theorem dX13_remembers_65 : decode cX13_remembers 65 = .ok (.getfield 138, 3) := by decide +kernel
theorem dX13_remembers_68 : decode cX13_remembers 68 = .ok (.imul, 1) := by decide +kernel
theorem dX13_remembers_69 : decode cX13_remembers 69 = .ok (.iload_n 1, 1) := by decide +kernel
theorem dX13_remembers_70 : decode cX13_remembers 70 = .ok (.iadd, 1) := by decide +kernel
theorem dX13_remembers_71 : decode cX13_remembers 71 = .ok (.aload_n 0, 1) := by decide +kernel
theorem dX13_remembers_72 : decode cX13_remembers 72 = .ok (.getfield 29, 3) := by decide +kernel
theorem dX13_remembers_75 : decode cX13_remembers 75 = .ok (.iload_n 1, 1) := by decide +kernel
theorem dX13_remembers_76 : decode cX13_remembers 76 = .ok (.iaload, 1) := by decide +kernel
theorem dX13_remembers_77 : decode cX13_remembers 77 = .ok (.iastore, 1) := by decide +kernel
theorem dX13_remembers_78 : decode cX13_remembers 78 = .ok (.iinc 1 1, 3) := by decide +kernel
theorem dX13_remembers_81 : decode cX13_remembers 81 = .ok (.goto (-29), 3) := by decide +kernel
theorem dX13_remembers_84 : decode cX13_remembers 84 = .ok (.aload_n 0, 1) := by decide +kernel
theorem dX13_remembers_85 : decode cX13_remembers 85 = .ok (.dup, 1) := by decide +kernel
theorem dX13_remembers_86 : decode cX13_remembers 86 = .ok (.getfield 138, 3) := by decide +kernel
theorem dX13_remembers_89 : decode cX13_remembers 89 = .ok (.iconst 1, 1) := by decide +kernel
theorem dX13_remembers_90 : decode cX13_remembers 90 = .ok (.iadd, 1) := by decide +kernel
theorem dX13_remembers_91 : decode cX13_remembers 91 = .ok (.putfield 138, 3) := by decide +kernel
theorem dX13_remembers_94 : decode cX13_remembers 94 = .ok (.return_, 1) := by decide +kernel
def F_X13_remembers_L52 (rec : Nat → Int32 → AH → Option (AH)) (v0 : Nat) (v1 : Int32) (h : AH) : Option (AH) := if (51 : Int32) ≤ v1 then (some (h)) else ((gr h 12 v0 12).bind fun r2 => (gi h 12 v0 13).bind fun x3 => (gr h 12 v0 11).bind fun r4 => (ai h 0 r4 v1).bind fun x5 => (aw h 0 r2 (((51 : Int32) * x3) + v1) x5).bind fun h6 => rec v0 (v1 + 1) h6)
def f_X13_remembers_L52 : Nat → Nat → Int32 → AH → Option (AH)
  | 0 => fun _ _ _ => none
  | n + 1 => F_X13_remembers_L52 (f_X13_remembers_L52 n)
set_option maxRecDepth 100000 in
set_option maxHeartbeats 4000000 in
theorem lx_X13_remembers_L52 (X : SX) (d : Nat) : ∀ n (rv : Option Int32) (h' : AH), ∀ (v0 : Nat) (v1 : Int32) (h : AH)  (h1 : AH), f_X13_remembers_L52 n v0 v1 h = some (h1) → G X mX13_remembers d 84 [(0, .ref v0)] [] h1 rv h' → G X mX13_remembers d 52 [(0, .ref v0), (1, .int v1)] [] h rv h' := by
  intro n
  induction n with
  | zero =>
    intro rv h' v0 v1 h h1 hf hE
    cases hf
  | succ n ihf =>
    intro rv h' v0 v1 h h1 hf hE
    replace hf : F_X13_remembers_L52 (f_X13_remembers_L52 n) v0 v1 h = some (h1) := hf
    unfold F_X13_remembers_L52 at hf
    have ih := ihf rv h'
    refine G.iload_n dX13_remembers_52 rfl ?_
    refine G.bipush (v := (51 : Int32)) dX13_remembers_53 (by decide) ?_
    refine G.icmp_ge 84 dX13_remembers_55 (by decide) (fun c1 => ?_) (fun c1 => ?_)
    · rw [if_pos c1] at hf
      have w0 := Option.some.inj hf
      subst w0
      exact G.pick [0] rfl hE
    · rw [if_neg c1] at hf
      refine G.aload_n dX13_remembers_58 rfl ?_
      refine G.getr flX13_32 dX13_remembers_59 hf (fun r2 hf => ?_)
      refine G.bipush (v := (51 : Int32)) dX13_remembers_62 (by decide) ?_
      refine G.aload_n dX13_remembers_64 rfl ?_
      refine G.geti flX13_138 dX13_remembers_65 hf (fun x3 hf => ?_)
      refine G.imul dX13_remembers_68 ?_
      refine G.iload_n dX13_remembers_69 rfl ?_
      refine G.iadd dX13_remembers_70 ?_
      refine G.aload_n dX13_remembers_71 rfl ?_
      refine G.getr flX13_29 dX13_remembers_72 hf (fun r4 hf => ?_)
      refine G.iload_n dX13_remembers_75 rfl ?_
      refine G.iald dX13_remembers_76 hf (fun x5 hf => ?_)
      refine G.iast dX13_remembers_77 hf (fun h6 hf => ?_)
      refine G.iinc (v := (v1 + 1)) (lv' := [(1, .int (v1 + 1)), (0, .ref v0)]) dX13_remembers_78 rfl rfl (by decide) rfl ?_
      refine G.goto 52 dX13_remembers_81 (by decide) ?_
      exact G.pick [1, 0] rfl (ih v0 (v1 + 1) h6 _ hf hE)
theorem l_X13_remembers_L52 (X : SX) (d : Nat) (rv : Option Int32) (h' : AH) (n : Nat) : ∀ (v0 : Nat) (v1 : Int32) (h : AH)  (h1 : AH), f_X13_remembers_L52 n v0 v1 h = some (h1) → G X mX13_remembers d 84 [(0, .ref v0)] [] h1 rv h' → G X mX13_remembers d 52 [(0, .ref v0), (1, .int v1)] [] h rv h' := lx_X13_remembers_L52 X d n rv h'
def f_X13_remembers_50 (v0 : Nat) (h : AH) : Option (AH) := (f_X13_remembers_L52 1000000 v0 (0 : Int32) h).bind fun h1 => (gi h1 12 v0 13).bind fun x3 => (pf h1 12 v0 13 (.int (x3 + (1 : Int32)))).bind fun h4 => some h4
set_option maxRecDepth 100000 in
set_option maxHeartbeats 4000000 in
theorem j_X13_remembers_50 (X : SX) (d : Nat) (v0 : Nat) (h : AH) (h' : AH) (hf : f_X13_remembers_50 v0 h = some h') : G X mX13_remembers d 50 [(0, .ref v0)] [] h none h' := by
  unfold f_X13_remembers_50 at hf
  refine G.iconst (v := (0 : Int32)) dX13_remembers_50 (by decide) ?_
  refine G.istore_n (lv' := [(1, .int (0 : Int32)), (0, .ref v0)]) dX13_remembers_51 (by decide) rfl ?_
  obtain ⟨h1, e2, hf⟩ := Option.bind_eq_some_iff.mp hf
  refine G.pick [1, 0] rfl (l_X13_remembers_L52 X d _ _ 1000000 v0 (0 : Int32) h h1 e2 ?_)
  refine G.aload_n dX13_remembers_84 rfl ?_
  refine G.dup dX13_remembers_85 rfl ?_
  refine G.geti flX13_138 dX13_remembers_86 hf (fun x3 hf => ?_)
  refine G.iconst (v := (1 : Int32)) dX13_remembers_89 (by decide) ?_
  refine G.iadd dX13_remembers_90 ?_
  refine G.put flX13_138 (Or.inl rfl) (fun _ _ => ⟨rfl, rfl⟩) dX13_remembers_91 hf (fun h4 hf => ?_)
  have hq := Option.some.inj hf
  subst hq
  exact G.vret rfl dX13_remembers_94
def F_X13_remembers_L12 (rec : Nat → Int32 → AH → Option (AH)) (v0 : Nat) (v1 : Int32) (h : AH) : Option (AH) := if (1530 : Int32) ≤ v1 then (some (h)) else ((gr h 12 v0 12).bind fun r2 => (gr h 12 v0 12).bind fun r3 => (ai h 0 r3 v1).bind fun x4 => (aw h 0 r2 (v1 - (51 : Int32)) x4).bind fun h5 => rec v0 (v1 + 1) h5)
def f_X13_remembers_L12 : Nat → Nat → Int32 → AH → Option (AH)
  | 0 => fun _ _ _ => none
  | n + 1 => F_X13_remembers_L12 (f_X13_remembers_L12 n)
set_option maxRecDepth 100000 in
set_option maxHeartbeats 4000000 in
theorem lx_X13_remembers_L12 (X : SX) (d : Nat) : ∀ n (rv : Option Int32) (h' : AH), ∀ (v0 : Nat) (v1 : Int32) (h : AH)  (h1 : AH), f_X13_remembers_L12 n v0 v1 h = some (h1) → G X mX13_remembers d 40 [(0, .ref v0)] [] h1 rv h' → G X mX13_remembers d 12 [(0, .ref v0), (1, .int v1)] [] h rv h' := by
  intro n
  induction n with
  | zero =>
    intro rv h' v0 v1 h h1 hf hE
    cases hf
  | succ n ihf =>
    intro rv h' v0 v1 h h1 hf hE
    replace hf : F_X13_remembers_L12 (f_X13_remembers_L12 n) v0 v1 h = some (h1) := hf
    unfold F_X13_remembers_L12 at hf
    have ih := ihf rv h'
    refine G.iload_n dX13_remembers_12 rfl ?_
    refine G.sipush (v := (1530 : Int32)) dX13_remembers_13 (by decide) ?_
    refine G.icmp_ge 40 dX13_remembers_16 (by decide) (fun c1 => ?_) (fun c1 => ?_)
    · rw [if_pos c1] at hf
      have w0 := Option.some.inj hf
      subst w0
      exact G.pick [0] rfl hE
    · rw [if_neg c1] at hf
      refine G.aload_n dX13_remembers_19 rfl ?_
      refine G.getr flX13_32 dX13_remembers_20 hf (fun r2 hf => ?_)
      refine G.iload_n dX13_remembers_23 rfl ?_
      refine G.bipush (v := (51 : Int32)) dX13_remembers_24 (by decide) ?_
      refine G.isub dX13_remembers_26 ?_
      refine G.aload_n dX13_remembers_27 rfl ?_
      refine G.getr flX13_32 dX13_remembers_28 hf (fun r3 hf => ?_)
      refine G.iload_n dX13_remembers_31 rfl ?_
      refine G.iald dX13_remembers_32 hf (fun x4 hf => ?_)
      refine G.iast dX13_remembers_33 hf (fun h5 hf => ?_)
      refine G.iinc (v := (v1 + 1)) (lv' := [(1, .int (v1 + 1)), (0, .ref v0)]) dX13_remembers_34 rfl rfl (by decide) rfl ?_
      refine G.goto 12 dX13_remembers_37 (by decide) ?_
      exact G.pick [1, 0] rfl (ih v0 (v1 + 1) h5 _ hf hE)
theorem l_X13_remembers_L12 (X : SX) (d : Nat) (rv : Option Int32) (h' : AH) (n : Nat) : ∀ (v0 : Nat) (v1 : Int32) (h : AH)  (h1 : AH), f_X13_remembers_L12 n v0 v1 h = some (h1) → G X mX13_remembers d 40 [(0, .ref v0)] [] h1 rv h' → G X mX13_remembers d 12 [(0, .ref v0), (1, .int v1)] [] h rv h' := lx_X13_remembers_L12 X d n rv h'
def f_X13_remembers (a0 : Nat) (h : AH) : Option (AH) := if isO h 12 a0 = true then ((gi h 12 a0 13).bind fun x1 => if x1 = (30 : Int32) then ((f_X13_remembers_L12 1000000 a0 (51 : Int32) h).bind fun h3 => (gi h3 12 a0 13).bind fun x5 => (pf h3 12 a0 13 (.int (x5 - (1 : Int32)))).bind fun h6 => f_X13_remembers_50 a0 h6) else (f_X13_remembers_50 a0 h)) else none
set_option maxRecDepth 100000 in
set_option maxHeartbeats 4000000 in
theorem c_X13_remembers (X : SX) (d : Nat) (a0 : Nat) (h : AH) (h' : AH) (hf : f_X13_remembers a0 h = some h') : isO h 12 a0 = true ∧ G X mX13_remembers d 0 [(0, .ref a0)] [] h none h' := by
  unfold f_X13_remembers at hf
  by_cases ho : isO h 12 a0 = true
  · rw [if_pos ho] at hf
    refine ⟨ho, ?_⟩
    refine G.aload_n dX13_remembers_0 rfl ?_
    refine G.geti flX13_138 dX13_remembers_1 hf (fun x1 hf => ?_)
    refine G.bipush (v := (30 : Int32)) dX13_remembers_4 (by decide) ?_
    refine G.icmp_ne 50 dX13_remembers_6 (by decide) (fun c2 => ?_) (fun c2 => ?_)
    · rw [if_neg c2] at hf
      exact G.pick [0] rfl (j_X13_remembers_50 X d a0 h _ hf)
    · rw [if_pos c2] at hf
      refine G.bipush (v := (51 : Int32)) dX13_remembers_9 (by decide) ?_
      refine G.istore_n (lv' := [(1, .int (51 : Int32)), (0, .ref a0)]) dX13_remembers_11 (by decide) rfl ?_
      obtain ⟨h3, e4, hf⟩ := Option.bind_eq_some_iff.mp hf
      refine G.pick [1, 0] rfl (l_X13_remembers_L12 X d _ _ 1000000 a0 (51 : Int32) h h3 e4 ?_)
      refine G.aload_n dX13_remembers_40 rfl ?_
      refine G.dup dX13_remembers_41 rfl ?_
      refine G.geti flX13_138 dX13_remembers_42 hf (fun x5 hf => ?_)
      refine G.iconst (v := (1 : Int32)) dX13_remembers_45 (by decide) ?_
      refine G.isub dX13_remembers_46 ?_
      refine G.put flX13_138 (Or.inl rfl) (fun _ _ => ⟨rfl, rfl⟩) dX13_remembers_47 hf (fun h6 hf => ?_)
      exact G.pick [0] rfl (j_X13_remembers_50 X d a0 h6 _ hf)
  · rw [if_neg ho] at hf
    cases hf
/-! X13_go -/
theorem dX13_go_0 : decode cX13_go 0 = .ok (.aload_n 0, 1) := by decide +kernel
theorem dX13_go_1 : decode cX13_go 1 = .ok (.iload_n 1, 1) := by decide +kernel
theorem dX13_go_2 : decode cX13_go 2 = .ok (.invokevirtual 176, 3) := by decide +kernel
theorem dX13_go_5 : decode cX13_go 5 = .ok (.ifCond .ne 6, 3) := by decide +kernel
theorem dX13_go_8 : decode cX13_go 8 = .ok (.ldc 180, 2) := by decide +kernel
theorem dX13_go_10 : decode cX13_go 10 = .ok (.ireturn, 1) := by decide +kernel
theorem dX13_go_11 : decode cX13_go 11 = .ok (.iload_n 2, 1) := by decide +kernel
theorem dX13_go_12 : decode cX13_go 12 = .ok (.ifCond .lt 11, 3) := by decide +kernel
theorem dX13_go_15 : decode cX13_go 15 = .ok (.iload_n 2, 1) := by decide +kernel
theorem dX13_go_16 : decode cX13_go 16 = .ok (.aload_n 0, 1) := by decide +kernel
theorem dX13_go_17 : decode cX13_go 17 = .ok (.getfield 126, 3) := by decide +kernel
theorem dX13_go_20 : decode cX13_go 20 = .ok (.if_icmp .lt 6, 3) := by decide +kernel
theorem dX13_go_23 : decode cX13_go 23 = .ok (.ldc 81, 2) := by decide +kernel
theorem dX13_go_25 : decode cX13_go 25 = .ok (.ireturn, 1) := by decide +kernel
theorem dX13_go_26 : decode cX13_go 26 = .ok (.aload_n 0, 1) := by decide +kernel
theorem dX13_go_27 : decode cX13_go 27 = .ok (.aload_n 0, 1) := by decide +kernel
theorem dX13_go_28 : decode cX13_go 28 = .ok (.getfield 29, 3) := by decide +kernel
theorem dX13_go_31 : decode cX13_go 31 = .ok (.bipush 12, 2) := by decide +kernel
theorem dX13_go_33 : decode cX13_go 33 = .ok (.iload_n 1, 1) := by decide +kernel
theorem dX13_go_34 : decode cX13_go 34 = .ok (.iadd, 1) := by decide +kernel
theorem dX13_go_35 : decode cX13_go 35 = .ok (.iaload, 1) := by decide +kernel
theorem dX13_go_36 : decode cX13_go 36 = .ok (.iload_n 2, 1) := by decide +kernel
theorem dX13_go_37 : decode cX13_go 37 = .ok (.invokevirtual 148, 3) := by decide +kernel
theorem dX13_go_40 : decode cX13_go 40 = .ok (.istore_n 3, 1) := by decide +kernel
theorem dX13_go_41 : decode cX13_go 41 = .ok (.iload_n 3, 1) := by decide +kernel
theorem dX13_go_42 : decode cX13_go 42 = .ok (.ifCond .eq 16, 3) := by decide +kernel
theorem dX13_go_45 : decode cX13_go 45 = .ok (.iload_n 3, 1) := by decide +kernel
theorem dX13_go_46 : decode cX13_go 46 = .ok (.aload_n 0, 1) := by decide +kernel
theorem dX13_go_47 : decode cX13_go 47 = .ok (.getfield 29, 3) := by decide +kernel
theorem dX13_go_50 : decode cX13_go 50 = .ok (.bipush 18, 2) := by decide +kernel
theorem dX13_go_52 : decode cX13_go 52 = .ok (.iload_n 1, 1) := by decide +kernel
theorem dX13_go_53 : decode cX13_go 53 = .ok (.iadd, 1) := by decide +kernel
theorem dX13_go_54 : decode cX13_go 54 = .ok (.iaload, 1) := by decide +kernel
theorem dX13_go_55 : decode cX13_go 55 = .ok (.if_icmp .le 6, 3) := by decide +kernel
theorem dX13_go_58 : decode cX13_go 58 = .ok (.ldc 184, 2) := by decide +kernel
theorem dX13_go_60 : decode cX13_go 60 = .ok (.ireturn, 1) := by decide +kernel
theorem dX13_go_61 : decode cX13_go 61 = .ok (.aload_n 0, 1) := by decide +kernel
theorem dX13_go_62 : decode cX13_go 62 = .ok (.invokevirtual 185, 3) := by decide +kernel
theorem dX13_go_65 : decode cX13_go 65 = .ok (.aload_n 0, 1) := by decide +kernel
theorem dX13_go_66 : decode cX13_go 66 = .ok (.getfield 29, 3) := by decide +kernel
theorem dX13_go_69 : decode cX13_go 69 = .ok (.bipush 18, 2) := by decide +kernel
theorem dX13_go_71 : decode cX13_go 71 = .ok (.iload_n 1, 1) := by decide +kernel
theorem dX13_go_72 : decode cX13_go 72 = .ok (.iadd, 1) := by decide +kernel
theorem dX13_go_73 : decode cX13_go 73 = .ok (.dup2, 1) := by decide +kernel
theorem dX13_go_74 : decode cX13_go 74 = .ok (.iaload, 1) := by decide +kernel
theorem dX13_go_75 : decode cX13_go 75 = .ok (.iload_n 3, 1) := by decide +kernel
theorem dX13_go_76 : decode cX13_go 76 = .ok (.isub, 1) := by decide +kernel
theorem dX13_go_77 : decode cX13_go 77 = .ok (.iastore, 1) := by decide +kernel
theorem dX13_go_78 : decode cX13_go 78 = .ok (.aload_n 0, 1) := by decide +kernel
theorem dX13_go_79 : decode cX13_go 79 = .ok (.getfield 29, 3) := by decide +kernel
theorem dX13_go_82 : decode cX13_go 82 = .ok (.bipush 12, 2) := by decide +kernel
theorem dX13_go_84 : decode cX13_go 84 = .ok (.iload_n 1, 1) := by decide +kernel
theorem dX13_go_85 : decode cX13_go 85 = .ok (.iadd, 1) := by decide +kernel
theorem dX13_go_86 : decode cX13_go 86 = .ok (.iload_n 2, 1) := by decide +kernel
theorem dX13_go_87 : decode cX13_go 87 = .ok (.iastore, 1) := by decide +kernel
theorem dX13_go_88 : decode cX13_go 88 = .ok (.aload_n 0, 1) := by decide +kernel
theorem dX13_go_89 : decode cX13_go 89 = .ok (.getfield 29, 3) := by decide +kernel
theorem dX13_go_92 : decode cX13_go 92 = .ok (.bipush 18, 2) := by decide +kernel
theorem dX13_go_94 : decode cX13_go 94 = .ok (.iload_n 1, 1) := by decide +kernel
theorem dX13_go_95 : decode cX13_go 95 = .ok (.iadd, 1) := by decide +kernel
theorem dX13_go_96 : decode cX13_go 96 = .ok (.iaload, 1) := by decide +kernel
theorem dX13_go_97 : decode cX13_go 97 = .ok (.ireturn, 1) := by decide +kernel
def f_X13_go (a0 : Nat) (a1 : Int32) (a2 : Int32) (h : AH) : Option (Int32 × AH) := if isO h 12 a0 = true then (bT1 (f_X13_isSinger a0 a1 h) fun x3 h1 => if x3 = 0 then (some ((-1000000001 : Int32), h1)) else (if a2 < 0 then (some ((-1000000002 : Int32), h1)) else ((gi h1 12 a0 3).bind fun x6 => if a2 < x6 then ((gr h1 12 a0 11).bind fun r8 => (ai h1 0 r8 ((12 : Int32) + a1)).bind fun x9 => bT1 (f_X13_apart a0 x9 a2 h1) fun x12 h10 => if x12 = 0 then (some ((-1000000003 : Int32), h10)) else ((gr h10 12 a0 11).bind fun r14 => (ai h10 0 r14 ((18 : Int32) + a1)).bind fun x15 => if x12 ≤ x15 then ((f_X13_remembers a0 h10).bind fun h17 => (gr h17 12 a0 11).bind fun r19 => (ai h17 0 r19 ((18 : Int32) + a1)).bind fun x20 => (aw h17 0 r19 ((18 : Int32) + a1) (x20 - x12)).bind fun h21 => (gr h21 12 a0 11).bind fun r22 => (aw h21 0 r22 ((12 : Int32) + a1) a2).bind fun h23 => (gr h23 12 a0 11).bind fun r24 => (ai h23 0 r24 ((18 : Int32) + a1)).bind fun x25 => some (x25, h23)) else (some ((-1000000003 : Int32), h10)))) else (some ((-1000000002 : Int32), h1))))) else none
set_option maxRecDepth 100000 in
set_option maxHeartbeats 4000000 in
theorem c_X13_go (X : SX) (d : Nat) (a0 : Nat) (a1 : Int32) (a2 : Int32) (h : AH) (rr : Int32) (h' : AH) (hf : f_X13_go a0 a1 a2 h = some (rr, h')) : isO h 12 a0 = true ∧ G X mX13_go (d + 1) 0 [(0, .ref a0), (1, .int a1), (2, .int a2)] [] h (some rr) h' := by
  unfold f_X13_go at hf
  by_cases ho : isO h 12 a0 = true
  · rw [if_pos ho] at hf
    refine ⟨ho, ?_⟩
    refine G.aload_n dX13_go_0 rfl ?_
    refine G.iload_n dX13_go_1 rfl ?_
    obtain ⟨x3, h1, e2, hf⟩ := bT1_spec hf
    refine G.callVi (M' := mX13_isSinger) (ci := 12) (As := [.int a1]) (st := []) okX13_isSinger viX13_isSinger lkX13_176 rfl rfl rfl (Nat.le_of_ble_eq_true rfl) (Nat.le_of_ble_eq_true rfl) dX13_go_2 (c_X13_isSinger X d _ _ _ _ _ e2).1 (c_X13_isSinger X d _ _ _ _ _ e2).2 ?_
    refine G.if_ne 11 dX13_go_5 (by decide) (fun c4 => ?_) (fun c4 => ?_)
    · rw [if_neg c4] at hf
      refine G.iload_n dX13_go_11 rfl ?_
      refine G.if_lt 23 dX13_go_12 (by decide) (fun c5 => ?_) (fun c5 => ?_)
      · rw [if_pos c5] at hf
        refine G.ldc ckX13_81 dX13_go_23 ?_
        obtain ⟨hq1, hq2⟩ := Prod.mk.inj (Option.some.inj hf)
        subst hq1
        subst hq2
        exact G.iret rfl rfl dX13_go_25
      · rw [if_neg c5] at hf
        refine G.iload_n dX13_go_15 rfl ?_
        refine G.aload_n dX13_go_16 rfl ?_
        refine G.geti flX13_126 dX13_go_17 hf (fun x6 hf => ?_)
        refine G.icmp_lt 26 dX13_go_20 (by decide) (fun c7 => ?_) (fun c7 => ?_)
        · rw [if_pos c7] at hf
          refine G.aload_n dX13_go_26 rfl ?_
          refine G.aload_n dX13_go_27 rfl ?_
          refine G.getr flX13_29 dX13_go_28 hf (fun r8 hf => ?_)
          refine G.bipush (v := (12 : Int32)) dX13_go_31 (by decide) ?_
          refine G.iload_n dX13_go_33 rfl ?_
          refine G.iadd dX13_go_34 ?_
          refine G.iald dX13_go_35 hf (fun x9 hf => ?_)
          refine G.iload_n dX13_go_36 rfl ?_
          obtain ⟨x12, h10, e11, hf⟩ := bT1_spec hf
          refine G.callVi (M' := mX13_apart) (ci := 12) (As := [.int x9, .int a2]) (st := []) okX13_apart viX13_apart lkX13_148 rfl rfl rfl (Nat.le_of_ble_eq_true rfl) (Nat.le_of_ble_eq_true rfl) dX13_go_37 (c_X13_apart X d _ _ _ _ _ _ e11).1 (c_X13_apart X d _ _ _ _ _ _ e11).2 ?_
          refine G.istore_n (lv' := [(3, .int x12), (0, .ref a0), (1, .int a1), (2, .int a2)]) dX13_go_40 (by decide) rfl ?_
          refine G.iload_n dX13_go_41 rfl ?_
          refine G.if_eq 58 dX13_go_42 (by decide) (fun c13 => ?_) (fun c13 => ?_)
          · rw [if_pos c13] at hf
            refine G.ldc ckX13_184 dX13_go_58 ?_
            obtain ⟨hq1, hq2⟩ := Prod.mk.inj (Option.some.inj hf)
            subst hq1
            subst hq2
            exact G.iret rfl rfl dX13_go_60
          · rw [if_neg c13] at hf
            refine G.iload_n dX13_go_45 rfl ?_
            refine G.aload_n dX13_go_46 rfl ?_
            refine G.getr flX13_29 dX13_go_47 hf (fun r14 hf => ?_)
            refine G.bipush (v := (18 : Int32)) dX13_go_50 (by decide) ?_
            refine G.iload_n dX13_go_52 rfl ?_
            refine G.iadd dX13_go_53 ?_
            refine G.iald dX13_go_54 hf (fun x15 hf => ?_)
            refine G.icmp_le 61 dX13_go_55 (by decide) (fun c16 => ?_) (fun c16 => ?_)
            · rw [if_pos c16] at hf
              refine G.aload_n dX13_go_61 rfl ?_
              obtain ⟨h17, e18, hf⟩ := Option.bind_eq_some_iff.mp hf
              refine G.callVv (M' := mX13_remembers) (ci := 12) (As := []) (st := []) okX13_remembers viX13_remembers lkX13_185 rfl rfl rfl (Nat.le_of_ble_eq_true rfl) (Nat.le_of_ble_eq_true rfl) dX13_go_62 (c_X13_remembers X d _ _ _ e18).1 (c_X13_remembers X d _ _ _ e18).2 ?_
              refine G.aload_n dX13_go_65 rfl ?_
              refine G.getr flX13_29 dX13_go_66 hf (fun r19 hf => ?_)
              refine G.bipush (v := (18 : Int32)) dX13_go_69 (by decide) ?_
              refine G.iload_n dX13_go_71 rfl ?_
              refine G.iadd dX13_go_72 ?_
              refine G.dup2 dX13_go_73 rfl rfl ?_
              refine G.iald dX13_go_74 hf (fun x20 hf => ?_)
              refine G.iload_n dX13_go_75 rfl ?_
              refine G.isub dX13_go_76 ?_
              refine G.iast dX13_go_77 hf (fun h21 hf => ?_)
              refine G.aload_n dX13_go_78 rfl ?_
              refine G.getr flX13_29 dX13_go_79 hf (fun r22 hf => ?_)
              refine G.bipush (v := (12 : Int32)) dX13_go_82 (by decide) ?_
              refine G.iload_n dX13_go_84 rfl ?_
              refine G.iadd dX13_go_85 ?_
              refine G.iload_n dX13_go_86 rfl ?_
              refine G.iast dX13_go_87 hf (fun h23 hf => ?_)
              refine G.aload_n dX13_go_88 rfl ?_
              refine G.getr flX13_29 dX13_go_89 hf (fun r24 hf => ?_)
              refine G.bipush (v := (18 : Int32)) dX13_go_92 (by decide) ?_
              refine G.iload_n dX13_go_94 rfl ?_
              refine G.iadd dX13_go_95 ?_
              refine G.iald dX13_go_96 hf (fun x25 hf => ?_)
              obtain ⟨hq1, hq2⟩ := Prod.mk.inj (Option.some.inj hf)
              subst hq1
              subst hq2
              exact G.iret rfl rfl dX13_go_97
            · rw [if_neg c16] at hf
              refine G.ldc ckX13_184 dX13_go_58 ?_
              obtain ⟨hq1, hq2⟩ := Prod.mk.inj (Option.some.inj hf)
              subst hq1
              subst hq2
              exact G.iret rfl rfl dX13_go_60
        · rw [if_neg c7] at hf
          refine G.ldc ckX13_81 dX13_go_23 ?_
          obtain ⟨hq1, hq2⟩ := Prod.mk.inj (Option.some.inj hf)
          subst hq1
          subst hq2
          exact G.iret rfl rfl dX13_go_25
    · rw [if_pos c4] at hf
      refine G.ldc ckX13_180 dX13_go_8 ?_
      obtain ⟨hq1, hq2⟩ := Prod.mk.inj (Option.some.inj hf)
      subst hq1
      subst hq2
      exact G.iret rfl rfl dX13_go_10
  · rw [if_neg ho] at hf
    cases hf
/-! X3_hasBoth -/
theorem dX3_hasBoth_0 : decode cX3_hasBoth 0 = .ok (.aload_n 0, 1) := by decide +kernel
theorem dX3_hasBoth_1 : decode cX3_hasBoth 1 = .ok (.iload_n 1, 1) := by decide +kernel
theorem dX3_hasBoth_2 : decode cX3_hasBoth 2 = .ok (.invokevirtual 62, 3) := by decide +kernel
theorem dX3_hasBoth_5 : decode cX3_hasBoth 5 = .ok (.ifCond .eq 15, 3) := by decide +kernel
theorem dX3_hasBoth_8 : decode cX3_hasBoth 8 = .ok (.aload_n 0, 1) := by decide +kernel
theorem dX3_hasBoth_9 : decode cX3_hasBoth 9 = .ok (.iload_n 2, 1) := by decide +kernel
theorem dX3_hasBoth_10 : decode cX3_hasBoth 10 = .ok (.invokevirtual 66, 3) := by decide +kernel
theorem dX3_hasBoth_13 : decode cX3_hasBoth 13 = .ok (.ifCond .eq 7, 3) := by decide +kernel
theorem dX3_hasBoth_16 : decode cX3_hasBoth 16 = .ok (.iconst 1, 1) := by decide +kernel
theorem dX3_hasBoth_17 : decode cX3_hasBoth 17 = .ok (.goto 4, 3) := by decide +kernel
theorem dX3_hasBoth_20 : decode cX3_hasBoth 20 = .ok (.iconst 0, 1) := by decide +kernel
theorem dX3_hasBoth_21 : decode cX3_hasBoth 21 = .ok (.ireturn, 1) := by decide +kernel
def f_X3_hasBoth (a0 : Nat) (a1 : Int32) (a2 : Int32) (h : AH) : Option (Int32 × AH) := if isO h 3 a0 = true then (bT1 (f_X3_hasSinger a0 a1 h) fun x3 h1 => if x3 = 0 then (some ((0 : Int32), h1)) else (bT1 (f_X3_hasChild a0 a2 h1) fun x7 h5 => if x7 = 0 then (some ((0 : Int32), h5)) else (some ((1 : Int32), h5)))) else none
set_option maxRecDepth 100000 in
set_option maxHeartbeats 4000000 in
theorem c_X3_hasBoth (X : SX) (d : Nat) (a0 : Nat) (a1 : Int32) (a2 : Int32) (h : AH) (rr : Int32) (h' : AH) (hf : f_X3_hasBoth a0 a1 a2 h = some (rr, h')) : isO h 3 a0 = true ∧ G X mX3_hasBoth (d + 1) 0 [(0, .ref a0), (1, .int a1), (2, .int a2)] [] h (some rr) h' := by
  unfold f_X3_hasBoth at hf
  by_cases ho : isO h 3 a0 = true
  · rw [if_pos ho] at hf
    refine ⟨ho, ?_⟩
    refine G.aload_n dX3_hasBoth_0 rfl ?_
    refine G.iload_n dX3_hasBoth_1 rfl ?_
    obtain ⟨x3, h1, e2, hf⟩ := bT1_spec hf
    refine G.callVi (M' := mX3_hasSinger) (ci := 3) (As := [.int a1]) (st := []) okX3_hasSinger viX3_hasSinger lkX3_62 rfl rfl rfl (Nat.le_of_ble_eq_true rfl) (Nat.le_of_ble_eq_true rfl) dX3_hasBoth_2 (c_X3_hasSinger X d _ _ _ _ _ e2).1 (c_X3_hasSinger X d _ _ _ _ _ e2).2 ?_
    refine G.if_eq 20 dX3_hasBoth_5 (by decide) (fun c4 => ?_) (fun c4 => ?_)
    · rw [if_pos c4] at hf
      refine G.iconst (v := (0 : Int32)) dX3_hasBoth_20 (by decide) ?_
      obtain ⟨hq1, hq2⟩ := Prod.mk.inj (Option.some.inj hf)
      subst hq1
      subst hq2
      exact G.iret rfl (by decide) dX3_hasBoth_21
    · rw [if_neg c4] at hf
      refine G.aload_n dX3_hasBoth_8 rfl ?_
      refine G.iload_n dX3_hasBoth_9 rfl ?_
      obtain ⟨x7, h5, e6, hf⟩ := bT1_spec hf
      refine G.callVi (M' := mX3_hasChild) (ci := 3) (As := [.int a2]) (st := []) okX3_hasChild viX3_hasChild lkX3_66 rfl rfl rfl (Nat.le_of_ble_eq_true rfl) (Nat.le_of_ble_eq_true rfl) dX3_hasBoth_10 (c_X3_hasChild X d _ _ _ _ _ e6).1 (c_X3_hasChild X d _ _ _ _ _ e6).2 ?_
      refine G.if_eq 20 dX3_hasBoth_13 (by decide) (fun c8 => ?_) (fun c8 => ?_)
      · rw [if_pos c8] at hf
        refine G.iconst (v := (0 : Int32)) dX3_hasBoth_20 (by decide) ?_
        obtain ⟨hq1, hq2⟩ := Prod.mk.inj (Option.some.inj hf)
        subst hq1
        subst hq2
        exact G.iret rfl (by decide) dX3_hasBoth_21
      · rw [if_neg c8] at hf
        refine G.iconst (v := (1 : Int32)) dX3_hasBoth_16 (by decide) ?_
        refine G.goto 21 dX3_hasBoth_17 (by decide) ?_
        obtain ⟨hq1, hq2⟩ := Prod.mk.inj (Option.some.inj hf)
        subst hq1
        subst hq2
        exact G.iret rfl (by decide) dX3_hasBoth_21
  · rw [if_neg ho] at hf
    cases hf
/-! X3_mayLull -/
theorem dX3_mayLull_0 : decode cX3_mayLull 0 = .ok (.aload_n 0, 1) := by decide +kernel
theorem dX3_mayLull_1 : decode cX3_mayLull 1 = .ok (.iload_n 2, 1) := by decide +kernel
theorem dX3_mayLull_2 : decode cX3_mayLull 2 = .ok (.invokevirtual 72, 3) := by decide +kernel
theorem dX3_mayLull_5 : decode cX3_mayLull 5 = .ok (.ifCond .eq 52, 3) := by decide +kernel
theorem dX3_mayLull_8 : decode cX3_mayLull 8 = .ok (.aload_n 0, 1) := by decide +kernel
theorem dX3_mayLull_9 : decode cX3_mayLull 9 = .ok (.getfield 12, 3) := by decide +kernel
theorem dX3_mayLull_12 : decode cX3_mayLull 12 = .ok (.getfield 52, 3) := by decide +kernel
theorem dX3_mayLull_15 : decode cX3_mayLull 15 = .ok (.iload_n 2, 1) := by decide +kernel
theorem dX3_mayLull_16 : decode cX3_mayLull 16 = .ok (.iaload, 1) := by decide +kernel
theorem dX3_mayLull_17 : decode cX3_mayLull 17 = .ok (.aload_n 0, 1) := by decide +kernel
theorem dX3_mayLull_18 : decode cX3_mayLull 18 = .ok (.getfield 12, 3) := by decide +kernel
theorem dX3_mayLull_21 : decode cX3_mayLull 21 = .ok (.getfield 99, 3) := by decide +kernel
theorem dX3_mayLull_24 : decode cX3_mayLull 24 = .ok (.iload_n 1, 1) := by decide +kernel
theorem dX3_mayLull_25 : decode cX3_mayLull 25 = .ok (.iaload, 1) := by decide +kernel
theorem dX3_mayLull_26 : decode cX3_mayLull 26 = .ok (.if_icmp .ne 31, 3) := by decide +kernel
theorem dX3_mayLull_29 : decode cX3_mayLull 29 = .ok (.aload_n 0, 1) := by decide +kernel
theorem dX3_mayLull_30 : decode cX3_mayLull 30 = .ok (.getfield 12, 3) := by decide +kernel
theorem dX3_mayLull_33 : decode cX3_mayLull 33 = .ok (.getfield 43, 3) := by decide +kernel
theorem dX3_mayLull_36 : decode cX3_mayLull 36 = .ok (.iload_n 1, 1) := by decide +kernel
theorem dX3_mayLull_37 : decode cX3_mayLull 37 = .ok (.iaload, 1) := by decide +kernel
theorem dX3_mayLull_38 : decode cX3_mayLull 38 = .ok (.ifCond .le 19, 3) := by decide +kernel
theorem dX3_mayLull_41 : decode cX3_mayLull 41 = .ok (.aload_n 0, 1) := by decide +kernel
theorem dX3_mayLull_42 : decode cX3_mayLull 42 = .ok (.getfield 12, 3) := by decide +kernel
theorem dX3_mayLull_45 : decode cX3_mayLull 45 = .ok (.getfield 112, 3) := by decide +kernel
theorem dX3_mayLull_48 : decode cX3_mayLull 48 = .ok (.iload_n 1, 1) := by decide +kernel
theorem dX3_mayLull_49 : decode cX3_mayLull 49 = .ok (.iaload, 1) := by decide +kernel
theorem dX3_mayLull_50 : decode cX3_mayLull 50 = .ok (.ifCond .le 7, 3) := by decide +kernel
theorem dX3_mayLull_53 : decode cX3_mayLull 53 = .ok (.iconst 1, 1) := by decide +kernel
theorem dX3_mayLull_54 : decode cX3_mayLull 54 = .ok (.goto 4, 3) := by decide +kernel
theorem dX3_mayLull_57 : decode cX3_mayLull 57 = .ok (.iconst 0, 1) := by decide +kernel
theorem dX3_mayLull_58 : decode cX3_mayLull 58 = .ok (.ireturn, 1) := by decide +kernel
def f_X3_mayLull (a0 : Nat) (a1 : Int32) (a2 : Int32) (h : AH) : Option (Int32 × AH) := if isO h 3 a0 = true then (bT1 (f_X3_isAwake a0 a2 h) fun x3 h1 => if x3 = 0 then (some ((0 : Int32), h1)) else ((gr h1 3 a0 0).bind fun r5 => (gr h1 4 r5 4).bind fun r6 => (ai h1 0 r6 a2).bind fun x7 => (gr h1 3 a0 0).bind fun r8 => (gr h1 4 r8 2).bind fun r9 => (ai h1 0 r9 a1).bind fun x10 => if x7 = x10 then ((gr h1 3 a0 0).bind fun r12 => (gr h1 4 r12 1).bind fun r13 => (ai h1 0 r13 a1).bind fun x14 => if x14 ≤ 0 then (some ((0 : Int32), h1)) else ((gr h1 3 a0 0).bind fun r16 => (gr h1 4 r16 3).bind fun r17 => (ai h1 0 r17 a1).bind fun x18 => if x18 ≤ 0 then (some ((0 : Int32), h1)) else (some ((1 : Int32), h1)))) else (some ((0 : Int32), h1)))) else none
set_option maxRecDepth 100000 in
set_option maxHeartbeats 4000000 in
theorem c_X3_mayLull (X : SX) (d : Nat) (a0 : Nat) (a1 : Int32) (a2 : Int32) (h : AH) (rr : Int32) (h' : AH) (hf : f_X3_mayLull a0 a1 a2 h = some (rr, h')) : isO h 3 a0 = true ∧ G X mX3_mayLull (d + 1) 0 [(0, .ref a0), (1, .int a1), (2, .int a2)] [] h (some rr) h' := by
  unfold f_X3_mayLull at hf
  by_cases ho : isO h 3 a0 = true
  · rw [if_pos ho] at hf
    refine ⟨ho, ?_⟩
    refine G.aload_n dX3_mayLull_0 rfl ?_
    refine G.iload_n dX3_mayLull_1 rfl ?_
    obtain ⟨x3, h1, e2, hf⟩ := bT1_spec hf
    refine G.callVi (M' := mX3_isAwake) (ci := 3) (As := [.int a2]) (st := []) okX3_isAwake viX3_isAwake lkX3_72 rfl rfl rfl (Nat.le_of_ble_eq_true rfl) (Nat.le_of_ble_eq_true rfl) dX3_mayLull_2 (c_X3_isAwake X d _ _ _ _ _ e2).1 (c_X3_isAwake X d _ _ _ _ _ e2).2 ?_
    refine G.if_eq 57 dX3_mayLull_5 (by decide) (fun c4 => ?_) (fun c4 => ?_)
    · rw [if_pos c4] at hf
      refine G.iconst (v := (0 : Int32)) dX3_mayLull_57 (by decide) ?_
      obtain ⟨hq1, hq2⟩ := Prod.mk.inj (Option.some.inj hf)
      subst hq1
      subst hq2
      exact G.iret rfl (by decide) dX3_mayLull_58
    · rw [if_neg c4] at hf
      refine G.aload_n dX3_mayLull_8 rfl ?_
      refine G.getr flX3_12 dX3_mayLull_9 hf (fun r5 hf => ?_)
      refine G.getr flX3_52 dX3_mayLull_12 hf (fun r6 hf => ?_)
      refine G.iload_n dX3_mayLull_15 rfl ?_
      refine G.iald dX3_mayLull_16 hf (fun x7 hf => ?_)
      refine G.aload_n dX3_mayLull_17 rfl ?_
      refine G.getr flX3_12 dX3_mayLull_18 hf (fun r8 hf => ?_)
      refine G.getr flX3_99 dX3_mayLull_21 hf (fun r9 hf => ?_)
      refine G.iload_n dX3_mayLull_24 rfl ?_
      refine G.iald dX3_mayLull_25 hf (fun x10 hf => ?_)
      refine G.icmp_ne 57 dX3_mayLull_26 (by decide) (fun c11 => ?_) (fun c11 => ?_)
      · rw [if_neg c11] at hf
        refine G.iconst (v := (0 : Int32)) dX3_mayLull_57 (by decide) ?_
        obtain ⟨hq1, hq2⟩ := Prod.mk.inj (Option.some.inj hf)
        subst hq1
        subst hq2
        exact G.iret rfl (by decide) dX3_mayLull_58
      · rw [if_pos c11] at hf
        refine G.aload_n dX3_mayLull_29 rfl ?_
        refine G.getr flX3_12 dX3_mayLull_30 hf (fun r12 hf => ?_)
        refine G.getr flX3_43 dX3_mayLull_33 hf (fun r13 hf => ?_)
        refine G.iload_n dX3_mayLull_36 rfl ?_
        refine G.iald dX3_mayLull_37 hf (fun x14 hf => ?_)
        refine G.if_le 57 dX3_mayLull_38 (by decide) (fun c15 => ?_) (fun c15 => ?_)
        · rw [if_pos c15] at hf
          refine G.iconst (v := (0 : Int32)) dX3_mayLull_57 (by decide) ?_
          obtain ⟨hq1, hq2⟩ := Prod.mk.inj (Option.some.inj hf)
          subst hq1
          subst hq2
          exact G.iret rfl (by decide) dX3_mayLull_58
        · rw [if_neg c15] at hf
          refine G.aload_n dX3_mayLull_41 rfl ?_
          refine G.getr flX3_12 dX3_mayLull_42 hf (fun r16 hf => ?_)
          refine G.getr flX3_112 dX3_mayLull_45 hf (fun r17 hf => ?_)
          refine G.iload_n dX3_mayLull_48 rfl ?_
          refine G.iald dX3_mayLull_49 hf (fun x18 hf => ?_)
          refine G.if_le 57 dX3_mayLull_50 (by decide) (fun c19 => ?_) (fun c19 => ?_)
          · rw [if_pos c19] at hf
            refine G.iconst (v := (0 : Int32)) dX3_mayLull_57 (by decide) ?_
            obtain ⟨hq1, hq2⟩ := Prod.mk.inj (Option.some.inj hf)
            subst hq1
            subst hq2
            exact G.iret rfl (by decide) dX3_mayLull_58
          · rw [if_neg c19] at hf
            refine G.iconst (v := (1 : Int32)) dX3_mayLull_53 (by decide) ?_
            refine G.goto 58 dX3_mayLull_54 (by decide) ?_
            obtain ⟨hq1, hq2⟩ := Prod.mk.inj (Option.some.inj hf)
            subst hq1
            subst hq2
            exact G.iret rfl (by decide) dX3_mayLull_58
  · rw [if_neg ho] at hf
    cases hf
/-! X3_lull -/
theorem dX3_lull_0 : decode cX3_lull 0 = .ok (.aload_n 0, 1) := by decide +kernel
theorem dX3_lull_1 : decode cX3_lull 1 = .ok (.iload_n 2, 1) := by decide +kernel
theorem dX3_lull_2 : decode cX3_lull 2 = .ok (.invokevirtual 109, 3) := by decide +kernel
theorem dX3_lull_5 : decode cX3_lull 5 = .ok (.istore_n 3, 1) := by decide +kernel
theorem dX3_lull_6 : decode cX3_lull 6 = .ok (.iload_n 3, 1) := by decide +kernel
theorem dX3_lull_7 : decode cX3_lull 7 = .ok (.aload_n 0, 1) := by decide +kernel
theorem dX3_lull_8 : decode cX3_lull 8 = .ok (.getfield 12, 3) := by decide +kernel
theorem dX3_lull_11 : decode cX3_lull 11 = .ok (.getfield 112, 3) := by decide +kernel
theorem dX3_lull_14 : decode cX3_lull 14 = .ok (.iload_n 1, 1) := by decide +kernel
theorem dX3_lull_15 : decode cX3_lull 15 = .ok (.iaload, 1) := by decide +kernel
theorem dX3_lull_16 : decode cX3_lull 16 = .ok (.invokestatic 122, 3) := by decide +kernel
theorem dX3_lull_19 : decode cX3_lull 19 = .ok (.istore 4, 2) := by decide +kernel
theorem dX3_lull_21 : decode cX3_lull 21 = .ok (.aload_n 0, 1) := by decide +kernel
theorem dX3_lull_22 : decode cX3_lull 22 = .ok (.getfield 12, 3) := by decide +kernel
theorem dX3_lull_25 : decode cX3_lull 25 = .ok (.getfield 43, 3) := by decide +kernel
theorem dX3_lull_28 : decode cX3_lull 28 = .ok (.iload_n 1, 1) := by decide +kernel
theorem dX3_lull_29 : decode cX3_lull 29 = .ok (.iconst 0, 1) := by decide +kernel
theorem dX3_lull_30 : decode cX3_lull 30 = .ok (.aload_n 0, 1) := by decide +kernel
theorem dX3_lull_31 : decode cX3_lull 31 = .ok (.getfield 12, 3) := by decide +kernel
theorem dX3_lull_34 : decode cX3_lull 34 = .ok (.getfield 43, 3) := by decide +kernel
theorem dX3_lull_37 : decode cX3_lull 37 = .ok (.iload_n 1, 1) := by decide +kernel
theorem dX3_lull_38 : decode cX3_lull 38 = .ok (.iaload, 1) := by decide +kernel
theorem dX3_lull_39 : decode cX3_lull 39 = .ok (.iload 4, 2) := by decide +kernel
theorem dX3_lull_41 : decode cX3_lull 41 = .ok (.aload_n 0, 1) := by decide +kernel
theorem dX3_lull_42 : decode cX3_lull 42 = .ok (.iload_n 1, 1) := by decide +kernel
theorem dX3_lull_43 : decode cX3_lull 43 = .ok (.iload_n 2, 1) := by decide +kernel
theorem dX3_lull_44 : decode cX3_lull 44 = .ok (.invokevirtual 119, 3) := by decide +kernel
theorem dX3_lull_47 : decode cX3_lull 47 = .ok (.imul, 1) := by decide +kernel
theorem dX3_lull_48 : decode cX3_lull 48 = .ok (.isub, 1) := by decide +kernel
theorem dX3_lull_49 : decode cX3_lull 49 = .ok (.invokestatic 84, 3) := by decide +kernel
theorem dX3_lull_52 : decode cX3_lull 52 = .ok (.iastore, 1) := by decide +kernel
theorem dX3_lull_53 : decode cX3_lull 53 = .ok (.aload_n 0, 1) := by decide +kernel
theorem dX3_lull_54 : decode cX3_lull 54 = .ok (.getfield 12, 3) := by decide +kernel
theorem dX3_lull_57 : decode cX3_lull 57 = .ok (.getfield 112, 3) := by decide +kernel
theorem dX3_lull_60 : decode cX3_lull 60 = .ok (.iload_n 1, 1) := by decide +kernel
theorem dX3_lull_61 : decode cX3_lull 61 = .ok (.dup2, 1) := by decide +kernel
theorem dX3_lull_62 : decode cX3_lull 62 = .ok (.iaload, 1) := by decide +kernel
theorem dX3_lull_63 : decode cX3_lull 63 = .ok (.iload 4, 2) := by decide +kernel
theorem dX3_lull_65 : decode cX3_lull 65 = .ok (.isub, 1) := by decide +kernel
theorem dX3_lull_66 : decode cX3_lull 66 = .ok (.iastore, 1) := by decide +kernel
theorem dX3_lull_67 : decode cX3_lull 67 = .ok (.aload_n 0, 1) := by decide +kernel
theorem dX3_lull_68 : decode cX3_lull 68 = .ok (.getfield 12, 3) := by decide +kernel
theorem dX3_lull_71 : decode cX3_lull 71 = .ok (.getfield 81, 3) := by decide +kernel
theorem dX3_lull_74 : decode cX3_lull 74 = .ok (.iload_n 2, 1) := by decide +kernel
theorem dX3_lull_75 : decode cX3_lull 75 = .ok (.dup2, 1) := by decide +kernel
theorem dX3_lull_76 : decode cX3_lull 76 = .ok (.iaload, 1) := by decide +kernel
theorem dX3_lull_77 : decode cX3_lull 77 = .ok (.iload 4, 2) := by decide +kernel
theorem dX3_lull_79 : decode cX3_lull 79 = .ok (.iadd, 1) := by decide +kernel
theorem dX3_lull_80 : decode cX3_lull 80 = .ok (.iastore, 1) := by decide +kernel
theorem dX3_lull_81 : decode cX3_lull 81 = .ok (.iload 4, 2) := by decide +kernel
theorem dX3_lull_83 : decode cX3_lull 83 = .ok (.iload_n 3, 1) := by decide +kernel
theorem dX3_lull_84 : decode cX3_lull 84 = .ok (.if_icmp .ne 48, 3) := by decide +kernel
theorem dX3_lull_87 : decode cX3_lull 87 = .ok (.aload_n 0, 1) := by decide +kernel
theorem dX3_lull_88 : decode cX3_lull 88 = .ok (.getfield 12, 3) := by decide +kernel
theorem dX3_lull_91 : decode cX3_lull 91 = .ok (.dup, 1) := by decide +kernel
theorem dX3_lull_92 : decode cX3_lull 92 = .ok (.getfield 69, 3) := by decide +kernel
theorem dX3_lull_95 : decode cX3_lull 95 = .ok (.iconst 1, 1) := by decide +kernel
theorem dX3_lull_96 : decode cX3_lull 96 = .ok (.iload_n 2, 1) := by decide +kernel
theorem dX3_lull_97 : decode cX3_lull 97 = .ok (.ishl, 1) := by decide +kernel
theorem dX3_lull_98 : decode cX3_lull 98 = .ok (.iconst (-1), 1) := by decide +kernel
theorem dX3_lull_99 : decode cX3_lull 99 = .ok (.ixor, 1) := by decide +kernel
theorem dX3_lull_100 : decode cX3_lull 100 = .ok (.iand, 1) := by decide +kernel
theorem dX3_lull_101 : decode cX3_lull 101 = .ok (.putfield 69, 3) := by decide +kernel
theorem dX3_lull_104 : decode cX3_lull 104 = .ok (.aload_n 0, 1) := by decide +kernel
theorem dX3_lull_105 : decode cX3_lull 105 = .ok (.getfield 12, 3) := by decide +kernel
theorem dX3_lull_108 : decode cX3_lull 108 = .ok (.getfield 56, 3) := by decide +kernel
theorem dX3_lull_111 : decode cX3_lull 111 = .ok (.iload_n 2, 1) := by decide +kernel
theorem dX3_lull_112 : decode cX3_lull 112 = .ok (.bipush 99, 2) := by decide +kernel
theorem dX3_lull_114 : decode cX3_lull 114 = .ok (.aload_n 0, 1) := by decide +kernel
theorem dX3_lull_115 : decode cX3_lull 115 = .ok (.getfield 12, 3) := by decide +kernel
theorem dX3_lull_118 : decode cX3_lull 118 = .ok (.getfield 56, 3) := by decide +kernel
theorem dX3_lull_121 : decode cX3_lull 121 = .ok (.iload_n 2, 1) := by decide +kernel
theorem dX3_lull_122 : decode cX3_lull 122 = .ok (.iaload, 1) := by decide +kernel
theorem dX3_lull_123 : decode cX3_lull 123 = .ok (.iconst 1, 1) := by decide +kernel
theorem dX3_lull_124 : decode cX3_lull 124 = .ok (.iadd, 1) := by decide +kernel
theorem dX3_lull_125 : decode cX3_lull 125 = .ok (.invokestatic 122, 3) := by decide +kernel
theorem dX3_lull_128 : decode cX3_lull 128 = .ok (.iastore, 1) := by decide +kernel
theorem dX3_lull_129 : decode cX3_lull 129 = .ok (.goto 25, 3) := by decide +kernel
theorem dX3_lull_132 : decode cX3_lull 132 = .ok (.aload_n 0, 1) := by decide +kernel
theorem dX3_lull_133 : decode cX3_lull 133 = .ok (.getfield 12, 3) := by decide +kernel
theorem dX3_lull_136 : decode cX3_lull 136 = .ok (.sipush 999, 3) := by decide +kernel
theorem dX3_lull_139 : decode cX3_lull 139 = .ok (.aload_n 0, 1) := by decide +kernel
theorem dX3_lull_140 : decode cX3_lull 140 = .ok (.getfield 12, 3) := by decide +kernel
theorem dX3_lull_143 : decode cX3_lull 143 = .ok (.getfield 32, 3) := by decide +kernel
theorem dX3_lull_146 : decode cX3_lull 146 = .ok (.iconst 1, 1) := by decide +kernel
theorem dX3_lull_147 : decode cX3_lull 147 = .ok (.iadd, 1) := by decide +kernel
theorem dX3_lull_148 : decode cX3_lull 148 = .ok (.invokestatic 122, 3) := by decide +kernel
theorem dX3_lull_151 : decode cX3_lull 151 = .ok (.putfield 32, 3) := by decide +kernel
theorem dX3_lull_154 : decode cX3_lull 154 = .ok (.iload 4, 2) := by decide +kernel
theorem dX3_lull_156 : decode cX3_lull 156 = .ok (.ireturn, 1) := by decide +kernel
def f_X3_lull (a0 : Nat) (a1 : Int32) (a2 : Int32) (h : AH) : Option (Int32 × AH) := if isO h 3 a0 = true then (bT1 (f_X3_needsOf a0 a2 h) fun x3 h1 => (gr h1 3 a0 0).bind fun r4 => (gr h1 4 r4 3).bind fun r5 => (ai h1 0 r5 a1).bind fun x6 => (gr h1 3 a0 0).bind fun r7 => (gr h1 4 r7 1).bind fun r8 => (gr h1 3 a0 0).bind fun r9 => (gr h1 4 r9 1).bind fun r10 => (ai h1 0 r10 a1).bind fun x11 => bT1 (f_X3_songPaysTo a0 a1 a2 h1) fun x14 h12 => (aw h12 0 r8 a1 (if (0 : Int32) < (x11 - ((if x6 < x3 then x6 else x3) * x14)) then (x11 - ((if x6 < x3 then x6 else x3) * x14)) else (0 : Int32))).bind fun h15 => (gr h15 3 a0 0).bind fun r16 => (gr h15 4 r16 3).bind fun r17 => (ai h15 0 r17 a1).bind fun x18 => (aw h15 0 r17 a1 (x18 - (if x6 < x3 then x6 else x3))).bind fun h19 => (gr h19 3 a0 0).bind fun r20 => (gr h19 4 r20 5).bind fun r21 => (ai h19 0 r21 a2).bind fun x22 => (aw h19 0 r21 a2 (x22 + (if x6 < x3 then x6 else x3))).bind fun h23 => if (if x6 < x3 then x6 else x3) = x3 then ((gr h23 3 a0 0).bind fun r29 => (gi h23 4 r29 7).bind fun x30 => (pf h23 4 r29 7 (.int (x30 &&& (((1 : Int32) <<< (a2 &&& 31)) ^^^ (-1 : Int32))))).bind fun h31 => (gr h31 3 a0 0).bind fun r32 => (gr h31 4 r32 6).bind fun r33 => (gr h31 3 a0 0).bind fun r34 => (gr h31 4 r34 6).bind fun r35 => (ai h31 0 r35 a2).bind fun x36 => (aw h31 0 r33 a2 (if (x36 + (1 : Int32)) < (99 : Int32) then (x36 + (1 : Int32)) else (99 : Int32))).bind fun h37 => some ((if x6 < x3 then x6 else x3), h37)) else ((gr h23 3 a0 0).bind fun r25 => (gr h23 3 a0 0).bind fun r26 => (gi h23 4 r26 10).bind fun x27 => (pf h23 4 r25 10 (.int (if (x27 + (1 : Int32)) < (999 : Int32) then (x27 + (1 : Int32)) else (999 : Int32)))).bind fun h28 => some ((if x6 < x3 then x6 else x3), h28))) else none
set_option maxRecDepth 100000 in
set_option maxHeartbeats 4000000 in
theorem c_X3_lull (X : SX) (d : Nat) (a0 : Nat) (a1 : Int32) (a2 : Int32) (h : AH) (rr : Int32) (h' : AH) (hf : f_X3_lull a0 a1 a2 h = some (rr, h')) : isO h 3 a0 = true ∧ G X mX3_lull (d + 2) 0 [(0, .ref a0), (1, .int a1), (2, .int a2)] [] h (some rr) h' := by
  unfold f_X3_lull at hf
  by_cases ho : isO h 3 a0 = true
  · rw [if_pos ho] at hf
    refine ⟨ho, ?_⟩
    refine G.aload_n dX3_lull_0 rfl ?_
    refine G.iload_n dX3_lull_1 rfl ?_
    obtain ⟨x3, h1, e2, hf⟩ := bT1_spec hf
    refine G.callVi (M' := mX3_needsOf) (ci := 3) (As := [.int a2]) (st := []) okX3_needsOf viX3_needsOf lkX3_109 rfl rfl rfl (Nat.le_of_ble_eq_true rfl) (Nat.le_of_ble_eq_true rfl) dX3_lull_2 (c_X3_needsOf X d _ _ _ _ _ e2).1 (c_X3_needsOf X d _ _ _ _ _ e2).2 ?_
    refine G.istore_n (lv' := [(3, .int x3), (0, .ref a0), (1, .int a1), (2, .int a2)]) dX3_lull_5 (by decide) rfl ?_
    refine G.iload_n dX3_lull_6 rfl ?_
    refine G.aload_n dX3_lull_7 rfl ?_
    refine G.getr flX3_12 dX3_lull_8 hf (fun r4 hf => ?_)
    refine G.getr flX3_112 dX3_lull_11 hf (fun r5 hf => ?_)
    refine G.iload_n dX3_lull_14 rfl ?_
    refine G.iald dX3_lull_15 hf (fun x6 hf => ?_)
    refine G.min lkX3_122 (Nat.le_of_ble_eq_true rfl) dX3_lull_16 ?_
    refine G.istore (lv' := [(4, .int (if x6 < x3 then x6 else x3)), (3, .int x3), (0, .ref a0), (1, .int a1), (2, .int a2)]) dX3_lull_19 (by decide) rfl ?_
    refine G.aload_n dX3_lull_21 rfl ?_
    refine G.getr flX3_12 dX3_lull_22 hf (fun r7 hf => ?_)
    refine G.getr flX3_43 dX3_lull_25 hf (fun r8 hf => ?_)
    refine G.iload_n dX3_lull_28 rfl ?_
    refine G.iconst (v := (0 : Int32)) dX3_lull_29 (by decide) ?_
    refine G.aload_n dX3_lull_30 rfl ?_
    refine G.getr flX3_12 dX3_lull_31 hf (fun r9 hf => ?_)
    refine G.getr flX3_43 dX3_lull_34 hf (fun r10 hf => ?_)
    refine G.iload_n dX3_lull_37 rfl ?_
    refine G.iald dX3_lull_38 hf (fun x11 hf => ?_)
    refine G.iload dX3_lull_39 rfl ?_
    refine G.aload_n dX3_lull_41 rfl ?_
    refine G.iload_n dX3_lull_42 rfl ?_
    refine G.iload_n dX3_lull_43 rfl ?_
    obtain ⟨x14, h12, e13, hf⟩ := bT1_spec hf
    refine G.callVi (M' := mX3_songPaysTo) (ci := 3) (As := [.int a1, .int a2]) (st := [.int (if x6 < x3 then x6 else x3), .int x11, .int (0 : Int32), .int a1, .ref r8]) okX3_songPaysTo viX3_songPaysTo lkX3_119 rfl rfl rfl (Nat.le_of_ble_eq_true rfl) (Nat.le_of_ble_eq_true rfl) dX3_lull_44 (c_X3_songPaysTo X d _ _ _ _ _ _ e13).1 (c_X3_songPaysTo X d _ _ _ _ _ _ e13).2 ?_
    refine G.imul dX3_lull_47 ?_
    refine G.isub dX3_lull_48 ?_
    refine G.max lkX3_84 (Nat.le_of_ble_eq_true rfl) dX3_lull_49 ?_
    refine G.iast dX3_lull_52 hf (fun h15 hf => ?_)
    refine G.aload_n dX3_lull_53 rfl ?_
    refine G.getr flX3_12 dX3_lull_54 hf (fun r16 hf => ?_)
    refine G.getr flX3_112 dX3_lull_57 hf (fun r17 hf => ?_)
    refine G.iload_n dX3_lull_60 rfl ?_
    refine G.dup2 dX3_lull_61 rfl rfl ?_
    refine G.iald dX3_lull_62 hf (fun x18 hf => ?_)
    refine G.iload dX3_lull_63 rfl ?_
    refine G.isub dX3_lull_65 ?_
    refine G.iast dX3_lull_66 hf (fun h19 hf => ?_)
    refine G.aload_n dX3_lull_67 rfl ?_
    refine G.getr flX3_12 dX3_lull_68 hf (fun r20 hf => ?_)
    refine G.getr flX3_81 dX3_lull_71 hf (fun r21 hf => ?_)
    refine G.iload_n dX3_lull_74 rfl ?_
    refine G.dup2 dX3_lull_75 rfl rfl ?_
    refine G.iald dX3_lull_76 hf (fun x22 hf => ?_)
    refine G.iload dX3_lull_77 rfl ?_
    refine G.iadd dX3_lull_79 ?_
    refine G.iast dX3_lull_80 hf (fun h23 hf => ?_)
    refine G.iload dX3_lull_81 rfl ?_
    refine G.iload_n dX3_lull_83 rfl ?_
    refine G.icmp_ne 132 dX3_lull_84 (by decide) (fun c24 => ?_) (fun c24 => ?_)
    · rw [if_neg c24] at hf
      refine G.aload_n dX3_lull_132 rfl ?_
      refine G.getr flX3_12 dX3_lull_133 hf (fun r25 hf => ?_)
      refine G.sipush (v := (999 : Int32)) dX3_lull_136 (by decide) ?_
      refine G.aload_n dX3_lull_139 rfl ?_
      refine G.getr flX3_12 dX3_lull_140 hf (fun r26 hf => ?_)
      refine G.geti flX3_32 dX3_lull_143 hf (fun x27 hf => ?_)
      refine G.iconst (v := (1 : Int32)) dX3_lull_146 (by decide) ?_
      refine G.iadd dX3_lull_147 ?_
      refine G.min lkX3_122 (Nat.le_of_ble_eq_true rfl) dX3_lull_148 ?_
      refine G.put flX3_32 (Or.inl rfl) (fun _ _ => ⟨rfl, rfl⟩) dX3_lull_151 hf (fun h28 hf => ?_)
      refine G.iload dX3_lull_154 rfl ?_
      obtain ⟨hq1, hq2⟩ := Prod.mk.inj (Option.some.inj hf)
      subst hq1
      subst hq2
      exact G.iret rfl rfl dX3_lull_156
    · rw [if_pos c24] at hf
      refine G.aload_n dX3_lull_87 rfl ?_
      refine G.getr flX3_12 dX3_lull_88 hf (fun r29 hf => ?_)
      refine G.dup dX3_lull_91 rfl ?_
      refine G.geti flX3_69 dX3_lull_92 hf (fun x30 hf => ?_)
      refine G.iconst (v := (1 : Int32)) dX3_lull_95 (by decide) ?_
      refine G.iload_n dX3_lull_96 rfl ?_
      refine G.ishl dX3_lull_97 ?_
      refine G.iconst (v := (-1 : Int32)) dX3_lull_98 (by decide) ?_
      refine G.ixor dX3_lull_99 ?_
      refine G.iand dX3_lull_100 ?_
      refine G.put flX3_69 (Or.inl rfl) (fun _ _ => ⟨rfl, rfl⟩) dX3_lull_101 hf (fun h31 hf => ?_)
      refine G.aload_n dX3_lull_104 rfl ?_
      refine G.getr flX3_12 dX3_lull_105 hf (fun r32 hf => ?_)
      refine G.getr flX3_56 dX3_lull_108 hf (fun r33 hf => ?_)
      refine G.iload_n dX3_lull_111 rfl ?_
      refine G.bipush (v := (99 : Int32)) dX3_lull_112 (by decide) ?_
      refine G.aload_n dX3_lull_114 rfl ?_
      refine G.getr flX3_12 dX3_lull_115 hf (fun r34 hf => ?_)
      refine G.getr flX3_56 dX3_lull_118 hf (fun r35 hf => ?_)
      refine G.iload_n dX3_lull_121 rfl ?_
      refine G.iald dX3_lull_122 hf (fun x36 hf => ?_)
      refine G.iconst (v := (1 : Int32)) dX3_lull_123 (by decide) ?_
      refine G.iadd dX3_lull_124 ?_
      refine G.min lkX3_122 (Nat.le_of_ble_eq_true rfl) dX3_lull_125 ?_
      refine G.iast dX3_lull_128 hf (fun h37 hf => ?_)
      refine G.goto 154 dX3_lull_129 (by decide) ?_
      refine G.iload dX3_lull_154 rfl ?_
      obtain ⟨hq1, hq2⟩ := Prod.mk.inj (Option.some.inj hf)
      subst hq1
      subst hq2
      exact G.iret rfl rfl dX3_lull_156
  · rw [if_neg ho] at hf
    cases hf
/-! X12_sing -/
theorem dX12_sing_0 : decode cX12_sing 0 = .ok (.aload_n 0, 1) := by decide +kernel
theorem dX12_sing_1 : decode cX12_sing 1 = .ok (.getfield 19, 3) := by decide +kernel
theorem dX12_sing_4 : decode cX12_sing 4 = .ok (.iload_n 1, 1) := by decide +kernel
theorem dX12_sing_5 : decode cX12_sing 5 = .ok (.iload_n 2, 1) := by decide +kernel
theorem dX12_sing_6 : decode cX12_sing 6 = .ok (.invokevirtual 231, 3) := by decide +kernel
theorem dX12_sing_9 : decode cX12_sing 9 = .ok (.ifCond .ne 6, 3) := by decide +kernel
theorem dX12_sing_12 : decode cX12_sing 12 = .ok (.ldc 170, 2) := by decide +kernel
theorem dX12_sing_14 : decode cX12_sing 14 = .ok (.ireturn, 1) := by decide +kernel
theorem dX12_sing_15 : decode cX12_sing 15 = .ok (.aload_n 0, 1) := by decide +kernel
theorem dX12_sing_16 : decode cX12_sing 16 = .ok (.getfield 19, 3) := by decide +kernel
theorem dX12_sing_19 : decode cX12_sing 19 = .ok (.iload_n 1, 1) := by decide +kernel
theorem dX12_sing_20 : decode cX12_sing 20 = .ok (.iload_n 2, 1) := by decide +kernel
theorem dX12_sing_21 : decode cX12_sing 21 = .ok (.invokevirtual 234, 3) := by decide +kernel
theorem dX12_sing_24 : decode cX12_sing 24 = .ok (.ifCond .ne 6, 3) := by decide +kernel
theorem dX12_sing_27 : decode cX12_sing 27 = .ok (.ldc 222, 2) := by decide +kernel
theorem dX12_sing_29 : decode cX12_sing 29 = .ok (.ireturn, 1) := by decide +kernel
theorem dX12_sing_30 : decode cX12_sing 30 = .ok (.aload_n 0, 1) := by decide +kernel
theorem dX12_sing_31 : decode cX12_sing 31 = .ok (.getfield 40, 3) := by decide +kernel
theorem dX12_sing_34 : decode cX12_sing 34 = .ok (.aload_n 0, 1) := by decide +kernel
theorem dX12_sing_35 : decode cX12_sing 35 = .ok (.getfield 19, 3) := by decide +kernel
theorem dX12_sing_38 : decode cX12_sing 38 = .ok (.getfield 119, 3) := by decide +kernel
theorem dX12_sing_41 : decode cX12_sing 41 = .ok (.invokevirtual 223, 3) := by decide +kernel
theorem dX12_sing_44 : decode cX12_sing 44 = .ok (.aload_n 0, 1) := by decide +kernel
theorem dX12_sing_45 : decode cX12_sing 45 = .ok (.getfield 19, 3) := by decide +kernel
theorem dX12_sing_48 : decode cX12_sing 48 = .ok (.iload_n 1, 1) := by decide +kernel
theorem dX12_sing_49 : decode cX12_sing 49 = .ok (.iload_n 2, 1) := by decide +kernel
theorem dX12_sing_50 : decode cX12_sing 50 = .ok (.invokevirtual 237, 3) := by decide +kernel
theorem dX12_sing_53 : decode cX12_sing 53 = .ok (.ireturn, 1) := by decide +kernel
def f_X12_sing (a0 : Nat) (a1 : Int32) (a2 : Int32) (h : AH) : Option (Int32 × AH) := if isO h 11 a0 = true then ((gr h 11 a0 1).bind fun r1 => bT1 (f_X3_hasBoth r1 a1 a2 h) fun x4 h2 => if x4 = 0 then (some ((-1000000001 : Int32), h2)) else ((gr h2 11 a0 1).bind fun r6 => bT1 (f_X3_mayLull r6 a1 a2 h2) fun x9 h7 => if x9 = 0 then (some ((-1000000003 : Int32), h7)) else ((gr h7 11 a0 4).bind fun r11 => (gr h7 11 a0 1).bind fun r12 => (gr h7 3 r12 0).bind fun r13 => (f_X6_remember r11 r13 h7).bind fun h14 => (gr h14 11 a0 1).bind fun r16 => bT1 (f_X3_lull r16 a1 a2 h14) fun x19 h17 => some (x19, h17)))) else none
set_option maxRecDepth 100000 in
set_option maxHeartbeats 4000000 in
theorem c_X12_sing (X : SX) (d : Nat) (a0 : Nat) (a1 : Int32) (a2 : Int32) (h : AH) (rr : Int32) (h' : AH) (hf : f_X12_sing a0 a1 a2 h = some (rr, h')) : isO h 11 a0 = true ∧ G X mX12_sing (d + 3) 0 [(0, .ref a0), (1, .int a1), (2, .int a2)] [] h (some rr) h' := by
  unfold f_X12_sing at hf
  by_cases ho : isO h 11 a0 = true
  · rw [if_pos ho] at hf
    refine ⟨ho, ?_⟩
    refine G.aload_n dX12_sing_0 rfl ?_
    refine G.getr flX12_19 dX12_sing_1 hf (fun r1 hf => ?_)
    refine G.iload_n dX12_sing_4 rfl ?_
    refine G.iload_n dX12_sing_5 rfl ?_
    obtain ⟨x4, h2, e3, hf⟩ := bT1_spec hf
    refine G.callVi (M' := mX3_hasBoth) (ci := 3) (As := [.int a1, .int a2]) (st := []) okX3_hasBoth viX3_hasBoth lkX12_231 rfl rfl rfl (Nat.le_of_ble_eq_true rfl) (Nat.le_of_ble_eq_true rfl) dX12_sing_6 (c_X3_hasBoth X (d + 1) _ _ _ _ _ _ e3).1 (c_X3_hasBoth X (d + 1) _ _ _ _ _ _ e3).2 ?_
    refine G.if_ne 15 dX12_sing_9 (by decide) (fun c5 => ?_) (fun c5 => ?_)
    · rw [if_neg c5] at hf
      refine G.aload_n dX12_sing_15 rfl ?_
      refine G.getr flX12_19 dX12_sing_16 hf (fun r6 hf => ?_)
      refine G.iload_n dX12_sing_19 rfl ?_
      refine G.iload_n dX12_sing_20 rfl ?_
      obtain ⟨x9, h7, e8, hf⟩ := bT1_spec hf
      refine G.callVi (M' := mX3_mayLull) (ci := 3) (As := [.int a1, .int a2]) (st := []) okX3_mayLull viX3_mayLull lkX12_234 rfl rfl rfl (Nat.le_of_ble_eq_true rfl) (Nat.le_of_ble_eq_true rfl) dX12_sing_21 (c_X3_mayLull X (d + 1) _ _ _ _ _ _ e8).1 (c_X3_mayLull X (d + 1) _ _ _ _ _ _ e8).2 ?_
      refine G.if_ne 30 dX12_sing_24 (by decide) (fun c10 => ?_) (fun c10 => ?_)
      · rw [if_neg c10] at hf
        refine G.aload_n dX12_sing_30 rfl ?_
        refine G.getr flX12_40 dX12_sing_31 hf (fun r11 hf => ?_)
        refine G.aload_n dX12_sing_34 rfl ?_
        refine G.getr flX12_19 dX12_sing_35 hf (fun r12 hf => ?_)
        refine G.getr flX12_119 dX12_sing_38 hf (fun r13 hf => ?_)
        obtain ⟨h14, e15, hf⟩ := Option.bind_eq_some_iff.mp hf
        refine G.callVv (M' := mX6_remember) (ci := 5) (As := [.ref r13]) (st := []) okX6_remember viX6_remember lkX12_223 rfl rfl rfl (Nat.le_of_ble_eq_true rfl) (Nat.le_of_ble_eq_true rfl) dX12_sing_41 (c_X6_remember X d _ _ _ _ e15).1 (c_X6_remember X d _ _ _ _ e15).2 ?_
        refine G.aload_n dX12_sing_44 rfl ?_
        refine G.getr flX12_19 dX12_sing_45 hf (fun r16 hf => ?_)
        refine G.iload_n dX12_sing_48 rfl ?_
        refine G.iload_n dX12_sing_49 rfl ?_
        obtain ⟨x19, h17, e18, hf⟩ := bT1_spec hf
        refine G.callVi (M' := mX3_lull) (ci := 3) (As := [.int a1, .int a2]) (st := []) okX3_lull viX3_lull lkX12_237 rfl rfl rfl (Nat.le_of_ble_eq_true rfl) (Nat.le_of_ble_eq_true rfl) dX12_sing_50 (c_X3_lull X d _ _ _ _ _ _ e18).1 (c_X3_lull X d _ _ _ _ _ _ e18).2 ?_
        obtain ⟨hq1, hq2⟩ := Prod.mk.inj (Option.some.inj hf)
        subst hq1
        subst hq2
        exact G.iret rfl rfl dX12_sing_53
      · rw [if_pos c10] at hf
        refine G.ldc ckX12_222 dX12_sing_27 ?_
        obtain ⟨hq1, hq2⟩ := Prod.mk.inj (Option.some.inj hf)
        subst hq1
        subst hq2
        exact G.iret rfl rfl dX12_sing_29
    · rw [if_pos c5] at hf
      refine G.ldc ckX12_170 dX12_sing_12 ?_
      obtain ⟨hq1, hq2⟩ := Prod.mk.inj (Option.some.inj hf)
      subst hq1
      subst hq2
      exact G.iret rfl rfl dX12_sing_14
  · rw [if_neg ho] at hf
    cases hf
/-! X13_may -/
theorem dX13_may_0 : decode cX13_may 0 = .ok (.aload_n 0, 1) := by decide +kernel
theorem dX13_may_1 : decode cX13_may 1 = .ok (.getfield 29, 3) := by decide +kernel
theorem dX13_may_4 : decode cX13_may 4 = .ok (.bipush 24, 2) := by decide +kernel
theorem dX13_may_6 : decode cX13_may 6 = .ok (.iload_n 2, 1) := by decide +kernel
theorem dX13_may_7 : decode cX13_may 7 = .ok (.iadd, 1) := by decide +kernel
theorem dX13_may_8 : decode cX13_may 8 = .ok (.iaload, 1) := by decide +kernel
theorem dX13_may_9 : decode cX13_may 9 = .ok (.aload_n 0, 1) := by decide +kernel
theorem dX13_may_10 : decode cX13_may 10 = .ok (.getfield 29, 3) := by decide +kernel
theorem dX13_may_13 : decode cX13_may 13 = .ok (.bipush 12, 2) := by decide +kernel
theorem dX13_may_15 : decode cX13_may 15 = .ok (.iload_n 1, 1) := by decide +kernel
theorem dX13_may_16 : decode cX13_may 16 = .ok (.iadd, 1) := by decide +kernel
theorem dX13_may_17 : decode cX13_may 17 = .ok (.iaload, 1) := by decide +kernel
theorem dX13_may_18 : decode cX13_may 18 = .ok (.if_icmp .ne 43, 3) := by decide +kernel
theorem dX13_may_21 : decode cX13_may 21 = .ok (.aload_n 0, 1) := by decide +kernel
theorem dX13_may_22 : decode cX13_may 22 = .ok (.getfield 29, 3) := by decide +kernel
theorem dX13_may_25 : decode cX13_may 25 = .ok (.bipush 30, 2) := by decide +kernel
theorem dX13_may_27 : decode cX13_may 27 = .ok (.iload_n 2, 1) := by decide +kernel
theorem dX13_may_28 : decode cX13_may 28 = .ok (.iadd, 1) := by decide +kernel
theorem dX13_may_29 : decode cX13_may 29 = .ok (.iaload, 1) := by decide +kernel
theorem dX13_may_30 : decode cX13_may 30 = .ok (.ifCond .ne 31, 3) := by decide +kernel
theorem dX13_may_33 : decode cX13_may 33 = .ok (.aload_n 0, 1) := by decide +kernel
theorem dX13_may_34 : decode cX13_may 34 = .ok (.getfield 29, 3) := by decide +kernel
theorem dX13_may_37 : decode cX13_may 37 = .ok (.bipush 6, 2) := by decide +kernel
theorem dX13_may_39 : decode cX13_may 39 = .ok (.iload_n 1, 1) := by decide +kernel
theorem dX13_may_40 : decode cX13_may 40 = .ok (.iadd, 1) := by decide +kernel
theorem dX13_may_41 : decode cX13_may 41 = .ok (.iaload, 1) := by decide +kernel
theorem dX13_may_42 : decode cX13_may 42 = .ok (.ifCond .le 19, 3) := by decide +kernel
theorem dX13_may_45 : decode cX13_may 45 = .ok (.aload_n 0, 1) := by decide +kernel
theorem dX13_may_46 : decode cX13_may 46 = .ok (.getfield 29, 3) := by decide +kernel
theorem dX13_may_49 : decode cX13_may 49 = .ok (.bipush 18, 2) := by decide +kernel
theorem dX13_may_51 : decode cX13_may 51 = .ok (.iload_n 1, 1) := by decide +kernel
theorem dX13_may_52 : decode cX13_may 52 = .ok (.iadd, 1) := by decide +kernel
theorem dX13_may_53 : decode cX13_may 53 = .ok (.iaload, 1) := by decide +kernel
theorem dX13_may_54 : decode cX13_may 54 = .ok (.ifCond .le 7, 3) := by decide +kernel
theorem dX13_may_57 : decode cX13_may 57 = .ok (.iconst 1, 1) := by decide +kernel
theorem dX13_may_58 : decode cX13_may 58 = .ok (.goto 4, 3) := by decide +kernel
theorem dX13_may_61 : decode cX13_may 61 = .ok (.iconst 0, 1) := by decide +kernel
theorem dX13_may_62 : decode cX13_may 62 = .ok (.ireturn, 1) := by decide +kernel
def f_X13_may (a0 : Nat) (a1 : Int32) (a2 : Int32) (h : AH) : Option (Int32 × AH) := if isO h 12 a0 = true then ((gr h 12 a0 11).bind fun r1 => (ai h 0 r1 ((24 : Int32) + a2)).bind fun x2 => (gr h 12 a0 11).bind fun r3 => (ai h 0 r3 ((12 : Int32) + a1)).bind fun x4 => if x2 = x4 then ((gr h 12 a0 11).bind fun r6 => (ai h 0 r6 ((30 : Int32) + a2)).bind fun x7 => if x7 = 0 then ((gr h 12 a0 11).bind fun r9 => (ai h 0 r9 ((6 : Int32) + a1)).bind fun x10 => if x10 ≤ 0 then (some ((0 : Int32), h)) else ((gr h 12 a0 11).bind fun r12 => (ai h 0 r12 ((18 : Int32) + a1)).bind fun x13 => if x13 ≤ 0 then (some ((0 : Int32), h)) else (some ((1 : Int32), h)))) else (some ((0 : Int32), h))) else (some ((0 : Int32), h))) else none
set_option maxRecDepth 100000 in
set_option maxHeartbeats 4000000 in
theorem c_X13_may (X : SX) (d : Nat) (a0 : Nat) (a1 : Int32) (a2 : Int32) (h : AH) (rr : Int32) (h' : AH) (hf : f_X13_may a0 a1 a2 h = some (rr, h')) : isO h 12 a0 = true ∧ G X mX13_may d 0 [(0, .ref a0), (1, .int a1), (2, .int a2)] [] h (some rr) h' := by
  unfold f_X13_may at hf
  by_cases ho : isO h 12 a0 = true
  · rw [if_pos ho] at hf
    refine ⟨ho, ?_⟩
    refine G.aload_n dX13_may_0 rfl ?_
    refine G.getr flX13_29 dX13_may_1 hf (fun r1 hf => ?_)
    refine G.bipush (v := (24 : Int32)) dX13_may_4 (by decide) ?_
    refine G.iload_n dX13_may_6 rfl ?_
    refine G.iadd dX13_may_7 ?_
    refine G.iald dX13_may_8 hf (fun x2 hf => ?_)
    refine G.aload_n dX13_may_9 rfl ?_
    refine G.getr flX13_29 dX13_may_10 hf (fun r3 hf => ?_)
    refine G.bipush (v := (12 : Int32)) dX13_may_13 (by decide) ?_
    refine G.iload_n dX13_may_15 rfl ?_
    refine G.iadd dX13_may_16 ?_
    refine G.iald dX13_may_17 hf (fun x4 hf => ?_)
    refine G.icmp_ne 61 dX13_may_18 (by decide) (fun c5 => ?_) (fun c5 => ?_)
    · rw [if_neg c5] at hf
      refine G.iconst (v := (0 : Int32)) dX13_may_61 (by decide) ?_
      obtain ⟨hq1, hq2⟩ := Prod.mk.inj (Option.some.inj hf)
      subst hq1
      subst hq2
      exact G.iret rfl (by decide) dX13_may_62
    · rw [if_pos c5] at hf
      refine G.aload_n dX13_may_21 rfl ?_
      refine G.getr flX13_29 dX13_may_22 hf (fun r6 hf => ?_)
      refine G.bipush (v := (30 : Int32)) dX13_may_25 (by decide) ?_
      refine G.iload_n dX13_may_27 rfl ?_
      refine G.iadd dX13_may_28 ?_
      refine G.iald dX13_may_29 hf (fun x7 hf => ?_)
      refine G.if_ne 61 dX13_may_30 (by decide) (fun c8 => ?_) (fun c8 => ?_)
      · rw [if_neg c8] at hf
        refine G.iconst (v := (0 : Int32)) dX13_may_61 (by decide) ?_
        obtain ⟨hq1, hq2⟩ := Prod.mk.inj (Option.some.inj hf)
        subst hq1
        subst hq2
        exact G.iret rfl (by decide) dX13_may_62
      · rw [if_pos c8] at hf
        refine G.aload_n dX13_may_33 rfl ?_
        refine G.getr flX13_29 dX13_may_34 hf (fun r9 hf => ?_)
        refine G.bipush (v := (6 : Int32)) dX13_may_37 (by decide) ?_
        refine G.iload_n dX13_may_39 rfl ?_
        refine G.iadd dX13_may_40 ?_
        refine G.iald dX13_may_41 hf (fun x10 hf => ?_)
        refine G.if_le 61 dX13_may_42 (by decide) (fun c11 => ?_) (fun c11 => ?_)
        · rw [if_pos c11] at hf
          refine G.iconst (v := (0 : Int32)) dX13_may_61 (by decide) ?_
          obtain ⟨hq1, hq2⟩ := Prod.mk.inj (Option.some.inj hf)
          subst hq1
          subst hq2
          exact G.iret rfl (by decide) dX13_may_62
        · rw [if_neg c11] at hf
          refine G.aload_n dX13_may_45 rfl ?_
          refine G.getr flX13_29 dX13_may_46 hf (fun r12 hf => ?_)
          refine G.bipush (v := (18 : Int32)) dX13_may_49 (by decide) ?_
          refine G.iload_n dX13_may_51 rfl ?_
          refine G.iadd dX13_may_52 ?_
          refine G.iald dX13_may_53 hf (fun x13 hf => ?_)
          refine G.if_le 61 dX13_may_54 (by decide) (fun c14 => ?_) (fun c14 => ?_)
          · rw [if_pos c14] at hf
            refine G.iconst (v := (0 : Int32)) dX13_may_61 (by decide) ?_
            obtain ⟨hq1, hq2⟩ := Prod.mk.inj (Option.some.inj hf)
            subst hq1
            subst hq2
            exact G.iret rfl (by decide) dX13_may_62
          · rw [if_neg c14] at hf
            refine G.iconst (v := (1 : Int32)) dX13_may_57 (by decide) ?_
            refine G.goto 62 dX13_may_58 (by decide) ?_
            obtain ⟨hq1, hq2⟩ := Prod.mk.inj (Option.some.inj hf)
            subst hq1
            subst hq2
            exact G.iret rfl (by decide) dX13_may_62
  · rw [if_neg ho] at hf
    cases hf
/-! X13_sings -/
theorem dX13_sings_0 : decode cX13_sings 0 = .ok (.aload_n 0, 1) := by decide +kernel
theorem dX13_sings_1 : decode cX13_sings 1 = .ok (.iload_n 2, 1) := by decide +kernel
theorem dX13_sings_2 : decode cX13_sings 2 = .ok (.invokevirtual 144, 3) := by decide +kernel
theorem dX13_sings_5 : decode cX13_sings 5 = .ok (.istore_n 3, 1) := by decide +kernel
theorem dX13_sings_6 : decode cX13_sings 6 = .ok (.aload_n 0, 1) := by decide +kernel
theorem dX13_sings_7 : decode cX13_sings 7 = .ok (.iload_n 3, 1) := by decide +kernel
theorem dX13_sings_8 : decode cX13_sings 8 = .ok (.aload_n 0, 1) := by decide +kernel
theorem dX13_sings_9 : decode cX13_sings 9 = .ok (.getfield 29, 3) := by decide +kernel
theorem dX13_sings_12 : decode cX13_sings 12 = .ok (.bipush 18, 2) := by decide +kernel
theorem dX13_sings_14 : decode cX13_sings 14 = .ok (.iload_n 1, 1) := by decide +kernel
theorem dX13_sings_15 : decode cX13_sings 15 = .ok (.iadd, 1) := by decide +kernel
theorem dX13_sings_16 : decode cX13_sings 16 = .ok (.iaload, 1) := by decide +kernel
theorem dX13_sings_17 : decode cX13_sings 17 = .ok (.invokevirtual 188, 3) := by decide +kernel
theorem dX13_sings_20 : decode cX13_sings 20 = .ok (.istore 4, 2) := by decide +kernel
theorem dX13_sings_22 : decode cX13_sings 22 = .ok (.aload_n 0, 1) := by decide +kernel
theorem dX13_sings_23 : decode cX13_sings 23 = .ok (.getfield 29, 3) := by decide +kernel
theorem dX13_sings_26 : decode cX13_sings 26 = .ok (.bipush 6, 2) := by decide +kernel
theorem dX13_sings_28 : decode cX13_sings 28 = .ok (.iload_n 1, 1) := by decide +kernel
theorem dX13_sings_29 : decode cX13_sings 29 = .ok (.iadd, 1) := by decide +kernel
theorem dX13_sings_30 : decode cX13_sings 30 = .ok (.aload_n 0, 1) := by decide +kernel
theorem dX13_sings_31 : decode cX13_sings 31 = .ok (.iconst 0, 1) := by decide +kernel
theorem dX13_sings_32 : decode cX13_sings 32 = .ok (.aload_n 0, 1) := by decide +kernel
theorem dX13_sings_33 : decode cX13_sings 33 = .ok (.getfield 29, 3) := by decide +kernel
theorem dX13_sings_36 : decode cX13_sings 36 = .ok (.bipush 6, 2) := by decide +kernel
theorem dX13_sings_38 : decode cX13_sings 38 = .ok (.iload_n 1, 1) := by decide +kernel
theorem dX13_sings_39 : decode cX13_sings 39 = .ok (.iadd, 1) := by decide +kernel
theorem dX13_sings_40 : decode cX13_sings 40 = .ok (.iaload, 1) := by decide +kernel
theorem dX13_sings_41 : decode cX13_sings 41 = .ok (.iload 4, 2) := by decide +kernel
theorem dX13_sings_43 : decode cX13_sings 43 = .ok (.aload_n 0, 1) := by decide +kernel
theorem dX13_sings_44 : decode cX13_sings 44 = .ok (.iload_n 1, 1) := by decide +kernel
theorem dX13_sings_45 : decode cX13_sings 45 = .ok (.iload_n 2, 1) := by decide +kernel
theorem dX13_sings_46 : decode cX13_sings 46 = .ok (.invokevirtual 191, 3) := by decide +kernel
theorem dX13_sings_49 : decode cX13_sings 49 = .ok (.imul, 1) := by decide +kernel
theorem dX13_sings_50 : decode cX13_sings 50 = .ok (.isub, 1) := by decide +kernel
theorem dX13_sings_51 : decode cX13_sings 51 = .ok (.invokevirtual 141, 3) := by decide +kernel
theorem dX13_sings_54 : decode cX13_sings 54 = .ok (.iastore, 1) := by decide +kernel
theorem dX13_sings_55 : decode cX13_sings 55 = .ok (.aload_n 0, 1) := by decide +kernel
theorem dX13_sings_56 : decode cX13_sings 56 = .ok (.getfield 29, 3) := by decide +kernel
theorem dX13_sings_59 : decode cX13_sings 59 = .ok (.bipush 18, 2) := by decide +kernel
theorem dX13_sings_61 : decode cX13_sings 61 = .ok (.iload_n 1, 1) := by decide +kernel
theorem dX13_sings_62 : decode cX13_sings 62 = .ok (.iadd, 1) := by decide +kernel
theorem dX13_sings_63 : decode cX13_sings 63 = .ok (.dup2, 1) := by decide +kernel
theorem dX13_sings_64 : decode cX13_sings 64 = .ok (.iaload, 1) := by decide +kernel
theorem dX13_sings_65 : decode cX13_sings 65 = .ok (.iload 4, 2) := by decide +kernel
theorem dX13_sings_67 : decode cX13_sings 67 = .ok (.isub, 1) := by decide +kernel
theorem dX13_sings_68 : decode cX13_sings 68 = .ok (.iastore, 1) := by decide +kernel
theorem dX13_sings_69 : decode cX13_sings 69 = .ok (.aload_n 0, 1) := by decide +kernel
theorem dX13_sings_70 : decode cX13_sings 70 = .ok (.getfield 29, 3) := by decide +kernel
theorem dX13_sings_73 : decode cX13_sings 73 = .ok (.bipush 36, 2) := by decide +kernel
theorem dX13_sings_75 : decode cX13_sings 75 = .ok (.iload_n 2, 1) := by decide +kernel
theorem dX13_sings_76 : decode cX13_sings 76 = .ok (.iadd, 1) := by decide +kernel
theorem dX13_sings_77 : decode cX13_sings 77 = .ok (.dup2, 1) := by decide +kernel
theorem dX13_sings_78 : decode cX13_sings 78 = .ok (.iaload, 1) := by decide +kernel
theorem dX13_sings_79 : decode cX13_sings 79 = .ok (.iload 4, 2) := by decide +kernel
theorem dX13_sings_81 : decode cX13_sings 81 = .ok (.iadd, 1) := by decide +kernel
theorem dX13_sings_82 : decode cX13_sings 82 = .ok (.iastore, 1) := by decide +kernel
theorem dX13_sings_83 : decode cX13_sings 83 = .ok (.iload 4, 2) := by decide +kernel
theorem dX13_sings_85 : decode cX13_sings 85 = .ok (.iload_n 3, 1) := by decide +kernel
theorem dX13_sings_86 : decode cX13_sings 86 = .ok (.if_icmp .ne 42, 3) := by decide +kernel
theorem dX13_sings_89 : decode cX13_sings 89 = .ok (.aload_n 0, 1) := by decide +kernel
theorem dX13_sings_90 : decode cX13_sings 90 = .ok (.getfield 29, 3) := by decide +kernel
theorem dX13_sings_93 : decode cX13_sings 93 = .ok (.bipush 30, 2) := by decide +kernel
theorem dX13_sings_95 : decode cX13_sings 95 = .ok (.iload_n 2, 1) := by decide +kernel
theorem dX13_sings_96 : decode cX13_sings 96 = .ok (.iadd, 1) := by decide +kernel
theorem dX13_sings_97 : decode cX13_sings 97 = .ok (.iconst 1, 1) := by decide +kernel
theorem dX13_sings_98 : decode cX13_sings 98 = .ok (.iastore, 1) := by decide +kernel
theorem dX13_sings_99 : decode cX13_sings 99 = .ok (.aload_n 0, 1) := by decide +kernel
theorem dX13_sings_100 : decode cX13_sings 100 = .ok (.getfield 29, 3) := by decide +kernel
theorem dX13_sings_103 : decode cX13_sings 103 = .ok (.bipush 42, 2) := by decide +kernel
theorem dX13_sings_105 : decode cX13_sings 105 = .ok (.iload_n 2, 1) := by decide +kernel
theorem dX13_sings_106 : decode cX13_sings 106 = .ok (.iadd, 1) := by decide +kernel
theorem dX13_sings_107 : decode cX13_sings 107 = .ok (.aload_n 0, 1) := by decide +kernel
theorem dX13_sings_108 : decode cX13_sings 108 = .ok (.bipush 99, 2) := by decide +kernel
theorem dX13_sings_110 : decode cX13_sings 110 = .ok (.aload_n 0, 1) := by decide +kernel
theorem dX13_sings_111 : decode cX13_sings 111 = .ok (.getfield 29, 3) := by decide +kernel
theorem dX13_sings_114 : decode cX13_sings 114 = .ok (.bipush 42, 2) := by decide +kernel
theorem dX13_sings_116 : decode cX13_sings 116 = .ok (.iload_n 2, 1) := by decide +kernel
theorem dX13_sings_117 : decode cX13_sings 117 = .ok (.iadd, 1) := by decide +kernel
theorem dX13_sings_118 : decode cX13_sings 118 = .ok (.iaload, 1) := by decide +kernel
theorem dX13_sings_119 : decode cX13_sings 119 = .ok (.iconst 1, 1) := by decide +kernel
theorem dX13_sings_120 : decode cX13_sings 120 = .ok (.iadd, 1) := by decide +kernel
theorem dX13_sings_121 : decode cX13_sings 121 = .ok (.invokevirtual 188, 3) := by decide +kernel
theorem dX13_sings_124 : decode cX13_sings 124 = .ok (.iastore, 1) := by decide +kernel
theorem dX13_sings_125 : decode cX13_sings 125 = .ok (.goto 26, 3) := by decide +kernel
theorem dX13_sings_128 : decode cX13_sings 128 = .ok (.aload_n 0, 1) := by decide +kernel
theorem dX13_sings_129 : decode cX13_sings 129 = .ok (.getfield 29, 3) := by decide +kernel
theorem dX13_sings_132 : decode cX13_sings 132 = .ok (.bipush 48, 2) := by decide +kernel
theorem dX13_sings_134 : decode cX13_sings 134 = .ok (.aload_n 0, 1) := by decide +kernel
theorem dX13_sings_135 : decode cX13_sings 135 = .ok (.sipush 999, 3) := by decide +kernel
theorem dX13_sings_138 : decode cX13_sings 138 = .ok (.aload_n 0, 1) := by decide +kernel
theorem dX13_sings_139 : decode cX13_sings 139 = .ok (.getfield 29, 3) := by decide +kernel
theorem dX13_sings_142 : decode cX13_sings 142 = .ok (.bipush 48, 2) := by decide +kernel
theorem dX13_sings_144 : decode cX13_sings 144 = .ok (.iaload, 1) := by decide +kernel
theorem dX13_sings_145 : decode cX13_sings 145 = .ok (.iconst 1, 1) := by decide +kernel
theorem dX13_sings_146 : decode cX13_sings 146 = .ok (.iadd, 1) := by decide +kernel
theorem dX13_sings_147 : decode cX13_sings 147 = .ok (.invokevirtual 188, 3) := by decide +kernel
theorem dX13_sings_150 : decode cX13_sings 150 = .ok (.iastore, 1) := by decide +kernel
theorem dX13_sings_151 : decode cX13_sings 151 = .ok (.iload 4, 2) := by decide +kernel
theorem dX13_sings_153 : decode cX13_sings 153 = .ok (.ireturn, 1) := by decide +kernel
def f_X13_sings (a0 : Nat) (a1 : Int32) (a2 : Int32) (h : AH) : Option (Int32 × AH) := if isO h 12 a0 = true then (bT1 (f_X13_needs a0 a2 h) fun x3 h1 => (gr h1 12 a0 11).bind fun r4 => (ai h1 0 r4 ((18 : Int32) + a1)).bind fun x5 => bT1 (f_X13_min a0 x3 x5 h1) fun x8 h6 => (gr h6 12 a0 11).bind fun r9 => (gr h6 12 a0 11).bind fun r10 => (ai h6 0 r10 ((6 : Int32) + a1)).bind fun x11 => bT1 (f_X13_pay a0 a1 a2 h6) fun x14 h12 => bT1 (f_X13_max a0 (0 : Int32) (x11 - (x8 * x14)) h12) fun x17 h15 => (aw h15 0 r9 ((6 : Int32) + a1) x17).bind fun h18 => (gr h18 12 a0 11).bind fun r19 => (ai h18 0 r19 ((18 : Int32) + a1)).bind fun x20 => (aw h18 0 r19 ((18 : Int32) + a1) (x20 - x8)).bind fun h21 => (gr h21 12 a0 11).bind fun r22 => (ai h21 0 r22 ((36 : Int32) + a2)).bind fun x23 => (aw h21 0 r22 ((36 : Int32) + a2) (x23 + x8)).bind fun h24 => if x8 = x3 then ((gr h24 12 a0 11).bind fun r33 => (aw h24 0 r33 ((30 : Int32) + a2) (1 : Int32)).bind fun h34 => (gr h34 12 a0 11).bind fun r35 => (gr h34 12 a0 11).bind fun r36 => (ai h34 0 r36 ((42 : Int32) + a2)).bind fun x37 => bT1 (f_X13_min a0 (99 : Int32) (x37 + (1 : Int32)) h34) fun x40 h38 => (aw h38 0 r35 ((42 : Int32) + a2) x40).bind fun h41 => some (x8, h41)) else ((gr h24 12 a0 11).bind fun r26 => (gr h24 12 a0 11).bind fun r27 => (ai h24 0 r27 (48 : Int32)).bind fun x28 => bT1 (f_X13_min a0 (999 : Int32) (x28 + (1 : Int32)) h24) fun x31 h29 => (aw h29 0 r26 (48 : Int32) x31).bind fun h32 => some (x8, h32))) else none
set_option maxRecDepth 100000 in
set_option maxHeartbeats 4000000 in
theorem c_X13_sings (X : SX) (d : Nat) (a0 : Nat) (a1 : Int32) (a2 : Int32) (h : AH) (rr : Int32) (h' : AH) (hf : f_X13_sings a0 a1 a2 h = some (rr, h')) : isO h 12 a0 = true ∧ G X mX13_sings (d + 2) 0 [(0, .ref a0), (1, .int a1), (2, .int a2)] [] h (some rr) h' := by
  unfold f_X13_sings at hf
  by_cases ho : isO h 12 a0 = true
  · rw [if_pos ho] at hf
    refine ⟨ho, ?_⟩
    refine G.aload_n dX13_sings_0 rfl ?_
    refine G.iload_n dX13_sings_1 rfl ?_
    obtain ⟨x3, h1, e2, hf⟩ := bT1_spec hf
    refine G.callVi (M' := mX13_needs) (ci := 12) (As := [.int a2]) (st := []) okX13_needs viX13_needs lkX13_144 rfl rfl rfl (Nat.le_of_ble_eq_true rfl) (Nat.le_of_ble_eq_true rfl) dX13_sings_2 (c_X13_needs X d _ _ _ _ _ e2).1 (c_X13_needs X d _ _ _ _ _ e2).2 ?_
    refine G.istore_n (lv' := [(3, .int x3), (0, .ref a0), (1, .int a1), (2, .int a2)]) dX13_sings_5 (by decide) rfl ?_
    refine G.aload_n dX13_sings_6 rfl ?_
    refine G.iload_n dX13_sings_7 rfl ?_
    refine G.aload_n dX13_sings_8 rfl ?_
    refine G.getr flX13_29 dX13_sings_9 hf (fun r4 hf => ?_)
    refine G.bipush (v := (18 : Int32)) dX13_sings_12 (by decide) ?_
    refine G.iload_n dX13_sings_14 rfl ?_
    refine G.iadd dX13_sings_15 ?_
    refine G.iald dX13_sings_16 hf (fun x5 hf => ?_)
    obtain ⟨x8, h6, e7, hf⟩ := bT1_spec hf
    refine G.callVi (M' := mX13_min) (ci := 12) (As := [.int x3, .int x5]) (st := []) okX13_min viX13_min lkX13_188 rfl rfl rfl (Nat.le_of_ble_eq_true rfl) (Nat.le_of_ble_eq_true rfl) dX13_sings_17 (c_X13_min X (d + 1) _ _ _ _ _ _ e7).1 (c_X13_min X (d + 1) _ _ _ _ _ _ e7).2 ?_
    refine G.istore (lv' := [(4, .int x8), (3, .int x3), (0, .ref a0), (1, .int a1), (2, .int a2)]) dX13_sings_20 (by decide) rfl ?_
    refine G.aload_n dX13_sings_22 rfl ?_
    refine G.getr flX13_29 dX13_sings_23 hf (fun r9 hf => ?_)
    refine G.bipush (v := (6 : Int32)) dX13_sings_26 (by decide) ?_
    refine G.iload_n dX13_sings_28 rfl ?_
    refine G.iadd dX13_sings_29 ?_
    refine G.aload_n dX13_sings_30 rfl ?_
    refine G.iconst (v := (0 : Int32)) dX13_sings_31 (by decide) ?_
    refine G.aload_n dX13_sings_32 rfl ?_
    refine G.getr flX13_29 dX13_sings_33 hf (fun r10 hf => ?_)
    refine G.bipush (v := (6 : Int32)) dX13_sings_36 (by decide) ?_
    refine G.iload_n dX13_sings_38 rfl ?_
    refine G.iadd dX13_sings_39 ?_
    refine G.iald dX13_sings_40 hf (fun x11 hf => ?_)
    refine G.iload dX13_sings_41 rfl ?_
    refine G.aload_n dX13_sings_43 rfl ?_
    refine G.iload_n dX13_sings_44 rfl ?_
    refine G.iload_n dX13_sings_45 rfl ?_
    obtain ⟨x14, h12, e13, hf⟩ := bT1_spec hf
    refine G.callVi (M' := mX13_pay) (ci := 12) (As := [.int a1, .int a2]) (st := [.int x8, .int x11, .int (0 : Int32), .ref a0, .int ((6 : Int32) + a1), .ref r9]) okX13_pay viX13_pay lkX13_191 rfl rfl rfl (Nat.le_of_ble_eq_true rfl) (Nat.le_of_ble_eq_true rfl) dX13_sings_46 (c_X13_pay X (d + 1) _ _ _ _ _ _ e13).1 (c_X13_pay X (d + 1) _ _ _ _ _ _ e13).2 ?_
    refine G.imul dX13_sings_49 ?_
    refine G.isub dX13_sings_50 ?_
    obtain ⟨x17, h15, e16, hf⟩ := bT1_spec hf
    refine G.callVi (M' := mX13_max) (ci := 12) (As := [.int (0 : Int32), .int (x11 - (x8 * x14))]) (st := [.int ((6 : Int32) + a1), .ref r9]) okX13_max viX13_max lkX13_141 rfl rfl rfl (Nat.le_of_ble_eq_true rfl) (Nat.le_of_ble_eq_true rfl) dX13_sings_51 (c_X13_max X (d + 1) _ _ _ _ _ _ e16).1 (c_X13_max X (d + 1) _ _ _ _ _ _ e16).2 ?_
    refine G.iast dX13_sings_54 hf (fun h18 hf => ?_)
    refine G.aload_n dX13_sings_55 rfl ?_
    refine G.getr flX13_29 dX13_sings_56 hf (fun r19 hf => ?_)
    refine G.bipush (v := (18 : Int32)) dX13_sings_59 (by decide) ?_
    refine G.iload_n dX13_sings_61 rfl ?_
    refine G.iadd dX13_sings_62 ?_
    refine G.dup2 dX13_sings_63 rfl rfl ?_
    refine G.iald dX13_sings_64 hf (fun x20 hf => ?_)
    refine G.iload dX13_sings_65 rfl ?_
    refine G.isub dX13_sings_67 ?_
    refine G.iast dX13_sings_68 hf (fun h21 hf => ?_)
    refine G.aload_n dX13_sings_69 rfl ?_
    refine G.getr flX13_29 dX13_sings_70 hf (fun r22 hf => ?_)
    refine G.bipush (v := (36 : Int32)) dX13_sings_73 (by decide) ?_
    refine G.iload_n dX13_sings_75 rfl ?_
    refine G.iadd dX13_sings_76 ?_
    refine G.dup2 dX13_sings_77 rfl rfl ?_
    refine G.iald dX13_sings_78 hf (fun x23 hf => ?_)
    refine G.iload dX13_sings_79 rfl ?_
    refine G.iadd dX13_sings_81 ?_
    refine G.iast dX13_sings_82 hf (fun h24 hf => ?_)
    refine G.iload dX13_sings_83 rfl ?_
    refine G.iload_n dX13_sings_85 rfl ?_
    refine G.icmp_ne 128 dX13_sings_86 (by decide) (fun c25 => ?_) (fun c25 => ?_)
    · rw [if_neg c25] at hf
      refine G.aload_n dX13_sings_128 rfl ?_
      refine G.getr flX13_29 dX13_sings_129 hf (fun r26 hf => ?_)
      refine G.bipush (v := (48 : Int32)) dX13_sings_132 (by decide) ?_
      refine G.aload_n dX13_sings_134 rfl ?_
      refine G.sipush (v := (999 : Int32)) dX13_sings_135 (by decide) ?_
      refine G.aload_n dX13_sings_138 rfl ?_
      refine G.getr flX13_29 dX13_sings_139 hf (fun r27 hf => ?_)
      refine G.bipush (v := (48 : Int32)) dX13_sings_142 (by decide) ?_
      refine G.iald dX13_sings_144 hf (fun x28 hf => ?_)
      refine G.iconst (v := (1 : Int32)) dX13_sings_145 (by decide) ?_
      refine G.iadd dX13_sings_146 ?_
      obtain ⟨x31, h29, e30, hf⟩ := bT1_spec hf
      refine G.callVi (M' := mX13_min) (ci := 12) (As := [.int (999 : Int32), .int (x28 + (1 : Int32))]) (st := [.int (48 : Int32), .ref r26]) okX13_min viX13_min lkX13_188 rfl rfl rfl (Nat.le_of_ble_eq_true rfl) (Nat.le_of_ble_eq_true rfl) dX13_sings_147 (c_X13_min X (d + 1) _ _ _ _ _ _ e30).1 (c_X13_min X (d + 1) _ _ _ _ _ _ e30).2 ?_
      refine G.iast dX13_sings_150 hf (fun h32 hf => ?_)
      refine G.iload dX13_sings_151 rfl ?_
      obtain ⟨hq1, hq2⟩ := Prod.mk.inj (Option.some.inj hf)
      subst hq1
      subst hq2
      exact G.iret rfl rfl dX13_sings_153
    · rw [if_pos c25] at hf
      refine G.aload_n dX13_sings_89 rfl ?_
      refine G.getr flX13_29 dX13_sings_90 hf (fun r33 hf => ?_)
      refine G.bipush (v := (30 : Int32)) dX13_sings_93 (by decide) ?_
      refine G.iload_n dX13_sings_95 rfl ?_
      refine G.iadd dX13_sings_96 ?_
      refine G.iconst (v := (1 : Int32)) dX13_sings_97 (by decide) ?_
      refine G.iast dX13_sings_98 hf (fun h34 hf => ?_)
      refine G.aload_n dX13_sings_99 rfl ?_
      refine G.getr flX13_29 dX13_sings_100 hf (fun r35 hf => ?_)
      refine G.bipush (v := (42 : Int32)) dX13_sings_103 (by decide) ?_
      refine G.iload_n dX13_sings_105 rfl ?_
      refine G.iadd dX13_sings_106 ?_
      refine G.aload_n dX13_sings_107 rfl ?_
      refine G.bipush (v := (99 : Int32)) dX13_sings_108 (by decide) ?_
      refine G.aload_n dX13_sings_110 rfl ?_
      refine G.getr flX13_29 dX13_sings_111 hf (fun r36 hf => ?_)
      refine G.bipush (v := (42 : Int32)) dX13_sings_114 (by decide) ?_
      refine G.iload_n dX13_sings_116 rfl ?_
      refine G.iadd dX13_sings_117 ?_
      refine G.iald dX13_sings_118 hf (fun x37 hf => ?_)
      refine G.iconst (v := (1 : Int32)) dX13_sings_119 (by decide) ?_
      refine G.iadd dX13_sings_120 ?_
      obtain ⟨x40, h38, e39, hf⟩ := bT1_spec hf
      refine G.callVi (M' := mX13_min) (ci := 12) (As := [.int (99 : Int32), .int (x37 + (1 : Int32))]) (st := [.int ((42 : Int32) + a2), .ref r35]) okX13_min viX13_min lkX13_188 rfl rfl rfl (Nat.le_of_ble_eq_true rfl) (Nat.le_of_ble_eq_true rfl) dX13_sings_121 (c_X13_min X (d + 1) _ _ _ _ _ _ e39).1 (c_X13_min X (d + 1) _ _ _ _ _ _ e39).2 ?_
      refine G.iast dX13_sings_124 hf (fun h41 hf => ?_)
      refine G.goto 151 dX13_sings_125 (by decide) ?_
      refine G.iload dX13_sings_151 rfl ?_
      obtain ⟨hq1, hq2⟩ := Prod.mk.inj (Option.some.inj hf)
      subst hq1
      subst hq2
      exact G.iret rfl rfl dX13_sings_153
  · rw [if_neg ho] at hf
    cases hf
/-! X13_sing -/
theorem dX13_sing_0 : decode cX13_sing 0 = .ok (.aload_n 0, 1) := by decide +kernel
theorem dX13_sing_1 : decode cX13_sing 1 = .ok (.iload_n 1, 1) := by decide +kernel
theorem dX13_sing_2 : decode cX13_sing 2 = .ok (.invokevirtual 176, 3) := by decide +kernel
theorem dX13_sing_5 : decode cX13_sing 5 = .ok (.ifCond .eq 11, 3) := by decide +kernel
theorem dX13_sing_8 : decode cX13_sing 8 = .ok (.aload_n 0, 1) := by decide +kernel
theorem dX13_sing_9 : decode cX13_sing 9 = .ok (.iload_n 2, 1) := by decide +kernel
theorem dX13_sing_10 : decode cX13_sing 10 = .ok (.invokevirtual 181, 3) := by decide +kernel
theorem dX13_sing_13 : decode cX13_sing 13 = .ok (.ifCond .ne 6, 3) := by decide +kernel
theorem dX13_sing_16 : decode cX13_sing 16 = .ok (.ldc 180, 2) := by decide +kernel
theorem dX13_sing_18 : decode cX13_sing 18 = .ok (.ireturn, 1) := by decide +kernel
theorem dX13_sing_19 : decode cX13_sing 19 = .ok (.aload_n 0, 1) := by decide +kernel
theorem dX13_sing_20 : decode cX13_sing 20 = .ok (.iload_n 1, 1) := by decide +kernel
theorem dX13_sing_21 : decode cX13_sing 21 = .ok (.iload_n 2, 1) := by decide +kernel
theorem dX13_sing_22 : decode cX13_sing 22 = .ok (.invokevirtual 194, 3) := by decide +kernel
theorem dX13_sing_25 : decode cX13_sing 25 = .ok (.ifCond .ne 6, 3) := by decide +kernel
theorem dX13_sing_28 : decode cX13_sing 28 = .ok (.ldc 184, 2) := by decide +kernel
theorem dX13_sing_30 : decode cX13_sing 30 = .ok (.ireturn, 1) := by decide +kernel
theorem dX13_sing_31 : decode cX13_sing 31 = .ok (.aload_n 0, 1) := by decide +kernel
theorem dX13_sing_32 : decode cX13_sing 32 = .ok (.invokevirtual 185, 3) := by decide +kernel
theorem dX13_sing_35 : decode cX13_sing 35 = .ok (.aload_n 0, 1) := by decide +kernel
theorem dX13_sing_36 : decode cX13_sing 36 = .ok (.iload_n 1, 1) := by decide +kernel
theorem dX13_sing_37 : decode cX13_sing 37 = .ok (.iload_n 2, 1) := by decide +kernel
theorem dX13_sing_38 : decode cX13_sing 38 = .ok (.invokevirtual 198, 3) := by decide +kernel
theorem dX13_sing_41 : decode cX13_sing 41 = .ok (.ireturn, 1) := by decide +kernel
def f_X13_sing (a0 : Nat) (a1 : Int32) (a2 : Int32) (h : AH) : Option (Int32 × AH) := if isO h 12 a0 = true then (bT1 (f_X13_isSinger a0 a1 h) fun x3 h1 => if x3 = 0 then (some ((-1000000001 : Int32), h1)) else (bT1 (f_X13_isChild a0 a2 h1) fun x7 h5 => if x7 = 0 then (some ((-1000000001 : Int32), h5)) else (bT1 (f_X13_may a0 a1 a2 h5) fun x11 h9 => if x11 = 0 then (some ((-1000000003 : Int32), h9)) else ((f_X13_remembers a0 h9).bind fun h13 => bT1 (f_X13_sings a0 a1 a2 h13) fun x17 h15 => some (x17, h15))))) else none
set_option maxRecDepth 100000 in
set_option maxHeartbeats 4000000 in
theorem c_X13_sing (X : SX) (d : Nat) (a0 : Nat) (a1 : Int32) (a2 : Int32) (h : AH) (rr : Int32) (h' : AH) (hf : f_X13_sing a0 a1 a2 h = some (rr, h')) : isO h 12 a0 = true ∧ G X mX13_sing (d + 3) 0 [(0, .ref a0), (1, .int a1), (2, .int a2)] [] h (some rr) h' := by
  unfold f_X13_sing at hf
  by_cases ho : isO h 12 a0 = true
  · rw [if_pos ho] at hf
    refine ⟨ho, ?_⟩
    refine G.aload_n dX13_sing_0 rfl ?_
    refine G.iload_n dX13_sing_1 rfl ?_
    obtain ⟨x3, h1, e2, hf⟩ := bT1_spec hf
    refine G.callVi (M' := mX13_isSinger) (ci := 12) (As := [.int a1]) (st := []) okX13_isSinger viX13_isSinger lkX13_176 rfl rfl rfl (Nat.le_of_ble_eq_true rfl) (Nat.le_of_ble_eq_true rfl) dX13_sing_2 (c_X13_isSinger X (d + 2) _ _ _ _ _ e2).1 (c_X13_isSinger X (d + 2) _ _ _ _ _ e2).2 ?_
    refine G.if_eq 16 dX13_sing_5 (by decide) (fun c4 => ?_) (fun c4 => ?_)
    · rw [if_pos c4] at hf
      refine G.ldc ckX13_180 dX13_sing_16 ?_
      obtain ⟨hq1, hq2⟩ := Prod.mk.inj (Option.some.inj hf)
      subst hq1
      subst hq2
      exact G.iret rfl rfl dX13_sing_18
    · rw [if_neg c4] at hf
      refine G.aload_n dX13_sing_8 rfl ?_
      refine G.iload_n dX13_sing_9 rfl ?_
      obtain ⟨x7, h5, e6, hf⟩ := bT1_spec hf
      refine G.callVi (M' := mX13_isChild) (ci := 12) (As := [.int a2]) (st := []) okX13_isChild viX13_isChild lkX13_181 rfl rfl rfl (Nat.le_of_ble_eq_true rfl) (Nat.le_of_ble_eq_true rfl) dX13_sing_10 (c_X13_isChild X (d + 2) _ _ _ _ _ e6).1 (c_X13_isChild X (d + 2) _ _ _ _ _ e6).2 ?_
      refine G.if_ne 19 dX13_sing_13 (by decide) (fun c8 => ?_) (fun c8 => ?_)
      · rw [if_neg c8] at hf
        refine G.aload_n dX13_sing_19 rfl ?_
        refine G.iload_n dX13_sing_20 rfl ?_
        refine G.iload_n dX13_sing_21 rfl ?_
        obtain ⟨x11, h9, e10, hf⟩ := bT1_spec hf
        refine G.callVi (M' := mX13_may) (ci := 12) (As := [.int a1, .int a2]) (st := []) okX13_may viX13_may lkX13_194 rfl rfl rfl (Nat.le_of_ble_eq_true rfl) (Nat.le_of_ble_eq_true rfl) dX13_sing_22 (c_X13_may X (d + 2) _ _ _ _ _ _ e10).1 (c_X13_may X (d + 2) _ _ _ _ _ _ e10).2 ?_
        refine G.if_ne 31 dX13_sing_25 (by decide) (fun c12 => ?_) (fun c12 => ?_)
        · rw [if_neg c12] at hf
          refine G.aload_n dX13_sing_31 rfl ?_
          obtain ⟨h13, e14, hf⟩ := Option.bind_eq_some_iff.mp hf
          refine G.callVv (M' := mX13_remembers) (ci := 12) (As := []) (st := []) okX13_remembers viX13_remembers lkX13_185 rfl rfl rfl (Nat.le_of_ble_eq_true rfl) (Nat.le_of_ble_eq_true rfl) dX13_sing_32 (c_X13_remembers X (d + 2) _ _ _ e14).1 (c_X13_remembers X (d + 2) _ _ _ e14).2 ?_
          refine G.aload_n dX13_sing_35 rfl ?_
          refine G.iload_n dX13_sing_36 rfl ?_
          refine G.iload_n dX13_sing_37 rfl ?_
          obtain ⟨x17, h15, e16, hf⟩ := bT1_spec hf
          refine G.callVi (M' := mX13_sings) (ci := 12) (As := [.int a1, .int a2]) (st := []) okX13_sings viX13_sings lkX13_198 rfl rfl rfl (Nat.le_of_ble_eq_true rfl) (Nat.le_of_ble_eq_true rfl) dX13_sing_38 (c_X13_sings X d _ _ _ _ _ _ e16).1 (c_X13_sings X d _ _ _ _ _ _ e16).2 ?_
          obtain ⟨hq1, hq2⟩ := Prod.mk.inj (Option.some.inj hf)
          subst hq1
          subst hq2
          exact G.iret rfl rfl dX13_sing_41
        · rw [if_pos c12] at hf
          refine G.ldc ckX13_184 dX13_sing_28 ?_
          obtain ⟨hq1, hq2⟩ := Prod.mk.inj (Option.some.inj hf)
          subst hq1
          subst hq2
          exact G.iret rfl rfl dX13_sing_30
      · rw [if_pos c8] at hf
        refine G.ldc ckX13_180 dX13_sing_16 ?_
        obtain ⟨hq1, hq2⟩ := Prod.mk.inj (Option.some.inj hf)
        subst hq1
        subst hq2
        exact G.iret rfl rfl dX13_sing_18
  · rw [if_neg ho] at hf
    cases hf
