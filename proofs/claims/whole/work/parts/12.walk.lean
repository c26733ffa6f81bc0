/-! X8_readChild -/
theorem dX8_readChild_0 : decode cX8_readChild 0 = .ok (.aload_n 1, 1) := by decide +kernel
theorem dX8_readChild_1 : decode cX8_readChild 1 = .ok (.getfield 83, 3) := by decide +kernel
theorem dX8_readChild_4 : decode cX8_readChild 4 = .ok (.istore_n 2, 1) := by decide +kernel
theorem dX8_readChild_5 : decode cX8_readChild 5 = .ok (.iload_n 2, 1) := by decide +kernel
theorem dX8_readChild_6 : decode cX8_readChild 6 = .ok (.bipush 6, 2) := by decide +kernel
theorem dX8_readChild_8 : decode cX8_readChild 8 = .ok (.if_icmp .lt 13, 3) := by decide +kernel
theorem dX8_readChild_11 : decode cX8_readChild 11 = .ok (.aload_n 0, 1) := by decide +kernel
theorem dX8_readChild_12 : decode cX8_readChild 12 = .ok (.iconst 3, 1) := by decide +kernel
theorem dX8_readChild_13 : decode cX8_readChild 13 = .ok (.aload_n 0, 1) := by decide +kernel
theorem dX8_readChild_14 : decode cX8_readChild 14 = .ok (.getfield 27, 3) := by decide +kernel
theorem dX8_readChild_17 : decode cX8_readChild 17 = .ok (.invokevirtual 53, 3) := by decide +kernel
theorem dX8_readChild_20 : decode cX8_readChild 20 = .ok (.return_, 1) := by decide +kernel
theorem dX8_readChild_21 : decode cX8_readChild 21 = .ok (.aload_n 0, 1) := by decide +kernel
theorem dX8_readChild_22 : decode cX8_readChild 22 = .ok (.dup, 1) := by decide +kernel
theorem dX8_readChild_23 : decode cX8_readChild 23 = .ok (.getfield 27, 3) := by decide +kernel
theorem dX8_readChild_26 : decode cX8_readChild 26 = .ok (.iconst 1, 1) := by decide +kernel
theorem dX8_readChild_27 : decode cX8_readChild 27 = .ok (.iadd, 1) := by decide +kernel
theorem dX8_readChild_28 : decode cX8_readChild 28 = .ok (.putfield 27, 3) := by decide +kernel
theorem dX8_readChild_31 : decode cX8_readChild 31 = .ok (.aload_n 1, 1) := by decide +kernel
theorem dX8_readChild_32 : decode cX8_readChild 32 = .ok (.getfield 86, 3) := by decide +kernel
theorem dX8_readChild_35 : decode cX8_readChild 35 = .ok (.iload_n 2, 1) := by decide +kernel
theorem dX8_readChild_36 : decode cX8_readChild 36 = .ok (.aload_n 0, 1) := by decide +kernel
theorem dX8_readChild_37 : decode cX8_readChild 37 = .ok (.iconst 0, 1) := by decide +kernel
theorem dX8_readChild_38 : decode cX8_readChild 38 = .ok (.iconst 3, 1) := by decide +kernel
theorem dX8_readChild_39 : decode cX8_readChild 39 = .ok (.invokevirtual 57, 3) := by decide +kernel
theorem dX8_readChild_42 : decode cX8_readChild 42 = .ok (.iastore, 1) := by decide +kernel
theorem dX8_readChild_43 : decode cX8_readChild 43 = .ok (.aload_n 1, 1) := by decide +kernel
theorem dX8_readChild_44 : decode cX8_readChild 44 = .ok (.getfield 89, 3) := by decide +kernel
theorem dX8_readChild_47 : decode cX8_readChild 47 = .ok (.iload_n 2, 1) := by decide +kernel
theorem dX8_readChild_48 : decode cX8_readChild 48 = .ok (.aload_n 0, 1) := by decide +kernel
theorem dX8_readChild_49 : decode cX8_readChild 49 = .ok (.iconst 1, 1) := by decide +kernel
theorem dX8_readChild_50 : decode cX8_readChild 50 = .ok (.bipush 20, 2) := by decide +kernel
theorem dX8_readChild_52 : decode cX8_readChild 52 = .ok (.invokevirtual 57, 3) := by decide +kernel
theorem dX8_readChild_55 : decode cX8_readChild 55 = .ok (.iastore, 1) := by decide +kernel
theorem dX8_readChild_56 : decode cX8_readChild 56 = .ok (.aload_n 1, 1) := by decide +kernel
theorem dX8_readChild_57 : decode cX8_readChild 57 = .ok (.getfield 92, 3) := by decide +kernel
theorem dX8_readChild_60 : decode cX8_readChild 60 = .ok (.iload_n 2, 1) := by decide +kernel
theorem dX8_readChild_61 : decode cX8_readChild 61 = .ok (.aload_n 0, 1) := by decide +kernel
theorem dX8_readChild_62 : decode cX8_readChild 62 = .ok (.iconst 0, 1) := by decide +kernel
theorem dX8_readChild_63 : decode cX8_readChild 63 = .ok (.aload_n 1, 1) := by decide +kernel
theorem dX8_readChild_64 : decode cX8_readChild 64 = .ok (.getfield 40, 3) := by decide +kernel
theorem dX8_readChild_67 : decode cX8_readChild 67 = .ok (.iconst 1, 1) := by decide +kernel
theorem dX8_readChild_68 : decode cX8_readChild 68 = .ok (.isub, 1) := by decide +kernel
theorem dX8_readChild_69 : decode cX8_readChild 69 = .ok (.invokevirtual 57, 3) := by decide +kernel
theorem dX8_readChild_72 : decode cX8_readChild 72 = .ok (.iastore, 1) := by decide +kernel
theorem dX8_readChild_73 : decode cX8_readChild 73 = .ok (.aload_n 0, 1) := by decide +kernel
theorem dX8_readChild_74 : decode cX8_readChild 74 = .ok (.invokevirtual 61, 3) := by decide +kernel
theorem dX8_readChild_77 : decode cX8_readChild 77 = .ok (.aload_n 1, 1) := by decide +kernel
theorem dX8_readChild_78 : decode cX8_readChild 78 = .ok (.dup, 1) := by decide +kernel
theorem dX8_readChild_79 : decode cX8_readChild 79 = .ok (.getfield 83, 3) := by decide +kernel
theorem dX8_readChild_82 : decode cX8_readChild 82 = .ok (.iconst 1, 1) := by decide +kernel
theorem dX8_readChild_83 : decode cX8_readChild 83 = .ok (.iadd, 1) := by decide +kernel
theorem dX8_readChild_84 : decode cX8_readChild 84 = .ok (.putfield 83, 3) := by decide +kernel
theorem dX8_readChild_87 : decode cX8_readChild 87 = .ok (.return_, 1) := by decide +kernel
def f_X8_readChild (a0 : Nat) (a1 : Nat) (h : AH) : Option (AH) := if isO h 7 a0 = true then ((gi h 9 a1 10).bind fun x1 => if x1 < (6 : Int32) then ((gi h 7 a0 4).bind fun x3 => (pf h 7 a0 4 (.int (x3 + (1 : Int32)))).bind fun h4 => (gr h4 9 a1 4).bind fun r5 => bT1 (f_X8_readNumber a0 (0 : Int32) (3 : Int32) h4) fun x8 h6 => (aw h6 0 r5 x1 x8).bind fun h9 => (gr h9 9 a1 5).bind fun r10 => bT1 (f_X8_readNumber a0 (1 : Int32) (20 : Int32) h9) fun x13 h11 => (aw h11 0 r10 x1 x13).bind fun h14 => (gr h14 9 a1 6).bind fun r15 => (gi h14 9 a1 7).bind fun x16 => bT1 (f_X8_readNumber a0 (0 : Int32) (x16 - (1 : Int32)) h14) fun x19 h17 => (aw h17 0 r15 x1 x19).bind fun h20 => (f_X8_readEnd a0 h20).bind fun h21 => (gi h21 9 a1 10).bind fun x23 => (pf h21 9 a1 10 (.int (x23 + (1 : Int32)))).bind fun h24 => some h24) else ((gi h 7 a0 4).bind fun x25 => (f_X8_blame a0 (3 : Int32) x25 h).bind fun h26 => some h26)) else none
set_option maxRecDepth 100000 in
set_option maxHeartbeats 4000000 in
theorem c_X8_readChild (X : SX) (d : Nat) (a0 : Nat) (a1 : Nat) (h : AH) (h' : AH) (hf : f_X8_readChild a0 a1 h = some h') : isO h 7 a0 = true ∧ G X mX8_readChild (d + 2) 0 [(0, .ref a0), (1, .ref a1)] [] h none h' := by
  unfold f_X8_readChild at hf
  by_cases ho : isO h 7 a0 = true
  · rw [if_pos ho] at hf
    refine ⟨ho, ?_⟩
    refine G.aload_n dX8_readChild_0 rfl ?_
    refine G.geti flX8_83 dX8_readChild_1 hf (fun x1 hf => ?_)
    refine G.istore_n (lv' := [(2, .int x1), (0, .ref a0), (1, .ref a1)]) dX8_readChild_4 (by decide) rfl ?_
    refine G.iload_n dX8_readChild_5 rfl ?_
    refine G.bipush (v := (6 : Int32)) dX8_readChild_6 (by decide) ?_
    refine G.icmp_lt 21 dX8_readChild_8 (by decide) (fun c2 => ?_) (fun c2 => ?_)
    · rw [if_pos c2] at hf
      refine G.aload_n dX8_readChild_21 rfl ?_
      refine G.dup dX8_readChild_22 rfl ?_
      refine G.geti flX8_27 dX8_readChild_23 hf (fun x3 hf => ?_)
      refine G.iconst (v := (1 : Int32)) dX8_readChild_26 (by decide) ?_
      refine G.iadd dX8_readChild_27 ?_
      refine G.put flX8_27 (Or.inl rfl) (fun _ _ => ⟨rfl, rfl⟩) dX8_readChild_28 hf (fun h4 hf => ?_)
      refine G.aload_n dX8_readChild_31 rfl ?_
      refine G.getr flX8_86 dX8_readChild_32 hf (fun r5 hf => ?_)
      refine G.iload_n dX8_readChild_35 rfl ?_
      refine G.aload_n dX8_readChild_36 rfl ?_
      refine G.iconst (v := (0 : Int32)) dX8_readChild_37 (by decide) ?_
      refine G.iconst (v := (3 : Int32)) dX8_readChild_38 (by decide) ?_
      obtain ⟨x8, h6, e7, hf⟩ := bT1_spec hf
      refine G.callVi (M' := mX8_readNumber) (ci := 7) (As := [.int (0 : Int32), .int (3 : Int32)]) (st := [.int x1, .ref r5]) okX8_readNumber viX8_readNumber lkX8_57 rfl rfl rfl (Nat.le_of_ble_eq_true rfl) (Nat.le_of_ble_eq_true rfl) dX8_readChild_39 (c_X8_readNumber X d _ _ _ _ _ _ e7).1 (c_X8_readNumber X d _ _ _ _ _ _ e7).2 ?_
      refine G.iast dX8_readChild_42 hf (fun h9 hf => ?_)
      refine G.aload_n dX8_readChild_43 rfl ?_
      refine G.getr flX8_89 dX8_readChild_44 hf (fun r10 hf => ?_)
      refine G.iload_n dX8_readChild_47 rfl ?_
      refine G.aload_n dX8_readChild_48 rfl ?_
      refine G.iconst (v := (1 : Int32)) dX8_readChild_49 (by decide) ?_
      refine G.bipush (v := (20 : Int32)) dX8_readChild_50 (by decide) ?_
      obtain ⟨x13, h11, e12, hf⟩ := bT1_spec hf
      refine G.callVi (M' := mX8_readNumber) (ci := 7) (As := [.int (1 : Int32), .int (20 : Int32)]) (st := [.int x1, .ref r10]) okX8_readNumber viX8_readNumber lkX8_57 rfl rfl rfl (Nat.le_of_ble_eq_true rfl) (Nat.le_of_ble_eq_true rfl) dX8_readChild_52 (c_X8_readNumber X d _ _ _ _ _ _ e12).1 (c_X8_readNumber X d _ _ _ _ _ _ e12).2 ?_
      refine G.iast dX8_readChild_55 hf (fun h14 hf => ?_)
      refine G.aload_n dX8_readChild_56 rfl ?_
      refine G.getr flX8_92 dX8_readChild_57 hf (fun r15 hf => ?_)
      refine G.iload_n dX8_readChild_60 rfl ?_
      refine G.aload_n dX8_readChild_61 rfl ?_
      refine G.iconst (v := (0 : Int32)) dX8_readChild_62 (by decide) ?_
      refine G.aload_n dX8_readChild_63 rfl ?_
      refine G.geti flX8_40 dX8_readChild_64 hf (fun x16 hf => ?_)
      refine G.iconst (v := (1 : Int32)) dX8_readChild_67 (by decide) ?_
      refine G.isub dX8_readChild_68 ?_
      obtain ⟨x19, h17, e18, hf⟩ := bT1_spec hf
      refine G.callVi (M' := mX8_readNumber) (ci := 7) (As := [.int (0 : Int32), .int (x16 - (1 : Int32))]) (st := [.int x1, .ref r15]) okX8_readNumber viX8_readNumber lkX8_57 rfl rfl rfl (Nat.le_of_ble_eq_true rfl) (Nat.le_of_ble_eq_true rfl) dX8_readChild_69 (c_X8_readNumber X d _ _ _ _ _ _ e18).1 (c_X8_readNumber X d _ _ _ _ _ _ e18).2 ?_
      refine G.iast dX8_readChild_72 hf (fun h20 hf => ?_)
      refine G.aload_n dX8_readChild_73 rfl ?_
      obtain ⟨h21, e22, hf⟩ := Option.bind_eq_some_iff.mp hf
      refine G.callVv (M' := mX8_readEnd) (ci := 7) (As := []) (st := []) okX8_readEnd viX8_readEnd lkX8_61 rfl rfl rfl (Nat.le_of_ble_eq_true rfl) (Nat.le_of_ble_eq_true rfl) dX8_readChild_74 (c_X8_readEnd X d _ _ _ e22).1 (c_X8_readEnd X d _ _ _ e22).2 ?_
      refine G.aload_n dX8_readChild_77 rfl ?_
      refine G.dup dX8_readChild_78 rfl ?_
      refine G.geti flX8_83 dX8_readChild_79 hf (fun x23 hf => ?_)
      refine G.iconst (v := (1 : Int32)) dX8_readChild_82 (by decide) ?_
      refine G.iadd dX8_readChild_83 ?_
      refine G.put flX8_83 (Or.inl rfl) (fun _ _ => ⟨rfl, rfl⟩) dX8_readChild_84 hf (fun h24 hf => ?_)
      have hq := Option.some.inj hf
      subst hq
      exact G.vret rfl dX8_readChild_87
    · rw [if_neg c2] at hf
      refine G.aload_n dX8_readChild_11 rfl ?_
      refine G.iconst (v := (3 : Int32)) dX8_readChild_12 (by decide) ?_
      refine G.aload_n dX8_readChild_13 rfl ?_
      refine G.geti flX8_27 dX8_readChild_14 hf (fun x25 hf => ?_)
      obtain ⟨h26, e27, hf⟩ := Option.bind_eq_some_iff.mp hf
      refine G.callVv (M' := mX8_blame) (ci := 7) (As := [.int (3 : Int32), .int x25]) (st := []) okX8_blame viX8_blame lkX8_53 rfl rfl rfl (Nat.le_of_ble_eq_true rfl) (Nat.le_of_ble_eq_true rfl) dX8_readChild_17 (c_X8_blame X (d + 1) _ _ _ _ _ e27).1 (c_X8_blame X (d + 1) _ _ _ _ _ e27).2 ?_
      have hq := Option.some.inj hf
      subst hq
      exact G.vret rfl dX8_readChild_20
  · rw [if_neg ho] at hf
    cases hf
/-! X8_readClause -/
theorem dX8_readClause_0 : decode cX8_readClause 0 = .ok (.aload_n 0, 1) := by decide +kernel
theorem dX8_readClause_1 : decode cX8_readClause 1 = .ok (.getfield 9, 3) := by decide +kernel
theorem dX8_readClause_4 : decode cX8_readClause 4 = .ok (.aload_n 0, 1) := by decide +kernel
theorem dX8_readClause_5 : decode cX8_readClause 5 = .ok (.getfield 27, 3) := by decide +kernel
theorem dX8_readClause_8 : decode cX8_readClause 8 = .ok (.caload, 1) := by decide +kernel
theorem dX8_readClause_9 : decode cX8_readClause 9 = .ok (.istore_n 2, 1) := by decide +kernel
theorem dX8_readClause_10 : decode cX8_readClause 10 = .ok (.aload_n 1, 1) := by decide +kernel
theorem dX8_readClause_11 : decode cX8_readClause 11 = .ok (.getfield 40, 3) := by decide +kernel
theorem dX8_readClause_14 : decode cX8_readClause 14 = .ok (.ifCond .ne 7, 3) := by decide +kernel
theorem dX8_readClause_17 : decode cX8_readClause 17 = .ok (.iconst 1, 1) := by decide +kernel
theorem dX8_readClause_18 : decode cX8_readClause 18 = .ok (.goto 4, 3) := by decide +kernel
theorem dX8_readClause_21 : decode cX8_readClause 21 = .ok (.iconst 0, 1) := by decide +kernel
theorem dX8_readClause_22 : decode cX8_readClause 22 = .ok (.istore_n 3, 1) := by decide +kernel
theorem dX8_readClause_23 : decode cX8_readClause 23 = .ok (.iload_n 2, 1) := by decide +kernel
theorem dX8_readClause_24 : decode cX8_readClause 24 = .ok (.bipush 114, 2) := by decide +kernel
theorem dX8_readClause_26 : decode cX8_readClause 26 = .ok (.if_icmp .ne 12, 3) := by decide +kernel
theorem dX8_readClause_29 : decode cX8_readClause 29 = .ok (.aload_n 0, 1) := by decide +kernel
theorem dX8_readClause_30 : decode cX8_readClause 30 = .ok (.aload_n 1, 1) := by decide +kernel
theorem dX8_readClause_31 : decode cX8_readClause 31 = .ok (.iload_n 3, 1) := by decide +kernel
theorem dX8_readClause_32 : decode cX8_readClause 32 = .ok (.invokevirtual 43, 3) := by decide +kernel
theorem dX8_readClause_35 : decode cX8_readClause 35 = .ok (.goto 48, 3) := by decide +kernel
theorem dX8_readClause_38 : decode cX8_readClause 38 = .ok (.iload_n 2, 1) := by decide +kernel
theorem dX8_readClause_39 : decode cX8_readClause 39 = .ok (.bipush 115, 2) := by decide +kernel
theorem dX8_readClause_41 : decode cX8_readClause 41 = .ok (.if_icmp .ne 15, 3) := by decide +kernel
theorem dX8_readClause_44 : decode cX8_readClause 44 = .ok (.iload_n 3, 1) := by decide +kernel
theorem dX8_readClause_45 : decode cX8_readClause 45 = .ok (.ifCond .ne 11, 3) := by decide +kernel
theorem dX8_readClause_48 : decode cX8_readClause 48 = .ok (.aload_n 0, 1) := by decide +kernel
theorem dX8_readClause_49 : decode cX8_readClause 49 = .ok (.aload_n 1, 1) := by decide +kernel
theorem dX8_readClause_50 : decode cX8_readClause 50 = .ok (.invokevirtual 47, 3) := by decide +kernel
theorem dX8_readClause_53 : decode cX8_readClause 53 = .ok (.goto 30, 3) := by decide +kernel
theorem dX8_readClause_56 : decode cX8_readClause 56 = .ok (.iload_n 2, 1) := by decide +kernel
theorem dX8_readClause_57 : decode cX8_readClause 57 = .ok (.bipush 99, 2) := by decide +kernel
theorem dX8_readClause_59 : decode cX8_readClause 59 = .ok (.if_icmp .ne 15, 3) := by decide +kernel
theorem dX8_readClause_62 : decode cX8_readClause 62 = .ok (.iload_n 3, 1) := by decide +kernel
theorem dX8_readClause_63 : decode cX8_readClause 63 = .ok (.ifCond .ne 11, 3) := by decide +kernel
theorem dX8_readClause_66 : decode cX8_readClause 66 = .ok (.aload_n 0, 1) := by decide +kernel
theorem dX8_readClause_67 : decode cX8_readClause 67 = .ok (.aload_n 1, 1) := by decide +kernel
theorem dX8_readClause_68 : decode cX8_readClause 68 = .ok (.invokevirtual 50, 3) := by decide +kernel
theorem dX8_readClause_71 : decode cX8_readClause 71 = .ok (.goto 12, 3) := by decide +kernel
theorem dX8_readClause_74 : decode cX8_readClause 74 = .ok (.aload_n 0, 1) := by decide +kernel
theorem dX8_readClause_75 : decode cX8_readClause 75 = .ok (.iconst 1, 1) := by decide +kernel
theorem dX8_readClause_76 : decode cX8_readClause 76 = .ok (.aload_n 0, 1) := by decide +kernel
theorem dX8_readClause_77 : decode cX8_readClause 77 = .ok (.getfield 27, 3) := by decide +kernel
theorem dX8_readClause_80 : decode cX8_readClause 80 = .ok (.invokevirtual 53, 3) := by decide +kernel
theorem dX8_readClause_83 : decode cX8_readClause 83 = .ok (.return_, 1) := by decide +kernel
def f_X8_readClause_74 (v0 : Nat) (h : AH) : Option (AH) := (gi h 7 v0 4).bind fun x1 => (f_X8_blame v0 (1 : Int32) x1 h).bind fun h2 => some h2
set_option maxRecDepth 100000 in
set_option maxHeartbeats 4000000 in
theorem j_X8_readClause_74 (X : SX) (d : Nat) (v0 : Nat) (h : AH) (h' : AH) (hf : f_X8_readClause_74 v0 h = some h') : G X mX8_readClause (d + 3) 74 [(0, .ref v0)] [] h none h' := by
  unfold f_X8_readClause_74 at hf
  refine G.aload_n dX8_readClause_74 rfl ?_
  refine G.iconst (v := (1 : Int32)) dX8_readClause_75 (by decide) ?_
  refine G.aload_n dX8_readClause_76 rfl ?_
  refine G.geti flX8_27 dX8_readClause_77 hf (fun x1 hf => ?_)
  obtain ⟨h2, e3, hf⟩ := Option.bind_eq_some_iff.mp hf
  refine G.callVv (M' := mX8_blame) (ci := 7) (As := [.int (1 : Int32), .int x1]) (st := []) okX8_blame viX8_blame lkX8_53 rfl rfl rfl (Nat.le_of_ble_eq_true rfl) (Nat.le_of_ble_eq_true rfl) dX8_readClause_80 (c_X8_blame X (d + 2) _ _ _ _ _ e3).1 (c_X8_blame X (d + 2) _ _ _ _ _ e3).2 ?_
  have hq := Option.some.inj hf
  subst hq
  exact G.vret rfl dX8_readClause_83
def f_X8_readClause_56 (v0 : Nat) (v1 : Nat) (v2 : Int32) (v3 : Int32) (h : AH) : Option (AH) := if v2 = (99 : Int32) then (if v3 = 0 then ((f_X8_readChild v0 v1 h).bind fun h3 => some h3) else (f_X8_readClause_74 v0 h)) else (f_X8_readClause_74 v0 h)
set_option maxRecDepth 100000 in
set_option maxHeartbeats 4000000 in
theorem j_X8_readClause_56 (X : SX) (d : Nat) (v0 : Nat) (v1 : Nat) (v2 : Int32) (v3 : Int32) (h : AH) (h' : AH) (hf : f_X8_readClause_56 v0 v1 v2 v3 h = some h') : G X mX8_readClause (d + 3) 56 [(0, .ref v0), (1, .ref v1), (2, .int v2), (3, .int v3)] [] h none h' := by
  unfold f_X8_readClause_56 at hf
  refine G.iload_n dX8_readClause_56 rfl ?_
  refine G.bipush (v := (99 : Int32)) dX8_readClause_57 (by decide) ?_
  refine G.icmp_ne 74 dX8_readClause_59 (by decide) (fun c1 => ?_) (fun c1 => ?_)
  · rw [if_neg c1] at hf
    exact G.pick [0] rfl (j_X8_readClause_74 X d v0 h _ hf)
  · rw [if_pos c1] at hf
    refine G.iload_n dX8_readClause_62 rfl ?_
    refine G.if_ne 74 dX8_readClause_63 (by decide) (fun c2 => ?_) (fun c2 => ?_)
    · rw [if_neg c2] at hf
      exact G.pick [0] rfl (j_X8_readClause_74 X d v0 h _ hf)
    · rw [if_pos c2] at hf
      refine G.aload_n dX8_readClause_66 rfl ?_
      refine G.aload_n dX8_readClause_67 rfl ?_
      obtain ⟨h3, e4, hf⟩ := Option.bind_eq_some_iff.mp hf
      refine G.callVv (M' := mX8_readChild) (ci := 7) (As := [.ref v1]) (st := []) okX8_readChild viX8_readChild lkX8_50 rfl rfl rfl (Nat.le_of_ble_eq_true rfl) (Nat.le_of_ble_eq_true rfl) dX8_readClause_68 (c_X8_readChild X d _ _ _ _ e4).1 (c_X8_readChild X d _ _ _ _ e4).2 ?_
      refine G.goto 83 dX8_readClause_71 (by decide) ?_
      have hq := Option.some.inj hf
      subst hq
      exact G.vret rfl dX8_readClause_83
def f_X8_readClause_22 (v0 : Nat) (v1 : Nat) (v2 : Int32) (s0 : Int32) (h : AH) : Option (AH) := if v2 = (114 : Int32) then ((f_X8_readHouses v0 v1 s0 h).bind fun h6 => some h6) else (if v2 = (115 : Int32) then (if s0 = 0 then ((f_X8_readSinger v0 v1 h).bind fun h4 => some h4) else (f_X8_readClause_56 v0 v1 v2 s0 h)) else (f_X8_readClause_56 v0 v1 v2 s0 h))
set_option maxRecDepth 100000 in
set_option maxHeartbeats 4000000 in
theorem j_X8_readClause_22 (X : SX) (d : Nat) (v0 : Nat) (v1 : Nat) (v2 : Int32) (s0 : Int32) (h : AH) (h' : AH) (hf : f_X8_readClause_22 v0 v1 v2 s0 h = some h') : G X mX8_readClause (d + 3) 22 [(0, .ref v0), (1, .ref v1), (2, .int v2)] [.int s0] h none h' := by
  unfold f_X8_readClause_22 at hf
  refine G.istore_n (lv' := [(3, .int s0), (0, .ref v0), (1, .ref v1), (2, .int v2)]) dX8_readClause_22 (by decide) rfl ?_
  refine G.iload_n dX8_readClause_23 rfl ?_
  refine G.bipush (v := (114 : Int32)) dX8_readClause_24 (by decide) ?_
  refine G.icmp_ne 38 dX8_readClause_26 (by decide) (fun c1 => ?_) (fun c1 => ?_)
  · rw [if_neg c1] at hf
    refine G.iload_n dX8_readClause_38 rfl ?_
    refine G.bipush (v := (115 : Int32)) dX8_readClause_39 (by decide) ?_
    refine G.icmp_ne 56 dX8_readClause_41 (by decide) (fun c2 => ?_) (fun c2 => ?_)
    · rw [if_neg c2] at hf
      exact G.pick [1, 2, 3, 0] rfl (j_X8_readClause_56 X d v0 v1 v2 s0 h _ hf)
    · rw [if_pos c2] at hf
      refine G.iload_n dX8_readClause_44 rfl ?_
      refine G.if_ne 56 dX8_readClause_45 (by decide) (fun c3 => ?_) (fun c3 => ?_)
      · rw [if_neg c3] at hf
        exact G.pick [1, 2, 3, 0] rfl (j_X8_readClause_56 X d v0 v1 v2 s0 h _ hf)
      · rw [if_pos c3] at hf
        refine G.aload_n dX8_readClause_48 rfl ?_
        refine G.aload_n dX8_readClause_49 rfl ?_
        obtain ⟨h4, e5, hf⟩ := Option.bind_eq_some_iff.mp hf
        refine G.callVv (M' := mX8_readSinger) (ci := 7) (As := [.ref v1]) (st := []) okX8_readSinger viX8_readSinger lkX8_47 rfl rfl rfl (Nat.le_of_ble_eq_true rfl) (Nat.le_of_ble_eq_true rfl) dX8_readClause_50 (c_X8_readSinger X d _ _ _ _ e5).1 (c_X8_readSinger X d _ _ _ _ e5).2 ?_
        refine G.goto 83 dX8_readClause_53 (by decide) ?_
        have hq := Option.some.inj hf
        subst hq
        exact G.vret rfl dX8_readClause_83
  · rw [if_pos c1] at hf
    refine G.aload_n dX8_readClause_29 rfl ?_
    refine G.aload_n dX8_readClause_30 rfl ?_
    refine G.iload_n dX8_readClause_31 rfl ?_
    obtain ⟨h6, e7, hf⟩ := Option.bind_eq_some_iff.mp hf
    refine G.callVv (M' := mX8_readHouses) (ci := 7) (As := [.ref v1, .int s0]) (st := []) okX8_readHouses viX8_readHouses lkX8_43 rfl rfl rfl (Nat.le_of_ble_eq_true rfl) (Nat.le_of_ble_eq_true rfl) dX8_readClause_32 (c_X8_readHouses X d _ _ _ _ _ e7).1 (c_X8_readHouses X d _ _ _ _ _ e7).2 ?_
    refine G.goto 83 dX8_readClause_35 (by decide) ?_
    have hq := Option.some.inj hf
    subst hq
    exact G.vret rfl dX8_readClause_83
def f_X8_readClause (a0 : Nat) (a1 : Nat) (h : AH) : Option (AH) := if isO h 7 a0 = true then ((gr h 7 a0 0).bind fun r1 => (gi h 7 a0 4).bind fun x2 => (ai h 1 r1 x2).bind fun x3 => (gi h 9 a1 7).bind fun x4 => if x4 = 0 then (f_X8_readClause_22 a0 a1 x3 (1 : Int32) h) else (f_X8_readClause_22 a0 a1 x3 (0 : Int32) h)) else none
set_option maxRecDepth 100000 in
set_option maxHeartbeats 4000000 in
theorem c_X8_readClause (X : SX) (d : Nat) (a0 : Nat) (a1 : Nat) (h : AH) (h' : AH) (hf : f_X8_readClause a0 a1 h = some h') : isO h 7 a0 = true ∧ G X mX8_readClause (d + 3) 0 [(0, .ref a0), (1, .ref a1)] [] h none h' := by
  unfold f_X8_readClause at hf
  by_cases ho : isO h 7 a0 = true
  · rw [if_pos ho] at hf
    refine ⟨ho, ?_⟩
    refine G.aload_n dX8_readClause_0 rfl ?_
    refine G.getr flX8_9 dX8_readClause_1 hf (fun r1 hf => ?_)
    refine G.aload_n dX8_readClause_4 rfl ?_
    refine G.geti flX8_27 dX8_readClause_5 hf (fun x2 hf => ?_)
    refine G.cald dX8_readClause_8 hf (fun x3 hf => ?_)
    refine G.istore_n (lv' := [(2, .int x3), (0, .ref a0), (1, .ref a1)]) dX8_readClause_9 (by decide) rfl ?_
    refine G.aload_n dX8_readClause_10 rfl ?_
    refine G.geti flX8_40 dX8_readClause_11 hf (fun x4 hf => ?_)
    refine G.if_ne 21 dX8_readClause_14 (by decide) (fun c5 => ?_) (fun c5 => ?_)
    · rw [if_neg c5] at hf
      refine G.iconst (v := (0 : Int32)) dX8_readClause_21 (by decide) ?_
      exact G.pick [1, 2, 0] rfl (j_X8_readClause_22 X d a0 a1 x3 (0 : Int32) h _ hf)
    · rw [if_pos c5] at hf
      refine G.iconst (v := (1 : Int32)) dX8_readClause_17 (by decide) ?_
      refine G.goto 22 dX8_readClause_18 (by decide) ?_
      exact G.pick [1, 2, 0] rfl (j_X8_readClause_22 X d a0 a1 x3 (1 : Int32) h _ hf)
  · rw [if_neg ho] at hf
    cases hf
/-! X8_readInto -/
theorem dX8_readInto_0 : decode cX8_readInto 0 = .ok (.aload_n 1, 1) := by decide +kernel
theorem dX8_readInto_1 : decode cX8_readInto 1 = .ok (.invokevirtual 22, 3) := by decide +kernel
theorem dX8_readInto_4 : decode cX8_readInto 4 = .ok (.aload_n 0, 1) := by decide +kernel
theorem dX8_readInto_5 : decode cX8_readInto 5 = .ok (.iconst 0, 1) := by decide +kernel
theorem dX8_readInto_6 : decode cX8_readInto 6 = .ok (.putfield 27, 3) := by decide +kernel
theorem dX8_readInto_9 : decode cX8_readInto 9 = .ok (.aload_n 0, 1) := by decide +kernel
theorem dX8_readInto_10 : decode cX8_readInto 10 = .ok (.iconst 0, 1) := by decide +kernel
theorem dX8_readInto_11 : decode cX8_readInto 11 = .ok (.putfield 30, 3) := by decide +kernel
theorem dX8_readInto_14 : decode cX8_readInto 14 = .ok (.aload_n 0, 1) := by decide +kernel
theorem dX8_readInto_15 : decode cX8_readInto 15 = .ok (.iconst (-1), 1) := by decide +kernel
theorem dX8_readInto_16 : decode cX8_readInto 16 = .ok (.putfield 15, 3) := by decide +kernel
theorem dX8_readInto_19 : decode cX8_readInto 19 = .ok (.aload_n 0, 1) := by decide +kernel
theorem dX8_readInto_20 : decode cX8_readInto 20 = .ok (.invokevirtual 33, 3) := by decide +kernel
theorem dX8_readInto_23 : decode cX8_readInto 23 = .ok (.iconst 0, 1) := by decide +kernel
theorem dX8_readInto_24 : decode cX8_readInto 24 = .ok (.istore_n 2, 1) := by decide +kernel
theorem dX8_readInto_25 : decode cX8_readInto 25 = .ok (.iload_n 2, 1) := by decide +kernel
theorem dX8_readInto_26 : decode cX8_readInto 26 = .ok (.sipush 240, 3) := by decide +kernel
theorem dX8_readInto_29 : decode cX8_readInto 29 = .ok (.if_icmp .ge 36, 3) := by decide +kernel
theorem dX8_readInto_32 : decode cX8_readInto 32 = .ok (.aload_n 0, 1) := by decide +kernel
theorem dX8_readInto_33 : decode cX8_readInto 33 = .ok (.getfield 27, 3) := by decide +kernel
theorem dX8_readInto_36 : decode cX8_readInto 36 = .ok (.aload_n 0, 1) := by decide +kernel
theorem dX8_readInto_37 : decode cX8_readInto 37 = .ok (.getfield 19, 3) := by decide +kernel
theorem dX8_readInto_40 : decode cX8_readInto 40 = .ok (.if_icmp .ge 25, 3) := by decide +kernel
theorem dX8_readInto_43 : decode cX8_readInto 43 = .ok (.aload_n 0, 1) := by decide +kernel
theorem dX8_readInto_44 : decode cX8_readInto 44 = .ok (.getfield 30, 3) := by decide +kernel
theorem dX8_readInto_47 : decode cX8_readInto 47 = .ok (.ifCond .ne 18, 3) := by decide +kernel
theorem dX8_readInto_50 : decode cX8_readInto 50 = .ok (.aload_n 0, 1) := by decide +kernel
theorem dX8_readInto_51 : decode cX8_readInto 51 = .ok (.aload_n 1, 1) := by decide +kernel
theorem dX8_readInto_52 : decode cX8_readInto 52 = .ok (.invokevirtual 36, 3) := by decide +kernel
theorem dX8_readInto_55 : decode cX8_readInto 55 = .ok (.aload_n 0, 1) := by decide +kernel
theorem dX8_readInto_56 : decode cX8_readInto 56 = .ok (.invokevirtual 33, 3) := by decide +kernel
theorem dX8_readInto_59 : decode cX8_readInto 59 = .ok (.iinc 2 1, 3) := by decide +kernel
theorem dX8_readInto_62 : decode cX8_readInto 62 = .ok (.goto (-37), 3) := by decide +kernel
theorem dX8_readInto_65 : decode cX8_readInto 65 = .ok (.aload_n 0, 1) := by decide +kernel
theorem dX8_readInto_66 : decode cX8_readInto 66 = .ok (.iconst 0, 1) := by decide +kernel
theorem dX8_readInto_67 : decode cX8_readInto 67 = .ok (.putfield 19, 3) := by decide +kernel
theorem dX8_readInto_70 : decode cX8_readInto 70 = .ok (.aload_n 0, 1) := by decide +kernel
theorem dX8_readInto_71 : decode cX8_readInto 71 = .ok (.getfield 30, 3) := by decide +kernel
theorem dX8_readInto_74 : decode cX8_readInto 74 = .ok (.ireturn, 1) := by decide +kernel
def F_X8_readInto_L25 (rec : Nat → Nat → Int32 → AH → Option (AH)) (v0 : Nat) (v1 : Nat) (v2 : Int32) (h : AH) : Option (AH) := if (240 : Int32) ≤ v2 then (some (h)) else ((gi h 7 v0 4).bind fun x2 => (gi h 7 v0 1).bind fun x3 => if x3 ≤ x2 then (some (h)) else ((gi h 7 v0 3).bind fun x5 => if x5 = 0 then ((f_X8_readClause v0 v1 h).bind fun h7 => (f_X8_skipBlanks v0 h7).bind fun h9 => rec v0 v1 (v2 + 1) h9) else (some (h))))
def f_X8_readInto_L25 : Nat → Nat → Nat → Int32 → AH → Option (AH)
  | 0 => fun _ _ _ _ => none
  | n + 1 => F_X8_readInto_L25 (f_X8_readInto_L25 n)
set_option maxRecDepth 100000 in
set_option maxHeartbeats 4000000 in
theorem lx_X8_readInto_L25 (X : SX) (d : Nat) : ∀ n (rv : Option Int32) (h' : AH), ∀ (v0 : Nat) (v1 : Nat) (v2 : Int32) (h : AH)  (h1 : AH), f_X8_readInto_L25 n v0 v1 v2 h = some (h1) → G X mX8_readInto (d + 4) 65 [(0, .ref v0)] [] h1 rv h' → G X mX8_readInto (d + 4) 25 [(0, .ref v0), (1, .ref v1), (2, .int v2)] [] h rv h' := by
  intro n
  induction n with
  | zero =>
    intro rv h' v0 v1 v2 h h1 hf hE
    cases hf
  | succ n ihf =>
    intro rv h' v0 v1 v2 h h1 hf hE
    replace hf : F_X8_readInto_L25 (f_X8_readInto_L25 n) v0 v1 v2 h = some (h1) := hf
    unfold F_X8_readInto_L25 at hf
    have ih := ihf rv h'
    refine G.iload_n dX8_readInto_25 rfl ?_
    refine G.sipush (v := (240 : Int32)) dX8_readInto_26 (by decide) ?_
    refine G.icmp_ge 65 dX8_readInto_29 (by decide) (fun c1 => ?_) (fun c1 => ?_)
    · rw [if_pos c1] at hf
      have w0 := Option.some.inj hf
      subst w0
      exact G.pick [0] rfl hE
    · rw [if_neg c1] at hf
      refine G.aload_n dX8_readInto_32 rfl ?_
      refine G.geti flX8_27 dX8_readInto_33 hf (fun x2 hf => ?_)
      refine G.aload_n dX8_readInto_36 rfl ?_
      refine G.geti flX8_19 dX8_readInto_37 hf (fun x3 hf => ?_)
      refine G.icmp_ge 65 dX8_readInto_40 (by decide) (fun c4 => ?_) (fun c4 => ?_)
      · rw [if_pos c4] at hf
        have w0 := Option.some.inj hf
        subst w0
        exact G.pick [0] rfl hE
      · rw [if_neg c4] at hf
        refine G.aload_n dX8_readInto_43 rfl ?_
        refine G.geti flX8_30 dX8_readInto_44 hf (fun x5 hf => ?_)
        refine G.if_ne 65 dX8_readInto_47 (by decide) (fun c6 => ?_) (fun c6 => ?_)
        · rw [if_neg c6] at hf
          have w0 := Option.some.inj hf
          subst w0
          exact G.pick [0] rfl hE
        · rw [if_pos c6] at hf
          refine G.aload_n dX8_readInto_50 rfl ?_
          refine G.aload_n dX8_readInto_51 rfl ?_
          obtain ⟨h7, e8, hf⟩ := Option.bind_eq_some_iff.mp hf
          refine G.callVv (M' := mX8_readClause) (ci := 7) (As := [.ref v1]) (st := []) okX8_readClause viX8_readClause lkX8_36 rfl rfl rfl (Nat.le_of_ble_eq_true rfl) (Nat.le_of_ble_eq_true rfl) dX8_readInto_52 (c_X8_readClause X d _ _ _ _ e8).1 (c_X8_readClause X d _ _ _ _ e8).2 ?_
          refine G.aload_n dX8_readInto_55 rfl ?_
          obtain ⟨h9, e10, hf⟩ := Option.bind_eq_some_iff.mp hf
          refine G.callVv (M' := mX8_skipBlanks) (ci := 7) (As := []) (st := []) okX8_skipBlanks viX8_skipBlanks lkX8_33 rfl rfl rfl (Nat.le_of_ble_eq_true rfl) (Nat.le_of_ble_eq_true rfl) dX8_readInto_56 (c_X8_skipBlanks X (d + 3) _ _ _ e10).1 (c_X8_skipBlanks X (d + 3) _ _ _ e10).2 ?_
          refine G.iinc (v := (v2 + 1)) (lv' := [(2, .int (v2 + 1)), (0, .ref v0), (1, .ref v1)]) dX8_readInto_59 rfl rfl (by decide) rfl ?_
          refine G.goto 25 dX8_readInto_62 (by decide) ?_
          exact G.pick [1, 2, 0] rfl (ih v0 v1 (v2 + 1) h9 _ hf hE)
theorem l_X8_readInto_L25 (X : SX) (d : Nat) (rv : Option Int32) (h' : AH) (n : Nat) : ∀ (v0 : Nat) (v1 : Nat) (v2 : Int32) (h : AH)  (h1 : AH), f_X8_readInto_L25 n v0 v1 v2 h = some (h1) → G X mX8_readInto (d + 4) 65 [(0, .ref v0)] [] h1 rv h' → G X mX8_readInto (d + 4) 25 [(0, .ref v0), (1, .ref v1), (2, .int v2)] [] h rv h' := lx_X8_readInto_L25 X d n rv h'
def f_X8_readInto_65 (v0 : Nat) (h : AH) : Option (Int32 × AH) := (pf h 7 v0 1 (.int (0 : Int32))).bind fun h1 => (gi h1 7 v0 3).bind fun x2 => some (x2, h1)
set_option maxRecDepth 100000 in
set_option maxHeartbeats 4000000 in
theorem j_X8_readInto_65 (X : SX) (d : Nat) (v0 : Nat) (h : AH) (rr : Int32) (h' : AH) (hf : f_X8_readInto_65 v0 h = some (rr, h')) : G X mX8_readInto (d + 4) 65 [(0, .ref v0)] [] h (some rr) h' := by
  unfold f_X8_readInto_65 at hf
  refine G.aload_n dX8_readInto_65 rfl ?_
  refine G.iconst (v := (0 : Int32)) dX8_readInto_66 (by decide) ?_
  refine G.put flX8_19 (Or.inl rfl) (fun _ _ => ⟨rfl, rfl⟩) dX8_readInto_67 hf (fun h1 hf => ?_)
  refine G.aload_n dX8_readInto_70 rfl ?_
  refine G.geti flX8_30 dX8_readInto_71 hf (fun x2 hf => ?_)
  obtain ⟨hq1, hq2⟩ := Prod.mk.inj (Option.some.inj hf)
  subst hq1
  subst hq2
  exact G.iret rfl rfl dX8_readInto_74
def f_X8_readInto (a0 : Nat) (a1 : Nat) (h : AH) : Option (Int32 × AH) := if isO h 7 a0 = true then ((f_X10_clear a1 h).bind fun h1 => (pf h1 7 a0 4 (.int (0 : Int32))).bind fun h3 => (pf h3 7 a0 3 (.int (0 : Int32))).bind fun h4 => (pf h4 7 a0 2 (.int (-1 : Int32))).bind fun h5 => (f_X8_skipBlanks a0 h5).bind fun h6 => (f_X8_readInto_L25 1000000 a0 a1 (0 : Int32) h6).bind fun h8 => f_X8_readInto_65 a0 h8) else none
set_option maxRecDepth 100000 in
set_option maxHeartbeats 4000000 in
theorem c_X8_readInto (X : SX) (d : Nat) (a0 : Nat) (a1 : Nat) (h : AH) (rr : Int32) (h' : AH) (hf : f_X8_readInto a0 a1 h = some (rr, h')) : isO h 7 a0 = true ∧ G X mX8_readInto (d + 4) 0 [(0, .ref a0), (1, .ref a1)] [] h (some rr) h' := by
  unfold f_X8_readInto at hf
  by_cases ho : isO h 7 a0 = true
  · rw [if_pos ho] at hf
    refine ⟨ho, ?_⟩
    refine G.aload_n dX8_readInto_0 rfl ?_
    obtain ⟨h1, e2, hf⟩ := Option.bind_eq_some_iff.mp hf
    refine G.callVv (M' := mX10_clear) (ci := 9) (As := []) (st := []) okX10_clear viX10_clear lkX8_22 rfl rfl rfl (Nat.le_of_ble_eq_true rfl) (Nat.le_of_ble_eq_true rfl) dX8_readInto_1 (c_X10_clear X (d + 3) _ _ _ e2).1 (c_X10_clear X (d + 3) _ _ _ e2).2 ?_
    refine G.aload_n dX8_readInto_4 rfl ?_
    refine G.iconst (v := (0 : Int32)) dX8_readInto_5 (by decide) ?_
    refine G.put flX8_27 (Or.inl rfl) (fun _ _ => ⟨rfl, rfl⟩) dX8_readInto_6 hf (fun h3 hf => ?_)
    refine G.aload_n dX8_readInto_9 rfl ?_
    refine G.iconst (v := (0 : Int32)) dX8_readInto_10 (by decide) ?_
    refine G.put flX8_30 (Or.inl rfl) (fun _ _ => ⟨rfl, rfl⟩) dX8_readInto_11 hf (fun h4 hf => ?_)
    refine G.aload_n dX8_readInto_14 rfl ?_
    refine G.iconst (v := (-1 : Int32)) dX8_readInto_15 (by decide) ?_
    refine G.put flX8_15 (Or.inl rfl) (fun _ _ => ⟨rfl, rfl⟩) dX8_readInto_16 hf (fun h5 hf => ?_)
    refine G.aload_n dX8_readInto_19 rfl ?_
    obtain ⟨h6, e7, hf⟩ := Option.bind_eq_some_iff.mp hf
    refine G.callVv (M' := mX8_skipBlanks) (ci := 7) (As := []) (st := []) okX8_skipBlanks viX8_skipBlanks lkX8_33 rfl rfl rfl (Nat.le_of_ble_eq_true rfl) (Nat.le_of_ble_eq_true rfl) dX8_readInto_20 (c_X8_skipBlanks X (d + 3) _ _ _ e7).1 (c_X8_skipBlanks X (d + 3) _ _ _ e7).2 ?_
    refine G.iconst (v := (0 : Int32)) dX8_readInto_23 (by decide) ?_
    refine G.istore_n (lv' := [(2, .int (0 : Int32)), (0, .ref a0), (1, .ref a1)]) dX8_readInto_24 (by decide) rfl ?_
    obtain ⟨h8, e9, hf⟩ := Option.bind_eq_some_iff.mp hf
    refine G.pick [1, 2, 0] rfl (l_X8_readInto_L25 X d _ _ 1000000 a0 a1 (0 : Int32) h6 h8 e9 ?_)
    exact G.pick [0] rfl (j_X8_readInto_65 X d a0 h8 _ _ hf)
  · rw [if_neg ho] at hf
    cases hf
/-! X3_beginEvening -/
theorem dX3_beginEvening_0 : decode cX3_beginEvening 0 = .ok (.iconst 0, 1) := by decide +kernel
theorem dX3_beginEvening_1 : decode cX3_beginEvening 1 = .ok (.istore_n 1, 1) := by decide +kernel
theorem dX3_beginEvening_2 : decode cX3_beginEvening 2 = .ok (.iload_n 1, 1) := by decide +kernel
theorem dX3_beginEvening_3 : decode cX3_beginEvening 3 = .ok (.aload_n 0, 1) := by decide +kernel
theorem dX3_beginEvening_4 : decode cX3_beginEvening 4 = .ok (.getfield 21, 3) := by decide +kernel
theorem dX3_beginEvening_7 : decode cX3_beginEvening 7 = .ok (.getfield 35, 3) := by decide +kernel
theorem dX3_beginEvening_10 : decode cX3_beginEvening 10 = .ok (.if_icmp .ge 43, 3) := by decide +kernel
theorem dX3_beginEvening_13 : decode cX3_beginEvening 13 = .ok (.aload_n 0, 1) := by decide +kernel
theorem dX3_beginEvening_14 : decode cX3_beginEvening 14 = .ok (.getfield 12, 3) := by decide +kernel
theorem dX3_beginEvening_17 : decode cX3_beginEvening 17 = .ok (.getfield 99, 3) := by decide +kernel
theorem dX3_beginEvening_20 : decode cX3_beginEvening 20 = .ok (.iload_n 1, 1) := by decide +kernel
theorem dX3_beginEvening_21 : decode cX3_beginEvening 21 = .ok (.aload_n 0, 1) := by decide +kernel
theorem dX3_beginEvening_22 : decode cX3_beginEvening 22 = .ok (.getfield 21, 3) := by decide +kernel
theorem dX3_beginEvening_25 : decode cX3_beginEvening 25 = .ok (.getfield 93, 3) := by decide +kernel
theorem dX3_beginEvening_28 : decode cX3_beginEvening 28 = .ok (.iload_n 1, 1) := by decide +kernel
theorem dX3_beginEvening_29 : decode cX3_beginEvening 29 = .ok (.iaload, 1) := by decide +kernel
theorem dX3_beginEvening_30 : decode cX3_beginEvening 30 = .ok (.iastore, 1) := by decide +kernel
theorem dX3_beginEvening_31 : decode cX3_beginEvening 31 = .ok (.aload_n 0, 1) := by decide +kernel
theorem dX3_beginEvening_32 : decode cX3_beginEvening 32 = .ok (.getfield 12, 3) := by decide +kernel
theorem dX3_beginEvening_35 : decode cX3_beginEvening 35 = .ok (.getfield 112, 3) := by decide +kernel
theorem dX3_beginEvening_38 : decode cX3_beginEvening 38 = .ok (.iload_n 1, 1) := by decide +kernel
theorem dX3_beginEvening_39 : decode cX3_beginEvening 39 = .ok (.aload_n 0, 1) := by decide +kernel
theorem dX3_beginEvening_40 : decode cX3_beginEvening 40 = .ok (.getfield 21, 3) := by decide +kernel
theorem dX3_beginEvening_43 : decode cX3_beginEvening 43 = .ok (.getfield 144, 3) := by decide +kernel
theorem dX3_beginEvening_46 : decode cX3_beginEvening 46 = .ok (.iastore, 1) := by decide +kernel
theorem dX3_beginEvening_47 : decode cX3_beginEvening 47 = .ok (.iinc 1 1, 3) := by decide +kernel
theorem dX3_beginEvening_50 : decode cX3_beginEvening 50 = .ok (.goto (-48), 3) := by decide +kernel
theorem dX3_beginEvening_53 : decode cX3_beginEvening 53 = .ok (.aload_n 0, 1) := by decide +kernel
theorem dX3_beginEvening_54 : decode cX3_beginEvening 54 = .ok (.getfield 12, 3) := by decide +kernel
theorem dX3_beginEvening_57 : decode cX3_beginEvening 57 = .ok (.iconst 1, 1) := by decide +kernel
theorem dX3_beginEvening_58 : decode cX3_beginEvening 58 = .ok (.aload_n 0, 1) := by decide +kernel
theorem dX3_beginEvening_59 : decode cX3_beginEvening 59 = .ok (.getfield 21, 3) := by decide +kernel
theorem dX3_beginEvening_62 : decode cX3_beginEvening 62 = .ok (.getfield 49, 3) := by decide +kernel
theorem dX3_beginEvening_65 : decode cX3_beginEvening 65 = .ok (.ishl, 1) := by decide +kernel
theorem dX3_beginEvening_66 : decode cX3_beginEvening 66 = .ok (.iconst 1, 1) := by decide +kernel
theorem dX3_beginEvening_67 : decode cX3_beginEvening 67 = .ok (.isub, 1) := by decide +kernel
theorem dX3_beginEvening_68 : decode cX3_beginEvening 68 = .ok (.putfield 69, 3) := by decide +kernel
theorem dX3_beginEvening_71 : decode cX3_beginEvening 71 = .ok (.iconst 0, 1) := by decide +kernel
theorem dX3_beginEvening_72 : decode cX3_beginEvening 72 = .ok (.istore_n 1, 1) := by decide +kernel
theorem dX3_beginEvening_73 : decode cX3_beginEvening 73 = .ok (.iload_n 1, 1) := by decide +kernel
theorem dX3_beginEvening_74 : decode cX3_beginEvening 74 = .ok (.aload_n 0, 1) := by decide +kernel
theorem dX3_beginEvening_75 : decode cX3_beginEvening 75 = .ok (.getfield 21, 3) := by decide +kernel
theorem dX3_beginEvening_78 : decode cX3_beginEvening 78 = .ok (.getfield 49, 3) := by decide +kernel
theorem dX3_beginEvening_81 : decode cX3_beginEvening 81 = .ok (.if_icmp .ge 19, 3) := by decide +kernel
theorem dX3_beginEvening_84 : decode cX3_beginEvening 84 = .ok (.aload_n 0, 1) := by decide +kernel
theorem dX3_beginEvening_85 : decode cX3_beginEvening 85 = .ok (.getfield 12, 3) := by decide +kernel
theorem dX3_beginEvening_88 : decode cX3_beginEvening 88 = .ok (.getfield 81, 3) := by decide +kernel
theorem dX3_beginEvening_91 : decode cX3_beginEvening 91 = .ok (.iload_n 1, 1) := by decide +kernel
theorem dX3_beginEvening_92 : decode cX3_beginEvening 92 = .ok (.iconst 0, 1) := by decide +kernel
theorem dX3_beginEvening_93 : decode cX3_beginEvening 93 = .ok (.iastore, 1) := by decide +kernel
theorem dX3_beginEvening_94 : decode cX3_beginEvening 94 = .ok (.iinc 1 1, 3) := by decide +kernel
theorem dX3_beginEvening_97 : decode cX3_beginEvening 97 = .ok (.goto (-24), 3) := by decide +kernel
theorem dX3_beginEvening_100 : decode cX3_beginEvening 100 = .ok (.return_, 1) := by decide +kernel
def F_X3_beginEvening_L2 (rec : Nat → Int32 → AH → Option (AH)) (v0 : Nat) (v1 : Int32) (h : AH) : Option (AH) := (gr h 3 v0 1).bind fun r1 => (gi h 9 r1 9).bind fun x2 => if x2 ≤ v1 then (some (h)) else ((gr h 3 v0 0).bind fun r4 => (gr h 4 r4 2).bind fun r5 => (gr h 3 v0 1).bind fun r6 => (gr h 9 r6 3).bind fun r7 => (ai h 0 r7 v1).bind fun x8 => (aw h 0 r5 v1 x8).bind fun h9 => (gr h9 3 v0 0).bind fun r10 => (gr h9 4 r10 3).bind fun r11 => (gr h9 3 v0 1).bind fun r12 => (gi h9 9 r12 8).bind fun x13 => (aw h9 0 r11 v1 x13).bind fun h14 => rec v0 (v1 + 1) h14)
def f_X3_beginEvening_L2 : Nat → Nat → Int32 → AH → Option (AH)
  | 0 => fun _ _ _ => none
  | n + 1 => F_X3_beginEvening_L2 (f_X3_beginEvening_L2 n)
set_option maxRecDepth 100000 in
set_option maxHeartbeats 4000000 in
theorem lx_X3_beginEvening_L2 (X : SX) (d : Nat) : ∀ n (rv : Option Int32) (h' : AH), ∀ (v0 : Nat) (v1 : Int32) (h : AH)  (h1 : AH), f_X3_beginEvening_L2 n v0 v1 h = some (h1) → G X mX3_beginEvening d 53 [(0, .ref v0)] [] h1 rv h' → G X mX3_beginEvening d 2 [(0, .ref v0), (1, .int v1)] [] h rv h' := by
  intro n
  induction n with
  | zero =>
    intro rv h' v0 v1 h h1 hf hE
    cases hf
  | succ n ihf =>
    intro rv h' v0 v1 h h1 hf hE
    replace hf : F_X3_beginEvening_L2 (f_X3_beginEvening_L2 n) v0 v1 h = some (h1) := hf
    unfold F_X3_beginEvening_L2 at hf
    have ih := ihf rv h'
    refine G.iload_n dX3_beginEvening_2 rfl ?_
    refine G.aload_n dX3_beginEvening_3 rfl ?_
    refine G.getr flX3_21 dX3_beginEvening_4 hf (fun r1 hf => ?_)
    refine G.geti flX3_35 dX3_beginEvening_7 hf (fun x2 hf => ?_)
    refine G.icmp_ge 53 dX3_beginEvening_10 (by decide) (fun c3 => ?_) (fun c3 => ?_)
    · rw [if_pos c3] at hf
      have w0 := Option.some.inj hf
      subst w0
      exact G.pick [0] rfl hE
    · rw [if_neg c3] at hf
      refine G.aload_n dX3_beginEvening_13 rfl ?_
      refine G.getr flX3_12 dX3_beginEvening_14 hf (fun r4 hf => ?_)
      refine G.getr flX3_99 dX3_beginEvening_17 hf (fun r5 hf => ?_)
      refine G.iload_n dX3_beginEvening_20 rfl ?_
      refine G.aload_n dX3_beginEvening_21 rfl ?_
      refine G.getr flX3_21 dX3_beginEvening_22 hf (fun r6 hf => ?_)
      refine G.getr flX3_93 dX3_beginEvening_25 hf (fun r7 hf => ?_)
      refine G.iload_n dX3_beginEvening_28 rfl ?_
      refine G.iald dX3_beginEvening_29 hf (fun x8 hf => ?_)
      refine G.iast dX3_beginEvening_30 hf (fun h9 hf => ?_)
      refine G.aload_n dX3_beginEvening_31 rfl ?_
      refine G.getr flX3_12 dX3_beginEvening_32 hf (fun r10 hf => ?_)
      refine G.getr flX3_112 dX3_beginEvening_35 hf (fun r11 hf => ?_)
      refine G.iload_n dX3_beginEvening_38 rfl ?_
      refine G.aload_n dX3_beginEvening_39 rfl ?_
      refine G.getr flX3_21 dX3_beginEvening_40 hf (fun r12 hf => ?_)
      refine G.geti flX3_144 dX3_beginEvening_43 hf (fun x13 hf => ?_)
      refine G.iast dX3_beginEvening_46 hf (fun h14 hf => ?_)
      refine G.iinc (v := (v1 + 1)) (lv' := [(1, .int (v1 + 1)), (0, .ref v0)]) dX3_beginEvening_47 rfl rfl (by decide) rfl ?_
      refine G.goto 2 dX3_beginEvening_50 (by decide) ?_
      exact G.pick [1, 0] rfl (ih v0 (v1 + 1) h14 _ hf hE)
theorem l_X3_beginEvening_L2 (X : SX) (d : Nat) (rv : Option Int32) (h' : AH) (n : Nat) : ∀ (v0 : Nat) (v1 : Int32) (h : AH)  (h1 : AH), f_X3_beginEvening_L2 n v0 v1 h = some (h1) → G X mX3_beginEvening d 53 [(0, .ref v0)] [] h1 rv h' → G X mX3_beginEvening d 2 [(0, .ref v0), (1, .int v1)] [] h rv h' := lx_X3_beginEvening_L2 X d n rv h'
def F_X3_beginEvening_L73 (rec : Nat → Int32 → AH → Option (AH)) (v0 : Nat) (v1 : Int32) (h : AH) : Option (AH) := (gr h 3 v0 1).bind fun r1 => (gi h 9 r1 10).bind fun x2 => if x2 ≤ v1 then (some (h)) else ((gr h 3 v0 0).bind fun r4 => (gr h 4 r4 5).bind fun r5 => (aw h 0 r5 v1 (0 : Int32)).bind fun h6 => rec v0 (v1 + 1) h6)
def f_X3_beginEvening_L73 : Nat → Nat → Int32 → AH → Option (AH)
  | 0 => fun _ _ _ => none
  | n + 1 => F_X3_beginEvening_L73 (f_X3_beginEvening_L73 n)
set_option maxRecDepth 100000 in
set_option maxHeartbeats 4000000 in
theorem lx_X3_beginEvening_L73 (X : SX) (d : Nat) : ∀ n (rv : Option Int32) (h' : AH), ∀ (v0 : Nat) (v1 : Int32) (h : AH)  (h1 : AH), f_X3_beginEvening_L73 n v0 v1 h = some (h1) → G X mX3_beginEvening d 100 [] [] h1 rv h' → G X mX3_beginEvening d 73 [(0, .ref v0), (1, .int v1)] [] h rv h' := by
  intro n
  induction n with
  | zero =>
    intro rv h' v0 v1 h h1 hf hE
    cases hf
  | succ n ihf =>
    intro rv h' v0 v1 h h1 hf hE
    replace hf : F_X3_beginEvening_L73 (f_X3_beginEvening_L73 n) v0 v1 h = some (h1) := hf
    unfold F_X3_beginEvening_L73 at hf
    have ih := ihf rv h'
    refine G.iload_n dX3_beginEvening_73 rfl ?_
    refine G.aload_n dX3_beginEvening_74 rfl ?_
    refine G.getr flX3_21 dX3_beginEvening_75 hf (fun r1 hf => ?_)
    refine G.geti flX3_49 dX3_beginEvening_78 hf (fun x2 hf => ?_)
    refine G.icmp_ge 100 dX3_beginEvening_81 (by decide) (fun c3 => ?_) (fun c3 => ?_)
    · rw [if_pos c3] at hf
      have w0 := Option.some.inj hf
      subst w0
      exact G.pick [] rfl hE
    · rw [if_neg c3] at hf
      refine G.aload_n dX3_beginEvening_84 rfl ?_
      refine G.getr flX3_12 dX3_beginEvening_85 hf (fun r4 hf => ?_)
      refine G.getr flX3_81 dX3_beginEvening_88 hf (fun r5 hf => ?_)
      refine G.iload_n dX3_beginEvening_91 rfl ?_
      refine G.iconst (v := (0 : Int32)) dX3_beginEvening_92 (by decide) ?_
      refine G.iast dX3_beginEvening_93 hf (fun h6 hf => ?_)
      refine G.iinc (v := (v1 + 1)) (lv' := [(1, .int (v1 + 1)), (0, .ref v0)]) dX3_beginEvening_94 rfl rfl (by decide) rfl ?_
      refine G.goto 73 dX3_beginEvening_97 (by decide) ?_
      exact G.pick [1, 0] rfl (ih v0 (v1 + 1) h6 _ hf hE)
theorem l_X3_beginEvening_L73 (X : SX) (d : Nat) (rv : Option Int32) (h' : AH) (n : Nat) : ∀ (v0 : Nat) (v1 : Int32) (h : AH)  (h1 : AH), f_X3_beginEvening_L73 n v0 v1 h = some (h1) → G X mX3_beginEvening d 100 [] [] h1 rv h' → G X mX3_beginEvening d 73 [(0, .ref v0), (1, .int v1)] [] h rv h' := lx_X3_beginEvening_L73 X d n rv h'
def f_X3_beginEvening (a0 : Nat) (h : AH) : Option (AH) := if isO h 3 a0 = true then ((f_X3_beginEvening_L2 1000000 a0 (0 : Int32) h).bind fun h1 => (gr h1 3 a0 0).bind fun r3 => (gr h1 3 a0 1).bind fun r4 => (gi h1 9 r4 10).bind fun x5 => (pf h1 4 r3 7 (.int (((1 : Int32) <<< (x5 &&& 31)) - (1 : Int32)))).bind fun h6 => (f_X3_beginEvening_L73 1000000 a0 (0 : Int32) h6).bind fun h7 => some h7) else none
set_option maxRecDepth 100000 in
set_option maxHeartbeats 4000000 in
theorem c_X3_beginEvening (X : SX) (d : Nat) (a0 : Nat) (h : AH) (h' : AH) (hf : f_X3_beginEvening a0 h = some h') : isO h 3 a0 = true ∧ G X mX3_beginEvening d 0 [(0, .ref a0)] [] h none h' := by
  unfold f_X3_beginEvening at hf
  by_cases ho : isO h 3 a0 = true
  · rw [if_pos ho] at hf
    refine ⟨ho, ?_⟩
    refine G.iconst (v := (0 : Int32)) dX3_beginEvening_0 (by decide) ?_
    refine G.istore_n (lv' := [(1, .int (0 : Int32)), (0, .ref a0)]) dX3_beginEvening_1 (by decide) rfl ?_
    obtain ⟨h1, e2, hf⟩ := Option.bind_eq_some_iff.mp hf
    refine G.pick [1, 0] rfl (l_X3_beginEvening_L2 X d _ _ 1000000 a0 (0 : Int32) h h1 e2 ?_)
    refine G.aload_n dX3_beginEvening_53 rfl ?_
    refine G.getr flX3_12 dX3_beginEvening_54 hf (fun r3 hf => ?_)
    refine G.iconst (v := (1 : Int32)) dX3_beginEvening_57 (by decide) ?_
    refine G.aload_n dX3_beginEvening_58 rfl ?_
    refine G.getr flX3_21 dX3_beginEvening_59 hf (fun r4 hf => ?_)
    refine G.geti flX3_49 dX3_beginEvening_62 hf (fun x5 hf => ?_)
    refine G.ishl dX3_beginEvening_65 ?_
    refine G.iconst (v := (1 : Int32)) dX3_beginEvening_66 (by decide) ?_
    refine G.isub dX3_beginEvening_67 ?_
    refine G.put flX3_69 (Or.inl rfl) (fun _ _ => ⟨rfl, rfl⟩) dX3_beginEvening_68 hf (fun h6 hf => ?_)
    refine G.iconst (v := (0 : Int32)) dX3_beginEvening_71 (by decide) ?_
    refine G.istore_n (lv' := [(1, .int (0 : Int32)), (0, .ref a0)]) dX3_beginEvening_72 (by decide) rfl ?_
    obtain ⟨h7, e8, hf⟩ := Option.bind_eq_some_iff.mp hf
    refine G.pick [1, 0] rfl (l_X3_beginEvening_L73 X d _ _ 1000000 a0 (0 : Int32) h6 h7 e8 ?_)
    have hq := Option.some.inj hf
    subst hq
    exact G.vret rfl dX3_beginEvening_100
  · rw [if_neg ho] at hf
    cases hf
/-! X3_begin -/
theorem dX3_begin_0 : decode cX3_begin 0 = .ok (.aload_n 0, 1) := by decide +kernel
theorem dX3_begin_1 : decode cX3_begin 1 = .ok (.aload_n 1, 1) := by decide +kernel
theorem dX3_begin_2 : decode cX3_begin 2 = .ok (.putfield 21, 3) := by decide +kernel
theorem dX3_begin_5 : decode cX3_begin 5 = .ok (.aload_n 0, 1) := by decide +kernel
theorem dX3_begin_6 : decode cX3_begin 6 = .ok (.getfield 12, 3) := by decide +kernel
theorem dX3_begin_9 : decode cX3_begin 9 = .ok (.iconst 0, 1) := by decide +kernel
theorem dX3_begin_10 : decode cX3_begin 10 = .ok (.putfield 25, 3) := by decide +kernel
theorem dX3_begin_13 : decode cX3_begin 13 = .ok (.aload_n 0, 1) := by decide +kernel
theorem dX3_begin_14 : decode cX3_begin 14 = .ok (.getfield 12, 3) := by decide +kernel
theorem dX3_begin_17 : decode cX3_begin 17 = .ok (.iconst 0, 1) := by decide +kernel
theorem dX3_begin_18 : decode cX3_begin 18 = .ok (.putfield 29, 3) := by decide +kernel
theorem dX3_begin_21 : decode cX3_begin 21 = .ok (.aload_n 0, 1) := by decide +kernel
theorem dX3_begin_22 : decode cX3_begin 22 = .ok (.getfield 12, 3) := by decide +kernel
theorem dX3_begin_25 : decode cX3_begin 25 = .ok (.iconst 0, 1) := by decide +kernel
theorem dX3_begin_26 : decode cX3_begin 26 = .ok (.putfield 32, 3) := by decide +kernel
theorem dX3_begin_29 : decode cX3_begin 29 = .ok (.iconst 0, 1) := by decide +kernel
theorem dX3_begin_30 : decode cX3_begin 30 = .ok (.istore_n 2, 1) := by decide +kernel
theorem dX3_begin_31 : decode cX3_begin 31 = .ok (.iload_n 2, 1) := by decide +kernel
theorem dX3_begin_32 : decode cX3_begin 32 = .ok (.aload_n 1, 1) := by decide +kernel
theorem dX3_begin_33 : decode cX3_begin 33 = .ok (.getfield 35, 3) := by decide +kernel
theorem dX3_begin_36 : decode cX3_begin 36 = .ok (.if_icmp .ge 41, 3) := by decide +kernel
theorem dX3_begin_39 : decode cX3_begin 39 = .ok (.aload_n 0, 1) := by decide +kernel
theorem dX3_begin_40 : decode cX3_begin 40 = .ok (.getfield 12, 3) := by decide +kernel
theorem dX3_begin_43 : decode cX3_begin 43 = .ok (.getfield 38, 3) := by decide +kernel
theorem dX3_begin_46 : decode cX3_begin 46 = .ok (.iload_n 2, 1) := by decide +kernel
theorem dX3_begin_47 : decode cX3_begin 47 = .ok (.aload_n 1, 1) := by decide +kernel
theorem dX3_begin_48 : decode cX3_begin 48 = .ok (.getfield 42, 3) := by decide +kernel
theorem dX3_begin_51 : decode cX3_begin 51 = .ok (.iload_n 2, 1) := by decide +kernel
theorem dX3_begin_52 : decode cX3_begin 52 = .ok (.iaload, 1) := by decide +kernel
theorem dX3_begin_53 : decode cX3_begin 53 = .ok (.iastore, 1) := by decide +kernel
theorem dX3_begin_54 : decode cX3_begin 54 = .ok (.aload_n 0, 1) := by decide +kernel
theorem dX3_begin_55 : decode cX3_begin 55 = .ok (.getfield 12, 3) := by decide +kernel
theorem dX3_begin_58 : decode cX3_begin 58 = .ok (.getfield 43, 3) := by decide +kernel
theorem dX3_begin_61 : decode cX3_begin 61 = .ok (.iload_n 2, 1) := by decide +kernel
theorem dX3_begin_62 : decode cX3_begin 62 = .ok (.iconst 2, 1) := by decide +kernel
theorem dX3_begin_63 : decode cX3_begin 63 = .ok (.aload_n 1, 1) := by decide +kernel
theorem dX3_begin_64 : decode cX3_begin 64 = .ok (.getfield 46, 3) := by decide +kernel
theorem dX3_begin_67 : decode cX3_begin 67 = .ok (.iload_n 2, 1) := by decide +kernel
theorem dX3_begin_68 : decode cX3_begin 68 = .ok (.iaload, 1) := by decide +kernel
theorem dX3_begin_69 : decode cX3_begin 69 = .ok (.imul, 1) := by decide +kernel
theorem dX3_begin_70 : decode cX3_begin 70 = .ok (.iastore, 1) := by decide +kernel
theorem dX3_begin_71 : decode cX3_begin 71 = .ok (.iinc 2 1, 3) := by decide +kernel
theorem dX3_begin_74 : decode cX3_begin 74 = .ok (.goto (-43), 3) := by decide +kernel
theorem dX3_begin_77 : decode cX3_begin 77 = .ok (.iconst 0, 1) := by decide +kernel
theorem dX3_begin_78 : decode cX3_begin 78 = .ok (.istore_n 2, 1) := by decide +kernel
theorem dX3_begin_79 : decode cX3_begin 79 = .ok (.iload_n 2, 1) := by decide +kernel
theorem dX3_begin_80 : decode cX3_begin 80 = .ok (.aload_n 1, 1) := by decide +kernel
theorem dX3_begin_81 : decode cX3_begin 81 = .ok (.getfield 49, 3) := by decide +kernel
theorem dX3_begin_84 : decode cX3_begin 84 = .ok (.if_icmp .ge 34, 3) := by decide +kernel
theorem dX3_begin_87 : decode cX3_begin 87 = .ok (.aload_n 0, 1) := by decide +kernel
theorem dX3_begin_88 : decode cX3_begin 88 = .ok (.getfield 12, 3) := by decide +kernel
theorem dX3_begin_91 : decode cX3_begin 91 = .ok (.getfield 52, 3) := by decide +kernel
theorem dX3_begin_94 : decode cX3_begin 94 = .ok (.iload_n 2, 1) := by decide +kernel
theorem dX3_begin_95 : decode cX3_begin 95 = .ok (.aload_n 1, 1) := by decide +kernel
theorem dX3_begin_96 : decode cX3_begin 96 = .ok (.getfield 55, 3) := by decide +kernel
theorem dX3_begin_99 : decode cX3_begin 99 = .ok (.iload_n 2, 1) := by decide +kernel
theorem dX3_begin_100 : decode cX3_begin 100 = .ok (.iaload, 1) := by decide +kernel
theorem dX3_begin_101 : decode cX3_begin 101 = .ok (.iastore, 1) := by decide +kernel
theorem dX3_begin_102 : decode cX3_begin 102 = .ok (.aload_n 0, 1) := by decide +kernel
theorem dX3_begin_103 : decode cX3_begin 103 = .ok (.getfield 12, 3) := by decide +kernel
theorem dX3_begin_106 : decode cX3_begin 106 = .ok (.getfield 56, 3) := by decide +kernel
theorem dX3_begin_109 : decode cX3_begin 109 = .ok (.iload_n 2, 1) := by decide +kernel
theorem dX3_begin_110 : decode cX3_begin 110 = .ok (.iconst 0, 1) := by decide +kernel
theorem dX3_begin_111 : decode cX3_begin 111 = .ok (.iastore, 1) := by decide +kernel
theorem dX3_begin_112 : decode cX3_begin 112 = .ok (.iinc 2 1, 3) := by decide +kernel
theorem dX3_begin_115 : decode cX3_begin 115 = .ok (.goto (-36), 3) := by decide +kernel
theorem dX3_begin_118 : decode cX3_begin 118 = .ok (.aload_n 0, 1) := by decide +kernel
theorem dX3_begin_119 : decode cX3_begin 119 = .ok (.invokevirtual 59, 3) := by decide +kernel
theorem dX3_begin_122 : decode cX3_begin 122 = .ok (.return_, 1) := by decide +kernel
def F_X3_begin_L31 (rec : Nat → Nat → Int32 → AH → Option (AH)) (v0 : Nat) (v1 : Nat) (v2 : Int32) (h : AH) : Option (AH) := (gi h 9 v1 9).bind fun x1 => if x1 ≤ v2 then (some (h)) else ((gr h 3 v0 0).bind fun r3 => (gr h 4 r3 0).bind fun r4 => (gr h 9 v1 1).bind fun r5 => (ai h 0 r5 v2).bind fun x6 => (aw h 0 r4 v2 x6).bind fun h7 => (gr h7 3 v0 0).bind fun r8 => (gr h7 4 r8 1).bind fun r9 => (gr h7 9 v1 2).bind fun r10 => (ai h7 0 r10 v2).bind fun x11 => (aw h7 0 r9 v2 ((2 : Int32) * x11)).bind fun h12 => rec v0 v1 (v2 + 1) h12)
def f_X3_begin_L31 : Nat → Nat → Nat → Int32 → AH → Option (AH)
  | 0 => fun _ _ _ _ => none
  | n + 1 => F_X3_begin_L31 (f_X3_begin_L31 n)
set_option maxRecDepth 100000 in
set_option maxHeartbeats 4000000 in
theorem lx_X3_begin_L31 (X : SX) (d : Nat) : ∀ n (rv : Option Int32) (h' : AH), ∀ (v0 : Nat) (v1 : Nat) (v2 : Int32) (h : AH)  (h1 : AH), f_X3_begin_L31 n v0 v1 v2 h = some (h1) → G X mX3_begin (d + 1) 77 [(0, .ref v0), (1, .ref v1)] [] h1 rv h' → G X mX3_begin (d + 1) 31 [(0, .ref v0), (1, .ref v1), (2, .int v2)] [] h rv h' := by
  intro n
  induction n with
  | zero =>
    intro rv h' v0 v1 v2 h h1 hf hE
    cases hf
  | succ n ihf =>
    intro rv h' v0 v1 v2 h h1 hf hE
    replace hf : F_X3_begin_L31 (f_X3_begin_L31 n) v0 v1 v2 h = some (h1) := hf
    unfold F_X3_begin_L31 at hf
    have ih := ihf rv h'
    refine G.iload_n dX3_begin_31 rfl ?_
    refine G.aload_n dX3_begin_32 rfl ?_
    refine G.geti flX3_35 dX3_begin_33 hf (fun x1 hf => ?_)
    refine G.icmp_ge 77 dX3_begin_36 (by decide) (fun c2 => ?_) (fun c2 => ?_)
    · rw [if_pos c2] at hf
      have w0 := Option.some.inj hf
      subst w0
      exact G.pick [0, 1] rfl hE
    · rw [if_neg c2] at hf
      refine G.aload_n dX3_begin_39 rfl ?_
      refine G.getr flX3_12 dX3_begin_40 hf (fun r3 hf => ?_)
      refine G.getr flX3_38 dX3_begin_43 hf (fun r4 hf => ?_)
      refine G.iload_n dX3_begin_46 rfl ?_
      refine G.aload_n dX3_begin_47 rfl ?_
      refine G.getr flX3_42 dX3_begin_48 hf (fun r5 hf => ?_)
      refine G.iload_n dX3_begin_51 rfl ?_
      refine G.iald dX3_begin_52 hf (fun x6 hf => ?_)
      refine G.iast dX3_begin_53 hf (fun h7 hf => ?_)
      refine G.aload_n dX3_begin_54 rfl ?_
      refine G.getr flX3_12 dX3_begin_55 hf (fun r8 hf => ?_)
      refine G.getr flX3_43 dX3_begin_58 hf (fun r9 hf => ?_)
      refine G.iload_n dX3_begin_61 rfl ?_
      refine G.iconst (v := (2 : Int32)) dX3_begin_62 (by decide) ?_
      refine G.aload_n dX3_begin_63 rfl ?_
      refine G.getr flX3_46 dX3_begin_64 hf (fun r10 hf => ?_)
      refine G.iload_n dX3_begin_67 rfl ?_
      refine G.iald dX3_begin_68 hf (fun x11 hf => ?_)
      refine G.imul dX3_begin_69 ?_
      refine G.iast dX3_begin_70 hf (fun h12 hf => ?_)
      refine G.iinc (v := (v2 + 1)) (lv' := [(2, .int (v2 + 1)), (0, .ref v0), (1, .ref v1)]) dX3_begin_71 rfl rfl (by decide) rfl ?_
      refine G.goto 31 dX3_begin_74 (by decide) ?_
      exact G.pick [1, 2, 0] rfl (ih v0 v1 (v2 + 1) h12 _ hf hE)
theorem l_X3_begin_L31 (X : SX) (d : Nat) (rv : Option Int32) (h' : AH) (n : Nat) : ∀ (v0 : Nat) (v1 : Nat) (v2 : Int32) (h : AH)  (h1 : AH), f_X3_begin_L31 n v0 v1 v2 h = some (h1) → G X mX3_begin (d + 1) 77 [(0, .ref v0), (1, .ref v1)] [] h1 rv h' → G X mX3_begin (d + 1) 31 [(0, .ref v0), (1, .ref v1), (2, .int v2)] [] h rv h' := lx_X3_begin_L31 X d n rv h'
def F_X3_begin_L79 (rec : Nat → Nat → Int32 → AH → Option (AH)) (v0 : Nat) (v1 : Nat) (v2 : Int32) (h : AH) : Option (AH) := (gi h 9 v1 10).bind fun x1 => if x1 ≤ v2 then (some (h)) else ((gr h 3 v0 0).bind fun r3 => (gr h 4 r3 4).bind fun r4 => (gr h 9 v1 6).bind fun r5 => (ai h 0 r5 v2).bind fun x6 => (aw h 0 r4 v2 x6).bind fun h7 => (gr h7 3 v0 0).bind fun r8 => (gr h7 4 r8 6).bind fun r9 => (aw h7 0 r9 v2 (0 : Int32)).bind fun h10 => rec v0 v1 (v2 + 1) h10)
def f_X3_begin_L79 : Nat → Nat → Nat → Int32 → AH → Option (AH)
  | 0 => fun _ _ _ _ => none
  | n + 1 => F_X3_begin_L79 (f_X3_begin_L79 n)
set_option maxRecDepth 100000 in
set_option maxHeartbeats 4000000 in
theorem lx_X3_begin_L79 (X : SX) (d : Nat) : ∀ n (rv : Option Int32) (h' : AH), ∀ (v0 : Nat) (v1 : Nat) (v2 : Int32) (h : AH)  (h1 : AH), f_X3_begin_L79 n v0 v1 v2 h = some (h1) → G X mX3_begin (d + 1) 118 [(0, .ref v0)] [] h1 rv h' → G X mX3_begin (d + 1) 79 [(0, .ref v0), (1, .ref v1), (2, .int v2)] [] h rv h' := by
  intro n
  induction n with
  | zero =>
    intro rv h' v0 v1 v2 h h1 hf hE
    cases hf
  | succ n ihf =>
    intro rv h' v0 v1 v2 h h1 hf hE
    replace hf : F_X3_begin_L79 (f_X3_begin_L79 n) v0 v1 v2 h = some (h1) := hf
    unfold F_X3_begin_L79 at hf
    have ih := ihf rv h'
    refine G.iload_n dX3_begin_79 rfl ?_
    refine G.aload_n dX3_begin_80 rfl ?_
    refine G.geti flX3_49 dX3_begin_81 hf (fun x1 hf => ?_)
    refine G.icmp_ge 118 dX3_begin_84 (by decide) (fun c2 => ?_) (fun c2 => ?_)
    · rw [if_pos c2] at hf
      have w0 := Option.some.inj hf
      subst w0
      exact G.pick [0] rfl hE
    · rw [if_neg c2] at hf
      refine G.aload_n dX3_begin_87 rfl ?_
      refine G.getr flX3_12 dX3_begin_88 hf (fun r3 hf => ?_)
      refine G.getr flX3_52 dX3_begin_91 hf (fun r4 hf => ?_)
      refine G.iload_n dX3_begin_94 rfl ?_
      refine G.aload_n dX3_begin_95 rfl ?_
      refine G.getr flX3_55 dX3_begin_96 hf (fun r5 hf => ?_)
      refine G.iload_n dX3_begin_99 rfl ?_
      refine G.iald dX3_begin_100 hf (fun x6 hf => ?_)
      refine G.iast dX3_begin_101 hf (fun h7 hf => ?_)
      refine G.aload_n dX3_begin_102 rfl ?_
      refine G.getr flX3_12 dX3_begin_103 hf (fun r8 hf => ?_)
      refine G.getr flX3_56 dX3_begin_106 hf (fun r9 hf => ?_)
      refine G.iload_n dX3_begin_109 rfl ?_
      refine G.iconst (v := (0 : Int32)) dX3_begin_110 (by decide) ?_
      refine G.iast dX3_begin_111 hf (fun h10 hf => ?_)
      refine G.iinc (v := (v2 + 1)) (lv' := [(2, .int (v2 + 1)), (0, .ref v0), (1, .ref v1)]) dX3_begin_112 rfl rfl (by decide) rfl ?_
      refine G.goto 79 dX3_begin_115 (by decide) ?_
      exact G.pick [1, 2, 0] rfl (ih v0 v1 (v2 + 1) h10 _ hf hE)
theorem l_X3_begin_L79 (X : SX) (d : Nat) (rv : Option Int32) (h' : AH) (n : Nat) : ∀ (v0 : Nat) (v1 : Nat) (v2 : Int32) (h : AH)  (h1 : AH), f_X3_begin_L79 n v0 v1 v2 h = some (h1) → G X mX3_begin (d + 1) 118 [(0, .ref v0)] [] h1 rv h' → G X mX3_begin (d + 1) 79 [(0, .ref v0), (1, .ref v1), (2, .int v2)] [] h rv h' := lx_X3_begin_L79 X d n rv h'
def f_X3_begin (a0 : Nat) (a1 : Nat) (h : AH) : Option (AH) := if isO h 3 a0 = true then ((pf h 3 a0 1 (.ref a1)).bind fun h1 => (gr h1 3 a0 0).bind fun r2 => (pf h1 4 r2 8 (.int (0 : Int32))).bind fun h3 => (gr h3 3 a0 0).bind fun r4 => (pf h3 4 r4 9 (.int (0 : Int32))).bind fun h5 => (gr h5 3 a0 0).bind fun r6 => (pf h5 4 r6 10 (.int (0 : Int32))).bind fun h7 => (f_X3_begin_L31 1000000 a0 a1 (0 : Int32) h7).bind fun h8 => (f_X3_begin_L79 1000000 a0 a1 (0 : Int32) h8).bind fun h10 => (f_X3_beginEvening a0 h10).bind fun h12 => some h12) else none
set_option maxRecDepth 100000 in
set_option maxHeartbeats 4000000 in
theorem c_X3_begin (X : SX) (d : Nat) (a0 : Nat) (a1 : Nat) (h : AH) (h' : AH) (hf : f_X3_begin a0 a1 h = some h') : isO h 3 a0 = true ∧ G X mX3_begin (d + 1) 0 [(0, .ref a0), (1, .ref a1)] [] h none h' := by
  unfold f_X3_begin at hf
  by_cases ho : isO h 3 a0 = true
  · rw [if_pos ho] at hf
    refine ⟨ho, ?_⟩
    refine G.aload_n dX3_begin_0 rfl ?_
    refine G.aload_n dX3_begin_1 rfl ?_
    refine G.put flX3_21 (Or.inl rfl) (fun _ _ => ⟨rfl, rfl⟩) dX3_begin_2 hf (fun h1 hf => ?_)
    refine G.aload_n dX3_begin_5 rfl ?_
    refine G.getr flX3_12 dX3_begin_6 hf (fun r2 hf => ?_)
    refine G.iconst (v := (0 : Int32)) dX3_begin_9 (by decide) ?_
    refine G.put flX3_25 (Or.inl rfl) (fun _ _ => ⟨rfl, rfl⟩) dX3_begin_10 hf (fun h3 hf => ?_)
    refine G.aload_n dX3_begin_13 rfl ?_
    refine G.getr flX3_12 dX3_begin_14 hf (fun r4 hf => ?_)
    refine G.iconst (v := (0 : Int32)) dX3_begin_17 (by decide) ?_
    refine G.put flX3_29 (Or.inl rfl) (fun _ _ => ⟨rfl, rfl⟩) dX3_begin_18 hf (fun h5 hf => ?_)
    refine G.aload_n dX3_begin_21 rfl ?_
    refine G.getr flX3_12 dX3_begin_22 hf (fun r6 hf => ?_)
    refine G.iconst (v := (0 : Int32)) dX3_begin_25 (by decide) ?_
    refine G.put flX3_32 (Or.inl rfl) (fun _ _ => ⟨rfl, rfl⟩) dX3_begin_26 hf (fun h7 hf => ?_)
    refine G.iconst (v := (0 : Int32)) dX3_begin_29 (by decide) ?_
    refine G.istore_n (lv' := [(2, .int (0 : Int32)), (0, .ref a0), (1, .ref a1)]) dX3_begin_30 (by decide) rfl ?_
    obtain ⟨h8, e9, hf⟩ := Option.bind_eq_some_iff.mp hf
    refine G.pick [1, 2, 0] rfl (l_X3_begin_L31 X d _ _ 1000000 a0 a1 (0 : Int32) h7 h8 e9 ?_)
    refine G.iconst (v := (0 : Int32)) dX3_begin_77 (by decide) ?_
    refine G.istore_n (lv' := [(2, .int (0 : Int32)), (0, .ref a0), (1, .ref a1)]) dX3_begin_78 (by decide) rfl ?_
    obtain ⟨h10, e11, hf⟩ := Option.bind_eq_some_iff.mp hf
    refine G.pick [1, 2, 0] rfl (l_X3_begin_L79 X d _ _ 1000000 a0 a1 (0 : Int32) h8 h10 e11 ?_)
    refine G.aload_n dX3_begin_118 rfl ?_
    obtain ⟨h12, e13, hf⟩ := Option.bind_eq_some_iff.mp hf
    refine G.callVv (M' := mX3_beginEvening) (ci := 3) (As := []) (st := []) okX3_beginEvening viX3_beginEvening lkX3_59 rfl rfl rfl (Nat.le_of_ble_eq_true rfl) (Nat.le_of_ble_eq_true rfl) dX3_begin_119 (c_X3_beginEvening X d _ _ _ e13).1 (c_X3_beginEvening X d _ _ _ e13).2 ?_
    have hq := Option.some.inj hf
    subst hq
    exact G.vret rfl dX3_begin_122
  · rw [if_neg ho] at hf
    cases hf
/-! X6_forget -/
theorem dX6_forget_0 : decode cX6_forget 0 = .ok (.aload_n 0, 1) := by decide +kernel
theorem dX6_forget_1 : decode cX6_forget 1 = .ok (.iconst 0, 1) := by decide +kernel
theorem dX6_forget_2 : decode cX6_forget 2 = .ok (.putfield 26, 3) := by decide +kernel
theorem dX6_forget_5 : decode cX6_forget 5 = .ok (.return_, 1) := by decide +kernel
def f_X6_forget (a0 : Nat) (h : AH) : Option (AH) := if isO h 5 a0 = true then ((pf h 5 a0 2 (.int (0 : Int32))).bind fun h1 => some h1) else none
set_option maxRecDepth 100000 in
set_option maxHeartbeats 4000000 in
theorem c_X6_forget (X : SX) (d : Nat) (a0 : Nat) (h : AH) (h' : AH) (hf : f_X6_forget a0 h = some h') : isO h 5 a0 = true ∧ G X mX6_forget d 0 [(0, .ref a0)] [] h none h' := by
  unfold f_X6_forget at hf
  by_cases ho : isO h 5 a0 = true
  · rw [if_pos ho] at hf
    refine ⟨ho, ?_⟩
    refine G.aload_n dX6_forget_0 rfl ?_
    refine G.iconst (v := (0 : Int32)) dX6_forget_1 (by decide) ?_
    refine G.put flX6_26 (Or.inl rfl) (fun _ _ => ⟨rfl, rfl⟩) dX6_forget_2 hf (fun h1 hf => ?_)
    have hq := Option.some.inj hf
    subst hq
    exact G.vret rfl dX6_forget_5
  · rw [if_neg ho] at hf
    cases hf
/-! X11_clear -/
theorem dX11_clear_0 : decode cX11_clear 0 = .ok (.aload_n 0, 1) := by decide +kernel
theorem dX11_clear_1 : decode cX11_clear 1 = .ok (.iconst 0, 1) := by decide +kernel
theorem dX11_clear_2 : decode cX11_clear 2 = .ok (.putfield 19, 3) := by decide +kernel
theorem dX11_clear_5 : decode cX11_clear 5 = .ok (.return_, 1) := by decide +kernel
def f_X11_clear (a0 : Nat) (h : AH) : Option (AH) := if isO h 10 a0 = true then ((pf h 10 a0 2 (.int (0 : Int32))).bind fun h1 => some h1) else none
set_option maxRecDepth 100000 in
set_option maxHeartbeats 4000000 in
theorem c_X11_clear (X : SX) (d : Nat) (a0 : Nat) (h : AH) (h' : AH) (hf : f_X11_clear a0 h = some h') : isO h 10 a0 = true ∧ G X mX11_clear d 0 [(0, .ref a0)] [] h none h' := by
  unfold f_X11_clear at hf
  by_cases ho : isO h 10 a0 = true
  · rw [if_pos ho] at hf
    refine ⟨ho, ?_⟩
    refine G.aload_n dX11_clear_0 rfl ?_
    refine G.iconst (v := (0 : Int32)) dX11_clear_1 (by decide) ?_
    refine G.put flX11_19 (Or.inl rfl) (fun _ _ => ⟨rfl, rfl⟩) dX11_clear_2 hf (fun h1 hf => ?_)
    have hq := Option.some.inj hf
    subst hq
    exact G.vret rfl dX11_clear_5
  · rw [if_neg ho] at hf
    cases hf
/-! X0_clear -/
theorem dX0_clear_0 : decode cX0_clear 0 = .ok (.aload_n 0, 1) := by decide +kernel
theorem dX0_clear_1 : decode cX0_clear 1 = .ok (.iconst 0, 1) := by decide +kernel
theorem dX0_clear_2 : decode cX0_clear 2 = .ok (.putfield 18, 3) := by decide +kernel
theorem dX0_clear_5 : decode cX0_clear 5 = .ok (.return_, 1) := by decide +kernel
def f_X0_clear (a0 : Nat) (h : AH) : Option (AH) := if isO h 0 a0 = true then ((pf h 0 a0 2 (.int (0 : Int32))).bind fun h1 => some h1) else none
set_option maxRecDepth 100000 in
set_option maxHeartbeats 4000000 in
theorem c_X0_clear (X : SX) (d : Nat) (a0 : Nat) (h : AH) (h' : AH) (hf : f_X0_clear a0 h = some h') : isO h 0 a0 = true ∧ G X mX0_clear d 0 [(0, .ref a0)] [] h none h' := by
  unfold f_X0_clear at hf
  by_cases ho : isO h 0 a0 = true
  · rw [if_pos ho] at hf
    refine ⟨ho, ?_⟩
    refine G.aload_n dX0_clear_0 rfl ?_
    refine G.iconst (v := (0 : Int32)) dX0_clear_1 (by decide) ?_
    refine G.put flX0_18 (Or.inl rfl) (fun _ _ => ⟨rfl, rfl⟩) dX0_clear_2 hf (fun h1 hf => ?_)
    have hq := Option.some.inj hf
    subst hq
    exact G.vret rfl dX0_clear_5
  · rw [if_neg ho] at hf
    cases hf
/-! X12_row -/
theorem dX12_row_0 : decode cX12_row 0 = .ok (.aload_n 0, 1) := by decide +kernel
theorem dX12_row_1 : decode cX12_row 1 = .ok (.getfield 10, 3) := by decide +kernel
theorem dX12_row_4 : decode cX12_row 4 = .ok (.aload_n 0, 1) := by decide +kernel
theorem dX12_row_5 : decode cX12_row 5 = .ok (.getfield 67, 3) := by decide +kernel
theorem dX12_row_8 : decode cX12_row 8 = .ok (.invokevirtual 82, 3) := by decide +kernel
theorem dX12_row_11 : decode cX12_row 11 = .ok (.istore_n 1, 1) := by decide +kernel
theorem dX12_row_12 : decode cX12_row 12 = .ok (.iload_n 1, 1) := by decide +kernel
theorem dX12_row_13 : decode cX12_row 13 = .ok (.ifCond .eq 8, 3) := by decide +kernel
theorem dX12_row_16 : decode cX12_row 16 = .ok (.bipush (-10), 2) := by decide +kernel
theorem dX12_row_18 : decode cX12_row 18 = .ok (.iload_n 1, 1) := by decide +kernel
theorem dX12_row_19 : decode cX12_row 19 = .ok (.isub, 1) := by decide +kernel
theorem dX12_row_20 : decode cX12_row 20 = .ok (.ireturn, 1) := by decide +kernel
theorem dX12_row_21 : decode cX12_row 21 = .ok (.aload_n 0, 1) := by decide +kernel
theorem dX12_row_22 : decode cX12_row 22 = .ok (.getfield 67, 3) := by decide +kernel
theorem dX12_row_25 : decode cX12_row 25 = .ok (.astore_n 2, 1) := by decide +kernel
theorem dX12_row_26 : decode cX12_row 26 = .ok (.aload_n 0, 1) := by decide +kernel
theorem dX12_row_27 : decode cX12_row 27 = .ok (.aload_n 0, 1) := by decide +kernel
theorem dX12_row_28 : decode cX12_row 28 = .ok (.getfield 19, 3) := by decide +kernel
theorem dX12_row_31 : decode cX12_row 31 = .ok (.getfield 86, 3) := by decide +kernel
theorem dX12_row_34 : decode cX12_row 34 = .ok (.putfield 67, 3) := by decide +kernel
theorem dX12_row_37 : decode cX12_row 37 = .ok (.aload_n 0, 1) := by decide +kernel
theorem dX12_row_38 : decode cX12_row 38 = .ok (.getfield 19, 3) := by decide +kernel
theorem dX12_row_41 : decode cX12_row 41 = .ok (.aload_n 2, 1) := by decide +kernel
theorem dX12_row_42 : decode cX12_row 42 = .ok (.invokevirtual 89, 3) := by decide +kernel
theorem dX12_row_45 : decode cX12_row 45 = .ok (.aload_n 0, 1) := by decide +kernel
theorem dX12_row_46 : decode cX12_row 46 = .ok (.getfield 40, 3) := by decide +kernel
theorem dX12_row_49 : decode cX12_row 49 = .ok (.invokevirtual 93, 3) := by decide +kernel
theorem dX12_row_52 : decode cX12_row 52 = .ok (.aload_n 0, 1) := by decide +kernel
theorem dX12_row_53 : decode cX12_row 53 = .ok (.getfield 47, 3) := by decide +kernel
theorem dX12_row_56 : decode cX12_row 56 = .ok (.invokevirtual 96, 3) := by decide +kernel
theorem dX12_row_59 : decode cX12_row 59 = .ok (.aload_n 0, 1) := by decide +kernel
theorem dX12_row_60 : decode cX12_row 60 = .ok (.getfield 54, 3) := by decide +kernel
theorem dX12_row_63 : decode cX12_row 63 = .ok (.invokevirtual 99, 3) := by decide +kernel
theorem dX12_row_66 : decode cX12_row 66 = .ok (.iconst 0, 1) := by decide +kernel
theorem dX12_row_67 : decode cX12_row 67 = .ok (.istore_n 3, 1) := by decide +kernel
theorem dX12_row_68 : decode cX12_row 68 = .ok (.iload_n 3, 1) := by decide +kernel
theorem dX12_row_69 : decode cX12_row 69 = .ok (.iconst 2, 1) := by decide +kernel
theorem dX12_row_70 : decode cX12_row 70 = .ok (.if_icmp .ge 19, 3) := by decide +kernel
theorem dX12_row_73 : decode cX12_row 73 = .ok (.aload_n 0, 1) := by decide +kernel
theorem dX12_row_74 : decode cX12_row 74 = .ok (.getfield 60, 3) := by decide +kernel
theorem dX12_row_77 : decode cX12_row 77 = .ok (.iload_n 3, 1) := by decide +kernel
theorem dX12_row_78 : decode cX12_row 78 = .ok (.aaload, 1) := by decide +kernel
theorem dX12_row_79 : decode cX12_row 79 = .ok (.iconst 0, 1) := by decide +kernel
theorem dX12_row_80 : decode cX12_row 80 = .ok (.putfield 100, 3) := by decide +kernel
theorem dX12_row_83 : decode cX12_row 83 = .ok (.iinc 3 1, 3) := by decide +kernel
theorem dX12_row_86 : decode cX12_row 86 = .ok (.goto (-18), 3) := by decide +kernel
theorem dX12_row_89 : decode cX12_row 89 = .ok (.aload_n 2, 1) := by decide +kernel
theorem dX12_row_90 : decode cX12_row 90 = .ok (.getfield 104, 3) := by decide +kernel
theorem dX12_row_93 : decode cX12_row 93 = .ok (.ireturn, 1) := by decide +kernel
def F_X12_row_L68 (rec : Nat → Nat → Int32 → AH → Option (AH)) (v0 : Nat) (v2 : Nat) (v3 : Int32) (h : AH) : Option (AH) := if (2 : Int32) ≤ v3 then (some (h)) else ((gr h 11 v0 7).bind fun r2 => (ar h 5 r2 v3).bind fun r3 => (pf h 2 r3 2 (.int (0 : Int32))).bind fun h4 => rec v0 v2 (v3 + 1) h4)
def f_X12_row_L68 : Nat → Nat → Nat → Int32 → AH → Option (AH)
  | 0 => fun _ _ _ _ => none
  | n + 1 => F_X12_row_L68 (f_X12_row_L68 n)
set_option maxRecDepth 100000 in
set_option maxHeartbeats 4000000 in
theorem lx_X12_row_L68 (X : SX) (d : Nat) : ∀ n (rv : Option Int32) (h' : AH), ∀ (v0 : Nat) (v2 : Nat) (v3 : Int32) (h : AH)  (h1 : AH), f_X12_row_L68 n v0 v2 v3 h = some (h1) → G X mX12_row (d + 5) 89 [(2, .ref v2)] [] h1 rv h' → G X mX12_row (d + 5) 68 [(0, .ref v0), (2, .ref v2), (3, .int v3)] [] h rv h' := by
  intro n
  induction n with
  | zero =>
    intro rv h' v0 v2 v3 h h1 hf hE
    cases hf
  | succ n ihf =>
    intro rv h' v0 v2 v3 h h1 hf hE
    replace hf : F_X12_row_L68 (f_X12_row_L68 n) v0 v2 v3 h = some (h1) := hf
    unfold F_X12_row_L68 at hf
    have ih := ihf rv h'
    refine G.iload_n dX12_row_68 rfl ?_
    refine G.iconst (v := (2 : Int32)) dX12_row_69 (by decide) ?_
    refine G.icmp_ge 89 dX12_row_70 (by decide) (fun c1 => ?_) (fun c1 => ?_)
    · rw [if_pos c1] at hf
      have w0 := Option.some.inj hf
      subst w0
      exact G.pick [1] rfl hE
    · rw [if_neg c1] at hf
      refine G.aload_n dX12_row_73 rfl ?_
      refine G.getr flX12_60 dX12_row_74 hf (fun r2 hf => ?_)
      refine G.iload_n dX12_row_77 rfl ?_
      refine G.aald (Or.inr ⟨rfl, rfl⟩) dX12_row_78 hf (fun r3 hf => ?_)
      refine G.iconst (v := (0 : Int32)) dX12_row_79 (by decide) ?_
      refine G.put flX12_100 (Or.inl rfl) (fun _ _ => ⟨rfl, rfl⟩) dX12_row_80 hf (fun h4 hf => ?_)
      refine G.iinc (v := (v3 + 1)) (lv' := [(3, .int (v3 + 1)), (0, .ref v0), (2, .ref v2)]) dX12_row_83 rfl rfl (by decide) rfl ?_
      refine G.goto 68 dX12_row_86 (by decide) ?_
      exact G.pick [1, 2, 0] rfl (ih v0 v2 (v3 + 1) h4 _ hf hE)
theorem l_X12_row_L68 (X : SX) (d : Nat) (rv : Option Int32) (h' : AH) (n : Nat) : ∀ (v0 : Nat) (v2 : Nat) (v3 : Int32) (h : AH)  (h1 : AH), f_X12_row_L68 n v0 v2 v3 h = some (h1) → G X mX12_row (d + 5) 89 [(2, .ref v2)] [] h1 rv h' → G X mX12_row (d + 5) 68 [(0, .ref v0), (2, .ref v2), (3, .int v3)] [] h rv h' := lx_X12_row_L68 X d n rv h'
def f_X12_row (a0 : Nat) (h : AH) : Option (Int32 × AH) := if isO h 11 a0 = true then ((gr h 11 a0 0).bind fun r1 => (gr h 11 a0 8).bind fun r2 => bT1 (f_X8_readInto r1 r2 h) fun x5 h3 => if x5 = 0 then ((gr h3 11 a0 8).bind fun r7 => (gr h3 11 a0 1).bind fun r8 => (gr h3 3 r8 1).bind fun r9 => (pf h3 11 a0 8 (.ref r9)).bind fun h10 => (gr h10 11 a0 1).bind fun r11 => (f_X3_begin r11 r7 h10).bind fun h12 => (gr h12 11 a0 4).bind fun r14 => (f_X6_forget r14 h12).bind fun h15 => (gr h15 11 a0 5).bind fun r17 => (f_X11_clear r17 h15).bind fun h18 => (gr h18 11 a0 6).bind fun r20 => (f_X0_clear r20 h18).bind fun h21 => (f_X12_row_L68 1000000 a0 r7 (0 : Int32) h21).bind fun h23 => (gi h23 9 r7 9).bind fun x25 => some (x25, h23)) else (some (((-10 : Int32) - x5), h3))) else none
set_option maxRecDepth 100000 in
set_option maxHeartbeats 4000000 in
theorem c_X12_row (X : SX) (d : Nat) (a0 : Nat) (h : AH) (rr : Int32) (h' : AH) (hf : f_X12_row a0 h = some (rr, h')) : isO h 11 a0 = true ∧ G X mX12_row (d + 5) 0 [(0, .ref a0)] [] h (some rr) h' := by
  unfold f_X12_row at hf
  by_cases ho : isO h 11 a0 = true
  · rw [if_pos ho] at hf
    refine ⟨ho, ?_⟩
    refine G.aload_n dX12_row_0 rfl ?_
    refine G.getr flX12_10 dX12_row_1 hf (fun r1 hf => ?_)
    refine G.aload_n dX12_row_4 rfl ?_
    refine G.getr flX12_67 dX12_row_5 hf (fun r2 hf => ?_)
    obtain ⟨x5, h3, e4, hf⟩ := bT1_spec hf
    refine G.callVi (M' := mX8_readInto) (ci := 7) (As := [.ref r2]) (st := []) okX8_readInto viX8_readInto lkX12_82 rfl rfl rfl (Nat.le_of_ble_eq_true rfl) (Nat.le_of_ble_eq_true rfl) dX12_row_8 (c_X8_readInto X d _ _ _ _ _ e4).1 (c_X8_readInto X d _ _ _ _ _ e4).2 ?_
    refine G.istore_n (lv' := [(1, .int x5), (0, .ref a0)]) dX12_row_11 (by decide) rfl ?_
    refine G.iload_n dX12_row_12 rfl ?_
    refine G.if_eq 21 dX12_row_13 (by decide) (fun c6 => ?_) (fun c6 => ?_)
    · rw [if_pos c6] at hf
      refine G.aload_n dX12_row_21 rfl ?_
      refine G.getr flX12_67 dX12_row_22 hf (fun r7 hf => ?_)
      refine G.astore_n (lv' := [(2, .ref r7), (1, .int x5), (0, .ref a0)]) dX12_row_25 (by decide) rfl ?_
      refine G.aload_n dX12_row_26 rfl ?_
      refine G.aload_n dX12_row_27 rfl ?_
      refine G.getr flX12_19 dX12_row_28 hf (fun r8 hf => ?_)
      refine G.getr flX12_86 dX12_row_31 hf (fun r9 hf => ?_)
      refine G.put flX12_67 (Or.inl rfl) (fun _ _ => ⟨rfl, rfl⟩) dX12_row_34 hf (fun h10 hf => ?_)
      refine G.aload_n dX12_row_37 rfl ?_
      refine G.getr flX12_19 dX12_row_38 hf (fun r11 hf => ?_)
      refine G.aload_n dX12_row_41 rfl ?_
      obtain ⟨h12, e13, hf⟩ := Option.bind_eq_some_iff.mp hf
      refine G.callVv (M' := mX3_begin) (ci := 3) (As := [.ref r7]) (st := []) okX3_begin viX3_begin lkX12_89 rfl rfl rfl (Nat.le_of_ble_eq_true rfl) (Nat.le_of_ble_eq_true rfl) dX12_row_42 (c_X3_begin X (d + 3) _ _ _ _ e13).1 (c_X3_begin X (d + 3) _ _ _ _ e13).2 ?_
      refine G.aload_n dX12_row_45 rfl ?_
      refine G.getr flX12_40 dX12_row_46 hf (fun r14 hf => ?_)
      obtain ⟨h15, e16, hf⟩ := Option.bind_eq_some_iff.mp hf
      refine G.callVv (M' := mX6_forget) (ci := 5) (As := []) (st := []) okX6_forget viX6_forget lkX12_93 rfl rfl rfl (Nat.le_of_ble_eq_true rfl) (Nat.le_of_ble_eq_true rfl) dX12_row_49 (c_X6_forget X (d + 4) _ _ _ e16).1 (c_X6_forget X (d + 4) _ _ _ e16).2 ?_
      refine G.aload_n dX12_row_52 rfl ?_
      refine G.getr flX12_47 dX12_row_53 hf (fun r17 hf => ?_)
      obtain ⟨h18, e19, hf⟩ := Option.bind_eq_some_iff.mp hf
      refine G.callVv (M' := mX11_clear) (ci := 10) (As := []) (st := []) okX11_clear viX11_clear lkX12_96 rfl rfl rfl (Nat.le_of_ble_eq_true rfl) (Nat.le_of_ble_eq_true rfl) dX12_row_56 (c_X11_clear X (d + 4) _ _ _ e19).1 (c_X11_clear X (d + 4) _ _ _ e19).2 ?_
      refine G.aload_n dX12_row_59 rfl ?_
      refine G.getr flX12_54 dX12_row_60 hf (fun r20 hf => ?_)
      obtain ⟨h21, e22, hf⟩ := Option.bind_eq_some_iff.mp hf
      refine G.callVv (M' := mX0_clear) (ci := 0) (As := []) (st := []) okX0_clear viX0_clear lkX12_99 rfl rfl rfl (Nat.le_of_ble_eq_true rfl) (Nat.le_of_ble_eq_true rfl) dX12_row_63 (c_X0_clear X (d + 4) _ _ _ e22).1 (c_X0_clear X (d + 4) _ _ _ e22).2 ?_
      refine G.iconst (v := (0 : Int32)) dX12_row_66 (by decide) ?_
      refine G.istore_n (lv' := [(3, .int (0 : Int32)), (2, .ref r7), (1, .int x5), (0, .ref a0)]) dX12_row_67 (by decide) rfl ?_
      obtain ⟨h23, e24, hf⟩ := Option.bind_eq_some_iff.mp hf
      refine G.pick [3, 1, 0] rfl (l_X12_row_L68 X d _ _ 1000000 a0 r7 (0 : Int32) h21 h23 e24 ?_)
      refine G.aload_n dX12_row_89 rfl ?_
      refine G.geti flX12_104 dX12_row_90 hf (fun x25 hf => ?_)
      obtain ⟨hq1, hq2⟩ := Prod.mk.inj (Option.some.inj hf)
      subst hq1
      subst hq2
      exact G.iret rfl rfl dX12_row_93
    · rw [if_neg c6] at hf
      refine G.bipush (v := (-10 : Int32)) dX12_row_16 (by decide) ?_
      refine G.iload_n dX12_row_18 rfl ?_
      refine G.isub dX12_row_19 ?_
      obtain ⟨hq1, hq2⟩ := Prod.mk.inj (Option.some.inj hf)
      subst hq1
      subst hq2
      exact G.iret rfl rfl dX12_row_20
  · rw [if_neg ho] at hf
    cases hf
/-! X13_skips -/
theorem dX13_skips_0 : decode cX13_skips 0 = .ok (.aload_n 0, 1) := by decide +kernel
theorem dX13_skips_1 : decode cX13_skips 1 = .ok (.getfield 86, 3) := by decide +kernel
theorem dX13_skips_4 : decode cX13_skips 4 = .ok (.aload_n 0, 1) := by decide +kernel
theorem dX13_skips_5 : decode cX13_skips 5 = .ok (.getfield 82, 3) := by decide +kernel
theorem dX13_skips_8 : decode cX13_skips 8 = .ok (.if_icmp .ge 30, 3) := by decide +kernel
theorem dX13_skips_11 : decode cX13_skips 11 = .ok (.aload_n 0, 1) := by decide +kernel
theorem dX13_skips_12 : decode cX13_skips 12 = .ok (.getfield 7, 3) := by decide +kernel
theorem dX13_skips_15 : decode cX13_skips 15 = .ok (.aload_n 0, 1) := by decide +kernel
theorem dX13_skips_16 : decode cX13_skips 16 = .ok (.getfield 86, 3) := by decide +kernel
theorem dX13_skips_19 : decode cX13_skips 19 = .ok (.iaload, 1) := by decide +kernel
theorem dX13_skips_20 : decode cX13_skips 20 = .ok (.bipush 32, 2) := by decide +kernel
theorem dX13_skips_22 : decode cX13_skips 22 = .ok (.if_icmp .ne 16, 3) := by decide +kernel
theorem dX13_skips_25 : decode cX13_skips 25 = .ok (.aload_n 0, 1) := by decide +kernel
theorem dX13_skips_26 : decode cX13_skips 26 = .ok (.dup, 1) := by decide +kernel
theorem dX13_skips_27 : decode cX13_skips 27 = .ok (.getfield 86, 3) := by decide +kernel
theorem dX13_skips_30 : decode cX13_skips 30 = .ok (.iconst 1, 1) := by decide +kernel
theorem dX13_skips_31 : decode cX13_skips 31 = .ok (.iadd, 1) := by decide +kernel
theorem dX13_skips_32 : decode cX13_skips 32 = .ok (.putfield 86, 3) := by decide +kernel
theorem dX13_skips_35 : decode cX13_skips 35 = .ok (.goto (-35), 3) := by decide +kernel
theorem dX13_skips_38 : decode cX13_skips 38 = .ok (.return_, 1) := by decide +kernel
def F_X13_skips_L0 (rec : Nat → AH → Option (AH)) (v0 : Nat) (h : AH) : Option (AH) := (gi h 12 v0 22).bind fun x1 => (gi h 12 v0 1).bind fun x2 => if x2 ≤ x1 then (some (h)) else ((gr h 12 v0 0).bind fun r4 => (gi h 12 v0 22).bind fun x5 => (ai h 0 r4 x5).bind fun x6 => if x6 = (32 : Int32) then ((gi h 12 v0 22).bind fun x8 => (pf h 12 v0 22 (.int (x8 + (1 : Int32)))).bind fun h9 => rec v0 h9) else (some (h)))
def f_X13_skips_L0 : Nat → Nat → AH → Option (AH)
  | 0 => fun _ _ => none
  | n + 1 => F_X13_skips_L0 (f_X13_skips_L0 n)
set_option maxRecDepth 100000 in
set_option maxHeartbeats 4000000 in
theorem lx_X13_skips_L0 (X : SX) (d : Nat) : ∀ n (rv : Option Int32) (h' : AH), ∀ (v0 : Nat) (h : AH)  (h1 : AH), f_X13_skips_L0 n v0 h = some (h1) → G X mX13_skips d 38 [] [] h1 rv h' → G X mX13_skips d 0 [(0, .ref v0)] [] h rv h' := by
  intro n
  induction n with
  | zero =>
    intro rv h' v0 h h1 hf hE
    cases hf
  | succ n ihf =>
    intro rv h' v0 h h1 hf hE
    replace hf : F_X13_skips_L0 (f_X13_skips_L0 n) v0 h = some (h1) := hf
    unfold F_X13_skips_L0 at hf
    have ih := ihf rv h'
    refine G.aload_n dX13_skips_0 rfl ?_
    refine G.geti flX13_86 dX13_skips_1 hf (fun x1 hf => ?_)
    refine G.aload_n dX13_skips_4 rfl ?_
    refine G.geti flX13_82 dX13_skips_5 hf (fun x2 hf => ?_)
    refine G.icmp_ge 38 dX13_skips_8 (by decide) (fun c3 => ?_) (fun c3 => ?_)
    · rw [if_pos c3] at hf
      have w0 := Option.some.inj hf
      subst w0
      exact G.pick [] rfl hE
    · rw [if_neg c3] at hf
      refine G.aload_n dX13_skips_11 rfl ?_
      refine G.getr flX13_7 dX13_skips_12 hf (fun r4 hf => ?_)
      refine G.aload_n dX13_skips_15 rfl ?_
      refine G.geti flX13_86 dX13_skips_16 hf (fun x5 hf => ?_)
      refine G.iald dX13_skips_19 hf (fun x6 hf => ?_)
      refine G.bipush (v := (32 : Int32)) dX13_skips_20 (by decide) ?_
      refine G.icmp_ne 38 dX13_skips_22 (by decide) (fun c7 => ?_) (fun c7 => ?_)
      · rw [if_neg c7] at hf
        have w0 := Option.some.inj hf
        subst w0
        exact G.pick [] rfl hE
      · rw [if_pos c7] at hf
        refine G.aload_n dX13_skips_25 rfl ?_
        refine G.dup dX13_skips_26 rfl ?_
        refine G.geti flX13_86 dX13_skips_27 hf (fun x8 hf => ?_)
        refine G.iconst (v := (1 : Int32)) dX13_skips_30 (by decide) ?_
        refine G.iadd dX13_skips_31 ?_
        refine G.put flX13_86 (Or.inl rfl) (fun _ _ => ⟨rfl, rfl⟩) dX13_skips_32 hf (fun h9 hf => ?_)
        refine G.goto 0 dX13_skips_35 (by decide) ?_
        exact G.pick [0] rfl (ih v0 h9 _ hf hE)
theorem l_X13_skips_L0 (X : SX) (d : Nat) (rv : Option Int32) (h' : AH) (n : Nat) : ∀ (v0 : Nat) (h : AH)  (h1 : AH), f_X13_skips_L0 n v0 h = some (h1) → G X mX13_skips d 38 [] [] h1 rv h' → G X mX13_skips d 0 [(0, .ref v0)] [] h rv h' := lx_X13_skips_L0 X d n rv h'
def f_X13_skips (a0 : Nat) (h : AH) : Option (AH) := if isO h 12 a0 = true then ((f_X13_skips_L0 1000000 a0 h).bind fun h1 => some h1) else none
set_option maxRecDepth 100000 in
set_option maxHeartbeats 4000000 in
theorem c_X13_skips (X : SX) (d : Nat) (a0 : Nat) (h : AH) (h' : AH) (hf : f_X13_skips a0 h = some h') : isO h 12 a0 = true ∧ G X mX13_skips d 0 [(0, .ref a0)] [] h none h' := by
  unfold f_X13_skips at hf
  by_cases ho : isO h 12 a0 = true
  · rw [if_pos ho] at hf
    refine ⟨ho, ?_⟩
    obtain ⟨h1, e2, hf⟩ := Option.bind_eq_some_iff.mp hf
    refine G.pick [0] rfl (l_X13_skips_L0 X d _ _ 1000000 a0 h h1 e2 ?_)
    have hq := Option.some.inj hf
    subst hq
    exact G.vret rfl dX13_skips_38
  · rw [if_neg ho] at hf
    cases hf
/-! X13_faults -/
theorem dX13_faults_0 : decode cX13_faults 0 = .ok (.aload_n 0, 1) := by decide +kernel
theorem dX13_faults_1 : decode cX13_faults 1 = .ok (.getfield 89, 3) := by decide +kernel
theorem dX13_faults_4 : decode cX13_faults 4 = .ok (.ifCond .ne 13, 3) := by decide +kernel
theorem dX13_faults_7 : decode cX13_faults 7 = .ok (.aload_n 0, 1) := by decide +kernel
theorem dX13_faults_8 : decode cX13_faults 8 = .ok (.iload_n 1, 1) := by decide +kernel
theorem dX13_faults_9 : decode cX13_faults 9 = .ok (.putfield 89, 3) := by decide +kernel
theorem dX13_faults_12 : decode cX13_faults 12 = .ok (.aload_n 0, 1) := by decide +kernel
theorem dX13_faults_13 : decode cX13_faults 13 = .ok (.iload_n 2, 1) := by decide +kernel
theorem dX13_faults_14 : decode cX13_faults 14 = .ok (.putfield 13, 3) := by decide +kernel
theorem dX13_faults_17 : decode cX13_faults 17 = .ok (.return_, 1) := by decide +kernel
def f_X13_faults (a0 : Nat) (a1 : Int32) (a2 : Int32) (h : AH) : Option (AH) := if isO h 12 a0 = true then ((gi h 12 a0 23).bind fun x1 => if x1 = 0 then ((pf h 12 a0 23 (.int a1)).bind fun h3 => (pf h3 12 a0 2 (.int a2)).bind fun h4 => some h4) else (some h)) else none
set_option maxRecDepth 100000 in
set_option maxHeartbeats 4000000 in
theorem c_X13_faults (X : SX) (d : Nat) (a0 : Nat) (a1 : Int32) (a2 : Int32) (h : AH) (h' : AH) (hf : f_X13_faults a0 a1 a2 h = some h') : isO h 12 a0 = true ∧ G X mX13_faults d 0 [(0, .ref a0), (1, .int a1), (2, .int a2)] [] h none h' := by
  unfold f_X13_faults at hf
  by_cases ho : isO h 12 a0 = true
  · rw [if_pos ho] at hf
    refine ⟨ho, ?_⟩
    refine G.aload_n dX13_faults_0 rfl ?_
    refine G.geti flX13_89 dX13_faults_1 hf (fun x1 hf => ?_)
    refine G.if_ne 17 dX13_faults_4 (by decide) (fun c2 => ?_) (fun c2 => ?_)
    · rw [if_neg c2] at hf
      have hq := Option.some.inj hf
      subst hq
      exact G.vret rfl dX13_faults_17
    · rw [if_pos c2] at hf
      refine G.aload_n dX13_faults_7 rfl ?_
      refine G.iload_n dX13_faults_8 rfl ?_
      refine G.put flX13_89 (Or.inl rfl) (fun _ _ => ⟨rfl, rfl⟩) dX13_faults_9 hf (fun h3 hf => ?_)
      refine G.aload_n dX13_faults_12 rfl ?_
      refine G.iload_n dX13_faults_13 rfl ?_
      refine G.put flX13_13 (Or.inl rfl) (fun _ _ => ⟨rfl, rfl⟩) dX13_faults_14 hf (fun h4 hf => ?_)
      have hq := Option.some.inj hf
      subst hq
      exact G.vret rfl dX13_faults_17
  · rw [if_neg ho] at hf
    cases hf
/-! X13_isFigure -/
theorem dX13_isFigure_0 : decode cX13_isFigure 0 = .ok (.aload_n 0, 1) := by decide +kernel
theorem dX13_isFigure_1 : decode cX13_isFigure 1 = .ok (.getfield 86, 3) := by decide +kernel
theorem dX13_isFigure_4 : decode cX13_isFigure 4 = .ok (.aload_n 0, 1) := by decide +kernel
theorem dX13_isFigure_5 : decode cX13_isFigure 5 = .ok (.getfield 82, 3) := by decide +kernel
theorem dX13_isFigure_8 : decode cX13_isFigure 8 = .ok (.if_icmp .ge 35, 3) := by decide +kernel
theorem dX13_isFigure_11 : decode cX13_isFigure 11 = .ok (.aload_n 0, 1) := by decide +kernel
theorem dX13_isFigure_12 : decode cX13_isFigure 12 = .ok (.getfield 7, 3) := by decide +kernel
theorem dX13_isFigure_15 : decode cX13_isFigure 15 = .ok (.aload_n 0, 1) := by decide +kernel
theorem dX13_isFigure_16 : decode cX13_isFigure 16 = .ok (.getfield 86, 3) := by decide +kernel
theorem dX13_isFigure_19 : decode cX13_isFigure 19 = .ok (.iaload, 1) := by decide +kernel
theorem dX13_isFigure_20 : decode cX13_isFigure 20 = .ok (.bipush 48, 2) := by decide +kernel
theorem dX13_isFigure_22 : decode cX13_isFigure 22 = .ok (.if_icmp .lt 21, 3) := by decide +kernel
theorem dX13_isFigure_25 : decode cX13_isFigure 25 = .ok (.aload_n 0, 1) := by decide +kernel
theorem dX13_isFigure_26 : decode cX13_isFigure 26 = .ok (.getfield 7, 3) := by decide +kernel
theorem dX13_isFigure_29 : decode cX13_isFigure 29 = .ok (.aload_n 0, 1) := by decide +kernel
theorem dX13_isFigure_30 : decode cX13_isFigure 30 = .ok (.getfield 86, 3) := by decide +kernel
theorem dX13_isFigure_33 : decode cX13_isFigure 33 = .ok (.iaload, 1) := by decide +kernel
theorem dX13_isFigure_34 : decode cX13_isFigure 34 = .ok (.bipush 57, 2) := by decide +kernel
theorem dX13_isFigure_36 : decode cX13_isFigure 36 = .ok (.if_icmp .gt 7, 3) := by decide +kernel
theorem dX13_isFigure_39 : decode cX13_isFigure 39 = .ok (.iconst 1, 1) := by decide +kernel
theorem dX13_isFigure_40 : decode cX13_isFigure 40 = .ok (.goto 4, 3) := by decide +kernel
theorem dX13_isFigure_43 : decode cX13_isFigure 43 = .ok (.iconst 0, 1) := by decide +kernel
theorem dX13_isFigure_44 : decode cX13_isFigure 44 = .ok (.ireturn, 1) := by decide +kernel
def f_X13_isFigure (a0 : Nat) (h : AH) : Option (Int32 × AH) := if isO h 12 a0 = true then ((gi h 12 a0 22).bind fun x1 => (gi h 12 a0 1).bind fun x2 => if x2 ≤ x1 then (some ((0 : Int32), h)) else ((gr h 12 a0 0).bind fun r4 => (gi h 12 a0 22).bind fun x5 => (ai h 0 r4 x5).bind fun x6 => if x6 < (48 : Int32) then (some ((0 : Int32), h)) else ((gr h 12 a0 0).bind fun r8 => (gi h 12 a0 22).bind fun x9 => (ai h 0 r8 x9).bind fun x10 => if (57 : Int32) < x10 then (some ((0 : Int32), h)) else (some ((1 : Int32), h))))) else none
set_option maxRecDepth 100000 in
set_option maxHeartbeats 4000000 in
theorem c_X13_isFigure (X : SX) (d : Nat) (a0 : Nat) (h : AH) (rr : Int32) (h' : AH) (hf : f_X13_isFigure a0 h = some (rr, h')) : isO h 12 a0 = true ∧ G X mX13_isFigure d 0 [(0, .ref a0)] [] h (some rr) h' := by
  unfold f_X13_isFigure at hf
  by_cases ho : isO h 12 a0 = true
  · rw [if_pos ho] at hf
    refine ⟨ho, ?_⟩
    refine G.aload_n dX13_isFigure_0 rfl ?_
    refine G.geti flX13_86 dX13_isFigure_1 hf (fun x1 hf => ?_)
    refine G.aload_n dX13_isFigure_4 rfl ?_
    refine G.geti flX13_82 dX13_isFigure_5 hf (fun x2 hf => ?_)
    refine G.icmp_ge 43 dX13_isFigure_8 (by decide) (fun c3 => ?_) (fun c3 => ?_)
    · rw [if_pos c3] at hf
      refine G.iconst (v := (0 : Int32)) dX13_isFigure_43 (by decide) ?_
      obtain ⟨hq1, hq2⟩ := Prod.mk.inj (Option.some.inj hf)
      subst hq1
      subst hq2
      exact G.iret rfl (by decide) dX13_isFigure_44
    · rw [if_neg c3] at hf
      refine G.aload_n dX13_isFigure_11 rfl ?_
      refine G.getr flX13_7 dX13_isFigure_12 hf (fun r4 hf => ?_)
      refine G.aload_n dX13_isFigure_15 rfl ?_
      refine G.geti flX13_86 dX13_isFigure_16 hf (fun x5 hf => ?_)
      refine G.iald dX13_isFigure_19 hf (fun x6 hf => ?_)
      refine G.bipush (v := (48 : Int32)) dX13_isFigure_20 (by decide) ?_
      refine G.icmp_lt 43 dX13_isFigure_22 (by decide) (fun c7 => ?_) (fun c7 => ?_)
      · rw [if_pos c7] at hf
        refine G.iconst (v := (0 : Int32)) dX13_isFigure_43 (by decide) ?_
        obtain ⟨hq1, hq2⟩ := Prod.mk.inj (Option.some.inj hf)
        subst hq1
        subst hq2
        exact G.iret rfl (by decide) dX13_isFigure_44
      · rw [if_neg c7] at hf
        refine G.aload_n dX13_isFigure_25 rfl ?_
        refine G.getr flX13_7 dX13_isFigure_26 hf (fun r8 hf => ?_)
        refine G.aload_n dX13_isFigure_29 rfl ?_
        refine G.geti flX13_86 dX13_isFigure_30 hf (fun x9 hf => ?_)
        refine G.iald dX13_isFigure_33 hf (fun x10 hf => ?_)
        refine G.bipush (v := (57 : Int32)) dX13_isFigure_34 (by decide) ?_
        refine G.icmp_gt 43 dX13_isFigure_36 (by decide) (fun c11 => ?_) (fun c11 => ?_)
        · rw [if_pos c11] at hf
          refine G.iconst (v := (0 : Int32)) dX13_isFigure_43 (by decide) ?_
          obtain ⟨hq1, hq2⟩ := Prod.mk.inj (Option.some.inj hf)
          subst hq1
          subst hq2
          exact G.iret rfl (by decide) dX13_isFigure_44
        · rw [if_neg c11] at hf
          refine G.iconst (v := (1 : Int32)) dX13_isFigure_39 (by decide) ?_
          refine G.goto 44 dX13_isFigure_40 (by decide) ?_
          obtain ⟨hq1, hq2⟩ := Prod.mk.inj (Option.some.inj hf)
          subst hq1
          subst hq2
          exact G.iret rfl (by decide) dX13_isFigure_44
  · rw [if_neg ho] at hf
    cases hf
/-! X13_number -/
theorem dX13_number_0 : decode cX13_number 0 = .ok (.aload_n 0, 1) := by decide +kernel
theorem dX13_number_1 : decode cX13_number 1 = .ok (.invokevirtual 92, 3) := by decide +kernel
theorem dX13_number_4 : decode cX13_number 4 = .ok (.aload_n 0, 1) := by decide +kernel
theorem dX13_number_5 : decode cX13_number 5 = .ok (.getfield 89, 3) := by decide +kernel
theorem dX13_number_8 : decode cX13_number 8 = .ok (.ifCond .eq 5, 3) := by decide +kernel
theorem dX13_number_11 : decode cX13_number 11 = .ok (.iconst 0, 1) := by decide +kernel
theorem dX13_number_12 : decode cX13_number 12 = .ok (.ireturn, 1) := by decide +kernel
theorem dX13_number_13 : decode cX13_number 13 = .ok (.aload_n 0, 1) := by decide +kernel
theorem dX13_number_14 : decode cX13_number 14 = .ok (.invokevirtual 95, 3) := by decide +kernel
theorem dX13_number_17 : decode cX13_number 17 = .ok (.ifCond .ne 14, 3) := by decide +kernel
theorem dX13_number_20 : decode cX13_number 20 = .ok (.aload_n 0, 1) := by decide +kernel
theorem dX13_number_21 : decode cX13_number 21 = .ok (.iconst 1, 1) := by decide +kernel
theorem dX13_number_22 : decode cX13_number 22 = .ok (.aload_n 0, 1) := by decide +kernel
theorem dX13_number_23 : decode cX13_number 23 = .ok (.getfield 86, 3) := by decide +kernel
theorem dX13_number_26 : decode cX13_number 26 = .ok (.invokevirtual 99, 3) := by decide +kernel
theorem dX13_number_29 : decode cX13_number 29 = .ok (.iconst 0, 1) := by decide +kernel
theorem dX13_number_30 : decode cX13_number 30 = .ok (.ireturn, 1) := by decide +kernel
theorem dX13_number_31 : decode cX13_number 31 = .ok (.aload_n 0, 1) := by decide +kernel
theorem dX13_number_32 : decode cX13_number 32 = .ok (.getfield 86, 3) := by decide +kernel
theorem dX13_number_35 : decode cX13_number 35 = .ok (.istore_n 3, 1) := by decide +kernel
theorem dX13_number_36 : decode cX13_number 36 = .ok (.iconst 0, 1) := by decide +kernel
theorem dX13_number_37 : decode cX13_number 37 = .ok (.istore 4, 2) := by decide +kernel
theorem dX13_number_39 : decode cX13_number 39 = .ok (.aload_n 0, 1) := by decide +kernel
theorem dX13_number_40 : decode cX13_number 40 = .ok (.invokevirtual 95, 3) := by decide +kernel
theorem dX13_number_43 : decode cX13_number 43 = .ok (.ifCond .eq 51, 3) := by decide +kernel
theorem dX13_number_46 : decode cX13_number 46 = .ok (.aload_n 0, 1) := by decide +kernel
theorem dX13_number_47 : decode cX13_number 47 = .ok (.getfield 86, 3) := by decide +kernel
theorem dX13_number_50 : decode cX13_number 50 = .ok (.iload_n 3, 1) := by decide +kernel
theorem dX13_number_51 : decode cX13_number 51 = .ok (.isub, 1) := by decide +kernel
theorem dX13_number_52 : decode cX13_number 52 = .ok (.iconst 3, 1) := by decide +kernel
theorem dX13_number_53 : decode cX13_number 53 = .ok (.if_icmp .ge 24, 3) := by decide +kernel
theorem dX13_number_56 : decode cX13_number 56 = .ok (.bipush 10, 2) := by decide +kernel
theorem dX13_number_58 : decode cX13_number 58 = .ok (.iload 4, 2) := by decide +kernel
theorem dX13_number_60 : decode cX13_number 60 = .ok (.imul, 1) := by decide +kernel
theorem dX13_number_61 : decode cX13_number 61 = .ok (.aload_n 0, 1) := by decide +kernel
theorem dX13_number_62 : decode cX13_number 62 = .ok (.getfield 7, 3) := by decide +kernel
theorem dX13_number_65 : decode cX13_number 65 = .ok (.aload_n 0, 1) := by decide +kernel
theorem dX13_number_66 : decode cX13_number 66 = .ok (.getfield 86, 3) := by decide +kernel
theorem dX13_number_69 : decode cX13_number 69 = .ok (.iaload, 1) := by decide +kernel
theorem dX13_number_70 : decode cX13_number 70 = .ok (.iadd, 1) := by decide +kernel
theorem dX13_number_71 : decode cX13_number 71 = .ok (.bipush 48, 2) := by decide +kernel
theorem dX13_number_73 : decode cX13_number 73 = .ok (.isub, 1) := by decide +kernel
theorem dX13_number_74 : decode cX13_number 74 = .ok (.goto 5, 3) := by decide +kernel
theorem dX13_number_77 : decode cX13_number 77 = .ok (.iload 4, 2) := by decide +kernel
theorem dX13_number_79 : decode cX13_number 79 = .ok (.istore 4, 2) := by decide +kernel
theorem dX13_number_81 : decode cX13_number 81 = .ok (.aload_n 0, 1) := by decide +kernel
theorem dX13_number_82 : decode cX13_number 82 = .ok (.dup, 1) := by decide +kernel
theorem dX13_number_83 : decode cX13_number 83 = .ok (.getfield 86, 3) := by decide +kernel
theorem dX13_number_86 : decode cX13_number 86 = .ok (.iconst 1, 1) := by decide +kernel
theorem dX13_number_87 : decode cX13_number 87 = .ok (.iadd, 1) := by decide +kernel
theorem dX13_number_88 : decode cX13_number 88 = .ok (.putfield 86, 3) := by decide +kernel
theorem dX13_number_91 : decode cX13_number 91 = .ok (.goto (-52), 3) := by decide +kernel
theorem dX13_number_94 : decode cX13_number 94 = .ok (.aload_n 0, 1) := by decide +kernel
theorem dX13_number_95 : decode cX13_number 95 = .ok (.getfield 86, 3) := by decide +kernel
theorem dX13_number_98 : decode cX13_number 98 = .ok (.iload_n 3, 1) := by decide +kernel
theorem dX13_number_99 : decode cX13_number 99 = .ok (.isub, 1) := by decide +kernel
theorem dX13_number_100 : decode cX13_number 100 = .ok (.iconst 3, 1) := by decide +kernel
theorem dX13_number_101 : decode cX13_number 101 = .ok (.if_icmp .gt 15, 3) := by decide +kernel
theorem dX13_number_104 : decode cX13_number 104 = .ok (.iload 4, 2) := by decide +kernel
theorem dX13_number_106 : decode cX13_number 106 = .ok (.iload_n 1, 1) := by decide +kernel
theorem dX13_number_107 : decode cX13_number 107 = .ok (.if_icmp .lt 9, 3) := by decide +kernel
theorem dX13_number_110 : decode cX13_number 110 = .ok (.iload 4, 2) := by decide +kernel
theorem dX13_number_112 : decode cX13_number 112 = .ok (.iload_n 2, 1) := by decide +kernel
theorem dX13_number_113 : decode cX13_number 113 = .ok (.if_icmp .le 11, 3) := by decide +kernel
theorem dX13_number_116 : decode cX13_number 116 = .ok (.aload_n 0, 1) := by decide +kernel
theorem dX13_number_117 : decode cX13_number 117 = .ok (.iconst 2, 1) := by decide +kernel
theorem dX13_number_118 : decode cX13_number 118 = .ok (.iload_n 3, 1) := by decide +kernel
theorem dX13_number_119 : decode cX13_number 119 = .ok (.invokevirtual 99, 3) := by decide +kernel
theorem dX13_number_122 : decode cX13_number 122 = .ok (.iconst 0, 1) := by decide +kernel
theorem dX13_number_123 : decode cX13_number 123 = .ok (.ireturn, 1) := by decide +kernel
theorem dX13_number_124 : decode cX13_number 124 = .ok (.iload 4, 2) := by decide +kernel
theorem dX13_number_126 : decode cX13_number 126 = .ok (.ireturn, 1) := by decide +kernel
def f_X13_number_79 (rec : Nat → Int32 → Int32 → Int32 → Int32 → AH → Option (Int32 × AH)) (v0 : Nat) (v1 : Int32) (v2 : Int32) (v3 : Int32) (s0 : Int32) (h : AH) : Option (Int32 × AH) := (gi h 12 v0 22).bind fun x1 => (pf h 12 v0 22 (.int (x1 + (1 : Int32)))).bind fun h2 => rec v0 v1 v2 v3 s0 h2
set_option maxRecDepth 100000 in
set_option maxHeartbeats 4000000 in
theorem j_X13_number_79 (X : SX) (d : Nat) (rec : Nat → Int32 → Int32 → Int32 → Int32 → AH → Option (Int32 × AH)) (hrecf : ∀ (rv : Option Int32) (h' : AH), ∀ (v0 : Nat) (v1 : Int32) (v2 : Int32) (v3 : Int32) (v4 : Int32) (h : AH) (y4 : Int32) (h1 : AH), rec v0 v1 v2 v3 v4 h = some (y4, h1) → G X mX13_number (d + 1) 94 [(0, .ref v0), (1, .int v1), (2, .int v2), (3, .int v3), (4, .int y4)] [] h1 rv h' → G X mX13_number (d + 1) 39 [(0, .ref v0), (1, .int v1), (2, .int v2), (3, .int v3), (4, .int v4)] [] h rv h') (v0 : Nat) (v1 : Int32) (v2 : Int32) (v3 : Int32) (s0 : Int32) (h : AH) (y4 : Int32) (h1 : AH) (hf : f_X13_number_79 rec v0 v1 v2 v3 s0 h = some (y4, h1)) (rv : Option Int32) (h' : AH) (hE : G X mX13_number (d + 1) 94 [(0, .ref v0), (1, .int v1), (2, .int v2), (3, .int v3), (4, .int y4)] [] h1 rv h') : G X mX13_number (d + 1) 79 [(0, .ref v0), (1, .int v1), (2, .int v2), (3, .int v3)] [.int s0] h rv h' := by
  unfold f_X13_number_79 at hf
  have hrec := hrecf rv h'
  refine G.istore (lv' := [(4, .int s0), (0, .ref v0), (1, .int v1), (2, .int v2), (3, .int v3)]) dX13_number_79 (by decide) rfl ?_
  refine G.aload_n dX13_number_81 rfl ?_
  refine G.dup dX13_number_82 rfl ?_
  refine G.geti flX13_86 dX13_number_83 hf (fun x1 hf => ?_)
  refine G.iconst (v := (1 : Int32)) dX13_number_86 (by decide) ?_
  refine G.iadd dX13_number_87 ?_
  refine G.put flX13_86 (Or.inl rfl) (fun _ _ => ⟨rfl, rfl⟩) dX13_number_88 hf (fun h2 hf => ?_)
  refine G.goto 39 dX13_number_91 (by decide) ?_
  exact G.pick [1, 2, 3, 4, 0] rfl (hrec v0 v1 v2 v3 s0 h2 _ _ hf hE)
def F_X13_number_L39 (rec : Nat → Int32 → Int32 → Int32 → Int32 → AH → Option (Int32 × AH)) (v0 : Nat) (v1 : Int32) (v2 : Int32) (v3 : Int32) (v4 : Int32) (h : AH) : Option (Int32 × AH) := bT1 (f_X13_isFigure v0 h) fun x3 h1 => if x3 = 0 then (some (v4, h1)) else ((gi h1 12 v0 22).bind fun x5 => if (3 : Int32) ≤ (x5 - v3) then (f_X13_number_79 rec v0 v1 v2 v3 v4 h1) else ((gr h1 12 v0 0).bind fun r7 => (gi h1 12 v0 22).bind fun x8 => (ai h1 0 r7 x8).bind fun x9 => f_X13_number_79 rec v0 v1 v2 v3 ((((10 : Int32) * v4) + x9) - (48 : Int32)) h1))
def f_X13_number_L39 : Nat → Nat → Int32 → Int32 → Int32 → Int32 → AH → Option (Int32 × AH)
  | 0 => fun _ _ _ _ _ _ => none
  | n + 1 => F_X13_number_L39 (f_X13_number_L39 n)
set_option maxRecDepth 100000 in
set_option maxHeartbeats 4000000 in
theorem lx_X13_number_L39 (X : SX) (d : Nat) : ∀ n (rv : Option Int32) (h' : AH), ∀ (v0 : Nat) (v1 : Int32) (v2 : Int32) (v3 : Int32) (v4 : Int32) (h : AH) (y4 : Int32) (h1 : AH), f_X13_number_L39 n v0 v1 v2 v3 v4 h = some (y4, h1) → G X mX13_number (d + 1) 94 [(0, .ref v0), (1, .int v1), (2, .int v2), (3, .int v3), (4, .int y4)] [] h1 rv h' → G X mX13_number (d + 1) 39 [(0, .ref v0), (1, .int v1), (2, .int v2), (3, .int v3), (4, .int v4)] [] h rv h' := by
  intro n
  induction n with
  | zero =>
    intro rv h' v0 v1 v2 v3 v4 h y4 h1 hf hE
    cases hf
  | succ n ihf =>
    intro rv h' v0 v1 v2 v3 v4 h y4 h1 hf hE
    replace hf : F_X13_number_L39 (f_X13_number_L39 n) v0 v1 v2 v3 v4 h = some (y4, h1) := hf
    unfold F_X13_number_L39 at hf
    have ih := ihf rv h'
    refine G.aload_n dX13_number_39 rfl ?_
    obtain ⟨x3, h1, e2, hf⟩ := bT1_spec hf
    refine G.callVi (M' := mX13_isFigure) (ci := 12) (As := []) (st := []) okX13_isFigure viX13_isFigure lkX13_95 rfl rfl rfl (Nat.le_of_ble_eq_true rfl) (Nat.le_of_ble_eq_true rfl) dX13_number_40 (c_X13_isFigure X d _ _ _ _ e2).1 (c_X13_isFigure X d _ _ _ _ e2).2 ?_
    refine G.if_eq 94 dX13_number_43 (by decide) (fun c4 => ?_) (fun c4 => ?_)
    · rw [if_pos c4] at hf
      obtain ⟨u0, w1⟩ := Prod.mk.inj (Option.some.inj hf)
      subst u0
      subst w1
      exact G.pick [0, 1, 2, 3, 4] rfl hE
    · rw [if_neg c4] at hf
      refine G.aload_n dX13_number_46 rfl ?_
      refine G.geti flX13_86 dX13_number_47 hf (fun x5 hf => ?_)
      refine G.iload_n dX13_number_50 rfl ?_
      refine G.isub dX13_number_51 ?_
      refine G.iconst (v := (3 : Int32)) dX13_number_52 (by decide) ?_
      refine G.icmp_ge 77 dX13_number_53 (by decide) (fun c6 => ?_) (fun c6 => ?_)
      · rw [if_pos c6] at hf
        refine G.iload dX13_number_77 rfl ?_
        exact G.pick [0, 1, 2, 3] rfl (j_X13_number_79 X d _ ihf v0 v1 v2 v3 v4 h1 _ _ hf _ _ hE)
      · rw [if_neg c6] at hf
        refine G.bipush (v := (10 : Int32)) dX13_number_56 (by decide) ?_
        refine G.iload dX13_number_58 rfl ?_
        refine G.imul dX13_number_60 ?_
        refine G.aload_n dX13_number_61 rfl ?_
        refine G.getr flX13_7 dX13_number_62 hf (fun r7 hf => ?_)
        refine G.aload_n dX13_number_65 rfl ?_
        refine G.geti flX13_86 dX13_number_66 hf (fun x8 hf => ?_)
        refine G.iald dX13_number_69 hf (fun x9 hf => ?_)
        refine G.iadd dX13_number_70 ?_
        refine G.bipush (v := (48 : Int32)) dX13_number_71 (by decide) ?_
        refine G.isub dX13_number_73 ?_
        refine G.goto 79 dX13_number_74 (by decide) ?_
        exact G.pick [0, 1, 2, 3] rfl (j_X13_number_79 X d _ ihf v0 v1 v2 v3 ((((10 : Int32) * v4) + x9) - (48 : Int32)) h1 _ _ hf _ _ hE)
theorem l_X13_number_L39 (X : SX) (d : Nat) (rv : Option Int32) (h' : AH) (n : Nat) : ∀ (v0 : Nat) (v1 : Int32) (v2 : Int32) (v3 : Int32) (v4 : Int32) (h : AH) (y4 : Int32) (h1 : AH), f_X13_number_L39 n v0 v1 v2 v3 v4 h = some (y4, h1) → G X mX13_number (d + 1) 94 [(0, .ref v0), (1, .int v1), (2, .int v2), (3, .int v3), (4, .int y4)] [] h1 rv h' → G X mX13_number (d + 1) 39 [(0, .ref v0), (1, .int v1), (2, .int v2), (3, .int v3), (4, .int v4)] [] h rv h' := lx_X13_number_L39 X d n rv h'
def f_X13_number_116 (v0 : Nat) (v3 : Int32) (h : AH) : Option (Int32 × AH) := (f_X13_faults v0 (2 : Int32) v3 h).bind fun h1 => some ((0 : Int32), h1)
set_option maxRecDepth 100000 in
set_option maxHeartbeats 4000000 in
theorem j_X13_number_116 (X : SX) (d : Nat) (v0 : Nat) (v3 : Int32) (h : AH) (rr : Int32) (h' : AH) (hf : f_X13_number_116 v0 v3 h = some (rr, h')) : G X mX13_number (d + 1) 116 [(0, .ref v0), (3, .int v3)] [] h (some rr) h' := by
  unfold f_X13_number_116 at hf
  refine G.aload_n dX13_number_116 rfl ?_
  refine G.iconst (v := (2 : Int32)) dX13_number_117 (by decide) ?_
  refine G.iload_n dX13_number_118 rfl ?_
  obtain ⟨h1, e2, hf⟩ := Option.bind_eq_some_iff.mp hf
  refine G.callVv (M' := mX13_faults) (ci := 12) (As := [.int (2 : Int32), .int v3]) (st := []) okX13_faults viX13_faults lkX13_99 rfl rfl rfl (Nat.le_of_ble_eq_true rfl) (Nat.le_of_ble_eq_true rfl) dX13_number_119 (c_X13_faults X d _ _ _ _ _ e2).1 (c_X13_faults X d _ _ _ _ _ e2).2 ?_
  refine G.iconst (v := (0 : Int32)) dX13_number_122 (by decide) ?_
  obtain ⟨hq1, hq2⟩ := Prod.mk.inj (Option.some.inj hf)
  subst hq1
  subst hq2
  exact G.iret rfl rfl dX13_number_123
def f_X13_number (a0 : Nat) (a1 : Int32) (a2 : Int32) (h : AH) : Option (Int32 × AH) := if isO h 12 a0 = true then ((f_X13_skips a0 h).bind fun h1 => (gi h1 12 a0 23).bind fun x3 => if x3 = 0 then (bT1 (f_X13_isFigure a0 h1) fun x7 h5 => if x7 = 0 then ((gi h5 12 a0 22).bind fun x17 => (f_X13_faults a0 (1 : Int32) x17 h5).bind fun h18 => some ((0 : Int32), h18)) else ((gi h5 12 a0 22).bind fun x9 => bT1 (f_X13_number_L39 1000000 a0 a1 a2 x9 (0 : Int32) h5) fun y12 h10 => (gi h10 12 a0 22).bind fun x13 => if (3 : Int32) < (x13 - x9) then (f_X13_number_116 a0 x9 h10) else (if y12 < a1 then (f_X13_number_116 a0 x9 h10) else (if y12 ≤ a2 then (some (y12, h10)) else (f_X13_number_116 a0 x9 h10))))) else (some ((0 : Int32), h1))) else none
set_option maxRecDepth 100000 in
set_option maxHeartbeats 4000000 in
theorem c_X13_number (X : SX) (d : Nat) (a0 : Nat) (a1 : Int32) (a2 : Int32) (h : AH) (rr : Int32) (h' : AH) (hf : f_X13_number a0 a1 a2 h = some (rr, h')) : isO h 12 a0 = true ∧ G X mX13_number (d + 1) 0 [(0, .ref a0), (1, .int a1), (2, .int a2)] [] h (some rr) h' := by
  unfold f_X13_number at hf
  by_cases ho : isO h 12 a0 = true
  · rw [if_pos ho] at hf
    refine ⟨ho, ?_⟩
    refine G.aload_n dX13_number_0 rfl ?_
    obtain ⟨h1, e2, hf⟩ := Option.bind_eq_some_iff.mp hf
    refine G.callVv (M' := mX13_skips) (ci := 12) (As := []) (st := []) okX13_skips viX13_skips lkX13_92 rfl rfl rfl (Nat.le_of_ble_eq_true rfl) (Nat.le_of_ble_eq_true rfl) dX13_number_1 (c_X13_skips X d _ _ _ e2).1 (c_X13_skips X d _ _ _ e2).2 ?_
    refine G.aload_n dX13_number_4 rfl ?_
    refine G.geti flX13_89 dX13_number_5 hf (fun x3 hf => ?_)
    refine G.if_eq 13 dX13_number_8 (by decide) (fun c4 => ?_) (fun c4 => ?_)
    · rw [if_pos c4] at hf
      refine G.aload_n dX13_number_13 rfl ?_
      obtain ⟨x7, h5, e6, hf⟩ := bT1_spec hf
      refine G.callVi (M' := mX13_isFigure) (ci := 12) (As := []) (st := []) okX13_isFigure viX13_isFigure lkX13_95 rfl rfl rfl (Nat.le_of_ble_eq_true rfl) (Nat.le_of_ble_eq_true rfl) dX13_number_14 (c_X13_isFigure X d _ _ _ _ e6).1 (c_X13_isFigure X d _ _ _ _ e6).2 ?_
      refine G.if_ne 31 dX13_number_17 (by decide) (fun c8 => ?_) (fun c8 => ?_)
      · rw [if_neg c8] at hf
        refine G.aload_n dX13_number_31 rfl ?_
        refine G.geti flX13_86 dX13_number_32 hf (fun x9 hf => ?_)
        refine G.istore_n (lv' := [(3, .int x9), (0, .ref a0), (1, .int a1), (2, .int a2)]) dX13_number_35 (by decide) rfl ?_
        refine G.iconst (v := (0 : Int32)) dX13_number_36 (by decide) ?_
        refine G.istore (lv' := [(4, .int (0 : Int32)), (3, .int x9), (0, .ref a0), (1, .int a1), (2, .int a2)]) dX13_number_37 (by decide) rfl ?_
        obtain ⟨y12, h10, e11, hf⟩ := bT1_spec hf
        refine G.pick [2, 3, 4, 1, 0] rfl (l_X13_number_L39 X d _ _ 1000000 a0 a1 a2 x9 (0 : Int32) h5 y12 h10 e11 ?_)
        refine G.aload_n dX13_number_94 rfl ?_
        refine G.geti flX13_86 dX13_number_95 hf (fun x13 hf => ?_)
        refine G.iload_n dX13_number_98 rfl ?_
        refine G.isub dX13_number_99 ?_
        refine G.iconst (v := (3 : Int32)) dX13_number_100 (by decide) ?_
        refine G.icmp_gt 116 dX13_number_101 (by decide) (fun c14 => ?_) (fun c14 => ?_)
        · rw [if_pos c14] at hf
          exact G.pick [0, 3] rfl (j_X13_number_116 X d a0 x9 h10 _ _ hf)
        · rw [if_neg c14] at hf
          refine G.iload dX13_number_104 rfl ?_
          refine G.iload_n dX13_number_106 rfl ?_
          refine G.icmp_lt 116 dX13_number_107 (by decide) (fun c15 => ?_) (fun c15 => ?_)
          · rw [if_pos c15] at hf
            exact G.pick [0, 3] rfl (j_X13_number_116 X d a0 x9 h10 _ _ hf)
          · rw [if_neg c15] at hf
            refine G.iload dX13_number_110 rfl ?_
            refine G.iload_n dX13_number_112 rfl ?_
            refine G.icmp_le 124 dX13_number_113 (by decide) (fun c16 => ?_) (fun c16 => ?_)
            · rw [if_pos c16] at hf
              refine G.iload dX13_number_124 rfl ?_
              obtain ⟨hq1, hq2⟩ := Prod.mk.inj (Option.some.inj hf)
              subst hq1
              subst hq2
              exact G.iret rfl rfl dX13_number_126
            · rw [if_neg c16] at hf
              exact G.pick [0, 3] rfl (j_X13_number_116 X d a0 x9 h10 _ _ hf)
      · rw [if_pos c8] at hf
        refine G.aload_n dX13_number_20 rfl ?_
        refine G.iconst (v := (1 : Int32)) dX13_number_21 (by decide) ?_
        refine G.aload_n dX13_number_22 rfl ?_
        refine G.geti flX13_86 dX13_number_23 hf (fun x17 hf => ?_)
        obtain ⟨h18, e19, hf⟩ := Option.bind_eq_some_iff.mp hf
        refine G.callVv (M' := mX13_faults) (ci := 12) (As := [.int (1 : Int32), .int x17]) (st := []) okX13_faults viX13_faults lkX13_99 rfl rfl rfl (Nat.le_of_ble_eq_true rfl) (Nat.le_of_ble_eq_true rfl) dX13_number_26 (c_X13_faults X d _ _ _ _ _ e19).1 (c_X13_faults X d _ _ _ _ _ e19).2 ?_
        refine G.iconst (v := (0 : Int32)) dX13_number_29 (by decide) ?_
        obtain ⟨hq1, hq2⟩ := Prod.mk.inj (Option.some.inj hf)
        subst hq1
        subst hq2
        exact G.iret rfl rfl dX13_number_30
    · rw [if_neg c4] at hf
      refine G.iconst (v := (0 : Int32)) dX13_number_11 (by decide) ?_
      obtain ⟨hq1, hq2⟩ := Prod.mk.inj (Option.some.inj hf)
      subst hq1
      subst hq2
      exact G.iret rfl rfl dX13_number_12
  · rw [if_neg ho] at hf
    cases hf
/-! X13_clause -/
theorem dX13_clause_0 : decode cX13_clause 0 = .ok (.aload_n 0, 1) := by decide +kernel
theorem dX13_clause_1 : decode cX13_clause 1 = .ok (.getfield 7, 3) := by decide +kernel
theorem dX13_clause_4 : decode cX13_clause 4 = .ok (.aload_n 0, 1) := by decide +kernel
theorem dX13_clause_5 : decode cX13_clause 5 = .ok (.getfield 86, 3) := by decide +kernel
theorem dX13_clause_8 : decode cX13_clause 8 = .ok (.iaload, 1) := by decide +kernel
theorem dX13_clause_9 : decode cX13_clause 9 = .ok (.istore_n 2, 1) := by decide +kernel
theorem dX13_clause_10 : decode cX13_clause 10 = .ok (.iload_n 2, 1) := by decide +kernel
theorem dX13_clause_11 : decode cX13_clause 11 = .ok (.bipush 114, 2) := by decide +kernel
theorem dX13_clause_13 : decode cX13_clause 13 = .ok (.if_icmp .eq 15, 3) := by decide +kernel
theorem dX13_clause_16 : decode cX13_clause 16 = .ok (.iload_n 2, 1) := by decide +kernel
theorem dX13_clause_17 : decode cX13_clause 17 = .ok (.bipush 115, 2) := by decide +kernel
theorem dX13_clause_19 : decode cX13_clause 19 = .ok (.if_icmp .eq 9, 3) := by decide +kernel
theorem dX13_clause_22 : decode cX13_clause 22 = .ok (.iload_n 2, 1) := by decide +kernel
theorem dX13_clause_23 : decode cX13_clause 23 = .ok (.bipush 99, 2) := by decide +kernel
theorem dX13_clause_25 : decode cX13_clause 25 = .ok (.if_icmp .ne 13, 3) := by decide +kernel
theorem dX13_clause_28 : decode cX13_clause 28 = .ok (.iload_n 1, 1) := by decide +kernel
theorem dX13_clause_29 : decode cX13_clause 29 = .ok (.ifCond .eq 19, 3) := by decide +kernel
theorem dX13_clause_32 : decode cX13_clause 32 = .ok (.iload_n 2, 1) := by decide +kernel
theorem dX13_clause_33 : decode cX13_clause 33 = .ok (.bipush 114, 2) := by decide +kernel
theorem dX13_clause_35 : decode cX13_clause 35 = .ok (.if_icmp .eq 13, 3) := by decide +kernel
theorem dX13_clause_38 : decode cX13_clause 38 = .ok (.aload_n 0, 1) := by decide +kernel
theorem dX13_clause_39 : decode cX13_clause 39 = .ok (.iconst 1, 1) := by decide +kernel
theorem dX13_clause_40 : decode cX13_clause 40 = .ok (.aload_n 0, 1) := by decide +kernel
theorem dX13_clause_41 : decode cX13_clause 41 = .ok (.getfield 86, 3) := by decide +kernel
theorem dX13_clause_44 : decode cX13_clause 44 = .ok (.invokevirtual 99, 3) := by decide +kernel
theorem dX13_clause_47 : decode cX13_clause 47 = .ok (.return_, 1) := by decide +kernel
theorem dX13_clause_48 : decode cX13_clause 48 = .ok (.iload_n 2, 1) := by decide +kernel
theorem dX13_clause_49 : decode cX13_clause 49 = .ok (.bipush 114, 2) := by decide +kernel
theorem dX13_clause_51 : decode cX13_clause 51 = .ok (.if_icmp .ne 7, 3) := by decide +kernel
theorem dX13_clause_54 : decode cX13_clause 54 = .ok (.iload_n 1, 1) := by decide +kernel
theorem dX13_clause_55 : decode cX13_clause 55 = .ok (.ifCond .eq 33, 3) := by decide +kernel
theorem dX13_clause_58 : decode cX13_clause 58 = .ok (.iload_n 2, 1) := by decide +kernel
theorem dX13_clause_59 : decode cX13_clause 59 = .ok (.bipush 115, 2) := by decide +kernel
theorem dX13_clause_61 : decode cX13_clause 61 = .ok (.if_icmp .ne 12, 3) := by decide +kernel
theorem dX13_clause_64 : decode cX13_clause 64 = .ok (.aload_n 0, 1) := by decide +kernel
theorem dX13_clause_65 : decode cX13_clause 65 = .ok (.getfield 103, 3) := by decide +kernel
theorem dX13_clause_68 : decode cX13_clause 68 = .ok (.bipush 6, 2) := by decide +kernel
theorem dX13_clause_70 : decode cX13_clause 70 = .ok (.if_icmp .eq 18, 3) := by decide +kernel
theorem dX13_clause_73 : decode cX13_clause 73 = .ok (.iload_n 2, 1) := by decide +kernel
theorem dX13_clause_74 : decode cX13_clause 74 = .ok (.bipush 99, 2) := by decide +kernel
theorem dX13_clause_76 : decode cX13_clause 76 = .ok (.if_icmp .ne 22, 3) := by decide +kernel
theorem dX13_clause_79 : decode cX13_clause 79 = .ok (.aload_n 0, 1) := by decide +kernel
theorem dX13_clause_80 : decode cX13_clause 80 = .ok (.getfield 106, 3) := by decide +kernel
theorem dX13_clause_83 : decode cX13_clause 83 = .ok (.bipush 6, 2) := by decide +kernel
theorem dX13_clause_85 : decode cX13_clause 85 = .ok (.if_icmp .ne 13, 3) := by decide +kernel
theorem dX13_clause_88 : decode cX13_clause 88 = .ok (.aload_n 0, 1) := by decide +kernel
theorem dX13_clause_89 : decode cX13_clause 89 = .ok (.iconst 3, 1) := by decide +kernel
theorem dX13_clause_90 : decode cX13_clause 90 = .ok (.aload_n 0, 1) := by decide +kernel
theorem dX13_clause_91 : decode cX13_clause 91 = .ok (.getfield 86, 3) := by decide +kernel
theorem dX13_clause_94 : decode cX13_clause 94 = .ok (.invokevirtual 99, 3) := by decide +kernel
theorem dX13_clause_97 : decode cX13_clause 97 = .ok (.return_, 1) := by decide +kernel
theorem dX13_clause_98 : decode cX13_clause 98 = .ok (.aload_n 0, 1) := by decide +kernel
theorem dX13_clause_99 : decode cX13_clause 99 = .ok (.dup, 1) := by decide +kernel
theorem dX13_clause_100 : decode cX13_clause 100 = .ok (.getfield 86, 3) := by decide +kernel
theorem dX13_clause_103 : decode cX13_clause 103 = .ok (.iconst 1, 1) := by decide +kernel
theorem dX13_clause_104 : decode cX13_clause 104 = .ok (.iadd, 1) := by decide +kernel
theorem dX13_clause_105 : decode cX13_clause 105 = .ok (.putfield 86, 3) := by decide +kernel
theorem dX13_clause_108 : decode cX13_clause 108 = .ok (.iload_n 2, 1) := by decide +kernel
theorem dX13_clause_109 : decode cX13_clause 109 = .ok (.bipush 114, 2) := by decide +kernel
theorem dX13_clause_111 : decode cX13_clause 111 = .ok (.if_icmp .ne 28, 3) := by decide +kernel
theorem dX13_clause_114 : decode cX13_clause 114 = .ok (.aload_n 0, 1) := by decide +kernel
theorem dX13_clause_115 : decode cX13_clause 115 = .ok (.aload_n 0, 1) := by decide +kernel
theorem dX13_clause_116 : decode cX13_clause 116 = .ok (.iconst 1, 1) := by decide +kernel
theorem dX13_clause_117 : decode cX13_clause 117 = .ok (.bipush 20, 2) := by decide +kernel
theorem dX13_clause_119 : decode cX13_clause 119 = .ok (.invokevirtual 109, 3) := by decide +kernel
theorem dX13_clause_122 : decode cX13_clause 122 = .ok (.putfield 113, 3) := by decide +kernel
theorem dX13_clause_125 : decode cX13_clause 125 = .ok (.aload_n 0, 1) := by decide +kernel
theorem dX13_clause_126 : decode cX13_clause 126 = .ok (.aload_n 0, 1) := by decide +kernel
theorem dX13_clause_127 : decode cX13_clause 127 = .ok (.iconst 1, 1) := by decide +kernel
theorem dX13_clause_128 : decode cX13_clause 128 = .ok (.bipush 30, 2) := by decide +kernel
theorem dX13_clause_130 : decode cX13_clause 130 = .ok (.invokevirtual 109, 3) := by decide +kernel
theorem dX13_clause_133 : decode cX13_clause 133 = .ok (.putfield 116, 3) := by decide +kernel
theorem dX13_clause_136 : decode cX13_clause 136 = .ok (.goto 168, 3) := by decide +kernel
theorem dX13_clause_139 : decode cX13_clause 139 = .ok (.iload_n 2, 1) := by decide +kernel
theorem dX13_clause_140 : decode cX13_clause 140 = .ok (.bipush 115, 2) := by decide +kernel
theorem dX13_clause_142 : decode cX13_clause 142 = .ok (.if_icmp .ne 92, 3) := by decide +kernel
theorem dX13_clause_145 : decode cX13_clause 145 = .ok (.aload_n 0, 1) := by decide +kernel
theorem dX13_clause_146 : decode cX13_clause 146 = .ok (.getfield 51, 3) := by decide +kernel
theorem dX13_clause_149 : decode cX13_clause 149 = .ok (.aload_n 0, 1) := by decide +kernel
theorem dX13_clause_150 : decode cX13_clause 150 = .ok (.getfield 103, 3) := by decide +kernel
theorem dX13_clause_153 : decode cX13_clause 153 = .ok (.aload_n 0, 1) := by decide +kernel
theorem dX13_clause_154 : decode cX13_clause 154 = .ok (.iconst 0, 1) := by decide +kernel
theorem dX13_clause_155 : decode cX13_clause 155 = .ok (.iconst 3, 1) := by decide +kernel
theorem dX13_clause_156 : decode cX13_clause 156 = .ok (.invokevirtual 109, 3) := by decide +kernel
theorem dX13_clause_159 : decode cX13_clause 159 = .ok (.iastore, 1) := by decide +kernel
theorem dX13_clause_160 : decode cX13_clause 160 = .ok (.aload_n 0, 1) := by decide +kernel
theorem dX13_clause_161 : decode cX13_clause 161 = .ok (.getfield 51, 3) := by decide +kernel
theorem dX13_clause_164 : decode cX13_clause 164 = .ok (.bipush 6, 2) := by decide +kernel
theorem dX13_clause_166 : decode cX13_clause 166 = .ok (.aload_n 0, 1) := by decide +kernel
theorem dX13_clause_167 : decode cX13_clause 167 = .ok (.getfield 103, 3) := by decide +kernel
theorem dX13_clause_170 : decode cX13_clause 170 = .ok (.iadd, 1) := by decide +kernel
theorem dX13_clause_171 : decode cX13_clause 171 = .ok (.aload_n 0, 1) := by decide +kernel
theorem dX13_clause_172 : decode cX13_clause 172 = .ok (.iconst 1, 1) := by decide +kernel
theorem dX13_clause_173 : decode cX13_clause 173 = .ok (.bipush 60, 2) := by decide +kernel
theorem dX13_clause_175 : decode cX13_clause 175 = .ok (.invokevirtual 109, 3) := by decide +kernel
theorem dX13_clause_178 : decode cX13_clause 178 = .ok (.iastore, 1) := by decide +kernel
theorem dX13_clause_179 : decode cX13_clause 179 = .ok (.aload_n 0, 1) := by decide +kernel
theorem dX13_clause_180 : decode cX13_clause 180 = .ok (.getfield 51, 3) := by decide +kernel
theorem dX13_clause_183 : decode cX13_clause 183 = .ok (.bipush 12, 2) := by decide +kernel
theorem dX13_clause_185 : decode cX13_clause 185 = .ok (.aload_n 0, 1) := by decide +kernel
theorem dX13_clause_186 : decode cX13_clause 186 = .ok (.getfield 103, 3) := by decide +kernel
theorem dX13_clause_189 : decode cX13_clause 189 = .ok (.iadd, 1) := by decide +kernel
theorem dX13_clause_190 : decode cX13_clause 190 = .ok (.aload_n 0, 1) := by decide +kernel
theorem dX13_clause_191 : decode cX13_clause 191 = .ok (.iconst 0, 1) := by decide +kernel
theorem dX13_clause_192 : decode cX13_clause 192 = .ok (.bipush 99, 2) := by decide +kernel
theorem dX13_clause_194 : decode cX13_clause 194 = .ok (.invokevirtual 109, 3) := by decide +kernel
theorem dX13_clause_197 : decode cX13_clause 197 = .ok (.iastore, 1) := by decide +kernel
theorem dX13_clause_198 : decode cX13_clause 198 = .ok (.aload_n 0, 1) := by decide +kernel
theorem dX13_clause_199 : decode cX13_clause 199 = .ok (.getfield 51, 3) := by decide +kernel
theorem dX13_clause_202 : decode cX13_clause 202 = .ok (.bipush 18, 2) := by decide +kernel
theorem dX13_clause_204 : decode cX13_clause 204 = .ok (.aload_n 0, 1) := by decide +kernel
theorem dX13_clause_205 : decode cX13_clause 205 = .ok (.getfield 103, 3) := by decide +kernel
theorem dX13_clause_208 : decode cX13_clause 208 = .ok (.iadd, 1) := by decide +kernel
theorem dX13_clause_209 : decode cX13_clause 209 = .ok (.aload_n 0, 1) := by decide +kernel
theorem dX13_clause_210 : decode cX13_clause 210 = .ok (.iconst 0, 1) := by decide +kernel
theorem dX13_clause_211 : decode cX13_clause 211 = .ok (.aload_n 0, 1) := by decide +kernel
theorem dX13_clause_212 : decode cX13_clause 212 = .ok (.getfield 113, 3) := by decide +kernel
theorem dX13_clause_215 : decode cX13_clause 215 = .ok (.iconst 1, 1) := by decide +kernel
theorem dX13_clause_216 : decode cX13_clause 216 = .ok (.isub, 1) := by decide +kernel
theorem dX13_clause_217 : decode cX13_clause 217 = .ok (.invokevirtual 109, 3) := by decide +kernel
theorem dX13_clause_220 : decode cX13_clause 220 = .ok (.iastore, 1) := by decide +kernel
theorem dX13_clause_221 : decode cX13_clause 221 = .ok (.aload_n 0, 1) := by decide +kernel
theorem dX13_clause_222 : decode cX13_clause 222 = .ok (.dup, 1) := by decide +kernel
theorem dX13_clause_223 : decode cX13_clause 223 = .ok (.getfield 103, 3) := by decide +kernel
theorem dX13_clause_226 : decode cX13_clause 226 = .ok (.iconst 1, 1) := by decide +kernel
theorem dX13_clause_227 : decode cX13_clause 227 = .ok (.iadd, 1) := by decide +kernel
theorem dX13_clause_228 : decode cX13_clause 228 = .ok (.putfield 103, 3) := by decide +kernel
theorem dX13_clause_231 : decode cX13_clause 231 = .ok (.goto 73, 3) := by decide +kernel
theorem dX13_clause_234 : decode cX13_clause 234 = .ok (.aload_n 0, 1) := by decide +kernel
theorem dX13_clause_235 : decode cX13_clause 235 = .ok (.getfield 51, 3) := by decide +kernel
theorem dX13_clause_238 : decode cX13_clause 238 = .ok (.bipush 24, 2) := by decide +kernel
theorem dX13_clause_240 : decode cX13_clause 240 = .ok (.aload_n 0, 1) := by decide +kernel
theorem dX13_clause_241 : decode cX13_clause 241 = .ok (.getfield 106, 3) := by decide +kernel
theorem dX13_clause_244 : decode cX13_clause 244 = .ok (.iadd, 1) := by decide +kernel
theorem dX13_clause_245 : decode cX13_clause 245 = .ok (.aload_n 0, 1) := by decide +kernel
theorem dX13_clause_246 : decode cX13_clause 246 = .ok (.iconst 0, 1) := by decide +kernel
theorem dX13_clause_247 : decode cX13_clause 247 = .ok (.iconst 3, 1) := by decide +kernel
theorem dX13_clause_248 : decode cX13_clause 248 = .ok (.invokevirtual 109, 3) := by decide +kernel
theorem dX13_clause_251 : decode cX13_clause 251 = .ok (.iastore, 1) := by decide +kernel
theorem dX13_clause_252 : decode cX13_clause 252 = .ok (.aload_n 0, 1) := by decide +kernel
theorem dX13_clause_253 : decode cX13_clause 253 = .ok (.getfield 51, 3) := by decide +kernel
theorem dX13_clause_256 : decode cX13_clause 256 = .ok (.bipush 30, 2) := by decide +kernel
theorem dX13_clause_258 : decode cX13_clause 258 = .ok (.aload_n 0, 1) := by decide +kernel
theorem dX13_clause_259 : decode cX13_clause 259 = .ok (.getfield 106, 3) := by decide +kernel
theorem dX13_clause_262 : decode cX13_clause 262 = .ok (.iadd, 1) := by decide +kernel
theorem dX13_clause_263 : decode cX13_clause 263 = .ok (.aload_n 0, 1) := by decide +kernel
theorem dX13_clause_264 : decode cX13_clause 264 = .ok (.iconst 1, 1) := by decide +kernel
theorem dX13_clause_265 : decode cX13_clause 265 = .ok (.bipush 20, 2) := by decide +kernel
theorem dX13_clause_267 : decode cX13_clause 267 = .ok (.invokevirtual 109, 3) := by decide +kernel
theorem dX13_clause_270 : decode cX13_clause 270 = .ok (.iastore, 1) := by decide +kernel
theorem dX13_clause_271 : decode cX13_clause 271 = .ok (.aload_n 0, 1) := by decide +kernel
theorem dX13_clause_272 : decode cX13_clause 272 = .ok (.getfield 51, 3) := by decide +kernel
theorem dX13_clause_275 : decode cX13_clause 275 = .ok (.bipush 36, 2) := by decide +kernel
theorem dX13_clause_277 : decode cX13_clause 277 = .ok (.aload_n 0, 1) := by decide +kernel
theorem dX13_clause_278 : decode cX13_clause 278 = .ok (.getfield 106, 3) := by decide +kernel
theorem dX13_clause_281 : decode cX13_clause 281 = .ok (.iadd, 1) := by decide +kernel
theorem dX13_clause_282 : decode cX13_clause 282 = .ok (.aload_n 0, 1) := by decide +kernel
theorem dX13_clause_283 : decode cX13_clause 283 = .ok (.iconst 0, 1) := by decide +kernel
theorem dX13_clause_284 : decode cX13_clause 284 = .ok (.aload_n 0, 1) := by decide +kernel
theorem dX13_clause_285 : decode cX13_clause 285 = .ok (.getfield 113, 3) := by decide +kernel
theorem dX13_clause_288 : decode cX13_clause 288 = .ok (.iconst 1, 1) := by decide +kernel
theorem dX13_clause_289 : decode cX13_clause 289 = .ok (.isub, 1) := by decide +kernel
theorem dX13_clause_290 : decode cX13_clause 290 = .ok (.invokevirtual 109, 3) := by decide +kernel
theorem dX13_clause_293 : decode cX13_clause 293 = .ok (.iastore, 1) := by decide +kernel
theorem dX13_clause_294 : decode cX13_clause 294 = .ok (.aload_n 0, 1) := by decide +kernel
theorem dX13_clause_295 : decode cX13_clause 295 = .ok (.dup, 1) := by decide +kernel
theorem dX13_clause_296 : decode cX13_clause 296 = .ok (.getfield 106, 3) := by decide +kernel
theorem dX13_clause_299 : decode cX13_clause 299 = .ok (.iconst 1, 1) := by decide +kernel
theorem dX13_clause_300 : decode cX13_clause 300 = .ok (.iadd, 1) := by decide +kernel
theorem dX13_clause_301 : decode cX13_clause 301 = .ok (.putfield 106, 3) := by decide +kernel
theorem dX13_clause_304 : decode cX13_clause 304 = .ok (.aload_n 0, 1) := by decide +kernel
theorem dX13_clause_305 : decode cX13_clause 305 = .ok (.invokevirtual 92, 3) := by decide +kernel
theorem dX13_clause_308 : decode cX13_clause 308 = .ok (.aload_n 0, 1) := by decide +kernel
theorem dX13_clause_309 : decode cX13_clause 309 = .ok (.getfield 89, 3) := by decide +kernel
theorem dX13_clause_312 : decode cX13_clause 312 = .ok (.ifCond .ne 37, 3) := by decide +kernel
theorem dX13_clause_315 : decode cX13_clause 315 = .ok (.aload_n 0, 1) := by decide +kernel
theorem dX13_clause_316 : decode cX13_clause 316 = .ok (.getfield 86, 3) := by decide +kernel
theorem dX13_clause_319 : decode cX13_clause 319 = .ok (.aload_n 0, 1) := by decide +kernel
theorem dX13_clause_320 : decode cX13_clause 320 = .ok (.getfield 82, 3) := by decide +kernel
theorem dX13_clause_323 : decode cX13_clause 323 = .ok (.if_icmp .eq 17, 3) := by decide +kernel
theorem dX13_clause_326 : decode cX13_clause 326 = .ok (.aload_n 0, 1) := by decide +kernel
theorem dX13_clause_327 : decode cX13_clause 327 = .ok (.getfield 7, 3) := by decide +kernel
theorem dX13_clause_330 : decode cX13_clause 330 = .ok (.aload_n 0, 1) := by decide +kernel
theorem dX13_clause_331 : decode cX13_clause 331 = .ok (.getfield 86, 3) := by decide +kernel
theorem dX13_clause_334 : decode cX13_clause 334 = .ok (.iaload, 1) := by decide +kernel
theorem dX13_clause_335 : decode cX13_clause 335 = .ok (.bipush 59, 2) := by decide +kernel
theorem dX13_clause_337 : decode cX13_clause 337 = .ok (.if_icmp .eq 12, 3) := by decide +kernel
theorem dX13_clause_340 : decode cX13_clause 340 = .ok (.aload_n 0, 1) := by decide +kernel
theorem dX13_clause_341 : decode cX13_clause 341 = .ok (.iconst 1, 1) := by decide +kernel
theorem dX13_clause_342 : decode cX13_clause 342 = .ok (.aload_n 0, 1) := by decide +kernel
theorem dX13_clause_343 : decode cX13_clause 343 = .ok (.getfield 86, 3) := by decide +kernel
theorem dX13_clause_346 : decode cX13_clause 346 = .ok (.invokevirtual 99, 3) := by decide +kernel
theorem dX13_clause_349 : decode cX13_clause 349 = .ok (.aload_n 0, 1) := by decide +kernel
theorem dX13_clause_350 : decode cX13_clause 350 = .ok (.dup, 1) := by decide +kernel
theorem dX13_clause_351 : decode cX13_clause 351 = .ok (.getfield 86, 3) := by decide +kernel
theorem dX13_clause_354 : decode cX13_clause 354 = .ok (.iconst 1, 1) := by decide +kernel
theorem dX13_clause_355 : decode cX13_clause 355 = .ok (.iadd, 1) := by decide +kernel
theorem dX13_clause_356 : decode cX13_clause 356 = .ok (.putfield 86, 3) := by decide +kernel
theorem dX13_clause_359 : decode cX13_clause 359 = .ok (.return_, 1) := by decide +kernel
def f_X13_clause_349 (v0 : Nat) (h : AH) : Option (AH) := (gi h 12 v0 22).bind fun x1 => (pf h 12 v0 22 (.int (x1 + (1 : Int32)))).bind fun h2 => some h2
set_option maxRecDepth 100000 in
set_option maxHeartbeats 4000000 in
theorem j_X13_clause_349 (X : SX) (d : Nat) (v0 : Nat) (h : AH) (h' : AH) (hf : f_X13_clause_349 v0 h = some h') : G X mX13_clause (d + 2) 349 [(0, .ref v0)] [] h none h' := by
  unfold f_X13_clause_349 at hf
  refine G.aload_n dX13_clause_349 rfl ?_
  refine G.dup dX13_clause_350 rfl ?_
  refine G.geti flX13_86 dX13_clause_351 hf (fun x1 hf => ?_)
  refine G.iconst (v := (1 : Int32)) dX13_clause_354 (by decide) ?_
  refine G.iadd dX13_clause_355 ?_
  refine G.put flX13_86 (Or.inl rfl) (fun _ _ => ⟨rfl, rfl⟩) dX13_clause_356 hf (fun h2 hf => ?_)
  have hq := Option.some.inj hf
  subst hq
  exact G.vret rfl dX13_clause_359
def f_X13_clause_340 (v0 : Nat) (h : AH) : Option (AH) := (gi h 12 v0 22).bind fun x1 => (f_X13_faults v0 (1 : Int32) x1 h).bind fun h2 => f_X13_clause_349 v0 h2
set_option maxRecDepth 100000 in
set_option maxHeartbeats 4000000 in
theorem j_X13_clause_340 (X : SX) (d : Nat) (v0 : Nat) (h : AH) (h' : AH) (hf : f_X13_clause_340 v0 h = some h') : G X mX13_clause (d + 2) 340 [(0, .ref v0)] [] h none h' := by
  unfold f_X13_clause_340 at hf
  refine G.aload_n dX13_clause_340 rfl ?_
  refine G.iconst (v := (1 : Int32)) dX13_clause_341 (by decide) ?_
  refine G.aload_n dX13_clause_342 rfl ?_
  refine G.geti flX13_86 dX13_clause_343 hf (fun x1 hf => ?_)
  obtain ⟨h2, e3, hf⟩ := Option.bind_eq_some_iff.mp hf
  refine G.callVv (M' := mX13_faults) (ci := 12) (As := [.int (1 : Int32), .int x1]) (st := []) okX13_faults viX13_faults lkX13_99 rfl rfl rfl (Nat.le_of_ble_eq_true rfl) (Nat.le_of_ble_eq_true rfl) dX13_clause_346 (c_X13_faults X (d + 1) _ _ _ _ _ e3).1 (c_X13_faults X (d + 1) _ _ _ _ _ e3).2 ?_
  exact G.pick [0] rfl (j_X13_clause_349 X d v0 h2 _ hf)
def f_X13_clause_304 (v0 : Nat) (h : AH) : Option (AH) := (f_X13_skips v0 h).bind fun h1 => (gi h1 12 v0 23).bind fun x3 => if x3 = 0 then ((gi h1 12 v0 22).bind fun x5 => (gi h1 12 v0 1).bind fun x6 => if x5 = x6 then (f_X13_clause_340 v0 h1) else ((gr h1 12 v0 0).bind fun r8 => (gi h1 12 v0 22).bind fun x9 => (ai h1 0 r8 x9).bind fun x10 => if x10 = (59 : Int32) then (f_X13_clause_349 v0 h1) else (f_X13_clause_340 v0 h1))) else (f_X13_clause_349 v0 h1)
set_option maxRecDepth 100000 in
set_option maxHeartbeats 4000000 in
theorem j_X13_clause_304 (X : SX) (d : Nat) (v0 : Nat) (h : AH) (h' : AH) (hf : f_X13_clause_304 v0 h = some h') : G X mX13_clause (d + 2) 304 [(0, .ref v0)] [] h none h' := by
  unfold f_X13_clause_304 at hf
  refine G.aload_n dX13_clause_304 rfl ?_
  obtain ⟨h1, e2, hf⟩ := Option.bind_eq_some_iff.mp hf
  refine G.callVv (M' := mX13_skips) (ci := 12) (As := []) (st := []) okX13_skips viX13_skips lkX13_92 rfl rfl rfl (Nat.le_of_ble_eq_true rfl) (Nat.le_of_ble_eq_true rfl) dX13_clause_305 (c_X13_skips X (d + 1) _ _ _ e2).1 (c_X13_skips X (d + 1) _ _ _ e2).2 ?_
  refine G.aload_n dX13_clause_308 rfl ?_
  refine G.geti flX13_89 dX13_clause_309 hf (fun x3 hf => ?_)
  refine G.if_ne 349 dX13_clause_312 (by decide) (fun c4 => ?_) (fun c4 => ?_)
  · rw [if_neg c4] at hf
    exact G.pick [0] rfl (j_X13_clause_349 X d v0 h1 _ hf)
  · rw [if_pos c4] at hf
    refine G.aload_n dX13_clause_315 rfl ?_
    refine G.geti flX13_86 dX13_clause_316 hf (fun x5 hf => ?_)
    refine G.aload_n dX13_clause_319 rfl ?_
    refine G.geti flX13_82 dX13_clause_320 hf (fun x6 hf => ?_)
    refine G.icmp_eq 340 dX13_clause_323 (by decide) (fun c7 => ?_) (fun c7 => ?_)
    · rw [if_pos c7] at hf
      exact G.pick [0] rfl (j_X13_clause_340 X d v0 h1 _ hf)
    · rw [if_neg c7] at hf
      refine G.aload_n dX13_clause_326 rfl ?_
      refine G.getr flX13_7 dX13_clause_327 hf (fun r8 hf => ?_)
      refine G.aload_n dX13_clause_330 rfl ?_
      refine G.geti flX13_86 dX13_clause_331 hf (fun x9 hf => ?_)
      refine G.iald dX13_clause_334 hf (fun x10 hf => ?_)
      refine G.bipush (v := (59 : Int32)) dX13_clause_335 (by decide) ?_
      refine G.icmp_eq 349 dX13_clause_337 (by decide) (fun c11 => ?_) (fun c11 => ?_)
      · rw [if_pos c11] at hf
        exact G.pick [0] rfl (j_X13_clause_349 X d v0 h1 _ hf)
      · rw [if_neg c11] at hf
        exact G.pick [0] rfl (j_X13_clause_340 X d v0 h1 _ hf)
def f_X13_clause_98 (v0 : Nat) (v2 : Int32) (h : AH) : Option (AH) := (gi h 12 v0 22).bind fun x1 => (pf h 12 v0 22 (.int (x1 + (1 : Int32)))).bind fun h2 => if v2 = (114 : Int32) then (bT1 (f_X13_number v0 (1 : Int32) (20 : Int32) h2) fun x55 h53 => (pf h53 12 v0 24 (.int x55)).bind fun h56 => bT1 (f_X13_number v0 (1 : Int32) (30 : Int32) h56) fun x59 h57 => (pf h57 12 v0 25 (.int x59)).bind fun h60 => f_X13_clause_304 v0 h60) else (if v2 = (115 : Int32) then ((gr h2 12 v0 28).bind fun r26 => (gi h2 12 v0 26).bind fun x27 => bT1 (f_X13_number v0 (0 : Int32) (3 : Int32) h2) fun x30 h28 => (aw h28 0 r26 x27 x30).bind fun h31 => (gr h31 12 v0 28).bind fun r32 => (gi h31 12 v0 26).bind fun x33 => bT1 (f_X13_number v0 (1 : Int32) (60 : Int32) h31) fun x36 h34 => (aw h34 0 r32 ((6 : Int32) + x33) x36).bind fun h37 => (gr h37 12 v0 28).bind fun r38 => (gi h37 12 v0 26).bind fun x39 => bT1 (f_X13_number v0 (0 : Int32) (99 : Int32) h37) fun x42 h40 => (aw h40 0 r38 ((12 : Int32) + x39) x42).bind fun h43 => (gr h43 12 v0 28).bind fun r44 => (gi h43 12 v0 26).bind fun x45 => (gi h43 12 v0 24).bind fun x46 => bT1 (f_X13_number v0 (0 : Int32) (x46 - (1 : Int32)) h43) fun x49 h47 => (aw h47 0 r44 ((18 : Int32) + x45) x49).bind fun h50 => (gi h50 12 v0 26).bind fun x51 => (pf h50 12 v0 26 (.int (x51 + (1 : Int32)))).bind fun h52 => f_X13_clause_304 v0 h52) else ((gr h2 12 v0 28).bind fun r5 => (gi h2 12 v0 27).bind fun x6 => bT1 (f_X13_number v0 (0 : Int32) (3 : Int32) h2) fun x9 h7 => (aw h7 0 r5 ((24 : Int32) + x6) x9).bind fun h10 => (gr h10 12 v0 28).bind fun r11 => (gi h10 12 v0 27).bind fun x12 => bT1 (f_X13_number v0 (1 : Int32) (20 : Int32) h10) fun x15 h13 => (aw h13 0 r11 ((30 : Int32) + x12) x15).bind fun h16 => (gr h16 12 v0 28).bind fun r17 => (gi h16 12 v0 27).bind fun x18 => (gi h16 12 v0 24).bind fun x19 => bT1 (f_X13_number v0 (0 : Int32) (x19 - (1 : Int32)) h16) fun x22 h20 => (aw h20 0 r17 ((36 : Int32) + x18) x22).bind fun h23 => (gi h23 12 v0 27).bind fun x24 => (pf h23 12 v0 27 (.int (x24 + (1 : Int32)))).bind fun h25 => f_X13_clause_304 v0 h25))
set_option maxRecDepth 100000 in
set_option maxHeartbeats 4000000 in
theorem j_X13_clause_98 (X : SX) (d : Nat) (v0 : Nat) (v2 : Int32) (h : AH) (h' : AH) (hf : f_X13_clause_98 v0 v2 h = some h') : G X mX13_clause (d + 2) 98 [(0, .ref v0), (2, .int v2)] [] h none h' := by
  unfold f_X13_clause_98 at hf
  refine G.aload_n dX13_clause_98 rfl ?_
  refine G.dup dX13_clause_99 rfl ?_
  refine G.geti flX13_86 dX13_clause_100 hf (fun x1 hf => ?_)
  refine G.iconst (v := (1 : Int32)) dX13_clause_103 (by decide) ?_
  refine G.iadd dX13_clause_104 ?_
  refine G.put flX13_86 (Or.inl rfl) (fun _ _ => ⟨rfl, rfl⟩) dX13_clause_105 hf (fun h2 hf => ?_)
  refine G.iload_n dX13_clause_108 rfl ?_
  refine G.bipush (v := (114 : Int32)) dX13_clause_109 (by decide) ?_
  refine G.icmp_ne 139 dX13_clause_111 (by decide) (fun c3 => ?_) (fun c3 => ?_)
  · rw [if_neg c3] at hf
    refine G.iload_n dX13_clause_139 rfl ?_
    refine G.bipush (v := (115 : Int32)) dX13_clause_140 (by decide) ?_
    refine G.icmp_ne 234 dX13_clause_142 (by decide) (fun c4 => ?_) (fun c4 => ?_)
    · rw [if_neg c4] at hf
      refine G.aload_n dX13_clause_234 rfl ?_
      refine G.getr flX13_51 dX13_clause_235 hf (fun r5 hf => ?_)
      refine G.bipush (v := (24 : Int32)) dX13_clause_238 (by decide) ?_
      refine G.aload_n dX13_clause_240 rfl ?_
      refine G.geti flX13_106 dX13_clause_241 hf (fun x6 hf => ?_)
      refine G.iadd dX13_clause_244 ?_
      refine G.aload_n dX13_clause_245 rfl ?_
      refine G.iconst (v := (0 : Int32)) dX13_clause_246 (by decide) ?_
      refine G.iconst (v := (3 : Int32)) dX13_clause_247 (by decide) ?_
      obtain ⟨x9, h7, e8, hf⟩ := bT1_spec hf
      refine G.callVi (M' := mX13_number) (ci := 12) (As := [.int (0 : Int32), .int (3 : Int32)]) (st := [.int ((24 : Int32) + x6), .ref r5]) okX13_number viX13_number lkX13_109 rfl rfl rfl (Nat.le_of_ble_eq_true rfl) (Nat.le_of_ble_eq_true rfl) dX13_clause_248 (c_X13_number X d _ _ _ _ _ _ e8).1 (c_X13_number X d _ _ _ _ _ _ e8).2 ?_
      refine G.iast dX13_clause_251 hf (fun h10 hf => ?_)
      refine G.aload_n dX13_clause_252 rfl ?_
      refine G.getr flX13_51 dX13_clause_253 hf (fun r11 hf => ?_)
      refine G.bipush (v := (30 : Int32)) dX13_clause_256 (by decide) ?_
      refine G.aload_n dX13_clause_258 rfl ?_
      refine G.geti flX13_106 dX13_clause_259 hf (fun x12 hf => ?_)
      refine G.iadd dX13_clause_262 ?_
      refine G.aload_n dX13_clause_263 rfl ?_
      refine G.iconst (v := (1 : Int32)) dX13_clause_264 (by decide) ?_
      refine G.bipush (v := (20 : Int32)) dX13_clause_265 (by decide) ?_
      obtain ⟨x15, h13, e14, hf⟩ := bT1_spec hf
      refine G.callVi (M' := mX13_number) (ci := 12) (As := [.int (1 : Int32), .int (20 : Int32)]) (st := [.int ((30 : Int32) + x12), .ref r11]) okX13_number viX13_number lkX13_109 rfl rfl rfl (Nat.le_of_ble_eq_true rfl) (Nat.le_of_ble_eq_true rfl) dX13_clause_267 (c_X13_number X d _ _ _ _ _ _ e14).1 (c_X13_number X d _ _ _ _ _ _ e14).2 ?_
      refine G.iast dX13_clause_270 hf (fun h16 hf => ?_)
      refine G.aload_n dX13_clause_271 rfl ?_
      refine G.getr flX13_51 dX13_clause_272 hf (fun r17 hf => ?_)
      refine G.bipush (v := (36 : Int32)) dX13_clause_275 (by decide) ?_
      refine G.aload_n dX13_clause_277 rfl ?_
      refine G.geti flX13_106 dX13_clause_278 hf (fun x18 hf => ?_)
      refine G.iadd dX13_clause_281 ?_
      refine G.aload_n dX13_clause_282 rfl ?_
      refine G.iconst (v := (0 : Int32)) dX13_clause_283 (by decide) ?_
      refine G.aload_n dX13_clause_284 rfl ?_
      refine G.geti flX13_113 dX13_clause_285 hf (fun x19 hf => ?_)
      refine G.iconst (v := (1 : Int32)) dX13_clause_288 (by decide) ?_
      refine G.isub dX13_clause_289 ?_
      obtain ⟨x22, h20, e21, hf⟩ := bT1_spec hf
      refine G.callVi (M' := mX13_number) (ci := 12) (As := [.int (0 : Int32), .int (x19 - (1 : Int32))]) (st := [.int ((36 : Int32) + x18), .ref r17]) okX13_number viX13_number lkX13_109 rfl rfl rfl (Nat.le_of_ble_eq_true rfl) (Nat.le_of_ble_eq_true rfl) dX13_clause_290 (c_X13_number X d _ _ _ _ _ _ e21).1 (c_X13_number X d _ _ _ _ _ _ e21).2 ?_
      refine G.iast dX13_clause_293 hf (fun h23 hf => ?_)
      refine G.aload_n dX13_clause_294 rfl ?_
      refine G.dup dX13_clause_295 rfl ?_
      refine G.geti flX13_106 dX13_clause_296 hf (fun x24 hf => ?_)
      refine G.iconst (v := (1 : Int32)) dX13_clause_299 (by decide) ?_
      refine G.iadd dX13_clause_300 ?_
      refine G.put flX13_106 (Or.inl rfl) (fun _ _ => ⟨rfl, rfl⟩) dX13_clause_301 hf (fun h25 hf => ?_)
      exact G.pick [0] rfl (j_X13_clause_304 X d v0 h25 _ hf)
    · rw [if_pos c4] at hf
      refine G.aload_n dX13_clause_145 rfl ?_
      refine G.getr flX13_51 dX13_clause_146 hf (fun r26 hf => ?_)
      refine G.aload_n dX13_clause_149 rfl ?_
      refine G.geti flX13_103 dX13_clause_150 hf (fun x27 hf => ?_)
      refine G.aload_n dX13_clause_153 rfl ?_
      refine G.iconst (v := (0 : Int32)) dX13_clause_154 (by decide) ?_
      refine G.iconst (v := (3 : Int32)) dX13_clause_155 (by decide) ?_
      obtain ⟨x30, h28, e29, hf⟩ := bT1_spec hf
      refine G.callVi (M' := mX13_number) (ci := 12) (As := [.int (0 : Int32), .int (3 : Int32)]) (st := [.int x27, .ref r26]) okX13_number viX13_number lkX13_109 rfl rfl rfl (Nat.le_of_ble_eq_true rfl) (Nat.le_of_ble_eq_true rfl) dX13_clause_156 (c_X13_number X d _ _ _ _ _ _ e29).1 (c_X13_number X d _ _ _ _ _ _ e29).2 ?_
      refine G.iast dX13_clause_159 hf (fun h31 hf => ?_)
      refine G.aload_n dX13_clause_160 rfl ?_
      refine G.getr flX13_51 dX13_clause_161 hf (fun r32 hf => ?_)
      refine G.bipush (v := (6 : Int32)) dX13_clause_164 (by decide) ?_
      refine G.aload_n dX13_clause_166 rfl ?_
      refine G.geti flX13_103 dX13_clause_167 hf (fun x33 hf => ?_)
      refine G.iadd dX13_clause_170 ?_
      refine G.aload_n dX13_clause_171 rfl ?_
      refine G.iconst (v := (1 : Int32)) dX13_clause_172 (by decide) ?_
      refine G.bipush (v := (60 : Int32)) dX13_clause_173 (by decide) ?_
      obtain ⟨x36, h34, e35, hf⟩ := bT1_spec hf
      refine G.callVi (M' := mX13_number) (ci := 12) (As := [.int (1 : Int32), .int (60 : Int32)]) (st := [.int ((6 : Int32) + x33), .ref r32]) okX13_number viX13_number lkX13_109 rfl rfl rfl (Nat.le_of_ble_eq_true rfl) (Nat.le_of_ble_eq_true rfl) dX13_clause_175 (c_X13_number X d _ _ _ _ _ _ e35).1 (c_X13_number X d _ _ _ _ _ _ e35).2 ?_
      refine G.iast dX13_clause_178 hf (fun h37 hf => ?_)
      refine G.aload_n dX13_clause_179 rfl ?_
      refine G.getr flX13_51 dX13_clause_180 hf (fun r38 hf => ?_)
      refine G.bipush (v := (12 : Int32)) dX13_clause_183 (by decide) ?_
      refine G.aload_n dX13_clause_185 rfl ?_
      refine G.geti flX13_103 dX13_clause_186 hf (fun x39 hf => ?_)
      refine G.iadd dX13_clause_189 ?_
      refine G.aload_n dX13_clause_190 rfl ?_
      refine G.iconst (v := (0 : Int32)) dX13_clause_191 (by decide) ?_
      refine G.bipush (v := (99 : Int32)) dX13_clause_192 (by decide) ?_
      obtain ⟨x42, h40, e41, hf⟩ := bT1_spec hf
      refine G.callVi (M' := mX13_number) (ci := 12) (As := [.int (0 : Int32), .int (99 : Int32)]) (st := [.int ((12 : Int32) + x39), .ref r38]) okX13_number viX13_number lkX13_109 rfl rfl rfl (Nat.le_of_ble_eq_true rfl) (Nat.le_of_ble_eq_true rfl) dX13_clause_194 (c_X13_number X d _ _ _ _ _ _ e41).1 (c_X13_number X d _ _ _ _ _ _ e41).2 ?_
      refine G.iast dX13_clause_197 hf (fun h43 hf => ?_)
      refine G.aload_n dX13_clause_198 rfl ?_
      refine G.getr flX13_51 dX13_clause_199 hf (fun r44 hf => ?_)
      refine G.bipush (v := (18 : Int32)) dX13_clause_202 (by decide) ?_
      refine G.aload_n dX13_clause_204 rfl ?_
      refine G.geti flX13_103 dX13_clause_205 hf (fun x45 hf => ?_)
      refine G.iadd dX13_clause_208 ?_
      refine G.aload_n dX13_clause_209 rfl ?_
      refine G.iconst (v := (0 : Int32)) dX13_clause_210 (by decide) ?_
      refine G.aload_n dX13_clause_211 rfl ?_
      refine G.geti flX13_113 dX13_clause_212 hf (fun x46 hf => ?_)
      refine G.iconst (v := (1 : Int32)) dX13_clause_215 (by decide) ?_
      refine G.isub dX13_clause_216 ?_
      obtain ⟨x49, h47, e48, hf⟩ := bT1_spec hf
      refine G.callVi (M' := mX13_number) (ci := 12) (As := [.int (0 : Int32), .int (x46 - (1 : Int32))]) (st := [.int ((18 : Int32) + x45), .ref r44]) okX13_number viX13_number lkX13_109 rfl rfl rfl (Nat.le_of_ble_eq_true rfl) (Nat.le_of_ble_eq_true rfl) dX13_clause_217 (c_X13_number X d _ _ _ _ _ _ e48).1 (c_X13_number X d _ _ _ _ _ _ e48).2 ?_
      refine G.iast dX13_clause_220 hf (fun h50 hf => ?_)
      refine G.aload_n dX13_clause_221 rfl ?_
      refine G.dup dX13_clause_222 rfl ?_
      refine G.geti flX13_103 dX13_clause_223 hf (fun x51 hf => ?_)
      refine G.iconst (v := (1 : Int32)) dX13_clause_226 (by decide) ?_
      refine G.iadd dX13_clause_227 ?_
      refine G.put flX13_103 (Or.inl rfl) (fun _ _ => ⟨rfl, rfl⟩) dX13_clause_228 hf (fun h52 hf => ?_)
      refine G.goto 304 dX13_clause_231 (by decide) ?_
      exact G.pick [0] rfl (j_X13_clause_304 X d v0 h52 _ hf)
  · rw [if_pos c3] at hf
    refine G.aload_n dX13_clause_114 rfl ?_
    refine G.aload_n dX13_clause_115 rfl ?_
    refine G.iconst (v := (1 : Int32)) dX13_clause_116 (by decide) ?_
    refine G.bipush (v := (20 : Int32)) dX13_clause_117 (by decide) ?_
    obtain ⟨x55, h53, e54, hf⟩ := bT1_spec hf
    refine G.callVi (M' := mX13_number) (ci := 12) (As := [.int (1 : Int32), .int (20 : Int32)]) (st := [.ref v0]) okX13_number viX13_number lkX13_109 rfl rfl rfl (Nat.le_of_ble_eq_true rfl) (Nat.le_of_ble_eq_true rfl) dX13_clause_119 (c_X13_number X d _ _ _ _ _ _ e54).1 (c_X13_number X d _ _ _ _ _ _ e54).2 ?_
    refine G.put flX13_113 (Or.inl rfl) (fun _ _ => ⟨rfl, rfl⟩) dX13_clause_122 hf (fun h56 hf => ?_)
    refine G.aload_n dX13_clause_125 rfl ?_
    refine G.aload_n dX13_clause_126 rfl ?_
    refine G.iconst (v := (1 : Int32)) dX13_clause_127 (by decide) ?_
    refine G.bipush (v := (30 : Int32)) dX13_clause_128 (by decide) ?_
    obtain ⟨x59, h57, e58, hf⟩ := bT1_spec hf
    refine G.callVi (M' := mX13_number) (ci := 12) (As := [.int (1 : Int32), .int (30 : Int32)]) (st := [.ref v0]) okX13_number viX13_number lkX13_109 rfl rfl rfl (Nat.le_of_ble_eq_true rfl) (Nat.le_of_ble_eq_true rfl) dX13_clause_130 (c_X13_number X d _ _ _ _ _ _ e58).1 (c_X13_number X d _ _ _ _ _ _ e58).2 ?_
    refine G.put flX13_116 (Or.inl rfl) (fun _ _ => ⟨rfl, rfl⟩) dX13_clause_133 hf (fun h60 hf => ?_)
    refine G.goto 304 dX13_clause_136 (by decide) ?_
    exact G.pick [0] rfl (j_X13_clause_304 X d v0 h60 _ hf)
def f_X13_clause_88 (v0 : Nat) (h : AH) : Option (AH) := (gi h 12 v0 22).bind fun x1 => (f_X13_faults v0 (3 : Int32) x1 h).bind fun h2 => some h2
set_option maxRecDepth 100000 in
set_option maxHeartbeats 4000000 in
theorem j_X13_clause_88 (X : SX) (d : Nat) (v0 : Nat) (h : AH) (h' : AH) (hf : f_X13_clause_88 v0 h = some h') : G X mX13_clause (d + 2) 88 [(0, .ref v0)] [] h none h' := by
  unfold f_X13_clause_88 at hf
  refine G.aload_n dX13_clause_88 rfl ?_
  refine G.iconst (v := (3 : Int32)) dX13_clause_89 (by decide) ?_
  refine G.aload_n dX13_clause_90 rfl ?_
  refine G.geti flX13_86 dX13_clause_91 hf (fun x1 hf => ?_)
  obtain ⟨h2, e3, hf⟩ := Option.bind_eq_some_iff.mp hf
  refine G.callVv (M' := mX13_faults) (ci := 12) (As := [.int (3 : Int32), .int x1]) (st := []) okX13_faults viX13_faults lkX13_99 rfl rfl rfl (Nat.le_of_ble_eq_true rfl) (Nat.le_of_ble_eq_true rfl) dX13_clause_94 (c_X13_faults X (d + 1) _ _ _ _ _ e3).1 (c_X13_faults X (d + 1) _ _ _ _ _ e3).2 ?_
  have hq := Option.some.inj hf
  subst hq
  exact G.vret rfl dX13_clause_97
def f_X13_clause_73 (v0 : Nat) (v2 : Int32) (h : AH) : Option (AH) := if v2 = (99 : Int32) then ((gi h 12 v0 27).bind fun x2 => if x2 = (6 : Int32) then (f_X13_clause_88 v0 h) else (f_X13_clause_98 v0 v2 h)) else (f_X13_clause_98 v0 v2 h)
set_option maxRecDepth 100000 in
set_option maxHeartbeats 4000000 in
theorem j_X13_clause_73 (X : SX) (d : Nat) (v0 : Nat) (v2 : Int32) (h : AH) (h' : AH) (hf : f_X13_clause_73 v0 v2 h = some h') : G X mX13_clause (d + 2) 73 [(0, .ref v0), (2, .int v2)] [] h none h' := by
  unfold f_X13_clause_73 at hf
  refine G.iload_n dX13_clause_73 rfl ?_
  refine G.bipush (v := (99 : Int32)) dX13_clause_74 (by decide) ?_
  refine G.icmp_ne 98 dX13_clause_76 (by decide) (fun c1 => ?_) (fun c1 => ?_)
  · rw [if_neg c1] at hf
    exact G.pick [0, 1] rfl (j_X13_clause_98 X d v0 v2 h _ hf)
  · rw [if_pos c1] at hf
    refine G.aload_n dX13_clause_79 rfl ?_
    refine G.geti flX13_106 dX13_clause_80 hf (fun x2 hf => ?_)
    refine G.bipush (v := (6 : Int32)) dX13_clause_83 (by decide) ?_
    refine G.icmp_ne 98 dX13_clause_85 (by decide) (fun c3 => ?_) (fun c3 => ?_)
    · rw [if_neg c3] at hf
      exact G.pick [0, 1] rfl (j_X13_clause_98 X d v0 v2 h _ hf)
    · rw [if_pos c3] at hf
      exact G.pick [0] rfl (j_X13_clause_88 X d v0 h _ hf)
def f_X13_clause_58 (v0 : Nat) (v2 : Int32) (h : AH) : Option (AH) := if v2 = (115 : Int32) then ((gi h 12 v0 26).bind fun x2 => if x2 = (6 : Int32) then (f_X13_clause_88 v0 h) else (f_X13_clause_73 v0 v2 h)) else (f_X13_clause_73 v0 v2 h)
set_option maxRecDepth 100000 in
set_option maxHeartbeats 4000000 in
theorem j_X13_clause_58 (X : SX) (d : Nat) (v0 : Nat) (v2 : Int32) (h : AH) (h' : AH) (hf : f_X13_clause_58 v0 v2 h = some h') : G X mX13_clause (d + 2) 58 [(0, .ref v0), (2, .int v2)] [] h none h' := by
  unfold f_X13_clause_58 at hf
  refine G.iload_n dX13_clause_58 rfl ?_
  refine G.bipush (v := (115 : Int32)) dX13_clause_59 (by decide) ?_
  refine G.icmp_ne 73 dX13_clause_61 (by decide) (fun c1 => ?_) (fun c1 => ?_)
  · rw [if_neg c1] at hf
    exact G.pick [0, 1] rfl (j_X13_clause_73 X d v0 v2 h _ hf)
  · rw [if_pos c1] at hf
    refine G.aload_n dX13_clause_64 rfl ?_
    refine G.geti flX13_103 dX13_clause_65 hf (fun x2 hf => ?_)
    refine G.bipush (v := (6 : Int32)) dX13_clause_68 (by decide) ?_
    refine G.icmp_eq 88 dX13_clause_70 (by decide) (fun c3 => ?_) (fun c3 => ?_)
    · rw [if_pos c3] at hf
      exact G.pick [0] rfl (j_X13_clause_88 X d v0 h _ hf)
    · rw [if_neg c3] at hf
      exact G.pick [0, 1] rfl (j_X13_clause_73 X d v0 v2 h _ hf)
def f_X13_clause_48 (v0 : Nat) (v1 : Int32) (v2 : Int32) (h : AH) : Option (AH) := if v2 = (114 : Int32) then (if v1 = 0 then (f_X13_clause_88 v0 h) else (f_X13_clause_58 v0 v2 h)) else (f_X13_clause_58 v0 v2 h)
set_option maxRecDepth 100000 in
set_option maxHeartbeats 4000000 in
theorem j_X13_clause_48 (X : SX) (d : Nat) (v0 : Nat) (v1 : Int32) (v2 : Int32) (h : AH) (h' : AH) (hf : f_X13_clause_48 v0 v1 v2 h = some h') : G X mX13_clause (d + 2) 48 [(0, .ref v0), (1, .int v1), (2, .int v2)] [] h none h' := by
  unfold f_X13_clause_48 at hf
  refine G.iload_n dX13_clause_48 rfl ?_
  refine G.bipush (v := (114 : Int32)) dX13_clause_49 (by decide) ?_
  refine G.icmp_ne 58 dX13_clause_51 (by decide) (fun c1 => ?_) (fun c1 => ?_)
  · rw [if_neg c1] at hf
    exact G.pick [0, 2] rfl (j_X13_clause_58 X d v0 v2 h _ hf)
  · rw [if_pos c1] at hf
    refine G.iload_n dX13_clause_54 rfl ?_
    refine G.if_eq 88 dX13_clause_55 (by decide) (fun c2 => ?_) (fun c2 => ?_)
    · rw [if_pos c2] at hf
      exact G.pick [0] rfl (j_X13_clause_88 X d v0 h _ hf)
    · rw [if_neg c2] at hf
      exact G.pick [0, 2] rfl (j_X13_clause_58 X d v0 v2 h _ hf)
def f_X13_clause_38 (v0 : Nat) (h : AH) : Option (AH) := (gi h 12 v0 22).bind fun x1 => (f_X13_faults v0 (1 : Int32) x1 h).bind fun h2 => some h2
set_option maxRecDepth 100000 in
set_option maxHeartbeats 4000000 in
theorem j_X13_clause_38 (X : SX) (d : Nat) (v0 : Nat) (h : AH) (h' : AH) (hf : f_X13_clause_38 v0 h = some h') : G X mX13_clause (d + 2) 38 [(0, .ref v0)] [] h none h' := by
  unfold f_X13_clause_38 at hf
  refine G.aload_n dX13_clause_38 rfl ?_
  refine G.iconst (v := (1 : Int32)) dX13_clause_39 (by decide) ?_
  refine G.aload_n dX13_clause_40 rfl ?_
  refine G.geti flX13_86 dX13_clause_41 hf (fun x1 hf => ?_)
  obtain ⟨h2, e3, hf⟩ := Option.bind_eq_some_iff.mp hf
  refine G.callVv (M' := mX13_faults) (ci := 12) (As := [.int (1 : Int32), .int x1]) (st := []) okX13_faults viX13_faults lkX13_99 rfl rfl rfl (Nat.le_of_ble_eq_true rfl) (Nat.le_of_ble_eq_true rfl) dX13_clause_44 (c_X13_faults X (d + 1) _ _ _ _ _ e3).1 (c_X13_faults X (d + 1) _ _ _ _ _ e3).2 ?_
  have hq := Option.some.inj hf
  subst hq
  exact G.vret rfl dX13_clause_47
def f_X13_clause_28 (v0 : Nat) (v1 : Int32) (v2 : Int32) (h : AH) : Option (AH) := if v1 = 0 then (f_X13_clause_48 v0 v1 v2 h) else (if v2 = (114 : Int32) then (f_X13_clause_48 v0 v1 v2 h) else (f_X13_clause_38 v0 h))
set_option maxRecDepth 100000 in
set_option maxHeartbeats 4000000 in
theorem j_X13_clause_28 (X : SX) (d : Nat) (v0 : Nat) (v1 : Int32) (v2 : Int32) (h : AH) (h' : AH) (hf : f_X13_clause_28 v0 v1 v2 h = some h') : G X mX13_clause (d + 2) 28 [(0, .ref v0), (1, .int v1), (2, .int v2)] [] h none h' := by
  unfold f_X13_clause_28 at hf
  refine G.iload_n dX13_clause_28 rfl ?_
  refine G.if_eq 48 dX13_clause_29 (by decide) (fun c1 => ?_) (fun c1 => ?_)
  · rw [if_pos c1] at hf
    exact G.pick [0, 1, 2] rfl (j_X13_clause_48 X d v0 v1 v2 h _ hf)
  · rw [if_neg c1] at hf
    refine G.iload_n dX13_clause_32 rfl ?_
    refine G.bipush (v := (114 : Int32)) dX13_clause_33 (by decide) ?_
    refine G.icmp_eq 48 dX13_clause_35 (by decide) (fun c2 => ?_) (fun c2 => ?_)
    · rw [if_pos c2] at hf
      exact G.pick [0, 1, 2] rfl (j_X13_clause_48 X d v0 v1 v2 h _ hf)
    · rw [if_neg c2] at hf
      exact G.pick [0] rfl (j_X13_clause_38 X d v0 h _ hf)
def f_X13_clause (a0 : Nat) (a1 : Int32) (h : AH) : Option (AH) := if isO h 12 a0 = true then ((gr h 12 a0 0).bind fun r1 => (gi h 12 a0 22).bind fun x2 => (ai h 0 r1 x2).bind fun x3 => if x3 = (114 : Int32) then (f_X13_clause_28 a0 a1 x3 h) else (if x3 = (115 : Int32) then (f_X13_clause_28 a0 a1 x3 h) else (if x3 = (99 : Int32) then (f_X13_clause_28 a0 a1 x3 h) else (f_X13_clause_38 a0 h)))) else none
set_option maxRecDepth 100000 in
set_option maxHeartbeats 4000000 in
theorem c_X13_clause (X : SX) (d : Nat) (a0 : Nat) (a1 : Int32) (h : AH) (h' : AH) (hf : f_X13_clause a0 a1 h = some h') : isO h 12 a0 = true ∧ G X mX13_clause (d + 2) 0 [(0, .ref a0), (1, .int a1)] [] h none h' := by
  unfold f_X13_clause at hf
  by_cases ho : isO h 12 a0 = true
  · rw [if_pos ho] at hf
    refine ⟨ho, ?_⟩
    refine G.aload_n dX13_clause_0 rfl ?_
    refine G.getr flX13_7 dX13_clause_1 hf (fun r1 hf => ?_)
    refine G.aload_n dX13_clause_4 rfl ?_
    refine G.geti flX13_86 dX13_clause_5 hf (fun x2 hf => ?_)
    refine G.iald dX13_clause_8 hf (fun x3 hf => ?_)
    refine G.istore_n (lv' := [(2, .int x3), (0, .ref a0), (1, .int a1)]) dX13_clause_9 (by decide) rfl ?_
    refine G.iload_n dX13_clause_10 rfl ?_
    refine G.bipush (v := (114 : Int32)) dX13_clause_11 (by decide) ?_
    refine G.icmp_eq 28 dX13_clause_13 (by decide) (fun c4 => ?_) (fun c4 => ?_)
    · rw [if_pos c4] at hf
      exact G.pick [1, 2, 0] rfl (j_X13_clause_28 X d a0 a1 x3 h _ hf)
    · rw [if_neg c4] at hf
      refine G.iload_n dX13_clause_16 rfl ?_
      refine G.bipush (v := (115 : Int32)) dX13_clause_17 (by decide) ?_
      refine G.icmp_eq 28 dX13_clause_19 (by decide) (fun c5 => ?_) (fun c5 => ?_)
      · rw [if_pos c5] at hf
        exact G.pick [1, 2, 0] rfl (j_X13_clause_28 X d a0 a1 x3 h _ hf)
      · rw [if_neg c5] at hf
        refine G.iload_n dX13_clause_22 rfl ?_
        refine G.bipush (v := (99 : Int32)) dX13_clause_23 (by decide) ?_
        refine G.icmp_ne 38 dX13_clause_25 (by decide) (fun c6 => ?_) (fun c6 => ?_)
        · rw [if_neg c6] at hf
          exact G.pick [1] rfl (j_X13_clause_38 X d a0 h _ hf)
        · rw [if_pos c6] at hf
          exact G.pick [1, 2, 0] rfl (j_X13_clause_28 X d a0 a1 x3 h _ hf)
  · rw [if_neg ho] at hf
    cases hf
