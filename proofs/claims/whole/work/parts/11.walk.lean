/-! X8_init -/
theorem dX8_init_0 : decode cX8_init 0 = .ok (.aload_n 0, 1) := by decide +kernel
theorem dX8_init_1 : decode cX8_init 1 = .ok (.invokespecial 3, 3) := by decide +kernel
theorem dX8_init_4 : decode cX8_init 4 = .ok (.aload_n 0, 1) := by decide +kernel
theorem dX8_init_5 : decode cX8_init 5 = .ok (.sipush 240, 3) := by decide +kernel
theorem dX8_init_8 : decode cX8_init 8 = .ok (.newarray .char, 2) := by decide +kernel
theorem dX8_init_10 : decode cX8_init 10 = .ok (.putfield 9, 3) := by decide +kernel
theorem dX8_init_13 : decode cX8_init 13 = .ok (.aload_n 0, 1) := by decide +kernel
theorem dX8_init_14 : decode cX8_init 14 = .ok (.iconst (-1), 1) := by decide +kernel
theorem dX8_init_15 : decode cX8_init 15 = .ok (.putfield 15, 3) := by decide +kernel
theorem dX8_init_18 : decode cX8_init 18 = .ok (.return_, 1) := by decide +kernel
def f_X8_init (a0 : Nat) (h : AH) : Option (AH) := (pf (h ++ [.inl (1, 240, .inl (fun _ => 0))]) 7 a0 0 (.ref (List.length h))).bind fun h1 => (pf h1 7 a0 2 (.int (-1 : Int32))).bind fun h2 => some h2
set_option maxRecDepth 100000 in
set_option maxHeartbeats 4000000 in
theorem c_X8_init (X : SX) (d : Nat) (a0 : Nat) (h : AH) (h' : AH) (hf : f_X8_init a0 h = some h') : G X mX8_init (d + 1) 0 [(0, .ref a0)] [] h none h' := by
  unfold f_X8_init at hf
  refine G.aload_n dX8_init_0 rfl ?_
  refine G.oinit lkX8_3 (Nat.le_of_ble_eq_true rfl) dX8_init_1 ?_
  refine G.aload_n dX8_init_4 rfl ?_
  refine G.sipush (v := (240 : Int32)) dX8_init_5 (by decide) ?_
  refine G.newa (kd := 1) (N := 240) (a0 := (240, .inl (fun _ => 0))) ac_char (fun _ => rfl) ⟨fun _ _ _ => rfl, fun _ => rfl, rfl⟩ (by decide) (by decide) (by decide) dX8_init_8 ?_
  refine G.put flX8_9 (Or.inr ⟨rfl, rfl⟩) (fun _ _ => ⟨rfl, rfl⟩) dX8_init_10 hf (fun h1 hf => ?_)
  refine G.aload_n dX8_init_13 rfl ?_
  refine G.iconst (v := (-1 : Int32)) dX8_init_14 (by decide) ?_
  refine G.put flX8_15 (Or.inl rfl) (fun _ _ => ⟨rfl, rfl⟩) dX8_init_15 hf (fun h2 hf => ?_)
  have hq := Option.some.inj hf
  subst hq
  exact G.vret rfl dX8_init_18
/-! X4_init -/
theorem dX4_init_0 : decode cX4_init 0 = .ok (.aload_n 0, 1) := by decide +kernel
theorem dX4_init_1 : decode cX4_init 1 = .ok (.invokespecial 3, 3) := by decide +kernel
theorem dX4_init_4 : decode cX4_init 4 = .ok (.aload_n 0, 1) := by decide +kernel
theorem dX4_init_5 : decode cX4_init 5 = .ok (.bipush 6, 2) := by decide +kernel
theorem dX4_init_7 : decode cX4_init 7 = .ok (.newarray .int, 2) := by decide +kernel
theorem dX4_init_9 : decode cX4_init 9 = .ok (.putfield 9, 3) := by decide +kernel
theorem dX4_init_12 : decode cX4_init 12 = .ok (.aload_n 0, 1) := by decide +kernel
theorem dX4_init_13 : decode cX4_init 13 = .ok (.bipush 6, 2) := by decide +kernel
theorem dX4_init_15 : decode cX4_init 15 = .ok (.newarray .int, 2) := by decide +kernel
theorem dX4_init_17 : decode cX4_init 17 = .ok (.putfield 15, 3) := by decide +kernel
theorem dX4_init_20 : decode cX4_init 20 = .ok (.aload_n 0, 1) := by decide +kernel
theorem dX4_init_21 : decode cX4_init 21 = .ok (.bipush 6, 2) := by decide +kernel
theorem dX4_init_23 : decode cX4_init 23 = .ok (.newarray .int, 2) := by decide +kernel
theorem dX4_init_25 : decode cX4_init 25 = .ok (.putfield 18, 3) := by decide +kernel
theorem dX4_init_28 : decode cX4_init 28 = .ok (.aload_n 0, 1) := by decide +kernel
theorem dX4_init_29 : decode cX4_init 29 = .ok (.bipush 6, 2) := by decide +kernel
theorem dX4_init_31 : decode cX4_init 31 = .ok (.newarray .int, 2) := by decide +kernel
theorem dX4_init_33 : decode cX4_init 33 = .ok (.putfield 21, 3) := by decide +kernel
theorem dX4_init_36 : decode cX4_init 36 = .ok (.aload_n 0, 1) := by decide +kernel
theorem dX4_init_37 : decode cX4_init 37 = .ok (.bipush 6, 2) := by decide +kernel
theorem dX4_init_39 : decode cX4_init 39 = .ok (.newarray .int, 2) := by decide +kernel
theorem dX4_init_41 : decode cX4_init 41 = .ok (.putfield 24, 3) := by decide +kernel
theorem dX4_init_44 : decode cX4_init 44 = .ok (.aload_n 0, 1) := by decide +kernel
theorem dX4_init_45 : decode cX4_init 45 = .ok (.bipush 6, 2) := by decide +kernel
theorem dX4_init_47 : decode cX4_init 47 = .ok (.newarray .int, 2) := by decide +kernel
theorem dX4_init_49 : decode cX4_init 49 = .ok (.putfield 27, 3) := by decide +kernel
theorem dX4_init_52 : decode cX4_init 52 = .ok (.aload_n 0, 1) := by decide +kernel
theorem dX4_init_53 : decode cX4_init 53 = .ok (.bipush 6, 2) := by decide +kernel
theorem dX4_init_55 : decode cX4_init 55 = .ok (.newarray .int, 2) := by decide +kernel
theorem dX4_init_57 : decode cX4_init 57 = .ok (.putfield 30, 3) := by decide +kernel
theorem dX4_init_60 : decode cX4_init 60 = .ok (.return_, 1) := by decide +kernel
def f_X4_init (a0 : Nat) (h : AH) : Option (AH) := (pf (h ++ [.inl (0, 6, .inl (fun _ => 0))]) 4 a0 0 (.ref (List.length h))).bind fun h1 => (pf (h1 ++ [.inl (0, 6, .inl (fun _ => 0))]) 4 a0 1 (.ref (List.length h1))).bind fun h2 => (pf (h2 ++ [.inl (0, 6, .inl (fun _ => 0))]) 4 a0 2 (.ref (List.length h2))).bind fun h3 => (pf (h3 ++ [.inl (0, 6, .inl (fun _ => 0))]) 4 a0 3 (.ref (List.length h3))).bind fun h4 => (pf (h4 ++ [.inl (0, 6, .inl (fun _ => 0))]) 4 a0 4 (.ref (List.length h4))).bind fun h5 => (pf (h5 ++ [.inl (0, 6, .inl (fun _ => 0))]) 4 a0 5 (.ref (List.length h5))).bind fun h6 => (pf (h6 ++ [.inl (0, 6, .inl (fun _ => 0))]) 4 a0 6 (.ref (List.length h6))).bind fun h7 => some h7
set_option maxRecDepth 100000 in
set_option maxHeartbeats 4000000 in
theorem c_X4_init (X : SX) (d : Nat) (a0 : Nat) (h : AH) (h' : AH) (hf : f_X4_init a0 h = some h') : G X mX4_init (d + 1) 0 [(0, .ref a0)] [] h none h' := by
  unfold f_X4_init at hf
  refine G.aload_n dX4_init_0 rfl ?_
  refine G.oinit lkX4_3 (Nat.le_of_ble_eq_true rfl) dX4_init_1 ?_
  refine G.aload_n dX4_init_4 rfl ?_
  refine G.bipush (v := (6 : Int32)) dX4_init_5 (by decide) ?_
  refine G.newa (kd := 0) (N := 6) (a0 := (6, .inl (fun _ => 0))) ac_int (fun _ => rfl) ⟨fun _ _ _ => rfl, fun _ => rfl, rfl⟩ (by decide) (by decide) (by decide) dX4_init_7 ?_
  refine G.put flX4_9 (Or.inr ⟨rfl, rfl⟩) (fun _ _ => ⟨rfl, rfl⟩) dX4_init_9 hf (fun h1 hf => ?_)
  refine G.aload_n dX4_init_12 rfl ?_
  refine G.bipush (v := (6 : Int32)) dX4_init_13 (by decide) ?_
  refine G.newa (kd := 0) (N := 6) (a0 := (6, .inl (fun _ => 0))) ac_int (fun _ => rfl) ⟨fun _ _ _ => rfl, fun _ => rfl, rfl⟩ (by decide) (by decide) (by decide) dX4_init_15 ?_
  refine G.put flX4_15 (Or.inr ⟨rfl, rfl⟩) (fun _ _ => ⟨rfl, rfl⟩) dX4_init_17 hf (fun h2 hf => ?_)
  refine G.aload_n dX4_init_20 rfl ?_
  refine G.bipush (v := (6 : Int32)) dX4_init_21 (by decide) ?_
  refine G.newa (kd := 0) (N := 6) (a0 := (6, .inl (fun _ => 0))) ac_int (fun _ => rfl) ⟨fun _ _ _ => rfl, fun _ => rfl, rfl⟩ (by decide) (by decide) (by decide) dX4_init_23 ?_
  refine G.put flX4_18 (Or.inr ⟨rfl, rfl⟩) (fun _ _ => ⟨rfl, rfl⟩) dX4_init_25 hf (fun h3 hf => ?_)
  refine G.aload_n dX4_init_28 rfl ?_
  refine G.bipush (v := (6 : Int32)) dX4_init_29 (by decide) ?_
  refine G.newa (kd := 0) (N := 6) (a0 := (6, .inl (fun _ => 0))) ac_int (fun _ => rfl) ⟨fun _ _ _ => rfl, fun _ => rfl, rfl⟩ (by decide) (by decide) (by decide) dX4_init_31 ?_
  refine G.put flX4_21 (Or.inr ⟨rfl, rfl⟩) (fun _ _ => ⟨rfl, rfl⟩) dX4_init_33 hf (fun h4 hf => ?_)
  refine G.aload_n dX4_init_36 rfl ?_
  refine G.bipush (v := (6 : Int32)) dX4_init_37 (by decide) ?_
  refine G.newa (kd := 0) (N := 6) (a0 := (6, .inl (fun _ => 0))) ac_int (fun _ => rfl) ⟨fun _ _ _ => rfl, fun _ => rfl, rfl⟩ (by decide) (by decide) (by decide) dX4_init_39 ?_
  refine G.put flX4_24 (Or.inr ⟨rfl, rfl⟩) (fun _ _ => ⟨rfl, rfl⟩) dX4_init_41 hf (fun h5 hf => ?_)
  refine G.aload_n dX4_init_44 rfl ?_
  refine G.bipush (v := (6 : Int32)) dX4_init_45 (by decide) ?_
  refine G.newa (kd := 0) (N := 6) (a0 := (6, .inl (fun _ => 0))) ac_int (fun _ => rfl) ⟨fun _ _ _ => rfl, fun _ => rfl, rfl⟩ (by decide) (by decide) (by decide) dX4_init_47 ?_
  refine G.put flX4_27 (Or.inr ⟨rfl, rfl⟩) (fun _ _ => ⟨rfl, rfl⟩) dX4_init_49 hf (fun h6 hf => ?_)
  refine G.aload_n dX4_init_52 rfl ?_
  refine G.bipush (v := (6 : Int32)) dX4_init_53 (by decide) ?_
  refine G.newa (kd := 0) (N := 6) (a0 := (6, .inl (fun _ => 0))) ac_int (fun _ => rfl) ⟨fun _ _ _ => rfl, fun _ => rfl, rfl⟩ (by decide) (by decide) (by decide) dX4_init_55 ?_
  refine G.put flX4_30 (Or.inr ⟨rfl, rfl⟩) (fun _ _ => ⟨rfl, rfl⟩) dX4_init_57 hf (fun h7 hf => ?_)
  have hq := Option.some.inj hf
  subst hq
  exact G.vret rfl dX4_init_60
/-! X10_init -/
theorem dX10_init_0 : decode cX10_init 0 = .ok (.aload_n 0, 1) := by decide +kernel
theorem dX10_init_1 : decode cX10_init 1 = .ok (.invokespecial 3, 3) := by decide +kernel
theorem dX10_init_4 : decode cX10_init 4 = .ok (.aload_n 0, 1) := by decide +kernel
theorem dX10_init_5 : decode cX10_init 5 = .ok (.bipush 6, 2) := by decide +kernel
theorem dX10_init_7 : decode cX10_init 7 = .ok (.newarray .int, 2) := by decide +kernel
theorem dX10_init_9 : decode cX10_init 9 = .ok (.putfield 9, 3) := by decide +kernel
theorem dX10_init_12 : decode cX10_init 12 = .ok (.aload_n 0, 1) := by decide +kernel
theorem dX10_init_13 : decode cX10_init 13 = .ok (.bipush 6, 2) := by decide +kernel
theorem dX10_init_15 : decode cX10_init 15 = .ok (.newarray .int, 2) := by decide +kernel
theorem dX10_init_17 : decode cX10_init 17 = .ok (.putfield 15, 3) := by decide +kernel
theorem dX10_init_20 : decode cX10_init 20 = .ok (.aload_n 0, 1) := by decide +kernel
theorem dX10_init_21 : decode cX10_init 21 = .ok (.bipush 6, 2) := by decide +kernel
theorem dX10_init_23 : decode cX10_init 23 = .ok (.newarray .int, 2) := by decide +kernel
theorem dX10_init_25 : decode cX10_init 25 = .ok (.putfield 18, 3) := by decide +kernel
theorem dX10_init_28 : decode cX10_init 28 = .ok (.aload_n 0, 1) := by decide +kernel
theorem dX10_init_29 : decode cX10_init 29 = .ok (.bipush 6, 2) := by decide +kernel
theorem dX10_init_31 : decode cX10_init 31 = .ok (.newarray .int, 2) := by decide +kernel
theorem dX10_init_33 : decode cX10_init 33 = .ok (.putfield 21, 3) := by decide +kernel
theorem dX10_init_36 : decode cX10_init 36 = .ok (.aload_n 0, 1) := by decide +kernel
theorem dX10_init_37 : decode cX10_init 37 = .ok (.bipush 6, 2) := by decide +kernel
theorem dX10_init_39 : decode cX10_init 39 = .ok (.newarray .int, 2) := by decide +kernel
theorem dX10_init_41 : decode cX10_init 41 = .ok (.putfield 24, 3) := by decide +kernel
theorem dX10_init_44 : decode cX10_init 44 = .ok (.aload_n 0, 1) := by decide +kernel
theorem dX10_init_45 : decode cX10_init 45 = .ok (.bipush 6, 2) := by decide +kernel
theorem dX10_init_47 : decode cX10_init 47 = .ok (.newarray .int, 2) := by decide +kernel
theorem dX10_init_49 : decode cX10_init 49 = .ok (.putfield 27, 3) := by decide +kernel
theorem dX10_init_52 : decode cX10_init 52 = .ok (.aload_n 0, 1) := by decide +kernel
theorem dX10_init_53 : decode cX10_init 53 = .ok (.bipush 6, 2) := by decide +kernel
theorem dX10_init_55 : decode cX10_init 55 = .ok (.newarray .int, 2) := by decide +kernel
theorem dX10_init_57 : decode cX10_init 57 = .ok (.putfield 30, 3) := by decide +kernel
theorem dX10_init_60 : decode cX10_init 60 = .ok (.return_, 1) := by decide +kernel
def f_X10_init (a0 : Nat) (h : AH) : Option (AH) := (pf (h ++ [.inl (0, 6, .inl (fun _ => 0))]) 9 a0 0 (.ref (List.length h))).bind fun h1 => (pf (h1 ++ [.inl (0, 6, .inl (fun _ => 0))]) 9 a0 1 (.ref (List.length h1))).bind fun h2 => (pf (h2 ++ [.inl (0, 6, .inl (fun _ => 0))]) 9 a0 2 (.ref (List.length h2))).bind fun h3 => (pf (h3 ++ [.inl (0, 6, .inl (fun _ => 0))]) 9 a0 3 (.ref (List.length h3))).bind fun h4 => (pf (h4 ++ [.inl (0, 6, .inl (fun _ => 0))]) 9 a0 4 (.ref (List.length h4))).bind fun h5 => (pf (h5 ++ [.inl (0, 6, .inl (fun _ => 0))]) 9 a0 5 (.ref (List.length h5))).bind fun h6 => (pf (h6 ++ [.inl (0, 6, .inl (fun _ => 0))]) 9 a0 6 (.ref (List.length h6))).bind fun h7 => some h7
set_option maxRecDepth 100000 in
set_option maxHeartbeats 4000000 in
theorem c_X10_init (X : SX) (d : Nat) (a0 : Nat) (h : AH) (h' : AH) (hf : f_X10_init a0 h = some h') : G X mX10_init (d + 1) 0 [(0, .ref a0)] [] h none h' := by
  unfold f_X10_init at hf
  refine G.aload_n dX10_init_0 rfl ?_
  refine G.oinit lkX10_3 (Nat.le_of_ble_eq_true rfl) dX10_init_1 ?_
  refine G.aload_n dX10_init_4 rfl ?_
  refine G.bipush (v := (6 : Int32)) dX10_init_5 (by decide) ?_
  refine G.newa (kd := 0) (N := 6) (a0 := (6, .inl (fun _ => 0))) ac_int (fun _ => rfl) ⟨fun _ _ _ => rfl, fun _ => rfl, rfl⟩ (by decide) (by decide) (by decide) dX10_init_7 ?_
  refine G.put flX10_9 (Or.inr ⟨rfl, rfl⟩) (fun _ _ => ⟨rfl, rfl⟩) dX10_init_9 hf (fun h1 hf => ?_)
  refine G.aload_n dX10_init_12 rfl ?_
  refine G.bipush (v := (6 : Int32)) dX10_init_13 (by decide) ?_
  refine G.newa (kd := 0) (N := 6) (a0 := (6, .inl (fun _ => 0))) ac_int (fun _ => rfl) ⟨fun _ _ _ => rfl, fun _ => rfl, rfl⟩ (by decide) (by decide) (by decide) dX10_init_15 ?_
  refine G.put flX10_15 (Or.inr ⟨rfl, rfl⟩) (fun _ _ => ⟨rfl, rfl⟩) dX10_init_17 hf (fun h2 hf => ?_)
  refine G.aload_n dX10_init_20 rfl ?_
  refine G.bipush (v := (6 : Int32)) dX10_init_21 (by decide) ?_
  refine G.newa (kd := 0) (N := 6) (a0 := (6, .inl (fun _ => 0))) ac_int (fun _ => rfl) ⟨fun _ _ _ => rfl, fun _ => rfl, rfl⟩ (by decide) (by decide) (by decide) dX10_init_23 ?_
  refine G.put flX10_18 (Or.inr ⟨rfl, rfl⟩) (fun _ _ => ⟨rfl, rfl⟩) dX10_init_25 hf (fun h3 hf => ?_)
  refine G.aload_n dX10_init_28 rfl ?_
  refine G.bipush (v := (6 : Int32)) dX10_init_29 (by decide) ?_
  refine G.newa (kd := 0) (N := 6) (a0 := (6, .inl (fun _ => 0))) ac_int (fun _ => rfl) ⟨fun _ _ _ => rfl, fun _ => rfl, rfl⟩ (by decide) (by decide) (by decide) dX10_init_31 ?_
  refine G.put flX10_21 (Or.inr ⟨rfl, rfl⟩) (fun _ _ => ⟨rfl, rfl⟩) dX10_init_33 hf (fun h4 hf => ?_)
  refine G.aload_n dX10_init_36 rfl ?_
  refine G.bipush (v := (6 : Int32)) dX10_init_37 (by decide) ?_
  refine G.newa (kd := 0) (N := 6) (a0 := (6, .inl (fun _ => 0))) ac_int (fun _ => rfl) ⟨fun _ _ _ => rfl, fun _ => rfl, rfl⟩ (by decide) (by decide) (by decide) dX10_init_39 ?_
  refine G.put flX10_24 (Or.inr ⟨rfl, rfl⟩) (fun _ _ => ⟨rfl, rfl⟩) dX10_init_41 hf (fun h5 hf => ?_)
  refine G.aload_n dX10_init_44 rfl ?_
  refine G.bipush (v := (6 : Int32)) dX10_init_45 (by decide) ?_
  refine G.newa (kd := 0) (N := 6) (a0 := (6, .inl (fun _ => 0))) ac_int (fun _ => rfl) ⟨fun _ _ _ => rfl, fun _ => rfl, rfl⟩ (by decide) (by decide) (by decide) dX10_init_47 ?_
  refine G.put flX10_27 (Or.inr ⟨rfl, rfl⟩) (fun _ _ => ⟨rfl, rfl⟩) dX10_init_49 hf (fun h6 hf => ?_)
  refine G.aload_n dX10_init_52 rfl ?_
  refine G.bipush (v := (6 : Int32)) dX10_init_53 (by decide) ?_
  refine G.newa (kd := 0) (N := 6) (a0 := (6, .inl (fun _ => 0))) ac_int (fun _ => rfl) ⟨fun _ _ _ => rfl, fun _ => rfl, rfl⟩ (by decide) (by decide) (by decide) dX10_init_55 ?_
  refine G.put flX10_30 (Or.inr ⟨rfl, rfl⟩) (fun _ _ => ⟨rfl, rfl⟩) dX10_init_57 hf (fun h7 hf => ?_)
  have hq := Option.some.inj hf
  subst hq
  exact G.vret rfl dX10_init_60
/-! X3_init -/
theorem dX3_init_0 : decode cX3_init 0 = .ok (.aload_n 0, 1) := by decide +kernel
theorem dX3_init_1 : decode cX3_init 1 = .ok (.invokespecial 3, 3) := by decide +kernel
theorem dX3_init_4 : decode cX3_init 4 = .ok (.aload_n 0, 1) := by decide +kernel
theorem dX3_init_5 : decode cX3_init 5 = .ok (.new 9, 3) := by decide +kernel
theorem dX3_init_8 : decode cX3_init 8 = .ok (.dup, 1) := by decide +kernel
theorem dX3_init_9 : decode cX3_init 9 = .ok (.invokespecial 11, 3) := by decide +kernel
theorem dX3_init_12 : decode cX3_init 12 = .ok (.putfield 12, 3) := by decide +kernel
theorem dX3_init_15 : decode cX3_init 15 = .ok (.aload_n 0, 1) := by decide +kernel
theorem dX3_init_16 : decode cX3_init 16 = .ok (.new 18, 3) := by decide +kernel
theorem dX3_init_19 : decode cX3_init 19 = .ok (.dup, 1) := by decide +kernel
theorem dX3_init_20 : decode cX3_init 20 = .ok (.invokespecial 20, 3) := by decide +kernel
theorem dX3_init_23 : decode cX3_init 23 = .ok (.putfield 21, 3) := by decide +kernel
theorem dX3_init_26 : decode cX3_init 26 = .ok (.return_, 1) := by decide +kernel
def f_X3_init (a0 : Nat) (h : AH) : Option (AH) := (f_X4_init (List.length h) (h ++ [.inr (4, [.null, .null, .null, .null, .null, .null, .null, .int 0, .int 0, .int 0, .int 0])])).bind fun h1 => (pf h1 3 a0 0 (.ref (List.length h))).bind fun h3 => (f_X10_init (List.length h3) (h3 ++ [.inr (9, [.null, .null, .null, .null, .null, .null, .null, .int 0, .int 0, .int 0, .int 0])])).bind fun h4 => (pf h4 3 a0 1 (.ref (List.length h3))).bind fun h6 => some h6
set_option maxRecDepth 100000 in
set_option maxHeartbeats 4000000 in
theorem c_X3_init (X : SX) (d : Nat) (a0 : Nat) (h : AH) (h' : AH) (hf : f_X3_init a0 h = some h') : G X mX3_init (d + 2) 0 [(0, .ref a0)] [] h none h' := by
  unfold f_X3_init at hf
  refine G.aload_n dX3_init_0 rfl ?_
  refine G.oinit lkX3_3 (Nat.le_of_ble_eq_true rfl) dX3_init_1 ?_
  refine G.aload_n dX3_init_4 rfl ?_
  refine G.new (fs := [.null, .null, .null, .null, .null, .null, .null, .int 0, .int 0, .int 0, .int 0]) ciX4 clX3_9 ⟨rfl, by decide +kernel⟩ (fun _ _ => rfl) dX3_init_5 ?_
  refine G.dup dX3_init_8 rfl ?_
  obtain ⟨h1, e2, hf⟩ := Option.bind_eq_some_iff.mp hf
  refine G.callIv (M' := mX4_init) (As := []) (st := [.ref (List.length h), .ref a0]) okX4_init ⟨rfl, rfl⟩ viX4_init (Or.inr nkX3_11) rfl (Nat.le_of_ble_eq_true rfl) (Nat.le_of_ble_eq_true rfl) dX3_init_9 (c_X4_init X d _ _ _ e2) ?_
  refine G.put flX3_12 (Or.inr ⟨rfl, rfl⟩) (fun _ _ => ⟨rfl, rfl⟩) dX3_init_12 hf (fun h3 hf => ?_)
  refine G.aload_n dX3_init_15 rfl ?_
  refine G.new (fs := [.null, .null, .null, .null, .null, .null, .null, .int 0, .int 0, .int 0, .int 0]) ciX10 clX3_18 ⟨rfl, by decide +kernel⟩ (fun _ _ => rfl) dX3_init_16 ?_
  refine G.dup dX3_init_19 rfl ?_
  obtain ⟨h4, e5, hf⟩ := Option.bind_eq_some_iff.mp hf
  refine G.callIv (M' := mX10_init) (As := []) (st := [.ref (List.length h3), .ref a0]) okX10_init ⟨rfl, rfl⟩ viX10_init (Or.inr nkX3_20) rfl (Nat.le_of_ble_eq_true rfl) (Nat.le_of_ble_eq_true rfl) dX3_init_20 (c_X10_init X d _ _ _ e5) ?_
  refine G.put flX3_21 (Or.inl rfl) (fun _ _ => ⟨rfl, rfl⟩) dX3_init_23 hf (fun h6 hf => ?_)
  have hq := Option.some.inj hf
  subst hq
  exact G.vret rfl dX3_init_26
/-! X7_init -/
theorem dX7_init_0 : decode cX7_init 0 = .ok (.aload_n 0, 1) := by decide +kernel
theorem dX7_init_1 : decode cX7_init 1 = .ok (.invokespecial 3, 3) := by decide +kernel
theorem dX7_init_4 : decode cX7_init 4 = .ok (.aload_n 0, 1) := by decide +kernel
theorem dX7_init_5 : decode cX7_init 5 = .ok (.bipush 36, 2) := by decide +kernel
theorem dX7_init_7 : decode cX7_init 7 = .ok (.newarray .int, 2) := by decide +kernel
theorem dX7_init_9 : decode cX7_init 9 = .ok (.putfield 9, 3) := by decide +kernel
theorem dX7_init_12 : decode cX7_init 12 = .ok (.aload_n 0, 1) := by decide +kernel
theorem dX7_init_13 : decode cX7_init 13 = .ok (.sipush 448, 3) := by decide +kernel
theorem dX7_init_16 : decode cX7_init 16 = .ok (.newarray .int, 2) := by decide +kernel
theorem dX7_init_18 : decode cX7_init 18 = .ok (.putfield 15, 3) := by decide +kernel
theorem dX7_init_21 : decode cX7_init 21 = .ok (.return_, 1) := by decide +kernel
def f_X7_init (a0 : Nat) (h : AH) : Option (AH) := (pf (h ++ [.inl (0, 36, .inl (fun _ => 0))]) 6 a0 0 (.ref (List.length h))).bind fun h1 => (pf (h1 ++ [.inl (0, 448, .inl (fun _ => 0))]) 6 a0 1 (.ref (List.length h1))).bind fun h2 => some h2
set_option maxRecDepth 100000 in
set_option maxHeartbeats 4000000 in
theorem c_X7_init (X : SX) (d : Nat) (a0 : Nat) (h : AH) (h' : AH) (hf : f_X7_init a0 h = some h') : G X mX7_init (d + 1) 0 [(0, .ref a0)] [] h none h' := by
  unfold f_X7_init at hf
  refine G.aload_n dX7_init_0 rfl ?_
  refine G.oinit lkX7_3 (Nat.le_of_ble_eq_true rfl) dX7_init_1 ?_
  refine G.aload_n dX7_init_4 rfl ?_
  refine G.bipush (v := (36 : Int32)) dX7_init_5 (by decide) ?_
  refine G.newa (kd := 0) (N := 36) (a0 := (36, .inl (fun _ => 0))) ac_int (fun _ => rfl) ⟨fun _ _ _ => rfl, fun _ => rfl, rfl⟩ (by decide) (by decide) (by decide) dX7_init_7 ?_
  refine G.put flX7_9 (Or.inr ⟨rfl, rfl⟩) (fun _ _ => ⟨rfl, rfl⟩) dX7_init_9 hf (fun h1 hf => ?_)
  refine G.aload_n dX7_init_12 rfl ?_
  refine G.sipush (v := (448 : Int32)) dX7_init_13 (by decide) ?_
  refine G.newa (kd := 0) (N := 448) (a0 := (448, .inl (fun _ => 0))) ac_int (fun _ => rfl) ⟨fun _ _ _ => rfl, fun _ => rfl, rfl⟩ (by decide) (by decide) (by decide) dX7_init_16 ?_
  refine G.put flX7_15 (Or.inr ⟨rfl, rfl⟩) (fun _ _ => ⟨rfl, rfl⟩) dX7_init_18 hf (fun h2 hf => ?_)
  have hq := Option.some.inj hf
  subst hq
  exact G.vret rfl dX7_init_21
/-! X9_init -/
theorem dX9_init_0 : decode cX9_init 0 = .ok (.aload_n 0, 1) := by decide +kernel
theorem dX9_init_1 : decode cX9_init 1 = .ok (.invokespecial 3, 3) := by decide +kernel
theorem dX9_init_4 : decode cX9_init 4 = .ok (.aload_n 0, 1) := by decide +kernel
theorem dX9_init_5 : decode cX9_init 5 = .ok (.bipush 6, 2) := by decide +kernel
theorem dX9_init_7 : decode cX9_init 7 = .ok (.newarray .int, 2) := by decide +kernel
theorem dX9_init_9 : decode cX9_init 9 = .ok (.putfield 9, 3) := by decide +kernel
theorem dX9_init_12 : decode cX9_init 12 = .ok (.aload_n 0, 1) := by decide +kernel
theorem dX9_init_13 : decode cX9_init 13 = .ok (.bipush 6, 2) := by decide +kernel
theorem dX9_init_15 : decode cX9_init 15 = .ok (.newarray .int, 2) := by decide +kernel
theorem dX9_init_17 : decode cX9_init 17 = .ok (.putfield 15, 3) := by decide +kernel
theorem dX9_init_20 : decode cX9_init 20 = .ok (.aload_n 0, 1) := by decide +kernel
theorem dX9_init_21 : decode cX9_init 21 = .ok (.bipush 6, 2) := by decide +kernel
theorem dX9_init_23 : decode cX9_init 23 = .ok (.newarray .int, 2) := by decide +kernel
theorem dX9_init_25 : decode cX9_init 25 = .ok (.putfield 18, 3) := by decide +kernel
theorem dX9_init_28 : decode cX9_init 28 = .ok (.return_, 1) := by decide +kernel
def f_X9_init (a0 : Nat) (h : AH) : Option (AH) := (pf (h ++ [.inl (0, 6, .inl (fun _ => 0))]) 8 a0 0 (.ref (List.length h))).bind fun h1 => (pf (h1 ++ [.inl (0, 6, .inl (fun _ => 0))]) 8 a0 1 (.ref (List.length h1))).bind fun h2 => (pf (h2 ++ [.inl (0, 6, .inl (fun _ => 0))]) 8 a0 2 (.ref (List.length h2))).bind fun h3 => some h3
set_option maxRecDepth 100000 in
set_option maxHeartbeats 4000000 in
theorem c_X9_init (X : SX) (d : Nat) (a0 : Nat) (h : AH) (h' : AH) (hf : f_X9_init a0 h = some h') : G X mX9_init (d + 1) 0 [(0, .ref a0)] [] h none h' := by
  unfold f_X9_init at hf
  refine G.aload_n dX9_init_0 rfl ?_
  refine G.oinit lkX9_3 (Nat.le_of_ble_eq_true rfl) dX9_init_1 ?_
  refine G.aload_n dX9_init_4 rfl ?_
  refine G.bipush (v := (6 : Int32)) dX9_init_5 (by decide) ?_
  refine G.newa (kd := 0) (N := 6) (a0 := (6, .inl (fun _ => 0))) ac_int (fun _ => rfl) ⟨fun _ _ _ => rfl, fun _ => rfl, rfl⟩ (by decide) (by decide) (by decide) dX9_init_7 ?_
  refine G.put flX9_9 (Or.inr ⟨rfl, rfl⟩) (fun _ _ => ⟨rfl, rfl⟩) dX9_init_9 hf (fun h1 hf => ?_)
  refine G.aload_n dX9_init_12 rfl ?_
  refine G.bipush (v := (6 : Int32)) dX9_init_13 (by decide) ?_
  refine G.newa (kd := 0) (N := 6) (a0 := (6, .inl (fun _ => 0))) ac_int (fun _ => rfl) ⟨fun _ _ _ => rfl, fun _ => rfl, rfl⟩ (by decide) (by decide) (by decide) dX9_init_15 ?_
  refine G.put flX9_15 (Or.inr ⟨rfl, rfl⟩) (fun _ _ => ⟨rfl, rfl⟩) dX9_init_17 hf (fun h2 hf => ?_)
  refine G.aload_n dX9_init_20 rfl ?_
  refine G.bipush (v := (6 : Int32)) dX9_init_21 (by decide) ?_
  refine G.newa (kd := 0) (N := 6) (a0 := (6, .inl (fun _ => 0))) ac_int (fun _ => rfl) ⟨fun _ _ _ => rfl, fun _ => rfl, rfl⟩ (by decide) (by decide) (by decide) dX9_init_23 ?_
  refine G.put flX9_18 (Or.inr ⟨rfl, rfl⟩) (fun _ _ => ⟨rfl, rfl⟩) dX9_init_25 hf (fun h3 hf => ?_)
  have hq := Option.some.inj hf
  subst hq
  exact G.vret rfl dX9_init_28
/-! X6_init -/
theorem dX6_init_0 : decode cX6_init 0 = .ok (.aload_n 0, 1) := by decide +kernel
theorem dX6_init_1 : decode cX6_init 1 = .ok (.invokespecial 3, 3) := by decide +kernel
theorem dX6_init_4 : decode cX6_init 4 = .ok (.aload_n 0, 1) := by decide +kernel
theorem dX6_init_5 : decode cX6_init 5 = .ok (.bipush 30, 2) := by decide +kernel
theorem dX6_init_7 : decode cX6_init 7 = .ok (.anewarray 9, 3) := by decide +kernel
theorem dX6_init_10 : decode cX6_init 10 = .ok (.putfield 11, 3) := by decide +kernel
theorem dX6_init_13 : decode cX6_init 13 = .ok (.iconst 0, 1) := by decide +kernel
theorem dX6_init_14 : decode cX6_init 14 = .ok (.istore_n 1, 1) := by decide +kernel
theorem dX6_init_15 : decode cX6_init 15 = .ok (.iload_n 1, 1) := by decide +kernel
theorem dX6_init_16 : decode cX6_init 16 = .ok (.bipush 30, 2) := by decide +kernel
theorem dX6_init_18 : decode cX6_init 18 = .ok (.if_icmp .ge 22, 3) := by decide +kernel
theorem dX6_init_21 : decode cX6_init 21 = .ok (.aload_n 0, 1) := by decide +kernel
theorem dX6_init_22 : decode cX6_init 22 = .ok (.getfield 11, 3) := by decide +kernel
theorem dX6_init_25 : decode cX6_init 25 = .ok (.iload_n 1, 1) := by decide +kernel
theorem dX6_init_26 : decode cX6_init 26 = .ok (.new 9, 3) := by decide +kernel
theorem dX6_init_29 : decode cX6_init 29 = .ok (.dup, 1) := by decide +kernel
theorem dX6_init_30 : decode cX6_init 30 = .ok (.invokespecial 17, 3) := by decide +kernel
theorem dX6_init_33 : decode cX6_init 33 = .ok (.aastore, 1) := by decide +kernel
theorem dX6_init_34 : decode cX6_init 34 = .ok (.iinc 1 1, 3) := by decide +kernel
theorem dX6_init_37 : decode cX6_init 37 = .ok (.goto (-22), 3) := by decide +kernel
theorem dX6_init_40 : decode cX6_init 40 = .ok (.return_, 1) := by decide +kernel
def F_X6_init_L15 (rec : Nat → Int32 → AH → Option (AH)) (v0 : Nat) (v1 : Int32) (h : AH) : Option (AH) := if (30 : Int32) ≤ v1 then (some (h)) else ((gr h 5 v0 0).bind fun r2 => (f_X4_init (List.length h) (h ++ [.inr (4, [.null, .null, .null, .null, .null, .null, .null, .int 0, .int 0, .int 0, .int 0])])).bind fun h3 => (arw h3 4 4 r2 v1 (List.length h)).bind fun h5 => rec v0 (v1 + 1) h5)
def f_X6_init_L15 : Nat → Nat → Int32 → AH → Option (AH)
  | 0 => fun _ _ _ => none
  | n + 1 => F_X6_init_L15 (f_X6_init_L15 n)
set_option maxRecDepth 100000 in
set_option maxHeartbeats 4000000 in
theorem lx_X6_init_L15 (X : SX) (d : Nat) : ∀ n (rv : Option Int32) (h' : AH), ∀ (v0 : Nat) (v1 : Int32) (h : AH)  (h1 : AH), f_X6_init_L15 n v0 v1 h = some (h1) → G X mX6_init (d + 2) 40 [] [] h1 rv h' → G X mX6_init (d + 2) 15 [(0, .ref v0), (1, .int v1)] [] h rv h' := by
  intro n
  induction n with
  | zero =>
    intro rv h' v0 v1 h h1 hf hE
    cases hf
  | succ n ihf =>
    intro rv h' v0 v1 h h1 hf hE
    replace hf : F_X6_init_L15 (f_X6_init_L15 n) v0 v1 h = some (h1) := hf
    unfold F_X6_init_L15 at hf
    have ih := ihf rv h'
    refine G.iload_n dX6_init_15 rfl ?_
    refine G.bipush (v := (30 : Int32)) dX6_init_16 (by decide) ?_
    refine G.icmp_ge 40 dX6_init_18 (by decide) (fun c1 => ?_) (fun c1 => ?_)
    · rw [if_pos c1] at hf
      have w0 := Option.some.inj hf
      subst w0
      exact G.pick [] rfl hE
    · rw [if_neg c1] at hf
      refine G.aload_n dX6_init_21 rfl ?_
      refine G.getr flX6_11 dX6_init_22 hf (fun r2 hf => ?_)
      refine G.iload_n dX6_init_25 rfl ?_
      refine G.new (fs := [.null, .null, .null, .null, .null, .null, .null, .int 0, .int 0, .int 0, .int 0]) ciX4 clX6_9 ⟨rfl, by decide +kernel⟩ (fun _ _ => rfl) dX6_init_26 ?_
      refine G.dup dX6_init_29 rfl ?_
      obtain ⟨h3, e4, hf⟩ := Option.bind_eq_some_iff.mp hf
      refine G.callIv (M' := mX4_init) (As := []) (st := [.ref (List.length h), .int v1, .ref r2]) okX4_init ⟨rfl, rfl⟩ viX4_init (Or.inr nkX6_17) rfl (Nat.le_of_ble_eq_true rfl) (Nat.le_of_ble_eq_true rfl) dX6_init_30 (c_X4_init X d _ _ _ e4) ?_
      refine G.aast (Or.inl ⟨rfl, rfl⟩) rfl dX6_init_33 hf (fun h5 hf => ?_)
      refine G.iinc (v := (v1 + 1)) (lv' := [(1, .int (v1 + 1)), (0, .ref v0)]) dX6_init_34 rfl rfl (by decide) rfl ?_
      refine G.goto 15 dX6_init_37 (by decide) ?_
      exact G.pick [1, 0] rfl (ih v0 (v1 + 1) h5 _ hf hE)
theorem l_X6_init_L15 (X : SX) (d : Nat) (rv : Option Int32) (h' : AH) (n : Nat) : ∀ (v0 : Nat) (v1 : Int32) (h : AH)  (h1 : AH), f_X6_init_L15 n v0 v1 h = some (h1) → G X mX6_init (d + 2) 40 [] [] h1 rv h' → G X mX6_init (d + 2) 15 [(0, .ref v0), (1, .int v1)] [] h rv h' := lx_X6_init_L15 X d n rv h'
def f_X6_init (a0 : Nat) (h : AH) : Option (AH) := (pf (h ++ [.inl (4, 30, .inr (.inr (.inr (.inr (fun _ => none)))))]) 5 a0 0 (.ref (List.length h))).bind fun h1 => (f_X6_init_L15 1000000 a0 (0 : Int32) h1).bind fun h2 => some h2
set_option maxRecDepth 100000 in
set_option maxHeartbeats 4000000 in
theorem c_X6_init (X : SX) (d : Nat) (a0 : Nat) (h : AH) (h' : AH) (hf : f_X6_init a0 h = some h') : G X mX6_init (d + 2) 0 [(0, .ref a0)] [] h none h' := by
  unfold f_X6_init at hf
  refine G.aload_n dX6_init_0 rfl ?_
  refine G.oinit lkX6_3 (Nat.le_of_ble_eq_true rfl) dX6_init_1 ?_
  refine G.aload_n dX6_init_4 rfl ?_
  refine G.bipush (v := (30 : Int32)) dX6_init_5 (by decide) ?_
  refine G.newq (kd := 4) (N := 30) clX6_9.1 (Or.inl ⟨rfl, rfl⟩) (by decide) (by decide) (by decide) dX6_init_7 ?_
  refine G.put flX6_11 (Or.inr ⟨rfl, rfl⟩) (fun _ _ => ⟨rfl, rfl⟩) dX6_init_10 hf (fun h1 hf => ?_)
  refine G.iconst (v := (0 : Int32)) dX6_init_13 (by decide) ?_
  refine G.istore_n (lv' := [(1, .int (0 : Int32)), (0, .ref a0)]) dX6_init_14 (by decide) rfl ?_
  obtain ⟨h2, e3, hf⟩ := Option.bind_eq_some_iff.mp hf
  refine G.pick [1, 0] rfl (l_X6_init_L15 X d _ _ 1000000 a0 (0 : Int32) h1 h2 e3 ?_)
  have hq := Option.some.inj hf
  subst hq
  exact G.vret rfl dX6_init_40
/-! X11_init -/
theorem dX11_init_0 : decode cX11_init 0 = .ok (.aload_n 0, 1) := by decide +kernel
theorem dX11_init_1 : decode cX11_init 1 = .ok (.invokespecial 3, 3) := by decide +kernel
theorem dX11_init_4 : decode cX11_init 4 = .ok (.aload_n 0, 1) := by decide +kernel
theorem dX11_init_5 : decode cX11_init 5 = .ok (.bipush 6, 2) := by decide +kernel
theorem dX11_init_7 : decode cX11_init 7 = .ok (.newarray .int, 2) := by decide +kernel
theorem dX11_init_9 : decode cX11_init 9 = .ok (.putfield 9, 3) := by decide +kernel
theorem dX11_init_12 : decode cX11_init 12 = .ok (.aload_n 0, 1) := by decide +kernel
theorem dX11_init_13 : decode cX11_init 13 = .ok (.bipush 6, 2) := by decide +kernel
theorem dX11_init_15 : decode cX11_init 15 = .ok (.newarray .boolean, 2) := by decide +kernel
theorem dX11_init_17 : decode cX11_init 17 = .ok (.putfield 15, 3) := by decide +kernel
theorem dX11_init_20 : decode cX11_init 20 = .ok (.return_, 1) := by decide +kernel
def f_X11_init (a0 : Nat) (h : AH) : Option (AH) := (pf (h ++ [.inl (0, 6, .inl (fun _ => 0))]) 10 a0 0 (.ref (List.length h))).bind fun h1 => (pf (h1 ++ [.inl (2, 6, .inl (fun _ => 0))]) 10 a0 1 (.ref (List.length h1))).bind fun h2 => some h2
set_option maxRecDepth 100000 in
set_option maxHeartbeats 4000000 in
theorem c_X11_init (X : SX) (d : Nat) (a0 : Nat) (h : AH) (h' : AH) (hf : f_X11_init a0 h = some h') : G X mX11_init (d + 1) 0 [(0, .ref a0)] [] h none h' := by
  unfold f_X11_init at hf
  refine G.aload_n dX11_init_0 rfl ?_
  refine G.oinit lkX11_3 (Nat.le_of_ble_eq_true rfl) dX11_init_1 ?_
  refine G.aload_n dX11_init_4 rfl ?_
  refine G.bipush (v := (6 : Int32)) dX11_init_5 (by decide) ?_
  refine G.newa (kd := 0) (N := 6) (a0 := (6, .inl (fun _ => 0))) ac_int (fun _ => rfl) ⟨fun _ _ _ => rfl, fun _ => rfl, rfl⟩ (by decide) (by decide) (by decide) dX11_init_7 ?_
  refine G.put flX11_9 (Or.inr ⟨rfl, rfl⟩) (fun _ _ => ⟨rfl, rfl⟩) dX11_init_9 hf (fun h1 hf => ?_)
  refine G.aload_n dX11_init_12 rfl ?_
  refine G.bipush (v := (6 : Int32)) dX11_init_13 (by decide) ?_
  refine G.newa (kd := 2) (N := 6) (a0 := (6, .inl (fun _ => 0))) ac_boolean (fun _ => rfl) ⟨fun _ _ _ => rfl, fun _ => rfl, rfl⟩ (by decide) (by decide) (by decide) dX11_init_15 ?_
  refine G.put flX11_15 (Or.inr ⟨rfl, rfl⟩) (fun _ _ => ⟨rfl, rfl⟩) dX11_init_17 hf (fun h2 hf => ?_)
  have hq := Option.some.inj hf
  subst hq
  exact G.vret rfl dX11_init_20
/-! X0_init -/
theorem dX0_init_0 : decode cX0_init 0 = .ok (.aload_n 0, 1) := by decide +kernel
theorem dX0_init_1 : decode cX0_init 1 = .ok (.invokespecial 3, 3) := by decide +kernel
theorem dX0_init_4 : decode cX0_init 4 = .ok (.aload_n 0, 1) := by decide +kernel
theorem dX0_init_5 : decode cX0_init 5 = .ok (.bipush 20, 2) := by decide +kernel
theorem dX0_init_7 : decode cX0_init 7 = .ok (.newarray .int, 2) := by decide +kernel
theorem dX0_init_9 : decode cX0_init 9 = .ok (.putfield 9, 3) := by decide +kernel
theorem dX0_init_12 : decode cX0_init 12 = .ok (.aload_n 0, 1) := by decide +kernel
theorem dX0_init_13 : decode cX0_init 13 = .ok (.bipush 20, 2) := by decide +kernel
theorem dX0_init_15 : decode cX0_init 15 = .ok (.newarray .int, 2) := by decide +kernel
theorem dX0_init_17 : decode cX0_init 17 = .ok (.putfield 15, 3) := by decide +kernel
theorem dX0_init_20 : decode cX0_init 20 = .ok (.return_, 1) := by decide +kernel
def f_X0_init (a0 : Nat) (h : AH) : Option (AH) := (pf (h ++ [.inl (0, 20, .inl (fun _ => 0))]) 0 a0 0 (.ref (List.length h))).bind fun h1 => (pf (h1 ++ [.inl (0, 20, .inl (fun _ => 0))]) 0 a0 1 (.ref (List.length h1))).bind fun h2 => some h2
set_option maxRecDepth 100000 in
set_option maxHeartbeats 4000000 in
theorem c_X0_init (X : SX) (d : Nat) (a0 : Nat) (h : AH) (h' : AH) (hf : f_X0_init a0 h = some h') : G X mX0_init (d + 1) 0 [(0, .ref a0)] [] h none h' := by
  unfold f_X0_init at hf
  refine G.aload_n dX0_init_0 rfl ?_
  refine G.oinit lkX0_3 (Nat.le_of_ble_eq_true rfl) dX0_init_1 ?_
  refine G.aload_n dX0_init_4 rfl ?_
  refine G.bipush (v := (20 : Int32)) dX0_init_5 (by decide) ?_
  refine G.newa (kd := 0) (N := 20) (a0 := (20, .inl (fun _ => 0))) ac_int (fun _ => rfl) ⟨fun _ _ _ => rfl, fun _ => rfl, rfl⟩ (by decide) (by decide) (by decide) dX0_init_7 ?_
  refine G.put flX0_9 (Or.inr ⟨rfl, rfl⟩) (fun _ _ => ⟨rfl, rfl⟩) dX0_init_9 hf (fun h1 hf => ?_)
  refine G.aload_n dX0_init_12 rfl ?_
  refine G.bipush (v := (20 : Int32)) dX0_init_13 (by decide) ?_
  refine G.newa (kd := 0) (N := 20) (a0 := (20, .inl (fun _ => 0))) ac_int (fun _ => rfl) ⟨fun _ _ _ => rfl, fun _ => rfl, rfl⟩ (by decide) (by decide) (by decide) dX0_init_15 ?_
  refine G.put flX0_15 (Or.inr ⟨rfl, rfl⟩) (fun _ _ => ⟨rfl, rfl⟩) dX0_init_17 hf (fun h2 hf => ?_)
  have hq := Option.some.inj hf
  subst hq
  exact G.vret rfl dX0_init_20
/-! X2_init -/
theorem dX2_init_0 : decode cX2_init 0 = .ok (.aload_n 0, 1) := by decide +kernel
theorem dX2_init_1 : decode cX2_init 1 = .ok (.invokespecial 1, 3) := by decide +kernel
theorem dX2_init_4 : decode cX2_init 4 = .ok (.aload_n 0, 1) := by decide +kernel
theorem dX2_init_5 : decode cX2_init 5 = .ok (.new 7, 3) := by decide +kernel
theorem dX2_init_8 : decode cX2_init 8 = .ok (.dup, 1) := by decide +kernel
theorem dX2_init_9 : decode cX2_init 9 = .ok (.invokespecial 9, 3) := by decide +kernel
theorem dX2_init_12 : decode cX2_init 12 = .ok (.putfield 10, 3) := by decide +kernel
theorem dX2_init_15 : decode cX2_init 15 = .ok (.return_, 1) := by decide +kernel
def f_X2_init (a0 : Nat) (h : AH) : Option (AH) := (f_X4_init (List.length h) (h ++ [.inr (4, [.null, .null, .null, .null, .null, .null, .null, .int 0, .int 0, .int 0, .int 0])])).bind fun h1 => (pf h1 2 a0 0 (.ref (List.length h))).bind fun h3 => some h3
set_option maxRecDepth 100000 in
set_option maxHeartbeats 4000000 in
theorem c_X2_init (X : SX) (d : Nat) (a0 : Nat) (h : AH) (h' : AH) (hf : f_X2_init a0 h = some h') : G X mX2_init (d + 2) 0 [(0, .ref a0)] [] h none h' := by
  unfold f_X2_init at hf
  refine G.aload_n dX2_init_0 rfl ?_
  refine G.oinit lkX2_1 (Nat.le_of_ble_eq_true rfl) dX2_init_1 ?_
  refine G.aload_n dX2_init_4 rfl ?_
  refine G.new (fs := [.null, .null, .null, .null, .null, .null, .null, .int 0, .int 0, .int 0, .int 0]) ciX4 clX2_7 ⟨rfl, by decide +kernel⟩ (fun _ _ => rfl) dX2_init_5 ?_
  refine G.dup dX2_init_8 rfl ?_
  obtain ⟨h1, e2, hf⟩ := Option.bind_eq_some_iff.mp hf
  refine G.callIv (M' := mX4_init) (As := []) (st := [.ref (List.length h), .ref a0]) okX4_init ⟨rfl, rfl⟩ viX4_init (Or.inr nkX2_9) rfl (Nat.le_of_ble_eq_true rfl) (Nat.le_of_ble_eq_true rfl) dX2_init_9 (c_X4_init X d _ _ _ e2) ?_
  refine G.put flX2_10 (Or.inr ⟨rfl, rfl⟩) (fun _ _ => ⟨rfl, rfl⟩) dX2_init_12 hf (fun h3 hf => ?_)
  have hq := Option.some.inj hf
  subst hq
  exact G.vret rfl dX2_init_15
/-! X12_init -/
theorem dX12_init_0 : decode cX12_init 0 = .ok (.aload_n 0, 1) := by decide +kernel
theorem dX12_init_1 : decode cX12_init 1 = .ok (.invokespecial 1, 3) := by decide +kernel
theorem dX12_init_4 : decode cX12_init 4 = .ok (.aload_n 0, 1) := by decide +kernel
theorem dX12_init_5 : decode cX12_init 5 = .ok (.new 7, 3) := by decide +kernel
theorem dX12_init_8 : decode cX12_init 8 = .ok (.dup, 1) := by decide +kernel
theorem dX12_init_9 : decode cX12_init 9 = .ok (.invokespecial 9, 3) := by decide +kernel
theorem dX12_init_12 : decode cX12_init 12 = .ok (.putfield 10, 3) := by decide +kernel
theorem dX12_init_15 : decode cX12_init 15 = .ok (.aload_n 0, 1) := by decide +kernel
theorem dX12_init_16 : decode cX12_init 16 = .ok (.new 16, 3) := by decide +kernel
theorem dX12_init_19 : decode cX12_init 19 = .ok (.dup, 1) := by decide +kernel
theorem dX12_init_20 : decode cX12_init 20 = .ok (.invokespecial 18, 3) := by decide +kernel
theorem dX12_init_23 : decode cX12_init 23 = .ok (.putfield 19, 3) := by decide +kernel
theorem dX12_init_26 : decode cX12_init 26 = .ok (.aload_n 0, 1) := by decide +kernel
theorem dX12_init_27 : decode cX12_init 27 = .ok (.new 23, 3) := by decide +kernel
theorem dX12_init_30 : decode cX12_init 30 = .ok (.dup, 1) := by decide +kernel
theorem dX12_init_31 : decode cX12_init 31 = .ok (.invokespecial 25, 3) := by decide +kernel
theorem dX12_init_34 : decode cX12_init 34 = .ok (.putfield 26, 3) := by decide +kernel
theorem dX12_init_37 : decode cX12_init 37 = .ok (.aload_n 0, 1) := by decide +kernel
theorem dX12_init_38 : decode cX12_init 38 = .ok (.new 30, 3) := by decide +kernel
theorem dX12_init_41 : decode cX12_init 41 = .ok (.dup, 1) := by decide +kernel
theorem dX12_init_42 : decode cX12_init 42 = .ok (.invokespecial 32, 3) := by decide +kernel
theorem dX12_init_45 : decode cX12_init 45 = .ok (.putfield 33, 3) := by decide +kernel
theorem dX12_init_48 : decode cX12_init 48 = .ok (.aload_n 0, 1) := by decide +kernel
theorem dX12_init_49 : decode cX12_init 49 = .ok (.new 37, 3) := by decide +kernel
theorem dX12_init_52 : decode cX12_init 52 = .ok (.dup, 1) := by decide +kernel
theorem dX12_init_53 : decode cX12_init 53 = .ok (.invokespecial 39, 3) := by decide +kernel
theorem dX12_init_56 : decode cX12_init 56 = .ok (.putfield 40, 3) := by decide +kernel
theorem dX12_init_59 : decode cX12_init 59 = .ok (.aload_n 0, 1) := by decide +kernel
theorem dX12_init_60 : decode cX12_init 60 = .ok (.new 44, 3) := by decide +kernel
theorem dX12_init_63 : decode cX12_init 63 = .ok (.dup, 1) := by decide +kernel
theorem dX12_init_64 : decode cX12_init 64 = .ok (.invokespecial 46, 3) := by decide +kernel
theorem dX12_init_67 : decode cX12_init 67 = .ok (.putfield 47, 3) := by decide +kernel
theorem dX12_init_70 : decode cX12_init 70 = .ok (.aload_n 0, 1) := by decide +kernel
theorem dX12_init_71 : decode cX12_init 71 = .ok (.new 51, 3) := by decide +kernel
theorem dX12_init_74 : decode cX12_init 74 = .ok (.dup, 1) := by decide +kernel
theorem dX12_init_75 : decode cX12_init 75 = .ok (.invokespecial 53, 3) := by decide +kernel
theorem dX12_init_78 : decode cX12_init 78 = .ok (.putfield 54, 3) := by decide +kernel
theorem dX12_init_81 : decode cX12_init 81 = .ok (.aload_n 0, 1) := by decide +kernel
theorem dX12_init_82 : decode cX12_init 82 = .ok (.iconst 2, 1) := by decide +kernel
theorem dX12_init_83 : decode cX12_init 83 = .ok (.anewarray 58, 3) := by decide +kernel
theorem dX12_init_86 : decode cX12_init 86 = .ok (.putfield 60, 3) := by decide +kernel
theorem dX12_init_89 : decode cX12_init 89 = .ok (.aload_n 0, 1) := by decide +kernel
theorem dX12_init_90 : decode cX12_init 90 = .ok (.new 64, 3) := by decide +kernel
theorem dX12_init_93 : decode cX12_init 93 = .ok (.dup, 1) := by decide +kernel
theorem dX12_init_94 : decode cX12_init 94 = .ok (.invokespecial 66, 3) := by decide +kernel
theorem dX12_init_97 : decode cX12_init 97 = .ok (.putfield 67, 3) := by decide +kernel
theorem dX12_init_100 : decode cX12_init 100 = .ok (.iconst 0, 1) := by decide +kernel
theorem dX12_init_101 : decode cX12_init 101 = .ok (.istore_n 1, 1) := by decide +kernel
theorem dX12_init_102 : decode cX12_init 102 = .ok (.iload_n 1, 1) := by decide +kernel
theorem dX12_init_103 : decode cX12_init 103 = .ok (.iconst 2, 1) := by decide +kernel
theorem dX12_init_104 : decode cX12_init 104 = .ok (.if_icmp .ge 22, 3) := by decide +kernel
theorem dX12_init_107 : decode cX12_init 107 = .ok (.aload_n 0, 1) := by decide +kernel
theorem dX12_init_108 : decode cX12_init 108 = .ok (.getfield 60, 3) := by decide +kernel
theorem dX12_init_111 : decode cX12_init 111 = .ok (.iload_n 1, 1) := by decide +kernel
theorem dX12_init_112 : decode cX12_init 112 = .ok (.new 58, 3) := by decide +kernel
theorem dX12_init_115 : decode cX12_init 115 = .ok (.dup, 1) := by decide +kernel
theorem dX12_init_116 : decode cX12_init 116 = .ok (.invokespecial 71, 3) := by decide +kernel
theorem dX12_init_119 : decode cX12_init 119 = .ok (.aastore, 1) := by decide +kernel
theorem dX12_init_120 : decode cX12_init 120 = .ok (.iinc 1 1, 3) := by decide +kernel
theorem dX12_init_123 : decode cX12_init 123 = .ok (.goto (-21), 3) := by decide +kernel
theorem dX12_init_126 : decode cX12_init 126 = .ok (.return_, 1) := by decide +kernel
def F_X12_init_L102 (rec : Nat → Int32 → AH → Option (AH)) (v0 : Nat) (v1 : Int32) (h : AH) : Option (AH) := if (2 : Int32) ≤ v1 then (some (h)) else ((gr h 11 v0 7).bind fun r2 => (f_X2_init (List.length h) (h ++ [.inr (2, [.null, .int 0, .int 0])])).bind fun h3 => (arw h3 5 2 r2 v1 (List.length h)).bind fun h5 => rec v0 (v1 + 1) h5)
def f_X12_init_L102 : Nat → Nat → Int32 → AH → Option (AH)
  | 0 => fun _ _ _ => none
  | n + 1 => F_X12_init_L102 (f_X12_init_L102 n)
set_option maxRecDepth 100000 in
set_option maxHeartbeats 4000000 in
theorem lx_X12_init_L102 (X : SX) (d : Nat) : ∀ n (rv : Option Int32) (h' : AH), ∀ (v0 : Nat) (v1 : Int32) (h : AH)  (h1 : AH), f_X12_init_L102 n v0 v1 h = some (h1) → G X mX12_init (d + 3) 126 [] [] h1 rv h' → G X mX12_init (d + 3) 102 [(0, .ref v0), (1, .int v1)] [] h rv h' := by
  intro n
  induction n with
  | zero =>
    intro rv h' v0 v1 h h1 hf hE
    cases hf
  | succ n ihf =>
    intro rv h' v0 v1 h h1 hf hE
    replace hf : F_X12_init_L102 (f_X12_init_L102 n) v0 v1 h = some (h1) := hf
    unfold F_X12_init_L102 at hf
    have ih := ihf rv h'
    refine G.iload_n dX12_init_102 rfl ?_
    refine G.iconst (v := (2 : Int32)) dX12_init_103 (by decide) ?_
    refine G.icmp_ge 126 dX12_init_104 (by decide) (fun c1 => ?_) (fun c1 => ?_)
    · rw [if_pos c1] at hf
      have w0 := Option.some.inj hf
      subst w0
      exact G.pick [] rfl hE
    · rw [if_neg c1] at hf
      refine G.aload_n dX12_init_107 rfl ?_
      refine G.getr flX12_60 dX12_init_108 hf (fun r2 hf => ?_)
      refine G.iload_n dX12_init_111 rfl ?_
      refine G.new (fs := [.null, .int 0, .int 0]) ciX2 clX12_58 ⟨rfl, by decide +kernel⟩ (fun _ _ => rfl) dX12_init_112 ?_
      refine G.dup dX12_init_115 rfl ?_
      obtain ⟨h3, e4, hf⟩ := Option.bind_eq_some_iff.mp hf
      refine G.callIv (M' := mX2_init) (As := []) (st := [.ref (List.length h), .int v1, .ref r2]) okX2_init ⟨rfl, rfl⟩ viX2_init (Or.inr nkX12_71) rfl (Nat.le_of_ble_eq_true rfl) (Nat.le_of_ble_eq_true rfl) dX12_init_116 (c_X2_init X d _ _ _ e4) ?_
      refine G.aast (Or.inr ⟨rfl, rfl⟩) rfl dX12_init_119 hf (fun h5 hf => ?_)
      refine G.iinc (v := (v1 + 1)) (lv' := [(1, .int (v1 + 1)), (0, .ref v0)]) dX12_init_120 rfl rfl (by decide) rfl ?_
      refine G.goto 102 dX12_init_123 (by decide) ?_
      exact G.pick [1, 0] rfl (ih v0 (v1 + 1) h5 _ hf hE)
theorem l_X12_init_L102 (X : SX) (d : Nat) (rv : Option Int32) (h' : AH) (n : Nat) : ∀ (v0 : Nat) (v1 : Int32) (h : AH)  (h1 : AH), f_X12_init_L102 n v0 v1 h = some (h1) → G X mX12_init (d + 3) 126 [] [] h1 rv h' → G X mX12_init (d + 3) 102 [(0, .ref v0), (1, .int v1)] [] h rv h' := lx_X12_init_L102 X d n rv h'
def f_X12_init (a0 : Nat) (h : AH) : Option (AH) := (f_X8_init (List.length h) (h ++ [.inr (7, [.null, .int 0, .int 0, .int 0, .int 0])])).bind fun h1 => (pf h1 11 a0 0 (.ref (List.length h))).bind fun h3 => (f_X3_init (List.length h3) (h3 ++ [.inr (3, [.null, .null])])).bind fun h4 => (pf h4 11 a0 1 (.ref (List.length h3))).bind fun h6 => (f_X7_init (List.length h6) (h6 ++ [.inr (6, [.null, .null, .int 0, .int 0])])).bind fun h7 => (pf h7 11 a0 2 (.ref (List.length h6))).bind fun h9 => (f_X9_init (List.length h9) (h9 ++ [.inr (8, [.null, .null, .null, .int 0, .int 0, .int 0])])).bind fun h10 => (pf h10 11 a0 3 (.ref (List.length h9))).bind fun h12 => (f_X6_init (List.length h12) (h12 ++ [.inr (5, [.null, .int 0, .int 0])])).bind fun h13 => (pf h13 11 a0 4 (.ref (List.length h12))).bind fun h15 => (f_X11_init (List.length h15) (h15 ++ [.inr (10, [.null, .null, .int 0])])).bind fun h16 => (pf h16 11 a0 5 (.ref (List.length h15))).bind fun h18 => (f_X0_init (List.length h18) (h18 ++ [.inr (0, [.null, .null, .int 0])])).bind fun h19 => (pf h19 11 a0 6 (.ref (List.length h18))).bind fun h21 => (pf (h21 ++ [.inl (5, 2, .inr (.inr (.inr (.inr (fun _ => none)))))]) 11 a0 7 (.ref (List.length h21))).bind fun h22 => (f_X10_init (List.length h22) (h22 ++ [.inr (9, [.null, .null, .null, .null, .null, .null, .null, .int 0, .int 0, .int 0, .int 0])])).bind fun h23 => (pf h23 11 a0 8 (.ref (List.length h22))).bind fun h25 => (f_X12_init_L102 1000000 a0 (0 : Int32) h25).bind fun h26 => some h26
set_option maxRecDepth 100000 in
set_option maxHeartbeats 4000000 in
theorem c_X12_init (X : SX) (d : Nat) (a0 : Nat) (h : AH) (h' : AH) (hf : f_X12_init a0 h = some h') : G X mX12_init (d + 3) 0 [(0, .ref a0)] [] h none h' := by
  unfold f_X12_init at hf
  refine G.aload_n dX12_init_0 rfl ?_
  refine G.oinit lkX12_1 (Nat.le_of_ble_eq_true rfl) dX12_init_1 ?_
  refine G.aload_n dX12_init_4 rfl ?_
  refine G.new (fs := [.null, .int 0, .int 0, .int 0, .int 0]) ciX8 clX12_7 ⟨rfl, by decide +kernel⟩ (fun _ _ => rfl) dX12_init_5 ?_
  refine G.dup dX12_init_8 rfl ?_
  obtain ⟨h1, e2, hf⟩ := Option.bind_eq_some_iff.mp hf
  refine G.callIv (M' := mX8_init) (As := []) (st := [.ref (List.length h), .ref a0]) okX8_init ⟨rfl, rfl⟩ viX8_init (Or.inr nkX12_9) rfl (Nat.le_of_ble_eq_true rfl) (Nat.le_of_ble_eq_true rfl) dX12_init_9 (c_X8_init X (d + 1) _ _ _ e2) ?_
  refine G.put flX12_10 (Or.inr ⟨rfl, rfl⟩) (fun _ _ => ⟨rfl, rfl⟩) dX12_init_12 hf (fun h3 hf => ?_)
  refine G.aload_n dX12_init_15 rfl ?_
  refine G.new (fs := [.null, .null]) ciX3 clX12_16 ⟨rfl, by decide +kernel⟩ (fun _ _ => rfl) dX12_init_16 ?_
  refine G.dup dX12_init_19 rfl ?_
  obtain ⟨h4, e5, hf⟩ := Option.bind_eq_some_iff.mp hf
  refine G.callIv (M' := mX3_init) (As := []) (st := [.ref (List.length h3), .ref a0]) okX3_init ⟨rfl, rfl⟩ viX3_init (Or.inr nkX12_18) rfl (Nat.le_of_ble_eq_true rfl) (Nat.le_of_ble_eq_true rfl) dX12_init_20 (c_X3_init X d _ _ _ e5) ?_
  refine G.put flX12_19 (Or.inr ⟨rfl, rfl⟩) (fun _ _ => ⟨rfl, rfl⟩) dX12_init_23 hf (fun h6 hf => ?_)
  refine G.aload_n dX12_init_26 rfl ?_
  refine G.new (fs := [.null, .null, .int 0, .int 0]) ciX7 clX12_23 ⟨rfl, by decide +kernel⟩ (fun _ _ => rfl) dX12_init_27 ?_
  refine G.dup dX12_init_30 rfl ?_
  obtain ⟨h7, e8, hf⟩ := Option.bind_eq_some_iff.mp hf
  refine G.callIv (M' := mX7_init) (As := []) (st := [.ref (List.length h6), .ref a0]) okX7_init ⟨rfl, rfl⟩ viX7_init (Or.inr nkX12_25) rfl (Nat.le_of_ble_eq_true rfl) (Nat.le_of_ble_eq_true rfl) dX12_init_31 (c_X7_init X (d + 1) _ _ _ e8) ?_
  refine G.put flX12_26 (Or.inr ⟨rfl, rfl⟩) (fun _ _ => ⟨rfl, rfl⟩) dX12_init_34 hf (fun h9 hf => ?_)
  refine G.aload_n dX12_init_37 rfl ?_
  refine G.new (fs := [.null, .null, .null, .int 0, .int 0, .int 0]) ciX9 clX12_30 ⟨rfl, by decide +kernel⟩ (fun _ _ => rfl) dX12_init_38 ?_
  refine G.dup dX12_init_41 rfl ?_
  obtain ⟨h10, e11, hf⟩ := Option.bind_eq_some_iff.mp hf
  refine G.callIv (M' := mX9_init) (As := []) (st := [.ref (List.length h9), .ref a0]) okX9_init ⟨rfl, rfl⟩ viX9_init (Or.inr nkX12_32) rfl (Nat.le_of_ble_eq_true rfl) (Nat.le_of_ble_eq_true rfl) dX12_init_42 (c_X9_init X (d + 1) _ _ _ e11) ?_
  refine G.put flX12_33 (Or.inr ⟨rfl, rfl⟩) (fun _ _ => ⟨rfl, rfl⟩) dX12_init_45 hf (fun h12 hf => ?_)
  refine G.aload_n dX12_init_48 rfl ?_
  refine G.new (fs := [.null, .int 0, .int 0]) ciX6 clX12_37 ⟨rfl, by decide +kernel⟩ (fun _ _ => rfl) dX12_init_49 ?_
  refine G.dup dX12_init_52 rfl ?_
  obtain ⟨h13, e14, hf⟩ := Option.bind_eq_some_iff.mp hf
  refine G.callIv (M' := mX6_init) (As := []) (st := [.ref (List.length h12), .ref a0]) okX6_init ⟨rfl, rfl⟩ viX6_init (Or.inl lkX12_39) rfl (Nat.le_of_ble_eq_true rfl) (Nat.le_of_ble_eq_true rfl) dX12_init_53 (c_X6_init X d _ _ _ e14) ?_
  refine G.put flX12_40 (Or.inr ⟨rfl, rfl⟩) (fun _ _ => ⟨rfl, rfl⟩) dX12_init_56 hf (fun h15 hf => ?_)
  refine G.aload_n dX12_init_59 rfl ?_
  refine G.new (fs := [.null, .null, .int 0]) ciX11 clX12_44 ⟨rfl, by decide +kernel⟩ (fun _ _ => rfl) dX12_init_60 ?_
  refine G.dup dX12_init_63 rfl ?_
  obtain ⟨h16, e17, hf⟩ := Option.bind_eq_some_iff.mp hf
  refine G.callIv (M' := mX11_init) (As := []) (st := [.ref (List.length h15), .ref a0]) okX11_init ⟨rfl, rfl⟩ viX11_init (Or.inr nkX12_46) rfl (Nat.le_of_ble_eq_true rfl) (Nat.le_of_ble_eq_true rfl) dX12_init_64 (c_X11_init X (d + 1) _ _ _ e17) ?_
  refine G.put flX12_47 (Or.inr ⟨rfl, rfl⟩) (fun _ _ => ⟨rfl, rfl⟩) dX12_init_67 hf (fun h18 hf => ?_)
  refine G.aload_n dX12_init_70 rfl ?_
  refine G.new (fs := [.null, .null, .int 0]) ciX0 clX12_51 ⟨rfl, by decide +kernel⟩ (fun _ _ => rfl) dX12_init_71 ?_
  refine G.dup dX12_init_74 rfl ?_
  obtain ⟨h19, e20, hf⟩ := Option.bind_eq_some_iff.mp hf
  refine G.callIv (M' := mX0_init) (As := []) (st := [.ref (List.length h18), .ref a0]) okX0_init ⟨rfl, rfl⟩ viX0_init (Or.inr nkX12_53) rfl (Nat.le_of_ble_eq_true rfl) (Nat.le_of_ble_eq_true rfl) dX12_init_75 (c_X0_init X (d + 1) _ _ _ e20) ?_
  refine G.put flX12_54 (Or.inr ⟨rfl, rfl⟩) (fun _ _ => ⟨rfl, rfl⟩) dX12_init_78 hf (fun h21 hf => ?_)
  refine G.aload_n dX12_init_81 rfl ?_
  refine G.iconst (v := (2 : Int32)) dX12_init_82 (by decide) ?_
  refine G.newq (kd := 5) (N := 2) clX12_58.1 (Or.inr ⟨rfl, rfl⟩) (by decide) (by decide) (by decide) dX12_init_83 ?_
  refine G.put flX12_60 (Or.inr ⟨rfl, rfl⟩) (fun _ _ => ⟨rfl, rfl⟩) dX12_init_86 hf (fun h22 hf => ?_)
  refine G.aload_n dX12_init_89 rfl ?_
  refine G.new (fs := [.null, .null, .null, .null, .null, .null, .null, .int 0, .int 0, .int 0, .int 0]) ciX10 clX12_64 ⟨rfl, by decide +kernel⟩ (fun _ _ => rfl) dX12_init_90 ?_
  refine G.dup dX12_init_93 rfl ?_
  obtain ⟨h23, e24, hf⟩ := Option.bind_eq_some_iff.mp hf
  refine G.callIv (M' := mX10_init) (As := []) (st := [.ref (List.length h22), .ref a0]) okX10_init ⟨rfl, rfl⟩ viX10_init (Or.inr nkX12_66) rfl (Nat.le_of_ble_eq_true rfl) (Nat.le_of_ble_eq_true rfl) dX12_init_94 (c_X10_init X (d + 1) _ _ _ e24) ?_
  refine G.put flX12_67 (Or.inl rfl) (fun _ _ => ⟨rfl, rfl⟩) dX12_init_97 hf (fun h25 hf => ?_)
  refine G.iconst (v := (0 : Int32)) dX12_init_100 (by decide) ?_
  refine G.istore_n (lv' := [(1, .int (0 : Int32)), (0, .ref a0)]) dX12_init_101 (by decide) rfl ?_
  obtain ⟨h26, e27, hf⟩ := Option.bind_eq_some_iff.mp hf
  refine G.pick [1, 0] rfl (l_X12_init_L102 X d _ _ 1000000 a0 (0 : Int32) h25 h26 e27 ?_)
  have hq := Option.some.inj hf
  subst hq
  exact G.vret rfl dX12_init_126
/-! X13_init -/
theorem dX13_init_0 : decode cX13_init 0 = .ok (.aload_n 0, 1) := by decide +kernel
theorem dX13_init_1 : decode cX13_init 1 = .ok (.invokespecial 1, 3) := by decide +kernel
theorem dX13_init_4 : decode cX13_init 4 = .ok (.aload_n 0, 1) := by decide +kernel
theorem dX13_init_5 : decode cX13_init 5 = .ok (.sipush 240, 3) := by decide +kernel
theorem dX13_init_8 : decode cX13_init 8 = .ok (.newarray .int, 2) := by decide +kernel
theorem dX13_init_10 : decode cX13_init 10 = .ok (.putfield 7, 3) := by decide +kernel
theorem dX13_init_13 : decode cX13_init 13 = .ok (.aload_n 0, 1) := by decide +kernel
theorem dX13_init_14 : decode cX13_init 14 = .ok (.iconst (-1), 1) := by decide +kernel
theorem dX13_init_15 : decode cX13_init 15 = .ok (.putfield 13, 3) := by decide +kernel
theorem dX13_init_18 : decode cX13_init 18 = .ok (.aload_n 0, 1) := by decide +kernel
theorem dX13_init_19 : decode cX13_init 19 = .ok (.bipush 6, 2) := by decide +kernel
theorem dX13_init_21 : decode cX13_init 21 = .ok (.newarray .int, 2) := by decide +kernel
theorem dX13_init_23 : decode cX13_init 23 = .ok (.putfield 17, 3) := by decide +kernel
theorem dX13_init_26 : decode cX13_init 26 = .ok (.aload_n 0, 1) := by decide +kernel
theorem dX13_init_27 : decode cX13_init 27 = .ok (.bipush 6, 2) := by decide +kernel
theorem dX13_init_29 : decode cX13_init 29 = .ok (.newarray .int, 2) := by decide +kernel
theorem dX13_init_31 : decode cX13_init 31 = .ok (.putfield 20, 3) := by decide +kernel
theorem dX13_init_34 : decode cX13_init 34 = .ok (.aload_n 0, 1) := by decide +kernel
theorem dX13_init_35 : decode cX13_init 35 = .ok (.bipush 6, 2) := by decide +kernel
theorem dX13_init_37 : decode cX13_init 37 = .ok (.newarray .int, 2) := by decide +kernel
theorem dX13_init_39 : decode cX13_init 39 = .ok (.putfield 23, 3) := by decide +kernel
theorem dX13_init_42 : decode cX13_init 42 = .ok (.aload_n 0, 1) := by decide +kernel
theorem dX13_init_43 : decode cX13_init 43 = .ok (.bipush 6, 2) := by decide +kernel
theorem dX13_init_45 : decode cX13_init 45 = .ok (.newarray .int, 2) := by decide +kernel
theorem dX13_init_47 : decode cX13_init 47 = .ok (.putfield 26, 3) := by decide +kernel
theorem dX13_init_50 : decode cX13_init 50 = .ok (.aload_n 0, 1) := by decide +kernel
theorem dX13_init_51 : decode cX13_init 51 = .ok (.bipush 51, 2) := by decide +kernel
theorem dX13_init_53 : decode cX13_init 53 = .ok (.newarray .int, 2) := by decide +kernel
theorem dX13_init_55 : decode cX13_init 55 = .ok (.putfield 29, 3) := by decide +kernel
theorem dX13_init_58 : decode cX13_init 58 = .ok (.aload_n 0, 1) := by decide +kernel
theorem dX13_init_59 : decode cX13_init 59 = .ok (.sipush 1530, 3) := by decide +kernel
theorem dX13_init_62 : decode cX13_init 62 = .ok (.newarray .int, 2) := by decide +kernel
theorem dX13_init_64 : decode cX13_init 64 = .ok (.putfield 32, 3) := by decide +kernel
theorem dX13_init_67 : decode cX13_init 67 = .ok (.aload_n 0, 1) := by decide +kernel
theorem dX13_init_68 : decode cX13_init 68 = .ok (.bipush 102, 2) := by decide +kernel
theorem dX13_init_70 : decode cX13_init 70 = .ok (.newarray .int, 2) := by decide +kernel
theorem dX13_init_72 : decode cX13_init 72 = .ok (.putfield 35, 3) := by decide +kernel
theorem dX13_init_75 : decode cX13_init 75 = .ok (.aload_n 0, 1) := by decide +kernel
theorem dX13_init_76 : decode cX13_init 76 = .ok (.iconst 2, 1) := by decide +kernel
theorem dX13_init_77 : decode cX13_init 77 = .ok (.newarray .long, 2) := by decide +kernel
theorem dX13_init_79 : decode cX13_init 79 = .ok (.putfield 38, 3) := by decide +kernel
theorem dX13_init_82 : decode cX13_init 82 = .ok (.aload_n 0, 1) := by decide +kernel
theorem dX13_init_83 : decode cX13_init 83 = .ok (.iconst 2, 1) := by decide +kernel
theorem dX13_init_84 : decode cX13_init 84 = .ok (.newarray .int, 2) := by decide +kernel
theorem dX13_init_86 : decode cX13_init 86 = .ok (.putfield 42, 3) := by decide +kernel
theorem dX13_init_89 : decode cX13_init 89 = .ok (.aload_n 0, 1) := by decide +kernel
theorem dX13_init_90 : decode cX13_init 90 = .ok (.bipush 12, 2) := by decide +kernel
theorem dX13_init_92 : decode cX13_init 92 = .ok (.newarray .int, 2) := by decide +kernel
theorem dX13_init_94 : decode cX13_init 94 = .ok (.putfield 45, 3) := by decide +kernel
theorem dX13_init_97 : decode cX13_init 97 = .ok (.aload_n 0, 1) := by decide +kernel
theorem dX13_init_98 : decode cX13_init 98 = .ok (.bipush 40, 2) := by decide +kernel
theorem dX13_init_100 : decode cX13_init 100 = .ok (.newarray .int, 2) := by decide +kernel
theorem dX13_init_102 : decode cX13_init 102 = .ok (.putfield 48, 3) := by decide +kernel
theorem dX13_init_105 : decode cX13_init 105 = .ok (.aload_n 0, 1) := by decide +kernel
theorem dX13_init_106 : decode cX13_init 106 = .ok (.bipush 48, 2) := by decide +kernel
theorem dX13_init_108 : decode cX13_init 108 = .ok (.newarray .int, 2) := by decide +kernel
theorem dX13_init_110 : decode cX13_init 110 = .ok (.putfield 51, 3) := by decide +kernel
theorem dX13_init_113 : decode cX13_init 113 = .ok (.aload_n 0, 1) := by decide +kernel
theorem dX13_init_114 : decode cX13_init 114 = .ok (.sipush 448, 3) := by decide +kernel
theorem dX13_init_117 : decode cX13_init 117 = .ok (.newarray .int, 2) := by decide +kernel
theorem dX13_init_119 : decode cX13_init 119 = .ok (.putfield 54, 3) := by decide +kernel
theorem dX13_init_122 : decode cX13_init 122 = .ok (.aload_n 0, 1) := by decide +kernel
theorem dX13_init_123 : decode cX13_init 123 = .ok (.bipush 7, 2) := by decide +kernel
theorem dX13_init_125 : decode cX13_init 125 = .ok (.newarray .int, 2) := by decide +kernel
theorem dX13_init_127 : decode cX13_init 127 = .ok (.putfield 57, 3) := by decide +kernel
theorem dX13_init_130 : decode cX13_init 130 = .ok (.aload_n 0, 1) := by decide +kernel
theorem dX13_init_131 : decode cX13_init 131 = .ok (.bipush 7, 2) := by decide +kernel
theorem dX13_init_133 : decode cX13_init 133 = .ok (.newarray .int, 2) := by decide +kernel
theorem dX13_init_135 : decode cX13_init 135 = .ok (.putfield 60, 3) := by decide +kernel
theorem dX13_init_138 : decode cX13_init 138 = .ok (.aload_n 0, 1) := by decide +kernel
theorem dX13_init_139 : decode cX13_init 139 = .ok (.bipush 7, 2) := by decide +kernel
theorem dX13_init_141 : decode cX13_init 141 = .ok (.newarray .int, 2) := by decide +kernel
theorem dX13_init_143 : decode cX13_init 143 = .ok (.putfield 63, 3) := by decide +kernel
theorem dX13_init_146 : decode cX13_init 146 = .ok (.aload_n 0, 1) := by decide +kernel
theorem dX13_init_147 : decode cX13_init 147 = .ok (.bipush 7, 2) := by decide +kernel
theorem dX13_init_149 : decode cX13_init 149 = .ok (.newarray .int, 2) := by decide +kernel
theorem dX13_init_151 : decode cX13_init 151 = .ok (.putfield 66, 3) := by decide +kernel
theorem dX13_init_154 : decode cX13_init 154 = .ok (.aload_n 0, 1) := by decide +kernel
theorem dX13_init_155 : decode cX13_init 155 = .ok (.bipush 7, 2) := by decide +kernel
theorem dX13_init_157 : decode cX13_init 157 = .ok (.newarray .int, 2) := by decide +kernel
theorem dX13_init_159 : decode cX13_init 159 = .ok (.putfield 69, 3) := by decide +kernel
theorem dX13_init_162 : decode cX13_init 162 = .ok (.aload_n 0, 1) := by decide +kernel
theorem dX13_init_163 : decode cX13_init 163 = .ok (.bipush 7, 2) := by decide +kernel
theorem dX13_init_165 : decode cX13_init 165 = .ok (.newarray .int, 2) := by decide +kernel
theorem dX13_init_167 : decode cX13_init 167 = .ok (.putfield 72, 3) := by decide +kernel
theorem dX13_init_170 : decode cX13_init 170 = .ok (.return_, 1) := by decide +kernel
def f_X13_init (a0 : Nat) (h : AH) : Option (AH) := (pf (h ++ [.inl (0, 240, .inl (fun _ => 0))]) 12 a0 0 (.ref (List.length h))).bind fun h1 => (pf h1 12 a0 2 (.int (-1 : Int32))).bind fun h2 => (pf (h2 ++ [.inl (0, 6, .inl (fun _ => 0))]) 12 a0 7 (.ref (List.length h2))).bind fun h3 => (pf (h3 ++ [.inl (0, 6, .inl (fun _ => 0))]) 12 a0 8 (.ref (List.length h3))).bind fun h4 => (pf (h4 ++ [.inl (0, 6, .inl (fun _ => 0))]) 12 a0 9 (.ref (List.length h4))).bind fun h5 => (pf (h5 ++ [.inl (0, 6, .inl (fun _ => 0))]) 12 a0 10 (.ref (List.length h5))).bind fun h6 => (pf (h6 ++ [.inl (0, 51, .inl (fun _ => 0))]) 12 a0 11 (.ref (List.length h6))).bind fun h7 => (pf (h7 ++ [.inl (0, 1530, .inl (fun _ => 0))]) 12 a0 12 (.ref (List.length h7))).bind fun h8 => (pf (h8 ++ [.inl (0, 102, .inl (fun _ => 0))]) 12 a0 15 (.ref (List.length h8))).bind fun h9 => (pf (h9 ++ [.inl (3, 2, .inr (.inl (fun _ => 0)))]) 12 a0 16 (.ref (List.length h9))).bind fun h10 => (pf (h10 ++ [.inl (0, 2, .inl (fun _ => 0))]) 12 a0 17 (.ref (List.length h10))).bind fun h11 => (pf (h11 ++ [.inl (0, 12, .inl (fun _ => 0))]) 12 a0 18 (.ref (List.length h11))).bind fun h12 => (pf (h12 ++ [.inl (0, 40, .inl (fun _ => 0))]) 12 a0 20 (.ref (List.length h12))).bind fun h13 => (pf (h13 ++ [.inl (0, 48, .inl (fun _ => 0))]) 12 a0 28 (.ref (List.length h13))).bind fun h14 => (pf (h14 ++ [.inl (0, 448, .inl (fun _ => 0))]) 12 a0 29 (.ref (List.length h14))).bind fun h15 => (pf (h15 ++ [.inl (0, 7, .inl (fun _ => 0))]) 12 a0 32 (.ref (List.length h15))).bind fun h16 => (pf (h16 ++ [.inl (0, 7, .inl (fun _ => 0))]) 12 a0 33 (.ref (List.length h16))).bind fun h17 => (pf (h17 ++ [.inl (0, 7, .inl (fun _ => 0))]) 12 a0 34 (.ref (List.length h17))).bind fun h18 => (pf (h18 ++ [.inl (0, 7, .inl (fun _ => 0))]) 12 a0 35 (.ref (List.length h18))).bind fun h19 => (pf (h19 ++ [.inl (0, 7, .inl (fun _ => 0))]) 12 a0 36 (.ref (List.length h19))).bind fun h20 => (pf (h20 ++ [.inl (0, 7, .inl (fun _ => 0))]) 12 a0 37 (.ref (List.length h20))).bind fun h21 => some h21
set_option maxRecDepth 100000 in
set_option maxHeartbeats 4000000 in
theorem c_X13_init (X : SX) (d : Nat) (a0 : Nat) (h : AH) (h' : AH) (hf : f_X13_init a0 h = some h') : G X mX13_init (d + 1) 0 [(0, .ref a0)] [] h none h' := by
  unfold f_X13_init at hf
  refine G.aload_n dX13_init_0 rfl ?_
  refine G.oinit lkX13_1 (Nat.le_of_ble_eq_true rfl) dX13_init_1 ?_
  refine G.aload_n dX13_init_4 rfl ?_
  refine G.sipush (v := (240 : Int32)) dX13_init_5 (by decide) ?_
  refine G.newa (kd := 0) (N := 240) (a0 := (240, .inl (fun _ => 0))) ac_int (fun _ => rfl) ⟨fun _ _ _ => rfl, fun _ => rfl, rfl⟩ (by decide) (by decide) (by decide) dX13_init_8 ?_
  refine G.put flX13_7 (Or.inr ⟨rfl, rfl⟩) (fun _ _ => ⟨rfl, rfl⟩) dX13_init_10 hf (fun h1 hf => ?_)
  refine G.aload_n dX13_init_13 rfl ?_
  refine G.iconst (v := (-1 : Int32)) dX13_init_14 (by decide) ?_
  refine G.put flX13_13 (Or.inl rfl) (fun _ _ => ⟨rfl, rfl⟩) dX13_init_15 hf (fun h2 hf => ?_)
  refine G.aload_n dX13_init_18 rfl ?_
  refine G.bipush (v := (6 : Int32)) dX13_init_19 (by decide) ?_
  refine G.newa (kd := 0) (N := 6) (a0 := (6, .inl (fun _ => 0))) ac_int (fun _ => rfl) ⟨fun _ _ _ => rfl, fun _ => rfl, rfl⟩ (by decide) (by decide) (by decide) dX13_init_21 ?_
  refine G.put flX13_17 (Or.inr ⟨rfl, rfl⟩) (fun _ _ => ⟨rfl, rfl⟩) dX13_init_23 hf (fun h3 hf => ?_)
  refine G.aload_n dX13_init_26 rfl ?_
  refine G.bipush (v := (6 : Int32)) dX13_init_27 (by decide) ?_
  refine G.newa (kd := 0) (N := 6) (a0 := (6, .inl (fun _ => 0))) ac_int (fun _ => rfl) ⟨fun _ _ _ => rfl, fun _ => rfl, rfl⟩ (by decide) (by decide) (by decide) dX13_init_29 ?_
  refine G.put flX13_20 (Or.inr ⟨rfl, rfl⟩) (fun _ _ => ⟨rfl, rfl⟩) dX13_init_31 hf (fun h4 hf => ?_)
  refine G.aload_n dX13_init_34 rfl ?_
  refine G.bipush (v := (6 : Int32)) dX13_init_35 (by decide) ?_
  refine G.newa (kd := 0) (N := 6) (a0 := (6, .inl (fun _ => 0))) ac_int (fun _ => rfl) ⟨fun _ _ _ => rfl, fun _ => rfl, rfl⟩ (by decide) (by decide) (by decide) dX13_init_37 ?_
  refine G.put flX13_23 (Or.inr ⟨rfl, rfl⟩) (fun _ _ => ⟨rfl, rfl⟩) dX13_init_39 hf (fun h5 hf => ?_)
  refine G.aload_n dX13_init_42 rfl ?_
  refine G.bipush (v := (6 : Int32)) dX13_init_43 (by decide) ?_
  refine G.newa (kd := 0) (N := 6) (a0 := (6, .inl (fun _ => 0))) ac_int (fun _ => rfl) ⟨fun _ _ _ => rfl, fun _ => rfl, rfl⟩ (by decide) (by decide) (by decide) dX13_init_45 ?_
  refine G.put flX13_26 (Or.inr ⟨rfl, rfl⟩) (fun _ _ => ⟨rfl, rfl⟩) dX13_init_47 hf (fun h6 hf => ?_)
  refine G.aload_n dX13_init_50 rfl ?_
  refine G.bipush (v := (51 : Int32)) dX13_init_51 (by decide) ?_
  refine G.newa (kd := 0) (N := 51) (a0 := (51, .inl (fun _ => 0))) ac_int (fun _ => rfl) ⟨fun _ _ _ => rfl, fun _ => rfl, rfl⟩ (by decide) (by decide) (by decide) dX13_init_53 ?_
  refine G.put flX13_29 (Or.inr ⟨rfl, rfl⟩) (fun _ _ => ⟨rfl, rfl⟩) dX13_init_55 hf (fun h7 hf => ?_)
  refine G.aload_n dX13_init_58 rfl ?_
  refine G.sipush (v := (1530 : Int32)) dX13_init_59 (by decide) ?_
  refine G.newa (kd := 0) (N := 1530) (a0 := (1530, .inl (fun _ => 0))) ac_int (fun _ => rfl) ⟨fun _ _ _ => rfl, fun _ => rfl, rfl⟩ (by decide) (by decide) (by decide) dX13_init_62 ?_
  refine G.put flX13_32 (Or.inr ⟨rfl, rfl⟩) (fun _ _ => ⟨rfl, rfl⟩) dX13_init_64 hf (fun h8 hf => ?_)
  refine G.aload_n dX13_init_67 rfl ?_
  refine G.bipush (v := (102 : Int32)) dX13_init_68 (by decide) ?_
  refine G.newa (kd := 0) (N := 102) (a0 := (102, .inl (fun _ => 0))) ac_int (fun _ => rfl) ⟨fun _ _ _ => rfl, fun _ => rfl, rfl⟩ (by decide) (by decide) (by decide) dX13_init_70 ?_
  refine G.put flX13_35 (Or.inr ⟨rfl, rfl⟩) (fun _ _ => ⟨rfl, rfl⟩) dX13_init_72 hf (fun h9 hf => ?_)
  refine G.aload_n dX13_init_75 rfl ?_
  refine G.iconst (v := (2 : Int32)) dX13_init_76 (by decide) ?_
  refine G.newa (kd := 3) (N := 2) (a0 := (2, .inr (.inl (fun _ => 0)))) ac_long (fun _ => rfl) ⟨fun _ _ _ => rfl, fun _ => rfl, rfl⟩ (by decide) (by decide) (by decide) dX13_init_77 ?_
  refine G.put flX13_38 (Or.inr ⟨rfl, rfl⟩) (fun _ _ => ⟨rfl, rfl⟩) dX13_init_79 hf (fun h10 hf => ?_)
  refine G.aload_n dX13_init_82 rfl ?_
  refine G.iconst (v := (2 : Int32)) dX13_init_83 (by decide) ?_
  refine G.newa (kd := 0) (N := 2) (a0 := (2, .inl (fun _ => 0))) ac_int (fun _ => rfl) ⟨fun _ _ _ => rfl, fun _ => rfl, rfl⟩ (by decide) (by decide) (by decide) dX13_init_84 ?_
  refine G.put flX13_42 (Or.inr ⟨rfl, rfl⟩) (fun _ _ => ⟨rfl, rfl⟩) dX13_init_86 hf (fun h11 hf => ?_)
  refine G.aload_n dX13_init_89 rfl ?_
  refine G.bipush (v := (12 : Int32)) dX13_init_90 (by decide) ?_
  refine G.newa (kd := 0) (N := 12) (a0 := (12, .inl (fun _ => 0))) ac_int (fun _ => rfl) ⟨fun _ _ _ => rfl, fun _ => rfl, rfl⟩ (by decide) (by decide) (by decide) dX13_init_92 ?_
  refine G.put flX13_45 (Or.inr ⟨rfl, rfl⟩) (fun _ _ => ⟨rfl, rfl⟩) dX13_init_94 hf (fun h12 hf => ?_)
  refine G.aload_n dX13_init_97 rfl ?_
  refine G.bipush (v := (40 : Int32)) dX13_init_98 (by decide) ?_
  refine G.newa (kd := 0) (N := 40) (a0 := (40, .inl (fun _ => 0))) ac_int (fun _ => rfl) ⟨fun _ _ _ => rfl, fun _ => rfl, rfl⟩ (by decide) (by decide) (by decide) dX13_init_100 ?_
  refine G.put flX13_48 (Or.inr ⟨rfl, rfl⟩) (fun _ _ => ⟨rfl, rfl⟩) dX13_init_102 hf (fun h13 hf => ?_)
  refine G.aload_n dX13_init_105 rfl ?_
  refine G.bipush (v := (48 : Int32)) dX13_init_106 (by decide) ?_
  refine G.newa (kd := 0) (N := 48) (a0 := (48, .inl (fun _ => 0))) ac_int (fun _ => rfl) ⟨fun _ _ _ => rfl, fun _ => rfl, rfl⟩ (by decide) (by decide) (by decide) dX13_init_108 ?_
  refine G.put flX13_51 (Or.inr ⟨rfl, rfl⟩) (fun _ _ => ⟨rfl, rfl⟩) dX13_init_110 hf (fun h14 hf => ?_)
  refine G.aload_n dX13_init_113 rfl ?_
  refine G.sipush (v := (448 : Int32)) dX13_init_114 (by decide) ?_
  refine G.newa (kd := 0) (N := 448) (a0 := (448, .inl (fun _ => 0))) ac_int (fun _ => rfl) ⟨fun _ _ _ => rfl, fun _ => rfl, rfl⟩ (by decide) (by decide) (by decide) dX13_init_117 ?_
  refine G.put flX13_54 (Or.inr ⟨rfl, rfl⟩) (fun _ _ => ⟨rfl, rfl⟩) dX13_init_119 hf (fun h15 hf => ?_)
  refine G.aload_n dX13_init_122 rfl ?_
  refine G.bipush (v := (7 : Int32)) dX13_init_123 (by decide) ?_
  refine G.newa (kd := 0) (N := 7) (a0 := (7, .inl (fun _ => 0))) ac_int (fun _ => rfl) ⟨fun _ _ _ => rfl, fun _ => rfl, rfl⟩ (by decide) (by decide) (by decide) dX13_init_125 ?_
  refine G.put flX13_57 (Or.inr ⟨rfl, rfl⟩) (fun _ _ => ⟨rfl, rfl⟩) dX13_init_127 hf (fun h16 hf => ?_)
  refine G.aload_n dX13_init_130 rfl ?_
  refine G.bipush (v := (7 : Int32)) dX13_init_131 (by decide) ?_
  refine G.newa (kd := 0) (N := 7) (a0 := (7, .inl (fun _ => 0))) ac_int (fun _ => rfl) ⟨fun _ _ _ => rfl, fun _ => rfl, rfl⟩ (by decide) (by decide) (by decide) dX13_init_133 ?_
  refine G.put flX13_60 (Or.inr ⟨rfl, rfl⟩) (fun _ _ => ⟨rfl, rfl⟩) dX13_init_135 hf (fun h17 hf => ?_)
  refine G.aload_n dX13_init_138 rfl ?_
  refine G.bipush (v := (7 : Int32)) dX13_init_139 (by decide) ?_
  refine G.newa (kd := 0) (N := 7) (a0 := (7, .inl (fun _ => 0))) ac_int (fun _ => rfl) ⟨fun _ _ _ => rfl, fun _ => rfl, rfl⟩ (by decide) (by decide) (by decide) dX13_init_141 ?_
  refine G.put flX13_63 (Or.inr ⟨rfl, rfl⟩) (fun _ _ => ⟨rfl, rfl⟩) dX13_init_143 hf (fun h18 hf => ?_)
  refine G.aload_n dX13_init_146 rfl ?_
  refine G.bipush (v := (7 : Int32)) dX13_init_147 (by decide) ?_
  refine G.newa (kd := 0) (N := 7) (a0 := (7, .inl (fun _ => 0))) ac_int (fun _ => rfl) ⟨fun _ _ _ => rfl, fun _ => rfl, rfl⟩ (by decide) (by decide) (by decide) dX13_init_149 ?_
  refine G.put flX13_66 (Or.inr ⟨rfl, rfl⟩) (fun _ _ => ⟨rfl, rfl⟩) dX13_init_151 hf (fun h19 hf => ?_)
  refine G.aload_n dX13_init_154 rfl ?_
  refine G.bipush (v := (7 : Int32)) dX13_init_155 (by decide) ?_
  refine G.newa (kd := 0) (N := 7) (a0 := (7, .inl (fun _ => 0))) ac_int (fun _ => rfl) ⟨fun _ _ _ => rfl, fun _ => rfl, rfl⟩ (by decide) (by decide) (by decide) dX13_init_157 ?_
  refine G.put flX13_69 (Or.inr ⟨rfl, rfl⟩) (fun _ _ => ⟨rfl, rfl⟩) dX13_init_159 hf (fun h20 hf => ?_)
  refine G.aload_n dX13_init_162 rfl ?_
  refine G.bipush (v := (7 : Int32)) dX13_init_163 (by decide) ?_
  refine G.newa (kd := 0) (N := 7) (a0 := (7, .inl (fun _ => 0))) ac_int (fun _ => rfl) ⟨fun _ _ _ => rfl, fun _ => rfl, rfl⟩ (by decide) (by decide) (by decide) dX13_init_165 ?_
  refine G.put flX13_72 (Or.inr ⟨rfl, rfl⟩) (fun _ _ => ⟨rfl, rfl⟩) dX13_init_167 hf (fun h21 hf => ?_)
  have hq := Option.some.inj hf
  subst hq
  exact G.vret rfl dX13_init_170
/-! X8_add -/
theorem dX8_add_0 : decode cX8_add 0 = .ok (.aload_n 0, 1) := by decide +kernel
theorem dX8_add_1 : decode cX8_add 1 = .ok (.getfield 19, 3) := by decide +kernel
theorem dX8_add_4 : decode cX8_add 4 = .ok (.sipush 240, 3) := by decide +kernel
theorem dX8_add_7 : decode cX8_add 7 = .ok (.if_icmp .ge 24, 3) := by decide +kernel
theorem dX8_add_10 : decode cX8_add 10 = .ok (.aload_n 0, 1) := by decide +kernel
theorem dX8_add_11 : decode cX8_add 11 = .ok (.getfield 9, 3) := by decide +kernel
theorem dX8_add_14 : decode cX8_add 14 = .ok (.aload_n 0, 1) := by decide +kernel
theorem dX8_add_15 : decode cX8_add 15 = .ok (.getfield 19, 3) := by decide +kernel
theorem dX8_add_18 : decode cX8_add 18 = .ok (.iload_n 1, 1) := by decide +kernel
theorem dX8_add_19 : decode cX8_add 19 = .ok (.i2c, 1) := by decide +kernel
theorem dX8_add_20 : decode cX8_add 20 = .ok (.castore, 1) := by decide +kernel
theorem dX8_add_21 : decode cX8_add 21 = .ok (.aload_n 0, 1) := by decide +kernel
theorem dX8_add_22 : decode cX8_add 22 = .ok (.dup, 1) := by decide +kernel
theorem dX8_add_23 : decode cX8_add 23 = .ok (.getfield 19, 3) := by decide +kernel
theorem dX8_add_26 : decode cX8_add 26 = .ok (.iconst 1, 1) := by decide +kernel
theorem dX8_add_27 : decode cX8_add 27 = .ok (.iadd, 1) := by decide +kernel
theorem dX8_add_28 : decode cX8_add 28 = .ok (.putfield 19, 3) := by decide +kernel
theorem dX8_add_31 : decode cX8_add 31 = .ok (.return_, 1) := by decide +kernel
def f_X8_add (a0 : Nat) (a1 : Int32) (h : AH) : Option (AH) := if isO h 7 a0 = true then ((gi h 7 a0 1).bind fun x1 => if (240 : Int32) ≤ x1 then (some h) else ((gr h 7 a0 0).bind fun r3 => (gi h 7 a0 1).bind fun x4 => (aw h 1 r3 x4 (vp_nar .char ((Int32.toUInt32 a1 % 65536).toInt32))).bind fun h5 => (gi h5 7 a0 1).bind fun x6 => (pf h5 7 a0 1 (.int (x6 + (1 : Int32)))).bind fun h7 => some h7)) else none
set_option maxRecDepth 100000 in
set_option maxHeartbeats 4000000 in
theorem c_X8_add (X : SX) (d : Nat) (a0 : Nat) (a1 : Int32) (h : AH) (h' : AH) (hf : f_X8_add a0 a1 h = some h') : isO h 7 a0 = true ∧ G X mX8_add d 0 [(0, .ref a0), (1, .int a1)] [] h none h' := by
  unfold f_X8_add at hf
  by_cases ho : isO h 7 a0 = true
  · rw [if_pos ho] at hf
    refine ⟨ho, ?_⟩
    refine G.aload_n dX8_add_0 rfl ?_
    refine G.geti flX8_19 dX8_add_1 hf (fun x1 hf => ?_)
    refine G.sipush (v := (240 : Int32)) dX8_add_4 (by decide) ?_
    refine G.icmp_ge 31 dX8_add_7 (by decide) (fun c2 => ?_) (fun c2 => ?_)
    · rw [if_pos c2] at hf
      have hq := Option.some.inj hf
      subst hq
      exact G.vret rfl dX8_add_31
    · rw [if_neg c2] at hf
      refine G.aload_n dX8_add_10 rfl ?_
      refine G.getr flX8_9 dX8_add_11 hf (fun r3 hf => ?_)
      refine G.aload_n dX8_add_14 rfl ?_
      refine G.geti flX8_19 dX8_add_15 hf (fun x4 hf => ?_)
      refine G.iload_n dX8_add_18 rfl ?_
      refine G.i2c dX8_add_19 ?_
      refine G.cast dX8_add_20 hf (fun h5 hf => ?_)
      refine G.aload_n dX8_add_21 rfl ?_
      refine G.dup dX8_add_22 rfl ?_
      refine G.geti flX8_19 dX8_add_23 hf (fun x6 hf => ?_)
      refine G.iconst (v := (1 : Int32)) dX8_add_26 (by decide) ?_
      refine G.iadd dX8_add_27 ?_
      refine G.put flX8_19 (Or.inl rfl) (fun _ _ => ⟨rfl, rfl⟩) dX8_add_28 hf (fun h7 hf => ?_)
      have hq := Option.some.inj hf
      subst hq
      exact G.vret rfl dX8_add_31
  · rw [if_neg ho] at hf
    cases hf
/-! X12_feed -/
theorem dX12_feed_0 : decode cX12_feed 0 = .ok (.iload_n 1, 1) := by decide +kernel
theorem dX12_feed_1 : decode cX12_feed 1 = .ok (.ifCond .lt 10, 3) := by decide +kernel
theorem dX12_feed_4 : decode cX12_feed 4 = .ok (.iload_n 1, 1) := by decide +kernel
theorem dX12_feed_5 : decode cX12_feed 5 = .ok (.sipush 255, 3) := by decide +kernel
theorem dX12_feed_8 : decode cX12_feed 8 = .ok (.if_icmp .le 6, 3) := by decide +kernel
theorem dX12_feed_11 : decode cX12_feed 11 = .ok (.ldc 72, 2) := by decide +kernel
theorem dX12_feed_13 : decode cX12_feed 13 = .ok (.ireturn, 1) := by decide +kernel
theorem dX12_feed_14 : decode cX12_feed 14 = .ok (.aload_n 0, 1) := by decide +kernel
theorem dX12_feed_15 : decode cX12_feed 15 = .ok (.getfield 10, 3) := by decide +kernel
theorem dX12_feed_18 : decode cX12_feed 18 = .ok (.getfield 73, 3) := by decide +kernel
theorem dX12_feed_21 : decode cX12_feed 21 = .ok (.sipush 240, 3) := by decide +kernel
theorem dX12_feed_24 : decode cX12_feed 24 = .ok (.if_icmp .lt 6, 3) := by decide +kernel
theorem dX12_feed_27 : decode cX12_feed 27 = .ok (.ldc 77, 2) := by decide +kernel
theorem dX12_feed_29 : decode cX12_feed 29 = .ok (.ireturn, 1) := by decide +kernel
theorem dX12_feed_30 : decode cX12_feed 30 = .ok (.aload_n 0, 1) := by decide +kernel
theorem dX12_feed_31 : decode cX12_feed 31 = .ok (.getfield 10, 3) := by decide +kernel
theorem dX12_feed_34 : decode cX12_feed 34 = .ok (.iload_n 1, 1) := by decide +kernel
theorem dX12_feed_35 : decode cX12_feed 35 = .ok (.invokevirtual 78, 3) := by decide +kernel
theorem dX12_feed_38 : decode cX12_feed 38 = .ok (.aload_n 0, 1) := by decide +kernel
theorem dX12_feed_39 : decode cX12_feed 39 = .ok (.getfield 10, 3) := by decide +kernel
theorem dX12_feed_42 : decode cX12_feed 42 = .ok (.getfield 73, 3) := by decide +kernel
theorem dX12_feed_45 : decode cX12_feed 45 = .ok (.ireturn, 1) := by decide +kernel
def f_X12_feed (a0 : Nat) (a1 : Int32) (h : AH) : Option (Int32 × AH) := if isO h 11 a0 = true then (if a1 < 0 then (some ((-1000000002 : Int32), h)) else (if a1 ≤ (255 : Int32) then ((gr h 11 a0 0).bind fun r3 => (gi h 7 r3 1).bind fun x4 => if x4 < (240 : Int32) then ((gr h 11 a0 0).bind fun r6 => (f_X8_add r6 a1 h).bind fun h7 => (gr h7 11 a0 0).bind fun r9 => (gi h7 7 r9 1).bind fun x10 => some (x10, h7)) else (some ((-1000000004 : Int32), h))) else (some ((-1000000002 : Int32), h)))) else none
set_option maxRecDepth 100000 in
set_option maxHeartbeats 4000000 in
theorem c_X12_feed (X : SX) (d : Nat) (a0 : Nat) (a1 : Int32) (h : AH) (rr : Int32) (h' : AH) (hf : f_X12_feed a0 a1 h = some (rr, h')) : isO h 11 a0 = true ∧ G X mX12_feed (d + 1) 0 [(0, .ref a0), (1, .int a1)] [] h (some rr) h' := by
  unfold f_X12_feed at hf
  by_cases ho : isO h 11 a0 = true
  · rw [if_pos ho] at hf
    refine ⟨ho, ?_⟩
    refine G.iload_n dX12_feed_0 rfl ?_
    refine G.if_lt 11 dX12_feed_1 (by decide) (fun c1 => ?_) (fun c1 => ?_)
    · rw [if_pos c1] at hf
      refine G.ldc ckX12_72 dX12_feed_11 ?_
      obtain ⟨hq1, hq2⟩ := Prod.mk.inj (Option.some.inj hf)
      subst hq1
      subst hq2
      exact G.iret rfl rfl dX12_feed_13
    · rw [if_neg c1] at hf
      refine G.iload_n dX12_feed_4 rfl ?_
      refine G.sipush (v := (255 : Int32)) dX12_feed_5 (by decide) ?_
      refine G.icmp_le 14 dX12_feed_8 (by decide) (fun c2 => ?_) (fun c2 => ?_)
      · rw [if_pos c2] at hf
        refine G.aload_n dX12_feed_14 rfl ?_
        refine G.getr flX12_10 dX12_feed_15 hf (fun r3 hf => ?_)
        refine G.geti flX12_73 dX12_feed_18 hf (fun x4 hf => ?_)
        refine G.sipush (v := (240 : Int32)) dX12_feed_21 (by decide) ?_
        refine G.icmp_lt 30 dX12_feed_24 (by decide) (fun c5 => ?_) (fun c5 => ?_)
        · rw [if_pos c5] at hf
          refine G.aload_n dX12_feed_30 rfl ?_
          refine G.getr flX12_10 dX12_feed_31 hf (fun r6 hf => ?_)
          refine G.iload_n dX12_feed_34 rfl ?_
          obtain ⟨h7, e8, hf⟩ := Option.bind_eq_some_iff.mp hf
          refine G.callVv (M' := mX8_add) (ci := 7) (As := [.int a1]) (st := []) okX8_add viX8_add lkX12_78 rfl rfl rfl (Nat.le_of_ble_eq_true rfl) (Nat.le_of_ble_eq_true rfl) dX12_feed_35 (c_X8_add X d _ _ _ _ e8).1 (c_X8_add X d _ _ _ _ e8).2 ?_
          refine G.aload_n dX12_feed_38 rfl ?_
          refine G.getr flX12_10 dX12_feed_39 hf (fun r9 hf => ?_)
          refine G.geti flX12_73 dX12_feed_42 hf (fun x10 hf => ?_)
          obtain ⟨hq1, hq2⟩ := Prod.mk.inj (Option.some.inj hf)
          subst hq1
          subst hq2
          exact G.iret rfl rfl dX12_feed_45
        · rw [if_neg c5] at hf
          refine G.ldc ckX12_77 dX12_feed_27 ?_
          obtain ⟨hq1, hq2⟩ := Prod.mk.inj (Option.some.inj hf)
          subst hq1
          subst hq2
          exact G.iret rfl rfl dX12_feed_29
      · rw [if_neg c2] at hf
        refine G.ldc ckX12_72 dX12_feed_11 ?_
        obtain ⟨hq1, hq2⟩ := Prod.mk.inj (Option.some.inj hf)
        subst hq1
        subst hq2
        exact G.iret rfl rfl dX12_feed_13
  · rw [if_neg ho] at hf
    cases hf
/-! X13_feed -/
theorem dX13_feed_0 : decode cX13_feed 0 = .ok (.iload_n 1, 1) := by decide +kernel
theorem dX13_feed_1 : decode cX13_feed 1 = .ok (.ifCond .lt 10, 3) := by decide +kernel
theorem dX13_feed_4 : decode cX13_feed 4 = .ok (.iload_n 1, 1) := by decide +kernel
theorem dX13_feed_5 : decode cX13_feed 5 = .ok (.sipush 255, 3) := by decide +kernel
theorem dX13_feed_8 : decode cX13_feed 8 = .ok (.if_icmp .le 6, 3) := by decide +kernel
theorem dX13_feed_11 : decode cX13_feed 11 = .ok (.ldc 81, 2) := by decide +kernel
theorem dX13_feed_13 : decode cX13_feed 13 = .ok (.ireturn, 1) := by decide +kernel
theorem dX13_feed_14 : decode cX13_feed 14 = .ok (.aload_n 0, 1) := by decide +kernel
theorem dX13_feed_15 : decode cX13_feed 15 = .ok (.getfield 82, 3) := by decide +kernel
theorem dX13_feed_18 : decode cX13_feed 18 = .ok (.sipush 240, 3) := by decide +kernel
theorem dX13_feed_21 : decode cX13_feed 21 = .ok (.if_icmp .ne 6, 3) := by decide +kernel
theorem dX13_feed_24 : decode cX13_feed 24 = .ok (.ldc 85, 2) := by decide +kernel
theorem dX13_feed_26 : decode cX13_feed 26 = .ok (.ireturn, 1) := by decide +kernel
theorem dX13_feed_27 : decode cX13_feed 27 = .ok (.aload_n 0, 1) := by decide +kernel
theorem dX13_feed_28 : decode cX13_feed 28 = .ok (.getfield 7, 3) := by decide +kernel
theorem dX13_feed_31 : decode cX13_feed 31 = .ok (.aload_n 0, 1) := by decide +kernel
theorem dX13_feed_32 : decode cX13_feed 32 = .ok (.getfield 82, 3) := by decide +kernel
theorem dX13_feed_35 : decode cX13_feed 35 = .ok (.iload_n 1, 1) := by decide +kernel
theorem dX13_feed_36 : decode cX13_feed 36 = .ok (.iastore, 1) := by decide +kernel
theorem dX13_feed_37 : decode cX13_feed 37 = .ok (.aload_n 0, 1) := by decide +kernel
theorem dX13_feed_38 : decode cX13_feed 38 = .ok (.dup, 1) := by decide +kernel
theorem dX13_feed_39 : decode cX13_feed 39 = .ok (.getfield 82, 3) := by decide +kernel
theorem dX13_feed_42 : decode cX13_feed 42 = .ok (.iconst 1, 1) := by decide +kernel
theorem dX13_feed_43 : decode cX13_feed 43 = .ok (.iadd, 1) := by decide +kernel
theorem dX13_feed_44 : decode cX13_feed 44 = .ok (.putfield 82, 3) := by decide +kernel
theorem dX13_feed_47 : decode cX13_feed 47 = .ok (.aload_n 0, 1) := by decide +kernel
theorem dX13_feed_48 : decode cX13_feed 48 = .ok (.getfield 82, 3) := by decide +kernel
theorem dX13_feed_51 : decode cX13_feed 51 = .ok (.ireturn, 1) := by decide +kernel
def f_X13_feed (a0 : Nat) (a1 : Int32) (h : AH) : Option (Int32 × AH) := if isO h 12 a0 = true then (if a1 < 0 then (some ((-1000000002 : Int32), h)) else (if a1 ≤ (255 : Int32) then ((gi h 12 a0 1).bind fun x3 => if x3 = (240 : Int32) then (some ((-1000000004 : Int32), h)) else ((gr h 12 a0 0).bind fun r5 => (gi h 12 a0 1).bind fun x6 => (aw h 0 r5 x6 a1).bind fun h7 => (gi h7 12 a0 1).bind fun x8 => (pf h7 12 a0 1 (.int (x8 + (1 : Int32)))).bind fun h9 => (gi h9 12 a0 1).bind fun x10 => some (x10, h9))) else (some ((-1000000002 : Int32), h)))) else none
set_option maxRecDepth 100000 in
set_option maxHeartbeats 4000000 in
theorem c_X13_feed (X : SX) (d : Nat) (a0 : Nat) (a1 : Int32) (h : AH) (rr : Int32) (h' : AH) (hf : f_X13_feed a0 a1 h = some (rr, h')) : isO h 12 a0 = true ∧ G X mX13_feed d 0 [(0, .ref a0), (1, .int a1)] [] h (some rr) h' := by
  unfold f_X13_feed at hf
  by_cases ho : isO h 12 a0 = true
  · rw [if_pos ho] at hf
    refine ⟨ho, ?_⟩
    refine G.iload_n dX13_feed_0 rfl ?_
    refine G.if_lt 11 dX13_feed_1 (by decide) (fun c1 => ?_) (fun c1 => ?_)
    · rw [if_pos c1] at hf
      refine G.ldc ckX13_81 dX13_feed_11 ?_
      obtain ⟨hq1, hq2⟩ := Prod.mk.inj (Option.some.inj hf)
      subst hq1
      subst hq2
      exact G.iret rfl rfl dX13_feed_13
    · rw [if_neg c1] at hf
      refine G.iload_n dX13_feed_4 rfl ?_
      refine G.sipush (v := (255 : Int32)) dX13_feed_5 (by decide) ?_
      refine G.icmp_le 14 dX13_feed_8 (by decide) (fun c2 => ?_) (fun c2 => ?_)
      · rw [if_pos c2] at hf
        refine G.aload_n dX13_feed_14 rfl ?_
        refine G.geti flX13_82 dX13_feed_15 hf (fun x3 hf => ?_)
        refine G.sipush (v := (240 : Int32)) dX13_feed_18 (by decide) ?_
        refine G.icmp_ne 27 dX13_feed_21 (by decide) (fun c4 => ?_) (fun c4 => ?_)
        · rw [if_neg c4] at hf
          refine G.aload_n dX13_feed_27 rfl ?_
          refine G.getr flX13_7 dX13_feed_28 hf (fun r5 hf => ?_)
          refine G.aload_n dX13_feed_31 rfl ?_
          refine G.geti flX13_82 dX13_feed_32 hf (fun x6 hf => ?_)
          refine G.iload_n dX13_feed_35 rfl ?_
          refine G.iast dX13_feed_36 hf (fun h7 hf => ?_)
          refine G.aload_n dX13_feed_37 rfl ?_
          refine G.dup dX13_feed_38 rfl ?_
          refine G.geti flX13_82 dX13_feed_39 hf (fun x8 hf => ?_)
          refine G.iconst (v := (1 : Int32)) dX13_feed_42 (by decide) ?_
          refine G.iadd dX13_feed_43 ?_
          refine G.put flX13_82 (Or.inl rfl) (fun _ _ => ⟨rfl, rfl⟩) dX13_feed_44 hf (fun h9 hf => ?_)
          refine G.aload_n dX13_feed_47 rfl ?_
          refine G.geti flX13_82 dX13_feed_48 hf (fun x10 hf => ?_)
          obtain ⟨hq1, hq2⟩ := Prod.mk.inj (Option.some.inj hf)
          subst hq1
          subst hq2
          exact G.iret rfl rfl dX13_feed_51
        · rw [if_pos c4] at hf
          refine G.ldc ckX13_85 dX13_feed_24 ?_
          obtain ⟨hq1, hq2⟩ := Prod.mk.inj (Option.some.inj hf)
          subst hq1
          subst hq2
          exact G.iret rfl rfl dX13_feed_26
      · rw [if_neg c2] at hf
        refine G.ldc ckX13_81 dX13_feed_11 ?_
        obtain ⟨hq1, hq2⟩ := Prod.mk.inj (Option.some.inj hf)
        subst hq1
        subst hq2
        exact G.iret rfl rfl dX13_feed_13
  · rw [if_neg ho] at hf
    cases hf
/-! X10_clear -/
theorem dX10_clear_0 : decode cX10_clear 0 = .ok (.aload_n 0, 1) := by decide +kernel
theorem dX10_clear_1 : decode cX10_clear 1 = .ok (.iconst 0, 1) := by decide +kernel
theorem dX10_clear_2 : decode cX10_clear 2 = .ok (.putfield 33, 3) := by decide +kernel
theorem dX10_clear_5 : decode cX10_clear 5 = .ok (.aload_n 0, 1) := by decide +kernel
theorem dX10_clear_6 : decode cX10_clear 6 = .ok (.iconst 0, 1) := by decide +kernel
theorem dX10_clear_7 : decode cX10_clear 7 = .ok (.putfield 37, 3) := by decide +kernel
theorem dX10_clear_10 : decode cX10_clear 10 = .ok (.aload_n 0, 1) := by decide +kernel
theorem dX10_clear_11 : decode cX10_clear 11 = .ok (.iconst 0, 1) := by decide +kernel
theorem dX10_clear_12 : decode cX10_clear 12 = .ok (.putfield 40, 3) := by decide +kernel
theorem dX10_clear_15 : decode cX10_clear 15 = .ok (.aload_n 0, 1) := by decide +kernel
theorem dX10_clear_16 : decode cX10_clear 16 = .ok (.iconst 0, 1) := by decide +kernel
theorem dX10_clear_17 : decode cX10_clear 17 = .ok (.putfield 43, 3) := by decide +kernel
theorem dX10_clear_20 : decode cX10_clear 20 = .ok (.return_, 1) := by decide +kernel
def f_X10_clear (a0 : Nat) (h : AH) : Option (AH) := if isO h 9 a0 = true then ((pf h 9 a0 7 (.int (0 : Int32))).bind fun h1 => (pf h1 9 a0 8 (.int (0 : Int32))).bind fun h2 => (pf h2 9 a0 9 (.int (0 : Int32))).bind fun h3 => (pf h3 9 a0 10 (.int (0 : Int32))).bind fun h4 => some h4) else none
set_option maxRecDepth 100000 in
set_option maxHeartbeats 4000000 in
theorem c_X10_clear (X : SX) (d : Nat) (a0 : Nat) (h : AH) (h' : AH) (hf : f_X10_clear a0 h = some h') : isO h 9 a0 = true ∧ G X mX10_clear d 0 [(0, .ref a0)] [] h none h' := by
  unfold f_X10_clear at hf
  by_cases ho : isO h 9 a0 = true
  · rw [if_pos ho] at hf
    refine ⟨ho, ?_⟩
    refine G.aload_n dX10_clear_0 rfl ?_
    refine G.iconst (v := (0 : Int32)) dX10_clear_1 (by decide) ?_
    refine G.put flX10_33 (Or.inl rfl) (fun _ _ => ⟨rfl, rfl⟩) dX10_clear_2 hf (fun h1 hf => ?_)
    refine G.aload_n dX10_clear_5 rfl ?_
    refine G.iconst (v := (0 : Int32)) dX10_clear_6 (by decide) ?_
    refine G.put flX10_37 (Or.inl rfl) (fun _ _ => ⟨rfl, rfl⟩) dX10_clear_7 hf (fun h2 hf => ?_)
    refine G.aload_n dX10_clear_10 rfl ?_
    refine G.iconst (v := (0 : Int32)) dX10_clear_11 (by decide) ?_
    refine G.put flX10_40 (Or.inl rfl) (fun _ _ => ⟨rfl, rfl⟩) dX10_clear_12 hf (fun h3 hf => ?_)
    refine G.aload_n dX10_clear_15 rfl ?_
    refine G.iconst (v := (0 : Int32)) dX10_clear_16 (by decide) ?_
    refine G.put flX10_43 (Or.inl rfl) (fun _ _ => ⟨rfl, rfl⟩) dX10_clear_17 hf (fun h4 hf => ?_)
    have hq := Option.some.inj hf
    subst hq
    exact G.vret rfl dX10_clear_20
  · rw [if_neg ho] at hf
    cases hf
/-! X8_skipBlanks -/
theorem dX8_skipBlanks_0 : decode cX8_skipBlanks 0 = .ok (.aload_n 0, 1) := by decide +kernel
theorem dX8_skipBlanks_1 : decode cX8_skipBlanks 1 = .ok (.getfield 27, 3) := by decide +kernel
theorem dX8_skipBlanks_4 : decode cX8_skipBlanks 4 = .ok (.aload_n 0, 1) := by decide +kernel
theorem dX8_skipBlanks_5 : decode cX8_skipBlanks 5 = .ok (.getfield 19, 3) := by decide +kernel
theorem dX8_skipBlanks_8 : decode cX8_skipBlanks 8 = .ok (.if_icmp .ge 30, 3) := by decide +kernel
theorem dX8_skipBlanks_11 : decode cX8_skipBlanks 11 = .ok (.aload_n 0, 1) := by decide +kernel
theorem dX8_skipBlanks_12 : decode cX8_skipBlanks 12 = .ok (.getfield 9, 3) := by decide +kernel
theorem dX8_skipBlanks_15 : decode cX8_skipBlanks 15 = .ok (.aload_n 0, 1) := by decide +kernel
theorem dX8_skipBlanks_16 : decode cX8_skipBlanks 16 = .ok (.getfield 27, 3) := by decide +kernel
theorem dX8_skipBlanks_19 : decode cX8_skipBlanks 19 = .ok (.caload, 1) := by decide +kernel
theorem dX8_skipBlanks_20 : decode cX8_skipBlanks 20 = .ok (.bipush 32, 2) := by decide +kernel
theorem dX8_skipBlanks_22 : decode cX8_skipBlanks 22 = .ok (.if_icmp .ne 16, 3) := by decide +kernel
theorem dX8_skipBlanks_25 : decode cX8_skipBlanks 25 = .ok (.aload_n 0, 1) := by decide +kernel
theorem dX8_skipBlanks_26 : decode cX8_skipBlanks 26 = .ok (.dup, 1) := by decide +kernel
theorem dX8_skipBlanks_27 : decode cX8_skipBlanks 27 = .ok (.getfield 27, 3) := by decide +kernel
theorem dX8_skipBlanks_30 : decode cX8_skipBlanks 30 = .ok (.iconst 1, 1) := by decide +kernel
theorem dX8_skipBlanks_31 : decode cX8_skipBlanks 31 = .ok (.iadd, 1) := by decide +kernel
theorem dX8_skipBlanks_32 : decode cX8_skipBlanks 32 = .ok (.putfield 27, 3) := by decide +kernel
theorem dX8_skipBlanks_35 : decode cX8_skipBlanks 35 = .ok (.goto (-35), 3) := by decide +kernel
theorem dX8_skipBlanks_38 : decode cX8_skipBlanks 38 = .ok (.return_, 1) := by decide +kernel
def F_X8_skipBlanks_L0 (rec : Nat → AH → Option (AH)) (v0 : Nat) (h : AH) : Option (AH) := (gi h 7 v0 4).bind fun x1 => (gi h 7 v0 1).bind fun x2 => if x2 ≤ x1 then (some (h)) else ((gr h 7 v0 0).bind fun r4 => (gi h 7 v0 4).bind fun x5 => (ai h 1 r4 x5).bind fun x6 => if x6 = (32 : Int32) then ((gi h 7 v0 4).bind fun x8 => (pf h 7 v0 4 (.int (x8 + (1 : Int32)))).bind fun h9 => rec v0 h9) else (some (h)))
def f_X8_skipBlanks_L0 : Nat → Nat → AH → Option (AH)
  | 0 => fun _ _ => none
  | n + 1 => F_X8_skipBlanks_L0 (f_X8_skipBlanks_L0 n)
set_option maxRecDepth 100000 in
set_option maxHeartbeats 4000000 in
theorem lx_X8_skipBlanks_L0 (X : SX) (d : Nat) : ∀ n (rv : Option Int32) (h' : AH), ∀ (v0 : Nat) (h : AH)  (h1 : AH), f_X8_skipBlanks_L0 n v0 h = some (h1) → G X mX8_skipBlanks d 38 [] [] h1 rv h' → G X mX8_skipBlanks d 0 [(0, .ref v0)] [] h rv h' := by
  intro n
  induction n with
  | zero =>
    intro rv h' v0 h h1 hf hE
    cases hf
  | succ n ihf =>
    intro rv h' v0 h h1 hf hE
    replace hf : F_X8_skipBlanks_L0 (f_X8_skipBlanks_L0 n) v0 h = some (h1) := hf
    unfold F_X8_skipBlanks_L0 at hf
    have ih := ihf rv h'
    refine G.aload_n dX8_skipBlanks_0 rfl ?_
    refine G.geti flX8_27 dX8_skipBlanks_1 hf (fun x1 hf => ?_)
    refine G.aload_n dX8_skipBlanks_4 rfl ?_
    refine G.geti flX8_19 dX8_skipBlanks_5 hf (fun x2 hf => ?_)
    refine G.icmp_ge 38 dX8_skipBlanks_8 (by decide) (fun c3 => ?_) (fun c3 => ?_)
    · rw [if_pos c3] at hf
      have w0 := Option.some.inj hf
      subst w0
      exact G.pick [] rfl hE
    · rw [if_neg c3] at hf
      refine G.aload_n dX8_skipBlanks_11 rfl ?_
      refine G.getr flX8_9 dX8_skipBlanks_12 hf (fun r4 hf => ?_)
      refine G.aload_n dX8_skipBlanks_15 rfl ?_
      refine G.geti flX8_27 dX8_skipBlanks_16 hf (fun x5 hf => ?_)
      refine G.cald dX8_skipBlanks_19 hf (fun x6 hf => ?_)
      refine G.bipush (v := (32 : Int32)) dX8_skipBlanks_20 (by decide) ?_
      refine G.icmp_ne 38 dX8_skipBlanks_22 (by decide) (fun c7 => ?_) (fun c7 => ?_)
      · rw [if_neg c7] at hf
        have w0 := Option.some.inj hf
        subst w0
        exact G.pick [] rfl hE
      · rw [if_pos c7] at hf
        refine G.aload_n dX8_skipBlanks_25 rfl ?_
        refine G.dup dX8_skipBlanks_26 rfl ?_
        refine G.geti flX8_27 dX8_skipBlanks_27 hf (fun x8 hf => ?_)
        refine G.iconst (v := (1 : Int32)) dX8_skipBlanks_30 (by decide) ?_
        refine G.iadd dX8_skipBlanks_31 ?_
        refine G.put flX8_27 (Or.inl rfl) (fun _ _ => ⟨rfl, rfl⟩) dX8_skipBlanks_32 hf (fun h9 hf => ?_)
        refine G.goto 0 dX8_skipBlanks_35 (by decide) ?_
        exact G.pick [0] rfl (ih v0 h9 _ hf hE)
theorem l_X8_skipBlanks_L0 (X : SX) (d : Nat) (rv : Option Int32) (h' : AH) (n : Nat) : ∀ (v0 : Nat) (h : AH)  (h1 : AH), f_X8_skipBlanks_L0 n v0 h = some (h1) → G X mX8_skipBlanks d 38 [] [] h1 rv h' → G X mX8_skipBlanks d 0 [(0, .ref v0)] [] h rv h' := lx_X8_skipBlanks_L0 X d n rv h'
def f_X8_skipBlanks (a0 : Nat) (h : AH) : Option (AH) := if isO h 7 a0 = true then ((f_X8_skipBlanks_L0 1000000 a0 h).bind fun h1 => some h1) else none
set_option maxRecDepth 100000 in
set_option maxHeartbeats 4000000 in
theorem c_X8_skipBlanks (X : SX) (d : Nat) (a0 : Nat) (h : AH) (h' : AH) (hf : f_X8_skipBlanks a0 h = some h') : isO h 7 a0 = true ∧ G X mX8_skipBlanks d 0 [(0, .ref a0)] [] h none h' := by
  unfold f_X8_skipBlanks at hf
  by_cases ho : isO h 7 a0 = true
  · rw [if_pos ho] at hf
    refine ⟨ho, ?_⟩
    obtain ⟨h1, e2, hf⟩ := Option.bind_eq_some_iff.mp hf
    refine G.pick [0] rfl (l_X8_skipBlanks_L0 X d _ _ 1000000 a0 h h1 e2 ?_)
    have hq := Option.some.inj hf
    subst hq
    exact G.vret rfl dX8_skipBlanks_38
  · rw [if_neg ho] at hf
    cases hf
/-! X8_blame -/
theorem dX8_blame_0 : decode cX8_blame 0 = .ok (.aload_n 0, 1) := by decide +kernel
theorem dX8_blame_1 : decode cX8_blame 1 = .ok (.getfield 30, 3) := by decide +kernel
theorem dX8_blame_4 : decode cX8_blame 4 = .ok (.ifCond .ne 13, 3) := by decide +kernel
theorem dX8_blame_7 : decode cX8_blame 7 = .ok (.aload_n 0, 1) := by decide +kernel
theorem dX8_blame_8 : decode cX8_blame 8 = .ok (.iload_n 1, 1) := by decide +kernel
theorem dX8_blame_9 : decode cX8_blame 9 = .ok (.putfield 30, 3) := by decide +kernel
theorem dX8_blame_12 : decode cX8_blame 12 = .ok (.aload_n 0, 1) := by decide +kernel
theorem dX8_blame_13 : decode cX8_blame 13 = .ok (.iload_n 2, 1) := by decide +kernel
theorem dX8_blame_14 : decode cX8_blame 14 = .ok (.putfield 15, 3) := by decide +kernel
theorem dX8_blame_17 : decode cX8_blame 17 = .ok (.return_, 1) := by decide +kernel
def f_X8_blame (a0 : Nat) (a1 : Int32) (a2 : Int32) (h : AH) : Option (AH) := if isO h 7 a0 = true then ((gi h 7 a0 3).bind fun x1 => if x1 = 0 then ((pf h 7 a0 3 (.int a1)).bind fun h3 => (pf h3 7 a0 2 (.int a2)).bind fun h4 => some h4) else (some h)) else none
set_option maxRecDepth 100000 in
set_option maxHeartbeats 4000000 in
theorem c_X8_blame (X : SX) (d : Nat) (a0 : Nat) (a1 : Int32) (a2 : Int32) (h : AH) (h' : AH) (hf : f_X8_blame a0 a1 a2 h = some h') : isO h 7 a0 = true ∧ G X mX8_blame d 0 [(0, .ref a0), (1, .int a1), (2, .int a2)] [] h none h' := by
  unfold f_X8_blame at hf
  by_cases ho : isO h 7 a0 = true
  · rw [if_pos ho] at hf
    refine ⟨ho, ?_⟩
    refine G.aload_n dX8_blame_0 rfl ?_
    refine G.geti flX8_30 dX8_blame_1 hf (fun x1 hf => ?_)
    refine G.if_ne 17 dX8_blame_4 (by decide) (fun c2 => ?_) (fun c2 => ?_)
    · rw [if_neg c2] at hf
      have hq := Option.some.inj hf
      subst hq
      exact G.vret rfl dX8_blame_17
    · rw [if_pos c2] at hf
      refine G.aload_n dX8_blame_7 rfl ?_
      refine G.iload_n dX8_blame_8 rfl ?_
      refine G.put flX8_30 (Or.inl rfl) (fun _ _ => ⟨rfl, rfl⟩) dX8_blame_9 hf (fun h3 hf => ?_)
      refine G.aload_n dX8_blame_12 rfl ?_
      refine G.iload_n dX8_blame_13 rfl ?_
      refine G.put flX8_15 (Or.inl rfl) (fun _ _ => ⟨rfl, rfl⟩) dX8_blame_14 hf (fun h4 hf => ?_)
      have hq := Option.some.inj hf
      subst hq
      exact G.vret rfl dX8_blame_17
  · rw [if_neg ho] at hf
    cases hf
/-! X8_isFigure -/
theorem dX8_isFigure_0 : decode cX8_isFigure 0 = .ok (.iload_n 0, 1) := by decide +kernel
theorem dX8_isFigure_1 : decode cX8_isFigure 1 = .ok (.bipush 48, 2) := by decide +kernel
theorem dX8_isFigure_3 : decode cX8_isFigure 3 = .ok (.if_icmp .lt 13, 3) := by decide +kernel
theorem dX8_isFigure_6 : decode cX8_isFigure 6 = .ok (.iload_n 0, 1) := by decide +kernel
theorem dX8_isFigure_7 : decode cX8_isFigure 7 = .ok (.bipush 57, 2) := by decide +kernel
theorem dX8_isFigure_9 : decode cX8_isFigure 9 = .ok (.if_icmp .gt 7, 3) := by decide +kernel
theorem dX8_isFigure_12 : decode cX8_isFigure 12 = .ok (.iconst 1, 1) := by decide +kernel
theorem dX8_isFigure_13 : decode cX8_isFigure 13 = .ok (.goto 4, 3) := by decide +kernel
theorem dX8_isFigure_16 : decode cX8_isFigure 16 = .ok (.iconst 0, 1) := by decide +kernel
theorem dX8_isFigure_17 : decode cX8_isFigure 17 = .ok (.ireturn, 1) := by decide +kernel
def f_X8_isFigure (a0 : Int32) (h : AH) : Option (Int32 × AH) := if a0 < (48 : Int32) then (some ((0 : Int32), h)) else (if (57 : Int32) < a0 then (some ((0 : Int32), h)) else (some ((1 : Int32), h)))
set_option maxRecDepth 100000 in
set_option maxHeartbeats 4000000 in
theorem c_X8_isFigure (X : SX) (d : Nat) (a0 : Int32) (h : AH) (rr : Int32) (h' : AH) (hf : f_X8_isFigure a0 h = some (rr, h')) : G X mX8_isFigure d 0 [(0, .int a0)] [] h (some rr) h' := by
  unfold f_X8_isFigure at hf
  refine G.iload_n dX8_isFigure_0 rfl ?_
  refine G.bipush (v := (48 : Int32)) dX8_isFigure_1 (by decide) ?_
  refine G.icmp_lt 16 dX8_isFigure_3 (by decide) (fun c1 => ?_) (fun c1 => ?_)
  · rw [if_pos c1] at hf
    refine G.iconst (v := (0 : Int32)) dX8_isFigure_16 (by decide) ?_
    obtain ⟨hq1, hq2⟩ := Prod.mk.inj (Option.some.inj hf)
    subst hq1
    subst hq2
    exact G.iret rfl (by decide) dX8_isFigure_17
  · rw [if_neg c1] at hf
    refine G.iload_n dX8_isFigure_6 rfl ?_
    refine G.bipush (v := (57 : Int32)) dX8_isFigure_7 (by decide) ?_
    refine G.icmp_gt 16 dX8_isFigure_9 (by decide) (fun c2 => ?_) (fun c2 => ?_)
    · rw [if_pos c2] at hf
      refine G.iconst (v := (0 : Int32)) dX8_isFigure_16 (by decide) ?_
      obtain ⟨hq1, hq2⟩ := Prod.mk.inj (Option.some.inj hf)
      subst hq1
      subst hq2
      exact G.iret rfl (by decide) dX8_isFigure_17
    · rw [if_neg c2] at hf
      refine G.iconst (v := (1 : Int32)) dX8_isFigure_12 (by decide) ?_
      refine G.goto 17 dX8_isFigure_13 (by decide) ?_
      obtain ⟨hq1, hq2⟩ := Prod.mk.inj (Option.some.inj hf)
      subst hq1
      subst hq2
      exact G.iret rfl (by decide) dX8_isFigure_17
/-! X8_readNumber -/
theorem dX8_readNumber_0 : decode cX8_readNumber 0 = .ok (.aload_n 0, 1) := by decide +kernel
theorem dX8_readNumber_1 : decode cX8_readNumber 1 = .ok (.invokevirtual 33, 3) := by decide +kernel
theorem dX8_readNumber_4 : decode cX8_readNumber 4 = .ok (.aload_n 0, 1) := by decide +kernel
theorem dX8_readNumber_5 : decode cX8_readNumber 5 = .ok (.getfield 27, 3) := by decide +kernel
theorem dX8_readNumber_8 : decode cX8_readNumber 8 = .ok (.istore_n 3, 1) := by decide +kernel
theorem dX8_readNumber_9 : decode cX8_readNumber 9 = .ok (.iconst 0, 1) := by decide +kernel
theorem dX8_readNumber_10 : decode cX8_readNumber 10 = .ok (.istore 4, 2) := by decide +kernel
theorem dX8_readNumber_12 : decode cX8_readNumber 12 = .ok (.aload_n 0, 1) := by decide +kernel
theorem dX8_readNumber_13 : decode cX8_readNumber 13 = .ok (.getfield 27, 3) := by decide +kernel
theorem dX8_readNumber_16 : decode cX8_readNumber 16 = .ok (.aload_n 0, 1) := by decide +kernel
theorem dX8_readNumber_17 : decode cX8_readNumber 17 = .ok (.getfield 19, 3) := by decide +kernel
theorem dX8_readNumber_20 : decode cX8_readNumber 20 = .ok (.if_icmp .ge 61, 3) := by decide +kernel
theorem dX8_readNumber_23 : decode cX8_readNumber 23 = .ok (.aload_n 0, 1) := by decide +kernel
theorem dX8_readNumber_24 : decode cX8_readNumber 24 = .ok (.getfield 9, 3) := by decide +kernel
theorem dX8_readNumber_27 : decode cX8_readNumber 27 = .ok (.aload_n 0, 1) := by decide +kernel
theorem dX8_readNumber_28 : decode cX8_readNumber 28 = .ok (.getfield 27, 3) := by decide +kernel
theorem dX8_readNumber_31 : decode cX8_readNumber 31 = .ok (.caload, 1) := by decide +kernel
theorem dX8_readNumber_32 : decode cX8_readNumber 32 = .ok (.invokestatic 95, 3) := by decide +kernel
theorem dX8_readNumber_35 : decode cX8_readNumber 35 = .ok (.ifCond .eq 46, 3) := by decide +kernel
theorem dX8_readNumber_38 : decode cX8_readNumber 38 = .ok (.aload_n 0, 1) := by decide +kernel
theorem dX8_readNumber_39 : decode cX8_readNumber 39 = .ok (.getfield 27, 3) := by decide +kernel
theorem dX8_readNumber_42 : decode cX8_readNumber 42 = .ok (.iload_n 3, 1) := by decide +kernel
theorem dX8_readNumber_43 : decode cX8_readNumber 43 = .ok (.isub, 1) := by decide +kernel
theorem dX8_readNumber_44 : decode cX8_readNumber 44 = .ok (.iconst 3, 1) := by decide +kernel
theorem dX8_readNumber_45 : decode cX8_readNumber 45 = .ok (.if_icmp .ge 23, 3) := by decide +kernel
theorem dX8_readNumber_48 : decode cX8_readNumber 48 = .ok (.iload 4, 2) := by decide +kernel
theorem dX8_readNumber_50 : decode cX8_readNumber 50 = .ok (.bipush 10, 2) := by decide +kernel
theorem dX8_readNumber_52 : decode cX8_readNumber 52 = .ok (.imul, 1) := by decide +kernel
theorem dX8_readNumber_53 : decode cX8_readNumber 53 = .ok (.aload_n 0, 1) := by decide +kernel
theorem dX8_readNumber_54 : decode cX8_readNumber 54 = .ok (.getfield 9, 3) := by decide +kernel
theorem dX8_readNumber_57 : decode cX8_readNumber 57 = .ok (.aload_n 0, 1) := by decide +kernel
theorem dX8_readNumber_58 : decode cX8_readNumber 58 = .ok (.getfield 27, 3) := by decide +kernel
theorem dX8_readNumber_61 : decode cX8_readNumber 61 = .ok (.caload, 1) := by decide +kernel
theorem dX8_readNumber_62 : decode cX8_readNumber 62 = .ok (.bipush 48, 2) := by decide +kernel
theorem dX8_readNumber_64 : decode cX8_readNumber 64 = .ok (.isub, 1) := by decide +kernel
theorem dX8_readNumber_65 : decode cX8_readNumber 65 = .ok (.iadd, 1) := by decide +kernel
theorem dX8_readNumber_66 : decode cX8_readNumber 66 = .ok (.istore 4, 2) := by decide +kernel
theorem dX8_readNumber_68 : decode cX8_readNumber 68 = .ok (.aload_n 0, 1) := by decide +kernel
theorem dX8_readNumber_69 : decode cX8_readNumber 69 = .ok (.dup, 1) := by decide +kernel
theorem dX8_readNumber_70 : decode cX8_readNumber 70 = .ok (.getfield 27, 3) := by decide +kernel
theorem dX8_readNumber_73 : decode cX8_readNumber 73 = .ok (.iconst 1, 1) := by decide +kernel
theorem dX8_readNumber_74 : decode cX8_readNumber 74 = .ok (.iadd, 1) := by decide +kernel
theorem dX8_readNumber_75 : decode cX8_readNumber 75 = .ok (.putfield 27, 3) := by decide +kernel
theorem dX8_readNumber_78 : decode cX8_readNumber 78 = .ok (.goto (-66), 3) := by decide +kernel
theorem dX8_readNumber_81 : decode cX8_readNumber 81 = .ok (.aload_n 0, 1) := by decide +kernel
theorem dX8_readNumber_82 : decode cX8_readNumber 82 = .ok (.getfield 27, 3) := by decide +kernel
theorem dX8_readNumber_85 : decode cX8_readNumber 85 = .ok (.iload_n 3, 1) := by decide +kernel
theorem dX8_readNumber_86 : decode cX8_readNumber 86 = .ok (.if_icmp .ne 11, 3) := by decide +kernel
theorem dX8_readNumber_89 : decode cX8_readNumber 89 = .ok (.aload_n 0, 1) := by decide +kernel
theorem dX8_readNumber_90 : decode cX8_readNumber 90 = .ok (.iconst 1, 1) := by decide +kernel
theorem dX8_readNumber_91 : decode cX8_readNumber 91 = .ok (.iload_n 3, 1) := by decide +kernel
theorem dX8_readNumber_92 : decode cX8_readNumber 92 = .ok (.invokevirtual 53, 3) := by decide +kernel
theorem dX8_readNumber_95 : decode cX8_readNumber 95 = .ok (.iconst 0, 1) := by decide +kernel
theorem dX8_readNumber_96 : decode cX8_readNumber 96 = .ok (.ireturn, 1) := by decide +kernel
theorem dX8_readNumber_97 : decode cX8_readNumber 97 = .ok (.aload_n 0, 1) := by decide +kernel
theorem dX8_readNumber_98 : decode cX8_readNumber 98 = .ok (.getfield 27, 3) := by decide +kernel
theorem dX8_readNumber_101 : decode cX8_readNumber 101 = .ok (.iload_n 3, 1) := by decide +kernel
theorem dX8_readNumber_102 : decode cX8_readNumber 102 = .ok (.isub, 1) := by decide +kernel
theorem dX8_readNumber_103 : decode cX8_readNumber 103 = .ok (.iconst 3, 1) := by decide +kernel
theorem dX8_readNumber_104 : decode cX8_readNumber 104 = .ok (.if_icmp .gt 15, 3) := by decide +kernel
theorem dX8_readNumber_107 : decode cX8_readNumber 107 = .ok (.iload 4, 2) := by decide +kernel
theorem dX8_readNumber_109 : decode cX8_readNumber 109 = .ok (.iload_n 1, 1) := by decide +kernel
theorem dX8_readNumber_110 : decode cX8_readNumber 110 = .ok (.if_icmp .lt 9, 3) := by decide +kernel
theorem dX8_readNumber_113 : decode cX8_readNumber 113 = .ok (.iload 4, 2) := by decide +kernel
theorem dX8_readNumber_115 : decode cX8_readNumber 115 = .ok (.iload_n 2, 1) := by decide +kernel
theorem dX8_readNumber_116 : decode cX8_readNumber 116 = .ok (.if_icmp .le 11, 3) := by decide +kernel
theorem dX8_readNumber_119 : decode cX8_readNumber 119 = .ok (.aload_n 0, 1) := by decide +kernel
theorem dX8_readNumber_120 : decode cX8_readNumber 120 = .ok (.iconst 2, 1) := by decide +kernel
theorem dX8_readNumber_121 : decode cX8_readNumber 121 = .ok (.iload_n 3, 1) := by decide +kernel
theorem dX8_readNumber_122 : decode cX8_readNumber 122 = .ok (.invokevirtual 53, 3) := by decide +kernel
theorem dX8_readNumber_125 : decode cX8_readNumber 125 = .ok (.iconst 0, 1) := by decide +kernel
theorem dX8_readNumber_126 : decode cX8_readNumber 126 = .ok (.ireturn, 1) := by decide +kernel
theorem dX8_readNumber_127 : decode cX8_readNumber 127 = .ok (.iload 4, 2) := by decide +kernel
theorem dX8_readNumber_129 : decode cX8_readNumber 129 = .ok (.ireturn, 1) := by decide +kernel
def f_X8_readNumber_68 (rec : Nat → Int32 → Int32 → Int32 → Int32 → AH → Option (Int32 × AH)) (v0 : Nat) (v1 : Int32) (v2 : Int32) (v3 : Int32) (v4 : Int32) (h : AH) : Option (Int32 × AH) := (gi h 7 v0 4).bind fun x1 => (pf h 7 v0 4 (.int (x1 + (1 : Int32)))).bind fun h2 => rec v0 v1 v2 v3 v4 h2
set_option maxRecDepth 100000 in
set_option maxHeartbeats 4000000 in
theorem j_X8_readNumber_68 (X : SX) (d : Nat) (rec : Nat → Int32 → Int32 → Int32 → Int32 → AH → Option (Int32 × AH)) (hrecf : ∀ (rv : Option Int32) (h' : AH), ∀ (v0 : Nat) (v1 : Int32) (v2 : Int32) (v3 : Int32) (v4 : Int32) (h : AH) (y4 : Int32) (h1 : AH), rec v0 v1 v2 v3 v4 h = some (y4, h1) → G X mX8_readNumber (d + 1) 81 [(0, .ref v0), (1, .int v1), (2, .int v2), (3, .int v3), (4, .int y4)] [] h1 rv h' → G X mX8_readNumber (d + 1) 12 [(0, .ref v0), (1, .int v1), (2, .int v2), (3, .int v3), (4, .int v4)] [] h rv h') (v0 : Nat) (v1 : Int32) (v2 : Int32) (v3 : Int32) (v4 : Int32) (h : AH) (y4 : Int32) (h1 : AH) (hf : f_X8_readNumber_68 rec v0 v1 v2 v3 v4 h = some (y4, h1)) (rv : Option Int32) (h' : AH) (hE : G X mX8_readNumber (d + 1) 81 [(0, .ref v0), (1, .int v1), (2, .int v2), (3, .int v3), (4, .int y4)] [] h1 rv h') : G X mX8_readNumber (d + 1) 68 [(0, .ref v0), (1, .int v1), (2, .int v2), (3, .int v3), (4, .int v4)] [] h rv h' := by
  unfold f_X8_readNumber_68 at hf
  have hrec := hrecf rv h'
  refine G.aload_n dX8_readNumber_68 rfl ?_
  refine G.dup dX8_readNumber_69 rfl ?_
  refine G.geti flX8_27 dX8_readNumber_70 hf (fun x1 hf => ?_)
  refine G.iconst (v := (1 : Int32)) dX8_readNumber_73 (by decide) ?_
  refine G.iadd dX8_readNumber_74 ?_
  refine G.put flX8_27 (Or.inl rfl) (fun _ _ => ⟨rfl, rfl⟩) dX8_readNumber_75 hf (fun h2 hf => ?_)
  refine G.goto 12 dX8_readNumber_78 (by decide) ?_
  exact G.pick [0, 1, 2, 3, 4] rfl (hrec v0 v1 v2 v3 v4 h2 _ _ hf hE)
def F_X8_readNumber_L12 (rec : Nat → Int32 → Int32 → Int32 → Int32 → AH → Option (Int32 × AH)) (v0 : Nat) (v1 : Int32) (v2 : Int32) (v3 : Int32) (v4 : Int32) (h : AH) : Option (Int32 × AH) := (gi h 7 v0 4).bind fun x1 => (gi h 7 v0 1).bind fun x2 => if x2 ≤ x1 then (some (v4, h)) else ((gr h 7 v0 0).bind fun r4 => (gi h 7 v0 4).bind fun x5 => (ai h 1 r4 x5).bind fun x6 => bT1 (f_X8_isFigure x6 h) fun x9 h7 => if x9 = 0 then (some (v4, h7)) else ((gi h7 7 v0 4).bind fun x11 => if (3 : Int32) ≤ (x11 - v3) then (f_X8_readNumber_68 rec v0 v1 v2 v3 v4 h7) else ((gr h7 7 v0 0).bind fun r13 => (gi h7 7 v0 4).bind fun x14 => (ai h7 1 r13 x14).bind fun x15 => f_X8_readNumber_68 rec v0 v1 v2 v3 ((v4 * (10 : Int32)) + (x15 - (48 : Int32))) h7)))
def f_X8_readNumber_L12 : Nat → Nat → Int32 → Int32 → Int32 → Int32 → AH → Option (Int32 × AH)
  | 0 => fun _ _ _ _ _ _ => none
  | n + 1 => F_X8_readNumber_L12 (f_X8_readNumber_L12 n)
set_option maxRecDepth 100000 in
set_option maxHeartbeats 4000000 in
theorem lx_X8_readNumber_L12 (X : SX) (d : Nat) : ∀ n (rv : Option Int32) (h' : AH), ∀ (v0 : Nat) (v1 : Int32) (v2 : Int32) (v3 : Int32) (v4 : Int32) (h : AH) (y4 : Int32) (h1 : AH), f_X8_readNumber_L12 n v0 v1 v2 v3 v4 h = some (y4, h1) → G X mX8_readNumber (d + 1) 81 [(0, .ref v0), (1, .int v1), (2, .int v2), (3, .int v3), (4, .int y4)] [] h1 rv h' → G X mX8_readNumber (d + 1) 12 [(0, .ref v0), (1, .int v1), (2, .int v2), (3, .int v3), (4, .int v4)] [] h rv h' := by
  intro n
  induction n with
  | zero =>
    intro rv h' v0 v1 v2 v3 v4 h y4 h1 hf hE
    cases hf
  | succ n ihf =>
    intro rv h' v0 v1 v2 v3 v4 h y4 h1 hf hE
    replace hf : F_X8_readNumber_L12 (f_X8_readNumber_L12 n) v0 v1 v2 v3 v4 h = some (y4, h1) := hf
    unfold F_X8_readNumber_L12 at hf
    have ih := ihf rv h'
    refine G.aload_n dX8_readNumber_12 rfl ?_
    refine G.geti flX8_27 dX8_readNumber_13 hf (fun x1 hf => ?_)
    refine G.aload_n dX8_readNumber_16 rfl ?_
    refine G.geti flX8_19 dX8_readNumber_17 hf (fun x2 hf => ?_)
    refine G.icmp_ge 81 dX8_readNumber_20 (by decide) (fun c3 => ?_) (fun c3 => ?_)
    · rw [if_pos c3] at hf
      obtain ⟨u0, w1⟩ := Prod.mk.inj (Option.some.inj hf)
      subst u0
      subst w1
      exact G.pick [0, 1, 2, 3, 4] rfl hE
    · rw [if_neg c3] at hf
      refine G.aload_n dX8_readNumber_23 rfl ?_
      refine G.getr flX8_9 dX8_readNumber_24 hf (fun r4 hf => ?_)
      refine G.aload_n dX8_readNumber_27 rfl ?_
      refine G.geti flX8_27 dX8_readNumber_28 hf (fun x5 hf => ?_)
      refine G.cald dX8_readNumber_31 hf (fun x6 hf => ?_)
      obtain ⟨x9, h7, e8, hf⟩ := bT1_spec hf
      refine G.callSi (M' := mX8_isFigure) (As := [.int x6]) (st := []) okX8_isFigure vsX8_isFigure lkX8_95 rfl (Nat.le_of_ble_eq_true rfl) (Nat.le_of_ble_eq_true rfl) dX8_readNumber_32 (c_X8_isFigure X d _ _ _ _ e8) ?_
      refine G.if_eq 81 dX8_readNumber_35 (by decide) (fun c10 => ?_) (fun c10 => ?_)
      · rw [if_pos c10] at hf
        obtain ⟨u0, w1⟩ := Prod.mk.inj (Option.some.inj hf)
        subst u0
        subst w1
        exact G.pick [0, 1, 2, 3, 4] rfl hE
      · rw [if_neg c10] at hf
        refine G.aload_n dX8_readNumber_38 rfl ?_
        refine G.geti flX8_27 dX8_readNumber_39 hf (fun x11 hf => ?_)
        refine G.iload_n dX8_readNumber_42 rfl ?_
        refine G.isub dX8_readNumber_43 ?_
        refine G.iconst (v := (3 : Int32)) dX8_readNumber_44 (by decide) ?_
        refine G.icmp_ge 68 dX8_readNumber_45 (by decide) (fun c12 => ?_) (fun c12 => ?_)
        · rw [if_pos c12] at hf
          exact G.pick [0, 1, 2, 3, 4] rfl (j_X8_readNumber_68 X d _ ihf v0 v1 v2 v3 v4 h7 _ _ hf _ _ hE)
        · rw [if_neg c12] at hf
          refine G.iload dX8_readNumber_48 rfl ?_
          refine G.bipush (v := (10 : Int32)) dX8_readNumber_50 (by decide) ?_
          refine G.imul dX8_readNumber_52 ?_
          refine G.aload_n dX8_readNumber_53 rfl ?_
          refine G.getr flX8_9 dX8_readNumber_54 hf (fun r13 hf => ?_)
          refine G.aload_n dX8_readNumber_57 rfl ?_
          refine G.geti flX8_27 dX8_readNumber_58 hf (fun x14 hf => ?_)
          refine G.cald dX8_readNumber_61 hf (fun x15 hf => ?_)
          refine G.bipush (v := (48 : Int32)) dX8_readNumber_62 (by decide) ?_
          refine G.isub dX8_readNumber_64 ?_
          refine G.iadd dX8_readNumber_65 ?_
          refine G.istore (lv' := [(4, .int ((v4 * (10 : Int32)) + (x15 - (48 : Int32)))), (0, .ref v0), (1, .int v1), (2, .int v2), (3, .int v3)]) dX8_readNumber_66 (by decide) rfl ?_
          exact G.pick [1, 2, 3, 4, 0] rfl (j_X8_readNumber_68 X d _ ihf v0 v1 v2 v3 ((v4 * (10 : Int32)) + (x15 - (48 : Int32))) h7 _ _ hf _ _ hE)
theorem l_X8_readNumber_L12 (X : SX) (d : Nat) (rv : Option Int32) (h' : AH) (n : Nat) : ∀ (v0 : Nat) (v1 : Int32) (v2 : Int32) (v3 : Int32) (v4 : Int32) (h : AH) (y4 : Int32) (h1 : AH), f_X8_readNumber_L12 n v0 v1 v2 v3 v4 h = some (y4, h1) → G X mX8_readNumber (d + 1) 81 [(0, .ref v0), (1, .int v1), (2, .int v2), (3, .int v3), (4, .int y4)] [] h1 rv h' → G X mX8_readNumber (d + 1) 12 [(0, .ref v0), (1, .int v1), (2, .int v2), (3, .int v3), (4, .int v4)] [] h rv h' := lx_X8_readNumber_L12 X d n rv h'
def f_X8_readNumber_119 (v0 : Nat) (v3 : Int32) (h : AH) : Option (Int32 × AH) := (f_X8_blame v0 (2 : Int32) v3 h).bind fun h1 => some ((0 : Int32), h1)
set_option maxRecDepth 100000 in
set_option maxHeartbeats 4000000 in
theorem j_X8_readNumber_119 (X : SX) (d : Nat) (v0 : Nat) (v3 : Int32) (h : AH) (rr : Int32) (h' : AH) (hf : f_X8_readNumber_119 v0 v3 h = some (rr, h')) : G X mX8_readNumber (d + 1) 119 [(0, .ref v0), (3, .int v3)] [] h (some rr) h' := by
  unfold f_X8_readNumber_119 at hf
  refine G.aload_n dX8_readNumber_119 rfl ?_
  refine G.iconst (v := (2 : Int32)) dX8_readNumber_120 (by decide) ?_
  refine G.iload_n dX8_readNumber_121 rfl ?_
  obtain ⟨h1, e2, hf⟩ := Option.bind_eq_some_iff.mp hf
  refine G.callVv (M' := mX8_blame) (ci := 7) (As := [.int (2 : Int32), .int v3]) (st := []) okX8_blame viX8_blame lkX8_53 rfl rfl rfl (Nat.le_of_ble_eq_true rfl) (Nat.le_of_ble_eq_true rfl) dX8_readNumber_122 (c_X8_blame X d _ _ _ _ _ e2).1 (c_X8_blame X d _ _ _ _ _ e2).2 ?_
  refine G.iconst (v := (0 : Int32)) dX8_readNumber_125 (by decide) ?_
  obtain ⟨hq1, hq2⟩ := Prod.mk.inj (Option.some.inj hf)
  subst hq1
  subst hq2
  exact G.iret rfl rfl dX8_readNumber_126
def f_X8_readNumber_81 (v0 : Nat) (v1 : Int32) (v2 : Int32) (v3 : Int32) (v4 : Int32) (h : AH) : Option (Int32 × AH) := (gi h 7 v0 4).bind fun x1 => if x1 = v3 then ((f_X8_blame v0 (1 : Int32) v3 h).bind fun h7 => some ((0 : Int32), h7)) else ((gi h 7 v0 4).bind fun x3 => if (3 : Int32) < (x3 - v3) then (f_X8_readNumber_119 v0 v3 h) else (if v4 < v1 then (f_X8_readNumber_119 v0 v3 h) else (if v4 ≤ v2 then (some (v4, h)) else (f_X8_readNumber_119 v0 v3 h))))
set_option maxRecDepth 100000 in
set_option maxHeartbeats 4000000 in
theorem j_X8_readNumber_81 (X : SX) (d : Nat) (v0 : Nat) (v1 : Int32) (v2 : Int32) (v3 : Int32) (v4 : Int32) (h : AH) (rr : Int32) (h' : AH) (hf : f_X8_readNumber_81 v0 v1 v2 v3 v4 h = some (rr, h')) : G X mX8_readNumber (d + 1) 81 [(0, .ref v0), (1, .int v1), (2, .int v2), (3, .int v3), (4, .int v4)] [] h (some rr) h' := by
  unfold f_X8_readNumber_81 at hf
  refine G.aload_n dX8_readNumber_81 rfl ?_
  refine G.geti flX8_27 dX8_readNumber_82 hf (fun x1 hf => ?_)
  refine G.iload_n dX8_readNumber_85 rfl ?_
  refine G.icmp_ne 97 dX8_readNumber_86 (by decide) (fun c2 => ?_) (fun c2 => ?_)
  · rw [if_neg c2] at hf
    refine G.aload_n dX8_readNumber_97 rfl ?_
    refine G.geti flX8_27 dX8_readNumber_98 hf (fun x3 hf => ?_)
    refine G.iload_n dX8_readNumber_101 rfl ?_
    refine G.isub dX8_readNumber_102 ?_
    refine G.iconst (v := (3 : Int32)) dX8_readNumber_103 (by decide) ?_
    refine G.icmp_gt 119 dX8_readNumber_104 (by decide) (fun c4 => ?_) (fun c4 => ?_)
    · rw [if_pos c4] at hf
      exact G.pick [0, 3] rfl (j_X8_readNumber_119 X d v0 v3 h _ _ hf)
    · rw [if_neg c4] at hf
      refine G.iload dX8_readNumber_107 rfl ?_
      refine G.iload_n dX8_readNumber_109 rfl ?_
      refine G.icmp_lt 119 dX8_readNumber_110 (by decide) (fun c5 => ?_) (fun c5 => ?_)
      · rw [if_pos c5] at hf
        exact G.pick [0, 3] rfl (j_X8_readNumber_119 X d v0 v3 h _ _ hf)
      · rw [if_neg c5] at hf
        refine G.iload dX8_readNumber_113 rfl ?_
        refine G.iload_n dX8_readNumber_115 rfl ?_
        refine G.icmp_le 127 dX8_readNumber_116 (by decide) (fun c6 => ?_) (fun c6 => ?_)
        · rw [if_pos c6] at hf
          refine G.iload dX8_readNumber_127 rfl ?_
          obtain ⟨hq1, hq2⟩ := Prod.mk.inj (Option.some.inj hf)
          subst hq1
          subst hq2
          exact G.iret rfl rfl dX8_readNumber_129
        · rw [if_neg c6] at hf
          exact G.pick [0, 3] rfl (j_X8_readNumber_119 X d v0 v3 h _ _ hf)
  · rw [if_pos c2] at hf
    refine G.aload_n dX8_readNumber_89 rfl ?_
    refine G.iconst (v := (1 : Int32)) dX8_readNumber_90 (by decide) ?_
    refine G.iload_n dX8_readNumber_91 rfl ?_
    obtain ⟨h7, e8, hf⟩ := Option.bind_eq_some_iff.mp hf
    refine G.callVv (M' := mX8_blame) (ci := 7) (As := [.int (1 : Int32), .int v3]) (st := []) okX8_blame viX8_blame lkX8_53 rfl rfl rfl (Nat.le_of_ble_eq_true rfl) (Nat.le_of_ble_eq_true rfl) dX8_readNumber_92 (c_X8_blame X d _ _ _ _ _ e8).1 (c_X8_blame X d _ _ _ _ _ e8).2 ?_
    refine G.iconst (v := (0 : Int32)) dX8_readNumber_95 (by decide) ?_
    obtain ⟨hq1, hq2⟩ := Prod.mk.inj (Option.some.inj hf)
    subst hq1
    subst hq2
    exact G.iret rfl rfl dX8_readNumber_96
def f_X8_readNumber (a0 : Nat) (a1 : Int32) (a2 : Int32) (h : AH) : Option (Int32 × AH) := if isO h 7 a0 = true then ((f_X8_skipBlanks a0 h).bind fun h1 => (gi h1 7 a0 4).bind fun x3 => bT1 (f_X8_readNumber_L12 1000000 a0 a1 a2 x3 (0 : Int32) h1) fun y6 h4 => f_X8_readNumber_81 a0 a1 a2 x3 y6 h4) else none
set_option maxRecDepth 100000 in
set_option maxHeartbeats 4000000 in
theorem c_X8_readNumber (X : SX) (d : Nat) (a0 : Nat) (a1 : Int32) (a2 : Int32) (h : AH) (rr : Int32) (h' : AH) (hf : f_X8_readNumber a0 a1 a2 h = some (rr, h')) : isO h 7 a0 = true ∧ G X mX8_readNumber (d + 1) 0 [(0, .ref a0), (1, .int a1), (2, .int a2)] [] h (some rr) h' := by
  unfold f_X8_readNumber at hf
  by_cases ho : isO h 7 a0 = true
  · rw [if_pos ho] at hf
    refine ⟨ho, ?_⟩
    refine G.aload_n dX8_readNumber_0 rfl ?_
    obtain ⟨h1, e2, hf⟩ := Option.bind_eq_some_iff.mp hf
    refine G.callVv (M' := mX8_skipBlanks) (ci := 7) (As := []) (st := []) okX8_skipBlanks viX8_skipBlanks lkX8_33 rfl rfl rfl (Nat.le_of_ble_eq_true rfl) (Nat.le_of_ble_eq_true rfl) dX8_readNumber_1 (c_X8_skipBlanks X d _ _ _ e2).1 (c_X8_skipBlanks X d _ _ _ e2).2 ?_
    refine G.aload_n dX8_readNumber_4 rfl ?_
    refine G.geti flX8_27 dX8_readNumber_5 hf (fun x3 hf => ?_)
    refine G.istore_n (lv' := [(3, .int x3), (0, .ref a0), (1, .int a1), (2, .int a2)]) dX8_readNumber_8 (by decide) rfl ?_
    refine G.iconst (v := (0 : Int32)) dX8_readNumber_9 (by decide) ?_
    refine G.istore (lv' := [(4, .int (0 : Int32)), (3, .int x3), (0, .ref a0), (1, .int a1), (2, .int a2)]) dX8_readNumber_10 (by decide) rfl ?_
    obtain ⟨y6, h4, e5, hf⟩ := bT1_spec hf
    refine G.pick [2, 3, 4, 1, 0] rfl (l_X8_readNumber_L12 X d _ _ 1000000 a0 a1 a2 x3 (0 : Int32) h1 y6 h4 e5 ?_)
    exact G.pick [0, 1, 2, 3, 4] rfl (j_X8_readNumber_81 X d a0 a1 a2 x3 y6 h4 _ _ hf)
  · rw [if_neg ho] at hf
    cases hf
/-! X8_readEnd -/
theorem dX8_readEnd_0 : decode cX8_readEnd 0 = .ok (.aload_n 0, 1) := by decide +kernel
theorem dX8_readEnd_1 : decode cX8_readEnd 1 = .ok (.invokevirtual 33, 3) := by decide +kernel
theorem dX8_readEnd_4 : decode cX8_readEnd 4 = .ok (.aload_n 0, 1) := by decide +kernel
theorem dX8_readEnd_5 : decode cX8_readEnd 5 = .ok (.getfield 27, 3) := by decide +kernel
theorem dX8_readEnd_8 : decode cX8_readEnd 8 = .ok (.aload_n 0, 1) := by decide +kernel
theorem dX8_readEnd_9 : decode cX8_readEnd 9 = .ok (.getfield 19, 3) := by decide +kernel
theorem dX8_readEnd_12 : decode cX8_readEnd 12 = .ok (.if_icmp .ge 30, 3) := by decide +kernel
theorem dX8_readEnd_15 : decode cX8_readEnd 15 = .ok (.aload_n 0, 1) := by decide +kernel
theorem dX8_readEnd_16 : decode cX8_readEnd 16 = .ok (.getfield 9, 3) := by decide +kernel
theorem dX8_readEnd_19 : decode cX8_readEnd 19 = .ok (.aload_n 0, 1) := by decide +kernel
theorem dX8_readEnd_20 : decode cX8_readEnd 20 = .ok (.getfield 27, 3) := by decide +kernel
theorem dX8_readEnd_23 : decode cX8_readEnd 23 = .ok (.caload, 1) := by decide +kernel
theorem dX8_readEnd_24 : decode cX8_readEnd 24 = .ok (.bipush 59, 2) := by decide +kernel
theorem dX8_readEnd_26 : decode cX8_readEnd 26 = .ok (.if_icmp .ne 16, 3) := by decide +kernel
theorem dX8_readEnd_29 : decode cX8_readEnd 29 = .ok (.aload_n 0, 1) := by decide +kernel
theorem dX8_readEnd_30 : decode cX8_readEnd 30 = .ok (.dup, 1) := by decide +kernel
theorem dX8_readEnd_31 : decode cX8_readEnd 31 = .ok (.getfield 27, 3) := by decide +kernel
theorem dX8_readEnd_34 : decode cX8_readEnd 34 = .ok (.iconst 1, 1) := by decide +kernel
theorem dX8_readEnd_35 : decode cX8_readEnd 35 = .ok (.iadd, 1) := by decide +kernel
theorem dX8_readEnd_36 : decode cX8_readEnd 36 = .ok (.putfield 27, 3) := by decide +kernel
theorem dX8_readEnd_39 : decode cX8_readEnd 39 = .ok (.goto 12, 3) := by decide +kernel
theorem dX8_readEnd_42 : decode cX8_readEnd 42 = .ok (.aload_n 0, 1) := by decide +kernel
theorem dX8_readEnd_43 : decode cX8_readEnd 43 = .ok (.iconst 1, 1) := by decide +kernel
theorem dX8_readEnd_44 : decode cX8_readEnd 44 = .ok (.aload_n 0, 1) := by decide +kernel
theorem dX8_readEnd_45 : decode cX8_readEnd 45 = .ok (.getfield 27, 3) := by decide +kernel
theorem dX8_readEnd_48 : decode cX8_readEnd 48 = .ok (.invokevirtual 53, 3) := by decide +kernel
theorem dX8_readEnd_51 : decode cX8_readEnd 51 = .ok (.return_, 1) := by decide +kernel
def f_X8_readEnd_42 (v0 : Nat) (h : AH) : Option (AH) := (gi h 7 v0 4).bind fun x1 => (f_X8_blame v0 (1 : Int32) x1 h).bind fun h2 => some h2
set_option maxRecDepth 100000 in
set_option maxHeartbeats 4000000 in
theorem j_X8_readEnd_42 (X : SX) (d : Nat) (v0 : Nat) (h : AH) (h' : AH) (hf : f_X8_readEnd_42 v0 h = some h') : G X mX8_readEnd (d + 1) 42 [(0, .ref v0)] [] h none h' := by
  unfold f_X8_readEnd_42 at hf
  refine G.aload_n dX8_readEnd_42 rfl ?_
  refine G.iconst (v := (1 : Int32)) dX8_readEnd_43 (by decide) ?_
  refine G.aload_n dX8_readEnd_44 rfl ?_
  refine G.geti flX8_27 dX8_readEnd_45 hf (fun x1 hf => ?_)
  obtain ⟨h2, e3, hf⟩ := Option.bind_eq_some_iff.mp hf
  refine G.callVv (M' := mX8_blame) (ci := 7) (As := [.int (1 : Int32), .int x1]) (st := []) okX8_blame viX8_blame lkX8_53 rfl rfl rfl (Nat.le_of_ble_eq_true rfl) (Nat.le_of_ble_eq_true rfl) dX8_readEnd_48 (c_X8_blame X d _ _ _ _ _ e3).1 (c_X8_blame X d _ _ _ _ _ e3).2 ?_
  have hq := Option.some.inj hf
  subst hq
  exact G.vret rfl dX8_readEnd_51
def f_X8_readEnd (a0 : Nat) (h : AH) : Option (AH) := if isO h 7 a0 = true then ((f_X8_skipBlanks a0 h).bind fun h1 => (gi h1 7 a0 4).bind fun x3 => (gi h1 7 a0 1).bind fun x4 => if x4 ≤ x3 then (f_X8_readEnd_42 a0 h1) else ((gr h1 7 a0 0).bind fun r6 => (gi h1 7 a0 4).bind fun x7 => (ai h1 1 r6 x7).bind fun x8 => if x8 = (59 : Int32) then ((gi h1 7 a0 4).bind fun x10 => (pf h1 7 a0 4 (.int (x10 + (1 : Int32)))).bind fun h11 => some h11) else (f_X8_readEnd_42 a0 h1))) else none
set_option maxRecDepth 100000 in
set_option maxHeartbeats 4000000 in
theorem c_X8_readEnd (X : SX) (d : Nat) (a0 : Nat) (h : AH) (h' : AH) (hf : f_X8_readEnd a0 h = some h') : isO h 7 a0 = true ∧ G X mX8_readEnd (d + 1) 0 [(0, .ref a0)] [] h none h' := by
  unfold f_X8_readEnd at hf
  by_cases ho : isO h 7 a0 = true
  · rw [if_pos ho] at hf
    refine ⟨ho, ?_⟩
    refine G.aload_n dX8_readEnd_0 rfl ?_
    obtain ⟨h1, e2, hf⟩ := Option.bind_eq_some_iff.mp hf
    refine G.callVv (M' := mX8_skipBlanks) (ci := 7) (As := []) (st := []) okX8_skipBlanks viX8_skipBlanks lkX8_33 rfl rfl rfl (Nat.le_of_ble_eq_true rfl) (Nat.le_of_ble_eq_true rfl) dX8_readEnd_1 (c_X8_skipBlanks X d _ _ _ e2).1 (c_X8_skipBlanks X d _ _ _ e2).2 ?_
    refine G.aload_n dX8_readEnd_4 rfl ?_
    refine G.geti flX8_27 dX8_readEnd_5 hf (fun x3 hf => ?_)
    refine G.aload_n dX8_readEnd_8 rfl ?_
    refine G.geti flX8_19 dX8_readEnd_9 hf (fun x4 hf => ?_)
    refine G.icmp_ge 42 dX8_readEnd_12 (by decide) (fun c5 => ?_) (fun c5 => ?_)
    · rw [if_pos c5] at hf
      exact G.pick [0] rfl (j_X8_readEnd_42 X d a0 h1 _ hf)
    · rw [if_neg c5] at hf
      refine G.aload_n dX8_readEnd_15 rfl ?_
      refine G.getr flX8_9 dX8_readEnd_16 hf (fun r6 hf => ?_)
      refine G.aload_n dX8_readEnd_19 rfl ?_
      refine G.geti flX8_27 dX8_readEnd_20 hf (fun x7 hf => ?_)
      refine G.cald dX8_readEnd_23 hf (fun x8 hf => ?_)
      refine G.bipush (v := (59 : Int32)) dX8_readEnd_24 (by decide) ?_
      refine G.icmp_ne 42 dX8_readEnd_26 (by decide) (fun c9 => ?_) (fun c9 => ?_)
      · rw [if_neg c9] at hf
        exact G.pick [0] rfl (j_X8_readEnd_42 X d a0 h1 _ hf)
      · rw [if_pos c9] at hf
        refine G.aload_n dX8_readEnd_29 rfl ?_
        refine G.dup dX8_readEnd_30 rfl ?_
        refine G.geti flX8_27 dX8_readEnd_31 hf (fun x10 hf => ?_)
        refine G.iconst (v := (1 : Int32)) dX8_readEnd_34 (by decide) ?_
        refine G.iadd dX8_readEnd_35 ?_
        refine G.put flX8_27 (Or.inl rfl) (fun _ _ => ⟨rfl, rfl⟩) dX8_readEnd_36 hf (fun h11 hf => ?_)
        refine G.goto 51 dX8_readEnd_39 (by decide) ?_
        have hq := Option.some.inj hf
        subst hq
        exact G.vret rfl dX8_readEnd_51
  · rw [if_neg ho] at hf
    cases hf
/-! X8_readHouses -/
theorem dX8_readHouses_0 : decode cX8_readHouses 0 = .ok (.iload_n 2, 1) := by decide +kernel
theorem dX8_readHouses_1 : decode cX8_readHouses 1 = .ok (.ifCond .ne 13, 3) := by decide +kernel
theorem dX8_readHouses_4 : decode cX8_readHouses 4 = .ok (.aload_n 0, 1) := by decide +kernel
theorem dX8_readHouses_5 : decode cX8_readHouses 5 = .ok (.iconst 3, 1) := by decide +kernel
theorem dX8_readHouses_6 : decode cX8_readHouses 6 = .ok (.aload_n 0, 1) := by decide +kernel
theorem dX8_readHouses_7 : decode cX8_readHouses 7 = .ok (.getfield 27, 3) := by decide +kernel
theorem dX8_readHouses_10 : decode cX8_readHouses 10 = .ok (.invokevirtual 53, 3) := by decide +kernel
theorem dX8_readHouses_13 : decode cX8_readHouses 13 = .ok (.return_, 1) := by decide +kernel
theorem dX8_readHouses_14 : decode cX8_readHouses 14 = .ok (.aload_n 0, 1) := by decide +kernel
theorem dX8_readHouses_15 : decode cX8_readHouses 15 = .ok (.dup, 1) := by decide +kernel
theorem dX8_readHouses_16 : decode cX8_readHouses 16 = .ok (.getfield 27, 3) := by decide +kernel
theorem dX8_readHouses_19 : decode cX8_readHouses 19 = .ok (.iconst 1, 1) := by decide +kernel
theorem dX8_readHouses_20 : decode cX8_readHouses 20 = .ok (.iadd, 1) := by decide +kernel
theorem dX8_readHouses_21 : decode cX8_readHouses 21 = .ok (.putfield 27, 3) := by decide +kernel
theorem dX8_readHouses_24 : decode cX8_readHouses 24 = .ok (.aload_n 0, 1) := by decide +kernel
theorem dX8_readHouses_25 : decode cX8_readHouses 25 = .ok (.iconst 1, 1) := by decide +kernel
theorem dX8_readHouses_26 : decode cX8_readHouses 26 = .ok (.bipush 20, 2) := by decide +kernel
theorem dX8_readHouses_28 : decode cX8_readHouses 28 = .ok (.invokevirtual 57, 3) := by decide +kernel
theorem dX8_readHouses_31 : decode cX8_readHouses 31 = .ok (.istore_n 3, 1) := by decide +kernel
theorem dX8_readHouses_32 : decode cX8_readHouses 32 = .ok (.aload_n 0, 1) := by decide +kernel
theorem dX8_readHouses_33 : decode cX8_readHouses 33 = .ok (.iconst 1, 1) := by decide +kernel
theorem dX8_readHouses_34 : decode cX8_readHouses 34 = .ok (.bipush 30, 2) := by decide +kernel
theorem dX8_readHouses_36 : decode cX8_readHouses 36 = .ok (.invokevirtual 57, 3) := by decide +kernel
theorem dX8_readHouses_39 : decode cX8_readHouses 39 = .ok (.istore 4, 2) := by decide +kernel
theorem dX8_readHouses_41 : decode cX8_readHouses 41 = .ok (.aload_n 0, 1) := by decide +kernel
theorem dX8_readHouses_42 : decode cX8_readHouses 42 = .ok (.invokevirtual 61, 3) := by decide +kernel
theorem dX8_readHouses_45 : decode cX8_readHouses 45 = .ok (.aload_n 0, 1) := by decide +kernel
theorem dX8_readHouses_46 : decode cX8_readHouses 46 = .ok (.getfield 30, 3) := by decide +kernel
theorem dX8_readHouses_49 : decode cX8_readHouses 49 = .ok (.ifCond .ne 14, 3) := by decide +kernel
theorem dX8_readHouses_52 : decode cX8_readHouses 52 = .ok (.aload_n 1, 1) := by decide +kernel
theorem dX8_readHouses_53 : decode cX8_readHouses 53 = .ok (.iload_n 3, 1) := by decide +kernel
theorem dX8_readHouses_54 : decode cX8_readHouses 54 = .ok (.putfield 40, 3) := by decide +kernel
theorem dX8_readHouses_57 : decode cX8_readHouses 57 = .ok (.aload_n 1, 1) := by decide +kernel
theorem dX8_readHouses_58 : decode cX8_readHouses 58 = .ok (.iload 4, 2) := by decide +kernel
theorem dX8_readHouses_60 : decode cX8_readHouses 60 = .ok (.putfield 64, 3) := by decide +kernel
theorem dX8_readHouses_63 : decode cX8_readHouses 63 = .ok (.return_, 1) := by decide +kernel
def f_X8_readHouses (a0 : Nat) (a1 : Nat) (a2 : Int32) (h : AH) : Option (AH) := if isO h 7 a0 = true then (if a2 = 0 then ((gi h 7 a0 4).bind fun x16 => (f_X8_blame a0 (3 : Int32) x16 h).bind fun h17 => some h17) else ((gi h 7 a0 4).bind fun x2 => (pf h 7 a0 4 (.int (x2 + (1 : Int32)))).bind fun h3 => bT1 (f_X8_readNumber a0 (1 : Int32) (20 : Int32) h3) fun x6 h4 => bT1 (f_X8_readNumber a0 (1 : Int32) (30 : Int32) h4) fun x9 h7 => (f_X8_readEnd a0 h7).bind fun h10 => (gi h10 7 a0 3).bind fun x12 => if x12 = 0 then ((pf h10 9 a1 7 (.int x6)).bind fun h14 => (pf h14 9 a1 8 (.int x9)).bind fun h15 => some h15) else (some h10))) else none
set_option maxRecDepth 100000 in
set_option maxHeartbeats 4000000 in
theorem c_X8_readHouses (X : SX) (d : Nat) (a0 : Nat) (a1 : Nat) (a2 : Int32) (h : AH) (h' : AH) (hf : f_X8_readHouses a0 a1 a2 h = some h') : isO h 7 a0 = true ∧ G X mX8_readHouses (d + 2) 0 [(0, .ref a0), (1, .ref a1), (2, .int a2)] [] h none h' := by
  unfold f_X8_readHouses at hf
  by_cases ho : isO h 7 a0 = true
  · rw [if_pos ho] at hf
    refine ⟨ho, ?_⟩
    refine G.iload_n dX8_readHouses_0 rfl ?_
    refine G.if_ne 14 dX8_readHouses_1 (by decide) (fun c1 => ?_) (fun c1 => ?_)
    · rw [if_neg c1] at hf
      refine G.aload_n dX8_readHouses_14 rfl ?_
      refine G.dup dX8_readHouses_15 rfl ?_
      refine G.geti flX8_27 dX8_readHouses_16 hf (fun x2 hf => ?_)
      refine G.iconst (v := (1 : Int32)) dX8_readHouses_19 (by decide) ?_
      refine G.iadd dX8_readHouses_20 ?_
      refine G.put flX8_27 (Or.inl rfl) (fun _ _ => ⟨rfl, rfl⟩) dX8_readHouses_21 hf (fun h3 hf => ?_)
      refine G.aload_n dX8_readHouses_24 rfl ?_
      refine G.iconst (v := (1 : Int32)) dX8_readHouses_25 (by decide) ?_
      refine G.bipush (v := (20 : Int32)) dX8_readHouses_26 (by decide) ?_
      obtain ⟨x6, h4, e5, hf⟩ := bT1_spec hf
      refine G.callVi (M' := mX8_readNumber) (ci := 7) (As := [.int (1 : Int32), .int (20 : Int32)]) (st := []) okX8_readNumber viX8_readNumber lkX8_57 rfl rfl rfl (Nat.le_of_ble_eq_true rfl) (Nat.le_of_ble_eq_true rfl) dX8_readHouses_28 (c_X8_readNumber X d _ _ _ _ _ _ e5).1 (c_X8_readNumber X d _ _ _ _ _ _ e5).2 ?_
      refine G.istore_n (lv' := [(3, .int x6), (0, .ref a0), (1, .ref a1), (2, .int a2)]) dX8_readHouses_31 (by decide) rfl ?_
      refine G.aload_n dX8_readHouses_32 rfl ?_
      refine G.iconst (v := (1 : Int32)) dX8_readHouses_33 (by decide) ?_
      refine G.bipush (v := (30 : Int32)) dX8_readHouses_34 (by decide) ?_
      obtain ⟨x9, h7, e8, hf⟩ := bT1_spec hf
      refine G.callVi (M' := mX8_readNumber) (ci := 7) (As := [.int (1 : Int32), .int (30 : Int32)]) (st := []) okX8_readNumber viX8_readNumber lkX8_57 rfl rfl rfl (Nat.le_of_ble_eq_true rfl) (Nat.le_of_ble_eq_true rfl) dX8_readHouses_36 (c_X8_readNumber X d _ _ _ _ _ _ e8).1 (c_X8_readNumber X d _ _ _ _ _ _ e8).2 ?_
      refine G.istore (lv' := [(4, .int x9), (3, .int x6), (0, .ref a0), (1, .ref a1), (2, .int a2)]) dX8_readHouses_39 (by decide) rfl ?_
      refine G.aload_n dX8_readHouses_41 rfl ?_
      obtain ⟨h10, e11, hf⟩ := Option.bind_eq_some_iff.mp hf
      refine G.callVv (M' := mX8_readEnd) (ci := 7) (As := []) (st := []) okX8_readEnd viX8_readEnd lkX8_61 rfl rfl rfl (Nat.le_of_ble_eq_true rfl) (Nat.le_of_ble_eq_true rfl) dX8_readHouses_42 (c_X8_readEnd X d _ _ _ e11).1 (c_X8_readEnd X d _ _ _ e11).2 ?_
      refine G.aload_n dX8_readHouses_45 rfl ?_
      refine G.geti flX8_30 dX8_readHouses_46 hf (fun x12 hf => ?_)
      refine G.if_ne 63 dX8_readHouses_49 (by decide) (fun c13 => ?_) (fun c13 => ?_)
      · rw [if_neg c13] at hf
        have hq := Option.some.inj hf
        subst hq
        exact G.vret rfl dX8_readHouses_63
      · rw [if_pos c13] at hf
        refine G.aload_n dX8_readHouses_52 rfl ?_
        refine G.iload_n dX8_readHouses_53 rfl ?_
        refine G.put flX8_40 (Or.inl rfl) (fun _ _ => ⟨rfl, rfl⟩) dX8_readHouses_54 hf (fun h14 hf => ?_)
        refine G.aload_n dX8_readHouses_57 rfl ?_
        refine G.iload dX8_readHouses_58 rfl ?_
        refine G.put flX8_64 (Or.inl rfl) (fun _ _ => ⟨rfl, rfl⟩) dX8_readHouses_60 hf (fun h15 hf => ?_)
        have hq := Option.some.inj hf
        subst hq
        exact G.vret rfl dX8_readHouses_63
    · rw [if_pos c1] at hf
      refine G.aload_n dX8_readHouses_4 rfl ?_
      refine G.iconst (v := (3 : Int32)) dX8_readHouses_5 (by decide) ?_
      refine G.aload_n dX8_readHouses_6 rfl ?_
      refine G.geti flX8_27 dX8_readHouses_7 hf (fun x16 hf => ?_)
      obtain ⟨h17, e18, hf⟩ := Option.bind_eq_some_iff.mp hf
      refine G.callVv (M' := mX8_blame) (ci := 7) (As := [.int (3 : Int32), .int x16]) (st := []) okX8_blame viX8_blame lkX8_53 rfl rfl rfl (Nat.le_of_ble_eq_true rfl) (Nat.le_of_ble_eq_true rfl) dX8_readHouses_10 (c_X8_blame X (d + 1) _ _ _ _ _ e18).1 (c_X8_blame X (d + 1) _ _ _ _ _ e18).2 ?_
      have hq := Option.some.inj hf
      subst hq
      exact G.vret rfl dX8_readHouses_13
  · rw [if_neg ho] at hf
    cases hf
/-! X8_readSinger -/
theorem dX8_readSinger_0 : decode cX8_readSinger 0 = .ok (.aload_n 1, 1) := by decide +kernel
theorem dX8_readSinger_1 : decode cX8_readSinger 1 = .ok (.getfield 67, 3) := by decide +kernel
theorem dX8_readSinger_4 : decode cX8_readSinger 4 = .ok (.istore_n 2, 1) := by decide +kernel
theorem dX8_readSinger_5 : decode cX8_readSinger 5 = .ok (.iload_n 2, 1) := by decide +kernel
theorem dX8_readSinger_6 : decode cX8_readSinger 6 = .ok (.bipush 6, 2) := by decide +kernel
theorem dX8_readSinger_8 : decode cX8_readSinger 8 = .ok (.if_icmp .lt 13, 3) := by decide +kernel
theorem dX8_readSinger_11 : decode cX8_readSinger 11 = .ok (.aload_n 0, 1) := by decide +kernel
theorem dX8_readSinger_12 : decode cX8_readSinger 12 = .ok (.iconst 3, 1) := by decide +kernel
theorem dX8_readSinger_13 : decode cX8_readSinger 13 = .ok (.aload_n 0, 1) := by decide +kernel
theorem dX8_readSinger_14 : decode cX8_readSinger 14 = .ok (.getfield 27, 3) := by decide +kernel
theorem dX8_readSinger_17 : decode cX8_readSinger 17 = .ok (.invokevirtual 53, 3) := by decide +kernel
theorem dX8_readSinger_20 : decode cX8_readSinger 20 = .ok (.return_, 1) := by decide +kernel
theorem dX8_readSinger_21 : decode cX8_readSinger 21 = .ok (.aload_n 0, 1) := by decide +kernel
theorem dX8_readSinger_22 : decode cX8_readSinger 22 = .ok (.dup, 1) := by decide +kernel
theorem dX8_readSinger_23 : decode cX8_readSinger 23 = .ok (.getfield 27, 3) := by decide +kernel
theorem dX8_readSinger_26 : decode cX8_readSinger 26 = .ok (.iconst 1, 1) := by decide +kernel
theorem dX8_readSinger_27 : decode cX8_readSinger 27 = .ok (.iadd, 1) := by decide +kernel
theorem dX8_readSinger_28 : decode cX8_readSinger 28 = .ok (.putfield 27, 3) := by decide +kernel
theorem dX8_readSinger_31 : decode cX8_readSinger 31 = .ok (.aload_n 1, 1) := by decide +kernel
theorem dX8_readSinger_32 : decode cX8_readSinger 32 = .ok (.getfield 70, 3) := by decide +kernel
theorem dX8_readSinger_35 : decode cX8_readSinger 35 = .ok (.iload_n 2, 1) := by decide +kernel
theorem dX8_readSinger_36 : decode cX8_readSinger 36 = .ok (.aload_n 0, 1) := by decide +kernel
theorem dX8_readSinger_37 : decode cX8_readSinger 37 = .ok (.iconst 0, 1) := by decide +kernel
theorem dX8_readSinger_38 : decode cX8_readSinger 38 = .ok (.iconst 3, 1) := by decide +kernel
theorem dX8_readSinger_39 : decode cX8_readSinger 39 = .ok (.invokevirtual 57, 3) := by decide +kernel
theorem dX8_readSinger_42 : decode cX8_readSinger 42 = .ok (.iastore, 1) := by decide +kernel
theorem dX8_readSinger_43 : decode cX8_readSinger 43 = .ok (.aload_n 1, 1) := by decide +kernel
theorem dX8_readSinger_44 : decode cX8_readSinger 44 = .ok (.getfield 74, 3) := by decide +kernel
theorem dX8_readSinger_47 : decode cX8_readSinger 47 = .ok (.iload_n 2, 1) := by decide +kernel
theorem dX8_readSinger_48 : decode cX8_readSinger 48 = .ok (.aload_n 0, 1) := by decide +kernel
theorem dX8_readSinger_49 : decode cX8_readSinger 49 = .ok (.iconst 1, 1) := by decide +kernel
theorem dX8_readSinger_50 : decode cX8_readSinger 50 = .ok (.bipush 60, 2) := by decide +kernel
theorem dX8_readSinger_52 : decode cX8_readSinger 52 = .ok (.invokevirtual 57, 3) := by decide +kernel
theorem dX8_readSinger_55 : decode cX8_readSinger 55 = .ok (.iastore, 1) := by decide +kernel
theorem dX8_readSinger_56 : decode cX8_readSinger 56 = .ok (.aload_n 1, 1) := by decide +kernel
theorem dX8_readSinger_57 : decode cX8_readSinger 57 = .ok (.getfield 77, 3) := by decide +kernel
theorem dX8_readSinger_60 : decode cX8_readSinger 60 = .ok (.iload_n 2, 1) := by decide +kernel
theorem dX8_readSinger_61 : decode cX8_readSinger 61 = .ok (.aload_n 0, 1) := by decide +kernel
theorem dX8_readSinger_62 : decode cX8_readSinger 62 = .ok (.iconst 0, 1) := by decide +kernel
theorem dX8_readSinger_63 : decode cX8_readSinger 63 = .ok (.bipush 99, 2) := by decide +kernel
theorem dX8_readSinger_65 : decode cX8_readSinger 65 = .ok (.invokevirtual 57, 3) := by decide +kernel
theorem dX8_readSinger_68 : decode cX8_readSinger 68 = .ok (.iastore, 1) := by decide +kernel
theorem dX8_readSinger_69 : decode cX8_readSinger 69 = .ok (.aload_n 1, 1) := by decide +kernel
theorem dX8_readSinger_70 : decode cX8_readSinger 70 = .ok (.getfield 80, 3) := by decide +kernel
theorem dX8_readSinger_73 : decode cX8_readSinger 73 = .ok (.iload_n 2, 1) := by decide +kernel
theorem dX8_readSinger_74 : decode cX8_readSinger 74 = .ok (.aload_n 0, 1) := by decide +kernel
theorem dX8_readSinger_75 : decode cX8_readSinger 75 = .ok (.iconst 0, 1) := by decide +kernel
theorem dX8_readSinger_76 : decode cX8_readSinger 76 = .ok (.aload_n 1, 1) := by decide +kernel
theorem dX8_readSinger_77 : decode cX8_readSinger 77 = .ok (.getfield 40, 3) := by decide +kernel
theorem dX8_readSinger_80 : decode cX8_readSinger 80 = .ok (.iconst 1, 1) := by decide +kernel
theorem dX8_readSinger_81 : decode cX8_readSinger 81 = .ok (.isub, 1) := by decide +kernel
theorem dX8_readSinger_82 : decode cX8_readSinger 82 = .ok (.invokevirtual 57, 3) := by decide +kernel
theorem dX8_readSinger_85 : decode cX8_readSinger 85 = .ok (.iastore, 1) := by decide +kernel
theorem dX8_readSinger_86 : decode cX8_readSinger 86 = .ok (.aload_n 0, 1) := by decide +kernel
theorem dX8_readSinger_87 : decode cX8_readSinger 87 = .ok (.invokevirtual 61, 3) := by decide +kernel
theorem dX8_readSinger_90 : decode cX8_readSinger 90 = .ok (.aload_n 1, 1) := by decide +kernel
theorem dX8_readSinger_91 : decode cX8_readSinger 91 = .ok (.dup, 1) := by decide +kernel
theorem dX8_readSinger_92 : decode cX8_readSinger 92 = .ok (.getfield 67, 3) := by decide +kernel
theorem dX8_readSinger_95 : decode cX8_readSinger 95 = .ok (.iconst 1, 1) := by decide +kernel
theorem dX8_readSinger_96 : decode cX8_readSinger 96 = .ok (.iadd, 1) := by decide +kernel
theorem dX8_readSinger_97 : decode cX8_readSinger 97 = .ok (.putfield 67, 3) := by decide +kernel
theorem dX8_readSinger_100 : decode cX8_readSinger 100 = .ok (.return_, 1) := by decide +kernel
def f_X8_readSinger (a0 : Nat) (a1 : Nat) (h : AH) : Option (AH) := if isO h 7 a0 = true then ((gi h 9 a1 9).bind fun x1 => if x1 < (6 : Int32) then ((gi h 7 a0 4).bind fun x3 => (pf h 7 a0 4 (.int (x3 + (1 : Int32)))).bind fun h4 => (gr h4 9 a1 0).bind fun r5 => bT1 (f_X8_readNumber a0 (0 : Int32) (3 : Int32) h4) fun x8 h6 => (aw h6 0 r5 x1 x8).bind fun h9 => (gr h9 9 a1 1).bind fun r10 => bT1 (f_X8_readNumber a0 (1 : Int32) (60 : Int32) h9) fun x13 h11 => (aw h11 0 r10 x1 x13).bind fun h14 => (gr h14 9 a1 2).bind fun r15 => bT1 (f_X8_readNumber a0 (0 : Int32) (99 : Int32) h14) fun x18 h16 => (aw h16 0 r15 x1 x18).bind fun h19 => (gr h19 9 a1 3).bind fun r20 => (gi h19 9 a1 7).bind fun x21 => bT1 (f_X8_readNumber a0 (0 : Int32) (x21 - (1 : Int32)) h19) fun x24 h22 => (aw h22 0 r20 x1 x24).bind fun h25 => (f_X8_readEnd a0 h25).bind fun h26 => (gi h26 9 a1 9).bind fun x28 => (pf h26 9 a1 9 (.int (x28 + (1 : Int32)))).bind fun h29 => some h29) else ((gi h 7 a0 4).bind fun x30 => (f_X8_blame a0 (3 : Int32) x30 h).bind fun h31 => some h31)) else none
set_option maxRecDepth 100000 in
set_option maxHeartbeats 4000000 in
theorem c_X8_readSinger (X : SX) (d : Nat) (a0 : Nat) (a1 : Nat) (h : AH) (h' : AH) (hf : f_X8_readSinger a0 a1 h = some h') : isO h 7 a0 = true ∧ G X mX8_readSinger (d + 2) 0 [(0, .ref a0), (1, .ref a1)] [] h none h' := by
  unfold f_X8_readSinger at hf
  by_cases ho : isO h 7 a0 = true
  · rw [if_pos ho] at hf
    refine ⟨ho, ?_⟩
    refine G.aload_n dX8_readSinger_0 rfl ?_
    refine G.geti flX8_67 dX8_readSinger_1 hf (fun x1 hf => ?_)
    refine G.istore_n (lv' := [(2, .int x1), (0, .ref a0), (1, .ref a1)]) dX8_readSinger_4 (by decide) rfl ?_
    refine G.iload_n dX8_readSinger_5 rfl ?_
    refine G.bipush (v := (6 : Int32)) dX8_readSinger_6 (by decide) ?_
    refine G.icmp_lt 21 dX8_readSinger_8 (by decide) (fun c2 => ?_) (fun c2 => ?_)
    · rw [if_pos c2] at hf
      refine G.aload_n dX8_readSinger_21 rfl ?_
      refine G.dup dX8_readSinger_22 rfl ?_
      refine G.geti flX8_27 dX8_readSinger_23 hf (fun x3 hf => ?_)
      refine G.iconst (v := (1 : Int32)) dX8_readSinger_26 (by decide) ?_
      refine G.iadd dX8_readSinger_27 ?_
      refine G.put flX8_27 (Or.inl rfl) (fun _ _ => ⟨rfl, rfl⟩) dX8_readSinger_28 hf (fun h4 hf => ?_)
      refine G.aload_n dX8_readSinger_31 rfl ?_
      refine G.getr flX8_70 dX8_readSinger_32 hf (fun r5 hf => ?_)
      refine G.iload_n dX8_readSinger_35 rfl ?_
      refine G.aload_n dX8_readSinger_36 rfl ?_
      refine G.iconst (v := (0 : Int32)) dX8_readSinger_37 (by decide) ?_
      refine G.iconst (v := (3 : Int32)) dX8_readSinger_38 (by decide) ?_
      obtain ⟨x8, h6, e7, hf⟩ := bT1_spec hf
      refine G.callVi (M' := mX8_readNumber) (ci := 7) (As := [.int (0 : Int32), .int (3 : Int32)]) (st := [.int x1, .ref r5]) okX8_readNumber viX8_readNumber lkX8_57 rfl rfl rfl (Nat.le_of_ble_eq_true rfl) (Nat.le_of_ble_eq_true rfl) dX8_readSinger_39 (c_X8_readNumber X d _ _ _ _ _ _ e7).1 (c_X8_readNumber X d _ _ _ _ _ _ e7).2 ?_
      refine G.iast dX8_readSinger_42 hf (fun h9 hf => ?_)
      refine G.aload_n dX8_readSinger_43 rfl ?_
      refine G.getr flX8_74 dX8_readSinger_44 hf (fun r10 hf => ?_)
      refine G.iload_n dX8_readSinger_47 rfl ?_
      refine G.aload_n dX8_readSinger_48 rfl ?_
      refine G.iconst (v := (1 : Int32)) dX8_readSinger_49 (by decide) ?_
      refine G.bipush (v := (60 : Int32)) dX8_readSinger_50 (by decide) ?_
      obtain ⟨x13, h11, e12, hf⟩ := bT1_spec hf
      refine G.callVi (M' := mX8_readNumber) (ci := 7) (As := [.int (1 : Int32), .int (60 : Int32)]) (st := [.int x1, .ref r10]) okX8_readNumber viX8_readNumber lkX8_57 rfl rfl rfl (Nat.le_of_ble_eq_true rfl) (Nat.le_of_ble_eq_true rfl) dX8_readSinger_52 (c_X8_readNumber X d _ _ _ _ _ _ e12).1 (c_X8_readNumber X d _ _ _ _ _ _ e12).2 ?_
      refine G.iast dX8_readSinger_55 hf (fun h14 hf => ?_)
      refine G.aload_n dX8_readSinger_56 rfl ?_
      refine G.getr flX8_77 dX8_readSinger_57 hf (fun r15 hf => ?_)
      refine G.iload_n dX8_readSinger_60 rfl ?_
      refine G.aload_n dX8_readSinger_61 rfl ?_
      refine G.iconst (v := (0 : Int32)) dX8_readSinger_62 (by decide) ?_
      refine G.bipush (v := (99 : Int32)) dX8_readSinger_63 (by decide) ?_
      obtain ⟨x18, h16, e17, hf⟩ := bT1_spec hf
      refine G.callVi (M' := mX8_readNumber) (ci := 7) (As := [.int (0 : Int32), .int (99 : Int32)]) (st := [.int x1, .ref r15]) okX8_readNumber viX8_readNumber lkX8_57 rfl rfl rfl (Nat.le_of_ble_eq_true rfl) (Nat.le_of_ble_eq_true rfl) dX8_readSinger_65 (c_X8_readNumber X d _ _ _ _ _ _ e17).1 (c_X8_readNumber X d _ _ _ _ _ _ e17).2 ?_
      refine G.iast dX8_readSinger_68 hf (fun h19 hf => ?_)
      refine G.aload_n dX8_readSinger_69 rfl ?_
      refine G.getr flX8_80 dX8_readSinger_70 hf (fun r20 hf => ?_)
      refine G.iload_n dX8_readSinger_73 rfl ?_
      refine G.aload_n dX8_readSinger_74 rfl ?_
      refine G.iconst (v := (0 : Int32)) dX8_readSinger_75 (by decide) ?_
      refine G.aload_n dX8_readSinger_76 rfl ?_
      refine G.geti flX8_40 dX8_readSinger_77 hf (fun x21 hf => ?_)
      refine G.iconst (v := (1 : Int32)) dX8_readSinger_80 (by decide) ?_
      refine G.isub dX8_readSinger_81 ?_
      obtain ⟨x24, h22, e23, hf⟩ := bT1_spec hf
      refine G.callVi (M' := mX8_readNumber) (ci := 7) (As := [.int (0 : Int32), .int (x21 - (1 : Int32))]) (st := [.int x1, .ref r20]) okX8_readNumber viX8_readNumber lkX8_57 rfl rfl rfl (Nat.le_of_ble_eq_true rfl) (Nat.le_of_ble_eq_true rfl) dX8_readSinger_82 (c_X8_readNumber X d _ _ _ _ _ _ e23).1 (c_X8_readNumber X d _ _ _ _ _ _ e23).2 ?_
      refine G.iast dX8_readSinger_85 hf (fun h25 hf => ?_)
      refine G.aload_n dX8_readSinger_86 rfl ?_
      obtain ⟨h26, e27, hf⟩ := Option.bind_eq_some_iff.mp hf
      refine G.callVv (M' := mX8_readEnd) (ci := 7) (As := []) (st := []) okX8_readEnd viX8_readEnd lkX8_61 rfl rfl rfl (Nat.le_of_ble_eq_true rfl) (Nat.le_of_ble_eq_true rfl) dX8_readSinger_87 (c_X8_readEnd X d _ _ _ e27).1 (c_X8_readEnd X d _ _ _ e27).2 ?_
      refine G.aload_n dX8_readSinger_90 rfl ?_
      refine G.dup dX8_readSinger_91 rfl ?_
      refine G.geti flX8_67 dX8_readSinger_92 hf (fun x28 hf => ?_)
      refine G.iconst (v := (1 : Int32)) dX8_readSinger_95 (by decide) ?_
      refine G.iadd dX8_readSinger_96 ?_
      refine G.put flX8_67 (Or.inl rfl) (fun _ _ => ⟨rfl, rfl⟩) dX8_readSinger_97 hf (fun h29 hf => ?_)
      have hq := Option.some.inj hf
      subst hq
      exact G.vret rfl dX8_readSinger_100
    · rw [if_neg c2] at hf
      refine G.aload_n dX8_readSinger_11 rfl ?_
      refine G.iconst (v := (3 : Int32)) dX8_readSinger_12 (by decide) ?_
      refine G.aload_n dX8_readSinger_13 rfl ?_
      refine G.geti flX8_27 dX8_readSinger_14 hf (fun x30 hf => ?_)
      obtain ⟨h31, e32, hf⟩ := Option.bind_eq_some_iff.mp hf
      refine G.callVv (M' := mX8_blame) (ci := 7) (As := [.int (3 : Int32), .int x30]) (st := []) okX8_blame viX8_blame lkX8_53 rfl rfl rfl (Nat.le_of_ble_eq_true rfl) (Nat.le_of_ble_eq_true rfl) dX8_readSinger_17 (c_X8_blame X (d + 1) _ _ _ _ _ e32).1 (c_X8_blame X (d + 1) _ _ _ _ _ e32).2 ?_
      have hq := Option.some.inj hf
      subst hq
      exact G.vret rfl dX8_readSinger_20
  · rw [if_neg ho] at hf
    cases hf
