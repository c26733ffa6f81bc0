/-! X13_reads -/
theorem dX13_reads_0 : decode cX13_reads 0 = .ok (.aload_n 0, 1) := by decide +kernel
theorem dX13_reads_1 : decode cX13_reads 1 = .ok (.iconst 0, 1) := by decide +kernel
theorem dX13_reads_2 : decode cX13_reads 2 = .ok (.putfield 86, 3) := by decide +kernel
theorem dX13_reads_5 : decode cX13_reads 5 = .ok (.aload_n 0, 1) := by decide +kernel
theorem dX13_reads_6 : decode cX13_reads 6 = .ok (.iconst 0, 1) := by decide +kernel
theorem dX13_reads_7 : decode cX13_reads 7 = .ok (.putfield 89, 3) := by decide +kernel
theorem dX13_reads_10 : decode cX13_reads 10 = .ok (.aload_n 0, 1) := by decide +kernel
theorem dX13_reads_11 : decode cX13_reads 11 = .ok (.iconst (-1), 1) := by decide +kernel
theorem dX13_reads_12 : decode cX13_reads 12 = .ok (.putfield 13, 3) := by decide +kernel
theorem dX13_reads_15 : decode cX13_reads 15 = .ok (.aload_n 0, 1) := by decide +kernel
theorem dX13_reads_16 : decode cX13_reads 16 = .ok (.iconst 0, 1) := by decide +kernel
theorem dX13_reads_17 : decode cX13_reads 17 = .ok (.putfield 113, 3) := by decide +kernel
theorem dX13_reads_20 : decode cX13_reads 20 = .ok (.aload_n 0, 1) := by decide +kernel
theorem dX13_reads_21 : decode cX13_reads 21 = .ok (.iconst 0, 1) := by decide +kernel
theorem dX13_reads_22 : decode cX13_reads 22 = .ok (.putfield 116, 3) := by decide +kernel
theorem dX13_reads_25 : decode cX13_reads 25 = .ok (.aload_n 0, 1) := by decide +kernel
theorem dX13_reads_26 : decode cX13_reads 26 = .ok (.iconst 0, 1) := by decide +kernel
theorem dX13_reads_27 : decode cX13_reads 27 = .ok (.putfield 103, 3) := by decide +kernel
theorem dX13_reads_30 : decode cX13_reads 30 = .ok (.aload_n 0, 1) := by decide +kernel
theorem dX13_reads_31 : decode cX13_reads 31 = .ok (.iconst 0, 1) := by decide +kernel
theorem dX13_reads_32 : decode cX13_reads 32 = .ok (.putfield 106, 3) := by decide +kernel
theorem dX13_reads_35 : decode cX13_reads 35 = .ok (.iconst 1, 1) := by decide +kernel
theorem dX13_reads_36 : decode cX13_reads 36 = .ok (.istore_n 1, 1) := by decide +kernel
theorem dX13_reads_37 : decode cX13_reads 37 = .ok (.aload_n 0, 1) := by decide +kernel
theorem dX13_reads_38 : decode cX13_reads 38 = .ok (.invokevirtual 92, 3) := by decide +kernel
theorem dX13_reads_41 : decode cX13_reads 41 = .ok (.aload_n 0, 1) := by decide +kernel
theorem dX13_reads_42 : decode cX13_reads 42 = .ok (.getfield 89, 3) := by decide +kernel
theorem dX13_reads_45 : decode cX13_reads 45 = .ok (.ifCond .ne 28, 3) := by decide +kernel
theorem dX13_reads_48 : decode cX13_reads 48 = .ok (.aload_n 0, 1) := by decide +kernel
theorem dX13_reads_49 : decode cX13_reads 49 = .ok (.getfield 86, 3) := by decide +kernel
theorem dX13_reads_52 : decode cX13_reads 52 = .ok (.aload_n 0, 1) := by decide +kernel
theorem dX13_reads_53 : decode cX13_reads 53 = .ok (.getfield 82, 3) := by decide +kernel
theorem dX13_reads_56 : decode cX13_reads 56 = .ok (.if_icmp .ge 17, 3) := by decide +kernel
theorem dX13_reads_59 : decode cX13_reads 59 = .ok (.aload_n 0, 1) := by decide +kernel
theorem dX13_reads_60 : decode cX13_reads 60 = .ok (.iload_n 1, 1) := by decide +kernel
theorem dX13_reads_61 : decode cX13_reads 61 = .ok (.invokevirtual 119, 3) := by decide +kernel
theorem dX13_reads_64 : decode cX13_reads 64 = .ok (.iconst 0, 1) := by decide +kernel
theorem dX13_reads_65 : decode cX13_reads 65 = .ok (.istore_n 1, 1) := by decide +kernel
theorem dX13_reads_66 : decode cX13_reads 66 = .ok (.aload_n 0, 1) := by decide +kernel
theorem dX13_reads_67 : decode cX13_reads 67 = .ok (.invokevirtual 92, 3) := by decide +kernel
theorem dX13_reads_70 : decode cX13_reads 70 = .ok (.goto (-29), 3) := by decide +kernel
theorem dX13_reads_73 : decode cX13_reads 73 = .ok (.return_, 1) := by decide +kernel
def F_X13_reads_L41 (rec : Nat → Int32 → AH → Option (AH)) (v0 : Nat) (v1 : Int32) (h : AH) : Option (AH) := (gi h 12 v0 23).bind fun x1 => if x1 = 0 then ((gi h 12 v0 22).bind fun x3 => (gi h 12 v0 1).bind fun x4 => if x4 ≤ x3 then (some (h)) else ((f_X13_clause v0 v1 h).bind fun h6 => (f_X13_skips v0 h6).bind fun h8 => rec v0 (0 : Int32) h8)) else (some (h))
def f_X13_reads_L41 : Nat → Nat → Int32 → AH → Option (AH)
  | 0 => fun _ _ _ => none
  | n + 1 => F_X13_reads_L41 (f_X13_reads_L41 n)
set_option maxRecDepth 100000 in
set_option maxHeartbeats 4000000 in
theorem lx_X13_reads_L41 (X : SX) (d : Nat) : ∀ n (rv : Option Int32) (h' : AH), ∀ (v0 : Nat) (v1 : Int32) (h : AH)  (h1 : AH), f_X13_reads_L41 n v0 v1 h = some (h1) → G X mX13_reads (d + 3) 73 [] [] h1 rv h' → G X mX13_reads (d + 3) 41 [(0, .ref v0), (1, .int v1)] [] h rv h' := by
  intro n
  induction n with
  | zero =>
    intro rv h' v0 v1 h h1 hf hE
    cases hf
  | succ n ihf =>
    intro rv h' v0 v1 h h1 hf hE
    replace hf : F_X13_reads_L41 (f_X13_reads_L41 n) v0 v1 h = some (h1) := hf
    unfold F_X13_reads_L41 at hf
    have ih := ihf rv h'
    refine G.aload_n dX13_reads_41 rfl ?_
    refine G.geti flX13_89 dX13_reads_42 hf (fun x1 hf => ?_)
    refine G.if_ne 73 dX13_reads_45 (by decide) (fun c2 => ?_) (fun c2 => ?_)
    · rw [if_neg c2] at hf
      have w0 := Option.some.inj hf
      subst w0
      exact G.pick [] rfl hE
    · rw [if_pos c2] at hf
      refine G.aload_n dX13_reads_48 rfl ?_
      refine G.geti flX13_86 dX13_reads_49 hf (fun x3 hf => ?_)
      refine G.aload_n dX13_reads_52 rfl ?_
      refine G.geti flX13_82 dX13_reads_53 hf (fun x4 hf => ?_)
      refine G.icmp_ge 73 dX13_reads_56 (by decide) (fun c5 => ?_) (fun c5 => ?_)
      · rw [if_pos c5] at hf
        have w0 := Option.some.inj hf
        subst w0
        exact G.pick [] rfl hE
      · rw [if_neg c5] at hf
        refine G.aload_n dX13_reads_59 rfl ?_
        refine G.iload_n dX13_reads_60 rfl ?_
        obtain ⟨h6, e7, hf⟩ := Option.bind_eq_some_iff.mp hf
        refine G.callVv (M' := mX13_clause) (ci := 12) (As := [.int v1]) (st := []) okX13_clause viX13_clause lkX13_119 rfl rfl rfl (Nat.le_of_ble_eq_true rfl) (Nat.le_of_ble_eq_true rfl) dX13_reads_61 (c_X13_clause X d _ _ _ _ e7).1 (c_X13_clause X d _ _ _ _ e7).2 ?_
        refine G.iconst (v := (0 : Int32)) dX13_reads_64 (by decide) ?_
        refine G.istore_n (lv' := [(1, .int (0 : Int32)), (0, .ref v0)]) dX13_reads_65 (by decide) rfl ?_
        refine G.aload_n dX13_reads_66 rfl ?_
        obtain ⟨h8, e9, hf⟩ := Option.bind_eq_some_iff.mp hf
        refine G.callVv (M' := mX13_skips) (ci := 12) (As := []) (st := []) okX13_skips viX13_skips lkX13_92 rfl rfl rfl (Nat.le_of_ble_eq_true rfl) (Nat.le_of_ble_eq_true rfl) dX13_reads_67 (c_X13_skips X (d + 2) _ _ _ e9).1 (c_X13_skips X (d + 2) _ _ _ e9).2 ?_
        refine G.goto 41 dX13_reads_70 (by decide) ?_
        exact G.pick [1, 0] rfl (ih v0 (0 : Int32) h8 _ hf hE)
theorem l_X13_reads_L41 (X : SX) (d : Nat) (rv : Option Int32) (h' : AH) (n : Nat) : ∀ (v0 : Nat) (v1 : Int32) (h : AH)  (h1 : AH), f_X13_reads_L41 n v0 v1 h = some (h1) → G X mX13_reads (d + 3) 73 [] [] h1 rv h' → G X mX13_reads (d + 3) 41 [(0, .ref v0), (1, .int v1)] [] h rv h' := lx_X13_reads_L41 X d n rv h'
def f_X13_reads (a0 : Nat) (h : AH) : Option (AH) := if isO h 12 a0 = true then ((pf h 12 a0 22 (.int (0 : Int32))).bind fun h1 => (pf h1 12 a0 23 (.int (0 : Int32))).bind fun h2 => (pf h2 12 a0 2 (.int (-1 : Int32))).bind fun h3 => (pf h3 12 a0 24 (.int (0 : Int32))).bind fun h4 => (pf h4 12 a0 25 (.int (0 : Int32))).bind fun h5 => (pf h5 12 a0 26 (.int (0 : Int32))).bind fun h6 => (pf h6 12 a0 27 (.int (0 : Int32))).bind fun h7 => (f_X13_skips a0 h7).bind fun h8 => (f_X13_reads_L41 1000000 a0 (1 : Int32) h8).bind fun h10 => some h10) else none
set_option maxRecDepth 100000 in
set_option maxHeartbeats 4000000 in
theorem c_X13_reads (X : SX) (d : Nat) (a0 : Nat) (h : AH) (h' : AH) (hf : f_X13_reads a0 h = some h') : isO h 12 a0 = true ∧ G X mX13_reads (d + 3) 0 [(0, .ref a0)] [] h none h' := by
  unfold f_X13_reads at hf
  by_cases ho : isO h 12 a0 = true
  · rw [if_pos ho] at hf
    refine ⟨ho, ?_⟩
    refine G.aload_n dX13_reads_0 rfl ?_
    refine G.iconst (v := (0 : Int32)) dX13_reads_1 (by decide) ?_
    refine G.put flX13_86 (Or.inl rfl) (fun _ _ => ⟨rfl, rfl⟩) dX13_reads_2 hf (fun h1 hf => ?_)
    refine G.aload_n dX13_reads_5 rfl ?_
    refine G.iconst (v := (0 : Int32)) dX13_reads_6 (by decide) ?_
    refine G.put flX13_89 (Or.inl rfl) (fun _ _ => ⟨rfl, rfl⟩) dX13_reads_7 hf (fun h2 hf => ?_)
    refine G.aload_n dX13_reads_10 rfl ?_
    refine G.iconst (v := (-1 : Int32)) dX13_reads_11 (by decide) ?_
    refine G.put flX13_13 (Or.inl rfl) (fun _ _ => ⟨rfl, rfl⟩) dX13_reads_12 hf (fun h3 hf => ?_)
    refine G.aload_n dX13_reads_15 rfl ?_
    refine G.iconst (v := (0 : Int32)) dX13_reads_16 (by decide) ?_
    refine G.put flX13_113 (Or.inl rfl) (fun _ _ => ⟨rfl, rfl⟩) dX13_reads_17 hf (fun h4 hf => ?_)
    refine G.aload_n dX13_reads_20 rfl ?_
    refine G.iconst (v := (0 : Int32)) dX13_reads_21 (by decide) ?_
    refine G.put flX13_116 (Or.inl rfl) (fun _ _ => ⟨rfl, rfl⟩) dX13_reads_22 hf (fun h5 hf => ?_)
    refine G.aload_n dX13_reads_25 rfl ?_
    refine G.iconst (v := (0 : Int32)) dX13_reads_26 (by decide) ?_
    refine G.put flX13_103 (Or.inl rfl) (fun _ _ => ⟨rfl, rfl⟩) dX13_reads_27 hf (fun h6 hf => ?_)
    refine G.aload_n dX13_reads_30 rfl ?_
    refine G.iconst (v := (0 : Int32)) dX13_reads_31 (by decide) ?_
    refine G.put flX13_106 (Or.inl rfl) (fun _ _ => ⟨rfl, rfl⟩) dX13_reads_32 hf (fun h7 hf => ?_)
    refine G.iconst (v := (1 : Int32)) dX13_reads_35 (by decide) ?_
    refine G.istore_n (lv' := [(1, .int (1 : Int32)), (0, .ref a0)]) dX13_reads_36 (by decide) rfl ?_
    refine G.aload_n dX13_reads_37 rfl ?_
    obtain ⟨h8, e9, hf⟩ := Option.bind_eq_some_iff.mp hf
    refine G.callVv (M' := mX13_skips) (ci := 12) (As := []) (st := []) okX13_skips viX13_skips lkX13_92 rfl rfl rfl (Nat.le_of_ble_eq_true rfl) (Nat.le_of_ble_eq_true rfl) dX13_reads_38 (c_X13_skips X (d + 2) _ _ _ e9).1 (c_X13_skips X (d + 2) _ _ _ e9).2 ?_
    obtain ⟨h10, e11, hf⟩ := Option.bind_eq_some_iff.mp hf
    refine G.pick [1, 0] rfl (l_X13_reads_L41 X d _ _ 1000000 a0 (1 : Int32) h8 h10 e11 ?_)
    have hq := Option.some.inj hf
    subst hq
    exact G.vret rfl dX13_reads_73
  · rw [if_neg ho] at hf
    cases hf
/-! X13_row -/
theorem dX13_row_0 : decode cX13_row 0 = .ok (.aload_n 0, 1) := by decide +kernel
theorem dX13_row_1 : decode cX13_row 1 = .ok (.invokevirtual 123, 3) := by decide +kernel
theorem dX13_row_4 : decode cX13_row 4 = .ok (.aload_n 0, 1) := by decide +kernel
theorem dX13_row_5 : decode cX13_row 5 = .ok (.iconst 0, 1) := by decide +kernel
theorem dX13_row_6 : decode cX13_row 6 = .ok (.putfield 82, 3) := by decide +kernel
theorem dX13_row_9 : decode cX13_row 9 = .ok (.aload_n 0, 1) := by decide +kernel
theorem dX13_row_10 : decode cX13_row 10 = .ok (.getfield 89, 3) := by decide +kernel
theorem dX13_row_13 : decode cX13_row 13 = .ok (.ifCond .eq 11, 3) := by decide +kernel
theorem dX13_row_16 : decode cX13_row 16 = .ok (.bipush (-10), 2) := by decide +kernel
theorem dX13_row_18 : decode cX13_row 18 = .ok (.aload_n 0, 1) := by decide +kernel
theorem dX13_row_19 : decode cX13_row 19 = .ok (.getfield 89, 3) := by decide +kernel
theorem dX13_row_22 : decode cX13_row 22 = .ok (.isub, 1) := by decide +kernel
theorem dX13_row_23 : decode cX13_row 23 = .ok (.ireturn, 1) := by decide +kernel
theorem dX13_row_24 : decode cX13_row 24 = .ok (.aload_n 0, 1) := by decide +kernel
theorem dX13_row_25 : decode cX13_row 25 = .ok (.aload_n 0, 1) := by decide +kernel
theorem dX13_row_26 : decode cX13_row 26 = .ok (.getfield 113, 3) := by decide +kernel
theorem dX13_row_29 : decode cX13_row 29 = .ok (.putfield 126, 3) := by decide +kernel
theorem dX13_row_32 : decode cX13_row 32 = .ok (.aload_n 0, 1) := by decide +kernel
theorem dX13_row_33 : decode cX13_row 33 = .ok (.aload_n 0, 1) := by decide +kernel
theorem dX13_row_34 : decode cX13_row 34 = .ok (.getfield 116, 3) := by decide +kernel
theorem dX13_row_37 : decode cX13_row 37 = .ok (.putfield 129, 3) := by decide +kernel
theorem dX13_row_40 : decode cX13_row 40 = .ok (.aload_n 0, 1) := by decide +kernel
theorem dX13_row_41 : decode cX13_row 41 = .ok (.aload_n 0, 1) := by decide +kernel
theorem dX13_row_42 : decode cX13_row 42 = .ok (.getfield 103, 3) := by decide +kernel
theorem dX13_row_45 : decode cX13_row 45 = .ok (.putfield 75, 3) := by decide +kernel
theorem dX13_row_48 : decode cX13_row 48 = .ok (.aload_n 0, 1) := by decide +kernel
theorem dX13_row_49 : decode cX13_row 49 = .ok (.aload_n 0, 1) := by decide +kernel
theorem dX13_row_50 : decode cX13_row 50 = .ok (.getfield 106, 3) := by decide +kernel
theorem dX13_row_53 : decode cX13_row 53 = .ok (.putfield 78, 3) := by decide +kernel
theorem dX13_row_56 : decode cX13_row 56 = .ok (.iconst 0, 1) := by decide +kernel
theorem dX13_row_57 : decode cX13_row 57 = .ok (.istore_n 1, 1) := by decide +kernel
theorem dX13_row_58 : decode cX13_row 58 = .ok (.iload_n 1, 1) := by decide +kernel
theorem dX13_row_59 : decode cX13_row 59 = .ok (.bipush 51, 2) := by decide +kernel
theorem dX13_row_61 : decode cX13_row 61 = .ok (.if_icmp .ge 16, 3) := by decide +kernel
theorem dX13_row_64 : decode cX13_row 64 = .ok (.aload_n 0, 1) := by decide +kernel
theorem dX13_row_65 : decode cX13_row 65 = .ok (.getfield 29, 3) := by decide +kernel
theorem dX13_row_68 : decode cX13_row 68 = .ok (.iload_n 1, 1) := by decide +kernel
theorem dX13_row_69 : decode cX13_row 69 = .ok (.iconst 0, 1) := by decide +kernel
theorem dX13_row_70 : decode cX13_row 70 = .ok (.iastore, 1) := by decide +kernel
theorem dX13_row_71 : decode cX13_row 71 = .ok (.iinc 1 1, 3) := by decide +kernel
theorem dX13_row_74 : decode cX13_row 74 = .ok (.goto (-16), 3) := by decide +kernel
theorem dX13_row_77 : decode cX13_row 77 = .ok (.iconst 0, 1) := by decide +kernel
theorem dX13_row_78 : decode cX13_row 78 = .ok (.istore_n 1, 1) := by decide +kernel
theorem dX13_row_79 : decode cX13_row 79 = .ok (.iload_n 1, 1) := by decide +kernel
theorem dX13_row_80 : decode cX13_row 80 = .ok (.aload_n 0, 1) := by decide +kernel
theorem dX13_row_81 : decode cX13_row 81 = .ok (.getfield 75, 3) := by decide +kernel
theorem dX13_row_84 : decode cX13_row 84 = .ok (.if_icmp .ge 101, 3) := by decide +kernel
theorem dX13_row_87 : decode cX13_row 87 = .ok (.aload_n 0, 1) := by decide +kernel
theorem dX13_row_88 : decode cX13_row 88 = .ok (.getfield 17, 3) := by decide +kernel
theorem dX13_row_91 : decode cX13_row 91 = .ok (.iload_n 1, 1) := by decide +kernel
theorem dX13_row_92 : decode cX13_row 92 = .ok (.aload_n 0, 1) := by decide +kernel
theorem dX13_row_93 : decode cX13_row 93 = .ok (.getfield 51, 3) := by decide +kernel
theorem dX13_row_96 : decode cX13_row 96 = .ok (.iload_n 1, 1) := by decide +kernel
theorem dX13_row_97 : decode cX13_row 97 = .ok (.iaload, 1) := by decide +kernel
theorem dX13_row_98 : decode cX13_row 98 = .ok (.iastore, 1) := by decide +kernel
theorem dX13_row_99 : decode cX13_row 99 = .ok (.aload_n 0, 1) := by decide +kernel
theorem dX13_row_100 : decode cX13_row 100 = .ok (.getfield 29, 3) := by decide +kernel
theorem dX13_row_103 : decode cX13_row 103 = .ok (.iconst 0, 1) := by decide +kernel
theorem dX13_row_104 : decode cX13_row 104 = .ok (.iload_n 1, 1) := by decide +kernel
theorem dX13_row_105 : decode cX13_row 105 = .ok (.iadd, 1) := by decide +kernel
theorem dX13_row_106 : decode cX13_row 106 = .ok (.aload_n 0, 1) := by decide +kernel
theorem dX13_row_107 : decode cX13_row 107 = .ok (.getfield 51, 3) := by decide +kernel
theorem dX13_row_110 : decode cX13_row 110 = .ok (.bipush 6, 2) := by decide +kernel
theorem dX13_row_112 : decode cX13_row 112 = .ok (.iload_n 1, 1) := by decide +kernel
theorem dX13_row_113 : decode cX13_row 113 = .ok (.iadd, 1) := by decide +kernel
theorem dX13_row_114 : decode cX13_row 114 = .ok (.iaload, 1) := by decide +kernel
theorem dX13_row_115 : decode cX13_row 115 = .ok (.iastore, 1) := by decide +kernel
theorem dX13_row_116 : decode cX13_row 116 = .ok (.aload_n 0, 1) := by decide +kernel
theorem dX13_row_117 : decode cX13_row 117 = .ok (.getfield 29, 3) := by decide +kernel
theorem dX13_row_120 : decode cX13_row 120 = .ok (.bipush 6, 2) := by decide +kernel
theorem dX13_row_122 : decode cX13_row 122 = .ok (.iload_n 1, 1) := by decide +kernel
theorem dX13_row_123 : decode cX13_row 123 = .ok (.iadd, 1) := by decide +kernel
theorem dX13_row_124 : decode cX13_row 124 = .ok (.iconst 2, 1) := by decide +kernel
theorem dX13_row_125 : decode cX13_row 125 = .ok (.aload_n 0, 1) := by decide +kernel
theorem dX13_row_126 : decode cX13_row 126 = .ok (.getfield 51, 3) := by decide +kernel
theorem dX13_row_129 : decode cX13_row 129 = .ok (.bipush 12, 2) := by decide +kernel
theorem dX13_row_131 : decode cX13_row 131 = .ok (.iload_n 1, 1) := by decide +kernel
theorem dX13_row_132 : decode cX13_row 132 = .ok (.iadd, 1) := by decide +kernel
theorem dX13_row_133 : decode cX13_row 133 = .ok (.iaload, 1) := by decide +kernel
theorem dX13_row_134 : decode cX13_row 134 = .ok (.imul, 1) := by decide +kernel
theorem dX13_row_135 : decode cX13_row 135 = .ok (.iastore, 1) := by decide +kernel
theorem dX13_row_136 : decode cX13_row 136 = .ok (.aload_n 0, 1) := by decide +kernel
theorem dX13_row_137 : decode cX13_row 137 = .ok (.getfield 20, 3) := by decide +kernel
theorem dX13_row_140 : decode cX13_row 140 = .ok (.iload_n 1, 1) := by decide +kernel
theorem dX13_row_141 : decode cX13_row 141 = .ok (.aload_n 0, 1) := by decide +kernel
theorem dX13_row_142 : decode cX13_row 142 = .ok (.getfield 51, 3) := by decide +kernel
theorem dX13_row_145 : decode cX13_row 145 = .ok (.bipush 18, 2) := by decide +kernel
theorem dX13_row_147 : decode cX13_row 147 = .ok (.iload_n 1, 1) := by decide +kernel
theorem dX13_row_148 : decode cX13_row 148 = .ok (.iadd, 1) := by decide +kernel
theorem dX13_row_149 : decode cX13_row 149 = .ok (.iaload, 1) := by decide +kernel
theorem dX13_row_150 : decode cX13_row 150 = .ok (.iastore, 1) := by decide +kernel
theorem dX13_row_151 : decode cX13_row 151 = .ok (.aload_n 0, 1) := by decide +kernel
theorem dX13_row_152 : decode cX13_row 152 = .ok (.getfield 29, 3) := by decide +kernel
theorem dX13_row_155 : decode cX13_row 155 = .ok (.bipush 12, 2) := by decide +kernel
theorem dX13_row_157 : decode cX13_row 157 = .ok (.iload_n 1, 1) := by decide +kernel
theorem dX13_row_158 : decode cX13_row 158 = .ok (.iadd, 1) := by decide +kernel
theorem dX13_row_159 : decode cX13_row 159 = .ok (.aload_n 0, 1) := by decide +kernel
theorem dX13_row_160 : decode cX13_row 160 = .ok (.getfield 20, 3) := by decide +kernel
theorem dX13_row_163 : decode cX13_row 163 = .ok (.iload_n 1, 1) := by decide +kernel
theorem dX13_row_164 : decode cX13_row 164 = .ok (.iaload, 1) := by decide +kernel
theorem dX13_row_165 : decode cX13_row 165 = .ok (.iastore, 1) := by decide +kernel
theorem dX13_row_166 : decode cX13_row 166 = .ok (.aload_n 0, 1) := by decide +kernel
theorem dX13_row_167 : decode cX13_row 167 = .ok (.getfield 29, 3) := by decide +kernel
theorem dX13_row_170 : decode cX13_row 170 = .ok (.bipush 18, 2) := by decide +kernel
theorem dX13_row_172 : decode cX13_row 172 = .ok (.iload_n 1, 1) := by decide +kernel
theorem dX13_row_173 : decode cX13_row 173 = .ok (.iadd, 1) := by decide +kernel
theorem dX13_row_174 : decode cX13_row 174 = .ok (.aload_n 0, 1) := by decide +kernel
theorem dX13_row_175 : decode cX13_row 175 = .ok (.getfield 129, 3) := by decide +kernel
theorem dX13_row_178 : decode cX13_row 178 = .ok (.iastore, 1) := by decide +kernel
theorem dX13_row_179 : decode cX13_row 179 = .ok (.iinc 1 1, 3) := by decide +kernel
theorem dX13_row_182 : decode cX13_row 182 = .ok (.goto (-103), 3) := by decide +kernel
theorem dX13_row_185 : decode cX13_row 185 = .ok (.iconst 0, 1) := by decide +kernel
theorem dX13_row_186 : decode cX13_row 186 = .ok (.istore_n 1, 1) := by decide +kernel
theorem dX13_row_187 : decode cX13_row 187 = .ok (.iload_n 1, 1) := by decide +kernel
theorem dX13_row_188 : decode cX13_row 188 = .ok (.aload_n 0, 1) := by decide +kernel
theorem dX13_row_189 : decode cX13_row 189 = .ok (.getfield 78, 3) := by decide +kernel
theorem dX13_row_192 : decode cX13_row 192 = .ok (.if_icmp .ge 57, 3) := by decide +kernel
theorem dX13_row_195 : decode cX13_row 195 = .ok (.aload_n 0, 1) := by decide +kernel
theorem dX13_row_196 : decode cX13_row 196 = .ok (.getfield 23, 3) := by decide +kernel
theorem dX13_row_199 : decode cX13_row 199 = .ok (.iload_n 1, 1) := by decide +kernel
theorem dX13_row_200 : decode cX13_row 200 = .ok (.aload_n 0, 1) := by decide +kernel
theorem dX13_row_201 : decode cX13_row 201 = .ok (.getfield 51, 3) := by decide +kernel
theorem dX13_row_204 : decode cX13_row 204 = .ok (.bipush 24, 2) := by decide +kernel
theorem dX13_row_206 : decode cX13_row 206 = .ok (.iload_n 1, 1) := by decide +kernel
theorem dX13_row_207 : decode cX13_row 207 = .ok (.iadd, 1) := by decide +kernel
theorem dX13_row_208 : decode cX13_row 208 = .ok (.iaload, 1) := by decide +kernel
theorem dX13_row_209 : decode cX13_row 209 = .ok (.iastore, 1) := by decide +kernel
theorem dX13_row_210 : decode cX13_row 210 = .ok (.aload_n 0, 1) := by decide +kernel
theorem dX13_row_211 : decode cX13_row 211 = .ok (.getfield 26, 3) := by decide +kernel
theorem dX13_row_214 : decode cX13_row 214 = .ok (.iload_n 1, 1) := by decide +kernel
theorem dX13_row_215 : decode cX13_row 215 = .ok (.aload_n 0, 1) := by decide +kernel
theorem dX13_row_216 : decode cX13_row 216 = .ok (.getfield 51, 3) := by decide +kernel
theorem dX13_row_219 : decode cX13_row 219 = .ok (.bipush 30, 2) := by decide +kernel
theorem dX13_row_221 : decode cX13_row 221 = .ok (.iload_n 1, 1) := by decide +kernel
theorem dX13_row_222 : decode cX13_row 222 = .ok (.iadd, 1) := by decide +kernel
theorem dX13_row_223 : decode cX13_row 223 = .ok (.iaload, 1) := by decide +kernel
theorem dX13_row_224 : decode cX13_row 224 = .ok (.iastore, 1) := by decide +kernel
theorem dX13_row_225 : decode cX13_row 225 = .ok (.aload_n 0, 1) := by decide +kernel
theorem dX13_row_226 : decode cX13_row 226 = .ok (.getfield 29, 3) := by decide +kernel
theorem dX13_row_229 : decode cX13_row 229 = .ok (.bipush 24, 2) := by decide +kernel
theorem dX13_row_231 : decode cX13_row 231 = .ok (.iload_n 1, 1) := by decide +kernel
theorem dX13_row_232 : decode cX13_row 232 = .ok (.iadd, 1) := by decide +kernel
theorem dX13_row_233 : decode cX13_row 233 = .ok (.aload_n 0, 1) := by decide +kernel
theorem dX13_row_234 : decode cX13_row 234 = .ok (.getfield 51, 3) := by decide +kernel
theorem dX13_row_237 : decode cX13_row 237 = .ok (.bipush 36, 2) := by decide +kernel
theorem dX13_row_239 : decode cX13_row 239 = .ok (.iload_n 1, 1) := by decide +kernel
theorem dX13_row_240 : decode cX13_row 240 = .ok (.iadd, 1) := by decide +kernel
theorem dX13_row_241 : decode cX13_row 241 = .ok (.iaload, 1) := by decide +kernel
theorem dX13_row_242 : decode cX13_row 242 = .ok (.iastore, 1) := by decide +kernel
theorem dX13_row_243 : decode cX13_row 243 = .ok (.iinc 1 1, 3) := by decide +kernel
theorem dX13_row_246 : decode cX13_row 246 = .ok (.goto (-59), 3) := by decide +kernel
theorem dX13_row_249 : decode cX13_row 249 = .ok (.aload_n 0, 1) := by decide +kernel
theorem dX13_row_250 : decode cX13_row 250 = .ok (.iconst 0, 1) := by decide +kernel
theorem dX13_row_251 : decode cX13_row 251 = .ok (.putfield 132, 3) := by decide +kernel
theorem dX13_row_254 : decode cX13_row 254 = .ok (.aload_n 0, 1) := by decide +kernel
theorem dX13_row_255 : decode cX13_row 255 = .ok (.iconst 0, 1) := by decide +kernel
theorem dX13_row_256 : decode cX13_row 256 = .ok (.putfield 135, 3) := by decide +kernel
theorem dX13_row_259 : decode cX13_row 259 = .ok (.aload_n 0, 1) := by decide +kernel
theorem dX13_row_260 : decode cX13_row 260 = .ok (.iconst 0, 1) := by decide +kernel
theorem dX13_row_261 : decode cX13_row 261 = .ok (.putfield 138, 3) := by decide +kernel
theorem dX13_row_264 : decode cX13_row 264 = .ok (.aload_n 0, 1) := by decide +kernel
theorem dX13_row_265 : decode cX13_row 265 = .ok (.getfield 42, 3) := by decide +kernel
theorem dX13_row_268 : decode cX13_row 268 = .ok (.iconst 0, 1) := by decide +kernel
theorem dX13_row_269 : decode cX13_row 269 = .ok (.iconst 0, 1) := by decide +kernel
theorem dX13_row_270 : decode cX13_row 270 = .ok (.iastore, 1) := by decide +kernel
theorem dX13_row_271 : decode cX13_row 271 = .ok (.aload_n 0, 1) := by decide +kernel
theorem dX13_row_272 : decode cX13_row 272 = .ok (.getfield 42, 3) := by decide +kernel
theorem dX13_row_275 : decode cX13_row 275 = .ok (.iconst 1, 1) := by decide +kernel
theorem dX13_row_276 : decode cX13_row 276 = .ok (.iconst 0, 1) := by decide +kernel
theorem dX13_row_277 : decode cX13_row 277 = .ok (.iastore, 1) := by decide +kernel
theorem dX13_row_278 : decode cX13_row 278 = .ok (.aload_n 0, 1) := by decide +kernel
theorem dX13_row_279 : decode cX13_row 279 = .ok (.getfield 75, 3) := by decide +kernel
theorem dX13_row_282 : decode cX13_row 282 = .ok (.ireturn, 1) := by decide +kernel
def F_X13_row_L58 (rec : Nat → Int32 → AH → Option (AH)) (v0 : Nat) (v1 : Int32) (h : AH) : Option (AH) := if (51 : Int32) ≤ v1 then (some (h)) else ((gr h 12 v0 11).bind fun r2 => (aw h 0 r2 v1 (0 : Int32)).bind fun h3 => rec v0 (v1 + 1) h3)
def f_X13_row_L58 : Nat → Nat → Int32 → AH → Option (AH)
  | 0 => fun _ _ _ => none
  | n + 1 => F_X13_row_L58 (f_X13_row_L58 n)
set_option maxRecDepth 100000 in
set_option maxHeartbeats 4000000 in
theorem lx_X13_row_L58 (X : SX) (d : Nat) : ∀ n (rv : Option Int32) (h' : AH), ∀ (v0 : Nat) (v1 : Int32) (h : AH)  (h1 : AH), f_X13_row_L58 n v0 v1 h = some (h1) → G X mX13_row (d + 4) 77 [(0, .ref v0)] [] h1 rv h' → G X mX13_row (d + 4) 58 [(0, .ref v0), (1, .int v1)] [] h rv h' := by
  intro n
  induction n with
  | zero =>
    intro rv h' v0 v1 h h1 hf hE
    cases hf
  | succ n ihf =>
    intro rv h' v0 v1 h h1 hf hE
    replace hf : F_X13_row_L58 (f_X13_row_L58 n) v0 v1 h = some (h1) := hf
    unfold F_X13_row_L58 at hf
    have ih := ihf rv h'
    refine G.iload_n dX13_row_58 rfl ?_
    refine G.bipush (v := (51 : Int32)) dX13_row_59 (by decide) ?_
    refine G.icmp_ge 77 dX13_row_61 (by decide) (fun c1 => ?_) (fun c1 => ?_)
    · rw [if_pos c1] at hf
      have w0 := Option.some.inj hf
      subst w0
      exact G.pick [0] rfl hE
    · rw [if_neg c1] at hf
      refine G.aload_n dX13_row_64 rfl ?_
      refine G.getr flX13_29 dX13_row_65 hf (fun r2 hf => ?_)
      refine G.iload_n dX13_row_68 rfl ?_
      refine G.iconst (v := (0 : Int32)) dX13_row_69 (by decide) ?_
      refine G.iast dX13_row_70 hf (fun h3 hf => ?_)
      refine G.iinc (v := (v1 + 1)) (lv' := [(1, .int (v1 + 1)), (0, .ref v0)]) dX13_row_71 rfl rfl (by decide) rfl ?_
      refine G.goto 58 dX13_row_74 (by decide) ?_
      exact G.pick [1, 0] rfl (ih v0 (v1 + 1) h3 _ hf hE)
theorem l_X13_row_L58 (X : SX) (d : Nat) (rv : Option Int32) (h' : AH) (n : Nat) : ∀ (v0 : Nat) (v1 : Int32) (h : AH)  (h1 : AH), f_X13_row_L58 n v0 v1 h = some (h1) → G X mX13_row (d + 4) 77 [(0, .ref v0)] [] h1 rv h' → G X mX13_row (d + 4) 58 [(0, .ref v0), (1, .int v1)] [] h rv h' := lx_X13_row_L58 X d n rv h'
def F_X13_row_L79 (rec : Nat → Int32 → AH → Option (AH)) (v0 : Nat) (v1 : Int32) (h : AH) : Option (AH) := (gi h 12 v0 5).bind fun x1 => if x1 ≤ v1 then (some (h)) else ((gr h 12 v0 7).bind fun r3 => (gr h 12 v0 28).bind fun r4 => (ai h 0 r4 v1).bind fun x5 => (aw h 0 r3 v1 x5).bind fun h6 => (gr h6 12 v0 11).bind fun r7 => (gr h6 12 v0 28).bind fun r8 => (ai h6 0 r8 ((6 : Int32) + v1)).bind fun x9 => (aw h6 0 r7 ((0 : Int32) + v1) x9).bind fun h10 => (gr h10 12 v0 11).bind fun r11 => (gr h10 12 v0 28).bind fun r12 => (ai h10 0 r12 ((12 : Int32) + v1)).bind fun x13 => (aw h10 0 r11 ((6 : Int32) + v1) ((2 : Int32) * x13)).bind fun h14 => (gr h14 12 v0 8).bind fun r15 => (gr h14 12 v0 28).bind fun r16 => (ai h14 0 r16 ((18 : Int32) + v1)).bind fun x17 => (aw h14 0 r15 v1 x17).bind fun h18 => (gr h18 12 v0 11).bind fun r19 => (gr h18 12 v0 8).bind fun r20 => (ai h18 0 r20 v1).bind fun x21 => (aw h18 0 r19 ((12 : Int32) + v1) x21).bind fun h22 => (gr h22 12 v0 11).bind fun r23 => (gi h22 12 v0 4).bind fun x24 => (aw h22 0 r23 ((18 : Int32) + v1) x24).bind fun h25 => rec v0 (v1 + 1) h25)
def f_X13_row_L79 : Nat → Nat → Int32 → AH → Option (AH)
  | 0 => fun _ _ _ => none
  | n + 1 => F_X13_row_L79 (f_X13_row_L79 n)
set_option maxRecDepth 100000 in
set_option maxHeartbeats 4000000 in
theorem lx_X13_row_L79 (X : SX) (d : Nat) : ∀ n (rv : Option Int32) (h' : AH), ∀ (v0 : Nat) (v1 : Int32) (h : AH)  (h1 : AH), f_X13_row_L79 n v0 v1 h = some (h1) → G X mX13_row (d + 4) 185 [(0, .ref v0)] [] h1 rv h' → G X mX13_row (d + 4) 79 [(0, .ref v0), (1, .int v1)] [] h rv h' := by
  intro n
  induction n with
  | zero =>
    intro rv h' v0 v1 h h1 hf hE
    cases hf
  | succ n ihf =>
    intro rv h' v0 v1 h h1 hf hE
    replace hf : F_X13_row_L79 (f_X13_row_L79 n) v0 v1 h = some (h1) := hf
    unfold F_X13_row_L79 at hf
    have ih := ihf rv h'
    refine G.iload_n dX13_row_79 rfl ?_
    refine G.aload_n dX13_row_80 rfl ?_
    refine G.geti flX13_75 dX13_row_81 hf (fun x1 hf => ?_)
    refine G.icmp_ge 185 dX13_row_84 (by decide) (fun c2 => ?_) (fun c2 => ?_)
    · rw [if_pos c2] at hf
      have w0 := Option.some.inj hf
      subst w0
      exact G.pick [0] rfl hE
    · rw [if_neg c2] at hf
      refine G.aload_n dX13_row_87 rfl ?_
      refine G.getr flX13_17 dX13_row_88 hf (fun r3 hf => ?_)
      refine G.iload_n dX13_row_91 rfl ?_
      refine G.aload_n dX13_row_92 rfl ?_
      refine G.getr flX13_51 dX13_row_93 hf (fun r4 hf => ?_)
      refine G.iload_n dX13_row_96 rfl ?_
      refine G.iald dX13_row_97 hf (fun x5 hf => ?_)
      refine G.iast dX13_row_98 hf (fun h6 hf => ?_)
      refine G.aload_n dX13_row_99 rfl ?_
      refine G.getr flX13_29 dX13_row_100 hf (fun r7 hf => ?_)
      refine G.iconst (v := (0 : Int32)) dX13_row_103 (by decide) ?_
      refine G.iload_n dX13_row_104 rfl ?_
      refine G.iadd dX13_row_105 ?_
      refine G.aload_n dX13_row_106 rfl ?_
      refine G.getr flX13_51 dX13_row_107 hf (fun r8 hf => ?_)
      refine G.bipush (v := (6 : Int32)) dX13_row_110 (by decide) ?_
      refine G.iload_n dX13_row_112 rfl ?_
      refine G.iadd dX13_row_113 ?_
      refine G.iald dX13_row_114 hf (fun x9 hf => ?_)
      refine G.iast dX13_row_115 hf (fun h10 hf => ?_)
      refine G.aload_n dX13_row_116 rfl ?_
      refine G.getr flX13_29 dX13_row_117 hf (fun r11 hf => ?_)
      refine G.bipush (v := (6 : Int32)) dX13_row_120 (by decide) ?_
      refine G.iload_n dX13_row_122 rfl ?_
      refine G.iadd dX13_row_123 ?_
      refine G.iconst (v := (2 : Int32)) dX13_row_124 (by decide) ?_
      refine G.aload_n dX13_row_125 rfl ?_
      refine G.getr flX13_51 dX13_row_126 hf (fun r12 hf => ?_)
      refine G.bipush (v := (12 : Int32)) dX13_row_129 (by decide) ?_
      refine G.iload_n dX13_row_131 rfl ?_
      refine G.iadd dX13_row_132 ?_
      refine G.iald dX13_row_133 hf (fun x13 hf => ?_)
      refine G.imul dX13_row_134 ?_
      refine G.iast dX13_row_135 hf (fun h14 hf => ?_)
      refine G.aload_n dX13_row_136 rfl ?_
      refine G.getr flX13_20 dX13_row_137 hf (fun r15 hf => ?_)
      refine G.iload_n dX13_row_140 rfl ?_
      refine G.aload_n dX13_row_141 rfl ?_
      refine G.getr flX13_51 dX13_row_142 hf (fun r16 hf => ?_)
      refine G.bipush (v := (18 : Int32)) dX13_row_145 (by decide) ?_
      refine G.iload_n dX13_row_147 rfl ?_
      refine G.iadd dX13_row_148 ?_
      refine G.iald dX13_row_149 hf (fun x17 hf => ?_)
      refine G.iast dX13_row_150 hf (fun h18 hf => ?_)
      refine G.aload_n dX13_row_151 rfl ?_
      refine G.getr flX13_29 dX13_row_152 hf (fun r19 hf => ?_)
      refine G.bipush (v := (12 : Int32)) dX13_row_155 (by decide) ?_
      refine G.iload_n dX13_row_157 rfl ?_
      refine G.iadd dX13_row_158 ?_
      refine G.aload_n dX13_row_159 rfl ?_
      refine G.getr flX13_20 dX13_row_160 hf (fun r20 hf => ?_)
      refine G.iload_n dX13_row_163 rfl ?_
      refine G.iald dX13_row_164 hf (fun x21 hf => ?_)
      refine G.iast dX13_row_165 hf (fun h22 hf => ?_)
      refine G.aload_n dX13_row_166 rfl ?_
      refine G.getr flX13_29 dX13_row_167 hf (fun r23 hf => ?_)
      refine G.bipush (v := (18 : Int32)) dX13_row_170 (by decide) ?_
      refine G.iload_n dX13_row_172 rfl ?_
      refine G.iadd dX13_row_173 ?_
      refine G.aload_n dX13_row_174 rfl ?_
      refine G.geti flX13_129 dX13_row_175 hf (fun x24 hf => ?_)
      refine G.iast dX13_row_178 hf (fun h25 hf => ?_)
      refine G.iinc (v := (v1 + 1)) (lv' := [(1, .int (v1 + 1)), (0, .ref v0)]) dX13_row_179 rfl rfl (by decide) rfl ?_
      refine G.goto 79 dX13_row_182 (by decide) ?_
      exact G.pick [1, 0] rfl (ih v0 (v1 + 1) h25 _ hf hE)
theorem l_X13_row_L79 (X : SX) (d : Nat) (rv : Option Int32) (h' : AH) (n : Nat) : ∀ (v0 : Nat) (v1 : Int32) (h : AH)  (h1 : AH), f_X13_row_L79 n v0 v1 h = some (h1) → G X mX13_row (d + 4) 185 [(0, .ref v0)] [] h1 rv h' → G X mX13_row (d + 4) 79 [(0, .ref v0), (1, .int v1)] [] h rv h' := lx_X13_row_L79 X d n rv h'
def F_X13_row_L187 (rec : Nat → Int32 → AH → Option (AH)) (v0 : Nat) (v1 : Int32) (h : AH) : Option (AH) := (gi h 12 v0 6).bind fun x1 => if x1 ≤ v1 then (some (h)) else ((gr h 12 v0 9).bind fun r3 => (gr h 12 v0 28).bind fun r4 => (ai h 0 r4 ((24 : Int32) + v1)).bind fun x5 => (aw h 0 r3 v1 x5).bind fun h6 => (gr h6 12 v0 10).bind fun r7 => (gr h6 12 v0 28).bind fun r8 => (ai h6 0 r8 ((30 : Int32) + v1)).bind fun x9 => (aw h6 0 r7 v1 x9).bind fun h10 => (gr h10 12 v0 11).bind fun r11 => (gr h10 12 v0 28).bind fun r12 => (ai h10 0 r12 ((36 : Int32) + v1)).bind fun x13 => (aw h10 0 r11 ((24 : Int32) + v1) x13).bind fun h14 => rec v0 (v1 + 1) h14)
def f_X13_row_L187 : Nat → Nat → Int32 → AH → Option (AH)
  | 0 => fun _ _ _ => none
  | n + 1 => F_X13_row_L187 (f_X13_row_L187 n)
set_option maxRecDepth 100000 in
set_option maxHeartbeats 4000000 in
theorem lx_X13_row_L187 (X : SX) (d : Nat) : ∀ n (rv : Option Int32) (h' : AH), ∀ (v0 : Nat) (v1 : Int32) (h : AH)  (h1 : AH), f_X13_row_L187 n v0 v1 h = some (h1) → G X mX13_row (d + 4) 249 [(0, .ref v0)] [] h1 rv h' → G X mX13_row (d + 4) 187 [(0, .ref v0), (1, .int v1)] [] h rv h' := by
  intro n
  induction n with
  | zero =>
    intro rv h' v0 v1 h h1 hf hE
    cases hf
  | succ n ihf =>
    intro rv h' v0 v1 h h1 hf hE
    replace hf : F_X13_row_L187 (f_X13_row_L187 n) v0 v1 h = some (h1) := hf
    unfold F_X13_row_L187 at hf
    have ih := ihf rv h'
    refine G.iload_n dX13_row_187 rfl ?_
    refine G.aload_n dX13_row_188 rfl ?_
    refine G.geti flX13_78 dX13_row_189 hf (fun x1 hf => ?_)
    refine G.icmp_ge 249 dX13_row_192 (by decide) (fun c2 => ?_) (fun c2 => ?_)
    · rw [if_pos c2] at hf
      have w0 := Option.some.inj hf
      subst w0
      exact G.pick [0] rfl hE
    · rw [if_neg c2] at hf
      refine G.aload_n dX13_row_195 rfl ?_
      refine G.getr flX13_23 dX13_row_196 hf (fun r3 hf => ?_)
      refine G.iload_n dX13_row_199 rfl ?_
      refine G.aload_n dX13_row_200 rfl ?_
      refine G.getr flX13_51 dX13_row_201 hf (fun r4 hf => ?_)
      refine G.bipush (v := (24 : Int32)) dX13_row_204 (by decide) ?_
      refine G.iload_n dX13_row_206 rfl ?_
      refine G.iadd dX13_row_207 ?_
      refine G.iald dX13_row_208 hf (fun x5 hf => ?_)
      refine G.iast dX13_row_209 hf (fun h6 hf => ?_)
      refine G.aload_n dX13_row_210 rfl ?_
      refine G.getr flX13_26 dX13_row_211 hf (fun r7 hf => ?_)
      refine G.iload_n dX13_row_214 rfl ?_
      refine G.aload_n dX13_row_215 rfl ?_
      refine G.getr flX13_51 dX13_row_216 hf (fun r8 hf => ?_)
      refine G.bipush (v := (30 : Int32)) dX13_row_219 (by decide) ?_
      refine G.iload_n dX13_row_221 rfl ?_
      refine G.iadd dX13_row_222 ?_
      refine G.iald dX13_row_223 hf (fun x9 hf => ?_)
      refine G.iast dX13_row_224 hf (fun h10 hf => ?_)
      refine G.aload_n dX13_row_225 rfl ?_
      refine G.getr flX13_29 dX13_row_226 hf (fun r11 hf => ?_)
      refine G.bipush (v := (24 : Int32)) dX13_row_229 (by decide) ?_
      refine G.iload_n dX13_row_231 rfl ?_
      refine G.iadd dX13_row_232 ?_
      refine G.aload_n dX13_row_233 rfl ?_
      refine G.getr flX13_51 dX13_row_234 hf (fun r12 hf => ?_)
      refine G.bipush (v := (36 : Int32)) dX13_row_237 (by decide) ?_
      refine G.iload_n dX13_row_239 rfl ?_
      refine G.iadd dX13_row_240 ?_
      refine G.iald dX13_row_241 hf (fun x13 hf => ?_)
      refine G.iast dX13_row_242 hf (fun h14 hf => ?_)
      refine G.iinc (v := (v1 + 1)) (lv' := [(1, .int (v1 + 1)), (0, .ref v0)]) dX13_row_243 rfl rfl (by decide) rfl ?_
      refine G.goto 187 dX13_row_246 (by decide) ?_
      exact G.pick [1, 0] rfl (ih v0 (v1 + 1) h14 _ hf hE)
theorem l_X13_row_L187 (X : SX) (d : Nat) (rv : Option Int32) (h' : AH) (n : Nat) : ∀ (v0 : Nat) (v1 : Int32) (h : AH)  (h1 : AH), f_X13_row_L187 n v0 v1 h = some (h1) → G X mX13_row (d + 4) 249 [(0, .ref v0)] [] h1 rv h' → G X mX13_row (d + 4) 187 [(0, .ref v0), (1, .int v1)] [] h rv h' := lx_X13_row_L187 X d n rv h'
def f_X13_row (a0 : Nat) (h : AH) : Option (Int32 × AH) := if isO h 12 a0 = true then ((f_X13_reads a0 h).bind fun h1 => (pf h1 12 a0 1 (.int (0 : Int32))).bind fun h3 => (gi h3 12 a0 23).bind fun x4 => if x4 = 0 then ((gi h3 12 a0 24).bind fun x6 => (pf h3 12 a0 3 (.int x6)).bind fun h7 => (gi h7 12 a0 25).bind fun x8 => (pf h7 12 a0 4 (.int x8)).bind fun h9 => (gi h9 12 a0 26).bind fun x10 => (pf h9 12 a0 5 (.int x10)).bind fun h11 => (gi h11 12 a0 27).bind fun x12 => (pf h11 12 a0 6 (.int x12)).bind fun h13 => (f_X13_row_L58 1000000 a0 (0 : Int32) h13).bind fun h14 => (f_X13_row_L79 1000000 a0 (0 : Int32) h14).bind fun h16 => (f_X13_row_L187 1000000 a0 (0 : Int32) h16).bind fun h18 => (pf h18 12 a0 19 (.int (0 : Int32))).bind fun h20 => (pf h20 12 a0 21 (.int (0 : Int32))).bind fun h21 => (pf h21 12 a0 13 (.int (0 : Int32))).bind fun h22 => (gr h22 12 a0 17).bind fun r23 => (aw h22 0 r23 (0 : Int32) (0 : Int32)).bind fun h24 => (gr h24 12 a0 17).bind fun r25 => (aw h24 0 r25 (1 : Int32) (0 : Int32)).bind fun h26 => (gi h26 12 a0 5).bind fun x27 => some (x27, h26)) else ((gi h3 12 a0 23).bind fun x28 => some (((-10 : Int32) - x28), h3))) else none
set_option maxRecDepth 100000 in
set_option maxHeartbeats 4000000 in
theorem c_X13_row (X : SX) (d : Nat) (a0 : Nat) (h : AH) (rr : Int32) (h' : AH) (hf : f_X13_row a0 h = some (rr, h')) : isO h 12 a0 = true ∧ G X mX13_row (d + 4) 0 [(0, .ref a0)] [] h (some rr) h' := by
  unfold f_X13_row at hf
  by_cases ho : isO h 12 a0 = true
  · rw [if_pos ho] at hf
    refine ⟨ho, ?_⟩
    refine G.aload_n dX13_row_0 rfl ?_
    obtain ⟨h1, e2, hf⟩ := Option.bind_eq_some_iff.mp hf
    refine G.callVv (M' := mX13_reads) (ci := 12) (As := []) (st := []) okX13_reads viX13_reads lkX13_123 rfl rfl rfl (Nat.le_of_ble_eq_true rfl) (Nat.le_of_ble_eq_true rfl) dX13_row_1 (c_X13_reads X d _ _ _ e2).1 (c_X13_reads X d _ _ _ e2).2 ?_
    refine G.aload_n dX13_row_4 rfl ?_
    refine G.iconst (v := (0 : Int32)) dX13_row_5 (by decide) ?_
    refine G.put flX13_82 (Or.inl rfl) (fun _ _ => ⟨rfl, rfl⟩) dX13_row_6 hf (fun h3 hf => ?_)
    refine G.aload_n dX13_row_9 rfl ?_
    refine G.geti flX13_89 dX13_row_10 hf (fun x4 hf => ?_)
    refine G.if_eq 24 dX13_row_13 (by decide) (fun c5 => ?_) (fun c5 => ?_)
    · rw [if_pos c5] at hf
      refine G.aload_n dX13_row_24 rfl ?_
      refine G.aload_n dX13_row_25 rfl ?_
      refine G.geti flX13_113 dX13_row_26 hf (fun x6 hf => ?_)
      refine G.put flX13_126 (Or.inl rfl) (fun _ _ => ⟨rfl, rfl⟩) dX13_row_29 hf (fun h7 hf => ?_)
      refine G.aload_n dX13_row_32 rfl ?_
      refine G.aload_n dX13_row_33 rfl ?_
      refine G.geti flX13_116 dX13_row_34 hf (fun x8 hf => ?_)
      refine G.put flX13_129 (Or.inl rfl) (fun _ _ => ⟨rfl, rfl⟩) dX13_row_37 hf (fun h9 hf => ?_)
      refine G.aload_n dX13_row_40 rfl ?_
      refine G.aload_n dX13_row_41 rfl ?_
      refine G.geti flX13_103 dX13_row_42 hf (fun x10 hf => ?_)
      refine G.put flX13_75 (Or.inl rfl) (fun _ _ => ⟨rfl, rfl⟩) dX13_row_45 hf (fun h11 hf => ?_)
      refine G.aload_n dX13_row_48 rfl ?_
      refine G.aload_n dX13_row_49 rfl ?_
      refine G.geti flX13_106 dX13_row_50 hf (fun x12 hf => ?_)
      refine G.put flX13_78 (Or.inl rfl) (fun _ _ => ⟨rfl, rfl⟩) dX13_row_53 hf (fun h13 hf => ?_)
      refine G.iconst (v := (0 : Int32)) dX13_row_56 (by decide) ?_
      refine G.istore_n (lv' := [(1, .int (0 : Int32)), (0, .ref a0)]) dX13_row_57 (by decide) rfl ?_
      obtain ⟨h14, e15, hf⟩ := Option.bind_eq_some_iff.mp hf
      refine G.pick [1, 0] rfl (l_X13_row_L58 X d _ _ 1000000 a0 (0 : Int32) h13 h14 e15 ?_)
      refine G.iconst (v := (0 : Int32)) dX13_row_77 (by decide) ?_
      refine G.istore_n (lv' := [(1, .int (0 : Int32)), (0, .ref a0)]) dX13_row_78 (by decide) rfl ?_
      obtain ⟨h16, e17, hf⟩ := Option.bind_eq_some_iff.mp hf
      refine G.pick [1, 0] rfl (l_X13_row_L79 X d _ _ 1000000 a0 (0 : Int32) h14 h16 e17 ?_)
      refine G.iconst (v := (0 : Int32)) dX13_row_185 (by decide) ?_
      refine G.istore_n (lv' := [(1, .int (0 : Int32)), (0, .ref a0)]) dX13_row_186 (by decide) rfl ?_
      obtain ⟨h18, e19, hf⟩ := Option.bind_eq_some_iff.mp hf
      refine G.pick [1, 0] rfl (l_X13_row_L187 X d _ _ 1000000 a0 (0 : Int32) h16 h18 e19 ?_)
      refine G.aload_n dX13_row_249 rfl ?_
      refine G.iconst (v := (0 : Int32)) dX13_row_250 (by decide) ?_
      refine G.put flX13_132 (Or.inl rfl) (fun _ _ => ⟨rfl, rfl⟩) dX13_row_251 hf (fun h20 hf => ?_)
      refine G.aload_n dX13_row_254 rfl ?_
      refine G.iconst (v := (0 : Int32)) dX13_row_255 (by decide) ?_
      refine G.put flX13_135 (Or.inl rfl) (fun _ _ => ⟨rfl, rfl⟩) dX13_row_256 hf (fun h21 hf => ?_)
      refine G.aload_n dX13_row_259 rfl ?_
      refine G.iconst (v := (0 : Int32)) dX13_row_260 (by decide) ?_
      refine G.put flX13_138 (Or.inl rfl) (fun _ _ => ⟨rfl, rfl⟩) dX13_row_261 hf (fun h22 hf => ?_)
      refine G.aload_n dX13_row_264 rfl ?_
      refine G.getr flX13_42 dX13_row_265 hf (fun r23 hf => ?_)
      refine G.iconst (v := (0 : Int32)) dX13_row_268 (by decide) ?_
      refine G.iconst (v := (0 : Int32)) dX13_row_269 (by decide) ?_
      refine G.iast dX13_row_270 hf (fun h24 hf => ?_)
      refine G.aload_n dX13_row_271 rfl ?_
      refine G.getr flX13_42 dX13_row_272 hf (fun r25 hf => ?_)
      refine G.iconst (v := (1 : Int32)) dX13_row_275 (by decide) ?_
      refine G.iconst (v := (0 : Int32)) dX13_row_276 (by decide) ?_
      refine G.iast dX13_row_277 hf (fun h26 hf => ?_)
      refine G.aload_n dX13_row_278 rfl ?_
      refine G.geti flX13_75 dX13_row_279 hf (fun x27 hf => ?_)
      obtain ⟨hq1, hq2⟩ := Prod.mk.inj (Option.some.inj hf)
      subst hq1
      subst hq2
      exact G.iret rfl rfl dX13_row_282
    · rw [if_neg c5] at hf
      refine G.bipush (v := (-10 : Int32)) dX13_row_16 (by decide) ?_
      refine G.aload_n dX13_row_18 rfl ?_
      refine G.geti flX13_89 dX13_row_19 hf (fun x28 hf => ?_)
      refine G.isub dX13_row_22 ?_
      obtain ⟨hq1, hq2⟩ := Prod.mk.inj (Option.some.inj hf)
      subst hq1
      subst hq2
      exact G.iret rfl rfl dX13_row_23
  · rw [if_neg ho] at hf
    cases hf
/-! X12_fault -/
theorem dX12_fault_0 : decode cX12_fault 0 = .ok (.aload_n 0, 1) := by decide +kernel
theorem dX12_fault_1 : decode cX12_fault 1 = .ok (.getfield 10, 3) := by decide +kernel
theorem dX12_fault_4 : decode cX12_fault 4 = .ok (.getfield 107, 3) := by decide +kernel
theorem dX12_fault_7 : decode cX12_fault 7 = .ok (.ireturn, 1) := by decide +kernel
def f_X12_fault (a0 : Nat) (h : AH) : Option (Int32 × AH) := if isO h 11 a0 = true then ((gr h 11 a0 0).bind fun r1 => (gi h 7 r1 2).bind fun x2 => some (x2, h)) else none
set_option maxRecDepth 100000 in
set_option maxHeartbeats 4000000 in
theorem c_X12_fault (X : SX) (d : Nat) (a0 : Nat) (h : AH) (rr : Int32) (h' : AH) (hf : f_X12_fault a0 h = some (rr, h')) : isO h 11 a0 = true ∧ G X mX12_fault d 0 [(0, .ref a0)] [] h (some rr) h' := by
  unfold f_X12_fault at hf
  by_cases ho : isO h 11 a0 = true
  · rw [if_pos ho] at hf
    refine ⟨ho, ?_⟩
    refine G.aload_n dX12_fault_0 rfl ?_
    refine G.getr flX12_10 dX12_fault_1 hf (fun r1 hf => ?_)
    refine G.geti flX12_107 dX12_fault_4 hf (fun x2 hf => ?_)
    obtain ⟨hq1, hq2⟩ := Prod.mk.inj (Option.some.inj hf)
    subst hq1
    subst hq2
    exact G.iret rfl rfl dX12_fault_7
  · rw [if_neg ho] at hf
    cases hf
/-! X13_fault -/
theorem dX13_fault_0 : decode cX13_fault 0 = .ok (.aload_n 0, 1) := by decide +kernel
theorem dX13_fault_1 : decode cX13_fault 1 = .ok (.getfield 13, 3) := by decide +kernel
theorem dX13_fault_4 : decode cX13_fault 4 = .ok (.ireturn, 1) := by decide +kernel
def f_X13_fault (a0 : Nat) (h : AH) : Option (Int32 × AH) := if isO h 12 a0 = true then ((gi h 12 a0 2).bind fun x1 => some (x1, h)) else none
set_option maxRecDepth 100000 in
set_option maxHeartbeats 4000000 in
theorem c_X13_fault (X : SX) (d : Nat) (a0 : Nat) (h : AH) (rr : Int32) (h' : AH) (hf : f_X13_fault a0 h = some (rr, h')) : isO h 12 a0 = true ∧ G X mX13_fault d 0 [(0, .ref a0)] [] h (some rr) h' := by
  unfold f_X13_fault at hf
  by_cases ho : isO h 12 a0 = true
  · rw [if_pos ho] at hf
    refine ⟨ho, ?_⟩
    refine G.aload_n dX13_fault_0 rfl ?_
    refine G.geti flX13_13 dX13_fault_1 hf (fun x1 hf => ?_)
    obtain ⟨hq1, hq2⟩ := Prod.mk.inj (Option.some.inj hf)
    subst hq1
    subst hq2
    exact G.iret rfl rfl dX13_fault_4
  · rw [if_neg ho] at hf
    cases hf
/-! X5_freeSingers -/
theorem dX5_freeSingers_0 : decode cX5_freeSingers 0 = .ok (.iconst 0, 1) := by decide +kernel
theorem dX5_freeSingers_1 : decode cX5_freeSingers 1 = .ok (.istore_n 1, 1) := by decide +kernel
theorem dX5_freeSingers_2 : decode cX5_freeSingers 2 = .ok (.iconst 0, 1) := by decide +kernel
theorem dX5_freeSingers_3 : decode cX5_freeSingers 3 = .ok (.istore_n 2, 1) := by decide +kernel
theorem dX5_freeSingers_4 : decode cX5_freeSingers 4 = .ok (.iload_n 2, 1) := by decide +kernel
theorem dX5_freeSingers_5 : decode cX5_freeSingers 5 = .ok (.aload_n 0, 1) := by decide +kernel
theorem dX5_freeSingers_6 : decode cX5_freeSingers 6 = .ok (.getfield 9, 3) := by decide +kernel
theorem dX5_freeSingers_9 : decode cX5_freeSingers 9 = .ok (.getfield 15, 3) := by decide +kernel
theorem dX5_freeSingers_12 : decode cX5_freeSingers 12 = .ok (.if_icmp .ge 27, 3) := by decide +kernel
theorem dX5_freeSingers_15 : decode cX5_freeSingers 15 = .ok (.aload_n 0, 1) := by decide +kernel
theorem dX5_freeSingers_16 : decode cX5_freeSingers 16 = .ok (.getfield 21, 3) := by decide +kernel
theorem dX5_freeSingers_19 : decode cX5_freeSingers 19 = .ok (.getfield 25, 3) := by decide +kernel
theorem dX5_freeSingers_22 : decode cX5_freeSingers 22 = .ok (.iload_n 2, 1) := by decide +kernel
theorem dX5_freeSingers_23 : decode cX5_freeSingers 23 = .ok (.iaload, 1) := by decide +kernel
theorem dX5_freeSingers_24 : decode cX5_freeSingers 24 = .ok (.ifCond .ne 9, 3) := by decide +kernel
theorem dX5_freeSingers_27 : decode cX5_freeSingers 27 = .ok (.iload_n 1, 1) := by decide +kernel
theorem dX5_freeSingers_28 : decode cX5_freeSingers 28 = .ok (.iconst 1, 1) := by decide +kernel
theorem dX5_freeSingers_29 : decode cX5_freeSingers 29 = .ok (.iload_n 2, 1) := by decide +kernel
theorem dX5_freeSingers_30 : decode cX5_freeSingers 30 = .ok (.ishl, 1) := by decide +kernel
theorem dX5_freeSingers_31 : decode cX5_freeSingers 31 = .ok (.ior, 1) := by decide +kernel
theorem dX5_freeSingers_32 : decode cX5_freeSingers 32 = .ok (.istore_n 1, 1) := by decide +kernel
theorem dX5_freeSingers_33 : decode cX5_freeSingers 33 = .ok (.iinc 2 1, 3) := by decide +kernel
theorem dX5_freeSingers_36 : decode cX5_freeSingers 36 = .ok (.goto (-32), 3) := by decide +kernel
theorem dX5_freeSingers_39 : decode cX5_freeSingers 39 = .ok (.iload_n 1, 1) := by decide +kernel
theorem dX5_freeSingers_40 : decode cX5_freeSingers 40 = .ok (.ireturn, 1) := by decide +kernel
def F_X5_freeSingers_L4 (rec : Nat → Int32 → Int32 → AH → Option (Int32 × AH)) (v0 : Nat) (v1 : Int32) (v2 : Int32) (h : AH) : Option (Int32 × AH) := (gr h 3 v0 1).bind fun r1 => (gi h 9 r1 9).bind fun x2 => if x2 ≤ v2 then (some (v1, h)) else ((gr h 3 v0 0).bind fun r4 => (gr h 4 r4 1).bind fun r5 => (ai h 0 r5 v2).bind fun x6 => if x6 = 0 then (rec v0 (v1 ||| ((1 : Int32) <<< (v2 &&& 31))) (v2 + 1) h) else (rec v0 v1 (v2 + 1) h))
def f_X5_freeSingers_L4 : Nat → Nat → Int32 → Int32 → AH → Option (Int32 × AH)
  | 0 => fun _ _ _ _ => none
  | n + 1 => F_X5_freeSingers_L4 (f_X5_freeSingers_L4 n)
set_option maxRecDepth 100000 in
set_option maxHeartbeats 4000000 in
theorem lx_X5_freeSingers_L4 (X : SX) (d : Nat) : ∀ n (rv : Option Int32) (h' : AH), ∀ (v0 : Nat) (v1 : Int32) (v2 : Int32) (h : AH) (y1 : Int32) (h1 : AH), f_X5_freeSingers_L4 n v0 v1 v2 h = some (y1, h1) → G X mX5_freeSingers d 39 [(1, .int y1)] [] h1 rv h' → G X mX5_freeSingers d 4 [(0, .ref v0), (1, .int v1), (2, .int v2)] [] h rv h' := by
  intro n
  induction n with
  | zero =>
    intro rv h' v0 v1 v2 h y1 h1 hf hE
    cases hf
  | succ n ihf =>
    intro rv h' v0 v1 v2 h y1 h1 hf hE
    replace hf : F_X5_freeSingers_L4 (f_X5_freeSingers_L4 n) v0 v1 v2 h = some (y1, h1) := hf
    unfold F_X5_freeSingers_L4 at hf
    have ih := ihf rv h'
    refine G.iload_n dX5_freeSingers_4 rfl ?_
    refine G.aload_n dX5_freeSingers_5 rfl ?_
    refine G.getr flX5_9 dX5_freeSingers_6 hf (fun r1 hf => ?_)
    refine G.geti flX5_15 dX5_freeSingers_9 hf (fun x2 hf => ?_)
    refine G.icmp_ge 39 dX5_freeSingers_12 (by decide) (fun c3 => ?_) (fun c3 => ?_)
    · rw [if_pos c3] at hf
      obtain ⟨u0, w1⟩ := Prod.mk.inj (Option.some.inj hf)
      subst u0
      subst w1
      exact G.pick [1] rfl hE
    · rw [if_neg c3] at hf
      refine G.aload_n dX5_freeSingers_15 rfl ?_
      refine G.getr flX5_21 dX5_freeSingers_16 hf (fun r4 hf => ?_)
      refine G.getr flX5_25 dX5_freeSingers_19 hf (fun r5 hf => ?_)
      refine G.iload_n dX5_freeSingers_22 rfl ?_
      refine G.iald dX5_freeSingers_23 hf (fun x6 hf => ?_)
      refine G.if_ne 33 dX5_freeSingers_24 (by decide) (fun c7 => ?_) (fun c7 => ?_)
      · rw [if_neg c7] at hf
        refine G.iinc (v := (v2 + 1)) (lv' := [(2, .int (v2 + 1)), (0, .ref v0), (1, .int v1)]) dX5_freeSingers_33 rfl rfl (by decide) rfl ?_
        refine G.goto 4 dX5_freeSingers_36 (by decide) ?_
        exact G.pick [1, 2, 0] rfl (ih v0 v1 (v2 + 1) h _ _ hf hE)
      · rw [if_pos c7] at hf
        refine G.iload_n dX5_freeSingers_27 rfl ?_
        refine G.iconst (v := (1 : Int32)) dX5_freeSingers_28 (by decide) ?_
        refine G.iload_n dX5_freeSingers_29 rfl ?_
        refine G.ishl dX5_freeSingers_30 ?_
        refine G.ior dX5_freeSingers_31 ?_
        refine G.istore_n (lv' := [(1, .int (v1 ||| ((1 : Int32) <<< (v2 &&& 31)))), (0, .ref v0), (2, .int v2)]) dX5_freeSingers_32 (by decide) rfl ?_
        refine G.iinc (v := (v2 + 1)) (lv' := [(2, .int (v2 + 1)), (1, .int (v1 ||| ((1 : Int32) <<< (v2 &&& 31)))), (0, .ref v0)]) dX5_freeSingers_33 rfl rfl (by decide) rfl ?_
        refine G.goto 4 dX5_freeSingers_36 (by decide) ?_
        exact G.pick [2, 1, 0] rfl (ih v0 (v1 ||| ((1 : Int32) <<< (v2 &&& 31))) (v2 + 1) h _ _ hf hE)
theorem l_X5_freeSingers_L4 (X : SX) (d : Nat) (rv : Option Int32) (h' : AH) (n : Nat) : ∀ (v0 : Nat) (v1 : Int32) (v2 : Int32) (h : AH) (y1 : Int32) (h1 : AH), f_X5_freeSingers_L4 n v0 v1 v2 h = some (y1, h1) → G X mX5_freeSingers d 39 [(1, .int y1)] [] h1 rv h' → G X mX5_freeSingers d 4 [(0, .ref v0), (1, .int v1), (2, .int v2)] [] h rv h' := lx_X5_freeSingers_L4 X d n rv h'
def f_X5_freeSingers (a0 : Nat) (h : AH) : Option (Int32 × AH) := bT1 (f_X5_freeSingers_L4 1000000 a0 (0 : Int32) (0 : Int32) h) fun y3 h1 => some (y3, h1)
set_option maxRecDepth 100000 in
set_option maxHeartbeats 4000000 in
theorem c_X5_freeSingers (X : SX) (d : Nat) (a0 : Nat) (h : AH) (rr : Int32) (h' : AH) (hf : f_X5_freeSingers a0 h = some (rr, h')) : G X mX5_freeSingers d 0 [(0, .ref a0)] [] h (some rr) h' := by
  unfold f_X5_freeSingers at hf
  refine G.iconst (v := (0 : Int32)) dX5_freeSingers_0 (by decide) ?_
  refine G.istore_n (lv' := [(1, .int (0 : Int32)), (0, .ref a0)]) dX5_freeSingers_1 (by decide) rfl ?_
  refine G.iconst (v := (0 : Int32)) dX5_freeSingers_2 (by decide) ?_
  refine G.istore_n (lv' := [(2, .int (0 : Int32)), (1, .int (0 : Int32)), (0, .ref a0)]) dX5_freeSingers_3 (by decide) rfl ?_
  obtain ⟨y3, h1, e2, hf⟩ := bT1_spec hf
  refine G.pick [2, 1, 0] rfl (l_X5_freeSingers_L4 X d _ _ 1000000 a0 (0 : Int32) (0 : Int32) h y3 h1 e2 ?_)
  refine G.iload_n dX5_freeSingers_39 rfl ?_
  obtain ⟨hq1, hq2⟩ := Prod.mk.inj (Option.some.inj hf)
  subst hq1
  subst hq2
  exact G.iret rfl rfl dX5_freeSingers_40
/-! X5_allNotches -/
theorem dX5_allNotches_0 : decode cX5_allNotches 0 = .ok (.iconst 0, 1) := by decide +kernel
theorem dX5_allNotches_1 : decode cX5_allNotches 1 = .ok (.istore_n 1, 1) := by decide +kernel
theorem dX5_allNotches_2 : decode cX5_allNotches 2 = .ok (.iconst 0, 1) := by decide +kernel
theorem dX5_allNotches_3 : decode cX5_allNotches 3 = .ok (.istore_n 2, 1) := by decide +kernel
theorem dX5_allNotches_4 : decode cX5_allNotches 4 = .ok (.iload_n 2, 1) := by decide +kernel
theorem dX5_allNotches_5 : decode cX5_allNotches 5 = .ok (.aload_n 0, 1) := by decide +kernel
theorem dX5_allNotches_6 : decode cX5_allNotches 6 = .ok (.getfield 9, 3) := by decide +kernel
theorem dX5_allNotches_9 : decode cX5_allNotches 9 = .ok (.getfield 15, 3) := by decide +kernel
theorem dX5_allNotches_12 : decode cX5_allNotches 12 = .ok (.if_icmp .ge 21, 3) := by decide +kernel
theorem dX5_allNotches_15 : decode cX5_allNotches 15 = .ok (.iload_n 1, 1) := by decide +kernel
theorem dX5_allNotches_16 : decode cX5_allNotches 16 = .ok (.aload_n 0, 1) := by decide +kernel
theorem dX5_allNotches_17 : decode cX5_allNotches 17 = .ok (.getfield 21, 3) := by decide +kernel
theorem dX5_allNotches_20 : decode cX5_allNotches 20 = .ok (.getfield 25, 3) := by decide +kernel
theorem dX5_allNotches_23 : decode cX5_allNotches 23 = .ok (.iload_n 2, 1) := by decide +kernel
theorem dX5_allNotches_24 : decode cX5_allNotches 24 = .ok (.iaload, 1) := by decide +kernel
theorem dX5_allNotches_25 : decode cX5_allNotches 25 = .ok (.iadd, 1) := by decide +kernel
theorem dX5_allNotches_26 : decode cX5_allNotches 26 = .ok (.istore_n 1, 1) := by decide +kernel
theorem dX5_allNotches_27 : decode cX5_allNotches 27 = .ok (.iinc 2 1, 3) := by decide +kernel
theorem dX5_allNotches_30 : decode cX5_allNotches 30 = .ok (.goto (-26), 3) := by decide +kernel
theorem dX5_allNotches_33 : decode cX5_allNotches 33 = .ok (.iload_n 1, 1) := by decide +kernel
theorem dX5_allNotches_34 : decode cX5_allNotches 34 = .ok (.ireturn, 1) := by decide +kernel
def F_X5_allNotches_L4 (rec : Nat → Int32 → Int32 → AH → Option (Int32 × AH)) (v0 : Nat) (v1 : Int32) (v2 : Int32) (h : AH) : Option (Int32 × AH) := (gr h 3 v0 1).bind fun r1 => (gi h 9 r1 9).bind fun x2 => if x2 ≤ v2 then (some (v1, h)) else ((gr h 3 v0 0).bind fun r4 => (gr h 4 r4 1).bind fun r5 => (ai h 0 r5 v2).bind fun x6 => rec v0 (v1 + x6) (v2 + 1) h)
def f_X5_allNotches_L4 : Nat → Nat → Int32 → Int32 → AH → Option (Int32 × AH)
  | 0 => fun _ _ _ _ => none
  | n + 1 => F_X5_allNotches_L4 (f_X5_allNotches_L4 n)
set_option maxRecDepth 100000 in
set_option maxHeartbeats 4000000 in
theorem lx_X5_allNotches_L4 (X : SX) (d : Nat) : ∀ n (rv : Option Int32) (h' : AH), ∀ (v0 : Nat) (v1 : Int32) (v2 : Int32) (h : AH) (y1 : Int32) (h1 : AH), f_X5_allNotches_L4 n v0 v1 v2 h = some (y1, h1) → G X mX5_allNotches d 33 [(1, .int y1)] [] h1 rv h' → G X mX5_allNotches d 4 [(0, .ref v0), (1, .int v1), (2, .int v2)] [] h rv h' := by
  intro n
  induction n with
  | zero =>
    intro rv h' v0 v1 v2 h y1 h1 hf hE
    cases hf
  | succ n ihf =>
    intro rv h' v0 v1 v2 h y1 h1 hf hE
    replace hf : F_X5_allNotches_L4 (f_X5_allNotches_L4 n) v0 v1 v2 h = some (y1, h1) := hf
    unfold F_X5_allNotches_L4 at hf
    have ih := ihf rv h'
    refine G.iload_n dX5_allNotches_4 rfl ?_
    refine G.aload_n dX5_allNotches_5 rfl ?_
    refine G.getr flX5_9 dX5_allNotches_6 hf (fun r1 hf => ?_)
    refine G.geti flX5_15 dX5_allNotches_9 hf (fun x2 hf => ?_)
    refine G.icmp_ge 33 dX5_allNotches_12 (by decide) (fun c3 => ?_) (fun c3 => ?_)
    · rw [if_pos c3] at hf
      obtain ⟨u0, w1⟩ := Prod.mk.inj (Option.some.inj hf)
      subst u0
      subst w1
      exact G.pick [1] rfl hE
    · rw [if_neg c3] at hf
      refine G.iload_n dX5_allNotches_15 rfl ?_
      refine G.aload_n dX5_allNotches_16 rfl ?_
      refine G.getr flX5_21 dX5_allNotches_17 hf (fun r4 hf => ?_)
      refine G.getr flX5_25 dX5_allNotches_20 hf (fun r5 hf => ?_)
      refine G.iload_n dX5_allNotches_23 rfl ?_
      refine G.iald dX5_allNotches_24 hf (fun x6 hf => ?_)
      refine G.iadd dX5_allNotches_25 ?_
      refine G.istore_n (lv' := [(1, .int (v1 + x6)), (0, .ref v0), (2, .int v2)]) dX5_allNotches_26 (by decide) rfl ?_
      refine G.iinc (v := (v2 + 1)) (lv' := [(2, .int (v2 + 1)), (1, .int (v1 + x6)), (0, .ref v0)]) dX5_allNotches_27 rfl rfl (by decide) rfl ?_
      refine G.goto 4 dX5_allNotches_30 (by decide) ?_
      exact G.pick [2, 1, 0] rfl (ih v0 (v1 + x6) (v2 + 1) h _ _ hf hE)
theorem l_X5_allNotches_L4 (X : SX) (d : Nat) (rv : Option Int32) (h' : AH) (n : Nat) : ∀ (v0 : Nat) (v1 : Int32) (v2 : Int32) (h : AH) (y1 : Int32) (h1 : AH), f_X5_allNotches_L4 n v0 v1 v2 h = some (y1, h1) → G X mX5_allNotches d 33 [(1, .int y1)] [] h1 rv h' → G X mX5_allNotches d 4 [(0, .ref v0), (1, .int v1), (2, .int v2)] [] h rv h' := lx_X5_allNotches_L4 X d n rv h'
def f_X5_allNotches (a0 : Nat) (h : AH) : Option (Int32 × AH) := bT1 (f_X5_allNotches_L4 1000000 a0 (0 : Int32) (0 : Int32) h) fun y3 h1 => some (y3, h1)
set_option maxRecDepth 100000 in
set_option maxHeartbeats 4000000 in
theorem c_X5_allNotches (X : SX) (d : Nat) (a0 : Nat) (h : AH) (rr : Int32) (h' : AH) (hf : f_X5_allNotches a0 h = some (rr, h')) : G X mX5_allNotches d 0 [(0, .ref a0)] [] h (some rr) h' := by
  unfold f_X5_allNotches at hf
  refine G.iconst (v := (0 : Int32)) dX5_allNotches_0 (by decide) ?_
  refine G.istore_n (lv' := [(1, .int (0 : Int32)), (0, .ref a0)]) dX5_allNotches_1 (by decide) rfl ?_
  refine G.iconst (v := (0 : Int32)) dX5_allNotches_2 (by decide) ?_
  refine G.istore_n (lv' := [(2, .int (0 : Int32)), (1, .int (0 : Int32)), (0, .ref a0)]) dX5_allNotches_3 (by decide) rfl ?_
  obtain ⟨y3, h1, e2, hf⟩ := bT1_spec hf
  refine G.pick [2, 1, 0] rfl (l_X5_allNotches_L4 X d _ _ 1000000 a0 (0 : Int32) (0 : Int32) h y3 h1 e2 ?_)
  refine G.iload_n dX5_allNotches_33 rfl ?_
  obtain ⟨hq1, hq2⟩ := Prod.mk.inj (Option.some.inj hf)
  subst hq1
  subst hq2
  exact G.iret rfl rfl dX5_allNotches_34
/-! X5_lastSinger -/
theorem dX5_lastSinger_0 : decode cX5_lastSinger 0 = .ok (.iconst (-1), 1) := by decide +kernel
theorem dX5_lastSinger_1 : decode cX5_lastSinger 1 = .ok (.istore_n 1, 1) := by decide +kernel
theorem dX5_lastSinger_2 : decode cX5_lastSinger 2 = .ok (.iconst 0, 1) := by decide +kernel
theorem dX5_lastSinger_3 : decode cX5_lastSinger 3 = .ok (.istore_n 2, 1) := by decide +kernel
theorem dX5_lastSinger_4 : decode cX5_lastSinger 4 = .ok (.iconst 0, 1) := by decide +kernel
theorem dX5_lastSinger_5 : decode cX5_lastSinger 5 = .ok (.istore_n 3, 1) := by decide +kernel
theorem dX5_lastSinger_6 : decode cX5_lastSinger 6 = .ok (.iload_n 3, 1) := by decide +kernel
theorem dX5_lastSinger_7 : decode cX5_lastSinger 7 = .ok (.aload_n 0, 1) := by decide +kernel
theorem dX5_lastSinger_8 : decode cX5_lastSinger 8 = .ok (.getfield 9, 3) := by decide +kernel
theorem dX5_lastSinger_11 : decode cX5_lastSinger 11 = .ok (.getfield 15, 3) := by decide +kernel
theorem dX5_lastSinger_14 : decode cX5_lastSinger 14 = .ok (.if_icmp .ge 34, 3) := by decide +kernel
theorem dX5_lastSinger_17 : decode cX5_lastSinger 17 = .ok (.aload_n 0, 1) := by decide +kernel
theorem dX5_lastSinger_18 : decode cX5_lastSinger 18 = .ok (.getfield 21, 3) := by decide +kernel
theorem dX5_lastSinger_21 : decode cX5_lastSinger 21 = .ok (.getfield 25, 3) := by decide +kernel
theorem dX5_lastSinger_24 : decode cX5_lastSinger 24 = .ok (.iload_n 3, 1) := by decide +kernel
theorem dX5_lastSinger_25 : decode cX5_lastSinger 25 = .ok (.iaload, 1) := by decide +kernel
theorem dX5_lastSinger_26 : decode cX5_lastSinger 26 = .ok (.iload_n 2, 1) := by decide +kernel
theorem dX5_lastSinger_27 : decode cX5_lastSinger 27 = .ok (.if_icmp .le 15, 3) := by decide +kernel
theorem dX5_lastSinger_30 : decode cX5_lastSinger 30 = .ok (.aload_n 0, 1) := by decide +kernel
theorem dX5_lastSinger_31 : decode cX5_lastSinger 31 = .ok (.getfield 21, 3) := by decide +kernel
theorem dX5_lastSinger_34 : decode cX5_lastSinger 34 = .ok (.getfield 25, 3) := by decide +kernel
theorem dX5_lastSinger_37 : decode cX5_lastSinger 37 = .ok (.iload_n 3, 1) := by decide +kernel
theorem dX5_lastSinger_38 : decode cX5_lastSinger 38 = .ok (.iaload, 1) := by decide +kernel
theorem dX5_lastSinger_39 : decode cX5_lastSinger 39 = .ok (.istore_n 2, 1) := by decide +kernel
theorem dX5_lastSinger_40 : decode cX5_lastSinger 40 = .ok (.iload_n 3, 1) := by decide +kernel
theorem dX5_lastSinger_41 : decode cX5_lastSinger 41 = .ok (.istore_n 1, 1) := by decide +kernel
theorem dX5_lastSinger_42 : decode cX5_lastSinger 42 = .ok (.iinc 3 1, 3) := by decide +kernel
theorem dX5_lastSinger_45 : decode cX5_lastSinger 45 = .ok (.goto (-39), 3) := by decide +kernel
theorem dX5_lastSinger_48 : decode cX5_lastSinger 48 = .ok (.iload_n 1, 1) := by decide +kernel
theorem dX5_lastSinger_49 : decode cX5_lastSinger 49 = .ok (.ireturn, 1) := by decide +kernel
def F_X5_lastSinger_L6 (rec : Nat → Int32 → Int32 → Int32 → AH → Option (Int32 × AH)) (v0 : Nat) (v1 : Int32) (v2 : Int32) (v3 : Int32) (h : AH) : Option (Int32 × AH) := (gr h 3 v0 1).bind fun r1 => (gi h 9 r1 9).bind fun x2 => if x2 ≤ v3 then (some (v1, h)) else ((gr h 3 v0 0).bind fun r4 => (gr h 4 r4 1).bind fun r5 => (ai h 0 r5 v3).bind fun x6 => if x6 ≤ v2 then (rec v0 v1 v2 (v3 + 1) h) else ((gr h 3 v0 0).bind fun r8 => (gr h 4 r8 1).bind fun r9 => (ai h 0 r9 v3).bind fun x10 => rec v0 v3 x10 (v3 + 1) h))
def f_X5_lastSinger_L6 : Nat → Nat → Int32 → Int32 → Int32 → AH → Option (Int32 × AH)
  | 0 => fun _ _ _ _ _ => none
  | n + 1 => F_X5_lastSinger_L6 (f_X5_lastSinger_L6 n)
set_option maxRecDepth 100000 in
set_option maxHeartbeats 4000000 in
theorem lx_X5_lastSinger_L6 (X : SX) (d : Nat) : ∀ n (rv : Option Int32) (h' : AH), ∀ (v0 : Nat) (v1 : Int32) (v2 : Int32) (v3 : Int32) (h : AH) (y1 : Int32) (h1 : AH), f_X5_lastSinger_L6 n v0 v1 v2 v3 h = some (y1, h1) → G X mX5_lastSinger d 48 [(1, .int y1)] [] h1 rv h' → G X mX5_lastSinger d 6 [(0, .ref v0), (1, .int v1), (2, .int v2), (3, .int v3)] [] h rv h' := by
  intro n
  induction n with
  | zero =>
    intro rv h' v0 v1 v2 v3 h y1 h1 hf hE
    cases hf
  | succ n ihf =>
    intro rv h' v0 v1 v2 v3 h y1 h1 hf hE
    replace hf : F_X5_lastSinger_L6 (f_X5_lastSinger_L6 n) v0 v1 v2 v3 h = some (y1, h1) := hf
    unfold F_X5_lastSinger_L6 at hf
    have ih := ihf rv h'
    refine G.iload_n dX5_lastSinger_6 rfl ?_
    refine G.aload_n dX5_lastSinger_7 rfl ?_
    refine G.getr flX5_9 dX5_lastSinger_8 hf (fun r1 hf => ?_)
    refine G.geti flX5_15 dX5_lastSinger_11 hf (fun x2 hf => ?_)
    refine G.icmp_ge 48 dX5_lastSinger_14 (by decide) (fun c3 => ?_) (fun c3 => ?_)
    · rw [if_pos c3] at hf
      obtain ⟨u0, w1⟩ := Prod.mk.inj (Option.some.inj hf)
      subst u0
      subst w1
      exact G.pick [1] rfl hE
    · rw [if_neg c3] at hf
      refine G.aload_n dX5_lastSinger_17 rfl ?_
      refine G.getr flX5_21 dX5_lastSinger_18 hf (fun r4 hf => ?_)
      refine G.getr flX5_25 dX5_lastSinger_21 hf (fun r5 hf => ?_)
      refine G.iload_n dX5_lastSinger_24 rfl ?_
      refine G.iald dX5_lastSinger_25 hf (fun x6 hf => ?_)
      refine G.iload_n dX5_lastSinger_26 rfl ?_
      refine G.icmp_le 42 dX5_lastSinger_27 (by decide) (fun c7 => ?_) (fun c7 => ?_)
      · rw [if_pos c7] at hf
        refine G.iinc (v := (v3 + 1)) (lv' := [(3, .int (v3 + 1)), (0, .ref v0), (1, .int v1), (2, .int v2)]) dX5_lastSinger_42 rfl rfl (by decide) rfl ?_
        refine G.goto 6 dX5_lastSinger_45 (by decide) ?_
        exact G.pick [1, 2, 3, 0] rfl (ih v0 v1 v2 (v3 + 1) h _ _ hf hE)
      · rw [if_neg c7] at hf
        refine G.aload_n dX5_lastSinger_30 rfl ?_
        refine G.getr flX5_21 dX5_lastSinger_31 hf (fun r8 hf => ?_)
        refine G.getr flX5_25 dX5_lastSinger_34 hf (fun r9 hf => ?_)
        refine G.iload_n dX5_lastSinger_37 rfl ?_
        refine G.iald dX5_lastSinger_38 hf (fun x10 hf => ?_)
        refine G.istore_n (lv' := [(2, .int x10), (0, .ref v0), (1, .int v1), (3, .int v3)]) dX5_lastSinger_39 (by decide) rfl ?_
        refine G.iload_n dX5_lastSinger_40 rfl ?_
        refine G.istore_n (lv' := [(1, .int v3), (2, .int x10), (0, .ref v0), (3, .int v3)]) dX5_lastSinger_41 (by decide) rfl ?_
        refine G.iinc (v := (v3 + 1)) (lv' := [(3, .int (v3 + 1)), (1, .int v3), (2, .int x10), (0, .ref v0)]) dX5_lastSinger_42 rfl rfl (by decide) rfl ?_
        refine G.goto 6 dX5_lastSinger_45 (by decide) ?_
        exact G.pick [3, 1, 2, 0] rfl (ih v0 v3 x10 (v3 + 1) h _ _ hf hE)
theorem l_X5_lastSinger_L6 (X : SX) (d : Nat) (rv : Option Int32) (h' : AH) (n : Nat) : ∀ (v0 : Nat) (v1 : Int32) (v2 : Int32) (v3 : Int32) (h : AH) (y1 : Int32) (h1 : AH), f_X5_lastSinger_L6 n v0 v1 v2 v3 h = some (y1, h1) → G X mX5_lastSinger d 48 [(1, .int y1)] [] h1 rv h' → G X mX5_lastSinger d 6 [(0, .ref v0), (1, .int v1), (2, .int v2), (3, .int v3)] [] h rv h' := lx_X5_lastSinger_L6 X d n rv h'
def f_X5_lastSinger (a0 : Nat) (h : AH) : Option (Int32 × AH) := bT1 (f_X5_lastSinger_L6 1000000 a0 (-1 : Int32) (0 : Int32) (0 : Int32) h) fun y3 h1 => some (y3, h1)
set_option maxRecDepth 100000 in
set_option maxHeartbeats 4000000 in
theorem c_X5_lastSinger (X : SX) (d : Nat) (a0 : Nat) (h : AH) (rr : Int32) (h' : AH) (hf : f_X5_lastSinger a0 h = some (rr, h')) : G X mX5_lastSinger d 0 [(0, .ref a0)] [] h (some rr) h' := by
  unfold f_X5_lastSinger at hf
  refine G.iconst (v := (-1 : Int32)) dX5_lastSinger_0 (by decide) ?_
  refine G.istore_n (lv' := [(1, .int (-1 : Int32)), (0, .ref a0)]) dX5_lastSinger_1 (by decide) rfl ?_
  refine G.iconst (v := (0 : Int32)) dX5_lastSinger_2 (by decide) ?_
  refine G.istore_n (lv' := [(2, .int (0 : Int32)), (1, .int (-1 : Int32)), (0, .ref a0)]) dX5_lastSinger_3 (by decide) rfl ?_
  refine G.iconst (v := (0 : Int32)) dX5_lastSinger_4 (by decide) ?_
  refine G.istore_n (lv' := [(3, .int (0 : Int32)), (2, .int (0 : Int32)), (1, .int (-1 : Int32)), (0, .ref a0)]) dX5_lastSinger_5 (by decide) rfl ?_
  obtain ⟨y3, h1, e2, hf⟩ := bT1_spec hf
  refine G.pick [3, 2, 1, 0] rfl (l_X5_lastSinger_L6 X d _ _ 1000000 a0 (-1 : Int32) (0 : Int32) (0 : Int32) h y3 h1 e2 ?_)
  refine G.iload_n dX5_lastSinger_48 rfl ?_
  obtain ⟨hq1, hq2⟩ := Prod.mk.inj (Option.some.inj hf)
  subst hq1
  subst hq2
  exact G.iret rfl rfl dX5_lastSinger_49
/-! X3_isAwake -/
theorem dX3_isAwake_0 : decode cX3_isAwake 0 = .ok (.aload_n 0, 1) := by decide +kernel
theorem dX3_isAwake_1 : decode cX3_isAwake 1 = .ok (.getfield 12, 3) := by decide +kernel
theorem dX3_isAwake_4 : decode cX3_isAwake 4 = .ok (.getfield 69, 3) := by decide +kernel
theorem dX3_isAwake_7 : decode cX3_isAwake 7 = .ok (.iload_n 1, 1) := by decide +kernel
theorem dX3_isAwake_8 : decode cX3_isAwake 8 = .ok (.ishr, 1) := by decide +kernel
theorem dX3_isAwake_9 : decode cX3_isAwake 9 = .ok (.iconst 1, 1) := by decide +kernel
theorem dX3_isAwake_10 : decode cX3_isAwake 10 = .ok (.iand, 1) := by decide +kernel
theorem dX3_isAwake_11 : decode cX3_isAwake 11 = .ok (.ifCond .eq 7, 3) := by decide +kernel
theorem dX3_isAwake_14 : decode cX3_isAwake 14 = .ok (.iconst 1, 1) := by decide +kernel
theorem dX3_isAwake_15 : decode cX3_isAwake 15 = .ok (.goto 4, 3) := by decide +kernel
theorem dX3_isAwake_18 : decode cX3_isAwake 18 = .ok (.iconst 0, 1) := by decide +kernel
theorem dX3_isAwake_19 : decode cX3_isAwake 19 = .ok (.ireturn, 1) := by decide +kernel
def f_X3_isAwake (a0 : Nat) (a1 : Int32) (h : AH) : Option (Int32 × AH) := if isO h 3 a0 = true then ((gr h 3 a0 0).bind fun r1 => (gi h 4 r1 7).bind fun x2 => if ((x2 >>> (a1 &&& 31)) &&& (1 : Int32)) = 0 then (some ((0 : Int32), h)) else (some ((1 : Int32), h))) else none
set_option maxRecDepth 100000 in
set_option maxHeartbeats 4000000 in
theorem c_X3_isAwake (X : SX) (d : Nat) (a0 : Nat) (a1 : Int32) (h : AH) (rr : Int32) (h' : AH) (hf : f_X3_isAwake a0 a1 h = some (rr, h')) : isO h 3 a0 = true ∧ G X mX3_isAwake d 0 [(0, .ref a0), (1, .int a1)] [] h (some rr) h' := by
  unfold f_X3_isAwake at hf
  by_cases ho : isO h 3 a0 = true
  · rw [if_pos ho] at hf
    refine ⟨ho, ?_⟩
    refine G.aload_n dX3_isAwake_0 rfl ?_
    refine G.getr flX3_12 dX3_isAwake_1 hf (fun r1 hf => ?_)
    refine G.geti flX3_69 dX3_isAwake_4 hf (fun x2 hf => ?_)
    refine G.iload_n dX3_isAwake_7 rfl ?_
    refine G.ishr dX3_isAwake_8 ?_
    refine G.iconst (v := (1 : Int32)) dX3_isAwake_9 (by decide) ?_
    refine G.iand dX3_isAwake_10 ?_
    refine G.if_eq 18 dX3_isAwake_11 (by decide) (fun c3 => ?_) (fun c3 => ?_)
    · rw [if_pos c3] at hf
      refine G.iconst (v := (0 : Int32)) dX3_isAwake_18 (by decide) ?_
      obtain ⟨hq1, hq2⟩ := Prod.mk.inj (Option.some.inj hf)
      subst hq1
      subst hq2
      exact G.iret rfl (by decide) dX3_isAwake_19
    · rw [if_neg c3] at hf
      refine G.iconst (v := (1 : Int32)) dX3_isAwake_14 (by decide) ?_
      refine G.goto 19 dX3_isAwake_15 (by decide) ?_
      obtain ⟨hq1, hq2⟩ := Prod.mk.inj (Option.some.inj hf)
      subst hq1
      subst hq2
      exact G.iret rfl (by decide) dX3_isAwake_19
  · rw [if_neg ho] at hf
    cases hf
/-! X3_needsOf -/
theorem dX3_needsOf_0 : decode cX3_needsOf 0 = .ok (.aload_n 0, 1) := by decide +kernel
theorem dX3_needsOf_1 : decode cX3_needsOf 1 = .ok (.iload_n 1, 1) := by decide +kernel
theorem dX3_needsOf_2 : decode cX3_needsOf 2 = .ok (.invokevirtual 72, 3) := by decide +kernel
theorem dX3_needsOf_5 : decode cX3_needsOf 5 = .ok (.ifCond .ne 5, 3) := by decide +kernel
theorem dX3_needsOf_8 : decode cX3_needsOf 8 = .ok (.iconst 0, 1) := by decide +kernel
theorem dX3_needsOf_9 : decode cX3_needsOf 9 = .ok (.ireturn, 1) := by decide +kernel
theorem dX3_needsOf_10 : decode cX3_needsOf 10 = .ok (.aload_n 0, 1) := by decide +kernel
theorem dX3_needsOf_11 : decode cX3_needsOf 11 = .ok (.getfield 21, 3) := by decide +kernel
theorem dX3_needsOf_14 : decode cX3_needsOf 14 = .ok (.getfield 75, 3) := by decide +kernel
theorem dX3_needsOf_17 : decode cX3_needsOf 17 = .ok (.iload_n 1, 1) := by decide +kernel
theorem dX3_needsOf_18 : decode cX3_needsOf 18 = .ok (.iaload, 1) := by decide +kernel
theorem dX3_needsOf_19 : decode cX3_needsOf 19 = .ok (.istore_n 2, 1) := by decide +kernel
theorem dX3_needsOf_20 : decode cX3_needsOf 20 = .ok (.aload_n 0, 1) := by decide +kernel
theorem dX3_needsOf_21 : decode cX3_needsOf 21 = .ok (.getfield 21, 3) := by decide +kernel
theorem dX3_needsOf_24 : decode cX3_needsOf 24 = .ok (.getfield 78, 3) := by decide +kernel
theorem dX3_needsOf_27 : decode cX3_needsOf 27 = .ok (.iload_n 1, 1) := by decide +kernel
theorem dX3_needsOf_28 : decode cX3_needsOf 28 = .ok (.iaload, 1) := by decide +kernel
theorem dX3_needsOf_29 : decode cX3_needsOf 29 = .ok (.tableswitch 58 1 3 #[27, 34, 43], 27) := by decide +kernel
theorem dX3_needsOf_56 : decode cX3_needsOf 56 = .ok (.iconst 2, 1) := by decide +kernel
theorem dX3_needsOf_57 : decode cX3_needsOf 57 = .ok (.iload_n 2, 1) := by decide +kernel
theorem dX3_needsOf_58 : decode cX3_needsOf 58 = .ok (.imul, 1) := by decide +kernel
theorem dX3_needsOf_59 : decode cX3_needsOf 59 = .ok (.istore_n 3, 1) := by decide +kernel
theorem dX3_needsOf_60 : decode cX3_needsOf 60 = .ok (.goto 29, 3) := by decide +kernel
theorem dX3_needsOf_63 : decode cX3_needsOf 63 = .ok (.iload_n 2, 1) := by decide +kernel
theorem dX3_needsOf_64 : decode cX3_needsOf 64 = .ok (.iconst 2, 1) := by decide +kernel
theorem dX3_needsOf_65 : decode cX3_needsOf 65 = .ok (.idiv, 1) := by decide +kernel
theorem dX3_needsOf_66 : decode cX3_needsOf 66 = .ok (.iconst 1, 1) := by decide +kernel
theorem dX3_needsOf_67 : decode cX3_needsOf 67 = .ok (.iadd, 1) := by decide +kernel
theorem dX3_needsOf_68 : decode cX3_needsOf 68 = .ok (.istore_n 3, 1) := by decide +kernel
theorem dX3_needsOf_69 : decode cX3_needsOf 69 = .ok (.goto 20, 3) := by decide +kernel
theorem dX3_needsOf_72 : decode cX3_needsOf 72 = .ok (.iload_n 2, 1) := by decide +kernel
theorem dX3_needsOf_73 : decode cX3_needsOf 73 = .ok (.aload_n 0, 1) := by decide +kernel
theorem dX3_needsOf_74 : decode cX3_needsOf 74 = .ok (.getfield 12, 3) := by decide +kernel
theorem dX3_needsOf_77 : decode cX3_needsOf 77 = .ok (.getfield 56, 3) := by decide +kernel
theorem dX3_needsOf_80 : decode cX3_needsOf 80 = .ok (.iload_n 1, 1) := by decide +kernel
theorem dX3_needsOf_81 : decode cX3_needsOf 81 = .ok (.iaload, 1) := by decide +kernel
theorem dX3_needsOf_82 : decode cX3_needsOf 82 = .ok (.iadd, 1) := by decide +kernel
theorem dX3_needsOf_83 : decode cX3_needsOf 83 = .ok (.istore_n 3, 1) := by decide +kernel
theorem dX3_needsOf_84 : decode cX3_needsOf 84 = .ok (.goto 5, 3) := by decide +kernel
theorem dX3_needsOf_87 : decode cX3_needsOf 87 = .ok (.iload_n 2, 1) := by decide +kernel
theorem dX3_needsOf_88 : decode cX3_needsOf 88 = .ok (.istore_n 3, 1) := by decide +kernel
theorem dX3_needsOf_89 : decode cX3_needsOf 89 = .ok (.iconst 0, 1) := by decide +kernel
theorem dX3_needsOf_90 : decode cX3_needsOf 90 = .ok (.iload_n 3, 1) := by decide +kernel
theorem dX3_needsOf_91 : decode cX3_needsOf 91 = .ok (.aload_n 0, 1) := by decide +kernel
theorem dX3_needsOf_92 : decode cX3_needsOf 92 = .ok (.getfield 12, 3) := by decide +kernel
theorem dX3_needsOf_95 : decode cX3_needsOf 95 = .ok (.getfield 81, 3) := by decide +kernel
theorem dX3_needsOf_98 : decode cX3_needsOf 98 = .ok (.iload_n 1, 1) := by decide +kernel
theorem dX3_needsOf_99 : decode cX3_needsOf 99 = .ok (.iaload, 1) := by decide +kernel
theorem dX3_needsOf_100 : decode cX3_needsOf 100 = .ok (.isub, 1) := by decide +kernel
theorem dX3_needsOf_101 : decode cX3_needsOf 101 = .ok (.invokestatic 84, 3) := by decide +kernel
theorem dX3_needsOf_104 : decode cX3_needsOf 104 = .ok (.ireturn, 1) := by decide +kernel
def f_X3_needsOf_89 (v0 : Nat) (v1 : Int32) (v3 : Int32) (h : AH) : Option (Int32 × AH) := (gr h 3 v0 0).bind fun r1 => (gr h 4 r1 5).bind fun r2 => (ai h 0 r2 v1).bind fun x3 => some ((if (0 : Int32) < (v3 - x3) then (v3 - x3) else (0 : Int32)), h)
set_option maxRecDepth 100000 in
set_option maxHeartbeats 4000000 in
theorem j_X3_needsOf_89 (X : SX) (d : Nat) (v0 : Nat) (v1 : Int32) (v3 : Int32) (h : AH) (rr : Int32) (h' : AH) (hf : f_X3_needsOf_89 v0 v1 v3 h = some (rr, h')) : G X mX3_needsOf (d + 1) 89 [(0, .ref v0), (1, .int v1), (3, .int v3)] [] h (some rr) h' := by
  unfold f_X3_needsOf_89 at hf
  refine G.iconst (v := (0 : Int32)) dX3_needsOf_89 (by decide) ?_
  refine G.iload_n dX3_needsOf_90 rfl ?_
  refine G.aload_n dX3_needsOf_91 rfl ?_
  refine G.getr flX3_12 dX3_needsOf_92 hf (fun r1 hf => ?_)
  refine G.getr flX3_81 dX3_needsOf_95 hf (fun r2 hf => ?_)
  refine G.iload_n dX3_needsOf_98 rfl ?_
  refine G.iald dX3_needsOf_99 hf (fun x3 hf => ?_)
  refine G.isub dX3_needsOf_100 ?_
  refine G.max lkX3_84 (Nat.le_of_ble_eq_true rfl) dX3_needsOf_101 ?_
  obtain ⟨hq1, hq2⟩ := Prod.mk.inj (Option.some.inj hf)
  subst hq1
  subst hq2
  exact G.iret rfl rfl dX3_needsOf_104
def f_X3_needsOf (a0 : Nat) (a1 : Int32) (h : AH) : Option (Int32 × AH) := if isO h 3 a0 = true then (bT1 (f_X3_isAwake a0 a1 h) fun x3 h1 => if x3 = 0 then (some ((0 : Int32), h1)) else ((gr h1 3 a0 1).bind fun r5 => (gr h1 9 r5 5).bind fun r6 => (ai h1 0 r6 a1).bind fun x7 => (gr h1 3 a0 1).bind fun r8 => (gr h1 9 r8 4).bind fun r9 => (ai h1 0 r9 a1).bind fun x10 => if x10 = 1 then (f_X3_needsOf_89 a0 a1 ((2 : Int32) * x7) h1) else (if x10 = 2 then (f_X3_needsOf_89 a0 a1 ((x7 / (2 : Int32)) + (1 : Int32)) h1) else (if x10 = 3 then ((gr h1 3 a0 0).bind fun r14 => (gr h1 4 r14 6).bind fun r15 => (ai h1 0 r15 a1).bind fun x16 => f_X3_needsOf_89 a0 a1 (x7 + x16) h1) else (f_X3_needsOf_89 a0 a1 x7 h1))))) else none
set_option maxRecDepth 100000 in
set_option maxHeartbeats 4000000 in
theorem c_X3_needsOf (X : SX) (d : Nat) (a0 : Nat) (a1 : Int32) (h : AH) (rr : Int32) (h' : AH) (hf : f_X3_needsOf a0 a1 h = some (rr, h')) : isO h 3 a0 = true ∧ G X mX3_needsOf (d + 1) 0 [(0, .ref a0), (1, .int a1)] [] h (some rr) h' := by
  unfold f_X3_needsOf at hf
  by_cases ho : isO h 3 a0 = true
  · rw [if_pos ho] at hf
    refine ⟨ho, ?_⟩
    refine G.aload_n dX3_needsOf_0 rfl ?_
    refine G.iload_n dX3_needsOf_1 rfl ?_
    obtain ⟨x3, h1, e2, hf⟩ := bT1_spec hf
    refine G.callVi (M' := mX3_isAwake) (ci := 3) (As := [.int a1]) (st := []) okX3_isAwake viX3_isAwake lkX3_72 rfl rfl rfl (Nat.le_of_ble_eq_true rfl) (Nat.le_of_ble_eq_true rfl) dX3_needsOf_2 (c_X3_isAwake X d _ _ _ _ _ e2).1 (c_X3_isAwake X d _ _ _ _ _ e2).2 ?_
    refine G.if_ne 10 dX3_needsOf_5 (by decide) (fun c4 => ?_) (fun c4 => ?_)
    · rw [if_neg c4] at hf
      refine G.aload_n dX3_needsOf_10 rfl ?_
      refine G.getr flX3_21 dX3_needsOf_11 hf (fun r5 hf => ?_)
      refine G.getr flX3_75 dX3_needsOf_14 hf (fun r6 hf => ?_)
      refine G.iload_n dX3_needsOf_17 rfl ?_
      refine G.iald dX3_needsOf_18 hf (fun x7 hf => ?_)
      refine G.istore_n (lv' := [(2, .int x7), (0, .ref a0), (1, .int a1)]) dX3_needsOf_19 (by decide) rfl ?_
      refine G.aload_n dX3_needsOf_20 rfl ?_
      refine G.getr flX3_21 dX3_needsOf_21 hf (fun r8 hf => ?_)
      refine G.getr flX3_78 dX3_needsOf_24 hf (fun r9 hf => ?_)
      refine G.iload_n dX3_needsOf_27 rfl ?_
      refine G.iald dX3_needsOf_28 hf (fun x10 hf => ?_)
      by_cases c11 : x10 = 1
      · rw [if_pos c11] at hf
        refine G.tswIn 56 dX3_needsOf_29 (by rw [c11]; decide) (by rw [c11]; decide) (by rw [c11]; rfl) (by decide) ?_
        refine G.iconst (v := (2 : Int32)) dX3_needsOf_56 (by decide) ?_
        refine G.iload_n dX3_needsOf_57 rfl ?_
        refine G.imul dX3_needsOf_58 ?_
        refine G.istore_n (lv' := [(3, .int ((2 : Int32) * x7)), (2, .int x7), (0, .ref a0), (1, .int a1)]) dX3_needsOf_59 (by decide) rfl ?_
        refine G.goto 89 dX3_needsOf_60 (by decide) ?_
        exact G.pick [2, 3, 0] rfl (j_X3_needsOf_89 X d a0 a1 ((2 : Int32) * x7) h1 _ _ hf)
      · rw [if_neg c11] at hf
        by_cases c12 : x10 = 2
        · rw [if_pos c12] at hf
          refine G.tswIn 63 dX3_needsOf_29 (by rw [c12]; decide) (by rw [c12]; decide) (by rw [c12]; rfl) (by decide) ?_
          refine G.iload_n dX3_needsOf_63 rfl ?_
          refine G.iconst (v := (2 : Int32)) dX3_needsOf_64 (by decide) ?_
          refine G.idiv dX3_needsOf_65 (by decide) ?_
          refine G.iconst (v := (1 : Int32)) dX3_needsOf_66 (by decide) ?_
          refine G.iadd dX3_needsOf_67 ?_
          refine G.istore_n (lv' := [(3, .int ((x7 / (2 : Int32)) + (1 : Int32))), (2, .int x7), (0, .ref a0), (1, .int a1)]) dX3_needsOf_68 (by decide) rfl ?_
          refine G.goto 89 dX3_needsOf_69 (by decide) ?_
          exact G.pick [2, 3, 0] rfl (j_X3_needsOf_89 X d a0 a1 ((x7 / (2 : Int32)) + (1 : Int32)) h1 _ _ hf)
        · rw [if_neg c12] at hf
          by_cases c13 : x10 = 3
          · rw [if_pos c13] at hf
            refine G.tswIn 72 dX3_needsOf_29 (by rw [c13]; decide) (by rw [c13]; decide) (by rw [c13]; rfl) (by decide) ?_
            refine G.iload_n dX3_needsOf_72 rfl ?_
            refine G.aload_n dX3_needsOf_73 rfl ?_
            refine G.getr flX3_12 dX3_needsOf_74 hf (fun r14 hf => ?_)
            refine G.getr flX3_56 dX3_needsOf_77 hf (fun r15 hf => ?_)
            refine G.iload_n dX3_needsOf_80 rfl ?_
            refine G.iald dX3_needsOf_81 hf (fun x16 hf => ?_)
            refine G.iadd dX3_needsOf_82 ?_
            refine G.istore_n (lv' := [(3, .int (x7 + x16)), (2, .int x7), (0, .ref a0), (1, .int a1)]) dX3_needsOf_83 (by decide) rfl ?_
            refine G.goto 89 dX3_needsOf_84 (by decide) ?_
            exact G.pick [2, 3, 0] rfl (j_X3_needsOf_89 X d a0 a1 (x7 + x16) h1 _ _ hf)
          · rw [if_neg c13] at hf
            have nc11 := lv_neT c11 (a := 1) (by decide)
            have nc12 := lv_neT c12 (a := 2) (by decide)
            have nc13 := lv_neT c13 (a := 3) (by decide)
            refine G.tswOut 87 dX3_needsOf_29 (by omega) (by decide) ?_
            refine G.iload_n dX3_needsOf_87 rfl ?_
            refine G.istore_n (lv' := [(3, .int x7), (2, .int x7), (0, .ref a0), (1, .int a1)]) dX3_needsOf_88 (by decide) rfl ?_
            exact G.pick [2, 3, 0] rfl (j_X3_needsOf_89 X d a0 a1 x7 h1 _ _ hf)
    · rw [if_pos c4] at hf
      refine G.iconst (v := (0 : Int32)) dX3_needsOf_8 (by decide) ?_
      obtain ⟨hq1, hq2⟩ := Prod.mk.inj (Option.some.inj hf)
      subst hq1
      subst hq2
      exact G.iret rfl rfl dX3_needsOf_9
  · rw [if_neg ho] at hf
    cases hf
/-! X5_hardestChild -/
theorem dX5_hardestChild_0 : decode cX5_hardestChild 0 = .ok (.iconst (-1), 1) := by decide +kernel
theorem dX5_hardestChild_1 : decode cX5_hardestChild 1 = .ok (.istore_n 1, 1) := by decide +kernel
theorem dX5_hardestChild_2 : decode cX5_hardestChild 2 = .ok (.iconst (-1), 1) := by decide +kernel
theorem dX5_hardestChild_3 : decode cX5_hardestChild 3 = .ok (.istore_n 2, 1) := by decide +kernel
theorem dX5_hardestChild_4 : decode cX5_hardestChild 4 = .ok (.iconst 0, 1) := by decide +kernel
theorem dX5_hardestChild_5 : decode cX5_hardestChild 5 = .ok (.istore_n 3, 1) := by decide +kernel
theorem dX5_hardestChild_6 : decode cX5_hardestChild 6 = .ok (.iload_n 3, 1) := by decide +kernel
theorem dX5_hardestChild_7 : decode cX5_hardestChild 7 = .ok (.aload_n 0, 1) := by decide +kernel
theorem dX5_hardestChild_8 : decode cX5_hardestChild 8 = .ok (.getfield 9, 3) := by decide +kernel
theorem dX5_hardestChild_11 : decode cX5_hardestChild 11 = .ok (.getfield 31, 3) := by decide +kernel
theorem dX5_hardestChild_14 : decode cX5_hardestChild 14 = .ok (.if_icmp .ge 27, 3) := by decide +kernel
theorem dX5_hardestChild_17 : decode cX5_hardestChild 17 = .ok (.aload_n 0, 1) := by decide +kernel
theorem dX5_hardestChild_18 : decode cX5_hardestChild 18 = .ok (.iload_n 3, 1) := by decide +kernel
theorem dX5_hardestChild_19 : decode cX5_hardestChild 19 = .ok (.invokevirtual 34, 3) := by decide +kernel
theorem dX5_hardestChild_22 : decode cX5_hardestChild 22 = .ok (.istore 4, 2) := by decide +kernel
theorem dX5_hardestChild_24 : decode cX5_hardestChild 24 = .ok (.iload 4, 2) := by decide +kernel
theorem dX5_hardestChild_26 : decode cX5_hardestChild 26 = .ok (.iload_n 2, 1) := by decide +kernel
theorem dX5_hardestChild_27 : decode cX5_hardestChild 27 = .ok (.if_icmp .le 8, 3) := by decide +kernel
theorem dX5_hardestChild_30 : decode cX5_hardestChild 30 = .ok (.iload 4, 2) := by decide +kernel
theorem dX5_hardestChild_32 : decode cX5_hardestChild 32 = .ok (.istore_n 2, 1) := by decide +kernel
theorem dX5_hardestChild_33 : decode cX5_hardestChild 33 = .ok (.iload_n 3, 1) := by decide +kernel
theorem dX5_hardestChild_34 : decode cX5_hardestChild 34 = .ok (.istore_n 1, 1) := by decide +kernel
theorem dX5_hardestChild_35 : decode cX5_hardestChild 35 = .ok (.iinc 3 1, 3) := by decide +kernel
theorem dX5_hardestChild_38 : decode cX5_hardestChild 38 = .ok (.goto (-32), 3) := by decide +kernel
theorem dX5_hardestChild_41 : decode cX5_hardestChild 41 = .ok (.iload_n 1, 1) := by decide +kernel
theorem dX5_hardestChild_42 : decode cX5_hardestChild 42 = .ok (.ireturn, 1) := by decide +kernel
def F_X5_hardestChild_L6 (rec : Nat → Int32 → Int32 → Int32 → AH → Option (Int32 × AH)) (v0 : Nat) (v1 : Int32) (v2 : Int32) (v3 : Int32) (h : AH) : Option (Int32 × AH) := (gr h 3 v0 1).bind fun r1 => (gi h 9 r1 10).bind fun x2 => if x2 ≤ v3 then (some (v1, h)) else (bT1 (f_X3_needsOf v0 v3 h) fun x6 h4 => if x6 ≤ v2 then (rec v0 v1 v2 (v3 + 1) h4) else (rec v0 v3 x6 (v3 + 1) h4))
def f_X5_hardestChild_L6 : Nat → Nat → Int32 → Int32 → Int32 → AH → Option (Int32 × AH)
  | 0 => fun _ _ _ _ _ => none
  | n + 1 => F_X5_hardestChild_L6 (f_X5_hardestChild_L6 n)
set_option maxRecDepth 100000 in
set_option maxHeartbeats 4000000 in
theorem lx_X5_hardestChild_L6 (X : SX) (d : Nat) : ∀ n (rv : Option Int32) (h' : AH), ∀ (v0 : Nat) (v1 : Int32) (v2 : Int32) (v3 : Int32) (h : AH) (y1 : Int32) (h1 : AH), f_X5_hardestChild_L6 n v0 v1 v2 v3 h = some (y1, h1) → G X mX5_hardestChild (d + 2) 41 [(1, .int y1)] [] h1 rv h' → G X mX5_hardestChild (d + 2) 6 [(0, .ref v0), (1, .int v1), (2, .int v2), (3, .int v3)] [] h rv h' := by
  intro n
  induction n with
  | zero =>
    intro rv h' v0 v1 v2 v3 h y1 h1 hf hE
    cases hf
  | succ n ihf =>
    intro rv h' v0 v1 v2 v3 h y1 h1 hf hE
    replace hf : F_X5_hardestChild_L6 (f_X5_hardestChild_L6 n) v0 v1 v2 v3 h = some (y1, h1) := hf
    unfold F_X5_hardestChild_L6 at hf
    have ih := ihf rv h'
    refine G.iload_n dX5_hardestChild_6 rfl ?_
    refine G.aload_n dX5_hardestChild_7 rfl ?_
    refine G.getr flX5_9 dX5_hardestChild_8 hf (fun r1 hf => ?_)
    refine G.geti flX5_31 dX5_hardestChild_11 hf (fun x2 hf => ?_)
    refine G.icmp_ge 41 dX5_hardestChild_14 (by decide) (fun c3 => ?_) (fun c3 => ?_)
    · rw [if_pos c3] at hf
      obtain ⟨u0, w1⟩ := Prod.mk.inj (Option.some.inj hf)
      subst u0
      subst w1
      exact G.pick [1] rfl hE
    · rw [if_neg c3] at hf
      refine G.aload_n dX5_hardestChild_17 rfl ?_
      refine G.iload_n dX5_hardestChild_18 rfl ?_
      obtain ⟨x6, h4, e5, hf⟩ := bT1_spec hf
      refine G.callVi (M' := mX3_needsOf) (ci := 3) (As := [.int v3]) (st := []) okX3_needsOf viX3_needsOf lkX5_34 rfl rfl rfl (Nat.le_of_ble_eq_true rfl) (Nat.le_of_ble_eq_true rfl) dX5_hardestChild_19 (c_X3_needsOf X d _ _ _ _ _ e5).1 (c_X3_needsOf X d _ _ _ _ _ e5).2 ?_
      refine G.istore (lv' := [(4, .int x6), (0, .ref v0), (1, .int v1), (2, .int v2), (3, .int v3)]) dX5_hardestChild_22 (by decide) rfl ?_
      refine G.iload dX5_hardestChild_24 rfl ?_
      refine G.iload_n dX5_hardestChild_26 rfl ?_
      refine G.icmp_le 35 dX5_hardestChild_27 (by decide) (fun c7 => ?_) (fun c7 => ?_)
      · rw [if_pos c7] at hf
        refine G.iinc (v := (v3 + 1)) (lv' := [(3, .int (v3 + 1)), (4, .int x6), (0, .ref v0), (1, .int v1), (2, .int v2)]) dX5_hardestChild_35 rfl rfl (by decide) rfl ?_
        refine G.goto 6 dX5_hardestChild_38 (by decide) ?_
        exact G.pick [2, 3, 4, 0] rfl (ih v0 v1 v2 (v3 + 1) h4 _ _ hf hE)
      · rw [if_neg c7] at hf
        refine G.iload dX5_hardestChild_30 rfl ?_
        refine G.istore_n (lv' := [(2, .int x6), (4, .int x6), (0, .ref v0), (1, .int v1), (3, .int v3)]) dX5_hardestChild_32 (by decide) rfl ?_
        refine G.iload_n dX5_hardestChild_33 rfl ?_
        refine G.istore_n (lv' := [(1, .int v3), (2, .int x6), (4, .int x6), (0, .ref v0), (3, .int v3)]) dX5_hardestChild_34 (by decide) rfl ?_
        refine G.iinc (v := (v3 + 1)) (lv' := [(3, .int (v3 + 1)), (1, .int v3), (2, .int x6), (4, .int x6), (0, .ref v0)]) dX5_hardestChild_35 rfl rfl (by decide) rfl ?_
        refine G.goto 6 dX5_hardestChild_38 (by decide) ?_
        exact G.pick [4, 1, 2, 0] rfl (ih v0 v3 x6 (v3 + 1) h4 _ _ hf hE)
theorem l_X5_hardestChild_L6 (X : SX) (d : Nat) (rv : Option Int32) (h' : AH) (n : Nat) : ∀ (v0 : Nat) (v1 : Int32) (v2 : Int32) (v3 : Int32) (h : AH) (y1 : Int32) (h1 : AH), f_X5_hardestChild_L6 n v0 v1 v2 v3 h = some (y1, h1) → G X mX5_hardestChild (d + 2) 41 [(1, .int y1)] [] h1 rv h' → G X mX5_hardestChild (d + 2) 6 [(0, .ref v0), (1, .int v1), (2, .int v2), (3, .int v3)] [] h rv h' := lx_X5_hardestChild_L6 X d n rv h'
def f_X5_hardestChild (a0 : Nat) (h : AH) : Option (Int32 × AH) := bT1 (f_X5_hardestChild_L6 1000000 a0 (-1 : Int32) (-1 : Int32) (0 : Int32) h) fun y3 h1 => some (y3, h1)
set_option maxRecDepth 100000 in
set_option maxHeartbeats 4000000 in
theorem c_X5_hardestChild (X : SX) (d : Nat) (a0 : Nat) (h : AH) (rr : Int32) (h' : AH) (hf : f_X5_hardestChild a0 h = some (rr, h')) : G X mX5_hardestChild (d + 2) 0 [(0, .ref a0)] [] h (some rr) h' := by
  unfold f_X5_hardestChild at hf
  refine G.iconst (v := (-1 : Int32)) dX5_hardestChild_0 (by decide) ?_
  refine G.istore_n (lv' := [(1, .int (-1 : Int32)), (0, .ref a0)]) dX5_hardestChild_1 (by decide) rfl ?_
  refine G.iconst (v := (-1 : Int32)) dX5_hardestChild_2 (by decide) ?_
  refine G.istore_n (lv' := [(2, .int (-1 : Int32)), (1, .int (-1 : Int32)), (0, .ref a0)]) dX5_hardestChild_3 (by decide) rfl ?_
  refine G.iconst (v := (0 : Int32)) dX5_hardestChild_4 (by decide) ?_
  refine G.istore_n (lv' := [(3, .int (0 : Int32)), (2, .int (-1 : Int32)), (1, .int (-1 : Int32)), (0, .ref a0)]) dX5_hardestChild_5 (by decide) rfl ?_
  obtain ⟨y3, h1, e2, hf⟩ := bT1_spec hf
  refine G.pick [3, 2, 1, 0] rfl (l_X5_hardestChild_L6 X d _ _ 1000000 a0 (-1 : Int32) (-1 : Int32) (0 : Int32) h y3 h1 e2 ?_)
  refine G.iload_n dX5_hardestChild_41 rfl ?_
  obtain ⟨hq1, hq2⟩ := Prod.mk.inj (Option.some.inj hf)
  subst hq1
  subst hq2
  exact G.iret rfl rfl dX5_hardestChild_42
/-! X5_spreadOfChildren -/
theorem dX5_spreadOfChildren_0 : decode cX5_spreadOfChildren 0 = .ok (.bipush 20, 2) := by decide +kernel
theorem dX5_spreadOfChildren_2 : decode cX5_spreadOfChildren 2 = .ok (.istore_n 1, 1) := by decide +kernel
theorem dX5_spreadOfChildren_3 : decode cX5_spreadOfChildren 3 = .ok (.iconst 0, 1) := by decide +kernel
theorem dX5_spreadOfChildren_4 : decode cX5_spreadOfChildren 4 = .ok (.istore_n 2, 1) := by decide +kernel
theorem dX5_spreadOfChildren_5 : decode cX5_spreadOfChildren 5 = .ok (.iconst 0, 1) := by decide +kernel
theorem dX5_spreadOfChildren_6 : decode cX5_spreadOfChildren 6 = .ok (.istore_n 3, 1) := by decide +kernel
theorem dX5_spreadOfChildren_7 : decode cX5_spreadOfChildren 7 = .ok (.iload_n 3, 1) := by decide +kernel
theorem dX5_spreadOfChildren_8 : decode cX5_spreadOfChildren 8 = .ok (.aload_n 0, 1) := by decide +kernel
theorem dX5_spreadOfChildren_9 : decode cX5_spreadOfChildren 9 = .ok (.getfield 9, 3) := by decide +kernel
theorem dX5_spreadOfChildren_12 : decode cX5_spreadOfChildren 12 = .ok (.getfield 31, 3) := by decide +kernel
theorem dX5_spreadOfChildren_15 : decode cX5_spreadOfChildren 15 = .ok (.if_icmp .ge 37, 3) := by decide +kernel
theorem dX5_spreadOfChildren_18 : decode cX5_spreadOfChildren 18 = .ok (.iload_n 1, 1) := by decide +kernel
theorem dX5_spreadOfChildren_19 : decode cX5_spreadOfChildren 19 = .ok (.aload_n 0, 1) := by decide +kernel
theorem dX5_spreadOfChildren_20 : decode cX5_spreadOfChildren 20 = .ok (.getfield 21, 3) := by decide +kernel
theorem dX5_spreadOfChildren_23 : decode cX5_spreadOfChildren 23 = .ok (.getfield 38, 3) := by decide +kernel
theorem dX5_spreadOfChildren_26 : decode cX5_spreadOfChildren 26 = .ok (.iload_n 3, 1) := by decide +kernel
theorem dX5_spreadOfChildren_27 : decode cX5_spreadOfChildren 27 = .ok (.iaload, 1) := by decide +kernel
theorem dX5_spreadOfChildren_28 : decode cX5_spreadOfChildren 28 = .ok (.invokestatic 41, 3) := by decide +kernel
theorem dX5_spreadOfChildren_31 : decode cX5_spreadOfChildren 31 = .ok (.istore_n 1, 1) := by decide +kernel
theorem dX5_spreadOfChildren_32 : decode cX5_spreadOfChildren 32 = .ok (.iload_n 2, 1) := by decide +kernel
theorem dX5_spreadOfChildren_33 : decode cX5_spreadOfChildren 33 = .ok (.aload_n 0, 1) := by decide +kernel
theorem dX5_spreadOfChildren_34 : decode cX5_spreadOfChildren 34 = .ok (.getfield 21, 3) := by decide +kernel
theorem dX5_spreadOfChildren_37 : decode cX5_spreadOfChildren 37 = .ok (.getfield 38, 3) := by decide +kernel
theorem dX5_spreadOfChildren_40 : decode cX5_spreadOfChildren 40 = .ok (.iload_n 3, 1) := by decide +kernel
theorem dX5_spreadOfChildren_41 : decode cX5_spreadOfChildren 41 = .ok (.iaload, 1) := by decide +kernel
theorem dX5_spreadOfChildren_42 : decode cX5_spreadOfChildren 42 = .ok (.invokestatic 47, 3) := by decide +kernel
theorem dX5_spreadOfChildren_45 : decode cX5_spreadOfChildren 45 = .ok (.istore_n 2, 1) := by decide +kernel
theorem dX5_spreadOfChildren_46 : decode cX5_spreadOfChildren 46 = .ok (.iinc 3 1, 3) := by decide +kernel
theorem dX5_spreadOfChildren_49 : decode cX5_spreadOfChildren 49 = .ok (.goto (-42), 3) := by decide +kernel
theorem dX5_spreadOfChildren_52 : decode cX5_spreadOfChildren 52 = .ok (.iconst 0, 1) := by decide +kernel
theorem dX5_spreadOfChildren_53 : decode cX5_spreadOfChildren 53 = .ok (.iload_n 2, 1) := by decide +kernel
theorem dX5_spreadOfChildren_54 : decode cX5_spreadOfChildren 54 = .ok (.iload_n 1, 1) := by decide +kernel
theorem dX5_spreadOfChildren_55 : decode cX5_spreadOfChildren 55 = .ok (.isub, 1) := by decide +kernel
theorem dX5_spreadOfChildren_56 : decode cX5_spreadOfChildren 56 = .ok (.invokestatic 47, 3) := by decide +kernel
theorem dX5_spreadOfChildren_59 : decode cX5_spreadOfChildren 59 = .ok (.ireturn, 1) := by decide +kernel
def F_X5_spreadOfChildren_L7 (rec : Nat → Int32 → Int32 → Int32 → AH → Option (Int32 × Int32 × AH)) (v0 : Nat) (v1 : Int32) (v2 : Int32) (v3 : Int32) (h : AH) : Option (Int32 × Int32 × AH) := (gr h 3 v0 1).bind fun r1 => (gi h 9 r1 10).bind fun x2 => if x2 ≤ v3 then (some (v1, v2, h)) else ((gr h 3 v0 0).bind fun r4 => (gr h 4 r4 4).bind fun r5 => (ai h 0 r5 v3).bind fun x6 => (gr h 3 v0 0).bind fun r7 => (gr h 4 r7 4).bind fun r8 => (ai h 0 r8 v3).bind fun x9 => rec v0 (if x6 < v1 then x6 else v1) (if v2 < x9 then x9 else v2) (v3 + 1) h)
def f_X5_spreadOfChildren_L7 : Nat → Nat → Int32 → Int32 → Int32 → AH → Option (Int32 × Int32 × AH)
  | 0 => fun _ _ _ _ _ => none
  | n + 1 => F_X5_spreadOfChildren_L7 (f_X5_spreadOfChildren_L7 n)
set_option maxRecDepth 100000 in
set_option maxHeartbeats 4000000 in
theorem lx_X5_spreadOfChildren_L7 (X : SX) (d : Nat) : ∀ n (rv : Option Int32) (h' : AH), ∀ (v0 : Nat) (v1 : Int32) (v2 : Int32) (v3 : Int32) (h : AH) (y1 : Int32) (y2 : Int32) (h1 : AH), f_X5_spreadOfChildren_L7 n v0 v1 v2 v3 h = some (y1, y2, h1) → G X mX5_spreadOfChildren (d + 1) 52 [(1, .int y1), (2, .int y2)] [] h1 rv h' → G X mX5_spreadOfChildren (d + 1) 7 [(0, .ref v0), (1, .int v1), (2, .int v2), (3, .int v3)] [] h rv h' := by
  intro n
  induction n with
  | zero =>
    intro rv h' v0 v1 v2 v3 h y1 y2 h1 hf hE
    cases hf
  | succ n ihf =>
    intro rv h' v0 v1 v2 v3 h y1 y2 h1 hf hE
    replace hf : F_X5_spreadOfChildren_L7 (f_X5_spreadOfChildren_L7 n) v0 v1 v2 v3 h = some (y1, y2, h1) := hf
    unfold F_X5_spreadOfChildren_L7 at hf
    have ih := ihf rv h'
    refine G.iload_n dX5_spreadOfChildren_7 rfl ?_
    refine G.aload_n dX5_spreadOfChildren_8 rfl ?_
    refine G.getr flX5_9 dX5_spreadOfChildren_9 hf (fun r1 hf => ?_)
    refine G.geti flX5_31 dX5_spreadOfChildren_12 hf (fun x2 hf => ?_)
    refine G.icmp_ge 52 dX5_spreadOfChildren_15 (by decide) (fun c3 => ?_) (fun c3 => ?_)
    · rw [if_pos c3] at hf
      obtain ⟨u0, w1⟩ := Prod.mk.inj (Option.some.inj hf)
      obtain ⟨u1, w2⟩ := Prod.mk.inj w1
      subst u0
      subst u1
      subst w2
      exact G.pick [1, 2] rfl hE
    · rw [if_neg c3] at hf
      refine G.iload_n dX5_spreadOfChildren_18 rfl ?_
      refine G.aload_n dX5_spreadOfChildren_19 rfl ?_
      refine G.getr flX5_21 dX5_spreadOfChildren_20 hf (fun r4 hf => ?_)
      refine G.getr flX5_38 dX5_spreadOfChildren_23 hf (fun r5 hf => ?_)
      refine G.iload_n dX5_spreadOfChildren_26 rfl ?_
      refine G.iald dX5_spreadOfChildren_27 hf (fun x6 hf => ?_)
      refine G.min lkX5_41 (Nat.le_of_ble_eq_true rfl) dX5_spreadOfChildren_28 ?_
      refine G.istore_n (lv' := [(1, .int (if x6 < v1 then x6 else v1)), (0, .ref v0), (2, .int v2), (3, .int v3)]) dX5_spreadOfChildren_31 (by decide) rfl ?_
      refine G.iload_n dX5_spreadOfChildren_32 rfl ?_
      refine G.aload_n dX5_spreadOfChildren_33 rfl ?_
      refine G.getr flX5_21 dX5_spreadOfChildren_34 hf (fun r7 hf => ?_)
      refine G.getr flX5_38 dX5_spreadOfChildren_37 hf (fun r8 hf => ?_)
      refine G.iload_n dX5_spreadOfChildren_40 rfl ?_
      refine G.iald dX5_spreadOfChildren_41 hf (fun x9 hf => ?_)
      refine G.max lkX5_47 (Nat.le_of_ble_eq_true rfl) dX5_spreadOfChildren_42 ?_
      refine G.istore_n (lv' := [(2, .int (if v2 < x9 then x9 else v2)), (1, .int (if x6 < v1 then x6 else v1)), (0, .ref v0), (3, .int v3)]) dX5_spreadOfChildren_45 (by decide) rfl ?_
      refine G.iinc (v := (v3 + 1)) (lv' := [(3, .int (v3 + 1)), (2, .int (if v2 < x9 then x9 else v2)), (1, .int (if x6 < v1 then x6 else v1)), (0, .ref v0)]) dX5_spreadOfChildren_46 rfl rfl (by decide) rfl ?_
      refine G.goto 7 dX5_spreadOfChildren_49 (by decide) ?_
      exact G.pick [3, 2, 1, 0] rfl (ih v0 (if x6 < v1 then x6 else v1) (if v2 < x9 then x9 else v2) (v3 + 1) h _ _ _ hf hE)
theorem l_X5_spreadOfChildren_L7 (X : SX) (d : Nat) (rv : Option Int32) (h' : AH) (n : Nat) : ∀ (v0 : Nat) (v1 : Int32) (v2 : Int32) (v3 : Int32) (h : AH) (y1 : Int32) (y2 : Int32) (h1 : AH), f_X5_spreadOfChildren_L7 n v0 v1 v2 v3 h = some (y1, y2, h1) → G X mX5_spreadOfChildren (d + 1) 52 [(1, .int y1), (2, .int y2)] [] h1 rv h' → G X mX5_spreadOfChildren (d + 1) 7 [(0, .ref v0), (1, .int v1), (2, .int v2), (3, .int v3)] [] h rv h' := lx_X5_spreadOfChildren_L7 X d n rv h'
def f_X5_spreadOfChildren (a0 : Nat) (h : AH) : Option (Int32 × AH) := bT2 (f_X5_spreadOfChildren_L7 1000000 a0 (20 : Int32) (0 : Int32) (0 : Int32) h) fun y3 y4 h1 => some ((if (0 : Int32) < (y4 - y3) then (y4 - y3) else (0 : Int32)), h1)
set_option maxRecDepth 100000 in
set_option maxHeartbeats 4000000 in
theorem c_X5_spreadOfChildren (X : SX) (d : Nat) (a0 : Nat) (h : AH) (rr : Int32) (h' : AH) (hf : f_X5_spreadOfChildren a0 h = some (rr, h')) : G X mX5_spreadOfChildren (d + 1) 0 [(0, .ref a0)] [] h (some rr) h' := by
  unfold f_X5_spreadOfChildren at hf
  refine G.bipush (v := (20 : Int32)) dX5_spreadOfChildren_0 (by decide) ?_
  refine G.istore_n (lv' := [(1, .int (20 : Int32)), (0, .ref a0)]) dX5_spreadOfChildren_2 (by decide) rfl ?_
  refine G.iconst (v := (0 : Int32)) dX5_spreadOfChildren_3 (by decide) ?_
  refine G.istore_n (lv' := [(2, .int (0 : Int32)), (1, .int (20 : Int32)), (0, .ref a0)]) dX5_spreadOfChildren_4 (by decide) rfl ?_
  refine G.iconst (v := (0 : Int32)) dX5_spreadOfChildren_5 (by decide) ?_
  refine G.istore_n (lv' := [(3, .int (0 : Int32)), (2, .int (0 : Int32)), (1, .int (20 : Int32)), (0, .ref a0)]) dX5_spreadOfChildren_6 (by decide) rfl ?_
  obtain ⟨y3, y4, h1, e2, hf⟩ := bT2_spec hf
  refine G.pick [3, 2, 1, 0] rfl (l_X5_spreadOfChildren_L7 X d _ _ 1000000 a0 (20 : Int32) (0 : Int32) (0 : Int32) h y3 y4 h1 e2 ?_)
  refine G.iconst (v := (0 : Int32)) dX5_spreadOfChildren_52 (by decide) ?_
  refine G.iload_n dX5_spreadOfChildren_53 rfl ?_
  refine G.iload_n dX5_spreadOfChildren_54 rfl ?_
  refine G.isub dX5_spreadOfChildren_55 ?_
  refine G.max lkX5_47 (Nat.le_of_ble_eq_true rfl) dX5_spreadOfChildren_56 ?_
  obtain ⟨hq1, hq2⟩ := Prod.mk.inj (Option.some.inj hf)
  subst hq1
  subst hq2
  exact G.iret rfl rfl dX5_spreadOfChildren_59
/-! X3_stepsTo -/
theorem dX3_stepsTo_0 : decode cX3_stepsTo 0 = .ok (.aload_n 0, 1) := by decide +kernel
theorem dX3_stepsTo_1 : decode cX3_stepsTo 1 = .ok (.getfield 12, 3) := by decide +kernel
theorem dX3_stepsTo_4 : decode cX3_stepsTo 4 = .ok (.getfield 99, 3) := by decide +kernel
theorem dX3_stepsTo_7 : decode cX3_stepsTo 7 = .ok (.iload_n 1, 1) := by decide +kernel
theorem dX3_stepsTo_8 : decode cX3_stepsTo 8 = .ok (.iaload, 1) := by decide +kernel
theorem dX3_stepsTo_9 : decode cX3_stepsTo 9 = .ok (.iload_n 2, 1) := by decide +kernel
theorem dX3_stepsTo_10 : decode cX3_stepsTo 10 = .ok (.isub, 1) := by decide +kernel
theorem dX3_stepsTo_11 : decode cX3_stepsTo 11 = .ok (.invokestatic 102, 3) := by decide +kernel
theorem dX3_stepsTo_14 : decode cX3_stepsTo 14 = .ok (.ireturn, 1) := by decide +kernel
def f_X3_stepsTo (a0 : Nat) (a1 : Int32) (a2 : Int32) (h : AH) : Option (Int32 × AH) := if isO h 3 a0 = true then ((gr h 3 a0 0).bind fun r1 => (gr h 4 r1 2).bind fun r2 => (ai h 0 r2 a1).bind fun x3 => some ((if 0 ≤ (x3 - a2) then (x3 - a2) else 0 - (x3 - a2)), h)) else none
set_option maxRecDepth 100000 in
set_option maxHeartbeats 4000000 in
theorem c_X3_stepsTo (X : SX) (d : Nat) (a0 : Nat) (a1 : Int32) (a2 : Int32) (h : AH) (rr : Int32) (h' : AH) (hf : f_X3_stepsTo a0 a1 a2 h = some (rr, h')) : isO h 3 a0 = true ∧ G X mX3_stepsTo (d + 1) 0 [(0, .ref a0), (1, .int a1), (2, .int a2)] [] h (some rr) h' := by
  unfold f_X3_stepsTo at hf
  by_cases ho : isO h 3 a0 = true
  · rw [if_pos ho] at hf
    refine ⟨ho, ?_⟩
    refine G.aload_n dX3_stepsTo_0 rfl ?_
    refine G.getr flX3_12 dX3_stepsTo_1 hf (fun r1 hf => ?_)
    refine G.getr flX3_99 dX3_stepsTo_4 hf (fun r2 hf => ?_)
    refine G.iload_n dX3_stepsTo_7 rfl ?_
    refine G.iald dX3_stepsTo_8 hf (fun x3 hf => ?_)
    refine G.iload_n dX3_stepsTo_9 rfl ?_
    refine G.isub dX3_stepsTo_10 ?_
    refine G.abs lkX3_102 (Nat.le_of_ble_eq_true rfl) dX3_stepsTo_11 ?_
    obtain ⟨hq1, hq2⟩ := Prod.mk.inj (Option.some.inj hf)
    subst hq1
    subst hq2
    exact G.iret rfl rfl dX3_stepsTo_14
  · rw [if_neg ho] at hf
    cases hf
/-! X3_couldPutDown -/
theorem dX3_couldPutDown_0 : decode cX3_couldPutDown 0 = .ok (.aload_n 0, 1) := by decide +kernel
theorem dX3_couldPutDown_1 : decode cX3_couldPutDown 1 = .ok (.iload_n 2, 1) := by decide +kernel
theorem dX3_couldPutDown_2 : decode cX3_couldPutDown 2 = .ok (.invokevirtual 72, 3) := by decide +kernel
theorem dX3_couldPutDown_5 : decode cX3_couldPutDown 5 = .ok (.ifCond .eq 51, 3) := by decide +kernel
theorem dX3_couldPutDown_8 : decode cX3_couldPutDown 8 = .ok (.aload_n 0, 1) := by decide +kernel
theorem dX3_couldPutDown_9 : decode cX3_couldPutDown 9 = .ok (.getfield 12, 3) := by decide +kernel
theorem dX3_couldPutDown_12 : decode cX3_couldPutDown 12 = .ok (.getfield 43, 3) := by decide +kernel
theorem dX3_couldPutDown_15 : decode cX3_couldPutDown 15 = .ok (.iload_n 1, 1) := by decide +kernel
theorem dX3_couldPutDown_16 : decode cX3_couldPutDown 16 = .ok (.iaload, 1) := by decide +kernel
theorem dX3_couldPutDown_17 : decode cX3_couldPutDown 17 = .ok (.ifCond .le 39, 3) := by decide +kernel
theorem dX3_couldPutDown_20 : decode cX3_couldPutDown 20 = .ok (.aload_n 0, 1) := by decide +kernel
theorem dX3_couldPutDown_21 : decode cX3_couldPutDown 21 = .ok (.iload_n 1, 1) := by decide +kernel
theorem dX3_couldPutDown_22 : decode cX3_couldPutDown 22 = .ok (.aload_n 0, 1) := by decide +kernel
theorem dX3_couldPutDown_23 : decode cX3_couldPutDown 23 = .ok (.getfield 12, 3) := by decide +kernel
theorem dX3_couldPutDown_26 : decode cX3_couldPutDown 26 = .ok (.getfield 52, 3) := by decide +kernel
theorem dX3_couldPutDown_29 : decode cX3_couldPutDown 29 = .ok (.iload_n 2, 1) := by decide +kernel
theorem dX3_couldPutDown_30 : decode cX3_couldPutDown 30 = .ok (.iaload, 1) := by decide +kernel
theorem dX3_couldPutDown_31 : decode cX3_couldPutDown 31 = .ok (.invokevirtual 106, 3) := by decide +kernel
theorem dX3_couldPutDown_34 : decode cX3_couldPutDown 34 = .ok (.aload_n 0, 1) := by decide +kernel
theorem dX3_couldPutDown_35 : decode cX3_couldPutDown 35 = .ok (.iload_n 2, 1) := by decide +kernel
theorem dX3_couldPutDown_36 : decode cX3_couldPutDown 36 = .ok (.invokevirtual 109, 3) := by decide +kernel
theorem dX3_couldPutDown_39 : decode cX3_couldPutDown 39 = .ok (.iadd, 1) := by decide +kernel
theorem dX3_couldPutDown_40 : decode cX3_couldPutDown 40 = .ok (.aload_n 0, 1) := by decide +kernel
theorem dX3_couldPutDown_41 : decode cX3_couldPutDown 41 = .ok (.getfield 12, 3) := by decide +kernel
theorem dX3_couldPutDown_44 : decode cX3_couldPutDown 44 = .ok (.getfield 112, 3) := by decide +kernel
theorem dX3_couldPutDown_47 : decode cX3_couldPutDown 47 = .ok (.iload_n 1, 1) := by decide +kernel
theorem dX3_couldPutDown_48 : decode cX3_couldPutDown 48 = .ok (.iaload, 1) := by decide +kernel
theorem dX3_couldPutDown_49 : decode cX3_couldPutDown 49 = .ok (.if_icmp .gt 7, 3) := by decide +kernel
theorem dX3_couldPutDown_52 : decode cX3_couldPutDown 52 = .ok (.iconst 1, 1) := by decide +kernel
theorem dX3_couldPutDown_53 : decode cX3_couldPutDown 53 = .ok (.goto 4, 3) := by decide +kernel
theorem dX3_couldPutDown_56 : decode cX3_couldPutDown 56 = .ok (.iconst 0, 1) := by decide +kernel
theorem dX3_couldPutDown_57 : decode cX3_couldPutDown 57 = .ok (.ireturn, 1) := by decide +kernel
def f_X3_couldPutDown (a0 : Nat) (a1 : Int32) (a2 : Int32) (h : AH) : Option (Int32 × AH) := if isO h 3 a0 = true then (bT1 (f_X3_isAwake a0 a2 h) fun x3 h1 => if x3 = 0 then (some ((0 : Int32), h1)) else ((gr h1 3 a0 0).bind fun r5 => (gr h1 4 r5 1).bind fun r6 => (ai h1 0 r6 a1).bind fun x7 => if x7 ≤ 0 then (some ((0 : Int32), h1)) else ((gr h1 3 a0 0).bind fun r9 => (gr h1 4 r9 4).bind fun r10 => (ai h1 0 r10 a2).bind fun x11 => bT1 (f_X3_stepsTo a0 a1 x11 h1) fun x14 h12 => bT1 (f_X3_needsOf a0 a2 h12) fun x17 h15 => (gr h15 3 a0 0).bind fun r18 => (gr h15 4 r18 3).bind fun r19 => (ai h15 0 r19 a1).bind fun x20 => if x20 < (x14 + x17) then (some ((0 : Int32), h15)) else (some ((1 : Int32), h15))))) else none
set_option maxRecDepth 100000 in
set_option maxHeartbeats 4000000 in
theorem c_X3_couldPutDown (X : SX) (d : Nat) (a0 : Nat) (a1 : Int32) (a2 : Int32) (h : AH) (rr : Int32) (h' : AH) (hf : f_X3_couldPutDown a0 a1 a2 h = some (rr, h')) : isO h 3 a0 = true ∧ G X mX3_couldPutDown (d + 2) 0 [(0, .ref a0), (1, .int a1), (2, .int a2)] [] h (some rr) h' := by
  unfold f_X3_couldPutDown at hf
  by_cases ho : isO h 3 a0 = true
  · rw [if_pos ho] at hf
    refine ⟨ho, ?_⟩
    refine G.aload_n dX3_couldPutDown_0 rfl ?_
    refine G.iload_n dX3_couldPutDown_1 rfl ?_
    obtain ⟨x3, h1, e2, hf⟩ := bT1_spec hf
    refine G.callVi (M' := mX3_isAwake) (ci := 3) (As := [.int a2]) (st := []) okX3_isAwake viX3_isAwake lkX3_72 rfl rfl rfl (Nat.le_of_ble_eq_true rfl) (Nat.le_of_ble_eq_true rfl) dX3_couldPutDown_2 (c_X3_isAwake X (d + 1) _ _ _ _ _ e2).1 (c_X3_isAwake X (d + 1) _ _ _ _ _ e2).2 ?_
    refine G.if_eq 56 dX3_couldPutDown_5 (by decide) (fun c4 => ?_) (fun c4 => ?_)
    · rw [if_pos c4] at hf
      refine G.iconst (v := (0 : Int32)) dX3_couldPutDown_56 (by decide) ?_
      obtain ⟨hq1, hq2⟩ := Prod.mk.inj (Option.some.inj hf)
      subst hq1
      subst hq2
      exact G.iret rfl (by decide) dX3_couldPutDown_57
    · rw [if_neg c4] at hf
      refine G.aload_n dX3_couldPutDown_8 rfl ?_
      refine G.getr flX3_12 dX3_couldPutDown_9 hf (fun r5 hf => ?_)
      refine G.getr flX3_43 dX3_couldPutDown_12 hf (fun r6 hf => ?_)
      refine G.iload_n dX3_couldPutDown_15 rfl ?_
      refine G.iald dX3_couldPutDown_16 hf (fun x7 hf => ?_)
      refine G.if_le 56 dX3_couldPutDown_17 (by decide) (fun c8 => ?_) (fun c8 => ?_)
      · rw [if_pos c8] at hf
        refine G.iconst (v := (0 : Int32)) dX3_couldPutDown_56 (by decide) ?_
        obtain ⟨hq1, hq2⟩ := Prod.mk.inj (Option.some.inj hf)
        subst hq1
        subst hq2
        exact G.iret rfl (by decide) dX3_couldPutDown_57
      · rw [if_neg c8] at hf
        refine G.aload_n dX3_couldPutDown_20 rfl ?_
        refine G.iload_n dX3_couldPutDown_21 rfl ?_
        refine G.aload_n dX3_couldPutDown_22 rfl ?_
        refine G.getr flX3_12 dX3_couldPutDown_23 hf (fun r9 hf => ?_)
        refine G.getr flX3_52 dX3_couldPutDown_26 hf (fun r10 hf => ?_)
        refine G.iload_n dX3_couldPutDown_29 rfl ?_
        refine G.iald dX3_couldPutDown_30 hf (fun x11 hf => ?_)
        obtain ⟨x14, h12, e13, hf⟩ := bT1_spec hf
        refine G.callVi (M' := mX3_stepsTo) (ci := 3) (As := [.int a1, .int x11]) (st := []) okX3_stepsTo viX3_stepsTo lkX3_106 rfl rfl rfl (Nat.le_of_ble_eq_true rfl) (Nat.le_of_ble_eq_true rfl) dX3_couldPutDown_31 (c_X3_stepsTo X d _ _ _ _ _ _ e13).1 (c_X3_stepsTo X d _ _ _ _ _ _ e13).2 ?_
        refine G.aload_n dX3_couldPutDown_34 rfl ?_
        refine G.iload_n dX3_couldPutDown_35 rfl ?_
        obtain ⟨x17, h15, e16, hf⟩ := bT1_spec hf
        refine G.callVi (M' := mX3_needsOf) (ci := 3) (As := [.int a2]) (st := [.int x14]) okX3_needsOf viX3_needsOf lkX3_109 rfl rfl rfl (Nat.le_of_ble_eq_true rfl) (Nat.le_of_ble_eq_true rfl) dX3_couldPutDown_36 (c_X3_needsOf X d _ _ _ _ _ e16).1 (c_X3_needsOf X d _ _ _ _ _ e16).2 ?_
        refine G.iadd dX3_couldPutDown_39 ?_
        refine G.aload_n dX3_couldPutDown_40 rfl ?_
        refine G.getr flX3_12 dX3_couldPutDown_41 hf (fun r18 hf => ?_)
        refine G.getr flX3_112 dX3_couldPutDown_44 hf (fun r19 hf => ?_)
        refine G.iload_n dX3_couldPutDown_47 rfl ?_
        refine G.iald dX3_couldPutDown_48 hf (fun x20 hf => ?_)
        refine G.icmp_gt 56 dX3_couldPutDown_49 (by decide) (fun c21 => ?_) (fun c21 => ?_)
        · rw [if_pos c21] at hf
          refine G.iconst (v := (0 : Int32)) dX3_couldPutDown_56 (by decide) ?_
          obtain ⟨hq1, hq2⟩ := Prod.mk.inj (Option.some.inj hf)
          subst hq1
          subst hq2
          exact G.iret rfl (by decide) dX3_couldPutDown_57
        · rw [if_neg c21] at hf
          refine G.iconst (v := (1 : Int32)) dX3_couldPutDown_52 (by decide) ?_
          refine G.goto 57 dX3_couldPutDown_53 (by decide) ?_
          obtain ⟨hq1, hq2⟩ := Prod.mk.inj (Option.some.inj hf)
          subst hq1
          subst hq2
          exact G.iret rfl (by decide) dX3_couldPutDown_57
  · rw [if_neg ho] at hf
    cases hf
/-! X3_songPays -/
theorem dX3_songPays_0 : decode cX3_songPays 0 = .ok (.aload_n 0, 1) := by decide +kernel
theorem dX3_songPays_1 : decode cX3_songPays 1 = .ok (.getfield 21, 3) := by decide +kernel
theorem dX3_songPays_4 : decode cX3_songPays 4 = .ok (.getfield 90, 3) := by decide +kernel
theorem dX3_songPays_7 : decode cX3_songPays 7 = .ok (.iload_n 1, 1) := by decide +kernel
theorem dX3_songPays_8 : decode cX3_songPays 8 = .ok (.iaload, 1) := by decide +kernel
theorem dX3_songPays_9 : decode cX3_songPays 9 = .ok (.lookupswitch 41 #[(1, 27), (3, 29)], 27) := by decide +kernel
theorem dX3_songPays_36 : decode cX3_songPays 36 = .ok (.iconst 1, 1) := by decide +kernel
theorem dX3_songPays_37 : decode cX3_songPays 37 = .ok (.ireturn, 1) := by decide +kernel
theorem dX3_songPays_38 : decode cX3_songPays 38 = .ok (.iload_n 2, 1) := by decide +kernel
theorem dX3_songPays_39 : decode cX3_songPays 39 = .ok (.iconst 2, 1) := by decide +kernel
theorem dX3_songPays_40 : decode cX3_songPays 40 = .ok (.irem, 1) := by decide +kernel
theorem dX3_songPays_41 : decode cX3_songPays 41 = .ok (.ifCond .ne 7, 3) := by decide +kernel
theorem dX3_songPays_44 : decode cX3_songPays 44 = .ok (.iconst 2, 1) := by decide +kernel
theorem dX3_songPays_45 : decode cX3_songPays 45 = .ok (.goto 4, 3) := by decide +kernel
theorem dX3_songPays_48 : decode cX3_songPays 48 = .ok (.iconst 1, 1) := by decide +kernel
theorem dX3_songPays_49 : decode cX3_songPays 49 = .ok (.ireturn, 1) := by decide +kernel
theorem dX3_songPays_50 : decode cX3_songPays 50 = .ok (.iconst 2, 1) := by decide +kernel
theorem dX3_songPays_51 : decode cX3_songPays 51 = .ok (.ireturn, 1) := by decide +kernel
def f_X3_songPays (a0 : Nat) (a1 : Int32) (a2 : Int32) (h : AH) : Option (Int32 × AH) := if isO h 3 a0 = true then ((gr h 3 a0 1).bind fun r1 => (gr h 9 r1 0).bind fun r2 => (ai h 0 r2 a1).bind fun x3 => if x3 = 1 then (some ((1 : Int32), h)) else (if x3 = 3 then (if (a2 - a2 / (2 : Int32) * (2 : Int32)) = 0 then (some ((2 : Int32), h)) else (some ((1 : Int32), h))) else (some ((2 : Int32), h)))) else none
set_option maxRecDepth 100000 in
set_option maxHeartbeats 4000000 in
theorem c_X3_songPays (X : SX) (d : Nat) (a0 : Nat) (a1 : Int32) (a2 : Int32) (h : AH) (rr : Int32) (h' : AH) (hf : f_X3_songPays a0 a1 a2 h = some (rr, h')) : isO h 3 a0 = true ∧ G X mX3_songPays d 0 [(0, .ref a0), (1, .int a1), (2, .int a2)] [] h (some rr) h' := by
  unfold f_X3_songPays at hf
  by_cases ho : isO h 3 a0 = true
  · rw [if_pos ho] at hf
    refine ⟨ho, ?_⟩
    refine G.aload_n dX3_songPays_0 rfl ?_
    refine G.getr flX3_21 dX3_songPays_1 hf (fun r1 hf => ?_)
    refine G.getr flX3_90 dX3_songPays_4 hf (fun r2 hf => ?_)
    refine G.iload_n dX3_songPays_7 rfl ?_
    refine G.iald dX3_songPays_8 hf (fun x3 hf => ?_)
    by_cases c4 : x3 = 1
    · rw [if_pos c4] at hf
      refine G.lsw (off := 27) 36 dX3_songPays_9 (by decide) (by rw [c4] <;> rfl) (by decide) ?_
      refine G.iconst (v := (1 : Int32)) dX3_songPays_36 (by decide) ?_
      obtain ⟨hq1, hq2⟩ := Prod.mk.inj (Option.some.inj hf)
      subst hq1
      subst hq2
      exact G.iret rfl rfl dX3_songPays_37
    · rw [if_neg c4] at hf
      by_cases c5 : x3 = 3
      · rw [if_pos c5] at hf
        refine G.lsw (off := 29) 38 dX3_songPays_9 (by decide) (by rw [c5] <;> rfl) (by decide) ?_
        refine G.iload_n dX3_songPays_38 rfl ?_
        refine G.iconst (v := (2 : Int32)) dX3_songPays_39 (by decide) ?_
        refine G.irem dX3_songPays_40 (by decide) ?_
        refine G.if_ne 48 dX3_songPays_41 (by decide) (fun c6 => ?_) (fun c6 => ?_)
        · rw [if_neg c6] at hf
          refine G.iconst (v := (1 : Int32)) dX3_songPays_48 (by decide) ?_
          obtain ⟨hq1, hq2⟩ := Prod.mk.inj (Option.some.inj hf)
          subst hq1
          subst hq2
          exact G.iret rfl rfl dX3_songPays_49
        · rw [if_pos c6] at hf
          refine G.iconst (v := (2 : Int32)) dX3_songPays_44 (by decide) ?_
          refine G.goto 49 dX3_songPays_45 (by decide) ?_
          obtain ⟨hq1, hq2⟩ := Prod.mk.inj (Option.some.inj hf)
          subst hq1
          subst hq2
          exact G.iret rfl rfl dX3_songPays_49
      · rw [if_neg c5] at hf
        have nc4 := lv_neT c4 (a := 1) (by decide)
        have nc5 := lv_neT c5 (a := 3) (by decide)
        refine G.lsw (off := 41) 50 dX3_songPays_9 (by decide) (by rw [show (#[(1, 27), (3, 29)] : Array (Int × Int)).toList = [(1, 27), (3, 29)] from rfl, lv_osw c4 (by decide), lv_osw c5 (by decide)] <;> rfl) (by decide) ?_
        refine G.iconst (v := (2 : Int32)) dX3_songPays_50 (by decide) ?_
        obtain ⟨hq1, hq2⟩ := Prod.mk.inj (Option.some.inj hf)
        subst hq1
        subst hq2
        exact G.iret rfl rfl dX3_songPays_51
  · rw [if_neg ho] at hf
    cases hf
/-! X3_songPaysTo -/
theorem dX3_songPaysTo_0 : decode cX3_songPaysTo 0 = .ok (.aload_n 0, 1) := by decide +kernel
theorem dX3_songPaysTo_1 : decode cX3_songPaysTo 1 = .ok (.getfield 21, 3) := by decide +kernel
theorem dX3_songPaysTo_4 : decode cX3_songPaysTo 4 = .ok (.getfield 90, 3) := by decide +kernel
theorem dX3_songPaysTo_7 : decode cX3_songPaysTo 7 = .ok (.iload_n 1, 1) := by decide +kernel
theorem dX3_songPaysTo_8 : decode cX3_songPaysTo 8 = .ok (.iaload, 1) := by decide +kernel
theorem dX3_songPaysTo_9 : decode cX3_songPaysTo 9 = .ok (.iconst 2, 1) := by decide +kernel
theorem dX3_songPaysTo_10 : decode cX3_songPaysTo 10 = .ok (.if_icmp .ne 26, 3) := by decide +kernel
theorem dX3_songPaysTo_13 : decode cX3_songPaysTo 13 = .ok (.aload_n 0, 1) := by decide +kernel
theorem dX3_songPaysTo_14 : decode cX3_songPaysTo 14 = .ok (.getfield 12, 3) := by decide +kernel
theorem dX3_songPaysTo_17 : decode cX3_songPaysTo 17 = .ok (.getfield 52, 3) := by decide +kernel
theorem dX3_songPaysTo_20 : decode cX3_songPaysTo 20 = .ok (.iload_n 2, 1) := by decide +kernel
theorem dX3_songPaysTo_21 : decode cX3_songPaysTo 21 = .ok (.iaload, 1) := by decide +kernel
theorem dX3_songPaysTo_22 : decode cX3_songPaysTo 22 = .ok (.aload_n 0, 1) := by decide +kernel
theorem dX3_songPaysTo_23 : decode cX3_songPaysTo 23 = .ok (.getfield 21, 3) := by decide +kernel
theorem dX3_songPaysTo_26 : decode cX3_songPaysTo 26 = .ok (.getfield 93, 3) := by decide +kernel
theorem dX3_songPaysTo_29 : decode cX3_songPaysTo 29 = .ok (.iload_n 1, 1) := by decide +kernel
theorem dX3_songPaysTo_30 : decode cX3_songPaysTo 30 = .ok (.iaload, 1) := by decide +kernel
theorem dX3_songPaysTo_31 : decode cX3_songPaysTo 31 = .ok (.if_icmp .ne 5, 3) := by decide +kernel
theorem dX3_songPaysTo_34 : decode cX3_songPaysTo 34 = .ok (.iconst 1, 1) := by decide +kernel
theorem dX3_songPaysTo_35 : decode cX3_songPaysTo 35 = .ok (.ireturn, 1) := by decide +kernel
theorem dX3_songPaysTo_36 : decode cX3_songPaysTo 36 = .ok (.aload_n 0, 1) := by decide +kernel
theorem dX3_songPaysTo_37 : decode cX3_songPaysTo 37 = .ok (.iload_n 1, 1) := by decide +kernel
theorem dX3_songPaysTo_38 : decode cX3_songPaysTo 38 = .ok (.aload_n 0, 1) := by decide +kernel
theorem dX3_songPaysTo_39 : decode cX3_songPaysTo 39 = .ok (.getfield 12, 3) := by decide +kernel
theorem dX3_songPaysTo_42 : decode cX3_songPaysTo 42 = .ok (.getfield 25, 3) := by decide +kernel
theorem dX3_songPaysTo_45 : decode cX3_songPaysTo 45 = .ok (.invokevirtual 96, 3) := by decide +kernel
theorem dX3_songPaysTo_48 : decode cX3_songPaysTo 48 = .ok (.ireturn, 1) := by decide +kernel
def f_X3_songPaysTo_36 (v0 : Nat) (v1 : Int32) (h : AH) : Option (Int32 × AH) := (gr h 3 v0 0).bind fun r1 => (gi h 4 r1 8).bind fun x2 => bT1 (f_X3_songPays v0 v1 x2 h) fun x5 h3 => some (x5, h3)
set_option maxRecDepth 100000 in
set_option maxHeartbeats 4000000 in
theorem j_X3_songPaysTo_36 (X : SX) (d : Nat) (v0 : Nat) (v1 : Int32) (h : AH) (rr : Int32) (h' : AH) (hf : f_X3_songPaysTo_36 v0 v1 h = some (rr, h')) : G X mX3_songPaysTo (d + 1) 36 [(0, .ref v0), (1, .int v1)] [] h (some rr) h' := by
  unfold f_X3_songPaysTo_36 at hf
  refine G.aload_n dX3_songPaysTo_36 rfl ?_
  refine G.iload_n dX3_songPaysTo_37 rfl ?_
  refine G.aload_n dX3_songPaysTo_38 rfl ?_
  refine G.getr flX3_12 dX3_songPaysTo_39 hf (fun r1 hf => ?_)
  refine G.geti flX3_25 dX3_songPaysTo_42 hf (fun x2 hf => ?_)
  obtain ⟨x5, h3, e4, hf⟩ := bT1_spec hf
  refine G.callVi (M' := mX3_songPays) (ci := 3) (As := [.int v1, .int x2]) (st := []) okX3_songPays viX3_songPays lkX3_96 rfl rfl rfl (Nat.le_of_ble_eq_true rfl) (Nat.le_of_ble_eq_true rfl) dX3_songPaysTo_45 (c_X3_songPays X d _ _ _ _ _ _ e4).1 (c_X3_songPays X d _ _ _ _ _ _ e4).2 ?_
  obtain ⟨hq1, hq2⟩ := Prod.mk.inj (Option.some.inj hf)
  subst hq1
  subst hq2
  exact G.iret rfl rfl dX3_songPaysTo_48
def f_X3_songPaysTo (a0 : Nat) (a1 : Int32) (a2 : Int32) (h : AH) : Option (Int32 × AH) := if isO h 3 a0 = true then ((gr h 3 a0 1).bind fun r1 => (gr h 9 r1 0).bind fun r2 => (ai h 0 r2 a1).bind fun x3 => if x3 = (2 : Int32) then ((gr h 3 a0 0).bind fun r5 => (gr h 4 r5 4).bind fun r6 => (ai h 0 r6 a2).bind fun x7 => (gr h 3 a0 1).bind fun r8 => (gr h 9 r8 3).bind fun r9 => (ai h 0 r9 a1).bind fun x10 => if x7 = x10 then (some ((1 : Int32), h)) else (f_X3_songPaysTo_36 a0 a1 h)) else (f_X3_songPaysTo_36 a0 a1 h)) else none
set_option maxRecDepth 100000 in
set_option maxHeartbeats 4000000 in
theorem c_X3_songPaysTo (X : SX) (d : Nat) (a0 : Nat) (a1 : Int32) (a2 : Int32) (h : AH) (rr : Int32) (h' : AH) (hf : f_X3_songPaysTo a0 a1 a2 h = some (rr, h')) : isO h 3 a0 = true ∧ G X mX3_songPaysTo (d + 1) 0 [(0, .ref a0), (1, .int a1), (2, .int a2)] [] h (some rr) h' := by
  unfold f_X3_songPaysTo at hf
  by_cases ho : isO h 3 a0 = true
  · rw [if_pos ho] at hf
    refine ⟨ho, ?_⟩
    refine G.aload_n dX3_songPaysTo_0 rfl ?_
    refine G.getr flX3_21 dX3_songPaysTo_1 hf (fun r1 hf => ?_)
    refine G.getr flX3_90 dX3_songPaysTo_4 hf (fun r2 hf => ?_)
    refine G.iload_n dX3_songPaysTo_7 rfl ?_
    refine G.iald dX3_songPaysTo_8 hf (fun x3 hf => ?_)
    refine G.iconst (v := (2 : Int32)) dX3_songPaysTo_9 (by decide) ?_
    refine G.icmp_ne 36 dX3_songPaysTo_10 (by decide) (fun c4 => ?_) (fun c4 => ?_)
    · rw [if_neg c4] at hf
      exact G.pick [0, 1] rfl (j_X3_songPaysTo_36 X d a0 a1 h _ _ hf)
    · rw [if_pos c4] at hf
      refine G.aload_n dX3_songPaysTo_13 rfl ?_
      refine G.getr flX3_12 dX3_songPaysTo_14 hf (fun r5 hf => ?_)
      refine G.getr flX3_52 dX3_songPaysTo_17 hf (fun r6 hf => ?_)
      refine G.iload_n dX3_songPaysTo_20 rfl ?_
      refine G.iald dX3_songPaysTo_21 hf (fun x7 hf => ?_)
      refine G.aload_n dX3_songPaysTo_22 rfl ?_
      refine G.getr flX3_21 dX3_songPaysTo_23 hf (fun r8 hf => ?_)
      refine G.getr flX3_93 dX3_songPaysTo_26 hf (fun r9 hf => ?_)
      refine G.iload_n dX3_songPaysTo_29 rfl ?_
      refine G.iald dX3_songPaysTo_30 hf (fun x10 hf => ?_)
      refine G.icmp_ne 36 dX3_songPaysTo_31 (by decide) (fun c11 => ?_) (fun c11 => ?_)
      · rw [if_neg c11] at hf
        exact G.pick [0, 1] rfl (j_X3_songPaysTo_36 X d a0 a1 h _ _ hf)
      · rw [if_pos c11] at hf
        refine G.iconst (v := (1 : Int32)) dX3_songPaysTo_34 (by decide) ?_
        obtain ⟨hq1, hq2⟩ := Prod.mk.inj (Option.some.inj hf)
        subst hq1
        subst hq2
        exact G.iret rfl rfl dX3_songPaysTo_35
  · rw [if_neg ho] at hf
    cases hf
/-! X3_wouldPay -/
theorem dX3_wouldPay_0 : decode cX3_wouldPay 0 = .ok (.aload_n 0, 1) := by decide +kernel
theorem dX3_wouldPay_1 : decode cX3_wouldPay 1 = .ok (.iload_n 1, 1) := by decide +kernel
theorem dX3_wouldPay_2 : decode cX3_wouldPay 2 = .ok (.iload_n 2, 1) := by decide +kernel
theorem dX3_wouldPay_3 : decode cX3_wouldPay 3 = .ok (.invokevirtual 115, 3) := by decide +kernel
theorem dX3_wouldPay_6 : decode cX3_wouldPay 6 = .ok (.ifCond .ne 5, 3) := by decide +kernel
theorem dX3_wouldPay_9 : decode cX3_wouldPay 9 = .ok (.iconst 0, 1) := by decide +kernel
theorem dX3_wouldPay_10 : decode cX3_wouldPay 10 = .ok (.ireturn, 1) := by decide +kernel
theorem dX3_wouldPay_11 : decode cX3_wouldPay 11 = .ok (.aload_n 0, 1) := by decide +kernel
theorem dX3_wouldPay_12 : decode cX3_wouldPay 12 = .ok (.getfield 12, 3) := by decide +kernel
theorem dX3_wouldPay_15 : decode cX3_wouldPay 15 = .ok (.getfield 43, 3) := by decide +kernel
theorem dX3_wouldPay_18 : decode cX3_wouldPay 18 = .ok (.iload_n 1, 1) := by decide +kernel
theorem dX3_wouldPay_19 : decode cX3_wouldPay 19 = .ok (.iaload, 1) := by decide +kernel
theorem dX3_wouldPay_20 : decode cX3_wouldPay 20 = .ok (.aload_n 0, 1) := by decide +kernel
theorem dX3_wouldPay_21 : decode cX3_wouldPay 21 = .ok (.iload_n 2, 1) := by decide +kernel
theorem dX3_wouldPay_22 : decode cX3_wouldPay 22 = .ok (.invokevirtual 109, 3) := by decide +kernel
theorem dX3_wouldPay_25 : decode cX3_wouldPay 25 = .ok (.aload_n 0, 1) := by decide +kernel
theorem dX3_wouldPay_26 : decode cX3_wouldPay 26 = .ok (.iload_n 1, 1) := by decide +kernel
theorem dX3_wouldPay_27 : decode cX3_wouldPay 27 = .ok (.iload_n 2, 1) := by decide +kernel
theorem dX3_wouldPay_28 : decode cX3_wouldPay 28 = .ok (.invokevirtual 119, 3) := by decide +kernel
theorem dX3_wouldPay_31 : decode cX3_wouldPay 31 = .ok (.imul, 1) := by decide +kernel
theorem dX3_wouldPay_32 : decode cX3_wouldPay 32 = .ok (.invokestatic 122, 3) := by decide +kernel
theorem dX3_wouldPay_35 : decode cX3_wouldPay 35 = .ok (.ireturn, 1) := by decide +kernel
def f_X3_wouldPay (a0 : Nat) (a1 : Int32) (a2 : Int32) (h : AH) : Option (Int32 × AH) := if isO h 3 a0 = true then (bT1 (f_X3_couldPutDown a0 a1 a2 h) fun x3 h1 => if x3 = 0 then (some ((0 : Int32), h1)) else ((gr h1 3 a0 0).bind fun r5 => (gr h1 4 r5 1).bind fun r6 => (ai h1 0 r6 a1).bind fun x7 => bT1 (f_X3_needsOf a0 a2 h1) fun x10 h8 => bT1 (f_X3_songPaysTo a0 a1 a2 h8) fun x13 h11 => some ((if (x10 * x13) < x7 then (x10 * x13) else x7), h11))) else none
set_option maxRecDepth 100000 in
set_option maxHeartbeats 4000000 in
theorem c_X3_wouldPay (X : SX) (d : Nat) (a0 : Nat) (a1 : Int32) (a2 : Int32) (h : AH) (rr : Int32) (h' : AH) (hf : f_X3_wouldPay a0 a1 a2 h = some (rr, h')) : isO h 3 a0 = true ∧ G X mX3_wouldPay (d + 3) 0 [(0, .ref a0), (1, .int a1), (2, .int a2)] [] h (some rr) h' := by
  unfold f_X3_wouldPay at hf
  by_cases ho : isO h 3 a0 = true
  · rw [if_pos ho] at hf
    refine ⟨ho, ?_⟩
    refine G.aload_n dX3_wouldPay_0 rfl ?_
    refine G.iload_n dX3_wouldPay_1 rfl ?_
    refine G.iload_n dX3_wouldPay_2 rfl ?_
    obtain ⟨x3, h1, e2, hf⟩ := bT1_spec hf
    refine G.callVi (M' := mX3_couldPutDown) (ci := 3) (As := [.int a1, .int a2]) (st := []) okX3_couldPutDown viX3_couldPutDown lkX3_115 rfl rfl rfl (Nat.le_of_ble_eq_true rfl) (Nat.le_of_ble_eq_true rfl) dX3_wouldPay_3 (c_X3_couldPutDown X d _ _ _ _ _ _ e2).1 (c_X3_couldPutDown X d _ _ _ _ _ _ e2).2 ?_
    refine G.if_ne 11 dX3_wouldPay_6 (by decide) (fun c4 => ?_) (fun c4 => ?_)
    · rw [if_neg c4] at hf
      refine G.aload_n dX3_wouldPay_11 rfl ?_
      refine G.getr flX3_12 dX3_wouldPay_12 hf (fun r5 hf => ?_)
      refine G.getr flX3_43 dX3_wouldPay_15 hf (fun r6 hf => ?_)
      refine G.iload_n dX3_wouldPay_18 rfl ?_
      refine G.iald dX3_wouldPay_19 hf (fun x7 hf => ?_)
      refine G.aload_n dX3_wouldPay_20 rfl ?_
      refine G.iload_n dX3_wouldPay_21 rfl ?_
      obtain ⟨x10, h8, e9, hf⟩ := bT1_spec hf
      refine G.callVi (M' := mX3_needsOf) (ci := 3) (As := [.int a2]) (st := [.int x7]) okX3_needsOf viX3_needsOf lkX3_109 rfl rfl rfl (Nat.le_of_ble_eq_true rfl) (Nat.le_of_ble_eq_true rfl) dX3_wouldPay_22 (c_X3_needsOf X (d + 1) _ _ _ _ _ e9).1 (c_X3_needsOf X (d + 1) _ _ _ _ _ e9).2 ?_
      refine G.aload_n dX3_wouldPay_25 rfl ?_
      refine G.iload_n dX3_wouldPay_26 rfl ?_
      refine G.iload_n dX3_wouldPay_27 rfl ?_
      obtain ⟨x13, h11, e12, hf⟩ := bT1_spec hf
      refine G.callVi (M' := mX3_songPaysTo) (ci := 3) (As := [.int a1, .int a2]) (st := [.int x10, .int x7]) okX3_songPaysTo viX3_songPaysTo lkX3_119 rfl rfl rfl (Nat.le_of_ble_eq_true rfl) (Nat.le_of_ble_eq_true rfl) dX3_wouldPay_28 (c_X3_songPaysTo X (d + 1) _ _ _ _ _ _ e12).1 (c_X3_songPaysTo X (d + 1) _ _ _ _ _ _ e12).2 ?_
      refine G.imul dX3_wouldPay_31 ?_
      refine G.min lkX3_122 (Nat.le_of_ble_eq_true rfl) dX3_wouldPay_32 ?_
      obtain ⟨hq1, hq2⟩ := Prod.mk.inj (Option.some.inj hf)
      subst hq1
      subst hq2
      exact G.iret rfl rfl dX3_wouldPay_35
    · rw [if_pos c4] at hf
      refine G.iconst (v := (0 : Int32)) dX3_wouldPay_9 (by decide) ?_
      obtain ⟨hq1, hq2⟩ := Prod.mk.inj (Option.some.inj hf)
      subst hq1
      subst hq2
      exact G.iret rfl rfl dX3_wouldPay_10
  · rw [if_neg ho] at hf
    cases hf
/-! X7_weigh -/
theorem dX7_weigh_0 : decode cX7_weigh 0 = .ok (.aload_n 0, 1) := by decide +kernel
theorem dX7_weigh_1 : decode cX7_weigh 1 = .ok (.aload_n 1, 1) := by decide +kernel
theorem dX7_weigh_2 : decode cX7_weigh 2 = .ok (.getfield 29, 3) := by decide +kernel
theorem dX7_weigh_5 : decode cX7_weigh 5 = .ok (.getfield 35, 3) := by decide +kernel
theorem dX7_weigh_8 : decode cX7_weigh 8 = .ok (.putfield 41, 3) := by decide +kernel
theorem dX7_weigh_11 : decode cX7_weigh 11 = .ok (.aload_n 0, 1) := by decide +kernel
theorem dX7_weigh_12 : decode cX7_weigh 12 = .ok (.aload_n 1, 1) := by decide +kernel
theorem dX7_weigh_13 : decode cX7_weigh 13 = .ok (.getfield 29, 3) := by decide +kernel
theorem dX7_weigh_16 : decode cX7_weigh 16 = .ok (.getfield 42, 3) := by decide +kernel
theorem dX7_weigh_19 : decode cX7_weigh 19 = .ok (.putfield 45, 3) := by decide +kernel
theorem dX7_weigh_22 : decode cX7_weigh 22 = .ok (.iconst 0, 1) := by decide +kernel
theorem dX7_weigh_23 : decode cX7_weigh 23 = .ok (.istore_n 3, 1) := by decide +kernel
theorem dX7_weigh_24 : decode cX7_weigh 24 = .ok (.iload_n 3, 1) := by decide +kernel
theorem dX7_weigh_25 : decode cX7_weigh 25 = .ok (.aload_n 0, 1) := by decide +kernel
theorem dX7_weigh_26 : decode cX7_weigh 26 = .ok (.getfield 41, 3) := by decide +kernel
theorem dX7_weigh_29 : decode cX7_weigh 29 = .ok (.if_icmp .ge 63, 3) := by decide +kernel
theorem dX7_weigh_32 : decode cX7_weigh 32 = .ok (.iconst 0, 1) := by decide +kernel
theorem dX7_weigh_33 : decode cX7_weigh 33 = .ok (.istore 4, 2) := by decide +kernel
theorem dX7_weigh_35 : decode cX7_weigh 35 = .ok (.iload 4, 2) := by decide +kernel
theorem dX7_weigh_37 : decode cX7_weigh 37 = .ok (.aload_n 0, 1) := by decide +kernel
theorem dX7_weigh_38 : decode cX7_weigh 38 = .ok (.getfield 45, 3) := by decide +kernel
theorem dX7_weigh_41 : decode cX7_weigh 41 = .ok (.if_icmp .ge 45, 3) := by decide +kernel
theorem dX7_weigh_44 : decode cX7_weigh 44 = .ok (.aload_n 1, 1) := by decide +kernel
theorem dX7_weigh_45 : decode cX7_weigh 45 = .ok (.iload_n 3, 1) := by decide +kernel
theorem dX7_weigh_46 : decode cX7_weigh 46 = .ok (.iload 4, 2) := by decide +kernel
theorem dX7_weigh_48 : decode cX7_weigh 48 = .ok (.invokevirtual 46, 3) := by decide +kernel
theorem dX7_weigh_51 : decode cX7_weigh 51 = .ok (.istore 5, 2) := by decide +kernel
theorem dX7_weigh_53 : decode cX7_weigh 53 = .ok (.aload_n 0, 1) := by decide +kernel
theorem dX7_weigh_54 : decode cX7_weigh 54 = .ok (.getfield 9, 3) := by decide +kernel
theorem dX7_weigh_57 : decode cX7_weigh 57 = .ok (.iload_n 3, 1) := by decide +kernel
theorem dX7_weigh_58 : decode cX7_weigh 58 = .ok (.bipush 6, 2) := by decide +kernel
theorem dX7_weigh_60 : decode cX7_weigh 60 = .ok (.imul, 1) := by decide +kernel
theorem dX7_weigh_61 : decode cX7_weigh 61 = .ok (.iload 4, 2) := by decide +kernel
theorem dX7_weigh_63 : decode cX7_weigh 63 = .ok (.iadd, 1) := by decide +kernel
theorem dX7_weigh_64 : decode cX7_weigh 64 = .ok (.iload_n 2, 1) := by decide +kernel
theorem dX7_weigh_65 : decode cX7_weigh 65 = .ok (.ifCond .eq 12, 3) := by decide +kernel
theorem dX7_weigh_68 : decode cX7_weigh 68 = .ok (.iconst 1, 1) := by decide +kernel
theorem dX7_weigh_69 : decode cX7_weigh 69 = .ok (.iload 5, 2) := by decide +kernel
theorem dX7_weigh_71 : decode cX7_weigh 71 = .ok (.invokestatic 49, 3) := by decide +kernel
theorem dX7_weigh_74 : decode cX7_weigh 74 = .ok (.goto 5, 3) := by decide +kernel
theorem dX7_weigh_77 : decode cX7_weigh 77 = .ok (.iload 5, 2) := by decide +kernel
theorem dX7_weigh_79 : decode cX7_weigh 79 = .ok (.iastore, 1) := by decide +kernel
theorem dX7_weigh_80 : decode cX7_weigh 80 = .ok (.iinc 4 1, 3) := by decide +kernel
theorem dX7_weigh_83 : decode cX7_weigh 83 = .ok (.goto (-48), 3) := by decide +kernel
theorem dX7_weigh_86 : decode cX7_weigh 86 = .ok (.iinc 3 1, 3) := by decide +kernel
theorem dX7_weigh_89 : decode cX7_weigh 89 = .ok (.goto (-65), 3) := by decide +kernel
theorem dX7_weigh_92 : decode cX7_weigh 92 = .ok (.return_, 1) := by decide +kernel
def f_X7_weigh_79 (rec : Nat → Nat → Int32 → Int32 → Int32 → AH → Option (AH)) (v0 : Nat) (v1 : Nat) (v2 : Int32) (v3 : Int32) (v4 : Int32) (s0 : Int32) (s1 : Int32) (s2 : Nat) (h : AH) : Option (AH) := (aw h 0 s2 s1 s0).bind fun h1 => rec v0 v1 v2 v3 (v4 + 1) h1
set_option maxRecDepth 100000 in
set_option maxHeartbeats 4000000 in
theorem j_X7_weigh_79 (X : SX) (d : Nat) (rec : Nat → Nat → Int32 → Int32 → Int32 → AH → Option (AH)) (hrecf : ∀ (rv : Option Int32) (h' : AH), ∀ (v0 : Nat) (v1 : Nat) (v2 : Int32) (v3 : Int32) (v4 : Int32) (h : AH)  (h1 : AH), rec v0 v1 v2 v3 v4 h = some (h1) → G X mX7_weigh (d + 4) 86 [(0, .ref v0), (1, .ref v1), (2, .int v2), (3, .int v3)] [] h1 rv h' → G X mX7_weigh (d + 4) 35 [(0, .ref v0), (1, .ref v1), (2, .int v2), (3, .int v3), (4, .int v4)] [] h rv h') (v0 : Nat) (v1 : Nat) (v2 : Int32) (v3 : Int32) (v4 : Int32) (s0 : Int32) (s1 : Int32) (s2 : Nat) (h : AH)  (h1 : AH) (hf : f_X7_weigh_79 rec v0 v1 v2 v3 v4 s0 s1 s2 h = some (h1)) (rv : Option Int32) (h' : AH) (hE : G X mX7_weigh (d + 4) 86 [(0, .ref v0), (1, .ref v1), (2, .int v2), (3, .int v3)] [] h1 rv h') : G X mX7_weigh (d + 4) 79 [(0, .ref v0), (1, .ref v1), (2, .int v2), (3, .int v3), (4, .int v4)] [.int s0, .int s1, .ref s2] h rv h' := by
  unfold f_X7_weigh_79 at hf
  have hrec := hrecf rv h'
  refine G.iast dX7_weigh_79 hf (fun h1 hf => ?_)
  refine G.iinc (v := (v4 + 1)) (lv' := [(4, .int (v4 + 1)), (0, .ref v0), (1, .ref v1), (2, .int v2), (3, .int v3)]) dX7_weigh_80 rfl rfl (by decide) rfl ?_
  refine G.goto 35 dX7_weigh_83 (by decide) ?_
  exact G.pick [1, 2, 3, 4, 0] rfl (hrec v0 v1 v2 v3 (v4 + 1) h1 _ hf hE)
def F_X7_weigh_L35 (rec : Nat → Nat → Int32 → Int32 → Int32 → AH → Option (AH)) (v0 : Nat) (v1 : Nat) (v2 : Int32) (v3 : Int32) (v4 : Int32) (h : AH) : Option (AH) := (gi h 6 v0 3).bind fun x1 => if x1 ≤ v4 then (some (h)) else (bT1 (f_X3_wouldPay v1 v3 v4 h) fun x5 h3 => (gr h3 6 v0 0).bind fun r6 => if v2 = 0 then (f_X7_weigh_79 rec v0 v1 v2 v3 v4 x5 ((v3 * (6 : Int32)) + v4) r6 h3) else (f_X7_weigh_79 rec v0 v1 v2 v3 v4 (if x5 < (1 : Int32) then x5 else (1 : Int32)) ((v3 * (6 : Int32)) + v4) r6 h3))
def f_X7_weigh_L35 : Nat → Nat → Nat → Int32 → Int32 → Int32 → AH → Option (AH)
  | 0 => fun _ _ _ _ _ _ => none
  | n + 1 => F_X7_weigh_L35 (f_X7_weigh_L35 n)
set_option maxRecDepth 100000 in
set_option maxHeartbeats 4000000 in
theorem lx_X7_weigh_L35 (X : SX) (d : Nat) : ∀ n (rv : Option Int32) (h' : AH), ∀ (v0 : Nat) (v1 : Nat) (v2 : Int32) (v3 : Int32) (v4 : Int32) (h : AH)  (h1 : AH), f_X7_weigh_L35 n v0 v1 v2 v3 v4 h = some (h1) → G X mX7_weigh (d + 4) 86 [(0, .ref v0), (1, .ref v1), (2, .int v2), (3, .int v3)] [] h1 rv h' → G X mX7_weigh (d + 4) 35 [(0, .ref v0), (1, .ref v1), (2, .int v2), (3, .int v3), (4, .int v4)] [] h rv h' := by
  intro n
  induction n with
  | zero =>
    intro rv h' v0 v1 v2 v3 v4 h h1 hf hE
    cases hf
  | succ n ihf =>
    intro rv h' v0 v1 v2 v3 v4 h h1 hf hE
    replace hf : F_X7_weigh_L35 (f_X7_weigh_L35 n) v0 v1 v2 v3 v4 h = some (h1) := hf
    unfold F_X7_weigh_L35 at hf
    have ih := ihf rv h'
    refine G.iload dX7_weigh_35 rfl ?_
    refine G.aload_n dX7_weigh_37 rfl ?_
    refine G.geti flX7_45 dX7_weigh_38 hf (fun x1 hf => ?_)
    refine G.icmp_ge 86 dX7_weigh_41 (by decide) (fun c2 => ?_) (fun c2 => ?_)
    · rw [if_pos c2] at hf
      have w0 := Option.some.inj hf
      subst w0
      exact G.pick [0, 1, 2, 3] rfl hE
    · rw [if_neg c2] at hf
      refine G.aload_n dX7_weigh_44 rfl ?_
      refine G.iload_n dX7_weigh_45 rfl ?_
      refine G.iload dX7_weigh_46 rfl ?_
      obtain ⟨x5, h3, e4, hf⟩ := bT1_spec hf
      refine G.callVi (M' := mX3_wouldPay) (ci := 3) (As := [.int v3, .int v4]) (st := []) okX3_wouldPay viX3_wouldPay lkX7_46 rfl rfl rfl (Nat.le_of_ble_eq_true rfl) (Nat.le_of_ble_eq_true rfl) dX7_weigh_48 (c_X3_wouldPay X d _ _ _ _ _ _ e4).1 (c_X3_wouldPay X d _ _ _ _ _ _ e4).2 ?_
      refine G.istore (lv' := [(5, .int x5), (0, .ref v0), (1, .ref v1), (2, .int v2), (3, .int v3), (4, .int v4)]) dX7_weigh_51 (by decide) rfl ?_
      refine G.aload_n dX7_weigh_53 rfl ?_
      refine G.getr flX7_9 dX7_weigh_54 hf (fun r6 hf => ?_)
      refine G.iload_n dX7_weigh_57 rfl ?_
      refine G.bipush (v := (6 : Int32)) dX7_weigh_58 (by decide) ?_
      refine G.imul dX7_weigh_60 ?_
      refine G.iload dX7_weigh_61 rfl ?_
      refine G.iadd dX7_weigh_63 ?_
      refine G.iload_n dX7_weigh_64 rfl ?_
      refine G.if_eq 77 dX7_weigh_65 (by decide) (fun c7 => ?_) (fun c7 => ?_)
      · rw [if_pos c7] at hf
        refine G.iload dX7_weigh_77 rfl ?_
        exact G.pick [1, 2, 3, 4, 5] rfl (j_X7_weigh_79 X d _ ihf v0 v1 v2 v3 v4 x5 ((v3 * (6 : Int32)) + v4) r6 h3 _ hf _ _ hE)
      · rw [if_neg c7] at hf
        refine G.iconst (v := (1 : Int32)) dX7_weigh_68 (by decide) ?_
        refine G.iload dX7_weigh_69 rfl ?_
        refine G.min lkX7_49 (Nat.le_of_ble_eq_true rfl) dX7_weigh_71 ?_
        refine G.goto 79 dX7_weigh_74 (by decide) ?_
        exact G.pick [1, 2, 3, 4, 5] rfl (j_X7_weigh_79 X d _ ihf v0 v1 v2 v3 v4 (if x5 < (1 : Int32) then x5 else (1 : Int32)) ((v3 * (6 : Int32)) + v4) r6 h3 _ hf _ _ hE)
theorem l_X7_weigh_L35 (X : SX) (d : Nat) (rv : Option Int32) (h' : AH) (n : Nat) : ∀ (v0 : Nat) (v1 : Nat) (v2 : Int32) (v3 : Int32) (v4 : Int32) (h : AH)  (h1 : AH), f_X7_weigh_L35 n v0 v1 v2 v3 v4 h = some (h1) → G X mX7_weigh (d + 4) 86 [(0, .ref v0), (1, .ref v1), (2, .int v2), (3, .int v3)] [] h1 rv h' → G X mX7_weigh (d + 4) 35 [(0, .ref v0), (1, .ref v1), (2, .int v2), (3, .int v3), (4, .int v4)] [] h rv h' := lx_X7_weigh_L35 X d n rv h'
def F_X7_weigh_L24 (rec : Nat → Nat → Int32 → Int32 → AH → Option (AH)) (v0 : Nat) (v1 : Nat) (v2 : Int32) (v3 : Int32) (h : AH) : Option (AH) := (gi h 6 v0 2).bind fun x1 => if x1 ≤ v3 then (some (h)) else ((f_X7_weigh_L35 1000000 v0 v1 v2 v3 (0 : Int32) h).bind fun h3 => rec v0 v1 v2 (v3 + 1) h3)
def f_X7_weigh_L24 : Nat → Nat → Nat → Int32 → Int32 → AH → Option (AH)
  | 0 => fun _ _ _ _ _ => none
  | n + 1 => F_X7_weigh_L24 (f_X7_weigh_L24 n)
set_option maxRecDepth 100000 in
set_option maxHeartbeats 4000000 in
theorem lx_X7_weigh_L24 (X : SX) (d : Nat) : ∀ n (rv : Option Int32) (h' : AH), ∀ (v0 : Nat) (v1 : Nat) (v2 : Int32) (v3 : Int32) (h : AH)  (h1 : AH), f_X7_weigh_L24 n v0 v1 v2 v3 h = some (h1) → G X mX7_weigh (d + 4) 92 [] [] h1 rv h' → G X mX7_weigh (d + 4) 24 [(0, .ref v0), (1, .ref v1), (2, .int v2), (3, .int v3)] [] h rv h' := by
  intro n
  induction n with
  | zero =>
    intro rv h' v0 v1 v2 v3 h h1 hf hE
    cases hf
  | succ n ihf =>
    intro rv h' v0 v1 v2 v3 h h1 hf hE
    replace hf : F_X7_weigh_L24 (f_X7_weigh_L24 n) v0 v1 v2 v3 h = some (h1) := hf
    unfold F_X7_weigh_L24 at hf
    have ih := ihf rv h'
    refine G.iload_n dX7_weigh_24 rfl ?_
    refine G.aload_n dX7_weigh_25 rfl ?_
    refine G.geti flX7_41 dX7_weigh_26 hf (fun x1 hf => ?_)
    refine G.icmp_ge 92 dX7_weigh_29 (by decide) (fun c2 => ?_) (fun c2 => ?_)
    · rw [if_pos c2] at hf
      have w0 := Option.some.inj hf
      subst w0
      exact G.pick [] rfl hE
    · rw [if_neg c2] at hf
      refine G.iconst (v := (0 : Int32)) dX7_weigh_32 (by decide) ?_
      refine G.istore (lv' := [(4, .int (0 : Int32)), (0, .ref v0), (1, .ref v1), (2, .int v2), (3, .int v3)]) dX7_weigh_33 (by decide) rfl ?_
      obtain ⟨h3, e4, hf⟩ := Option.bind_eq_some_iff.mp hf
      refine G.pick [1, 2, 3, 4, 0] rfl (l_X7_weigh_L35 X d _ _ 1000000 v0 v1 v2 v3 (0 : Int32) h h3 e4 ?_)
      refine G.iinc (v := (v3 + 1)) (lv' := [(3, .int (v3 + 1)), (0, .ref v0), (1, .ref v1), (2, .int v2)]) dX7_weigh_86 rfl rfl (by decide) rfl ?_
      refine G.goto 24 dX7_weigh_89 (by decide) ?_
      exact G.pick [1, 2, 3, 0] rfl (ih v0 v1 v2 (v3 + 1) h3 _ hf hE)
theorem l_X7_weigh_L24 (X : SX) (d : Nat) (rv : Option Int32) (h' : AH) (n : Nat) : ∀ (v0 : Nat) (v1 : Nat) (v2 : Int32) (v3 : Int32) (h : AH)  (h1 : AH), f_X7_weigh_L24 n v0 v1 v2 v3 h = some (h1) → G X mX7_weigh (d + 4) 92 [] [] h1 rv h' → G X mX7_weigh (d + 4) 24 [(0, .ref v0), (1, .ref v1), (2, .int v2), (3, .int v3)] [] h rv h' := lx_X7_weigh_L24 X d n rv h'
def f_X7_weigh (a0 : Nat) (a1 : Nat) (a2 : Int32) (h : AH) : Option (AH) := if isO h 6 a0 = true then ((gr h 3 a1 1).bind fun r1 => (gi h 9 r1 9).bind fun x2 => (pf h 6 a0 2 (.int x2)).bind fun h3 => (gr h3 3 a1 1).bind fun r4 => (gi h3 9 r4 10).bind fun x5 => (pf h3 6 a0 3 (.int x5)).bind fun h6 => (f_X7_weigh_L24 1000000 a0 a1 a2 (0 : Int32) h6).bind fun h7 => some h7) else none
set_option maxRecDepth 100000 in
set_option maxHeartbeats 4000000 in
theorem c_X7_weigh (X : SX) (d : Nat) (a0 : Nat) (a1 : Nat) (a2 : Int32) (h : AH) (h' : AH) (hf : f_X7_weigh a0 a1 a2 h = some h') : isO h 6 a0 = true ∧ G X mX7_weigh (d + 4) 0 [(0, .ref a0), (1, .ref a1), (2, .int a2)] [] h none h' := by
  unfold f_X7_weigh at hf
  by_cases ho : isO h 6 a0 = true
  · rw [if_pos ho] at hf
    refine ⟨ho, ?_⟩
    refine G.aload_n dX7_weigh_0 rfl ?_
    refine G.aload_n dX7_weigh_1 rfl ?_
    refine G.getr flX7_29 dX7_weigh_2 hf (fun r1 hf => ?_)
    refine G.geti flX7_35 dX7_weigh_5 hf (fun x2 hf => ?_)
    refine G.put flX7_41 (Or.inl rfl) (fun _ _ => ⟨rfl, rfl⟩) dX7_weigh_8 hf (fun h3 hf => ?_)
    refine G.aload_n dX7_weigh_11 rfl ?_
    refine G.aload_n dX7_weigh_12 rfl ?_
    refine G.getr flX7_29 dX7_weigh_13 hf (fun r4 hf => ?_)
    refine G.geti flX7_42 dX7_weigh_16 hf (fun x5 hf => ?_)
    refine G.put flX7_45 (Or.inl rfl) (fun _ _ => ⟨rfl, rfl⟩) dX7_weigh_19 hf (fun h6 hf => ?_)
    refine G.iconst (v := (0 : Int32)) dX7_weigh_22 (by decide) ?_
    refine G.istore_n (lv' := [(3, .int (0 : Int32)), (0, .ref a0), (1, .ref a1), (2, .int a2)]) dX7_weigh_23 (by decide) rfl ?_
    obtain ⟨h7, e8, hf⟩ := Option.bind_eq_some_iff.mp hf
    refine G.pick [1, 2, 3, 0] rfl (l_X7_weigh_L24 X d _ _ 1000000 a0 a1 a2 (0 : Int32) h6 h7 e8 ?_)
    have hq := Option.some.inj hf
    subst hq
    exact G.vret rfl dX7_weigh_92
  · rw [if_neg ho] at hf
    cases hf
/-! X7_isOpen -/
theorem dX7_isOpen_0 : decode cX7_isOpen 0 = .ok (.iload_n 3, 1) := by decide +kernel
theorem dX7_isOpen_1 : decode cX7_isOpen 1 = .ok (.iload_n 2, 1) := by decide +kernel
theorem dX7_isOpen_2 : decode cX7_isOpen 2 = .ok (.ishr, 1) := by decide +kernel
theorem dX7_isOpen_3 : decode cX7_isOpen 3 = .ok (.iconst 1, 1) := by decide +kernel
theorem dX7_isOpen_4 : decode cX7_isOpen 4 = .ok (.iand, 1) := by decide +kernel
theorem dX7_isOpen_5 : decode cX7_isOpen 5 = .ok (.ifCond .ne 21, 3) := by decide +kernel
theorem dX7_isOpen_8 : decode cX7_isOpen 8 = .ok (.aload_n 0, 1) := by decide +kernel
theorem dX7_isOpen_9 : decode cX7_isOpen 9 = .ok (.getfield 9, 3) := by decide +kernel
theorem dX7_isOpen_12 : decode cX7_isOpen 12 = .ok (.iload_n 1, 1) := by decide +kernel
theorem dX7_isOpen_13 : decode cX7_isOpen 13 = .ok (.bipush 6, 2) := by decide +kernel
theorem dX7_isOpen_15 : decode cX7_isOpen 15 = .ok (.imul, 1) := by decide +kernel
theorem dX7_isOpen_16 : decode cX7_isOpen 16 = .ok (.iload_n 2, 1) := by decide +kernel
theorem dX7_isOpen_17 : decode cX7_isOpen 17 = .ok (.iadd, 1) := by decide +kernel
theorem dX7_isOpen_18 : decode cX7_isOpen 18 = .ok (.iaload, 1) := by decide +kernel
theorem dX7_isOpen_19 : decode cX7_isOpen 19 = .ok (.ifCond .le 7, 3) := by decide +kernel
theorem dX7_isOpen_22 : decode cX7_isOpen 22 = .ok (.iconst 1, 1) := by decide +kernel
theorem dX7_isOpen_23 : decode cX7_isOpen 23 = .ok (.goto 4, 3) := by decide +kernel
theorem dX7_isOpen_26 : decode cX7_isOpen 26 = .ok (.iconst 0, 1) := by decide +kernel
theorem dX7_isOpen_27 : decode cX7_isOpen 27 = .ok (.ireturn, 1) := by decide +kernel
def f_X7_isOpen (a0 : Nat) (a1 : Int32) (a2 : Int32) (a3 : Int32) (h : AH) : Option (Int32 × AH) := if isO h 6 a0 = true then (if ((a3 >>> (a2 &&& 31)) &&& (1 : Int32)) = 0 then ((gr h 6 a0 0).bind fun r2 => (ai h 0 r2 ((a1 * (6 : Int32)) + a2)).bind fun x3 => if x3 ≤ 0 then (some ((0 : Int32), h)) else (some ((1 : Int32), h))) else (some ((0 : Int32), h))) else none
set_option maxRecDepth 100000 in
set_option maxHeartbeats 4000000 in
theorem c_X7_isOpen (X : SX) (d : Nat) (a0 : Nat) (a1 : Int32) (a2 : Int32) (a3 : Int32) (h : AH) (rr : Int32) (h' : AH) (hf : f_X7_isOpen a0 a1 a2 a3 h = some (rr, h')) : isO h 6 a0 = true ∧ G X mX7_isOpen d 0 [(0, .ref a0), (1, .int a1), (2, .int a2), (3, .int a3)] [] h (some rr) h' := by
  unfold f_X7_isOpen at hf
  by_cases ho : isO h 6 a0 = true
  · rw [if_pos ho] at hf
    refine ⟨ho, ?_⟩
    refine G.iload_n dX7_isOpen_0 rfl ?_
    refine G.iload_n dX7_isOpen_1 rfl ?_
    refine G.ishr dX7_isOpen_2 ?_
    refine G.iconst (v := (1 : Int32)) dX7_isOpen_3 (by decide) ?_
    refine G.iand dX7_isOpen_4 ?_
    refine G.if_ne 26 dX7_isOpen_5 (by decide) (fun c1 => ?_) (fun c1 => ?_)
    · rw [if_neg c1] at hf
      refine G.iconst (v := (0 : Int32)) dX7_isOpen_26 (by decide) ?_
      obtain ⟨hq1, hq2⟩ := Prod.mk.inj (Option.some.inj hf)
      subst hq1
      subst hq2
      exact G.iret rfl (by decide) dX7_isOpen_27
    · rw [if_pos c1] at hf
      refine G.aload_n dX7_isOpen_8 rfl ?_
      refine G.getr flX7_9 dX7_isOpen_9 hf (fun r2 hf => ?_)
      refine G.iload_n dX7_isOpen_12 rfl ?_
      refine G.bipush (v := (6 : Int32)) dX7_isOpen_13 (by decide) ?_
      refine G.imul dX7_isOpen_15 ?_
      refine G.iload_n dX7_isOpen_16 rfl ?_
      refine G.iadd dX7_isOpen_17 ?_
      refine G.iald dX7_isOpen_18 hf (fun x3 hf => ?_)
      refine G.if_le 26 dX7_isOpen_19 (by decide) (fun c4 => ?_) (fun c4 => ?_)
      · rw [if_pos c4] at hf
        refine G.iconst (v := (0 : Int32)) dX7_isOpen_26 (by decide) ?_
        obtain ⟨hq1, hq2⟩ := Prod.mk.inj (Option.some.inj hf)
        subst hq1
        subst hq2
        exact G.iret rfl (by decide) dX7_isOpen_27
      · rw [if_neg c4] at hf
        refine G.iconst (v := (1 : Int32)) dX7_isOpen_22 (by decide) ?_
        refine G.goto 27 dX7_isOpen_23 (by decide) ?_
        obtain ⟨hq1, hq2⟩ := Prod.mk.inj (Option.some.inj hf)
        subst hq1
        subst hq2
        exact G.iret rfl (by decide) dX7_isOpen_27
  · rw [if_neg ho] at hf
    cases hf
/-! X7_reachedWith -/
theorem dX7_reachedWith_0 : decode cX7_reachedWith 0 = .ok (.aload_n 0, 1) := by decide +kernel
theorem dX7_reachedWith_1 : decode cX7_reachedWith 1 = .ok (.getfield 9, 3) := by decide +kernel
theorem dX7_reachedWith_4 : decode cX7_reachedWith 4 = .ok (.iload_n 1, 1) := by decide +kernel
theorem dX7_reachedWith_5 : decode cX7_reachedWith 5 = .ok (.bipush 6, 2) := by decide +kernel
theorem dX7_reachedWith_7 : decode cX7_reachedWith 7 = .ok (.imul, 1) := by decide +kernel
theorem dX7_reachedWith_8 : decode cX7_reachedWith 8 = .ok (.iload_n 2, 1) := by decide +kernel
theorem dX7_reachedWith_9 : decode cX7_reachedWith 9 = .ok (.iadd, 1) := by decide +kernel
theorem dX7_reachedWith_10 : decode cX7_reachedWith 10 = .ok (.iaload, 1) := by decide +kernel
theorem dX7_reachedWith_11 : decode cX7_reachedWith 11 = .ok (.aload_n 0, 1) := by decide +kernel
theorem dX7_reachedWith_12 : decode cX7_reachedWith 12 = .ok (.getfield 15, 3) := by decide +kernel
theorem dX7_reachedWith_15 : decode cX7_reachedWith 15 = .ok (.iload_n 1, 1) := by decide +kernel
theorem dX7_reachedWith_16 : decode cX7_reachedWith 16 = .ok (.iconst 1, 1) := by decide +kernel
theorem dX7_reachedWith_17 : decode cX7_reachedWith 17 = .ok (.iadd, 1) := by decide +kernel
theorem dX7_reachedWith_18 : decode cX7_reachedWith 18 = .ok (.bipush 64, 2) := by decide +kernel
theorem dX7_reachedWith_20 : decode cX7_reachedWith 20 = .ok (.imul, 1) := by decide +kernel
theorem dX7_reachedWith_21 : decode cX7_reachedWith 21 = .ok (.iload_n 3, 1) := by decide +kernel
theorem dX7_reachedWith_22 : decode cX7_reachedWith 22 = .ok (.iconst 1, 1) := by decide +kernel
theorem dX7_reachedWith_23 : decode cX7_reachedWith 23 = .ok (.iload_n 2, 1) := by decide +kernel
theorem dX7_reachedWith_24 : decode cX7_reachedWith 24 = .ok (.ishl, 1) := by decide +kernel
theorem dX7_reachedWith_25 : decode cX7_reachedWith 25 = .ok (.ior, 1) := by decide +kernel
theorem dX7_reachedWith_26 : decode cX7_reachedWith 26 = .ok (.iadd, 1) := by decide +kernel
theorem dX7_reachedWith_27 : decode cX7_reachedWith 27 = .ok (.iaload, 1) := by decide +kernel
theorem dX7_reachedWith_28 : decode cX7_reachedWith 28 = .ok (.iadd, 1) := by decide +kernel
theorem dX7_reachedWith_29 : decode cX7_reachedWith 29 = .ok (.ireturn, 1) := by decide +kernel
def f_X7_reachedWith (a0 : Nat) (a1 : Int32) (a2 : Int32) (a3 : Int32) (h : AH) : Option (Int32 × AH) := if isO h 6 a0 = true then ((gr h 6 a0 0).bind fun r1 => (ai h 0 r1 ((a1 * (6 : Int32)) + a2)).bind fun x2 => (gr h 6 a0 1).bind fun r3 => (ai h 0 r3 (((a1 + (1 : Int32)) * (64 : Int32)) + (a3 ||| ((1 : Int32) <<< (a2 &&& 31))))).bind fun x4 => some ((x2 + x4), h)) else none
set_option maxRecDepth 100000 in
set_option maxHeartbeats 4000000 in
theorem c_X7_reachedWith (X : SX) (d : Nat) (a0 : Nat) (a1 : Int32) (a2 : Int32) (a3 : Int32) (h : AH) (rr : Int32) (h' : AH) (hf : f_X7_reachedWith a0 a1 a2 a3 h = some (rr, h')) : isO h 6 a0 = true ∧ G X mX7_reachedWith d 0 [(0, .ref a0), (1, .int a1), (2, .int a2), (3, .int a3)] [] h (some rr) h' := by
  unfold f_X7_reachedWith at hf
  by_cases ho : isO h 6 a0 = true
  · rw [if_pos ho] at hf
    refine ⟨ho, ?_⟩
    refine G.aload_n dX7_reachedWith_0 rfl ?_
    refine G.getr flX7_9 dX7_reachedWith_1 hf (fun r1 hf => ?_)
    refine G.iload_n dX7_reachedWith_4 rfl ?_
    refine G.bipush (v := (6 : Int32)) dX7_reachedWith_5 (by decide) ?_
    refine G.imul dX7_reachedWith_7 ?_
    refine G.iload_n dX7_reachedWith_8 rfl ?_
    refine G.iadd dX7_reachedWith_9 ?_
    refine G.iald dX7_reachedWith_10 hf (fun x2 hf => ?_)
    refine G.aload_n dX7_reachedWith_11 rfl ?_
    refine G.getr flX7_15 dX7_reachedWith_12 hf (fun r3 hf => ?_)
    refine G.iload_n dX7_reachedWith_15 rfl ?_
    refine G.iconst (v := (1 : Int32)) dX7_reachedWith_16 (by decide) ?_
    refine G.iadd dX7_reachedWith_17 ?_
    refine G.bipush (v := (64 : Int32)) dX7_reachedWith_18 (by decide) ?_
    refine G.imul dX7_reachedWith_20 ?_
    refine G.iload_n dX7_reachedWith_21 rfl ?_
    refine G.iconst (v := (1 : Int32)) dX7_reachedWith_22 (by decide) ?_
    refine G.iload_n dX7_reachedWith_23 rfl ?_
    refine G.ishl dX7_reachedWith_24 ?_
    refine G.ior dX7_reachedWith_25 ?_
    refine G.iadd dX7_reachedWith_26 ?_
    refine G.iald dX7_reachedWith_27 hf (fun x4 hf => ?_)
    refine G.iadd dX7_reachedWith_28 ?_
    obtain ⟨hq1, hq2⟩ := Prod.mk.inj (Option.some.inj hf)
    subst hq1
    subst hq2
    exact G.iret rfl rfl dX7_reachedWith_29
  · rw [if_neg ho] at hf
    cases hf
