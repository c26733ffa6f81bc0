/-! X12_ask -/
theorem dX12_ask_0 : decode cX12_ask 0 = .ok (.aload_n 0, 1) := by decide +kernel
theorem dX12_ask_1 : decode cX12_ask 1 = .ok (.getfield 47, 3) := by decide +kernel
theorem dX12_ask_4 : decode cX12_ask 4 = .ok (.aload_n 0, 1) := by decide +kernel
theorem dX12_ask_5 : decode cX12_ask 5 = .ok (.getfield 19, 3) := by decide +kernel
theorem dX12_ask_8 : decode cX12_ask 8 = .ok (.invokevirtual 295, 3) := by decide +kernel
theorem dX12_ask_11 : decode cX12_ask 11 = .ok (.ireturn, 1) := by decide +kernel
def f_X12_ask (a0 : Nat) (h : AH) : Option (Int32 × AH) := if isO h 11 a0 = true then ((gr h 11 a0 5).bind fun r1 => (gr h 11 a0 1).bind fun r2 => bT1 (f_X11_bestQuestion r1 r2 h) fun x5 h3 => some (x5, h3)) else none
set_option maxRecDepth 100000 in
set_option maxHeartbeats 4000000 in
theorem c_X12_ask (X : SX) (d : Nat) (a0 : Nat) (h : AH) (rr : Int32) (h' : AH) (hf : f_X12_ask a0 h = some (rr, h')) : isO h 11 a0 = true ∧ G X mX12_ask (d + 3) 0 [(0, .ref a0)] [] h (some rr) h' := by
  unfold f_X12_ask at hf
  by_cases ho : isO h 11 a0 = true
  · rw [if_pos ho] at hf
    refine ⟨ho, ?_⟩
    refine G.aload_n dX12_ask_0 rfl ?_
    refine G.getr flX12_47 dX12_ask_1 hf (fun r1 hf => ?_)
    refine G.aload_n dX12_ask_4 rfl ?_
    refine G.getr flX12_19 dX12_ask_5 hf (fun r2 hf => ?_)
    obtain ⟨x5, h3, e4, hf⟩ := bT1_spec hf
    refine G.callVi (M' := mX11_bestQuestion) (ci := 10) (As := [.ref r2]) (st := []) okX11_bestQuestion viX11_bestQuestion lkX12_295 rfl rfl rfl (Nat.le_of_ble_eq_true rfl) (Nat.le_of_ble_eq_true rfl) dX12_ask_8 (c_X11_bestQuestion X d _ _ _ _ _ e4).1 (c_X11_bestQuestion X d _ _ _ _ _ e4).2 ?_
    obtain ⟨hq1, hq2⟩ := Prod.mk.inj (Option.some.inj hf)
    subst hq1
    subst hq2
    exact G.iret rfl rfl dX12_ask_11
  · rw [if_neg ho] at hf
    cases hf
/-! X13_ask -/
theorem dX13_ask_0 : decode cX13_ask 0 = .ok (.aload_n 0, 1) := by decide +kernel
theorem dX13_ask_1 : decode cX13_ask 1 = .ok (.invokevirtual 258, 3) := by decide +kernel
theorem dX13_ask_4 : decode cX13_ask 4 = .ok (.istore_n 1, 1) := by decide +kernel
theorem dX13_ask_5 : decode cX13_ask 5 = .ok (.iconst (-1), 1) := by decide +kernel
theorem dX13_ask_6 : decode cX13_ask 6 = .ok (.istore_n 2, 1) := by decide +kernel
theorem dX13_ask_7 : decode cX13_ask 7 = .ok (.bipush 7, 2) := by decide +kernel
theorem dX13_ask_9 : decode cX13_ask 9 = .ok (.istore_n 3, 1) := by decide +kernel
theorem dX13_ask_10 : decode cX13_ask 10 = .ok (.iconst 1, 1) := by decide +kernel
theorem dX13_ask_11 : decode cX13_ask 11 = .ok (.istore 4, 2) := by decide +kernel
theorem dX13_ask_13 : decode cX13_ask 13 = .ok (.iload 4, 2) := by decide +kernel
theorem dX13_ask_15 : decode cX13_ask 15 = .ok (.sipush 198, 3) := by decide +kernel
theorem dX13_ask_18 : decode cX13_ask 18 = .ok (.if_icmp .gt 144, 3) := by decide +kernel
theorem dX13_ask_21 : decode cX13_ask 21 = .ok (.iconst 0, 1) := by decide +kernel
theorem dX13_ask_22 : decode cX13_ask 22 = .ok (.istore 5, 2) := by decide +kernel
theorem dX13_ask_24 : decode cX13_ask 24 = .ok (.iconst 0, 1) := by decide +kernel
theorem dX13_ask_25 : decode cX13_ask 25 = .ok (.istore 6, 2) := by decide +kernel
theorem dX13_ask_27 : decode cX13_ask 27 = .ok (.iconst 0, 1) := by decide +kernel
theorem dX13_ask_28 : decode cX13_ask 28 = .ok (.istore 7, 2) := by decide +kernel
theorem dX13_ask_30 : decode cX13_ask 30 = .ok (.iload 7, 2) := by decide +kernel
theorem dX13_ask_32 : decode cX13_ask 32 = .ok (.aload_n 0, 1) := by decide +kernel
theorem dX13_ask_33 : decode cX13_ask 33 = .ok (.getfield 75, 3) := by decide +kernel
theorem dX13_ask_36 : decode cX13_ask 36 = .ok (.if_icmp .ge 86, 3) := by decide +kernel
theorem dX13_ask_39 : decode cX13_ask 39 = .ok (.iload_n 1, 1) := by decide +kernel
theorem dX13_ask_40 : decode cX13_ask 40 = .ok (.iload 7, 2) := by decide +kernel
theorem dX13_ask_42 : decode cX13_ask 42 = .ok (.ishr, 1) := by decide +kernel
theorem dX13_ask_43 : decode cX13_ask 43 = .ok (.iconst 1, 1) := by decide +kernel
theorem dX13_ask_44 : decode cX13_ask 44 = .ok (.iand, 1) := by decide +kernel
theorem dX13_ask_45 : decode cX13_ask 45 = .ok (.iconst 1, 1) := by decide +kernel
theorem dX13_ask_46 : decode cX13_ask 46 = .ok (.if_icmp .ne 7, 3) := by decide +kernel
theorem dX13_ask_49 : decode cX13_ask 49 = .ok (.iconst 1, 1) := by decide +kernel
theorem dX13_ask_50 : decode cX13_ask 50 = .ok (.goto 4, 3) := by decide +kernel
theorem dX13_ask_53 : decode cX13_ask 53 = .ok (.iconst 0, 1) := by decide +kernel
theorem dX13_ask_54 : decode cX13_ask 54 = .ok (.istore 8, 2) := by decide +kernel
theorem dX13_ask_56 : decode cX13_ask 56 = .ok (.iload 5, 2) := by decide +kernel
theorem dX13_ask_58 : decode cX13_ask 58 = .ok (.iload 8, 2) := by decide +kernel
theorem dX13_ask_60 : decode cX13_ask 60 = .ok (.ifCond .eq 22, 3) := by decide +kernel
theorem dX13_ask_63 : decode cX13_ask 63 = .ok (.aload_n 0, 1) := by decide +kernel
theorem dX13_ask_64 : decode cX13_ask 64 = .ok (.getfield 29, 3) := by decide +kernel
theorem dX13_ask_67 : decode cX13_ask 67 = .ok (.bipush 6, 2) := by decide +kernel
theorem dX13_ask_69 : decode cX13_ask 69 = .ok (.iload 7, 2) := by decide +kernel
theorem dX13_ask_71 : decode cX13_ask 71 = .ok (.iadd, 1) := by decide +kernel
theorem dX13_ask_72 : decode cX13_ask 72 = .ok (.iaload, 1) := by decide +kernel
theorem dX13_ask_73 : decode cX13_ask 73 = .ok (.iload 4, 2) := by decide +kernel
theorem dX13_ask_75 : decode cX13_ask 75 = .ok (.if_icmp .lt 7, 3) := by decide +kernel
theorem dX13_ask_78 : decode cX13_ask 78 = .ok (.iconst 1, 1) := by decide +kernel
theorem dX13_ask_79 : decode cX13_ask 79 = .ok (.goto 4, 3) := by decide +kernel
theorem dX13_ask_82 : decode cX13_ask 82 = .ok (.iconst 0, 1) := by decide +kernel
theorem dX13_ask_83 : decode cX13_ask 83 = .ok (.iadd, 1) := by decide +kernel
theorem dX13_ask_84 : decode cX13_ask 84 = .ok (.istore 5, 2) := by decide +kernel
theorem dX13_ask_86 : decode cX13_ask 86 = .ok (.iload 6, 2) := by decide +kernel
theorem dX13_ask_88 : decode cX13_ask 88 = .ok (.iload 8, 2) := by decide +kernel
theorem dX13_ask_90 : decode cX13_ask 90 = .ok (.ifCond .eq 22, 3) := by decide +kernel
theorem dX13_ask_93 : decode cX13_ask 93 = .ok (.aload_n 0, 1) := by decide +kernel
theorem dX13_ask_94 : decode cX13_ask 94 = .ok (.getfield 29, 3) := by decide +kernel
theorem dX13_ask_97 : decode cX13_ask 97 = .ok (.bipush 6, 2) := by decide +kernel
theorem dX13_ask_99 : decode cX13_ask 99 = .ok (.iload 7, 2) := by decide +kernel
theorem dX13_ask_101 : decode cX13_ask 101 = .ok (.iadd, 1) := by decide +kernel
theorem dX13_ask_102 : decode cX13_ask 102 = .ok (.iaload, 1) := by decide +kernel
theorem dX13_ask_103 : decode cX13_ask 103 = .ok (.iload 4, 2) := by decide +kernel
theorem dX13_ask_105 : decode cX13_ask 105 = .ok (.if_icmp .ge 7, 3) := by decide +kernel
theorem dX13_ask_108 : decode cX13_ask 108 = .ok (.iconst 1, 1) := by decide +kernel
theorem dX13_ask_109 : decode cX13_ask 109 = .ok (.goto 4, 3) := by decide +kernel
theorem dX13_ask_112 : decode cX13_ask 112 = .ok (.iconst 0, 1) := by decide +kernel
theorem dX13_ask_113 : decode cX13_ask 113 = .ok (.iadd, 1) := by decide +kernel
theorem dX13_ask_114 : decode cX13_ask 114 = .ok (.istore 6, 2) := by decide +kernel
theorem dX13_ask_116 : decode cX13_ask 116 = .ok (.iinc 7 1, 3) := by decide +kernel
theorem dX13_ask_119 : decode cX13_ask 119 = .ok (.goto (-89), 3) := by decide +kernel
theorem dX13_ask_122 : decode cX13_ask 122 = .ok (.iload 5, 2) := by decide +kernel
theorem dX13_ask_124 : decode cX13_ask 124 = .ok (.ifCond .le 32, 3) := by decide +kernel
theorem dX13_ask_127 : decode cX13_ask 127 = .ok (.iload 6, 2) := by decide +kernel
theorem dX13_ask_129 : decode cX13_ask 129 = .ok (.ifCond .le 27, 3) := by decide +kernel
theorem dX13_ask_132 : decode cX13_ask 132 = .ok (.aload_n 0, 1) := by decide +kernel
theorem dX13_ask_133 : decode cX13_ask 133 = .ok (.iload 5, 2) := by decide +kernel
theorem dX13_ask_135 : decode cX13_ask 135 = .ok (.iload 6, 2) := by decide +kernel
theorem dX13_ask_137 : decode cX13_ask 137 = .ok (.invokevirtual 141, 3) := by decide +kernel
theorem dX13_ask_140 : decode cX13_ask 140 = .ok (.iload_n 3, 1) := by decide +kernel
theorem dX13_ask_141 : decode cX13_ask 141 = .ok (.if_icmp .ge 15, 3) := by decide +kernel
theorem dX13_ask_144 : decode cX13_ask 144 = .ok (.aload_n 0, 1) := by decide +kernel
theorem dX13_ask_145 : decode cX13_ask 145 = .ok (.iload 5, 2) := by decide +kernel
theorem dX13_ask_147 : decode cX13_ask 147 = .ok (.iload 6, 2) := by decide +kernel
theorem dX13_ask_149 : decode cX13_ask 149 = .ok (.invokevirtual 141, 3) := by decide +kernel
theorem dX13_ask_152 : decode cX13_ask 152 = .ok (.istore_n 3, 1) := by decide +kernel
theorem dX13_ask_153 : decode cX13_ask 153 = .ok (.iload 4, 2) := by decide +kernel
theorem dX13_ask_155 : decode cX13_ask 155 = .ok (.istore_n 2, 1) := by decide +kernel
theorem dX13_ask_156 : decode cX13_ask 156 = .ok (.iinc 4 1, 3) := by decide +kernel
theorem dX13_ask_159 : decode cX13_ask 159 = .ok (.goto (-146), 3) := by decide +kernel
theorem dX13_ask_162 : decode cX13_ask 162 = .ok (.iload_n 2, 1) := by decide +kernel
theorem dX13_ask_163 : decode cX13_ask 163 = .ok (.ireturn, 1) := by decide +kernel
def f_X13_ask_112 (rec : Nat → Int32 → Int32 → Int32 → Int32 → Int32 → Int32 → Int32 → AH → Option (Int32 × Int32 × AH)) (v0 : Nat) (v1 : Int32) (v2 : Int32) (v3 : Int32) (v4 : Int32) (v5 : Int32) (v7 : Int32) (s0 : Int32) (h : AH) : Option (Int32 × Int32 × AH) := rec v0 v1 v2 v3 v4 v5 (s0 + (0 : Int32)) (v7 + 1) h
set_option maxRecDepth 100000 in
set_option maxHeartbeats 4000000 in
theorem j_X13_ask_112 (X : SX) (d : Nat) (rec : Nat → Int32 → Int32 → Int32 → Int32 → Int32 → Int32 → Int32 → AH → Option (Int32 × Int32 × AH)) (hrecf : ∀ (rv : Option Int32) (h' : AH), ∀ (v0 : Nat) (v1 : Int32) (v2 : Int32) (v3 : Int32) (v4 : Int32) (v5 : Int32) (v6 : Int32) (v7 : Int32) (h : AH) (y5 : Int32) (y6 : Int32) (h1 : AH), rec v0 v1 v2 v3 v4 v5 v6 v7 h = some (y5, y6, h1) → G X mX13_ask (d + 1) 122 [(0, .ref v0), (1, .int v1), (2, .int v2), (3, .int v3), (4, .int v4), (5, .int y5), (6, .int y6)] [] h1 rv h' → G X mX13_ask (d + 1) 30 [(0, .ref v0), (1, .int v1), (2, .int v2), (3, .int v3), (4, .int v4), (5, .int v5), (6, .int v6), (7, .int v7)] [] h rv h') (v0 : Nat) (v1 : Int32) (v2 : Int32) (v3 : Int32) (v4 : Int32) (v5 : Int32) (v7 : Int32) (s0 : Int32) (h : AH) (y5 : Int32) (y6 : Int32) (h1 : AH) (hf : f_X13_ask_112 rec v0 v1 v2 v3 v4 v5 v7 s0 h = some (y5, y6, h1)) (rv : Option Int32) (h' : AH) (hE : G X mX13_ask (d + 1) 122 [(0, .ref v0), (1, .int v1), (2, .int v2), (3, .int v3), (4, .int v4), (5, .int y5), (6, .int y6)] [] h1 rv h') : G X mX13_ask (d + 1) 112 [(0, .ref v0), (1, .int v1), (2, .int v2), (3, .int v3), (4, .int v4), (5, .int v5), (7, .int v7)] [.int s0] h rv h' := by
  unfold f_X13_ask_112 at hf
  have hrec := hrecf rv h'
  refine G.iconst (v := (0 : Int32)) dX13_ask_112 (by decide) ?_
  refine G.iadd dX13_ask_113 ?_
  refine G.istore (lv' := [(6, .int (s0 + (0 : Int32))), (0, .ref v0), (1, .int v1), (2, .int v2), (3, .int v3), (4, .int v4), (5, .int v5), (7, .int v7)]) dX13_ask_114 (by decide) rfl ?_
  refine G.iinc (v := (v7 + 1)) (lv' := [(7, .int (v7 + 1)), (6, .int (s0 + (0 : Int32))), (0, .ref v0), (1, .int v1), (2, .int v2), (3, .int v3), (4, .int v4), (5, .int v5)]) dX13_ask_116 rfl rfl (by decide) rfl ?_
  refine G.goto 30 dX13_ask_119 (by decide) ?_
  exact G.pick [2, 3, 4, 5, 6, 7, 1, 0] rfl (hrec v0 v1 v2 v3 v4 v5 (s0 + (0 : Int32)) (v7 + 1) h _ _ _ hf hE)
def f_X13_ask_83 (rec : Nat → Int32 → Int32 → Int32 → Int32 → Int32 → Int32 → Int32 → AH → Option (Int32 × Int32 × AH)) (v0 : Nat) (v1 : Int32) (v2 : Int32) (v3 : Int32) (v4 : Int32) (v6 : Int32) (v7 : Int32) (v8 : Int32) (s0 : Int32) (s1 : Int32) (h : AH) : Option (Int32 × Int32 × AH) := if v8 = 0 then (f_X13_ask_112 rec v0 v1 v2 v3 v4 (s1 + s0) v7 v6 h) else ((gr h 12 v0 11).bind fun r2 => (ai h 0 r2 ((6 : Int32) + v7)).bind fun x3 => if v4 ≤ x3 then (f_X13_ask_112 rec v0 v1 v2 v3 v4 (s1 + s0) v7 v6 h) else (rec v0 v1 v2 v3 v4 (s1 + s0) (v6 + (1 : Int32)) (v7 + 1) h))
set_option maxRecDepth 100000 in
set_option maxHeartbeats 4000000 in
theorem j_X13_ask_83 (X : SX) (d : Nat) (rec : Nat → Int32 → Int32 → Int32 → Int32 → Int32 → Int32 → Int32 → AH → Option (Int32 × Int32 × AH)) (hrecf : ∀ (rv : Option Int32) (h' : AH), ∀ (v0 : Nat) (v1 : Int32) (v2 : Int32) (v3 : Int32) (v4 : Int32) (v5 : Int32) (v6 : Int32) (v7 : Int32) (h : AH) (y5 : Int32) (y6 : Int32) (h1 : AH), rec v0 v1 v2 v3 v4 v5 v6 v7 h = some (y5, y6, h1) → G X mX13_ask (d + 1) 122 [(0, .ref v0), (1, .int v1), (2, .int v2), (3, .int v3), (4, .int v4), (5, .int y5), (6, .int y6)] [] h1 rv h' → G X mX13_ask (d + 1) 30 [(0, .ref v0), (1, .int v1), (2, .int v2), (3, .int v3), (4, .int v4), (5, .int v5), (6, .int v6), (7, .int v7)] [] h rv h') (v0 : Nat) (v1 : Int32) (v2 : Int32) (v3 : Int32) (v4 : Int32) (v6 : Int32) (v7 : Int32) (v8 : Int32) (s0 : Int32) (s1 : Int32) (h : AH) (y5 : Int32) (y6 : Int32) (h1 : AH) (hf : f_X13_ask_83 rec v0 v1 v2 v3 v4 v6 v7 v8 s0 s1 h = some (y5, y6, h1)) (rv : Option Int32) (h' : AH) (hE : G X mX13_ask (d + 1) 122 [(0, .ref v0), (1, .int v1), (2, .int v2), (3, .int v3), (4, .int v4), (5, .int y5), (6, .int y6)] [] h1 rv h') : G X mX13_ask (d + 1) 83 [(0, .ref v0), (1, .int v1), (2, .int v2), (3, .int v3), (4, .int v4), (6, .int v6), (7, .int v7), (8, .int v8)] [.int s0, .int s1] h rv h' := by
  unfold f_X13_ask_83 at hf
  have hrec := hrecf rv h'
  refine G.iadd dX13_ask_83 ?_
  refine G.istore (lv' := [(5, .int (s1 + s0)), (0, .ref v0), (1, .int v1), (2, .int v2), (3, .int v3), (4, .int v4), (6, .int v6), (7, .int v7), (8, .int v8)]) dX13_ask_84 (by decide) rfl ?_
  refine G.iload dX13_ask_86 rfl ?_
  refine G.iload dX13_ask_88 rfl ?_
  refine G.if_eq 112 dX13_ask_90 (by decide) (fun c1 => ?_) (fun c1 => ?_)
  · rw [if_pos c1] at hf
    exact G.pick [1, 2, 3, 4, 5, 0, 7] rfl (j_X13_ask_112 X d _ hrecf v0 v1 v2 v3 v4 (s1 + s0) v7 v6 h _ _ _ hf _ _ hE)
  · rw [if_neg c1] at hf
    refine G.aload_n dX13_ask_93 rfl ?_
    refine G.getr flX13_29 dX13_ask_94 hf (fun r2 hf => ?_)
    refine G.bipush (v := (6 : Int32)) dX13_ask_97 (by decide) ?_
    refine G.iload dX13_ask_99 rfl ?_
    refine G.iadd dX13_ask_101 ?_
    refine G.iald dX13_ask_102 hf (fun x3 hf => ?_)
    refine G.iload dX13_ask_103 rfl ?_
    refine G.icmp_ge 112 dX13_ask_105 (by decide) (fun c4 => ?_) (fun c4 => ?_)
    · rw [if_pos c4] at hf
      exact G.pick [1, 2, 3, 4, 5, 0, 7] rfl (j_X13_ask_112 X d _ hrecf v0 v1 v2 v3 v4 (s1 + s0) v7 v6 h _ _ _ hf _ _ hE)
    · rw [if_neg c4] at hf
      refine G.iconst (v := (1 : Int32)) dX13_ask_108 (by decide) ?_
      refine G.goto 113 dX13_ask_109 (by decide) ?_
      refine G.iadd dX13_ask_113 ?_
      refine G.istore (lv' := [(6, .int (v6 + (1 : Int32))), (5, .int (s1 + s0)), (0, .ref v0), (1, .int v1), (2, .int v2), (3, .int v3), (4, .int v4), (7, .int v7), (8, .int v8)]) dX13_ask_114 (by decide) rfl ?_
      refine G.iinc (v := (v7 + 1)) (lv' := [(7, .int (v7 + 1)), (6, .int (v6 + (1 : Int32))), (5, .int (s1 + s0)), (0, .ref v0), (1, .int v1), (2, .int v2), (3, .int v3), (4, .int v4), (8, .int v8)]) dX13_ask_116 rfl rfl (by decide) rfl ?_
      refine G.goto 30 dX13_ask_119 (by decide) ?_
      exact G.pick [3, 4, 5, 6, 7, 2, 1, 0] rfl (hrec v0 v1 v2 v3 v4 (s1 + s0) (v6 + (1 : Int32)) (v7 + 1) h _ _ _ hf hE)
def f_X13_ask_82 (rec : Nat → Int32 → Int32 → Int32 → Int32 → Int32 → Int32 → Int32 → AH → Option (Int32 × Int32 × AH)) (v0 : Nat) (v1 : Int32) (v2 : Int32) (v3 : Int32) (v4 : Int32) (v6 : Int32) (v7 : Int32) (v8 : Int32) (s0 : Int32) (h : AH) : Option (Int32 × Int32 × AH) := f_X13_ask_83 rec v0 v1 v2 v3 v4 v6 v7 v8 (0 : Int32) s0 h
set_option maxRecDepth 100000 in
set_option maxHeartbeats 4000000 in
theorem j_X13_ask_82 (X : SX) (d : Nat) (rec : Nat → Int32 → Int32 → Int32 → Int32 → Int32 → Int32 → Int32 → AH → Option (Int32 × Int32 × AH)) (hrecf : ∀ (rv : Option Int32) (h' : AH), ∀ (v0 : Nat) (v1 : Int32) (v2 : Int32) (v3 : Int32) (v4 : Int32) (v5 : Int32) (v6 : Int32) (v7 : Int32) (h : AH) (y5 : Int32) (y6 : Int32) (h1 : AH), rec v0 v1 v2 v3 v4 v5 v6 v7 h = some (y5, y6, h1) → G X mX13_ask (d + 1) 122 [(0, .ref v0), (1, .int v1), (2, .int v2), (3, .int v3), (4, .int v4), (5, .int y5), (6, .int y6)] [] h1 rv h' → G X mX13_ask (d + 1) 30 [(0, .ref v0), (1, .int v1), (2, .int v2), (3, .int v3), (4, .int v4), (5, .int v5), (6, .int v6), (7, .int v7)] [] h rv h') (v0 : Nat) (v1 : Int32) (v2 : Int32) (v3 : Int32) (v4 : Int32) (v6 : Int32) (v7 : Int32) (v8 : Int32) (s0 : Int32) (h : AH) (y5 : Int32) (y6 : Int32) (h1 : AH) (hf : f_X13_ask_82 rec v0 v1 v2 v3 v4 v6 v7 v8 s0 h = some (y5, y6, h1)) (rv : Option Int32) (h' : AH) (hE : G X mX13_ask (d + 1) 122 [(0, .ref v0), (1, .int v1), (2, .int v2), (3, .int v3), (4, .int v4), (5, .int y5), (6, .int y6)] [] h1 rv h') : G X mX13_ask (d + 1) 82 [(0, .ref v0), (1, .int v1), (2, .int v2), (3, .int v3), (4, .int v4), (6, .int v6), (7, .int v7), (8, .int v8)] [.int s0] h rv h' := by
  unfold f_X13_ask_82 at hf
  have hrec := hrecf rv h'
  refine G.iconst (v := (0 : Int32)) dX13_ask_82 (by decide) ?_
  exact G.pick [0, 1, 2, 3, 4, 5, 6, 7] rfl (j_X13_ask_83 X d _ hrecf v0 v1 v2 v3 v4 v6 v7 v8 (0 : Int32) s0 h _ _ _ hf _ _ hE)
def f_X13_ask_54 (rec : Nat → Int32 → Int32 → Int32 → Int32 → Int32 → Int32 → Int32 → AH → Option (Int32 × Int32 × AH)) (v0 : Nat) (v1 : Int32) (v2 : Int32) (v3 : Int32) (v4 : Int32) (v5 : Int32) (v6 : Int32) (v7 : Int32) (s0 : Int32) (h : AH) : Option (Int32 × Int32 × AH) := if s0 = 0 then (f_X13_ask_82 rec v0 v1 v2 v3 v4 v6 v7 s0 v5 h) else ((gr h 12 v0 11).bind fun r2 => (ai h 0 r2 ((6 : Int32) + v7)).bind fun x3 => if x3 < v4 then (f_X13_ask_82 rec v0 v1 v2 v3 v4 v6 v7 s0 v5 h) else (f_X13_ask_83 rec v0 v1 v2 v3 v4 v6 v7 s0 (1 : Int32) v5 h))
set_option maxRecDepth 100000 in
set_option maxHeartbeats 4000000 in
theorem j_X13_ask_54 (X : SX) (d : Nat) (rec : Nat → Int32 → Int32 → Int32 → Int32 → Int32 → Int32 → Int32 → AH → Option (Int32 × Int32 × AH)) (hrecf : ∀ (rv : Option Int32) (h' : AH), ∀ (v0 : Nat) (v1 : Int32) (v2 : Int32) (v3 : Int32) (v4 : Int32) (v5 : Int32) (v6 : Int32) (v7 : Int32) (h : AH) (y5 : Int32) (y6 : Int32) (h1 : AH), rec v0 v1 v2 v3 v4 v5 v6 v7 h = some (y5, y6, h1) → G X mX13_ask (d + 1) 122 [(0, .ref v0), (1, .int v1), (2, .int v2), (3, .int v3), (4, .int v4), (5, .int y5), (6, .int y6)] [] h1 rv h' → G X mX13_ask (d + 1) 30 [(0, .ref v0), (1, .int v1), (2, .int v2), (3, .int v3), (4, .int v4), (5, .int v5), (6, .int v6), (7, .int v7)] [] h rv h') (v0 : Nat) (v1 : Int32) (v2 : Int32) (v3 : Int32) (v4 : Int32) (v5 : Int32) (v6 : Int32) (v7 : Int32) (s0 : Int32) (h : AH) (y5 : Int32) (y6 : Int32) (h1 : AH) (hf : f_X13_ask_54 rec v0 v1 v2 v3 v4 v5 v6 v7 s0 h = some (y5, y6, h1)) (rv : Option Int32) (h' : AH) (hE : G X mX13_ask (d + 1) 122 [(0, .ref v0), (1, .int v1), (2, .int v2), (3, .int v3), (4, .int v4), (5, .int y5), (6, .int y6)] [] h1 rv h') : G X mX13_ask (d + 1) 54 [(0, .ref v0), (1, .int v1), (2, .int v2), (3, .int v3), (4, .int v4), (5, .int v5), (6, .int v6), (7, .int v7)] [.int s0] h rv h' := by
  unfold f_X13_ask_54 at hf
  have hrec := hrecf rv h'
  refine G.istore (lv' := [(8, .int s0), (0, .ref v0), (1, .int v1), (2, .int v2), (3, .int v3), (4, .int v4), (5, .int v5), (6, .int v6), (7, .int v7)]) dX13_ask_54 (by decide) rfl ?_
  refine G.iload dX13_ask_56 rfl ?_
  refine G.iload dX13_ask_58 rfl ?_
  refine G.if_eq 82 dX13_ask_60 (by decide) (fun c1 => ?_) (fun c1 => ?_)
  · rw [if_pos c1] at hf
    exact G.pick [1, 2, 3, 4, 5, 7, 8, 0] rfl (j_X13_ask_82 X d _ hrecf v0 v1 v2 v3 v4 v6 v7 s0 v5 h _ _ _ hf _ _ hE)
  · rw [if_neg c1] at hf
    refine G.aload_n dX13_ask_63 rfl ?_
    refine G.getr flX13_29 dX13_ask_64 hf (fun r2 hf => ?_)
    refine G.bipush (v := (6 : Int32)) dX13_ask_67 (by decide) ?_
    refine G.iload dX13_ask_69 rfl ?_
    refine G.iadd dX13_ask_71 ?_
    refine G.iald dX13_ask_72 hf (fun x3 hf => ?_)
    refine G.iload dX13_ask_73 rfl ?_
    refine G.icmp_lt 82 dX13_ask_75 (by decide) (fun c4 => ?_) (fun c4 => ?_)
    · rw [if_pos c4] at hf
      exact G.pick [1, 2, 3, 4, 5, 7, 8, 0] rfl (j_X13_ask_82 X d _ hrecf v0 v1 v2 v3 v4 v6 v7 s0 v5 h _ _ _ hf _ _ hE)
    · rw [if_neg c4] at hf
      refine G.iconst (v := (1 : Int32)) dX13_ask_78 (by decide) ?_
      refine G.goto 83 dX13_ask_79 (by decide) ?_
      exact G.pick [1, 2, 3, 4, 5, 7, 8, 0] rfl (j_X13_ask_83 X d _ hrecf v0 v1 v2 v3 v4 v6 v7 s0 (1 : Int32) v5 h _ _ _ hf _ _ hE)
def F_X13_ask_L30 (rec : Nat → Int32 → Int32 → Int32 → Int32 → Int32 → Int32 → Int32 → AH → Option (Int32 × Int32 × AH)) (v0 : Nat) (v1 : Int32) (v2 : Int32) (v3 : Int32) (v4 : Int32) (v5 : Int32) (v6 : Int32) (v7 : Int32) (h : AH) : Option (Int32 × Int32 × AH) := (gi h 12 v0 5).bind fun x1 => if x1 ≤ v7 then (some (v5, v6, h)) else (if ((v1 >>> (v7 &&& 31)) &&& (1 : Int32)) = (1 : Int32) then (f_X13_ask_54 rec v0 v1 v2 v3 v4 v5 v6 v7 (1 : Int32) h) else (f_X13_ask_54 rec v0 v1 v2 v3 v4 v5 v6 v7 (0 : Int32) h))
def f_X13_ask_L30 : Nat → Nat → Int32 → Int32 → Int32 → Int32 → Int32 → Int32 → Int32 → AH → Option (Int32 × Int32 × AH)
  | 0 => fun _ _ _ _ _ _ _ _ _ => none
  | n + 1 => F_X13_ask_L30 (f_X13_ask_L30 n)
set_option maxRecDepth 100000 in
set_option maxHeartbeats 4000000 in
theorem lx_X13_ask_L30 (X : SX) (d : Nat) : ∀ n (rv : Option Int32) (h' : AH), ∀ (v0 : Nat) (v1 : Int32) (v2 : Int32) (v3 : Int32) (v4 : Int32) (v5 : Int32) (v6 : Int32) (v7 : Int32) (h : AH) (y5 : Int32) (y6 : Int32) (h1 : AH), f_X13_ask_L30 n v0 v1 v2 v3 v4 v5 v6 v7 h = some (y5, y6, h1) → G X mX13_ask (d + 1) 122 [(0, .ref v0), (1, .int v1), (2, .int v2), (3, .int v3), (4, .int v4), (5, .int y5), (6, .int y6)] [] h1 rv h' → G X mX13_ask (d + 1) 30 [(0, .ref v0), (1, .int v1), (2, .int v2), (3, .int v3), (4, .int v4), (5, .int v5), (6, .int v6), (7, .int v7)] [] h rv h' := by
  intro n
  induction n with
  | zero =>
    intro rv h' v0 v1 v2 v3 v4 v5 v6 v7 h y5 y6 h1 hf hE
    cases hf
  | succ n ihf =>
    intro rv h' v0 v1 v2 v3 v4 v5 v6 v7 h y5 y6 h1 hf hE
    replace hf : F_X13_ask_L30 (f_X13_ask_L30 n) v0 v1 v2 v3 v4 v5 v6 v7 h = some (y5, y6, h1) := hf
    unfold F_X13_ask_L30 at hf
    have ih := ihf rv h'
    refine G.iload dX13_ask_30 rfl ?_
    refine G.aload_n dX13_ask_32 rfl ?_
    refine G.geti flX13_75 dX13_ask_33 hf (fun x1 hf => ?_)
    refine G.icmp_ge 122 dX13_ask_36 (by decide) (fun c2 => ?_) (fun c2 => ?_)
    · rw [if_pos c2] at hf
      obtain ⟨u0, w1⟩ := Prod.mk.inj (Option.some.inj hf)
      obtain ⟨u1, w2⟩ := Prod.mk.inj w1
      subst u0
      subst u1
      subst w2
      exact G.pick [0, 1, 2, 3, 4, 5, 6] rfl hE
    · rw [if_neg c2] at hf
      refine G.iload_n dX13_ask_39 rfl ?_
      refine G.iload dX13_ask_40 rfl ?_
      refine G.ishr dX13_ask_42 ?_
      refine G.iconst (v := (1 : Int32)) dX13_ask_43 (by decide) ?_
      refine G.iand dX13_ask_44 ?_
      refine G.iconst (v := (1 : Int32)) dX13_ask_45 (by decide) ?_
      refine G.icmp_ne 53 dX13_ask_46 (by decide) (fun c3 => ?_) (fun c3 => ?_)
      · rw [if_neg c3] at hf
        refine G.iconst (v := (0 : Int32)) dX13_ask_53 (by decide) ?_
        exact G.pick [0, 1, 2, 3, 4, 5, 6, 7] rfl (j_X13_ask_54 X d _ ihf v0 v1 v2 v3 v4 v5 v6 v7 (0 : Int32) h _ _ _ hf _ _ hE)
      · rw [if_pos c3] at hf
        refine G.iconst (v := (1 : Int32)) dX13_ask_49 (by decide) ?_
        refine G.goto 54 dX13_ask_50 (by decide) ?_
        exact G.pick [0, 1, 2, 3, 4, 5, 6, 7] rfl (j_X13_ask_54 X d _ ihf v0 v1 v2 v3 v4 v5 v6 v7 (1 : Int32) h _ _ _ hf _ _ hE)
theorem l_X13_ask_L30 (X : SX) (d : Nat) (rv : Option Int32) (h' : AH) (n : Nat) : ∀ (v0 : Nat) (v1 : Int32) (v2 : Int32) (v3 : Int32) (v4 : Int32) (v5 : Int32) (v6 : Int32) (v7 : Int32) (h : AH) (y5 : Int32) (y6 : Int32) (h1 : AH), f_X13_ask_L30 n v0 v1 v2 v3 v4 v5 v6 v7 h = some (y5, y6, h1) → G X mX13_ask (d + 1) 122 [(0, .ref v0), (1, .int v1), (2, .int v2), (3, .int v3), (4, .int v4), (5, .int y5), (6, .int y6)] [] h1 rv h' → G X mX13_ask (d + 1) 30 [(0, .ref v0), (1, .int v1), (2, .int v2), (3, .int v3), (4, .int v4), (5, .int v5), (6, .int v6), (7, .int v7)] [] h rv h' := lx_X13_ask_L30 X d n rv h'
def F_X13_ask_L13 (rec : Nat → Int32 → Int32 → Int32 → Int32 → AH → Option (Int32 × AH)) (v0 : Nat) (v1 : Int32) (v2 : Int32) (v3 : Int32) (v4 : Int32) (h : AH) : Option (Int32 × AH) := if (198 : Int32) < v4 then (some (v2, h)) else (bT2 (f_X13_ask_L30 1000000 v0 v1 v2 v3 v4 (0 : Int32) (0 : Int32) (0 : Int32) h) fun y4 y5 h2 => if y4 ≤ 0 then (rec v0 v1 v2 v3 (v4 + 1) h2) else (if y5 ≤ 0 then (rec v0 v1 v2 v3 (v4 + 1) h2) else (bT1 (f_X13_max v0 y4 y5 h2) fun x10 h8 => if v3 ≤ x10 then (rec v0 v1 v2 v3 (v4 + 1) h8) else (bT1 (f_X13_max v0 y4 y5 h8) fun x14 h12 => rec v0 v1 v4 x14 (v4 + 1) h12))))
def f_X13_ask_L13 : Nat → Nat → Int32 → Int32 → Int32 → Int32 → AH → Option (Int32 × AH)
  | 0 => fun _ _ _ _ _ _ => none
  | n + 1 => F_X13_ask_L13 (f_X13_ask_L13 n)
set_option maxRecDepth 100000 in
set_option maxHeartbeats 4000000 in
theorem lx_X13_ask_L13 (X : SX) (d : Nat) : ∀ n (rv : Option Int32) (h' : AH), ∀ (v0 : Nat) (v1 : Int32) (v2 : Int32) (v3 : Int32) (v4 : Int32) (h : AH) (y2 : Int32) (h1 : AH), f_X13_ask_L13 n v0 v1 v2 v3 v4 h = some (y2, h1) → G X mX13_ask (d + 1) 162 [(2, .int y2)] [] h1 rv h' → G X mX13_ask (d + 1) 13 [(0, .ref v0), (1, .int v1), (2, .int v2), (3, .int v3), (4, .int v4)] [] h rv h' := by
  intro n
  induction n with
  | zero =>
    intro rv h' v0 v1 v2 v3 v4 h y2 h1 hf hE
    cases hf
  | succ n ihf =>
    intro rv h' v0 v1 v2 v3 v4 h y2 h1 hf hE
    replace hf : F_X13_ask_L13 (f_X13_ask_L13 n) v0 v1 v2 v3 v4 h = some (y2, h1) := hf
    unfold F_X13_ask_L13 at hf
    have ih := ihf rv h'
    refine G.iload dX13_ask_13 rfl ?_
    refine G.sipush (v := (198 : Int32)) dX13_ask_15 (by decide) ?_
    refine G.icmp_gt 162 dX13_ask_18 (by decide) (fun c1 => ?_) (fun c1 => ?_)
    · rw [if_pos c1] at hf
      obtain ⟨u0, w1⟩ := Prod.mk.inj (Option.some.inj hf)
      subst u0
      subst w1
      exact G.pick [2] rfl hE
    · rw [if_neg c1] at hf
      refine G.iconst (v := (0 : Int32)) dX13_ask_21 (by decide) ?_
      refine G.istore (lv' := [(5, .int (0 : Int32)), (0, .ref v0), (1, .int v1), (2, .int v2), (3, .int v3), (4, .int v4)]) dX13_ask_22 (by decide) rfl ?_
      refine G.iconst (v := (0 : Int32)) dX13_ask_24 (by decide) ?_
      refine G.istore (lv' := [(6, .int (0 : Int32)), (5, .int (0 : Int32)), (0, .ref v0), (1, .int v1), (2, .int v2), (3, .int v3), (4, .int v4)]) dX13_ask_25 (by decide) rfl ?_
      refine G.iconst (v := (0 : Int32)) dX13_ask_27 (by decide) ?_
      refine G.istore (lv' := [(7, .int (0 : Int32)), (6, .int (0 : Int32)), (5, .int (0 : Int32)), (0, .ref v0), (1, .int v1), (2, .int v2), (3, .int v3), (4, .int v4)]) dX13_ask_28 (by decide) rfl ?_
      obtain ⟨y4, y5, h2, e3, hf⟩ := bT2_spec hf
      refine G.pick [3, 4, 5, 6, 7, 2, 1, 0] rfl (l_X13_ask_L30 X d _ _ 1000000 v0 v1 v2 v3 v4 (0 : Int32) (0 : Int32) (0 : Int32) h y4 y5 h2 e3 ?_)
      refine G.iload dX13_ask_122 rfl ?_
      refine G.if_le 156 dX13_ask_124 (by decide) (fun c6 => ?_) (fun c6 => ?_)
      · rw [if_pos c6] at hf
        refine G.iinc (v := (v4 + 1)) (lv' := [(4, .int (v4 + 1)), (0, .ref v0), (1, .int v1), (2, .int v2), (3, .int v3), (5, .int y4), (6, .int y5)]) dX13_ask_156 rfl rfl (by decide) rfl ?_
        refine G.goto 13 dX13_ask_159 (by decide) ?_
        exact G.pick [1, 2, 3, 4, 0] rfl (ih v0 v1 v2 v3 (v4 + 1) h2 _ _ hf hE)
      · rw [if_neg c6] at hf
        refine G.iload dX13_ask_127 rfl ?_
        refine G.if_le 156 dX13_ask_129 (by decide) (fun c7 => ?_) (fun c7 => ?_)
        · rw [if_pos c7] at hf
          refine G.iinc (v := (v4 + 1)) (lv' := [(4, .int (v4 + 1)), (0, .ref v0), (1, .int v1), (2, .int v2), (3, .int v3), (5, .int y4), (6, .int y5)]) dX13_ask_156 rfl rfl (by decide) rfl ?_
          refine G.goto 13 dX13_ask_159 (by decide) ?_
          exact G.pick [1, 2, 3, 4, 0] rfl (ih v0 v1 v2 v3 (v4 + 1) h2 _ _ hf hE)
        · rw [if_neg c7] at hf
          refine G.aload_n dX13_ask_132 rfl ?_
          refine G.iload dX13_ask_133 rfl ?_
          refine G.iload dX13_ask_135 rfl ?_
          obtain ⟨x10, h8, e9, hf⟩ := bT1_spec hf
          refine G.callVi (M' := mX13_max) (ci := 12) (As := [.int y4, .int y5]) (st := []) okX13_max viX13_max lkX13_141 rfl rfl rfl (Nat.le_of_ble_eq_true rfl) (Nat.le_of_ble_eq_true rfl) dX13_ask_137 (c_X13_max X d _ _ _ _ _ _ e9).1 (c_X13_max X d _ _ _ _ _ _ e9).2 ?_
          refine G.iload_n dX13_ask_140 rfl ?_
          refine G.icmp_ge 156 dX13_ask_141 (by decide) (fun c11 => ?_) (fun c11 => ?_)
          · rw [if_pos c11] at hf
            refine G.iinc (v := (v4 + 1)) (lv' := [(4, .int (v4 + 1)), (0, .ref v0), (1, .int v1), (2, .int v2), (3, .int v3), (5, .int y4), (6, .int y5)]) dX13_ask_156 rfl rfl (by decide) rfl ?_
            refine G.goto 13 dX13_ask_159 (by decide) ?_
            exact G.pick [1, 2, 3, 4, 0] rfl (ih v0 v1 v2 v3 (v4 + 1) h8 _ _ hf hE)
          · rw [if_neg c11] at hf
            refine G.aload_n dX13_ask_144 rfl ?_
            refine G.iload dX13_ask_145 rfl ?_
            refine G.iload dX13_ask_147 rfl ?_
            obtain ⟨x14, h12, e13, hf⟩ := bT1_spec hf
            refine G.callVi (M' := mX13_max) (ci := 12) (As := [.int y4, .int y5]) (st := []) okX13_max viX13_max lkX13_141 rfl rfl rfl (Nat.le_of_ble_eq_true rfl) (Nat.le_of_ble_eq_true rfl) dX13_ask_149 (c_X13_max X d _ _ _ _ _ _ e13).1 (c_X13_max X d _ _ _ _ _ _ e13).2 ?_
            refine G.istore_n (lv' := [(3, .int x14), (0, .ref v0), (1, .int v1), (2, .int v2), (4, .int v4), (5, .int y4), (6, .int y5)]) dX13_ask_152 (by decide) rfl ?_
            refine G.iload dX13_ask_153 rfl ?_
            refine G.istore_n (lv' := [(2, .int v4), (3, .int x14), (0, .ref v0), (1, .int v1), (4, .int v4), (5, .int y4), (6, .int y5)]) dX13_ask_155 (by decide) rfl ?_
            refine G.iinc (v := (v4 + 1)) (lv' := [(4, .int (v4 + 1)), (2, .int v4), (3, .int x14), (0, .ref v0), (1, .int v1), (5, .int y4), (6, .int y5)]) dX13_ask_156 rfl rfl (by decide) rfl ?_
            refine G.goto 13 dX13_ask_159 (by decide) ?_
            exact G.pick [3, 4, 1, 2, 0] rfl (ih v0 v1 v4 x14 (v4 + 1) h12 _ _ hf hE)
theorem l_X13_ask_L13 (X : SX) (d : Nat) (rv : Option Int32) (h' : AH) (n : Nat) : ∀ (v0 : Nat) (v1 : Int32) (v2 : Int32) (v3 : Int32) (v4 : Int32) (h : AH) (y2 : Int32) (h1 : AH), f_X13_ask_L13 n v0 v1 v2 v3 v4 h = some (y2, h1) → G X mX13_ask (d + 1) 162 [(2, .int y2)] [] h1 rv h' → G X mX13_ask (d + 1) 13 [(0, .ref v0), (1, .int v1), (2, .int v2), (3, .int v3), (4, .int v4)] [] h rv h' := lx_X13_ask_L13 X d n rv h'
def f_X13_ask (a0 : Nat) (h : AH) : Option (Int32 × AH) := if isO h 12 a0 = true then (bT1 (f_X13_couldBe a0 h) fun x3 h1 => bT1 (f_X13_ask_L13 1000000 a0 x3 (-1 : Int32) (7 : Int32) (1 : Int32) h1) fun y6 h4 => some (y6, h4)) else none
set_option maxRecDepth 100000 in
set_option maxHeartbeats 4000000 in
theorem c_X13_ask (X : SX) (d : Nat) (a0 : Nat) (h : AH) (rr : Int32) (h' : AH) (hf : f_X13_ask a0 h = some (rr, h')) : isO h 12 a0 = true ∧ G X mX13_ask (d + 1) 0 [(0, .ref a0)] [] h (some rr) h' := by
  unfold f_X13_ask at hf
  by_cases ho : isO h 12 a0 = true
  · rw [if_pos ho] at hf
    refine ⟨ho, ?_⟩
    refine G.aload_n dX13_ask_0 rfl ?_
    obtain ⟨x3, h1, e2, hf⟩ := bT1_spec hf
    refine G.callVi (M' := mX13_couldBe) (ci := 12) (As := []) (st := []) okX13_couldBe viX13_couldBe lkX13_258 rfl rfl rfl (Nat.le_of_ble_eq_true rfl) (Nat.le_of_ble_eq_true rfl) dX13_ask_1 (c_X13_couldBe X d _ _ _ _ e2).1 (c_X13_couldBe X d _ _ _ _ e2).2 ?_
    refine G.istore_n (lv' := [(1, .int x3), (0, .ref a0)]) dX13_ask_4 (by decide) rfl ?_
    refine G.iconst (v := (-1 : Int32)) dX13_ask_5 (by decide) ?_
    refine G.istore_n (lv' := [(2, .int (-1 : Int32)), (1, .int x3), (0, .ref a0)]) dX13_ask_6 (by decide) rfl ?_
    refine G.bipush (v := (7 : Int32)) dX13_ask_7 (by decide) ?_
    refine G.istore_n (lv' := [(3, .int (7 : Int32)), (2, .int (-1 : Int32)), (1, .int x3), (0, .ref a0)]) dX13_ask_9 (by decide) rfl ?_
    refine G.iconst (v := (1 : Int32)) dX13_ask_10 (by decide) ?_
    refine G.istore (lv' := [(4, .int (1 : Int32)), (3, .int (7 : Int32)), (2, .int (-1 : Int32)), (1, .int x3), (0, .ref a0)]) dX13_ask_11 (by decide) rfl ?_
    obtain ⟨y6, h4, e5, hf⟩ := bT1_spec hf
    refine G.pick [4, 3, 2, 1, 0] rfl (l_X13_ask_L13 X d _ _ 1000000 a0 x3 (-1 : Int32) (7 : Int32) (1 : Int32) h1 y6 h4 e5 ?_)
    refine G.iload_n dX13_ask_162 rfl ?_
    obtain ⟨hq1, hq2⟩ := Prod.mk.inj (Option.some.inj hf)
    subst hq1
    subst hq2
    exact G.iret rfl rfl dX13_ask_163
  · rw [if_neg ho] at hf
    cases hf
/-! X0_add -/
theorem dX0_add_0 : decode cX0_add 0 = .ok (.aload_n 0, 1) := by decide +kernel
theorem dX0_add_1 : decode cX0_add 1 = .ok (.getfield 18, 3) := by decide +kernel
theorem dX0_add_4 : decode cX0_add 4 = .ok (.bipush 20, 2) := by decide +kernel
theorem dX0_add_6 : decode cX0_add 6 = .ok (.if_icmp .ge 33, 3) := by decide +kernel
theorem dX0_add_9 : decode cX0_add 9 = .ok (.aload_n 0, 1) := by decide +kernel
theorem dX0_add_10 : decode cX0_add 10 = .ok (.getfield 9, 3) := by decide +kernel
theorem dX0_add_13 : decode cX0_add 13 = .ok (.aload_n 0, 1) := by decide +kernel
theorem dX0_add_14 : decode cX0_add 14 = .ok (.getfield 18, 3) := by decide +kernel
theorem dX0_add_17 : decode cX0_add 17 = .ok (.iload_n 1, 1) := by decide +kernel
theorem dX0_add_18 : decode cX0_add 18 = .ok (.iastore, 1) := by decide +kernel
theorem dX0_add_19 : decode cX0_add 19 = .ok (.aload_n 0, 1) := by decide +kernel
theorem dX0_add_20 : decode cX0_add 20 = .ok (.getfield 15, 3) := by decide +kernel
theorem dX0_add_23 : decode cX0_add 23 = .ok (.aload_n 0, 1) := by decide +kernel
theorem dX0_add_24 : decode cX0_add 24 = .ok (.getfield 18, 3) := by decide +kernel
theorem dX0_add_27 : decode cX0_add 27 = .ok (.iload_n 2, 1) := by decide +kernel
theorem dX0_add_28 : decode cX0_add 28 = .ok (.iastore, 1) := by decide +kernel
theorem dX0_add_29 : decode cX0_add 29 = .ok (.aload_n 0, 1) := by decide +kernel
theorem dX0_add_30 : decode cX0_add 30 = .ok (.dup, 1) := by decide +kernel
theorem dX0_add_31 : decode cX0_add 31 = .ok (.getfield 18, 3) := by decide +kernel
theorem dX0_add_34 : decode cX0_add 34 = .ok (.iconst 1, 1) := by decide +kernel
theorem dX0_add_35 : decode cX0_add 35 = .ok (.iadd, 1) := by decide +kernel
theorem dX0_add_36 : decode cX0_add 36 = .ok (.putfield 18, 3) := by decide +kernel
theorem dX0_add_39 : decode cX0_add 39 = .ok (.return_, 1) := by decide +kernel
def f_X0_add (a0 : Nat) (a1 : Int32) (a2 : Int32) (h : AH) : Option (AH) := if isO h 0 a0 = true then ((gi h 0 a0 2).bind fun x1 => if (20 : Int32) ≤ x1 then (some h) else ((gr h 0 a0 0).bind fun r3 => (gi h 0 a0 2).bind fun x4 => (aw h 0 r3 x4 a1).bind fun h5 => (gr h5 0 a0 1).bind fun r6 => (gi h5 0 a0 2).bind fun x7 => (aw h5 0 r6 x7 a2).bind fun h8 => (gi h8 0 a0 2).bind fun x9 => (pf h8 0 a0 2 (.int (x9 + (1 : Int32)))).bind fun h10 => some h10)) else none
set_option maxRecDepth 100000 in
set_option maxHeartbeats 4000000 in
theorem c_X0_add (X : SX) (d : Nat) (a0 : Nat) (a1 : Int32) (a2 : Int32) (h : AH) (h' : AH) (hf : f_X0_add a0 a1 a2 h = some h') : isO h 0 a0 = true ∧ G X mX0_add d 0 [(0, .ref a0), (1, .int a1), (2, .int a2)] [] h none h' := by
  unfold f_X0_add at hf
  by_cases ho : isO h 0 a0 = true
  · rw [if_pos ho] at hf
    refine ⟨ho, ?_⟩
    refine G.aload_n dX0_add_0 rfl ?_
    refine G.geti flX0_18 dX0_add_1 hf (fun x1 hf => ?_)
    refine G.bipush (v := (20 : Int32)) dX0_add_4 (by decide) ?_
    refine G.icmp_ge 39 dX0_add_6 (by decide) (fun c2 => ?_) (fun c2 => ?_)
    · rw [if_pos c2] at hf
      have hq := Option.some.inj hf
      subst hq
      exact G.vret rfl dX0_add_39
    · rw [if_neg c2] at hf
      refine G.aload_n dX0_add_9 rfl ?_
      refine G.getr flX0_9 dX0_add_10 hf (fun r3 hf => ?_)
      refine G.aload_n dX0_add_13 rfl ?_
      refine G.geti flX0_18 dX0_add_14 hf (fun x4 hf => ?_)
      refine G.iload_n dX0_add_17 rfl ?_
      refine G.iast dX0_add_18 hf (fun h5 hf => ?_)
      refine G.aload_n dX0_add_19 rfl ?_
      refine G.getr flX0_15 dX0_add_20 hf (fun r6 hf => ?_)
      refine G.aload_n dX0_add_23 rfl ?_
      refine G.geti flX0_18 dX0_add_24 hf (fun x7 hf => ?_)
      refine G.iload_n dX0_add_27 rfl ?_
      refine G.iast dX0_add_28 hf (fun h8 hf => ?_)
      refine G.aload_n dX0_add_29 rfl ?_
      refine G.dup dX0_add_30 rfl ?_
      refine G.geti flX0_18 dX0_add_31 hf (fun x9 hf => ?_)
      refine G.iconst (v := (1 : Int32)) dX0_add_34 (by decide) ?_
      refine G.iadd dX0_add_35 ?_
      refine G.put flX0_18 (Or.inl rfl) (fun _ _ => ⟨rfl, rfl⟩) dX0_add_36 hf (fun h10 hf => ?_)
      have hq := Option.some.inj hf
      subst hq
      exact G.vret rfl dX0_add_39
  · rw [if_neg ho] at hf
    cases hf
/-! X12_write -/
theorem dX12_write_0 : decode cX12_write 0 = .ok (.aload_n 0, 1) := by decide +kernel
theorem dX12_write_1 : decode cX12_write 1 = .ok (.getfield 19, 3) := by decide +kernel
theorem dX12_write_4 : decode cX12_write 4 = .ok (.iload_n 1, 1) := by decide +kernel
theorem dX12_write_5 : decode cX12_write 5 = .ok (.invokevirtual 166, 3) := by decide +kernel
theorem dX12_write_8 : decode cX12_write 8 = .ok (.ifCond .ne 6, 3) := by decide +kernel
theorem dX12_write_11 : decode cX12_write 11 = .ok (.ldc 170, 2) := by decide +kernel
theorem dX12_write_13 : decode cX12_write 13 = .ok (.ireturn, 1) := by decide +kernel
theorem dX12_write_14 : decode cX12_write 14 = .ok (.iload_n 2, 1) := by decide +kernel
theorem dX12_write_15 : decode cX12_write 15 = .ok (.ifCond .lt 10, 3) := by decide +kernel
theorem dX12_write_18 : decode cX12_write 18 = .ok (.iload_n 2, 1) := by decide +kernel
theorem dX12_write_19 : decode cX12_write 19 = .ok (.sipush 198, 3) := by decide +kernel
theorem dX12_write_22 : decode cX12_write 22 = .ok (.if_icmp .le 6, 3) := by decide +kernel
theorem dX12_write_25 : decode cX12_write 25 = .ok (.ldc 72, 2) := by decide +kernel
theorem dX12_write_27 : decode cX12_write 27 = .ok (.ireturn, 1) := by decide +kernel
theorem dX12_write_28 : decode cX12_write 28 = .ok (.aload_n 0, 1) := by decide +kernel
theorem dX12_write_29 : decode cX12_write 29 = .ok (.getfield 54, 3) := by decide +kernel
theorem dX12_write_32 : decode cX12_write 32 = .ok (.getfield 164, 3) := by decide +kernel
theorem dX12_write_35 : decode cX12_write 35 = .ok (.bipush 20, 2) := by decide +kernel
theorem dX12_write_37 : decode cX12_write 37 = .ok (.if_icmp .lt 6, 3) := by decide +kernel
theorem dX12_write_40 : decode cX12_write 40 = .ok (.ldc 77, 2) := by decide +kernel
theorem dX12_write_42 : decode cX12_write 42 = .ok (.ireturn, 1) := by decide +kernel
theorem dX12_write_43 : decode cX12_write 43 = .ok (.aload_n 0, 1) := by decide +kernel
theorem dX12_write_44 : decode cX12_write 44 = .ok (.getfield 54, 3) := by decide +kernel
theorem dX12_write_47 : decode cX12_write 47 = .ok (.iload_n 1, 1) := by decide +kernel
theorem dX12_write_48 : decode cX12_write 48 = .ok (.iload_n 2, 1) := by decide +kernel
theorem dX12_write_49 : decode cX12_write 49 = .ok (.invokevirtual 298, 3) := by decide +kernel
theorem dX12_write_52 : decode cX12_write 52 = .ok (.aload_n 0, 1) := by decide +kernel
theorem dX12_write_53 : decode cX12_write 53 = .ok (.getfield 54, 3) := by decide +kernel
theorem dX12_write_56 : decode cX12_write 56 = .ok (.getfield 164, 3) := by decide +kernel
theorem dX12_write_59 : decode cX12_write 59 = .ok (.ireturn, 1) := by decide +kernel
def f_X12_write (a0 : Nat) (a1 : Int32) (a2 : Int32) (h : AH) : Option (Int32 × AH) := if isO h 11 a0 = true then ((gr h 11 a0 1).bind fun r1 => bT1 (f_X3_hasSinger r1 a1 h) fun x4 h2 => if x4 = 0 then (some ((-1000000001 : Int32), h2)) else (if a2 < 0 then (some ((-1000000002 : Int32), h2)) else (if a2 ≤ (198 : Int32) then ((gr h2 11 a0 6).bind fun r8 => (gi h2 0 r8 2).bind fun x9 => if x9 < (20 : Int32) then ((gr h2 11 a0 6).bind fun r11 => (f_X0_add r11 a1 a2 h2).bind fun h12 => (gr h12 11 a0 6).bind fun r14 => (gi h12 0 r14 2).bind fun x15 => some (x15, h12)) else (some ((-1000000004 : Int32), h2))) else (some ((-1000000002 : Int32), h2))))) else none
set_option maxRecDepth 100000 in
set_option maxHeartbeats 4000000 in
theorem c_X12_write (X : SX) (d : Nat) (a0 : Nat) (a1 : Int32) (a2 : Int32) (h : AH) (rr : Int32) (h' : AH) (hf : f_X12_write a0 a1 a2 h = some (rr, h')) : isO h 11 a0 = true ∧ G X mX12_write (d + 1) 0 [(0, .ref a0), (1, .int a1), (2, .int a2)] [] h (some rr) h' := by
  unfold f_X12_write at hf
  by_cases ho : isO h 11 a0 = true
  · rw [if_pos ho] at hf
    refine ⟨ho, ?_⟩
    refine G.aload_n dX12_write_0 rfl ?_
    refine G.getr flX12_19 dX12_write_1 hf (fun r1 hf => ?_)
    refine G.iload_n dX12_write_4 rfl ?_
    obtain ⟨x4, h2, e3, hf⟩ := bT1_spec hf
    refine G.callVi (M' := mX3_hasSinger) (ci := 3) (As := [.int a1]) (st := []) okX3_hasSinger viX3_hasSinger lkX12_166 rfl rfl rfl (Nat.le_of_ble_eq_true rfl) (Nat.le_of_ble_eq_true rfl) dX12_write_5 (c_X3_hasSinger X d _ _ _ _ _ e3).1 (c_X3_hasSinger X d _ _ _ _ _ e3).2 ?_
    refine G.if_ne 14 dX12_write_8 (by decide) (fun c5 => ?_) (fun c5 => ?_)
    · rw [if_neg c5] at hf
      refine G.iload_n dX12_write_14 rfl ?_
      refine G.if_lt 25 dX12_write_15 (by decide) (fun c6 => ?_) (fun c6 => ?_)
      · rw [if_pos c6] at hf
        refine G.ldc ckX12_72 dX12_write_25 ?_
        obtain ⟨hq1, hq2⟩ := Prod.mk.inj (Option.some.inj hf)
        subst hq1
        subst hq2
        exact G.iret rfl rfl dX12_write_27
      · rw [if_neg c6] at hf
        refine G.iload_n dX12_write_18 rfl ?_
        refine G.sipush (v := (198 : Int32)) dX12_write_19 (by decide) ?_
        refine G.icmp_le 28 dX12_write_22 (by decide) (fun c7 => ?_) (fun c7 => ?_)
        · rw [if_pos c7] at hf
          refine G.aload_n dX12_write_28 rfl ?_
          refine G.getr flX12_54 dX12_write_29 hf (fun r8 hf => ?_)
          refine G.geti flX12_164 dX12_write_32 hf (fun x9 hf => ?_)
          refine G.bipush (v := (20 : Int32)) dX12_write_35 (by decide) ?_
          refine G.icmp_lt 43 dX12_write_37 (by decide) (fun c10 => ?_) (fun c10 => ?_)
          · rw [if_pos c10] at hf
            refine G.aload_n dX12_write_43 rfl ?_
            refine G.getr flX12_54 dX12_write_44 hf (fun r11 hf => ?_)
            refine G.iload_n dX12_write_47 rfl ?_
            refine G.iload_n dX12_write_48 rfl ?_
            obtain ⟨h12, e13, hf⟩ := Option.bind_eq_some_iff.mp hf
            refine G.callVv (M' := mX0_add) (ci := 0) (As := [.int a1, .int a2]) (st := []) okX0_add viX0_add lkX12_298 rfl rfl rfl (Nat.le_of_ble_eq_true rfl) (Nat.le_of_ble_eq_true rfl) dX12_write_49 (c_X0_add X d _ _ _ _ _ e13).1 (c_X0_add X d _ _ _ _ _ e13).2 ?_
            refine G.aload_n dX12_write_52 rfl ?_
            refine G.getr flX12_54 dX12_write_53 hf (fun r14 hf => ?_)
            refine G.geti flX12_164 dX12_write_56 hf (fun x15 hf => ?_)
            obtain ⟨hq1, hq2⟩ := Prod.mk.inj (Option.some.inj hf)
            subst hq1
            subst hq2
            exact G.iret rfl rfl dX12_write_59
          · rw [if_neg c10] at hf
            refine G.ldc ckX12_77 dX12_write_40 ?_
            obtain ⟨hq1, hq2⟩ := Prod.mk.inj (Option.some.inj hf)
            subst hq1
            subst hq2
            exact G.iret rfl rfl dX12_write_42
        · rw [if_neg c7] at hf
          refine G.ldc ckX12_72 dX12_write_25 ?_
          obtain ⟨hq1, hq2⟩ := Prod.mk.inj (Option.some.inj hf)
          subst hq1
          subst hq2
          exact G.iret rfl rfl dX12_write_27
    · rw [if_pos c5] at hf
      refine G.ldc ckX12_170 dX12_write_11 ?_
      obtain ⟨hq1, hq2⟩ := Prod.mk.inj (Option.some.inj hf)
      subst hq1
      subst hq2
      exact G.iret rfl rfl dX12_write_13
  · rw [if_neg ho] at hf
    cases hf
/-! X13_write -/
theorem dX13_write_0 : decode cX13_write 0 = .ok (.aload_n 0, 1) := by decide +kernel
theorem dX13_write_1 : decode cX13_write 1 = .ok (.iload_n 1, 1) := by decide +kernel
theorem dX13_write_2 : decode cX13_write 2 = .ok (.invokevirtual 176, 3) := by decide +kernel
theorem dX13_write_5 : decode cX13_write 5 = .ok (.ifCond .ne 6, 3) := by decide +kernel
theorem dX13_write_8 : decode cX13_write 8 = .ok (.ldc 180, 2) := by decide +kernel
theorem dX13_write_10 : decode cX13_write 10 = .ok (.ireturn, 1) := by decide +kernel
theorem dX13_write_11 : decode cX13_write 11 = .ok (.iload_n 2, 1) := by decide +kernel
theorem dX13_write_12 : decode cX13_write 12 = .ok (.ifCond .lt 10, 3) := by decide +kernel
theorem dX13_write_15 : decode cX13_write 15 = .ok (.iload_n 2, 1) := by decide +kernel
theorem dX13_write_16 : decode cX13_write 16 = .ok (.sipush 198, 3) := by decide +kernel
theorem dX13_write_19 : decode cX13_write 19 = .ok (.if_icmp .le 6, 3) := by decide +kernel
theorem dX13_write_22 : decode cX13_write 22 = .ok (.ldc 81, 2) := by decide +kernel
theorem dX13_write_24 : decode cX13_write 24 = .ok (.ireturn, 1) := by decide +kernel
theorem dX13_write_25 : decode cX13_write 25 = .ok (.aload_n 0, 1) := by decide +kernel
theorem dX13_write_26 : decode cX13_write 26 = .ok (.getfield 135, 3) := by decide +kernel
theorem dX13_write_29 : decode cX13_write 29 = .ok (.bipush 20, 2) := by decide +kernel
theorem dX13_write_31 : decode cX13_write 31 = .ok (.if_icmp .ne 6, 3) := by decide +kernel
theorem dX13_write_34 : decode cX13_write 34 = .ok (.ldc 85, 2) := by decide +kernel
theorem dX13_write_36 : decode cX13_write 36 = .ok (.ireturn, 1) := by decide +kernel
theorem dX13_write_37 : decode cX13_write 37 = .ok (.aload_n 0, 1) := by decide +kernel
theorem dX13_write_38 : decode cX13_write 38 = .ok (.getfield 48, 3) := by decide +kernel
theorem dX13_write_41 : decode cX13_write 41 = .ok (.iconst 2, 1) := by decide +kernel
theorem dX13_write_42 : decode cX13_write 42 = .ok (.aload_n 0, 1) := by decide +kernel
theorem dX13_write_43 : decode cX13_write 43 = .ok (.getfield 135, 3) := by decide +kernel
theorem dX13_write_46 : decode cX13_write 46 = .ok (.imul, 1) := by decide +kernel
theorem dX13_write_47 : decode cX13_write 47 = .ok (.iload_n 1, 1) := by decide +kernel
theorem dX13_write_48 : decode cX13_write 48 = .ok (.iastore, 1) := by decide +kernel
theorem dX13_write_49 : decode cX13_write 49 = .ok (.aload_n 0, 1) := by decide +kernel
theorem dX13_write_50 : decode cX13_write 50 = .ok (.getfield 48, 3) := by decide +kernel
theorem dX13_write_53 : decode cX13_write 53 = .ok (.iconst 2, 1) := by decide +kernel
theorem dX13_write_54 : decode cX13_write 54 = .ok (.aload_n 0, 1) := by decide +kernel
theorem dX13_write_55 : decode cX13_write 55 = .ok (.getfield 135, 3) := by decide +kernel
theorem dX13_write_58 : decode cX13_write 58 = .ok (.imul, 1) := by decide +kernel
theorem dX13_write_59 : decode cX13_write 59 = .ok (.iconst 1, 1) := by decide +kernel
theorem dX13_write_60 : decode cX13_write 60 = .ok (.iadd, 1) := by decide +kernel
theorem dX13_write_61 : decode cX13_write 61 = .ok (.iload_n 2, 1) := by decide +kernel
theorem dX13_write_62 : decode cX13_write 62 = .ok (.iastore, 1) := by decide +kernel
theorem dX13_write_63 : decode cX13_write 63 = .ok (.aload_n 0, 1) := by decide +kernel
theorem dX13_write_64 : decode cX13_write 64 = .ok (.dup, 1) := by decide +kernel
theorem dX13_write_65 : decode cX13_write 65 = .ok (.getfield 135, 3) := by decide +kernel
theorem dX13_write_68 : decode cX13_write 68 = .ok (.iconst 1, 1) := by decide +kernel
theorem dX13_write_69 : decode cX13_write 69 = .ok (.iadd, 1) := by decide +kernel
theorem dX13_write_70 : decode cX13_write 70 = .ok (.putfield 135, 3) := by decide +kernel
theorem dX13_write_73 : decode cX13_write 73 = .ok (.aload_n 0, 1) := by decide +kernel
theorem dX13_write_74 : decode cX13_write 74 = .ok (.getfield 135, 3) := by decide +kernel
theorem dX13_write_77 : decode cX13_write 77 = .ok (.ireturn, 1) := by decide +kernel
def f_X13_write (a0 : Nat) (a1 : Int32) (a2 : Int32) (h : AH) : Option (Int32 × AH) := if isO h 12 a0 = true then (bT1 (f_X13_isSinger a0 a1 h) fun x3 h1 => if x3 = 0 then (some ((-1000000001 : Int32), h1)) else (if a2 < 0 then (some ((-1000000002 : Int32), h1)) else (if a2 ≤ (198 : Int32) then ((gi h1 12 a0 21).bind fun x7 => if x7 = (20 : Int32) then (some ((-1000000004 : Int32), h1)) else ((gr h1 12 a0 20).bind fun r9 => (gi h1 12 a0 21).bind fun x10 => (aw h1 0 r9 ((2 : Int32) * x10) a1).bind fun h11 => (gr h11 12 a0 20).bind fun r12 => (gi h11 12 a0 21).bind fun x13 => (aw h11 0 r12 (((2 : Int32) * x13) + (1 : Int32)) a2).bind fun h14 => (gi h14 12 a0 21).bind fun x15 => (pf h14 12 a0 21 (.int (x15 + (1 : Int32)))).bind fun h16 => (gi h16 12 a0 21).bind fun x17 => some (x17, h16))) else (some ((-1000000002 : Int32), h1))))) else none
set_option maxRecDepth 100000 in
set_option maxHeartbeats 4000000 in
theorem c_X13_write (X : SX) (d : Nat) (a0 : Nat) (a1 : Int32) (a2 : Int32) (h : AH) (rr : Int32) (h' : AH) (hf : f_X13_write a0 a1 a2 h = some (rr, h')) : isO h 12 a0 = true ∧ G X mX13_write (d + 1) 0 [(0, .ref a0), (1, .int a1), (2, .int a2)] [] h (some rr) h' := by
  unfold f_X13_write at hf
  by_cases ho : isO h 12 a0 = true
  · rw [if_pos ho] at hf
    refine ⟨ho, ?_⟩
    refine G.aload_n dX13_write_0 rfl ?_
    refine G.iload_n dX13_write_1 rfl ?_
    obtain ⟨x3, h1, e2, hf⟩ := bT1_spec hf
    refine G.callVi (M' := mX13_isSinger) (ci := 12) (As := [.int a1]) (st := []) okX13_isSinger viX13_isSinger lkX13_176 rfl rfl rfl (Nat.le_of_ble_eq_true rfl) (Nat.le_of_ble_eq_true rfl) dX13_write_2 (c_X13_isSinger X d _ _ _ _ _ e2).1 (c_X13_isSinger X d _ _ _ _ _ e2).2 ?_
    refine G.if_ne 11 dX13_write_5 (by decide) (fun c4 => ?_) (fun c4 => ?_)
    · rw [if_neg c4] at hf
      refine G.iload_n dX13_write_11 rfl ?_
      refine G.if_lt 22 dX13_write_12 (by decide) (fun c5 => ?_) (fun c5 => ?_)
      · rw [if_pos c5] at hf
        refine G.ldc ckX13_81 dX13_write_22 ?_
        obtain ⟨hq1, hq2⟩ := Prod.mk.inj (Option.some.inj hf)
        subst hq1
        subst hq2
        exact G.iret rfl rfl dX13_write_24
      · rw [if_neg c5] at hf
        refine G.iload_n dX13_write_15 rfl ?_
        refine G.sipush (v := (198 : Int32)) dX13_write_16 (by decide) ?_
        refine G.icmp_le 25 dX13_write_19 (by decide) (fun c6 => ?_) (fun c6 => ?_)
        · rw [if_pos c6] at hf
          refine G.aload_n dX13_write_25 rfl ?_
          refine G.geti flX13_135 dX13_write_26 hf (fun x7 hf => ?_)
          refine G.bipush (v := (20 : Int32)) dX13_write_29 (by decide) ?_
          refine G.icmp_ne 37 dX13_write_31 (by decide) (fun c8 => ?_) (fun c8 => ?_)
          · rw [if_neg c8] at hf
            refine G.aload_n dX13_write_37 rfl ?_
            refine G.getr flX13_48 dX13_write_38 hf (fun r9 hf => ?_)
            refine G.iconst (v := (2 : Int32)) dX13_write_41 (by decide) ?_
            refine G.aload_n dX13_write_42 rfl ?_
            refine G.geti flX13_135 dX13_write_43 hf (fun x10 hf => ?_)
            refine G.imul dX13_write_46 ?_
            refine G.iload_n dX13_write_47 rfl ?_
            refine G.iast dX13_write_48 hf (fun h11 hf => ?_)
            refine G.aload_n dX13_write_49 rfl ?_
            refine G.getr flX13_48 dX13_write_50 hf (fun r12 hf => ?_)
            refine G.iconst (v := (2 : Int32)) dX13_write_53 (by decide) ?_
            refine G.aload_n dX13_write_54 rfl ?_
            refine G.geti flX13_135 dX13_write_55 hf (fun x13 hf => ?_)
            refine G.imul dX13_write_58 ?_
            refine G.iconst (v := (1 : Int32)) dX13_write_59 (by decide) ?_
            refine G.iadd dX13_write_60 ?_
            refine G.iload_n dX13_write_61 rfl ?_
            refine G.iast dX13_write_62 hf (fun h14 hf => ?_)
            refine G.aload_n dX13_write_63 rfl ?_
            refine G.dup dX13_write_64 rfl ?_
            refine G.geti flX13_135 dX13_write_65 hf (fun x15 hf => ?_)
            refine G.iconst (v := (1 : Int32)) dX13_write_68 (by decide) ?_
            refine G.iadd dX13_write_69 ?_
            refine G.put flX13_135 (Or.inl rfl) (fun _ _ => ⟨rfl, rfl⟩) dX13_write_70 hf (fun h16 hf => ?_)
            refine G.aload_n dX13_write_73 rfl ?_
            refine G.geti flX13_135 dX13_write_74 hf (fun x17 hf => ?_)
            obtain ⟨hq1, hq2⟩ := Prod.mk.inj (Option.some.inj hf)
            subst hq1
            subst hq2
            exact G.iret rfl rfl dX13_write_77
          · rw [if_pos c8] at hf
            refine G.ldc ckX13_85 dX13_write_34 ?_
            obtain ⟨hq1, hq2⟩ := Prod.mk.inj (Option.some.inj hf)
            subst hq1
            subst hq2
            exact G.iret rfl rfl dX13_write_36
        · rw [if_neg c6] at hf
          refine G.ldc ckX13_81 dX13_write_22 ?_
          obtain ⟨hq1, hq2⟩ := Prod.mk.inj (Option.some.inj hf)
          subst hq1
          subst hq2
          exact G.iret rfl rfl dX13_write_24
    · rw [if_pos c4] at hf
      refine G.ldc ckX13_180 dX13_write_8 ?_
      obtain ⟨hq1, hq2⟩ := Prod.mk.inj (Option.some.inj hf)
      subst hq1
      subst hq2
      exact G.iret rfl rfl dX13_write_10
  · rw [if_neg ho] at hf
    cases hf
/-! X0_firstWrong -/
theorem dX0_firstWrong_0 : decode cX0_firstWrong 0 = .ok (.iconst 0, 1) := by decide +kernel
theorem dX0_firstWrong_1 : decode cX0_firstWrong 1 = .ok (.istore_n 2, 1) := by decide +kernel
theorem dX0_firstWrong_2 : decode cX0_firstWrong 2 = .ok (.iload_n 2, 1) := by decide +kernel
theorem dX0_firstWrong_3 : decode cX0_firstWrong 3 = .ok (.aload_n 0, 1) := by decide +kernel
theorem dX0_firstWrong_4 : decode cX0_firstWrong 4 = .ok (.getfield 18, 3) := by decide +kernel
theorem dX0_firstWrong_7 : decode cX0_firstWrong 7 = .ok (.if_icmp .ge 31, 3) := by decide +kernel
theorem dX0_firstWrong_10 : decode cX0_firstWrong 10 = .ok (.aload_n 1, 1) := by decide +kernel
theorem dX0_firstWrong_11 : decode cX0_firstWrong 11 = .ok (.getfield 22, 3) := by decide +kernel
theorem dX0_firstWrong_14 : decode cX0_firstWrong 14 = .ok (.aload_n 0, 1) := by decide +kernel
theorem dX0_firstWrong_15 : decode cX0_firstWrong 15 = .ok (.getfield 9, 3) := by decide +kernel
theorem dX0_firstWrong_18 : decode cX0_firstWrong 18 = .ok (.iload_n 2, 1) := by decide +kernel
theorem dX0_firstWrong_19 : decode cX0_firstWrong 19 = .ok (.iaload, 1) := by decide +kernel
theorem dX0_firstWrong_20 : decode cX0_firstWrong 20 = .ok (.iaload, 1) := by decide +kernel
theorem dX0_firstWrong_21 : decode cX0_firstWrong 21 = .ok (.aload_n 0, 1) := by decide +kernel
theorem dX0_firstWrong_22 : decode cX0_firstWrong 22 = .ok (.getfield 15, 3) := by decide +kernel
theorem dX0_firstWrong_25 : decode cX0_firstWrong 25 = .ok (.iload_n 2, 1) := by decide +kernel
theorem dX0_firstWrong_26 : decode cX0_firstWrong 26 = .ok (.iaload, 1) := by decide +kernel
theorem dX0_firstWrong_27 : decode cX0_firstWrong 27 = .ok (.if_icmp .eq 5, 3) := by decide +kernel
theorem dX0_firstWrong_30 : decode cX0_firstWrong 30 = .ok (.iload_n 2, 1) := by decide +kernel
theorem dX0_firstWrong_31 : decode cX0_firstWrong 31 = .ok (.ireturn, 1) := by decide +kernel
theorem dX0_firstWrong_32 : decode cX0_firstWrong 32 = .ok (.iinc 2 1, 3) := by decide +kernel
theorem dX0_firstWrong_35 : decode cX0_firstWrong 35 = .ok (.goto (-33), 3) := by decide +kernel
theorem dX0_firstWrong_38 : decode cX0_firstWrong 38 = .ok (.iconst (-1), 1) := by decide +kernel
theorem dX0_firstWrong_39 : decode cX0_firstWrong 39 = .ok (.ireturn, 1) := by decide +kernel
def F_X0_firstWrong_L2 (rec : Nat → Nat → Int32 → AH → Option ((Int32 × AH) ⊕ AH)) (v0 : Nat) (v1 : Nat) (v2 : Int32) (h : AH) : Option ((Int32 × AH) ⊕ AH) := (gi h 0 v0 2).bind fun x1 => if x1 ≤ v2 then (some (.inr h)) else ((gr h 4 v1 1).bind fun r3 => (gr h 0 v0 0).bind fun r4 => (ai h 0 r4 v2).bind fun x5 => (ai h 0 r3 x5).bind fun x6 => (gr h 0 v0 1).bind fun r7 => (ai h 0 r7 v2).bind fun x8 => if x6 = x8 then (rec v0 v1 (v2 + 1) h) else (some (.inl (v2, h))))
def f_X0_firstWrong_L2 : Nat → Nat → Nat → Int32 → AH → Option ((Int32 × AH) ⊕ AH)
  | 0 => fun _ _ _ _ => none
  | n + 1 => F_X0_firstWrong_L2 (f_X0_firstWrong_L2 n)
set_option maxRecDepth 100000 in
set_option maxHeartbeats 4000000 in
theorem lx_X0_firstWrong_L2 (X : SX) (d : Nat) : ∀ n (rv : Option Int32) (h' : AH), ∀ (v0 : Nat) (v1 : Nat) (v2 : Int32) (h : AH) (o : (Int32 × AH) ⊕ AH), f_X0_firstWrong_L2 n v0 v1 v2 h = some o → PS o rv h' (fun h1 => G X mX0_firstWrong d 38 [] [] h1 rv h') → G X mX0_firstWrong d 2 [(0, .ref v0), (1, .ref v1), (2, .int v2)] [] h rv h' := by
  intro n
  induction n with
  | zero =>
    intro rv h' v0 v1 v2 h o hf hP
    cases hf
  | succ n ihf =>
    intro rv h' v0 v1 v2 h o hf hP
    replace hf : F_X0_firstWrong_L2 (f_X0_firstWrong_L2 n) v0 v1 v2 h = some o := hf
    unfold F_X0_firstWrong_L2 at hf
    have ih := ihf rv h'
    refine G.iload_n dX0_firstWrong_2 rfl ?_
    refine G.aload_n dX0_firstWrong_3 rfl ?_
    refine G.geti flX0_18 dX0_firstWrong_4 hf (fun x1 hf => ?_)
    refine G.icmp_ge 38 dX0_firstWrong_7 (by decide) (fun c2 => ?_) (fun c2 => ?_)
    · rw [if_pos c2] at hf
      have hq := Option.some.inj hf
      subst hq
      exact G.pick [] rfl hP
    · rw [if_neg c2] at hf
      refine G.aload_n dX0_firstWrong_10 rfl ?_
      refine G.getr flX0_22 dX0_firstWrong_11 hf (fun r3 hf => ?_)
      refine G.aload_n dX0_firstWrong_14 rfl ?_
      refine G.getr flX0_9 dX0_firstWrong_15 hf (fun r4 hf => ?_)
      refine G.iload_n dX0_firstWrong_18 rfl ?_
      refine G.iald dX0_firstWrong_19 hf (fun x5 hf => ?_)
      refine G.iald dX0_firstWrong_20 hf (fun x6 hf => ?_)
      refine G.aload_n dX0_firstWrong_21 rfl ?_
      refine G.getr flX0_15 dX0_firstWrong_22 hf (fun r7 hf => ?_)
      refine G.iload_n dX0_firstWrong_25 rfl ?_
      refine G.iald dX0_firstWrong_26 hf (fun x8 hf => ?_)
      refine G.icmp_eq 32 dX0_firstWrong_27 (by decide) (fun c9 => ?_) (fun c9 => ?_)
      · rw [if_pos c9] at hf
        refine G.iinc (v := (v2 + 1)) (lv' := [(2, .int (v2 + 1)), (0, .ref v0), (1, .ref v1)]) dX0_firstWrong_32 rfl rfl (by decide) rfl ?_
        refine G.goto 2 dX0_firstWrong_35 (by decide) ?_
        exact G.pick [1, 2, 0] rfl (ih v0 v1 (v2 + 1) h _ hf hP)
      · rw [if_neg c9] at hf
        refine G.iload_n dX0_firstWrong_30 rfl ?_
        have hq := Option.some.inj hf
        subst hq
        obtain ⟨hq1, hq2⟩ := hP
        subst hq1
        subst hq2
        exact G.iret rfl rfl dX0_firstWrong_31
theorem l_X0_firstWrong_L2 (X : SX) (d : Nat) (rv : Option Int32) (h' : AH) (n : Nat) : ∀ (v0 : Nat) (v1 : Nat) (v2 : Int32) (h : AH) (o : (Int32 × AH) ⊕ AH), f_X0_firstWrong_L2 n v0 v1 v2 h = some o → PS o rv h' (fun h1 => G X mX0_firstWrong d 38 [] [] h1 rv h') → G X mX0_firstWrong d 2 [(0, .ref v0), (1, .ref v1), (2, .int v2)] [] h rv h' := lx_X0_firstWrong_L2 X d n rv h'
def f_X0_firstWrong (a0 : Nat) (a1 : Nat) (h : AH) : Option (Int32 × AH) := if isO h 0 a0 = true then (bS (f_X0_firstWrong_L2 1000000 a0 a1 (0 : Int32) h) (fun h1 => some ((-1 : Int32), h1))) else none
set_option maxRecDepth 100000 in
set_option maxHeartbeats 4000000 in
theorem c_X0_firstWrong (X : SX) (d : Nat) (a0 : Nat) (a1 : Nat) (h : AH) (rr : Int32) (h' : AH) (hf : f_X0_firstWrong a0 a1 h = some (rr, h')) : isO h 0 a0 = true ∧ G X mX0_firstWrong d 0 [(0, .ref a0), (1, .ref a1)] [] h (some rr) h' := by
  unfold f_X0_firstWrong at hf
  by_cases ho : isO h 0 a0 = true
  · rw [if_pos ho] at hf
    refine ⟨ho, ?_⟩
    refine G.iconst (v := (0 : Int32)) dX0_firstWrong_0 (by decide) ?_
    refine G.istore_n (lv' := [(2, .int (0 : Int32)), (0, .ref a0), (1, .ref a1)]) dX0_firstWrong_1 (by decide) rfl ?_
    obtain ⟨o3, e2, hf⟩ := bS_spec hf
    refine G.pick [1, 2, 0] rfl (l_X0_firstWrong_L2 X d _ _ 1000000 a0 a1 (0 : Int32) h o3 e2 ?_)
    rcases o3 with ⟨x4, h5⟩ | h1
    · cases hf
      exact And.intro rfl rfl
    · replace hf : _ = some _ := hf
      show G _ _ _ _ _ _ _ _ _
      refine G.iconst (v := (-1 : Int32)) dX0_firstWrong_38 (by decide) ?_
      obtain ⟨hq1, hq2⟩ := Prod.mk.inj (Option.some.inj hf)
      subst hq1
      subst hq2
      exact G.iret rfl rfl dX0_firstWrong_39
  · rw [if_neg ho] at hf
    cases hf
/-! X12_judge -/
theorem dX12_judge_0 : decode cX12_judge 0 = .ok (.aload_n 0, 1) := by decide +kernel
theorem dX12_judge_1 : decode cX12_judge 1 = .ok (.getfield 54, 3) := by decide +kernel
theorem dX12_judge_4 : decode cX12_judge 4 = .ok (.aload_n 0, 1) := by decide +kernel
theorem dX12_judge_5 : decode cX12_judge 5 = .ok (.getfield 19, 3) := by decide +kernel
theorem dX12_judge_8 : decode cX12_judge 8 = .ok (.getfield 119, 3) := by decide +kernel
theorem dX12_judge_11 : decode cX12_judge 11 = .ok (.invokevirtual 300, 3) := by decide +kernel
theorem dX12_judge_14 : decode cX12_judge 14 = .ok (.ireturn, 1) := by decide +kernel
def f_X12_judge (a0 : Nat) (h : AH) : Option (Int32 × AH) := if isO h 11 a0 = true then ((gr h 11 a0 6).bind fun r1 => (gr h 11 a0 1).bind fun r2 => (gr h 3 r2 0).bind fun r3 => bT1 (f_X0_firstWrong r1 r3 h) fun x6 h4 => some (x6, h4)) else none
set_option maxRecDepth 100000 in
set_option maxHeartbeats 4000000 in
theorem c_X12_judge (X : SX) (d : Nat) (a0 : Nat) (h : AH) (rr : Int32) (h' : AH) (hf : f_X12_judge a0 h = some (rr, h')) : isO h 11 a0 = true ∧ G X mX12_judge (d + 1) 0 [(0, .ref a0)] [] h (some rr) h' := by
  unfold f_X12_judge at hf
  by_cases ho : isO h 11 a0 = true
  · rw [if_pos ho] at hf
    refine ⟨ho, ?_⟩
    refine G.aload_n dX12_judge_0 rfl ?_
    refine G.getr flX12_54 dX12_judge_1 hf (fun r1 hf => ?_)
    refine G.aload_n dX12_judge_4 rfl ?_
    refine G.getr flX12_19 dX12_judge_5 hf (fun r2 hf => ?_)
    refine G.getr flX12_119 dX12_judge_8 hf (fun r3 hf => ?_)
    obtain ⟨x6, h4, e5, hf⟩ := bT1_spec hf
    refine G.callVi (M' := mX0_firstWrong) (ci := 0) (As := [.ref r3]) (st := []) okX0_firstWrong viX0_firstWrong lkX12_300 rfl rfl rfl (Nat.le_of_ble_eq_true rfl) (Nat.le_of_ble_eq_true rfl) dX12_judge_11 (c_X0_firstWrong X d _ _ _ _ _ e5).1 (c_X0_firstWrong X d _ _ _ _ _ e5).2 ?_
    obtain ⟨hq1, hq2⟩ := Prod.mk.inj (Option.some.inj hf)
    subst hq1
    subst hq2
    exact G.iret rfl rfl dX12_judge_14
  · rw [if_neg ho] at hf
    cases hf
/-! X13_judge -/
theorem dX13_judge_0 : decode cX13_judge 0 = .ok (.iconst 0, 1) := by decide +kernel
theorem dX13_judge_1 : decode cX13_judge 1 = .ok (.istore_n 1, 1) := by decide +kernel
theorem dX13_judge_2 : decode cX13_judge 2 = .ok (.iload_n 1, 1) := by decide +kernel
theorem dX13_judge_3 : decode cX13_judge 3 = .ok (.aload_n 0, 1) := by decide +kernel
theorem dX13_judge_4 : decode cX13_judge 4 = .ok (.getfield 135, 3) := by decide +kernel
theorem dX13_judge_7 : decode cX13_judge 7 = .ok (.if_icmp .ge 40, 3) := by decide +kernel
theorem dX13_judge_10 : decode cX13_judge 10 = .ok (.aload_n 0, 1) := by decide +kernel
theorem dX13_judge_11 : decode cX13_judge 11 = .ok (.getfield 29, 3) := by decide +kernel
theorem dX13_judge_14 : decode cX13_judge 14 = .ok (.bipush 6, 2) := by decide +kernel
theorem dX13_judge_16 : decode cX13_judge 16 = .ok (.aload_n 0, 1) := by decide +kernel
theorem dX13_judge_17 : decode cX13_judge 17 = .ok (.getfield 48, 3) := by decide +kernel
theorem dX13_judge_20 : decode cX13_judge 20 = .ok (.iconst 2, 1) := by decide +kernel
theorem dX13_judge_21 : decode cX13_judge 21 = .ok (.iload_n 1, 1) := by decide +kernel
theorem dX13_judge_22 : decode cX13_judge 22 = .ok (.imul, 1) := by decide +kernel
theorem dX13_judge_23 : decode cX13_judge 23 = .ok (.iaload, 1) := by decide +kernel
theorem dX13_judge_24 : decode cX13_judge 24 = .ok (.iadd, 1) := by decide +kernel
theorem dX13_judge_25 : decode cX13_judge 25 = .ok (.iaload, 1) := by decide +kernel
theorem dX13_judge_26 : decode cX13_judge 26 = .ok (.aload_n 0, 1) := by decide +kernel
theorem dX13_judge_27 : decode cX13_judge 27 = .ok (.getfield 48, 3) := by decide +kernel
theorem dX13_judge_30 : decode cX13_judge 30 = .ok (.iconst 2, 1) := by decide +kernel
theorem dX13_judge_31 : decode cX13_judge 31 = .ok (.iload_n 1, 1) := by decide +kernel
theorem dX13_judge_32 : decode cX13_judge 32 = .ok (.imul, 1) := by decide +kernel
theorem dX13_judge_33 : decode cX13_judge 33 = .ok (.iconst 1, 1) := by decide +kernel
theorem dX13_judge_34 : decode cX13_judge 34 = .ok (.iadd, 1) := by decide +kernel
theorem dX13_judge_35 : decode cX13_judge 35 = .ok (.iaload, 1) := by decide +kernel
theorem dX13_judge_36 : decode cX13_judge 36 = .ok (.if_icmp .eq 5, 3) := by decide +kernel
theorem dX13_judge_39 : decode cX13_judge 39 = .ok (.iload_n 1, 1) := by decide +kernel
theorem dX13_judge_40 : decode cX13_judge 40 = .ok (.ireturn, 1) := by decide +kernel
theorem dX13_judge_41 : decode cX13_judge 41 = .ok (.iinc 1 1, 3) := by decide +kernel
theorem dX13_judge_44 : decode cX13_judge 44 = .ok (.goto (-42), 3) := by decide +kernel
theorem dX13_judge_47 : decode cX13_judge 47 = .ok (.iconst (-1), 1) := by decide +kernel
theorem dX13_judge_48 : decode cX13_judge 48 = .ok (.ireturn, 1) := by decide +kernel
def F_X13_judge_L2 (rec : Nat → Int32 → AH → Option ((Int32 × AH) ⊕ AH)) (v0 : Nat) (v1 : Int32) (h : AH) : Option ((Int32 × AH) ⊕ AH) := (gi h 12 v0 21).bind fun x1 => if x1 ≤ v1 then (some (.inr h)) else ((gr h 12 v0 11).bind fun r3 => (gr h 12 v0 20).bind fun r4 => (ai h 0 r4 ((2 : Int32) * v1)).bind fun x5 => (ai h 0 r3 ((6 : Int32) + x5)).bind fun x6 => (gr h 12 v0 20).bind fun r7 => (ai h 0 r7 (((2 : Int32) * v1) + (1 : Int32))).bind fun x8 => if x6 = x8 then (rec v0 (v1 + 1) h) else (some (.inl (v1, h))))
def f_X13_judge_L2 : Nat → Nat → Int32 → AH → Option ((Int32 × AH) ⊕ AH)
  | 0 => fun _ _ _ => none
  | n + 1 => F_X13_judge_L2 (f_X13_judge_L2 n)
set_option maxRecDepth 100000 in
set_option maxHeartbeats 4000000 in
theorem lx_X13_judge_L2 (X : SX) (d : Nat) : ∀ n (rv : Option Int32) (h' : AH), ∀ (v0 : Nat) (v1 : Int32) (h : AH) (o : (Int32 × AH) ⊕ AH), f_X13_judge_L2 n v0 v1 h = some o → PS o rv h' (fun h1 => G X mX13_judge d 47 [] [] h1 rv h') → G X mX13_judge d 2 [(0, .ref v0), (1, .int v1)] [] h rv h' := by
  intro n
  induction n with
  | zero =>
    intro rv h' v0 v1 h o hf hP
    cases hf
  | succ n ihf =>
    intro rv h' v0 v1 h o hf hP
    replace hf : F_X13_judge_L2 (f_X13_judge_L2 n) v0 v1 h = some o := hf
    unfold F_X13_judge_L2 at hf
    have ih := ihf rv h'
    refine G.iload_n dX13_judge_2 rfl ?_
    refine G.aload_n dX13_judge_3 rfl ?_
    refine G.geti flX13_135 dX13_judge_4 hf (fun x1 hf => ?_)
    refine G.icmp_ge 47 dX13_judge_7 (by decide) (fun c2 => ?_) (fun c2 => ?_)
    · rw [if_pos c2] at hf
      have hq := Option.some.inj hf
      subst hq
      exact G.pick [] rfl hP
    · rw [if_neg c2] at hf
      refine G.aload_n dX13_judge_10 rfl ?_
      refine G.getr flX13_29 dX13_judge_11 hf (fun r3 hf => ?_)
      refine G.bipush (v := (6 : Int32)) dX13_judge_14 (by decide) ?_
      refine G.aload_n dX13_judge_16 rfl ?_
      refine G.getr flX13_48 dX13_judge_17 hf (fun r4 hf => ?_)
      refine G.iconst (v := (2 : Int32)) dX13_judge_20 (by decide) ?_
      refine G.iload_n dX13_judge_21 rfl ?_
      refine G.imul dX13_judge_22 ?_
      refine G.iald dX13_judge_23 hf (fun x5 hf => ?_)
      refine G.iadd dX13_judge_24 ?_
      refine G.iald dX13_judge_25 hf (fun x6 hf => ?_)
      refine G.aload_n dX13_judge_26 rfl ?_
      refine G.getr flX13_48 dX13_judge_27 hf (fun r7 hf => ?_)
      refine G.iconst (v := (2 : Int32)) dX13_judge_30 (by decide) ?_
      refine G.iload_n dX13_judge_31 rfl ?_
      refine G.imul dX13_judge_32 ?_
      refine G.iconst (v := (1 : Int32)) dX13_judge_33 (by decide) ?_
      refine G.iadd dX13_judge_34 ?_
      refine G.iald dX13_judge_35 hf (fun x8 hf => ?_)
      refine G.icmp_eq 41 dX13_judge_36 (by decide) (fun c9 => ?_) (fun c9 => ?_)
      · rw [if_pos c9] at hf
        refine G.iinc (v := (v1 + 1)) (lv' := [(1, .int (v1 + 1)), (0, .ref v0)]) dX13_judge_41 rfl rfl (by decide) rfl ?_
        refine G.goto 2 dX13_judge_44 (by decide) ?_
        exact G.pick [1, 0] rfl (ih v0 (v1 + 1) h _ hf hP)
      · rw [if_neg c9] at hf
        refine G.iload_n dX13_judge_39 rfl ?_
        have hq := Option.some.inj hf
        subst hq
        obtain ⟨hq1, hq2⟩ := hP
        subst hq1
        subst hq2
        exact G.iret rfl rfl dX13_judge_40
theorem l_X13_judge_L2 (X : SX) (d : Nat) (rv : Option Int32) (h' : AH) (n : Nat) : ∀ (v0 : Nat) (v1 : Int32) (h : AH) (o : (Int32 × AH) ⊕ AH), f_X13_judge_L2 n v0 v1 h = some o → PS o rv h' (fun h1 => G X mX13_judge d 47 [] [] h1 rv h') → G X mX13_judge d 2 [(0, .ref v0), (1, .int v1)] [] h rv h' := lx_X13_judge_L2 X d n rv h'
def f_X13_judge (a0 : Nat) (h : AH) : Option (Int32 × AH) := if isO h 12 a0 = true then (bS (f_X13_judge_L2 1000000 a0 (0 : Int32) h) (fun h1 => some ((-1 : Int32), h1))) else none
set_option maxRecDepth 100000 in
set_option maxHeartbeats 4000000 in
theorem c_X13_judge (X : SX) (d : Nat) (a0 : Nat) (h : AH) (rr : Int32) (h' : AH) (hf : f_X13_judge a0 h = some (rr, h')) : isO h 12 a0 = true ∧ G X mX13_judge d 0 [(0, .ref a0)] [] h (some rr) h' := by
  unfold f_X13_judge at hf
  by_cases ho : isO h 12 a0 = true
  · rw [if_pos ho] at hf
    refine ⟨ho, ?_⟩
    refine G.iconst (v := (0 : Int32)) dX13_judge_0 (by decide) ?_
    refine G.istore_n (lv' := [(1, .int (0 : Int32)), (0, .ref a0)]) dX13_judge_1 (by decide) rfl ?_
    obtain ⟨o3, e2, hf⟩ := bS_spec hf
    refine G.pick [1, 0] rfl (l_X13_judge_L2 X d _ _ 1000000 a0 (0 : Int32) h o3 e2 ?_)
    rcases o3 with ⟨x4, h5⟩ | h1
    · cases hf
      exact And.intro rfl rfl
    · replace hf : _ = some _ := hf
      show G _ _ _ _ _ _ _ _ _
      refine G.iconst (v := (-1 : Int32)) dX13_judge_47 (by decide) ?_
      obtain ⟨hq1, hq2⟩ := Prod.mk.inj (Option.some.inj hf)
      subst hq1
      subst hq2
      exact G.iret rfl rfl dX13_judge_48
  · rw [if_neg ho] at hf
    cases hf
/-! X12_tear -/
theorem dX12_tear_0 : decode cX12_tear 0 = .ok (.aload_n 0, 1) := by decide +kernel
theorem dX12_tear_1 : decode cX12_tear 1 = .ok (.getfield 47, 3) := by decide +kernel
theorem dX12_tear_4 : decode cX12_tear 4 = .ok (.getfield 161, 3) := by decide +kernel
theorem dX12_tear_7 : decode cX12_tear 7 = .ok (.aload_n 0, 1) := by decide +kernel
theorem dX12_tear_8 : decode cX12_tear 8 = .ok (.getfield 54, 3) := by decide +kernel
theorem dX12_tear_11 : decode cX12_tear 11 = .ok (.getfield 164, 3) := by decide +kernel
theorem dX12_tear_14 : decode cX12_tear 14 = .ok (.iadd, 1) := by decide +kernel
theorem dX12_tear_15 : decode cX12_tear 15 = .ok (.istore_n 1, 1) := by decide +kernel
theorem dX12_tear_16 : decode cX12_tear 16 = .ok (.aload_n 0, 1) := by decide +kernel
theorem dX12_tear_17 : decode cX12_tear 17 = .ok (.getfield 47, 3) := by decide +kernel
theorem dX12_tear_20 : decode cX12_tear 20 = .ok (.invokevirtual 96, 3) := by decide +kernel
theorem dX12_tear_23 : decode cX12_tear 23 = .ok (.aload_n 0, 1) := by decide +kernel
theorem dX12_tear_24 : decode cX12_tear 24 = .ok (.getfield 54, 3) := by decide +kernel
theorem dX12_tear_27 : decode cX12_tear 27 = .ok (.invokevirtual 99, 3) := by decide +kernel
theorem dX12_tear_30 : decode cX12_tear 30 = .ok (.iload_n 1, 1) := by decide +kernel
theorem dX12_tear_31 : decode cX12_tear 31 = .ok (.ireturn, 1) := by decide +kernel
def f_X12_tear (a0 : Nat) (h : AH) : Option (Int32 × AH) := if isO h 11 a0 = true then ((gr h 11 a0 5).bind fun r1 => (gi h 10 r1 2).bind fun x2 => (gr h 11 a0 6).bind fun r3 => (gi h 0 r3 2).bind fun x4 => (gr h 11 a0 5).bind fun r5 => (f_X11_clear r5 h).bind fun h6 => (gr h6 11 a0 6).bind fun r8 => (f_X0_clear r8 h6).bind fun h9 => some ((x2 + x4), h9)) else none
set_option maxRecDepth 100000 in
set_option maxHeartbeats 4000000 in
theorem c_X12_tear (X : SX) (d : Nat) (a0 : Nat) (h : AH) (rr : Int32) (h' : AH) (hf : f_X12_tear a0 h = some (rr, h')) : isO h 11 a0 = true ∧ G X mX12_tear (d + 1) 0 [(0, .ref a0)] [] h (some rr) h' := by
  unfold f_X12_tear at hf
  by_cases ho : isO h 11 a0 = true
  · rw [if_pos ho] at hf
    refine ⟨ho, ?_⟩
    refine G.aload_n dX12_tear_0 rfl ?_
    refine G.getr flX12_47 dX12_tear_1 hf (fun r1 hf => ?_)
    refine G.geti flX12_161 dX12_tear_4 hf (fun x2 hf => ?_)
    refine G.aload_n dX12_tear_7 rfl ?_
    refine G.getr flX12_54 dX12_tear_8 hf (fun r3 hf => ?_)
    refine G.geti flX12_164 dX12_tear_11 hf (fun x4 hf => ?_)
    refine G.iadd dX12_tear_14 ?_
    refine G.istore_n (lv' := [(1, .int (x2 + x4)), (0, .ref a0)]) dX12_tear_15 (by decide) rfl ?_
    refine G.aload_n dX12_tear_16 rfl ?_
    refine G.getr flX12_47 dX12_tear_17 hf (fun r5 hf => ?_)
    obtain ⟨h6, e7, hf⟩ := Option.bind_eq_some_iff.mp hf
    refine G.callVv (M' := mX11_clear) (ci := 10) (As := []) (st := []) okX11_clear viX11_clear lkX12_96 rfl rfl rfl (Nat.le_of_ble_eq_true rfl) (Nat.le_of_ble_eq_true rfl) dX12_tear_20 (c_X11_clear X d _ _ _ e7).1 (c_X11_clear X d _ _ _ e7).2 ?_
    refine G.aload_n dX12_tear_23 rfl ?_
    refine G.getr flX12_54 dX12_tear_24 hf (fun r8 hf => ?_)
    obtain ⟨h9, e10, hf⟩ := Option.bind_eq_some_iff.mp hf
    refine G.callVv (M' := mX0_clear) (ci := 0) (As := []) (st := []) okX0_clear viX0_clear lkX12_99 rfl rfl rfl (Nat.le_of_ble_eq_true rfl) (Nat.le_of_ble_eq_true rfl) dX12_tear_27 (c_X0_clear X d _ _ _ e10).1 (c_X0_clear X d _ _ _ e10).2 ?_
    refine G.iload_n dX12_tear_30 rfl ?_
    obtain ⟨hq1, hq2⟩ := Prod.mk.inj (Option.some.inj hf)
    subst hq1
    subst hq2
    exact G.iret rfl rfl dX12_tear_31
  · rw [if_neg ho] at hf
    cases hf
/-! X13_tear -/
theorem dX13_tear_0 : decode cX13_tear 0 = .ok (.aload_n 0, 1) := by decide +kernel
theorem dX13_tear_1 : decode cX13_tear 1 = .ok (.getfield 132, 3) := by decide +kernel
theorem dX13_tear_4 : decode cX13_tear 4 = .ok (.aload_n 0, 1) := by decide +kernel
theorem dX13_tear_5 : decode cX13_tear 5 = .ok (.getfield 135, 3) := by decide +kernel
theorem dX13_tear_8 : decode cX13_tear 8 = .ok (.iadd, 1) := by decide +kernel
theorem dX13_tear_9 : decode cX13_tear 9 = .ok (.istore_n 1, 1) := by decide +kernel
theorem dX13_tear_10 : decode cX13_tear 10 = .ok (.aload_n 0, 1) := by decide +kernel
theorem dX13_tear_11 : decode cX13_tear 11 = .ok (.iconst 0, 1) := by decide +kernel
theorem dX13_tear_12 : decode cX13_tear 12 = .ok (.putfield 132, 3) := by decide +kernel
theorem dX13_tear_15 : decode cX13_tear 15 = .ok (.aload_n 0, 1) := by decide +kernel
theorem dX13_tear_16 : decode cX13_tear 16 = .ok (.iconst 0, 1) := by decide +kernel
theorem dX13_tear_17 : decode cX13_tear 17 = .ok (.putfield 135, 3) := by decide +kernel
theorem dX13_tear_20 : decode cX13_tear 20 = .ok (.iload_n 1, 1) := by decide +kernel
theorem dX13_tear_21 : decode cX13_tear 21 = .ok (.ireturn, 1) := by decide +kernel
def f_X13_tear (a0 : Nat) (h : AH) : Option (Int32 × AH) := if isO h 12 a0 = true then ((gi h 12 a0 19).bind fun x1 => (gi h 12 a0 21).bind fun x2 => (pf h 12 a0 19 (.int (0 : Int32))).bind fun h3 => (pf h3 12 a0 21 (.int (0 : Int32))).bind fun h4 => some ((x1 + x2), h4)) else none
set_option maxRecDepth 100000 in
set_option maxHeartbeats 4000000 in
theorem c_X13_tear (X : SX) (d : Nat) (a0 : Nat) (h : AH) (rr : Int32) (h' : AH) (hf : f_X13_tear a0 h = some (rr, h')) : isO h 12 a0 = true ∧ G X mX13_tear d 0 [(0, .ref a0)] [] h (some rr) h' := by
  unfold f_X13_tear at hf
  by_cases ho : isO h 12 a0 = true
  · rw [if_pos ho] at hf
    refine ⟨ho, ?_⟩
    refine G.aload_n dX13_tear_0 rfl ?_
    refine G.geti flX13_132 dX13_tear_1 hf (fun x1 hf => ?_)
    refine G.aload_n dX13_tear_4 rfl ?_
    refine G.geti flX13_135 dX13_tear_5 hf (fun x2 hf => ?_)
    refine G.iadd dX13_tear_8 ?_
    refine G.istore_n (lv' := [(1, .int (x1 + x2)), (0, .ref a0)]) dX13_tear_9 (by decide) rfl ?_
    refine G.aload_n dX13_tear_10 rfl ?_
    refine G.iconst (v := (0 : Int32)) dX13_tear_11 (by decide) ?_
    refine G.put flX13_132 (Or.inl rfl) (fun _ _ => ⟨rfl, rfl⟩) dX13_tear_12 hf (fun h3 hf => ?_)
    refine G.aload_n dX13_tear_15 rfl ?_
    refine G.iconst (v := (0 : Int32)) dX13_tear_16 (by decide) ?_
    refine G.put flX13_135 (Or.inl rfl) (fun _ _ => ⟨rfl, rfl⟩) dX13_tear_17 hf (fun h4 hf => ?_)
    refine G.iload_n dX13_tear_20 rfl ?_
    obtain ⟨hq1, hq2⟩ := Prod.mk.inj (Option.some.inj hf)
    subst hq1
    subst hq2
    exact G.iret rfl rfl dX13_tear_21
  · rw [if_neg ho] at hf
    cases hf
/-! X12_seed -/
theorem dX12_seed_0 : decode cX12_seed 0 = .ok (.iload_n 1, 1) := by decide +kernel
theorem dX12_seed_1 : decode cX12_seed 1 = .ok (.ifCond .ge 6, 3) := by decide +kernel
theorem dX12_seed_4 : decode cX12_seed 4 = .ok (.ldc 72, 2) := by decide +kernel
theorem dX12_seed_6 : decode cX12_seed 6 = .ok (.ireturn, 1) := by decide +kernel
theorem dX12_seed_7 : decode cX12_seed 7 = .ok (.aload_n 0, 1) := by decide +kernel
theorem dX12_seed_8 : decode cX12_seed 8 = .ok (.getfield 304, 3) := by decide +kernel
theorem dX12_seed_11 : decode cX12_seed 11 = .ok (.istore_n 2, 1) := by decide +kernel
theorem dX12_seed_12 : decode cX12_seed 12 = .ok (.aload_n 0, 1) := by decide +kernel
theorem dX12_seed_13 : decode cX12_seed 13 = .ok (.iload_n 1, 1) := by decide +kernel
theorem dX12_seed_14 : decode cX12_seed 14 = .ok (.putfield 304, 3) := by decide +kernel
theorem dX12_seed_17 : decode cX12_seed 17 = .ok (.iload_n 2, 1) := by decide +kernel
theorem dX12_seed_18 : decode cX12_seed 18 = .ok (.ireturn, 1) := by decide +kernel
def f_X12_seed (a0 : Nat) (a1 : Int32) (h : AH) : Option (Int32 × AH) := if isO h 11 a0 = true then (if 0 ≤ a1 then ((gi h 11 a0 9).bind fun x2 => (pf h 11 a0 9 (.int a1)).bind fun h3 => some (x2, h3)) else (some ((-1000000002 : Int32), h))) else none
set_option maxRecDepth 100000 in
set_option maxHeartbeats 4000000 in
theorem c_X12_seed (X : SX) (d : Nat) (a0 : Nat) (a1 : Int32) (h : AH) (rr : Int32) (h' : AH) (hf : f_X12_seed a0 a1 h = some (rr, h')) : isO h 11 a0 = true ∧ G X mX12_seed d 0 [(0, .ref a0), (1, .int a1)] [] h (some rr) h' := by
  unfold f_X12_seed at hf
  by_cases ho : isO h 11 a0 = true
  · rw [if_pos ho] at hf
    refine ⟨ho, ?_⟩
    refine G.iload_n dX12_seed_0 rfl ?_
    refine G.if_ge 7 dX12_seed_1 (by decide) (fun c1 => ?_) (fun c1 => ?_)
    · rw [if_pos c1] at hf
      refine G.aload_n dX12_seed_7 rfl ?_
      refine G.geti flX12_304 dX12_seed_8 hf (fun x2 hf => ?_)
      refine G.istore_n (lv' := [(2, .int x2), (0, .ref a0), (1, .int a1)]) dX12_seed_11 (by decide) rfl ?_
      refine G.aload_n dX12_seed_12 rfl ?_
      refine G.iload_n dX12_seed_13 rfl ?_
      refine G.put flX12_304 (Or.inl rfl) (fun _ _ => ⟨rfl, rfl⟩) dX12_seed_14 hf (fun h3 hf => ?_)
      refine G.iload_n dX12_seed_17 rfl ?_
      obtain ⟨hq1, hq2⟩ := Prod.mk.inj (Option.some.inj hf)
      subst hq1
      subst hq2
      exact G.iret rfl rfl dX12_seed_18
    · rw [if_neg c1] at hf
      refine G.ldc ckX12_72 dX12_seed_4 ?_
      obtain ⟨hq1, hq2⟩ := Prod.mk.inj (Option.some.inj hf)
      subst hq1
      subst hq2
      exact G.iret rfl rfl dX12_seed_6
  · rw [if_neg ho] at hf
    cases hf
/-! X13_seed -/
theorem dX13_seed_0 : decode cX13_seed 0 = .ok (.iload_n 1, 1) := by decide +kernel
theorem dX13_seed_1 : decode cX13_seed 1 = .ok (.ifCond .ge 6, 3) := by decide +kernel
theorem dX13_seed_4 : decode cX13_seed 4 = .ok (.ldc 81, 2) := by decide +kernel
theorem dX13_seed_6 : decode cX13_seed 6 = .ok (.ireturn, 1) := by decide +kernel
theorem dX13_seed_7 : decode cX13_seed 7 = .ok (.aload_n 0, 1) := by decide +kernel
theorem dX13_seed_8 : decode cX13_seed 8 = .ok (.getfield 213, 3) := by decide +kernel
theorem dX13_seed_11 : decode cX13_seed 11 = .ok (.l2i, 1) := by decide +kernel
theorem dX13_seed_12 : decode cX13_seed 12 = .ok (.istore_n 2, 1) := by decide +kernel
theorem dX13_seed_13 : decode cX13_seed 13 = .ok (.aload_n 0, 1) := by decide +kernel
theorem dX13_seed_14 : decode cX13_seed 14 = .ok (.iload_n 1, 1) := by decide +kernel
theorem dX13_seed_15 : decode cX13_seed 15 = .ok (.i2l, 1) := by decide +kernel
theorem dX13_seed_16 : decode cX13_seed 16 = .ok (.putfield 213, 3) := by decide +kernel
theorem dX13_seed_19 : decode cX13_seed 19 = .ok (.iload_n 2, 1) := by decide +kernel
theorem dX13_seed_20 : decode cX13_seed 20 = .ok (.ireturn, 1) := by decide +kernel
def f_X13_seed (a0 : Nat) (a1 : Int32) (h : AH) : Option (Int32 × AH) := if isO h 12 a0 = true then (if 0 ≤ a1 then ((gl h 12 a0 14).bind fun l2 => (pf h 12 a0 14 (.long (Int32.toInt64 a1))).bind fun h3 => some ((Int64.toInt32 l2), h3)) else (some ((-1000000002 : Int32), h))) else none
set_option maxRecDepth 100000 in
set_option maxHeartbeats 4000000 in
theorem c_X13_seed (X : SX) (d : Nat) (a0 : Nat) (a1 : Int32) (h : AH) (rr : Int32) (h' : AH) (hf : f_X13_seed a0 a1 h = some (rr, h')) : isO h 12 a0 = true ∧ G X mX13_seed d 0 [(0, .ref a0), (1, .int a1)] [] h (some rr) h' := by
  unfold f_X13_seed at hf
  by_cases ho : isO h 12 a0 = true
  · rw [if_pos ho] at hf
    refine ⟨ho, ?_⟩
    refine G.iload_n dX13_seed_0 rfl ?_
    refine G.if_ge 7 dX13_seed_1 (by decide) (fun c1 => ?_) (fun c1 => ?_)
    · rw [if_pos c1] at hf
      refine G.aload_n dX13_seed_7 rfl ?_
      refine G.getl flX13_213 dX13_seed_8 hf (fun l2 hf => ?_)
      refine G.l2i dX13_seed_11 ?_
      refine G.istore_n (lv' := [(2, .int (Int64.toInt32 l2)), (0, .ref a0), (1, .int a1)]) dX13_seed_12 (by decide) rfl ?_
      refine G.aload_n dX13_seed_13 rfl ?_
      refine G.iload_n dX13_seed_14 rfl ?_
      refine G.i2l dX13_seed_15 ?_
      refine G.put flX13_213 (Or.inl rfl) (fun _ _ => ⟨rfl, rfl⟩) dX13_seed_16 hf (fun h3 hf => ?_)
      refine G.iload_n dX13_seed_19 rfl ?_
      obtain ⟨hq1, hq2⟩ := Prod.mk.inj (Option.some.inj hf)
      subst hq1
      subst hq2
      exact G.iret rfl rfl dX13_seed_20
    · rw [if_neg c1] at hf
      refine G.ldc ckX13_81 dX13_seed_4 ?_
      obtain ⟨hq1, hq2⟩ := Prod.mk.inj (Option.some.inj hf)
      subst hq1
      subst hq2
      exact G.iret rfl rfl dX13_seed_6
  · rw [if_neg ho] at hf
    cases hf
/-! X12_keep -/
theorem dX12_keep_0 : decode cX12_keep 0 = .ok (.iload_n 1, 1) := by decide +kernel
theorem dX12_keep_1 : decode cX12_keep 1 = .ok (.ifCond .lt 8, 3) := by decide +kernel
theorem dX12_keep_4 : decode cX12_keep 4 = .ok (.iload_n 1, 1) := by decide +kernel
theorem dX12_keep_5 : decode cX12_keep 5 = .ok (.iconst 2, 1) := by decide +kernel
theorem dX12_keep_6 : decode cX12_keep 6 = .ok (.if_icmp .lt 6, 3) := by decide +kernel
theorem dX12_keep_9 : decode cX12_keep 9 = .ok (.ldc 170, 2) := by decide +kernel
theorem dX12_keep_11 : decode cX12_keep 11 = .ok (.ireturn, 1) := by decide +kernel
theorem dX12_keep_12 : decode cX12_keep 12 = .ok (.aload_n 0, 1) := by decide +kernel
theorem dX12_keep_13 : decode cX12_keep 13 = .ok (.getfield 60, 3) := by decide +kernel
theorem dX12_keep_16 : decode cX12_keep 16 = .ok (.iload_n 1, 1) := by decide +kernel
theorem dX12_keep_17 : decode cX12_keep 17 = .ok (.aaload, 1) := by decide +kernel
theorem dX12_keep_18 : decode cX12_keep 18 = .ok (.astore_n 2, 1) := by decide +kernel
theorem dX12_keep_19 : decode cX12_keep 19 = .ok (.aload_n 2, 1) := by decide +kernel
theorem dX12_keep_20 : decode cX12_keep 20 = .ok (.getfield 307, 3) := by decide +kernel
theorem dX12_keep_23 : decode cX12_keep 23 = .ok (.aload_n 0, 1) := by decide +kernel
theorem dX12_keep_24 : decode cX12_keep 24 = .ok (.getfield 19, 3) := by decide +kernel
theorem dX12_keep_27 : decode cX12_keep 27 = .ok (.getfield 119, 3) := by decide +kernel
theorem dX12_keep_30 : decode cX12_keep 30 = .ok (.invokevirtual 310, 3) := by decide +kernel
theorem dX12_keep_33 : decode cX12_keep 33 = .ok (.aload_n 2, 1) := by decide +kernel
theorem dX12_keep_34 : decode cX12_keep 34 = .ok (.aload_n 0, 1) := by decide +kernel
theorem dX12_keep_35 : decode cX12_keep 35 = .ok (.getfield 304, 3) := by decide +kernel
theorem dX12_keep_38 : decode cX12_keep 38 = .ok (.putfield 313, 3) := by decide +kernel
theorem dX12_keep_41 : decode cX12_keep 41 = .ok (.aload_n 2, 1) := by decide +kernel
theorem dX12_keep_42 : decode cX12_keep 42 = .ok (.iconst 1, 1) := by decide +kernel
theorem dX12_keep_43 : decode cX12_keep 43 = .ok (.putfield 100, 3) := by decide +kernel
theorem dX12_keep_46 : decode cX12_keep 46 = .ok (.aload_n 0, 1) := by decide +kernel
theorem dX12_keep_47 : decode cX12_keep 47 = .ok (.getfield 40, 3) := by decide +kernel
theorem dX12_keep_50 : decode cX12_keep 50 = .ok (.invokevirtual 93, 3) := by decide +kernel
theorem dX12_keep_53 : decode cX12_keep 53 = .ok (.iconst 1, 1) := by decide +kernel
theorem dX12_keep_54 : decode cX12_keep 54 = .ok (.ireturn, 1) := by decide +kernel
def f_X12_keep (a0 : Nat) (a1 : Int32) (h : AH) : Option (Int32 × AH) := if isO h 11 a0 = true then (if a1 < 0 then (some ((-1000000001 : Int32), h)) else (if a1 < (2 : Int32) then ((gr h 11 a0 7).bind fun r3 => (ar h 5 r3 a1).bind fun r4 => (gr h 2 r4 0).bind fun r5 => (gr h 11 a0 1).bind fun r6 => (gr h 3 r6 0).bind fun r7 => (f_X4_copyFrom r5 r7 h).bind fun h8 => (gi h8 11 a0 9).bind fun x10 => (pf h8 2 r4 1 (.int x10)).bind fun h11 => (pf h11 2 r4 2 (.int (1 : Int32))).bind fun h12 => (gr h12 11 a0 4).bind fun r13 => (f_X6_forget r13 h12).bind fun h14 => some ((1 : Int32), h14)) else (some ((-1000000001 : Int32), h)))) else none
set_option maxRecDepth 100000 in
set_option maxHeartbeats 4000000 in
theorem c_X12_keep (X : SX) (d : Nat) (a0 : Nat) (a1 : Int32) (h : AH) (rr : Int32) (h' : AH) (hf : f_X12_keep a0 a1 h = some (rr, h')) : isO h 11 a0 = true ∧ G X mX12_keep (d + 2) 0 [(0, .ref a0), (1, .int a1)] [] h (some rr) h' := by
  unfold f_X12_keep at hf
  by_cases ho : isO h 11 a0 = true
  · rw [if_pos ho] at hf
    refine ⟨ho, ?_⟩
    refine G.iload_n dX12_keep_0 rfl ?_
    refine G.if_lt 9 dX12_keep_1 (by decide) (fun c1 => ?_) (fun c1 => ?_)
    · rw [if_pos c1] at hf
      refine G.ldc ckX12_170 dX12_keep_9 ?_
      obtain ⟨hq1, hq2⟩ := Prod.mk.inj (Option.some.inj hf)
      subst hq1
      subst hq2
      exact G.iret rfl rfl dX12_keep_11
    · rw [if_neg c1] at hf
      refine G.iload_n dX12_keep_4 rfl ?_
      refine G.iconst (v := (2 : Int32)) dX12_keep_5 (by decide) ?_
      refine G.icmp_lt 12 dX12_keep_6 (by decide) (fun c2 => ?_) (fun c2 => ?_)
      · rw [if_pos c2] at hf
        refine G.aload_n dX12_keep_12 rfl ?_
        refine G.getr flX12_60 dX12_keep_13 hf (fun r3 hf => ?_)
        refine G.iload_n dX12_keep_16 rfl ?_
        refine G.aald (Or.inr ⟨rfl, rfl⟩) dX12_keep_17 hf (fun r4 hf => ?_)
        refine G.astore_n (lv' := [(2, .ref r4), (0, .ref a0), (1, .int a1)]) dX12_keep_18 (by decide) rfl ?_
        refine G.aload_n dX12_keep_19 rfl ?_
        refine G.getr flX12_307 dX12_keep_20 hf (fun r5 hf => ?_)
        refine G.aload_n dX12_keep_23 rfl ?_
        refine G.getr flX12_19 dX12_keep_24 hf (fun r6 hf => ?_)
        refine G.getr flX12_119 dX12_keep_27 hf (fun r7 hf => ?_)
        obtain ⟨h8, e9, hf⟩ := Option.bind_eq_some_iff.mp hf
        refine G.callVv (M' := mX4_copyFrom) (ci := 4) (As := [.ref r7]) (st := []) okX4_copyFrom viX4_copyFrom lkX12_310 rfl rfl rfl (Nat.le_of_ble_eq_true rfl) (Nat.le_of_ble_eq_true rfl) dX12_keep_30 (c_X4_copyFrom X d _ _ _ _ e9).1 (c_X4_copyFrom X d _ _ _ _ e9).2 ?_
        refine G.aload_n dX12_keep_33 rfl ?_
        refine G.aload_n dX12_keep_34 rfl ?_
        refine G.geti flX12_304 dX12_keep_35 hf (fun x10 hf => ?_)
        refine G.put flX12_313 (Or.inl rfl) (fun _ _ => ⟨rfl, rfl⟩) dX12_keep_38 hf (fun h11 hf => ?_)
        refine G.aload_n dX12_keep_41 rfl ?_
        refine G.iconst (v := (1 : Int32)) dX12_keep_42 (by decide) ?_
        refine G.put flX12_100 (Or.inl rfl) (fun _ _ => ⟨rfl, rfl⟩) dX12_keep_43 hf (fun h12 hf => ?_)
        refine G.aload_n dX12_keep_46 rfl ?_
        refine G.getr flX12_40 dX12_keep_47 hf (fun r13 hf => ?_)
        obtain ⟨h14, e15, hf⟩ := Option.bind_eq_some_iff.mp hf
        refine G.callVv (M' := mX6_forget) (ci := 5) (As := []) (st := []) okX6_forget viX6_forget lkX12_93 rfl rfl rfl (Nat.le_of_ble_eq_true rfl) (Nat.le_of_ble_eq_true rfl) dX12_keep_50 (c_X6_forget X (d + 1) _ _ _ e15).1 (c_X6_forget X (d + 1) _ _ _ e15).2 ?_
        refine G.iconst (v := (1 : Int32)) dX12_keep_53 (by decide) ?_
        obtain ⟨hq1, hq2⟩ := Prod.mk.inj (Option.some.inj hf)
        subst hq1
        subst hq2
        exact G.iret rfl rfl dX12_keep_54
      · rw [if_neg c2] at hf
        refine G.ldc ckX12_170 dX12_keep_9 ?_
        obtain ⟨hq1, hq2⟩ := Prod.mk.inj (Option.some.inj hf)
        subst hq1
        subst hq2
        exact G.iret rfl rfl dX12_keep_11
  · rw [if_neg ho] at hf
    cases hf
/-! X13_keep -/
theorem dX13_keep_0 : decode cX13_keep 0 = .ok (.iload_n 1, 1) := by decide +kernel
theorem dX13_keep_1 : decode cX13_keep 1 = .ok (.ifCond .eq 11, 3) := by decide +kernel
theorem dX13_keep_4 : decode cX13_keep 4 = .ok (.iload_n 1, 1) := by decide +kernel
theorem dX13_keep_5 : decode cX13_keep 5 = .ok (.iconst 1, 1) := by decide +kernel
theorem dX13_keep_6 : decode cX13_keep 6 = .ok (.if_icmp .eq 6, 3) := by decide +kernel
theorem dX13_keep_9 : decode cX13_keep 9 = .ok (.ldc 180, 2) := by decide +kernel
theorem dX13_keep_11 : decode cX13_keep 11 = .ok (.ireturn, 1) := by decide +kernel
theorem dX13_keep_12 : decode cX13_keep 12 = .ok (.iconst 0, 1) := by decide +kernel
theorem dX13_keep_13 : decode cX13_keep 13 = .ok (.istore_n 2, 1) := by decide +kernel
theorem dX13_keep_14 : decode cX13_keep 14 = .ok (.iload_n 2, 1) := by decide +kernel
theorem dX13_keep_15 : decode cX13_keep 15 = .ok (.bipush 51, 2) := by decide +kernel
theorem dX13_keep_17 : decode cX13_keep 17 = .ok (.if_icmp .ge 26, 3) := by decide +kernel
theorem dX13_keep_20 : decode cX13_keep 20 = .ok (.aload_n 0, 1) := by decide +kernel
theorem dX13_keep_21 : decode cX13_keep 21 = .ok (.getfield 35, 3) := by decide +kernel
theorem dX13_keep_24 : decode cX13_keep 24 = .ok (.bipush 51, 2) := by decide +kernel
theorem dX13_keep_26 : decode cX13_keep 26 = .ok (.iload_n 1, 1) := by decide +kernel
theorem dX13_keep_27 : decode cX13_keep 27 = .ok (.imul, 1) := by decide +kernel
theorem dX13_keep_28 : decode cX13_keep 28 = .ok (.iload_n 2, 1) := by decide +kernel
theorem dX13_keep_29 : decode cX13_keep 29 = .ok (.iadd, 1) := by decide +kernel
theorem dX13_keep_30 : decode cX13_keep 30 = .ok (.aload_n 0, 1) := by decide +kernel
theorem dX13_keep_31 : decode cX13_keep 31 = .ok (.getfield 29, 3) := by decide +kernel
theorem dX13_keep_34 : decode cX13_keep 34 = .ok (.iload_n 2, 1) := by decide +kernel
theorem dX13_keep_35 : decode cX13_keep 35 = .ok (.iaload, 1) := by decide +kernel
theorem dX13_keep_36 : decode cX13_keep 36 = .ok (.iastore, 1) := by decide +kernel
theorem dX13_keep_37 : decode cX13_keep 37 = .ok (.iinc 2 1, 3) := by decide +kernel
theorem dX13_keep_40 : decode cX13_keep 40 = .ok (.goto (-26), 3) := by decide +kernel
theorem dX13_keep_43 : decode cX13_keep 43 = .ok (.aload_n 0, 1) := by decide +kernel
theorem dX13_keep_44 : decode cX13_keep 44 = .ok (.getfield 38, 3) := by decide +kernel
theorem dX13_keep_47 : decode cX13_keep 47 = .ok (.iload_n 1, 1) := by decide +kernel
theorem dX13_keep_48 : decode cX13_keep 48 = .ok (.aload_n 0, 1) := by decide +kernel
theorem dX13_keep_49 : decode cX13_keep 49 = .ok (.getfield 213, 3) := by decide +kernel
theorem dX13_keep_52 : decode cX13_keep 52 = .ok (.lastore, 1) := by decide +kernel
theorem dX13_keep_53 : decode cX13_keep 53 = .ok (.aload_n 0, 1) := by decide +kernel
theorem dX13_keep_54 : decode cX13_keep 54 = .ok (.getfield 42, 3) := by decide +kernel
theorem dX13_keep_57 : decode cX13_keep 57 = .ok (.iload_n 1, 1) := by decide +kernel
theorem dX13_keep_58 : decode cX13_keep 58 = .ok (.iconst 1, 1) := by decide +kernel
theorem dX13_keep_59 : decode cX13_keep 59 = .ok (.iastore, 1) := by decide +kernel
theorem dX13_keep_60 : decode cX13_keep 60 = .ok (.aload_n 0, 1) := by decide +kernel
theorem dX13_keep_61 : decode cX13_keep 61 = .ok (.iconst 0, 1) := by decide +kernel
theorem dX13_keep_62 : decode cX13_keep 62 = .ok (.putfield 138, 3) := by decide +kernel
theorem dX13_keep_65 : decode cX13_keep 65 = .ok (.iconst 1, 1) := by decide +kernel
theorem dX13_keep_66 : decode cX13_keep 66 = .ok (.ireturn, 1) := by decide +kernel
def F_X13_keep_L14 (rec : Nat → Int32 → Int32 → AH → Option (AH)) (v0 : Nat) (v1 : Int32) (v2 : Int32) (h : AH) : Option (AH) := if (51 : Int32) ≤ v2 then (some (h)) else ((gr h 12 v0 15).bind fun r2 => (gr h 12 v0 11).bind fun r3 => (ai h 0 r3 v2).bind fun x4 => (aw h 0 r2 (((51 : Int32) * v1) + v2) x4).bind fun h5 => rec v0 v1 (v2 + 1) h5)
def f_X13_keep_L14 : Nat → Nat → Int32 → Int32 → AH → Option (AH)
  | 0 => fun _ _ _ _ => none
  | n + 1 => F_X13_keep_L14 (f_X13_keep_L14 n)
set_option maxRecDepth 100000 in
set_option maxHeartbeats 4000000 in
theorem lx_X13_keep_L14 (X : SX) (d : Nat) : ∀ n (rv : Option Int32) (h' : AH), ∀ (v0 : Nat) (v1 : Int32) (v2 : Int32) (h : AH)  (h1 : AH), f_X13_keep_L14 n v0 v1 v2 h = some (h1) → G X mX13_keep d 43 [(0, .ref v0), (1, .int v1)] [] h1 rv h' → G X mX13_keep d 14 [(0, .ref v0), (1, .int v1), (2, .int v2)] [] h rv h' := by
  intro n
  induction n with
  | zero =>
    intro rv h' v0 v1 v2 h h1 hf hE
    cases hf
  | succ n ihf =>
    intro rv h' v0 v1 v2 h h1 hf hE
    replace hf : F_X13_keep_L14 (f_X13_keep_L14 n) v0 v1 v2 h = some (h1) := hf
    unfold F_X13_keep_L14 at hf
    have ih := ihf rv h'
    refine G.iload_n dX13_keep_14 rfl ?_
    refine G.bipush (v := (51 : Int32)) dX13_keep_15 (by decide) ?_
    refine G.icmp_ge 43 dX13_keep_17 (by decide) (fun c1 => ?_) (fun c1 => ?_)
    · rw [if_pos c1] at hf
      have w0 := Option.some.inj hf
      subst w0
      exact G.pick [0, 1] rfl hE
    · rw [if_neg c1] at hf
      refine G.aload_n dX13_keep_20 rfl ?_
      refine G.getr flX13_35 dX13_keep_21 hf (fun r2 hf => ?_)
      refine G.bipush (v := (51 : Int32)) dX13_keep_24 (by decide) ?_
      refine G.iload_n dX13_keep_26 rfl ?_
      refine G.imul dX13_keep_27 ?_
      refine G.iload_n dX13_keep_28 rfl ?_
      refine G.iadd dX13_keep_29 ?_
      refine G.aload_n dX13_keep_30 rfl ?_
      refine G.getr flX13_29 dX13_keep_31 hf (fun r3 hf => ?_)
      refine G.iload_n dX13_keep_34 rfl ?_
      refine G.iald dX13_keep_35 hf (fun x4 hf => ?_)
      refine G.iast dX13_keep_36 hf (fun h5 hf => ?_)
      refine G.iinc (v := (v2 + 1)) (lv' := [(2, .int (v2 + 1)), (0, .ref v0), (1, .int v1)]) dX13_keep_37 rfl rfl (by decide) rfl ?_
      refine G.goto 14 dX13_keep_40 (by decide) ?_
      exact G.pick [1, 2, 0] rfl (ih v0 v1 (v2 + 1) h5 _ hf hE)
theorem l_X13_keep_L14 (X : SX) (d : Nat) (rv : Option Int32) (h' : AH) (n : Nat) : ∀ (v0 : Nat) (v1 : Int32) (v2 : Int32) (h : AH)  (h1 : AH), f_X13_keep_L14 n v0 v1 v2 h = some (h1) → G X mX13_keep d 43 [(0, .ref v0), (1, .int v1)] [] h1 rv h' → G X mX13_keep d 14 [(0, .ref v0), (1, .int v1), (2, .int v2)] [] h rv h' := lx_X13_keep_L14 X d n rv h'
def f_X13_keep_12 (v0 : Nat) (v1 : Int32) (h : AH) : Option (Int32 × AH) := (f_X13_keep_L14 1000000 v0 v1 (0 : Int32) h).bind fun h1 => (gr h1 12 v0 16).bind fun r3 => (gl h1 12 v0 14).bind fun l4 => (alw h1 3 r3 v1 l4).bind fun h5 => (gr h5 12 v0 17).bind fun r6 => (aw h5 0 r6 v1 (1 : Int32)).bind fun h7 => (pf h7 12 v0 13 (.int (0 : Int32))).bind fun h8 => some ((1 : Int32), h8)
set_option maxRecDepth 100000 in
set_option maxHeartbeats 4000000 in
theorem j_X13_keep_12 (X : SX) (d : Nat) (v0 : Nat) (v1 : Int32) (h : AH) (rr : Int32) (h' : AH) (hf : f_X13_keep_12 v0 v1 h = some (rr, h')) : G X mX13_keep d 12 [(0, .ref v0), (1, .int v1)] [] h (some rr) h' := by
  unfold f_X13_keep_12 at hf
  refine G.iconst (v := (0 : Int32)) dX13_keep_12 (by decide) ?_
  refine G.istore_n (lv' := [(2, .int (0 : Int32)), (0, .ref v0), (1, .int v1)]) dX13_keep_13 (by decide) rfl ?_
  obtain ⟨h1, e2, hf⟩ := Option.bind_eq_some_iff.mp hf
  refine G.pick [1, 2, 0] rfl (l_X13_keep_L14 X d _ _ 1000000 v0 v1 (0 : Int32) h h1 e2 ?_)
  refine G.aload_n dX13_keep_43 rfl ?_
  refine G.getr flX13_38 dX13_keep_44 hf (fun r3 hf => ?_)
  refine G.iload_n dX13_keep_47 rfl ?_
  refine G.aload_n dX13_keep_48 rfl ?_
  refine G.getl flX13_213 dX13_keep_49 hf (fun l4 hf => ?_)
  refine G.last dX13_keep_52 hf (fun h5 hf => ?_)
  refine G.aload_n dX13_keep_53 rfl ?_
  refine G.getr flX13_42 dX13_keep_54 hf (fun r6 hf => ?_)
  refine G.iload_n dX13_keep_57 rfl ?_
  refine G.iconst (v := (1 : Int32)) dX13_keep_58 (by decide) ?_
  refine G.iast dX13_keep_59 hf (fun h7 hf => ?_)
  refine G.aload_n dX13_keep_60 rfl ?_
  refine G.iconst (v := (0 : Int32)) dX13_keep_61 (by decide) ?_
  refine G.put flX13_138 (Or.inl rfl) (fun _ _ => ⟨rfl, rfl⟩) dX13_keep_62 hf (fun h8 hf => ?_)
  refine G.iconst (v := (1 : Int32)) dX13_keep_65 (by decide) ?_
  obtain ⟨hq1, hq2⟩ := Prod.mk.inj (Option.some.inj hf)
  subst hq1
  subst hq2
  exact G.iret rfl rfl dX13_keep_66
def f_X13_keep (a0 : Nat) (a1 : Int32) (h : AH) : Option (Int32 × AH) := if isO h 12 a0 = true then (if a1 = 0 then (f_X13_keep_12 a0 a1 h) else (if a1 = (1 : Int32) then (f_X13_keep_12 a0 a1 h) else (some ((-1000000001 : Int32), h)))) else none
set_option maxRecDepth 100000 in
set_option maxHeartbeats 4000000 in
theorem c_X13_keep (X : SX) (d : Nat) (a0 : Nat) (a1 : Int32) (h : AH) (rr : Int32) (h' : AH) (hf : f_X13_keep a0 a1 h = some (rr, h')) : isO h 12 a0 = true ∧ G X mX13_keep d 0 [(0, .ref a0), (1, .int a1)] [] h (some rr) h' := by
  unfold f_X13_keep at hf
  by_cases ho : isO h 12 a0 = true
  · rw [if_pos ho] at hf
    refine ⟨ho, ?_⟩
    refine G.iload_n dX13_keep_0 rfl ?_
    refine G.if_eq 12 dX13_keep_1 (by decide) (fun c1 => ?_) (fun c1 => ?_)
    · rw [if_pos c1] at hf
      exact G.pick [0, 1] rfl (j_X13_keep_12 X d a0 a1 h _ _ hf)
    · rw [if_neg c1] at hf
      refine G.iload_n dX13_keep_4 rfl ?_
      refine G.iconst (v := (1 : Int32)) dX13_keep_5 (by decide) ?_
      refine G.icmp_eq 12 dX13_keep_6 (by decide) (fun c2 => ?_) (fun c2 => ?_)
      · rw [if_pos c2] at hf
        exact G.pick [0, 1] rfl (j_X13_keep_12 X d a0 a1 h _ _ hf)
      · rw [if_neg c2] at hf
        refine G.ldc ckX13_180 dX13_keep_9 ?_
        obtain ⟨hq1, hq2⟩ := Prod.mk.inj (Option.some.inj hf)
        subst hq1
        subst hq2
        exact G.iret rfl rfl dX13_keep_11
  · rw [if_neg ho] at hf
    cases hf
/-! X12_goBack -/
theorem dX12_goBack_0 : decode cX12_goBack 0 = .ok (.iload_n 1, 1) := by decide +kernel
theorem dX12_goBack_1 : decode cX12_goBack 1 = .ok (.ifCond .lt 8, 3) := by decide +kernel
theorem dX12_goBack_4 : decode cX12_goBack 4 = .ok (.iload_n 1, 1) := by decide +kernel
theorem dX12_goBack_5 : decode cX12_goBack 5 = .ok (.iconst 2, 1) := by decide +kernel
theorem dX12_goBack_6 : decode cX12_goBack 6 = .ok (.if_icmp .lt 6, 3) := by decide +kernel
theorem dX12_goBack_9 : decode cX12_goBack 9 = .ok (.ldc 170, 2) := by decide +kernel
theorem dX12_goBack_11 : decode cX12_goBack 11 = .ok (.ireturn, 1) := by decide +kernel
theorem dX12_goBack_12 : decode cX12_goBack 12 = .ok (.aload_n 0, 1) := by decide +kernel
theorem dX12_goBack_13 : decode cX12_goBack 13 = .ok (.getfield 60, 3) := by decide +kernel
theorem dX12_goBack_16 : decode cX12_goBack 16 = .ok (.iload_n 1, 1) := by decide +kernel
theorem dX12_goBack_17 : decode cX12_goBack 17 = .ok (.aaload, 1) := by decide +kernel
theorem dX12_goBack_18 : decode cX12_goBack 18 = .ok (.astore_n 2, 1) := by decide +kernel
theorem dX12_goBack_19 : decode cX12_goBack 19 = .ok (.aload_n 2, 1) := by decide +kernel
theorem dX12_goBack_20 : decode cX12_goBack 20 = .ok (.getfield 100, 3) := by decide +kernel
theorem dX12_goBack_23 : decode cX12_goBack 23 = .ok (.ifCond .ne 6, 3) := by decide +kernel
theorem dX12_goBack_26 : decode cX12_goBack 26 = .ok (.ldc 222, 2) := by decide +kernel
theorem dX12_goBack_28 : decode cX12_goBack 28 = .ok (.ireturn, 1) := by decide +kernel
theorem dX12_goBack_29 : decode cX12_goBack 29 = .ok (.aload_n 0, 1) := by decide +kernel
theorem dX12_goBack_30 : decode cX12_goBack 30 = .ok (.getfield 19, 3) := by decide +kernel
theorem dX12_goBack_33 : decode cX12_goBack 33 = .ok (.getfield 119, 3) := by decide +kernel
theorem dX12_goBack_36 : decode cX12_goBack 36 = .ok (.aload_n 2, 1) := by decide +kernel
theorem dX12_goBack_37 : decode cX12_goBack 37 = .ok (.getfield 307, 3) := by decide +kernel
theorem dX12_goBack_40 : decode cX12_goBack 40 = .ok (.invokevirtual 310, 3) := by decide +kernel
theorem dX12_goBack_43 : decode cX12_goBack 43 = .ok (.aload_n 0, 1) := by decide +kernel
theorem dX12_goBack_44 : decode cX12_goBack 44 = .ok (.aload_n 2, 1) := by decide +kernel
theorem dX12_goBack_45 : decode cX12_goBack 45 = .ok (.getfield 313, 3) := by decide +kernel
theorem dX12_goBack_48 : decode cX12_goBack 48 = .ok (.putfield 304, 3) := by decide +kernel
theorem dX12_goBack_51 : decode cX12_goBack 51 = .ok (.aload_n 0, 1) := by decide +kernel
theorem dX12_goBack_52 : decode cX12_goBack 52 = .ok (.getfield 40, 3) := by decide +kernel
theorem dX12_goBack_55 : decode cX12_goBack 55 = .ok (.invokevirtual 93, 3) := by decide +kernel
theorem dX12_goBack_58 : decode cX12_goBack 58 = .ok (.iconst 1, 1) := by decide +kernel
theorem dX12_goBack_59 : decode cX12_goBack 59 = .ok (.ireturn, 1) := by decide +kernel
def f_X12_goBack (a0 : Nat) (a1 : Int32) (h : AH) : Option (Int32 × AH) := if isO h 11 a0 = true then (if a1 < 0 then (some ((-1000000001 : Int32), h)) else (if a1 < (2 : Int32) then ((gr h 11 a0 7).bind fun r3 => (ar h 5 r3 a1).bind fun r4 => (gi h 2 r4 2).bind fun x5 => if x5 = 0 then (some ((-1000000003 : Int32), h)) else ((gr h 11 a0 1).bind fun r7 => (gr h 3 r7 0).bind fun r8 => (gr h 2 r4 0).bind fun r9 => (f_X4_copyFrom r8 r9 h).bind fun h10 => (gi h10 2 r4 1).bind fun x12 => (pf h10 11 a0 9 (.int x12)).bind fun h13 => (gr h13 11 a0 4).bind fun r14 => (f_X6_forget r14 h13).bind fun h15 => some ((1 : Int32), h15))) else (some ((-1000000001 : Int32), h)))) else none
set_option maxRecDepth 100000 in
set_option maxHeartbeats 4000000 in
theorem c_X12_goBack (X : SX) (d : Nat) (a0 : Nat) (a1 : Int32) (h : AH) (rr : Int32) (h' : AH) (hf : f_X12_goBack a0 a1 h = some (rr, h')) : isO h 11 a0 = true ∧ G X mX12_goBack (d + 2) 0 [(0, .ref a0), (1, .int a1)] [] h (some rr) h' := by
  unfold f_X12_goBack at hf
  by_cases ho : isO h 11 a0 = true
  · rw [if_pos ho] at hf
    refine ⟨ho, ?_⟩
    refine G.iload_n dX12_goBack_0 rfl ?_
    refine G.if_lt 9 dX12_goBack_1 (by decide) (fun c1 => ?_) (fun c1 => ?_)
    · rw [if_pos c1] at hf
      refine G.ldc ckX12_170 dX12_goBack_9 ?_
      obtain ⟨hq1, hq2⟩ := Prod.mk.inj (Option.some.inj hf)
      subst hq1
      subst hq2
      exact G.iret rfl rfl dX12_goBack_11
    · rw [if_neg c1] at hf
      refine G.iload_n dX12_goBack_4 rfl ?_
      refine G.iconst (v := (2 : Int32)) dX12_goBack_5 (by decide) ?_
      refine G.icmp_lt 12 dX12_goBack_6 (by decide) (fun c2 => ?_) (fun c2 => ?_)
      · rw [if_pos c2] at hf
        refine G.aload_n dX12_goBack_12 rfl ?_
        refine G.getr flX12_60 dX12_goBack_13 hf (fun r3 hf => ?_)
        refine G.iload_n dX12_goBack_16 rfl ?_
        refine G.aald (Or.inr ⟨rfl, rfl⟩) dX12_goBack_17 hf (fun r4 hf => ?_)
        refine G.astore_n (lv' := [(2, .ref r4), (0, .ref a0), (1, .int a1)]) dX12_goBack_18 (by decide) rfl ?_
        refine G.aload_n dX12_goBack_19 rfl ?_
        refine G.geti flX12_100 dX12_goBack_20 hf (fun x5 hf => ?_)
        refine G.if_ne 29 dX12_goBack_23 (by decide) (fun c6 => ?_) (fun c6 => ?_)
        · rw [if_neg c6] at hf
          refine G.aload_n dX12_goBack_29 rfl ?_
          refine G.getr flX12_19 dX12_goBack_30 hf (fun r7 hf => ?_)
          refine G.getr flX12_119 dX12_goBack_33 hf (fun r8 hf => ?_)
          refine G.aload_n dX12_goBack_36 rfl ?_
          refine G.getr flX12_307 dX12_goBack_37 hf (fun r9 hf => ?_)
          obtain ⟨h10, e11, hf⟩ := Option.bind_eq_some_iff.mp hf
          refine G.callVv (M' := mX4_copyFrom) (ci := 4) (As := [.ref r9]) (st := []) okX4_copyFrom viX4_copyFrom lkX12_310 rfl rfl rfl (Nat.le_of_ble_eq_true rfl) (Nat.le_of_ble_eq_true rfl) dX12_goBack_40 (c_X4_copyFrom X d _ _ _ _ e11).1 (c_X4_copyFrom X d _ _ _ _ e11).2 ?_
          refine G.aload_n dX12_goBack_43 rfl ?_
          refine G.aload_n dX12_goBack_44 rfl ?_
          refine G.geti flX12_313 dX12_goBack_45 hf (fun x12 hf => ?_)
          refine G.put flX12_304 (Or.inl rfl) (fun _ _ => ⟨rfl, rfl⟩) dX12_goBack_48 hf (fun h13 hf => ?_)
          refine G.aload_n dX12_goBack_51 rfl ?_
          refine G.getr flX12_40 dX12_goBack_52 hf (fun r14 hf => ?_)
          obtain ⟨h15, e16, hf⟩ := Option.bind_eq_some_iff.mp hf
          refine G.callVv (M' := mX6_forget) (ci := 5) (As := []) (st := []) okX6_forget viX6_forget lkX12_93 rfl rfl rfl (Nat.le_of_ble_eq_true rfl) (Nat.le_of_ble_eq_true rfl) dX12_goBack_55 (c_X6_forget X (d + 1) _ _ _ e16).1 (c_X6_forget X (d + 1) _ _ _ e16).2 ?_
          refine G.iconst (v := (1 : Int32)) dX12_goBack_58 (by decide) ?_
          obtain ⟨hq1, hq2⟩ := Prod.mk.inj (Option.some.inj hf)
          subst hq1
          subst hq2
          exact G.iret rfl rfl dX12_goBack_59
        · rw [if_pos c6] at hf
          refine G.ldc ckX12_222 dX12_goBack_26 ?_
          obtain ⟨hq1, hq2⟩ := Prod.mk.inj (Option.some.inj hf)
          subst hq1
          subst hq2
          exact G.iret rfl rfl dX12_goBack_28
      · rw [if_neg c2] at hf
        refine G.ldc ckX12_170 dX12_goBack_9 ?_
        obtain ⟨hq1, hq2⟩ := Prod.mk.inj (Option.some.inj hf)
        subst hq1
        subst hq2
        exact G.iret rfl rfl dX12_goBack_11
  · rw [if_neg ho] at hf
    cases hf
/-! X13_goBack -/
theorem dX13_goBack_0 : decode cX13_goBack 0 = .ok (.iload_n 1, 1) := by decide +kernel
theorem dX13_goBack_1 : decode cX13_goBack 1 = .ok (.ifCond .eq 11, 3) := by decide +kernel
theorem dX13_goBack_4 : decode cX13_goBack 4 = .ok (.iload_n 1, 1) := by decide +kernel
theorem dX13_goBack_5 : decode cX13_goBack 5 = .ok (.iconst 1, 1) := by decide +kernel
theorem dX13_goBack_6 : decode cX13_goBack 6 = .ok (.if_icmp .eq 6, 3) := by decide +kernel
theorem dX13_goBack_9 : decode cX13_goBack 9 = .ok (.ldc 180, 2) := by decide +kernel
theorem dX13_goBack_11 : decode cX13_goBack 11 = .ok (.ireturn, 1) := by decide +kernel
theorem dX13_goBack_12 : decode cX13_goBack 12 = .ok (.aload_n 0, 1) := by decide +kernel
theorem dX13_goBack_13 : decode cX13_goBack 13 = .ok (.getfield 42, 3) := by decide +kernel
theorem dX13_goBack_16 : decode cX13_goBack 16 = .ok (.iload_n 1, 1) := by decide +kernel
theorem dX13_goBack_17 : decode cX13_goBack 17 = .ok (.iaload, 1) := by decide +kernel
theorem dX13_goBack_18 : decode cX13_goBack 18 = .ok (.ifCond .ne 6, 3) := by decide +kernel
theorem dX13_goBack_21 : decode cX13_goBack 21 = .ok (.ldc 184, 2) := by decide +kernel
theorem dX13_goBack_23 : decode cX13_goBack 23 = .ok (.ireturn, 1) := by decide +kernel
theorem dX13_goBack_24 : decode cX13_goBack 24 = .ok (.iconst 0, 1) := by decide +kernel
theorem dX13_goBack_25 : decode cX13_goBack 25 = .ok (.istore_n 2, 1) := by decide +kernel
theorem dX13_goBack_26 : decode cX13_goBack 26 = .ok (.iload_n 2, 1) := by decide +kernel
theorem dX13_goBack_27 : decode cX13_goBack 27 = .ok (.bipush 51, 2) := by decide +kernel
theorem dX13_goBack_29 : decode cX13_goBack 29 = .ok (.if_icmp .ge 26, 3) := by decide +kernel
theorem dX13_goBack_32 : decode cX13_goBack 32 = .ok (.aload_n 0, 1) := by decide +kernel
theorem dX13_goBack_33 : decode cX13_goBack 33 = .ok (.getfield 29, 3) := by decide +kernel
theorem dX13_goBack_36 : decode cX13_goBack 36 = .ok (.iload_n 2, 1) := by decide +kernel
theorem dX13_goBack_37 : decode cX13_goBack 37 = .ok (.aload_n 0, 1) := by decide +kernel
theorem dX13_goBack_38 : decode cX13_goBack 38 = .ok (.getfield 35, 3) := by decide +kernel
theorem dX13_goBack_41 : decode cX13_goBack 41 = .ok (.bipush 51, 2) := by decide +kernel
theorem dX13_goBack_43 : decode cX13_goBack 43 = .ok (.iload_n 1, 1) := by decide +kernel
theorem dX13_goBack_44 : decode cX13_goBack 44 = .ok (.imul, 1) := by decide +kernel
theorem dX13_goBack_45 : decode cX13_goBack 45 = .ok (.iload_n 2, 1) := by decide +kernel
theorem dX13_goBack_46 : decode cX13_goBack 46 = .ok (.iadd, 1) := by decide +kernel
theorem dX13_goBack_47 : decode cX13_goBack 47 = .ok (.iaload, 1) := by decide +kernel
theorem dX13_goBack_48 : decode cX13_goBack 48 = .ok (.iastore, 1) := by decide +kernel
theorem dX13_goBack_49 : decode cX13_goBack 49 = .ok (.iinc 2 1, 3) := by decide +kernel
theorem dX13_goBack_52 : decode cX13_goBack 52 = .ok (.goto (-26), 3) := by decide +kernel
theorem dX13_goBack_55 : decode cX13_goBack 55 = .ok (.aload_n 0, 1) := by decide +kernel
theorem dX13_goBack_56 : decode cX13_goBack 56 = .ok (.aload_n 0, 1) := by decide +kernel
theorem dX13_goBack_57 : decode cX13_goBack 57 = .ok (.getfield 38, 3) := by decide +kernel
theorem dX13_goBack_60 : decode cX13_goBack 60 = .ok (.iload_n 1, 1) := by decide +kernel
theorem dX13_goBack_61 : decode cX13_goBack 61 = .ok (.laload, 1) := by decide +kernel
theorem dX13_goBack_62 : decode cX13_goBack 62 = .ok (.putfield 213, 3) := by decide +kernel
theorem dX13_goBack_65 : decode cX13_goBack 65 = .ok (.aload_n 0, 1) := by decide +kernel
theorem dX13_goBack_66 : decode cX13_goBack 66 = .ok (.iconst 0, 1) := by decide +kernel
theorem dX13_goBack_67 : decode cX13_goBack 67 = .ok (.putfield 138, 3) := by decide +kernel
theorem dX13_goBack_70 : decode cX13_goBack 70 = .ok (.iconst 1, 1) := by decide +kernel
theorem dX13_goBack_71 : decode cX13_goBack 71 = .ok (.ireturn, 1) := by decide +kernel
def F_X13_goBack_L26 (rec : Nat → Int32 → Int32 → AH → Option (AH)) (v0 : Nat) (v1 : Int32) (v2 : Int32) (h : AH) : Option (AH) := if (51 : Int32) ≤ v2 then (some (h)) else ((gr h 12 v0 11).bind fun r2 => (gr h 12 v0 15).bind fun r3 => (ai h 0 r3 (((51 : Int32) * v1) + v2)).bind fun x4 => (aw h 0 r2 v2 x4).bind fun h5 => rec v0 v1 (v2 + 1) h5)
def f_X13_goBack_L26 : Nat → Nat → Int32 → Int32 → AH → Option (AH)
  | 0 => fun _ _ _ _ => none
  | n + 1 => F_X13_goBack_L26 (f_X13_goBack_L26 n)
set_option maxRecDepth 100000 in
set_option maxHeartbeats 4000000 in
theorem lx_X13_goBack_L26 (X : SX) (d : Nat) : ∀ n (rv : Option Int32) (h' : AH), ∀ (v0 : Nat) (v1 : Int32) (v2 : Int32) (h : AH)  (h1 : AH), f_X13_goBack_L26 n v0 v1 v2 h = some (h1) → G X mX13_goBack d 55 [(0, .ref v0), (1, .int v1)] [] h1 rv h' → G X mX13_goBack d 26 [(0, .ref v0), (1, .int v1), (2, .int v2)] [] h rv h' := by
  intro n
  induction n with
  | zero =>
    intro rv h' v0 v1 v2 h h1 hf hE
    cases hf
  | succ n ihf =>
    intro rv h' v0 v1 v2 h h1 hf hE
    replace hf : F_X13_goBack_L26 (f_X13_goBack_L26 n) v0 v1 v2 h = some (h1) := hf
    unfold F_X13_goBack_L26 at hf
    have ih := ihf rv h'
    refine G.iload_n dX13_goBack_26 rfl ?_
    refine G.bipush (v := (51 : Int32)) dX13_goBack_27 (by decide) ?_
    refine G.icmp_ge 55 dX13_goBack_29 (by decide) (fun c1 => ?_) (fun c1 => ?_)
    · rw [if_pos c1] at hf
      have w0 := Option.some.inj hf
      subst w0
      exact G.pick [0, 1] rfl hE
    · rw [if_neg c1] at hf
      refine G.aload_n dX13_goBack_32 rfl ?_
      refine G.getr flX13_29 dX13_goBack_33 hf (fun r2 hf => ?_)
      refine G.iload_n dX13_goBack_36 rfl ?_
      refine G.aload_n dX13_goBack_37 rfl ?_
      refine G.getr flX13_35 dX13_goBack_38 hf (fun r3 hf => ?_)
      refine G.bipush (v := (51 : Int32)) dX13_goBack_41 (by decide) ?_
      refine G.iload_n dX13_goBack_43 rfl ?_
      refine G.imul dX13_goBack_44 ?_
      refine G.iload_n dX13_goBack_45 rfl ?_
      refine G.iadd dX13_goBack_46 ?_
      refine G.iald dX13_goBack_47 hf (fun x4 hf => ?_)
      refine G.iast dX13_goBack_48 hf (fun h5 hf => ?_)
      refine G.iinc (v := (v2 + 1)) (lv' := [(2, .int (v2 + 1)), (0, .ref v0), (1, .int v1)]) dX13_goBack_49 rfl rfl (by decide) rfl ?_
      refine G.goto 26 dX13_goBack_52 (by decide) ?_
      exact G.pick [1, 2, 0] rfl (ih v0 v1 (v2 + 1) h5 _ hf hE)
theorem l_X13_goBack_L26 (X : SX) (d : Nat) (rv : Option Int32) (h' : AH) (n : Nat) : ∀ (v0 : Nat) (v1 : Int32) (v2 : Int32) (h : AH)  (h1 : AH), f_X13_goBack_L26 n v0 v1 v2 h = some (h1) → G X mX13_goBack d 55 [(0, .ref v0), (1, .int v1)] [] h1 rv h' → G X mX13_goBack d 26 [(0, .ref v0), (1, .int v1), (2, .int v2)] [] h rv h' := lx_X13_goBack_L26 X d n rv h'
def f_X13_goBack_12 (v0 : Nat) (v1 : Int32) (h : AH) : Option (Int32 × AH) := (gr h 12 v0 17).bind fun r1 => (ai h 0 r1 v1).bind fun x2 => if x2 = 0 then (some ((-1000000003 : Int32), h)) else ((f_X13_goBack_L26 1000000 v0 v1 (0 : Int32) h).bind fun h4 => (gr h4 12 v0 16).bind fun r6 => (al h4 3 r6 v1).bind fun l7 => (pf h4 12 v0 14 (.long l7)).bind fun h8 => (pf h8 12 v0 13 (.int (0 : Int32))).bind fun h9 => some ((1 : Int32), h9))
set_option maxRecDepth 100000 in
set_option maxHeartbeats 4000000 in
theorem j_X13_goBack_12 (X : SX) (d : Nat) (v0 : Nat) (v1 : Int32) (h : AH) (rr : Int32) (h' : AH) (hf : f_X13_goBack_12 v0 v1 h = some (rr, h')) : G X mX13_goBack d 12 [(0, .ref v0), (1, .int v1)] [] h (some rr) h' := by
  unfold f_X13_goBack_12 at hf
  refine G.aload_n dX13_goBack_12 rfl ?_
  refine G.getr flX13_42 dX13_goBack_13 hf (fun r1 hf => ?_)
  refine G.iload_n dX13_goBack_16 rfl ?_
  refine G.iald dX13_goBack_17 hf (fun x2 hf => ?_)
  refine G.if_ne 24 dX13_goBack_18 (by decide) (fun c3 => ?_) (fun c3 => ?_)
  · rw [if_neg c3] at hf
    refine G.iconst (v := (0 : Int32)) dX13_goBack_24 (by decide) ?_
    refine G.istore_n (lv' := [(2, .int (0 : Int32)), (0, .ref v0), (1, .int v1)]) dX13_goBack_25 (by decide) rfl ?_
    obtain ⟨h4, e5, hf⟩ := Option.bind_eq_some_iff.mp hf
    refine G.pick [1, 2, 0] rfl (l_X13_goBack_L26 X d _ _ 1000000 v0 v1 (0 : Int32) h h4 e5 ?_)
    refine G.aload_n dX13_goBack_55 rfl ?_
    refine G.aload_n dX13_goBack_56 rfl ?_
    refine G.getr flX13_38 dX13_goBack_57 hf (fun r6 hf => ?_)
    refine G.iload_n dX13_goBack_60 rfl ?_
    refine G.lald dX13_goBack_61 hf (fun l7 hf => ?_)
    refine G.put flX13_213 (Or.inl rfl) (fun _ _ => ⟨rfl, rfl⟩) dX13_goBack_62 hf (fun h8 hf => ?_)
    refine G.aload_n dX13_goBack_65 rfl ?_
    refine G.iconst (v := (0 : Int32)) dX13_goBack_66 (by decide) ?_
    refine G.put flX13_138 (Or.inl rfl) (fun _ _ => ⟨rfl, rfl⟩) dX13_goBack_67 hf (fun h9 hf => ?_)
    refine G.iconst (v := (1 : Int32)) dX13_goBack_70 (by decide) ?_
    obtain ⟨hq1, hq2⟩ := Prod.mk.inj (Option.some.inj hf)
    subst hq1
    subst hq2
    exact G.iret rfl rfl dX13_goBack_71
  · rw [if_pos c3] at hf
    refine G.ldc ckX13_184 dX13_goBack_21 ?_
    obtain ⟨hq1, hq2⟩ := Prod.mk.inj (Option.some.inj hf)
    subst hq1
    subst hq2
    exact G.iret rfl rfl dX13_goBack_23
def f_X13_goBack (a0 : Nat) (a1 : Int32) (h : AH) : Option (Int32 × AH) := if isO h 12 a0 = true then (if a1 = 0 then (f_X13_goBack_12 a0 a1 h) else (if a1 = (1 : Int32) then (f_X13_goBack_12 a0 a1 h) else (some ((-1000000001 : Int32), h)))) else none
set_option maxRecDepth 100000 in
set_option maxHeartbeats 4000000 in
theorem c_X13_goBack (X : SX) (d : Nat) (a0 : Nat) (a1 : Int32) (h : AH) (rr : Int32) (h' : AH) (hf : f_X13_goBack a0 a1 h = some (rr, h')) : isO h 12 a0 = true ∧ G X mX13_goBack d 0 [(0, .ref a0), (1, .int a1)] [] h (some rr) h' := by
  unfold f_X13_goBack at hf
  by_cases ho : isO h 12 a0 = true
  · rw [if_pos ho] at hf
    refine ⟨ho, ?_⟩
    refine G.iload_n dX13_goBack_0 rfl ?_
    refine G.if_eq 12 dX13_goBack_1 (by decide) (fun c1 => ?_) (fun c1 => ?_)
    · rw [if_pos c1] at hf
      exact G.pick [0, 1] rfl (j_X13_goBack_12 X d a0 a1 h _ _ hf)
    · rw [if_neg c1] at hf
      refine G.iload_n dX13_goBack_4 rfl ?_
      refine G.iconst (v := (1 : Int32)) dX13_goBack_5 (by decide) ?_
      refine G.icmp_eq 12 dX13_goBack_6 (by decide) (fun c2 => ?_) (fun c2 => ?_)
      · rw [if_pos c2] at hf
        exact G.pick [0, 1] rfl (j_X13_goBack_12 X d a0 a1 h _ _ hf)
      · rw [if_neg c2] at hf
        refine G.ldc ckX13_180 dX13_goBack_9 ?_
        obtain ⟨hq1, hq2⟩ := Prod.mk.inj (Option.some.inj hf)
        subst hq1
        subst hq2
        exact G.iret rfl rfl dX13_goBack_11
  · rw [if_neg ho] at hf
    cases hf
/-! L_law -/
theorem dL_law_0 : decode cL_law 0 = .ok (.new 7, 3) := by decide +kernel
theorem dL_law_3 : decode cL_law 3 = .ok (.dup, 1) := by decide +kernel
theorem dL_law_4 : decode cL_law 4 = .ok (.invokespecial 9, 3) := by decide +kernel
theorem dL_law_7 : decode cL_law 7 = .ok (.astore_n 1, 1) := by decide +kernel
theorem dL_law_8 : decode cL_law 8 = .ok (.new 10, 3) := by decide +kernel
theorem dL_law_11 : decode cL_law 11 = .ok (.dup, 1) := by decide +kernel
theorem dL_law_12 : decode cL_law 12 = .ok (.invokespecial 12, 3) := by decide +kernel
theorem dL_law_15 : decode cL_law 15 = .ok (.astore_n 2, 1) := by decide +kernel
theorem dL_law_16 : decode cL_law 16 = .ok (.iconst 0, 1) := by decide +kernel
theorem dL_law_17 : decode cL_law 17 = .ok (.istore_n 3, 1) := by decide +kernel
theorem dL_law_18 : decode cL_law 18 = .ok (.iload_n 3, 1) := by decide +kernel
theorem dL_law_19 : decode cL_law 19 = .ok (.aload_n 0, 1) := by decide +kernel
theorem dL_law_20 : decode cL_law 20 = .ok (.arraylength, 1) := by decide +kernel
theorem dL_law_21 : decode cL_law 21 = .ok (.iconst 3, 1) := by decide +kernel
theorem dL_law_22 : decode cL_law 22 = .ok (.isub, 1) := by decide +kernel
theorem dL_law_23 : decode cL_law 23 = .ok (.if_icmp .gt 836, 3) := by decide +kernel
theorem dL_law_26 : decode cL_law 26 = .ok (.aload_n 0, 1) := by decide +kernel
theorem dL_law_27 : decode cL_law 27 = .ok (.iload_n 3, 1) := by decide +kernel
theorem dL_law_28 : decode cL_law 28 = .ok (.iaload, 1) := by decide +kernel
theorem dL_law_29 : decode cL_law 29 = .ok (.bipush 31, 2) := by decide +kernel
theorem dL_law_31 : decode cL_law 31 = .ok (.iand, 1) := by decide +kernel
theorem dL_law_32 : decode cL_law 32 = .ok (.tableswitch 821 0 26 #[124, 147, 160, 173, 196, 229, 262, 295, 328, 361, 384, 407, 430, 463, 496, 529, 552, 585, 618, 667, 680, 693, 726, 739, 752, 775, 798], 124) := by decide +kernel
theorem dL_law_156 : decode cL_law 156 = .ok (.aload_n 1, 1) := by decide +kernel
theorem dL_law_157 : decode cL_law 157 = .ok (.aload_n 0, 1) := by decide +kernel
theorem dL_law_158 : decode cL_law 158 = .ok (.iload_n 3, 1) := by decide +kernel
theorem dL_law_159 : decode cL_law 159 = .ok (.iconst 1, 1) := by decide +kernel
theorem dL_law_160 : decode cL_law 160 = .ok (.iadd, 1) := by decide +kernel
theorem dL_law_161 : decode cL_law 161 = .ok (.iaload, 1) := by decide +kernel
theorem dL_law_162 : decode cL_law 162 = .ok (.invokevirtual 13, 3) := by decide +kernel
theorem dL_law_165 : decode cL_law 165 = .ok (.aload_n 2, 1) := by decide +kernel
theorem dL_law_166 : decode cL_law 166 = .ok (.aload_n 0, 1) := by decide +kernel
theorem dL_law_167 : decode cL_law 167 = .ok (.iload_n 3, 1) := by decide +kernel
theorem dL_law_168 : decode cL_law 168 = .ok (.iconst 1, 1) := by decide +kernel
theorem dL_law_169 : decode cL_law 169 = .ok (.iadd, 1) := by decide +kernel
theorem dL_law_170 : decode cL_law 170 = .ok (.iaload, 1) := by decide +kernel
theorem dL_law_171 : decode cL_law 171 = .ok (.invokevirtual 17, 3) := by decide +kernel
theorem dL_law_174 : decode cL_law 174 = .ok (.if_icmp .eq 679, 3) := by decide +kernel
theorem dL_law_177 : decode cL_law 177 = .ok (.iconst 0, 1) := by decide +kernel
theorem dL_law_178 : decode cL_law 178 = .ok (.ireturn, 1) := by decide +kernel
theorem dL_law_179 : decode cL_law 179 = .ok (.aload_n 1, 1) := by decide +kernel
theorem dL_law_180 : decode cL_law 180 = .ok (.invokevirtual 18, 3) := by decide +kernel
theorem dL_law_183 : decode cL_law 183 = .ok (.aload_n 2, 1) := by decide +kernel
theorem dL_law_184 : decode cL_law 184 = .ok (.invokevirtual 22, 3) := by decide +kernel
theorem dL_law_187 : decode cL_law 187 = .ok (.if_icmp .eq 666, 3) := by decide +kernel
theorem dL_law_190 : decode cL_law 190 = .ok (.iconst 0, 1) := by decide +kernel
theorem dL_law_191 : decode cL_law 191 = .ok (.ireturn, 1) := by decide +kernel
theorem dL_law_192 : decode cL_law 192 = .ok (.aload_n 1, 1) := by decide +kernel
theorem dL_law_193 : decode cL_law 193 = .ok (.invokevirtual 23, 3) := by decide +kernel
theorem dL_law_196 : decode cL_law 196 = .ok (.aload_n 2, 1) := by decide +kernel
theorem dL_law_197 : decode cL_law 197 = .ok (.invokevirtual 26, 3) := by decide +kernel
theorem dL_law_200 : decode cL_law 200 = .ok (.if_icmp .eq 653, 3) := by decide +kernel
theorem dL_law_203 : decode cL_law 203 = .ok (.iconst 0, 1) := by decide +kernel
theorem dL_law_204 : decode cL_law 204 = .ok (.ireturn, 1) := by decide +kernel
theorem dL_law_205 : decode cL_law 205 = .ok (.aload_n 1, 1) := by decide +kernel
theorem dL_law_206 : decode cL_law 206 = .ok (.aload_n 0, 1) := by decide +kernel
theorem dL_law_207 : decode cL_law 207 = .ok (.iload_n 3, 1) := by decide +kernel
theorem dL_law_208 : decode cL_law 208 = .ok (.iconst 1, 1) := by decide +kernel
theorem dL_law_209 : decode cL_law 209 = .ok (.iadd, 1) := by decide +kernel
theorem dL_law_210 : decode cL_law 210 = .ok (.iaload, 1) := by decide +kernel
theorem dL_law_211 : decode cL_law 211 = .ok (.invokevirtual 27, 3) := by decide +kernel
theorem dL_law_214 : decode cL_law 214 = .ok (.aload_n 2, 1) := by decide +kernel
theorem dL_law_215 : decode cL_law 215 = .ok (.aload_n 0, 1) := by decide +kernel
theorem dL_law_216 : decode cL_law 216 = .ok (.iload_n 3, 1) := by decide +kernel
theorem dL_law_217 : decode cL_law 217 = .ok (.iconst 1, 1) := by decide +kernel
theorem dL_law_218 : decode cL_law 218 = .ok (.iadd, 1) := by decide +kernel
theorem dL_law_219 : decode cL_law 219 = .ok (.iaload, 1) := by decide +kernel
theorem dL_law_220 : decode cL_law 220 = .ok (.invokevirtual 30, 3) := by decide +kernel
theorem dL_law_223 : decode cL_law 223 = .ok (.if_icmp .eq 630, 3) := by decide +kernel
theorem dL_law_226 : decode cL_law 226 = .ok (.iconst 0, 1) := by decide +kernel
theorem dL_law_227 : decode cL_law 227 = .ok (.ireturn, 1) := by decide +kernel
theorem dL_law_228 : decode cL_law 228 = .ok (.aload_n 1, 1) := by decide +kernel
theorem dL_law_229 : decode cL_law 229 = .ok (.aload_n 0, 1) := by decide +kernel
theorem dL_law_230 : decode cL_law 230 = .ok (.iload_n 3, 1) := by decide +kernel
theorem dL_law_231 : decode cL_law 231 = .ok (.iconst 1, 1) := by decide +kernel
theorem dL_law_232 : decode cL_law 232 = .ok (.iadd, 1) := by decide +kernel
theorem dL_law_233 : decode cL_law 233 = .ok (.iaload, 1) := by decide +kernel
theorem dL_law_234 : decode cL_law 234 = .ok (.aload_n 0, 1) := by decide +kernel
theorem dL_law_235 : decode cL_law 235 = .ok (.iload_n 3, 1) := by decide +kernel
theorem dL_law_236 : decode cL_law 236 = .ok (.iconst 2, 1) := by decide +kernel
theorem dL_law_237 : decode cL_law 237 = .ok (.iadd, 1) := by decide +kernel
theorem dL_law_238 : decode cL_law 238 = .ok (.iaload, 1) := by decide +kernel
theorem dL_law_239 : decode cL_law 239 = .ok (.invokevirtual 31, 3) := by decide +kernel
theorem dL_law_242 : decode cL_law 242 = .ok (.aload_n 2, 1) := by decide +kernel
theorem dL_law_243 : decode cL_law 243 = .ok (.aload_n 0, 1) := by decide +kernel
theorem dL_law_244 : decode cL_law 244 = .ok (.iload_n 3, 1) := by decide +kernel
theorem dL_law_245 : decode cL_law 245 = .ok (.iconst 1, 1) := by decide +kernel
theorem dL_law_246 : decode cL_law 246 = .ok (.iadd, 1) := by decide +kernel
theorem dL_law_247 : decode cL_law 247 = .ok (.iaload, 1) := by decide +kernel
theorem dL_law_248 : decode cL_law 248 = .ok (.aload_n 0, 1) := by decide +kernel
theorem dL_law_249 : decode cL_law 249 = .ok (.iload_n 3, 1) := by decide +kernel
theorem dL_law_250 : decode cL_law 250 = .ok (.iconst 2, 1) := by decide +kernel
theorem dL_law_251 : decode cL_law 251 = .ok (.iadd, 1) := by decide +kernel
theorem dL_law_252 : decode cL_law 252 = .ok (.iaload, 1) := by decide +kernel
theorem dL_law_253 : decode cL_law 253 = .ok (.invokevirtual 35, 3) := by decide +kernel
theorem dL_law_256 : decode cL_law 256 = .ok (.if_icmp .eq 597, 3) := by decide +kernel
theorem dL_law_259 : decode cL_law 259 = .ok (.iconst 0, 1) := by decide +kernel
theorem dL_law_260 : decode cL_law 260 = .ok (.ireturn, 1) := by decide +kernel
theorem dL_law_261 : decode cL_law 261 = .ok (.aload_n 1, 1) := by decide +kernel
theorem dL_law_262 : decode cL_law 262 = .ok (.aload_n 0, 1) := by decide +kernel
theorem dL_law_263 : decode cL_law 263 = .ok (.iload_n 3, 1) := by decide +kernel
theorem dL_law_264 : decode cL_law 264 = .ok (.iconst 1, 1) := by decide +kernel
theorem dL_law_265 : decode cL_law 265 = .ok (.iadd, 1) := by decide +kernel
theorem dL_law_266 : decode cL_law 266 = .ok (.iaload, 1) := by decide +kernel
theorem dL_law_267 : decode cL_law 267 = .ok (.aload_n 0, 1) := by decide +kernel
theorem dL_law_268 : decode cL_law 268 = .ok (.iload_n 3, 1) := by decide +kernel
theorem dL_law_269 : decode cL_law 269 = .ok (.iconst 2, 1) := by decide +kernel
theorem dL_law_270 : decode cL_law 270 = .ok (.iadd, 1) := by decide +kernel
theorem dL_law_271 : decode cL_law 271 = .ok (.iaload, 1) := by decide +kernel
theorem dL_law_272 : decode cL_law 272 = .ok (.invokevirtual 36, 3) := by decide +kernel
theorem dL_law_275 : decode cL_law 275 = .ok (.aload_n 2, 1) := by decide +kernel
theorem dL_law_276 : decode cL_law 276 = .ok (.aload_n 0, 1) := by decide +kernel
theorem dL_law_277 : decode cL_law 277 = .ok (.iload_n 3, 1) := by decide +kernel
theorem dL_law_278 : decode cL_law 278 = .ok (.iconst 1, 1) := by decide +kernel
theorem dL_law_279 : decode cL_law 279 = .ok (.iadd, 1) := by decide +kernel
theorem dL_law_280 : decode cL_law 280 = .ok (.iaload, 1) := by decide +kernel
theorem dL_law_281 : decode cL_law 281 = .ok (.aload_n 0, 1) := by decide +kernel
theorem dL_law_282 : decode cL_law 282 = .ok (.iload_n 3, 1) := by decide +kernel
theorem dL_law_283 : decode cL_law 283 = .ok (.iconst 2, 1) := by decide +kernel
theorem dL_law_284 : decode cL_law 284 = .ok (.iadd, 1) := by decide +kernel
theorem dL_law_285 : decode cL_law 285 = .ok (.iaload, 1) := by decide +kernel
theorem dL_law_286 : decode cL_law 286 = .ok (.invokevirtual 39, 3) := by decide +kernel
theorem dL_law_289 : decode cL_law 289 = .ok (.if_icmp .eq 564, 3) := by decide +kernel
theorem dL_law_292 : decode cL_law 292 = .ok (.iconst 0, 1) := by decide +kernel
theorem dL_law_293 : decode cL_law 293 = .ok (.ireturn, 1) := by decide +kernel
theorem dL_law_294 : decode cL_law 294 = .ok (.aload_n 1, 1) := by decide +kernel
theorem dL_law_295 : decode cL_law 295 = .ok (.aload_n 0, 1) := by decide +kernel
theorem dL_law_296 : decode cL_law 296 = .ok (.iload_n 3, 1) := by decide +kernel
theorem dL_law_297 : decode cL_law 297 = .ok (.iconst 1, 1) := by decide +kernel
theorem dL_law_298 : decode cL_law 298 = .ok (.iadd, 1) := by decide +kernel
theorem dL_law_299 : decode cL_law 299 = .ok (.iaload, 1) := by decide +kernel
theorem dL_law_300 : decode cL_law 300 = .ok (.aload_n 0, 1) := by decide +kernel
theorem dL_law_301 : decode cL_law 301 = .ok (.iload_n 3, 1) := by decide +kernel
theorem dL_law_302 : decode cL_law 302 = .ok (.iconst 2, 1) := by decide +kernel
theorem dL_law_303 : decode cL_law 303 = .ok (.iadd, 1) := by decide +kernel
theorem dL_law_304 : decode cL_law 304 = .ok (.iaload, 1) := by decide +kernel
theorem dL_law_305 : decode cL_law 305 = .ok (.invokevirtual 40, 3) := by decide +kernel
theorem dL_law_308 : decode cL_law 308 = .ok (.aload_n 2, 1) := by decide +kernel
theorem dL_law_309 : decode cL_law 309 = .ok (.aload_n 0, 1) := by decide +kernel
theorem dL_law_310 : decode cL_law 310 = .ok (.iload_n 3, 1) := by decide +kernel
theorem dL_law_311 : decode cL_law 311 = .ok (.iconst 1, 1) := by decide +kernel
theorem dL_law_312 : decode cL_law 312 = .ok (.iadd, 1) := by decide +kernel
theorem dL_law_313 : decode cL_law 313 = .ok (.iaload, 1) := by decide +kernel
theorem dL_law_314 : decode cL_law 314 = .ok (.aload_n 0, 1) := by decide +kernel
theorem dL_law_315 : decode cL_law 315 = .ok (.iload_n 3, 1) := by decide +kernel
theorem dL_law_316 : decode cL_law 316 = .ok (.iconst 2, 1) := by decide +kernel
theorem dL_law_317 : decode cL_law 317 = .ok (.iadd, 1) := by decide +kernel
theorem dL_law_318 : decode cL_law 318 = .ok (.iaload, 1) := by decide +kernel
theorem dL_law_319 : decode cL_law 319 = .ok (.invokevirtual 43, 3) := by decide +kernel
theorem dL_law_322 : decode cL_law 322 = .ok (.if_icmp .eq 531, 3) := by decide +kernel
theorem dL_law_325 : decode cL_law 325 = .ok (.iconst 0, 1) := by decide +kernel
theorem dL_law_326 : decode cL_law 326 = .ok (.ireturn, 1) := by decide +kernel
theorem dL_law_327 : decode cL_law 327 = .ok (.aload_n 1, 1) := by decide +kernel
theorem dL_law_328 : decode cL_law 328 = .ok (.aload_n 0, 1) := by decide +kernel
theorem dL_law_329 : decode cL_law 329 = .ok (.iload_n 3, 1) := by decide +kernel
theorem dL_law_330 : decode cL_law 330 = .ok (.iconst 1, 1) := by decide +kernel
theorem dL_law_331 : decode cL_law 331 = .ok (.iadd, 1) := by decide +kernel
theorem dL_law_332 : decode cL_law 332 = .ok (.iaload, 1) := by decide +kernel
theorem dL_law_333 : decode cL_law 333 = .ok (.aload_n 0, 1) := by decide +kernel
theorem dL_law_334 : decode cL_law 334 = .ok (.iload_n 3, 1) := by decide +kernel
theorem dL_law_335 : decode cL_law 335 = .ok (.iconst 2, 1) := by decide +kernel
theorem dL_law_336 : decode cL_law 336 = .ok (.iadd, 1) := by decide +kernel
theorem dL_law_337 : decode cL_law 337 = .ok (.iaload, 1) := by decide +kernel
theorem dL_law_338 : decode cL_law 338 = .ok (.invokevirtual 44, 3) := by decide +kernel
theorem dL_law_341 : decode cL_law 341 = .ok (.aload_n 2, 1) := by decide +kernel
theorem dL_law_342 : decode cL_law 342 = .ok (.aload_n 0, 1) := by decide +kernel
theorem dL_law_343 : decode cL_law 343 = .ok (.iload_n 3, 1) := by decide +kernel
theorem dL_law_344 : decode cL_law 344 = .ok (.iconst 1, 1) := by decide +kernel
theorem dL_law_345 : decode cL_law 345 = .ok (.iadd, 1) := by decide +kernel
theorem dL_law_346 : decode cL_law 346 = .ok (.iaload, 1) := by decide +kernel
theorem dL_law_347 : decode cL_law 347 = .ok (.aload_n 0, 1) := by decide +kernel
theorem dL_law_348 : decode cL_law 348 = .ok (.iload_n 3, 1) := by decide +kernel
theorem dL_law_349 : decode cL_law 349 = .ok (.iconst 2, 1) := by decide +kernel
theorem dL_law_350 : decode cL_law 350 = .ok (.iadd, 1) := by decide +kernel
theorem dL_law_351 : decode cL_law 351 = .ok (.iaload, 1) := by decide +kernel
theorem dL_law_352 : decode cL_law 352 = .ok (.invokevirtual 47, 3) := by decide +kernel
theorem dL_law_355 : decode cL_law 355 = .ok (.if_icmp .eq 498, 3) := by decide +kernel
theorem dL_law_358 : decode cL_law 358 = .ok (.iconst 0, 1) := by decide +kernel
theorem dL_law_359 : decode cL_law 359 = .ok (.ireturn, 1) := by decide +kernel
theorem dL_law_360 : decode cL_law 360 = .ok (.aload_n 1, 1) := by decide +kernel
theorem dL_law_361 : decode cL_law 361 = .ok (.aload_n 0, 1) := by decide +kernel
theorem dL_law_362 : decode cL_law 362 = .ok (.iload_n 3, 1) := by decide +kernel
theorem dL_law_363 : decode cL_law 363 = .ok (.iconst 1, 1) := by decide +kernel
theorem dL_law_364 : decode cL_law 364 = .ok (.iadd, 1) := by decide +kernel
theorem dL_law_365 : decode cL_law 365 = .ok (.iaload, 1) := by decide +kernel
theorem dL_law_366 : decode cL_law 366 = .ok (.aload_n 0, 1) := by decide +kernel
theorem dL_law_367 : decode cL_law 367 = .ok (.iload_n 3, 1) := by decide +kernel
theorem dL_law_368 : decode cL_law 368 = .ok (.iconst 2, 1) := by decide +kernel
theorem dL_law_369 : decode cL_law 369 = .ok (.iadd, 1) := by decide +kernel
theorem dL_law_370 : decode cL_law 370 = .ok (.iaload, 1) := by decide +kernel
theorem dL_law_371 : decode cL_law 371 = .ok (.invokevirtual 48, 3) := by decide +kernel
theorem dL_law_374 : decode cL_law 374 = .ok (.aload_n 2, 1) := by decide +kernel
theorem dL_law_375 : decode cL_law 375 = .ok (.aload_n 0, 1) := by decide +kernel
theorem dL_law_376 : decode cL_law 376 = .ok (.iload_n 3, 1) := by decide +kernel
theorem dL_law_377 : decode cL_law 377 = .ok (.iconst 1, 1) := by decide +kernel
theorem dL_law_378 : decode cL_law 378 = .ok (.iadd, 1) := by decide +kernel
theorem dL_law_379 : decode cL_law 379 = .ok (.iaload, 1) := by decide +kernel
theorem dL_law_380 : decode cL_law 380 = .ok (.aload_n 0, 1) := by decide +kernel
theorem dL_law_381 : decode cL_law 381 = .ok (.iload_n 3, 1) := by decide +kernel
theorem dL_law_382 : decode cL_law 382 = .ok (.iconst 2, 1) := by decide +kernel
theorem dL_law_383 : decode cL_law 383 = .ok (.iadd, 1) := by decide +kernel
theorem dL_law_384 : decode cL_law 384 = .ok (.iaload, 1) := by decide +kernel
theorem dL_law_385 : decode cL_law 385 = .ok (.invokevirtual 51, 3) := by decide +kernel
theorem dL_law_388 : decode cL_law 388 = .ok (.if_icmp .eq 465, 3) := by decide +kernel
theorem dL_law_391 : decode cL_law 391 = .ok (.iconst 0, 1) := by decide +kernel
theorem dL_law_392 : decode cL_law 392 = .ok (.ireturn, 1) := by decide +kernel
theorem dL_law_393 : decode cL_law 393 = .ok (.aload_n 1, 1) := by decide +kernel
theorem dL_law_394 : decode cL_law 394 = .ok (.aload_n 0, 1) := by decide +kernel
theorem dL_law_395 : decode cL_law 395 = .ok (.iload_n 3, 1) := by decide +kernel
theorem dL_law_396 : decode cL_law 396 = .ok (.iconst 1, 1) := by decide +kernel
theorem dL_law_397 : decode cL_law 397 = .ok (.iadd, 1) := by decide +kernel
theorem dL_law_398 : decode cL_law 398 = .ok (.iaload, 1) := by decide +kernel
theorem dL_law_399 : decode cL_law 399 = .ok (.invokevirtual 52, 3) := by decide +kernel
theorem dL_law_402 : decode cL_law 402 = .ok (.aload_n 2, 1) := by decide +kernel
theorem dL_law_403 : decode cL_law 403 = .ok (.aload_n 0, 1) := by decide +kernel
theorem dL_law_404 : decode cL_law 404 = .ok (.iload_n 3, 1) := by decide +kernel
theorem dL_law_405 : decode cL_law 405 = .ok (.iconst 1, 1) := by decide +kernel
theorem dL_law_406 : decode cL_law 406 = .ok (.iadd, 1) := by decide +kernel
theorem dL_law_407 : decode cL_law 407 = .ok (.iaload, 1) := by decide +kernel
theorem dL_law_408 : decode cL_law 408 = .ok (.invokevirtual 55, 3) := by decide +kernel
theorem dL_law_411 : decode cL_law 411 = .ok (.if_icmp .eq 442, 3) := by decide +kernel
theorem dL_law_414 : decode cL_law 414 = .ok (.iconst 0, 1) := by decide +kernel
theorem dL_law_415 : decode cL_law 415 = .ok (.ireturn, 1) := by decide +kernel
theorem dL_law_416 : decode cL_law 416 = .ok (.aload_n 1, 1) := by decide +kernel
theorem dL_law_417 : decode cL_law 417 = .ok (.aload_n 0, 1) := by decide +kernel
theorem dL_law_418 : decode cL_law 418 = .ok (.iload_n 3, 1) := by decide +kernel
theorem dL_law_419 : decode cL_law 419 = .ok (.iconst 1, 1) := by decide +kernel
theorem dL_law_420 : decode cL_law 420 = .ok (.iadd, 1) := by decide +kernel
theorem dL_law_421 : decode cL_law 421 = .ok (.iaload, 1) := by decide +kernel
theorem dL_law_422 : decode cL_law 422 = .ok (.invokevirtual 56, 3) := by decide +kernel
theorem dL_law_425 : decode cL_law 425 = .ok (.aload_n 2, 1) := by decide +kernel
theorem dL_law_426 : decode cL_law 426 = .ok (.aload_n 0, 1) := by decide +kernel
theorem dL_law_427 : decode cL_law 427 = .ok (.iload_n 3, 1) := by decide +kernel
theorem dL_law_428 : decode cL_law 428 = .ok (.iconst 1, 1) := by decide +kernel
theorem dL_law_429 : decode cL_law 429 = .ok (.iadd, 1) := by decide +kernel
theorem dL_law_430 : decode cL_law 430 = .ok (.iaload, 1) := by decide +kernel
theorem dL_law_431 : decode cL_law 431 = .ok (.invokevirtual 59, 3) := by decide +kernel
theorem dL_law_434 : decode cL_law 434 = .ok (.if_icmp .eq 419, 3) := by decide +kernel
theorem dL_law_437 : decode cL_law 437 = .ok (.iconst 0, 1) := by decide +kernel
theorem dL_law_438 : decode cL_law 438 = .ok (.ireturn, 1) := by decide +kernel
theorem dL_law_439 : decode cL_law 439 = .ok (.aload_n 1, 1) := by decide +kernel
theorem dL_law_440 : decode cL_law 440 = .ok (.aload_n 0, 1) := by decide +kernel
theorem dL_law_441 : decode cL_law 441 = .ok (.iload_n 3, 1) := by decide +kernel
theorem dL_law_442 : decode cL_law 442 = .ok (.iconst 1, 1) := by decide +kernel
theorem dL_law_443 : decode cL_law 443 = .ok (.iadd, 1) := by decide +kernel
theorem dL_law_444 : decode cL_law 444 = .ok (.iaload, 1) := by decide +kernel
theorem dL_law_445 : decode cL_law 445 = .ok (.invokevirtual 60, 3) := by decide +kernel
theorem dL_law_448 : decode cL_law 448 = .ok (.aload_n 2, 1) := by decide +kernel
theorem dL_law_449 : decode cL_law 449 = .ok (.aload_n 0, 1) := by decide +kernel
theorem dL_law_450 : decode cL_law 450 = .ok (.iload_n 3, 1) := by decide +kernel
theorem dL_law_451 : decode cL_law 451 = .ok (.iconst 1, 1) := by decide +kernel
theorem dL_law_452 : decode cL_law 452 = .ok (.iadd, 1) := by decide +kernel
theorem dL_law_453 : decode cL_law 453 = .ok (.iaload, 1) := by decide +kernel
theorem dL_law_454 : decode cL_law 454 = .ok (.invokevirtual 63, 3) := by decide +kernel
theorem dL_law_457 : decode cL_law 457 = .ok (.if_icmp .eq 396, 3) := by decide +kernel
theorem dL_law_460 : decode cL_law 460 = .ok (.iconst 0, 1) := by decide +kernel
theorem dL_law_461 : decode cL_law 461 = .ok (.ireturn, 1) := by decide +kernel
theorem dL_law_462 : decode cL_law 462 = .ok (.aload_n 1, 1) := by decide +kernel
theorem dL_law_463 : decode cL_law 463 = .ok (.aload_n 0, 1) := by decide +kernel
theorem dL_law_464 : decode cL_law 464 = .ok (.iload_n 3, 1) := by decide +kernel
theorem dL_law_465 : decode cL_law 465 = .ok (.iconst 1, 1) := by decide +kernel
theorem dL_law_466 : decode cL_law 466 = .ok (.iadd, 1) := by decide +kernel
theorem dL_law_467 : decode cL_law 467 = .ok (.iaload, 1) := by decide +kernel
theorem dL_law_468 : decode cL_law 468 = .ok (.aload_n 0, 1) := by decide +kernel
theorem dL_law_469 : decode cL_law 469 = .ok (.iload_n 3, 1) := by decide +kernel
theorem dL_law_470 : decode cL_law 470 = .ok (.iconst 2, 1) := by decide +kernel
theorem dL_law_471 : decode cL_law 471 = .ok (.iadd, 1) := by decide +kernel
theorem dL_law_472 : decode cL_law 472 = .ok (.iaload, 1) := by decide +kernel
theorem dL_law_473 : decode cL_law 473 = .ok (.invokevirtual 64, 3) := by decide +kernel
theorem dL_law_476 : decode cL_law 476 = .ok (.aload_n 2, 1) := by decide +kernel
theorem dL_law_477 : decode cL_law 477 = .ok (.aload_n 0, 1) := by decide +kernel
theorem dL_law_478 : decode cL_law 478 = .ok (.iload_n 3, 1) := by decide +kernel
theorem dL_law_479 : decode cL_law 479 = .ok (.iconst 1, 1) := by decide +kernel
theorem dL_law_480 : decode cL_law 480 = .ok (.iadd, 1) := by decide +kernel
theorem dL_law_481 : decode cL_law 481 = .ok (.iaload, 1) := by decide +kernel
theorem dL_law_482 : decode cL_law 482 = .ok (.aload_n 0, 1) := by decide +kernel
theorem dL_law_483 : decode cL_law 483 = .ok (.iload_n 3, 1) := by decide +kernel
theorem dL_law_484 : decode cL_law 484 = .ok (.iconst 2, 1) := by decide +kernel
theorem dL_law_485 : decode cL_law 485 = .ok (.iadd, 1) := by decide +kernel
theorem dL_law_486 : decode cL_law 486 = .ok (.iaload, 1) := by decide +kernel
theorem dL_law_487 : decode cL_law 487 = .ok (.invokevirtual 67, 3) := by decide +kernel
theorem dL_law_490 : decode cL_law 490 = .ok (.if_icmp .eq 363, 3) := by decide +kernel
theorem dL_law_493 : decode cL_law 493 = .ok (.iconst 0, 1) := by decide +kernel
theorem dL_law_494 : decode cL_law 494 = .ok (.ireturn, 1) := by decide +kernel
theorem dL_law_495 : decode cL_law 495 = .ok (.aload_n 1, 1) := by decide +kernel
theorem dL_law_496 : decode cL_law 496 = .ok (.aload_n 0, 1) := by decide +kernel
theorem dL_law_497 : decode cL_law 497 = .ok (.iload_n 3, 1) := by decide +kernel
theorem dL_law_498 : decode cL_law 498 = .ok (.iconst 1, 1) := by decide +kernel
theorem dL_law_499 : decode cL_law 499 = .ok (.iadd, 1) := by decide +kernel
theorem dL_law_500 : decode cL_law 500 = .ok (.iaload, 1) := by decide +kernel
theorem dL_law_501 : decode cL_law 501 = .ok (.aload_n 0, 1) := by decide +kernel
theorem dL_law_502 : decode cL_law 502 = .ok (.iload_n 3, 1) := by decide +kernel
theorem dL_law_503 : decode cL_law 503 = .ok (.iconst 2, 1) := by decide +kernel
theorem dL_law_504 : decode cL_law 504 = .ok (.iadd, 1) := by decide +kernel
theorem dL_law_505 : decode cL_law 505 = .ok (.iaload, 1) := by decide +kernel
theorem dL_law_506 : decode cL_law 506 = .ok (.invokevirtual 68, 3) := by decide +kernel
theorem dL_law_509 : decode cL_law 509 = .ok (.aload_n 2, 1) := by decide +kernel
theorem dL_law_510 : decode cL_law 510 = .ok (.aload_n 0, 1) := by decide +kernel
theorem dL_law_511 : decode cL_law 511 = .ok (.iload_n 3, 1) := by decide +kernel
theorem dL_law_512 : decode cL_law 512 = .ok (.iconst 1, 1) := by decide +kernel
theorem dL_law_513 : decode cL_law 513 = .ok (.iadd, 1) := by decide +kernel
theorem dL_law_514 : decode cL_law 514 = .ok (.iaload, 1) := by decide +kernel
theorem dL_law_515 : decode cL_law 515 = .ok (.aload_n 0, 1) := by decide +kernel
theorem dL_law_516 : decode cL_law 516 = .ok (.iload_n 3, 1) := by decide +kernel
theorem dL_law_517 : decode cL_law 517 = .ok (.iconst 2, 1) := by decide +kernel
theorem dL_law_518 : decode cL_law 518 = .ok (.iadd, 1) := by decide +kernel
theorem dL_law_519 : decode cL_law 519 = .ok (.iaload, 1) := by decide +kernel
theorem dL_law_520 : decode cL_law 520 = .ok (.invokevirtual 71, 3) := by decide +kernel
theorem dL_law_523 : decode cL_law 523 = .ok (.if_icmp .eq 330, 3) := by decide +kernel
theorem dL_law_526 : decode cL_law 526 = .ok (.iconst 0, 1) := by decide +kernel
theorem dL_law_527 : decode cL_law 527 = .ok (.ireturn, 1) := by decide +kernel
theorem dL_law_528 : decode cL_law 528 = .ok (.aload_n 1, 1) := by decide +kernel
theorem dL_law_529 : decode cL_law 529 = .ok (.aload_n 0, 1) := by decide +kernel
theorem dL_law_530 : decode cL_law 530 = .ok (.iload_n 3, 1) := by decide +kernel
theorem dL_law_531 : decode cL_law 531 = .ok (.iconst 1, 1) := by decide +kernel
theorem dL_law_532 : decode cL_law 532 = .ok (.iadd, 1) := by decide +kernel
theorem dL_law_533 : decode cL_law 533 = .ok (.iaload, 1) := by decide +kernel
theorem dL_law_534 : decode cL_law 534 = .ok (.aload_n 0, 1) := by decide +kernel
theorem dL_law_535 : decode cL_law 535 = .ok (.iload_n 3, 1) := by decide +kernel
theorem dL_law_536 : decode cL_law 536 = .ok (.iconst 2, 1) := by decide +kernel
theorem dL_law_537 : decode cL_law 537 = .ok (.iadd, 1) := by decide +kernel
theorem dL_law_538 : decode cL_law 538 = .ok (.iaload, 1) := by decide +kernel
theorem dL_law_539 : decode cL_law 539 = .ok (.invokevirtual 72, 3) := by decide +kernel
theorem dL_law_542 : decode cL_law 542 = .ok (.aload_n 2, 1) := by decide +kernel
theorem dL_law_543 : decode cL_law 543 = .ok (.aload_n 0, 1) := by decide +kernel
theorem dL_law_544 : decode cL_law 544 = .ok (.iload_n 3, 1) := by decide +kernel
theorem dL_law_545 : decode cL_law 545 = .ok (.iconst 1, 1) := by decide +kernel
theorem dL_law_546 : decode cL_law 546 = .ok (.iadd, 1) := by decide +kernel
theorem dL_law_547 : decode cL_law 547 = .ok (.iaload, 1) := by decide +kernel
theorem dL_law_548 : decode cL_law 548 = .ok (.aload_n 0, 1) := by decide +kernel
theorem dL_law_549 : decode cL_law 549 = .ok (.iload_n 3, 1) := by decide +kernel
theorem dL_law_550 : decode cL_law 550 = .ok (.iconst 2, 1) := by decide +kernel
theorem dL_law_551 : decode cL_law 551 = .ok (.iadd, 1) := by decide +kernel
theorem dL_law_552 : decode cL_law 552 = .ok (.iaload, 1) := by decide +kernel
theorem dL_law_553 : decode cL_law 553 = .ok (.invokevirtual 75, 3) := by decide +kernel
theorem dL_law_556 : decode cL_law 556 = .ok (.if_icmp .eq 297, 3) := by decide +kernel
theorem dL_law_559 : decode cL_law 559 = .ok (.iconst 0, 1) := by decide +kernel
theorem dL_law_560 : decode cL_law 560 = .ok (.ireturn, 1) := by decide +kernel
theorem dL_law_561 : decode cL_law 561 = .ok (.aload_n 1, 1) := by decide +kernel
theorem dL_law_562 : decode cL_law 562 = .ok (.aload_n 0, 1) := by decide +kernel
theorem dL_law_563 : decode cL_law 563 = .ok (.iload_n 3, 1) := by decide +kernel
theorem dL_law_564 : decode cL_law 564 = .ok (.iconst 1, 1) := by decide +kernel
theorem dL_law_565 : decode cL_law 565 = .ok (.iadd, 1) := by decide +kernel
theorem dL_law_566 : decode cL_law 566 = .ok (.iaload, 1) := by decide +kernel
theorem dL_law_567 : decode cL_law 567 = .ok (.invokevirtual 76, 3) := by decide +kernel
theorem dL_law_570 : decode cL_law 570 = .ok (.aload_n 2, 1) := by decide +kernel
theorem dL_law_571 : decode cL_law 571 = .ok (.aload_n 0, 1) := by decide +kernel
theorem dL_law_572 : decode cL_law 572 = .ok (.iload_n 3, 1) := by decide +kernel
theorem dL_law_573 : decode cL_law 573 = .ok (.iconst 1, 1) := by decide +kernel
theorem dL_law_574 : decode cL_law 574 = .ok (.iadd, 1) := by decide +kernel
theorem dL_law_575 : decode cL_law 575 = .ok (.iaload, 1) := by decide +kernel
theorem dL_law_576 : decode cL_law 576 = .ok (.invokevirtual 79, 3) := by decide +kernel
theorem dL_law_579 : decode cL_law 579 = .ok (.if_icmp .eq 274, 3) := by decide +kernel
theorem dL_law_582 : decode cL_law 582 = .ok (.iconst 0, 1) := by decide +kernel
theorem dL_law_583 : decode cL_law 583 = .ok (.ireturn, 1) := by decide +kernel
theorem dL_law_584 : decode cL_law 584 = .ok (.aload_n 1, 1) := by decide +kernel
theorem dL_law_585 : decode cL_law 585 = .ok (.aload_n 0, 1) := by decide +kernel
theorem dL_law_586 : decode cL_law 586 = .ok (.iload_n 3, 1) := by decide +kernel
theorem dL_law_587 : decode cL_law 587 = .ok (.iconst 1, 1) := by decide +kernel
theorem dL_law_588 : decode cL_law 588 = .ok (.iadd, 1) := by decide +kernel
theorem dL_law_589 : decode cL_law 589 = .ok (.iaload, 1) := by decide +kernel
theorem dL_law_590 : decode cL_law 590 = .ok (.aload_n 0, 1) := by decide +kernel
theorem dL_law_591 : decode cL_law 591 = .ok (.iload_n 3, 1) := by decide +kernel
theorem dL_law_592 : decode cL_law 592 = .ok (.iconst 2, 1) := by decide +kernel
theorem dL_law_593 : decode cL_law 593 = .ok (.iadd, 1) := by decide +kernel
theorem dL_law_594 : decode cL_law 594 = .ok (.iaload, 1) := by decide +kernel
theorem dL_law_595 : decode cL_law 595 = .ok (.invokevirtual 80, 3) := by decide +kernel
theorem dL_law_598 : decode cL_law 598 = .ok (.aload_n 2, 1) := by decide +kernel
theorem dL_law_599 : decode cL_law 599 = .ok (.aload_n 0, 1) := by decide +kernel
theorem dL_law_600 : decode cL_law 600 = .ok (.iload_n 3, 1) := by decide +kernel
theorem dL_law_601 : decode cL_law 601 = .ok (.iconst 1, 1) := by decide +kernel
theorem dL_law_602 : decode cL_law 602 = .ok (.iadd, 1) := by decide +kernel
theorem dL_law_603 : decode cL_law 603 = .ok (.iaload, 1) := by decide +kernel
theorem dL_law_604 : decode cL_law 604 = .ok (.aload_n 0, 1) := by decide +kernel
theorem dL_law_605 : decode cL_law 605 = .ok (.iload_n 3, 1) := by decide +kernel
theorem dL_law_606 : decode cL_law 606 = .ok (.iconst 2, 1) := by decide +kernel
theorem dL_law_607 : decode cL_law 607 = .ok (.iadd, 1) := by decide +kernel
theorem dL_law_608 : decode cL_law 608 = .ok (.iaload, 1) := by decide +kernel
theorem dL_law_609 : decode cL_law 609 = .ok (.invokevirtual 83, 3) := by decide +kernel
theorem dL_law_612 : decode cL_law 612 = .ok (.if_icmp .eq 241, 3) := by decide +kernel
theorem dL_law_615 : decode cL_law 615 = .ok (.iconst 0, 1) := by decide +kernel
theorem dL_law_616 : decode cL_law 616 = .ok (.ireturn, 1) := by decide +kernel
theorem dL_law_617 : decode cL_law 617 = .ok (.aload_n 1, 1) := by decide +kernel
theorem dL_law_618 : decode cL_law 618 = .ok (.aload_n 0, 1) := by decide +kernel
theorem dL_law_619 : decode cL_law 619 = .ok (.iload_n 3, 1) := by decide +kernel
theorem dL_law_620 : decode cL_law 620 = .ok (.iconst 1, 1) := by decide +kernel
theorem dL_law_621 : decode cL_law 621 = .ok (.iadd, 1) := by decide +kernel
theorem dL_law_622 : decode cL_law 622 = .ok (.iaload, 1) := by decide +kernel
theorem dL_law_623 : decode cL_law 623 = .ok (.aload_n 0, 1) := by decide +kernel
theorem dL_law_624 : decode cL_law 624 = .ok (.iload_n 3, 1) := by decide +kernel
theorem dL_law_625 : decode cL_law 625 = .ok (.iconst 2, 1) := by decide +kernel
theorem dL_law_626 : decode cL_law 626 = .ok (.iadd, 1) := by decide +kernel
theorem dL_law_627 : decode cL_law 627 = .ok (.iaload, 1) := by decide +kernel
theorem dL_law_628 : decode cL_law 628 = .ok (.invokevirtual 84, 3) := by decide +kernel
theorem dL_law_631 : decode cL_law 631 = .ok (.aload_n 2, 1) := by decide +kernel
theorem dL_law_632 : decode cL_law 632 = .ok (.aload_n 0, 1) := by decide +kernel
theorem dL_law_633 : decode cL_law 633 = .ok (.iload_n 3, 1) := by decide +kernel
theorem dL_law_634 : decode cL_law 634 = .ok (.iconst 1, 1) := by decide +kernel
theorem dL_law_635 : decode cL_law 635 = .ok (.iadd, 1) := by decide +kernel
theorem dL_law_636 : decode cL_law 636 = .ok (.iaload, 1) := by decide +kernel
theorem dL_law_637 : decode cL_law 637 = .ok (.aload_n 0, 1) := by decide +kernel
theorem dL_law_638 : decode cL_law 638 = .ok (.iload_n 3, 1) := by decide +kernel
theorem dL_law_639 : decode cL_law 639 = .ok (.iconst 2, 1) := by decide +kernel
theorem dL_law_640 : decode cL_law 640 = .ok (.iadd, 1) := by decide +kernel
theorem dL_law_641 : decode cL_law 641 = .ok (.iaload, 1) := by decide +kernel
theorem dL_law_642 : decode cL_law 642 = .ok (.invokevirtual 87, 3) := by decide +kernel
theorem dL_law_645 : decode cL_law 645 = .ok (.if_icmp .eq 208, 3) := by decide +kernel
theorem dL_law_648 : decode cL_law 648 = .ok (.iconst 0, 1) := by decide +kernel
theorem dL_law_649 : decode cL_law 649 = .ok (.ireturn, 1) := by decide +kernel
theorem dL_law_650 : decode cL_law 650 = .ok (.aload_n 1, 1) := by decide +kernel
theorem dL_law_651 : decode cL_law 651 = .ok (.aload_n 0, 1) := by decide +kernel
theorem dL_law_652 : decode cL_law 652 = .ok (.iload_n 3, 1) := by decide +kernel
theorem dL_law_653 : decode cL_law 653 = .ok (.iconst 1, 1) := by decide +kernel
theorem dL_law_654 : decode cL_law 654 = .ok (.iadd, 1) := by decide +kernel
theorem dL_law_655 : decode cL_law 655 = .ok (.iaload, 1) := by decide +kernel
theorem dL_law_656 : decode cL_law 656 = .ok (.aload_n 0, 1) := by decide +kernel
theorem dL_law_657 : decode cL_law 657 = .ok (.iload_n 3, 1) := by decide +kernel
theorem dL_law_658 : decode cL_law 658 = .ok (.iconst 2, 1) := by decide +kernel
theorem dL_law_659 : decode cL_law 659 = .ok (.iadd, 1) := by decide +kernel
theorem dL_law_660 : decode cL_law 660 = .ok (.iaload, 1) := by decide +kernel
theorem dL_law_661 : decode cL_law 661 = .ok (.ifCond .eq 7, 3) := by decide +kernel
theorem dL_law_664 : decode cL_law 664 = .ok (.iconst 1, 1) := by decide +kernel
theorem dL_law_665 : decode cL_law 665 = .ok (.goto 4, 3) := by decide +kernel
theorem dL_law_668 : decode cL_law 668 = .ok (.iconst 0, 1) := by decide +kernel
theorem dL_law_669 : decode cL_law 669 = .ok (.invokevirtual 88, 3) := by decide +kernel
theorem dL_law_672 : decode cL_law 672 = .ok (.aload_n 2, 1) := by decide +kernel
theorem dL_law_673 : decode cL_law 673 = .ok (.aload_n 0, 1) := by decide +kernel
theorem dL_law_674 : decode cL_law 674 = .ok (.iload_n 3, 1) := by decide +kernel
theorem dL_law_675 : decode cL_law 675 = .ok (.iconst 1, 1) := by decide +kernel
theorem dL_law_676 : decode cL_law 676 = .ok (.iadd, 1) := by decide +kernel
theorem dL_law_677 : decode cL_law 677 = .ok (.iaload, 1) := by decide +kernel
theorem dL_law_678 : decode cL_law 678 = .ok (.aload_n 0, 1) := by decide +kernel
theorem dL_law_679 : decode cL_law 679 = .ok (.iload_n 3, 1) := by decide +kernel
theorem dL_law_680 : decode cL_law 680 = .ok (.iconst 2, 1) := by decide +kernel
theorem dL_law_681 : decode cL_law 681 = .ok (.iadd, 1) := by decide +kernel
theorem dL_law_682 : decode cL_law 682 = .ok (.iaload, 1) := by decide +kernel
theorem dL_law_683 : decode cL_law 683 = .ok (.ifCond .eq 7, 3) := by decide +kernel
theorem dL_law_686 : decode cL_law 686 = .ok (.iconst 1, 1) := by decide +kernel
theorem dL_law_687 : decode cL_law 687 = .ok (.goto 4, 3) := by decide +kernel
theorem dL_law_690 : decode cL_law 690 = .ok (.iconst 0, 1) := by decide +kernel
theorem dL_law_691 : decode cL_law 691 = .ok (.invokevirtual 92, 3) := by decide +kernel
theorem dL_law_694 : decode cL_law 694 = .ok (.if_icmp .eq 159, 3) := by decide +kernel
theorem dL_law_697 : decode cL_law 697 = .ok (.iconst 0, 1) := by decide +kernel
theorem dL_law_698 : decode cL_law 698 = .ok (.ireturn, 1) := by decide +kernel
theorem dL_law_699 : decode cL_law 699 = .ok (.aload_n 1, 1) := by decide +kernel
theorem dL_law_700 : decode cL_law 700 = .ok (.invokevirtual 93, 3) := by decide +kernel
theorem dL_law_703 : decode cL_law 703 = .ok (.aload_n 2, 1) := by decide +kernel
theorem dL_law_704 : decode cL_law 704 = .ok (.invokevirtual 96, 3) := by decide +kernel
theorem dL_law_707 : decode cL_law 707 = .ok (.if_icmp .eq 146, 3) := by decide +kernel
theorem dL_law_710 : decode cL_law 710 = .ok (.iconst 0, 1) := by decide +kernel
theorem dL_law_711 : decode cL_law 711 = .ok (.ireturn, 1) := by decide +kernel
theorem dL_law_712 : decode cL_law 712 = .ok (.aload_n 1, 1) := by decide +kernel
theorem dL_law_713 : decode cL_law 713 = .ok (.invokevirtual 97, 3) := by decide +kernel
theorem dL_law_716 : decode cL_law 716 = .ok (.aload_n 2, 1) := by decide +kernel
theorem dL_law_717 : decode cL_law 717 = .ok (.invokevirtual 100, 3) := by decide +kernel
theorem dL_law_720 : decode cL_law 720 = .ok (.if_icmp .eq 133, 3) := by decide +kernel
theorem dL_law_723 : decode cL_law 723 = .ok (.iconst 0, 1) := by decide +kernel
theorem dL_law_724 : decode cL_law 724 = .ok (.ireturn, 1) := by decide +kernel
theorem dL_law_725 : decode cL_law 725 = .ok (.aload_n 1, 1) := by decide +kernel
theorem dL_law_726 : decode cL_law 726 = .ok (.aload_n 0, 1) := by decide +kernel
theorem dL_law_727 : decode cL_law 727 = .ok (.iload_n 3, 1) := by decide +kernel
theorem dL_law_728 : decode cL_law 728 = .ok (.iconst 1, 1) := by decide +kernel
theorem dL_law_729 : decode cL_law 729 = .ok (.iadd, 1) := by decide +kernel
theorem dL_law_730 : decode cL_law 730 = .ok (.iaload, 1) := by decide +kernel
theorem dL_law_731 : decode cL_law 731 = .ok (.aload_n 0, 1) := by decide +kernel
theorem dL_law_732 : decode cL_law 732 = .ok (.iload_n 3, 1) := by decide +kernel
theorem dL_law_733 : decode cL_law 733 = .ok (.iconst 2, 1) := by decide +kernel
theorem dL_law_734 : decode cL_law 734 = .ok (.iadd, 1) := by decide +kernel
theorem dL_law_735 : decode cL_law 735 = .ok (.iaload, 1) := by decide +kernel
theorem dL_law_736 : decode cL_law 736 = .ok (.invokevirtual 101, 3) := by decide +kernel
theorem dL_law_739 : decode cL_law 739 = .ok (.aload_n 2, 1) := by decide +kernel
theorem dL_law_740 : decode cL_law 740 = .ok (.aload_n 0, 1) := by decide +kernel
theorem dL_law_741 : decode cL_law 741 = .ok (.iload_n 3, 1) := by decide +kernel
theorem dL_law_742 : decode cL_law 742 = .ok (.iconst 1, 1) := by decide +kernel
theorem dL_law_743 : decode cL_law 743 = .ok (.iadd, 1) := by decide +kernel
theorem dL_law_744 : decode cL_law 744 = .ok (.iaload, 1) := by decide +kernel
theorem dL_law_745 : decode cL_law 745 = .ok (.aload_n 0, 1) := by decide +kernel
theorem dL_law_746 : decode cL_law 746 = .ok (.iload_n 3, 1) := by decide +kernel
theorem dL_law_747 : decode cL_law 747 = .ok (.iconst 2, 1) := by decide +kernel
theorem dL_law_748 : decode cL_law 748 = .ok (.iadd, 1) := by decide +kernel
theorem dL_law_749 : decode cL_law 749 = .ok (.iaload, 1) := by decide +kernel
theorem dL_law_750 : decode cL_law 750 = .ok (.invokevirtual 104, 3) := by decide +kernel
theorem dL_law_753 : decode cL_law 753 = .ok (.if_icmp .eq 100, 3) := by decide +kernel
theorem dL_law_756 : decode cL_law 756 = .ok (.iconst 0, 1) := by decide +kernel
theorem dL_law_757 : decode cL_law 757 = .ok (.ireturn, 1) := by decide +kernel
theorem dL_law_758 : decode cL_law 758 = .ok (.aload_n 1, 1) := by decide +kernel
theorem dL_law_759 : decode cL_law 759 = .ok (.invokevirtual 105, 3) := by decide +kernel
theorem dL_law_762 : decode cL_law 762 = .ok (.aload_n 2, 1) := by decide +kernel
theorem dL_law_763 : decode cL_law 763 = .ok (.invokevirtual 108, 3) := by decide +kernel
theorem dL_law_766 : decode cL_law 766 = .ok (.if_icmp .eq 87, 3) := by decide +kernel
theorem dL_law_769 : decode cL_law 769 = .ok (.iconst 0, 1) := by decide +kernel
theorem dL_law_770 : decode cL_law 770 = .ok (.ireturn, 1) := by decide +kernel
theorem dL_law_771 : decode cL_law 771 = .ok (.aload_n 1, 1) := by decide +kernel
theorem dL_law_772 : decode cL_law 772 = .ok (.invokevirtual 109, 3) := by decide +kernel
theorem dL_law_775 : decode cL_law 775 = .ok (.aload_n 2, 1) := by decide +kernel
theorem dL_law_776 : decode cL_law 776 = .ok (.invokevirtual 112, 3) := by decide +kernel
theorem dL_law_779 : decode cL_law 779 = .ok (.if_icmp .eq 74, 3) := by decide +kernel
theorem dL_law_782 : decode cL_law 782 = .ok (.iconst 0, 1) := by decide +kernel
theorem dL_law_783 : decode cL_law 783 = .ok (.ireturn, 1) := by decide +kernel
theorem dL_law_784 : decode cL_law 784 = .ok (.aload_n 1, 1) := by decide +kernel
theorem dL_law_785 : decode cL_law 785 = .ok (.aload_n 0, 1) := by decide +kernel
theorem dL_law_786 : decode cL_law 786 = .ok (.iload_n 3, 1) := by decide +kernel
theorem dL_law_787 : decode cL_law 787 = .ok (.iconst 1, 1) := by decide +kernel
theorem dL_law_788 : decode cL_law 788 = .ok (.iadd, 1) := by decide +kernel
theorem dL_law_789 : decode cL_law 789 = .ok (.iaload, 1) := by decide +kernel
theorem dL_law_790 : decode cL_law 790 = .ok (.invokevirtual 113, 3) := by decide +kernel
theorem dL_law_793 : decode cL_law 793 = .ok (.aload_n 2, 1) := by decide +kernel
theorem dL_law_794 : decode cL_law 794 = .ok (.aload_n 0, 1) := by decide +kernel
theorem dL_law_795 : decode cL_law 795 = .ok (.iload_n 3, 1) := by decide +kernel
theorem dL_law_796 : decode cL_law 796 = .ok (.iconst 1, 1) := by decide +kernel
theorem dL_law_797 : decode cL_law 797 = .ok (.iadd, 1) := by decide +kernel
theorem dL_law_798 : decode cL_law 798 = .ok (.iaload, 1) := by decide +kernel
theorem dL_law_799 : decode cL_law 799 = .ok (.invokevirtual 116, 3) := by decide +kernel
theorem dL_law_802 : decode cL_law 802 = .ok (.if_icmp .eq 51, 3) := by decide +kernel
theorem dL_law_805 : decode cL_law 805 = .ok (.iconst 0, 1) := by decide +kernel
theorem dL_law_806 : decode cL_law 806 = .ok (.ireturn, 1) := by decide +kernel
theorem dL_law_807 : decode cL_law 807 = .ok (.aload_n 1, 1) := by decide +kernel
theorem dL_law_808 : decode cL_law 808 = .ok (.aload_n 0, 1) := by decide +kernel
theorem dL_law_809 : decode cL_law 809 = .ok (.iload_n 3, 1) := by decide +kernel
theorem dL_law_810 : decode cL_law 810 = .ok (.iconst 1, 1) := by decide +kernel
theorem dL_law_811 : decode cL_law 811 = .ok (.iadd, 1) := by decide +kernel
theorem dL_law_812 : decode cL_law 812 = .ok (.iaload, 1) := by decide +kernel
theorem dL_law_813 : decode cL_law 813 = .ok (.invokevirtual 117, 3) := by decide +kernel
theorem dL_law_816 : decode cL_law 816 = .ok (.aload_n 2, 1) := by decide +kernel
theorem dL_law_817 : decode cL_law 817 = .ok (.aload_n 0, 1) := by decide +kernel
theorem dL_law_818 : decode cL_law 818 = .ok (.iload_n 3, 1) := by decide +kernel
theorem dL_law_819 : decode cL_law 819 = .ok (.iconst 1, 1) := by decide +kernel
theorem dL_law_820 : decode cL_law 820 = .ok (.iadd, 1) := by decide +kernel
theorem dL_law_821 : decode cL_law 821 = .ok (.iaload, 1) := by decide +kernel
theorem dL_law_822 : decode cL_law 822 = .ok (.invokevirtual 120, 3) := by decide +kernel
theorem dL_law_825 : decode cL_law 825 = .ok (.if_icmp .eq 28, 3) := by decide +kernel
theorem dL_law_828 : decode cL_law 828 = .ok (.iconst 0, 1) := by decide +kernel
theorem dL_law_829 : decode cL_law 829 = .ok (.ireturn, 1) := by decide +kernel
theorem dL_law_830 : decode cL_law 830 = .ok (.aload_n 1, 1) := by decide +kernel
theorem dL_law_831 : decode cL_law 831 = .ok (.aload_n 0, 1) := by decide +kernel
theorem dL_law_832 : decode cL_law 832 = .ok (.iload_n 3, 1) := by decide +kernel
theorem dL_law_833 : decode cL_law 833 = .ok (.iconst 1, 1) := by decide +kernel
theorem dL_law_834 : decode cL_law 834 = .ok (.iadd, 1) := by decide +kernel
theorem dL_law_835 : decode cL_law 835 = .ok (.iaload, 1) := by decide +kernel
theorem dL_law_836 : decode cL_law 836 = .ok (.invokevirtual 121, 3) := by decide +kernel
theorem dL_law_839 : decode cL_law 839 = .ok (.aload_n 2, 1) := by decide +kernel
theorem dL_law_840 : decode cL_law 840 = .ok (.aload_n 0, 1) := by decide +kernel
theorem dL_law_841 : decode cL_law 841 = .ok (.iload_n 3, 1) := by decide +kernel
theorem dL_law_842 : decode cL_law 842 = .ok (.iconst 1, 1) := by decide +kernel
theorem dL_law_843 : decode cL_law 843 = .ok (.iadd, 1) := by decide +kernel
theorem dL_law_844 : decode cL_law 844 = .ok (.iaload, 1) := by decide +kernel
theorem dL_law_845 : decode cL_law 845 = .ok (.invokevirtual 124, 3) := by decide +kernel
theorem dL_law_848 : decode cL_law 848 = .ok (.if_icmp .eq 5, 3) := by decide +kernel
theorem dL_law_851 : decode cL_law 851 = .ok (.iconst 0, 1) := by decide +kernel
theorem dL_law_852 : decode cL_law 852 = .ok (.ireturn, 1) := by decide +kernel
theorem dL_law_853 : decode cL_law 853 = .ok (.iinc 3 3, 3) := by decide +kernel
theorem dL_law_856 : decode cL_law 856 = .ok (.goto (-838), 3) := by decide +kernel
theorem dL_law_859 : decode cL_law 859 = .ok (.iconst 1, 1) := by decide +kernel
theorem dL_law_860 : decode cL_law 860 = .ok (.ireturn, 1) := by decide +kernel
def f_L_law_691 (X : SX) (rec : Nat → Nat → Int32 → AH → Option ((Int32 × AH) ⊕ AH)) (v1 : Nat) (v2 : Nat) (v3 : Int32) (s0 : Int32) (s1 : Int32) (s2 : Nat) (s3 : Int32) (h : AH) : Option ((Int32 × AH) ⊕ AH) := bT1 (f_X13_owed s2 s1 s0 h) fun x3 h1 => if s3 = x3 then (rec v1 v2 (v3 + 3) h1) else (some (.inl ((0 : Int32), h1)))
set_option maxRecDepth 100000 in
set_option maxHeartbeats 4000000 in
theorem j_L_law_691 (X : SX) (d : Nat) (rec : Nat → Nat → Int32 → AH → Option ((Int32 × AH) ⊕ AH)) (hrecf : ∀ (rv : Option Int32) (h' : AH), ∀ (v1 : Nat) (v2 : Nat) (v3 : Int32) (h : AH) (o : (Int32 × AH) ⊕ AH), rec v1 v2 v3 h = some o → PS o rv h' (fun h1 => G X mL_law (d + 11) 859 [] [] h1 rv h') → G X mL_law (d + 11) 18 [(0, .float 0), (1, .ref v1), (2, .ref v2), (3, .int v3)] [] h rv h') (v1 : Nat) (v2 : Nat) (v3 : Int32) (s0 : Int32) (s1 : Int32) (s2 : Nat) (s3 : Int32) (h : AH) (o : (Int32 × AH) ⊕ AH) (hf : f_L_law_691 X rec v1 v2 v3 s0 s1 s2 s3 h = some o) (rv : Option Int32) (h' : AH) (hP : PS o rv h' (fun h1 => G X mL_law (d + 11) 859 [] [] h1 rv h')) : G X mL_law (d + 11) 691 [(0, .float 0), (1, .ref v1), (2, .ref v2), (3, .int v3)] [.int s0, .int s1, .ref s2, .int s3] h rv h' := by
  unfold f_L_law_691 at hf
  have hrec := hrecf rv h'
  obtain ⟨x3, h1, e2, hf⟩ := bT1_spec hf
  refine G.callVi (M' := mX13_owed) (ci := 12) (As := [.int s1, .int s0]) (st := [.int s3]) okX13_owed viX13_owed lkL_92 rfl rfl rfl (Nat.le_of_ble_eq_true rfl) (Nat.le_of_ble_eq_true rfl) dL_law_691 (c_X13_owed X (d + 10) _ _ _ _ _ _ e2).1 (c_X13_owed X (d + 10) _ _ _ _ _ _ e2).2 ?_
  refine G.icmp_eq 853 dL_law_694 (by decide) (fun c4 => ?_) (fun c4 => ?_)
  · rw [if_pos c4] at hf
    refine G.iinc (v := (v3 + 3)) (lv' := [(3, .int (v3 + 3)), (0, .float 0), (1, .ref v1), (2, .ref v2)]) dL_law_853 rfl rfl (by decide) rfl ?_
    refine G.goto 18 dL_law_856 (by decide) ?_
    exact G.pick [1, 2, 3, 0] rfl (hrec v1 v2 (v3 + 3) h1 _ hf hP)
  · rw [if_neg c4] at hf
    refine G.iconst (v := (0 : Int32)) dL_law_697 (by decide) ?_
    have hq := Option.some.inj hf
    subst hq
    obtain ⟨hq1, hq2⟩ := hP
    subst hq1
    subst hq2
    exact G.iret rfl (by decide) dL_law_698
def f_L_law_669 (X : SX) (rec : Nat → Nat → Int32 → AH → Option ((Int32 × AH) ⊕ AH)) (v1 : Nat) (v2 : Nat) (v3 : Int32) (s0 : Int32) (s1 : Int32) (s2 : Nat) (h : AH) : Option ((Int32 × AH) ⊕ AH) := bT1 (f_X12_owed s2 s1 s0 h) fun x3 h1 => (si X (v3 + (1 : Int32))).bind fun x4 => (si X (v3 + (2 : Int32))).bind fun x5 => if x5 = 0 then (f_L_law_691 X rec v1 v2 v3 (0 : Int32) x4 v2 x3 h1) else (f_L_law_691 X rec v1 v2 v3 (1 : Int32) x4 v2 x3 h1)
set_option maxRecDepth 100000 in
set_option maxHeartbeats 4000000 in
theorem j_L_law_669 (X : SX) (d : Nat) (rec : Nat → Nat → Int32 → AH → Option ((Int32 × AH) ⊕ AH)) (hrecf : ∀ (rv : Option Int32) (h' : AH), ∀ (v1 : Nat) (v2 : Nat) (v3 : Int32) (h : AH) (o : (Int32 × AH) ⊕ AH), rec v1 v2 v3 h = some o → PS o rv h' (fun h1 => G X mL_law (d + 11) 859 [] [] h1 rv h') → G X mL_law (d + 11) 18 [(0, .float 0), (1, .ref v1), (2, .ref v2), (3, .int v3)] [] h rv h') (v1 : Nat) (v2 : Nat) (v3 : Int32) (s0 : Int32) (s1 : Int32) (s2 : Nat) (h : AH) (o : (Int32 × AH) ⊕ AH) (hf : f_L_law_669 X rec v1 v2 v3 s0 s1 s2 h = some o) (rv : Option Int32) (h' : AH) (hP : PS o rv h' (fun h1 => G X mL_law (d + 11) 859 [] [] h1 rv h')) : G X mL_law (d + 11) 669 [(0, .float 0), (1, .ref v1), (2, .ref v2), (3, .int v3)] [.int s0, .int s1, .ref s2] h rv h' := by
  unfold f_L_law_669 at hf
  have hrec := hrecf rv h'
  obtain ⟨x3, h1, e2, hf⟩ := bT1_spec hf
  refine G.callVi (M' := mX12_owed) (ci := 11) (As := [.int s1, .int s0]) (st := []) okX12_owed viX12_owed lkL_88 rfl rfl rfl (Nat.le_of_ble_eq_true rfl) (Nat.le_of_ble_eq_true rfl) dL_law_669 (c_X12_owed X (d + 9) _ _ _ _ _ _ e2).1 (c_X12_owed X (d + 9) _ _ _ _ _ _ e2).2 ?_
  refine G.aload_n dL_law_672 rfl ?_
  refine G.sload_n dL_law_673 rfl ?_
  refine G.iload_n dL_law_674 rfl ?_
  refine G.iconst (v := (1 : Int32)) dL_law_675 (by decide) ?_
  refine G.iadd dL_law_676 ?_
  refine G.sldb dL_law_677 hf (fun x4 hf => ?_)
  refine G.sload_n dL_law_678 rfl ?_
  refine G.iload_n dL_law_679 rfl ?_
  refine G.iconst (v := (2 : Int32)) dL_law_680 (by decide) ?_
  refine G.iadd dL_law_681 ?_
  refine G.sldb dL_law_682 hf (fun x5 hf => ?_)
  refine G.if_eq 690 dL_law_683 (by decide) (fun c6 => ?_) (fun c6 => ?_)
  · rw [if_pos c6] at hf
    refine G.iconst (v := (0 : Int32)) dL_law_690 (by decide) ?_
    exact G.pick [0, 1, 2, 3] rfl (j_L_law_691 X d _ hrecf v1 v2 v3 (0 : Int32) x4 v2 x3 h1 _ hf _ _ hP)
  · rw [if_neg c6] at hf
    refine G.iconst (v := (1 : Int32)) dL_law_686 (by decide) ?_
    refine G.goto 691 dL_law_687 (by decide) ?_
    exact G.pick [0, 1, 2, 3] rfl (j_L_law_691 X d _ hrecf v1 v2 v3 (1 : Int32) x4 v2 x3 h1 _ hf _ _ hP)
def F_L_law_L18 (X : SX) (rec : Nat → Nat → Int32 → AH → Option ((Int32 × AH) ⊕ AH)) (v1 : Nat) (v2 : Nat) (v3 : Int32) (h : AH) : Option ((Int32 × AH) ⊕ AH) := if ((Int32.ofNat X.1) - (3 : Int32)) < v3 then (some (.inr h)) else ((si X v3).bind fun x2 => if (x2 &&& (31 : Int32)) = 0 then ((si X (v3 + (1 : Int32))).bind fun x4 => bT1 (f_X12_feed v1 x4 h) fun x7 h5 => (si X (v3 + (1 : Int32))).bind fun x8 => bT1 (f_X13_feed v2 x8 h5) fun x11 h9 => if x7 = x11 then (rec v1 v2 (v3 + 3) h9) else (some (.inl ((0 : Int32), h9)))) else (if (x2 &&& (31 : Int32)) = 1 then (bT1 (f_X12_row v1 h) fun x16 h14 => bT1 (f_X13_row v2 h14) fun x19 h17 => if x16 = x19 then (rec v1 v2 (v3 + 3) h17) else (some (.inl ((0 : Int32), h17)))) else (if (x2 &&& (31 : Int32)) = 2 then (bT1 (f_X12_fault v1 h) fun x24 h22 => bT1 (f_X13_fault v2 h22) fun x27 h25 => if x24 = x27 then (rec v1 v2 (v3 + 3) h25) else (some (.inl ((0 : Int32), h25)))) else (if (x2 &&& (31 : Int32)) = 3 then ((si X (v3 + (1 : Int32))).bind fun x30 => bT1 (f_X12_told v1 x30 h) fun x33 h31 => (si X (v3 + (1 : Int32))).bind fun x34 => bT1 (f_X13_told v2 x34 h31) fun x37 h35 => if x33 = x37 then (rec v1 v2 (v3 + 3) h35) else (some (.inl ((0 : Int32), h35)))) else (if (x2 &&& (31 : Int32)) = 4 then ((si X (v3 + (1 : Int32))).bind fun x40 => (si X (v3 + (2 : Int32))).bind fun x41 => bT1 (f_X12_singer v1 x40 x41 h) fun x44 h42 => (si X (v3 + (1 : Int32))).bind fun x45 => (si X (v3 + (2 : Int32))).bind fun x46 => bT1 (f_X13_singer v2 x45 x46 h42) fun x49 h47 => if x44 = x49 then (rec v1 v2 (v3 + 3) h47) else (some (.inl ((0 : Int32), h47)))) else (if (x2 &&& (31 : Int32)) = 5 then ((si X (v3 + (1 : Int32))).bind fun x52 => (si X (v3 + (2 : Int32))).bind fun x53 => bT1 (f_X12_child v1 x52 x53 h) fun x56 h54 => (si X (v3 + (1 : Int32))).bind fun x57 => (si X (v3 + (2 : Int32))).bind fun x58 => bT1 (f_X13_child v2 x57 x58 h54) fun x61 h59 => if x56 = x61 then (rec v1 v2 (v3 + 3) h59) else (some (.inl ((0 : Int32), h59)))) else (if (x2 &&& (31 : Int32)) = 6 then ((si X (v3 + (1 : Int32))).bind fun x64 => (si X (v3 + (2 : Int32))).bind fun x65 => bT1 (f_X12_go v1 x64 x65 h) fun x68 h66 => (si X (v3 + (1 : Int32))).bind fun x69 => (si X (v3 + (2 : Int32))).bind fun x70 => bT1 (f_X13_go v2 x69 x70 h66) fun x73 h71 => if x68 = x73 then (rec v1 v2 (v3 + 3) h71) else (some (.inl ((0 : Int32), h71)))) else (if (x2 &&& (31 : Int32)) = 7 then ((si X (v3 + (1 : Int32))).bind fun x76 => (si X (v3 + (2 : Int32))).bind fun x77 => bT1 (f_X12_sing v1 x76 x77 h) fun x80 h78 => (si X (v3 + (1 : Int32))).bind fun x81 => (si X (v3 + (2 : Int32))).bind fun x82 => bT1 (f_X13_sing v2 x81 x82 h78) fun x85 h83 => if x80 = x85 then (rec v1 v2 (v3 + 3) h83) else (some (.inl ((0 : Int32), h83)))) else (if (x2 &&& (31 : Int32)) = 8 then ((si X (v3 + (1 : Int32))).bind fun x88 => (si X (v3 + (2 : Int32))).bind fun x89 => bT1 (f_X12_carry v1 x88 x89 h) fun x92 h90 => (si X (v3 + (1 : Int32))).bind fun x93 => (si X (v3 + (2 : Int32))).bind fun x94 => bT1 (f_X13_carry v2 x93 x94 h90) fun x97 h95 => if x92 = x97 then (rec v1 v2 (v3 + 3) h95) else (some (.inl ((0 : Int32), h95)))) else (if (x2 &&& (31 : Int32)) = 9 then ((si X (v3 + (1 : Int32))).bind fun x100 => bT1 (f_X12_evening v1 x100 h) fun x103 h101 => (si X (v3 + (1 : Int32))).bind fun x104 => bT1 (f_X13_evening v2 x104 h101) fun x107 h105 => if x103 = x107 then (rec v1 v2 (v3 + 3) h105) else (some (.inl ((0 : Int32), h105)))) else (if (x2 &&& (31 : Int32)) = 10 then ((si X (v3 + (1 : Int32))).bind fun x110 => bT1 (f_X12_drift v1 x110 h) fun x113 h111 => (si X (v3 + (1 : Int32))).bind fun x114 => bT1 (f_X13_drift v2 x114 h111) fun x117 h115 => if x113 = x117 then (rec v1 v2 (v3 + 3) h115) else (some (.inl ((0 : Int32), h115)))) else (if (x2 &&& (31 : Int32)) = 11 then ((si X (v3 + (1 : Int32))).bind fun x120 => bT1 (f_X12_undo v1 x120 h) fun x123 h121 => (si X (v3 + (1 : Int32))).bind fun x124 => bT1 (f_X13_undo v2 x124 h121) fun x127 h125 => if x123 = x127 then (rec v1 v2 (v3 + 3) h125) else (some (.inl ((0 : Int32), h125)))) else (if (x2 &&& (31 : Int32)) = 12 then ((si X (v3 + (1 : Int32))).bind fun x130 => (si X (v3 + (2 : Int32))).bind fun x131 => bT1 (f_X12_steps v1 x130 x131 h) fun x134 h132 => (si X (v3 + (1 : Int32))).bind fun x135 => (si X (v3 + (2 : Int32))).bind fun x136 => bT1 (f_X13_steps v2 x135 x136 h132) fun x139 h137 => if x134 = x139 then (rec v1 v2 (v3 + 3) h137) else (some (.inl ((0 : Int32), h137)))) else (if (x2 &&& (31 : Int32)) = 13 then ((si X (v3 + (1 : Int32))).bind fun x142 => (si X (v3 + (2 : Int32))).bind fun x143 => bT1 (f_X12_can v1 x142 x143 h) fun x146 h144 => (si X (v3 + (1 : Int32))).bind fun x147 => (si X (v3 + (2 : Int32))).bind fun x148 => bT1 (f_X13_can v2 x147 x148 h144) fun x151 h149 => if x146 = x151 then (rec v1 v2 (v3 + 3) h149) else (some (.inl ((0 : Int32), h149)))) else (if (x2 &&& (31 : Int32)) = 14 then ((si X (v3 + (1 : Int32))).bind fun x154 => (si X (v3 + (2 : Int32))).bind fun x155 => bT1 (f_X12_pays v1 x154 x155 h) fun x158 h156 => (si X (v3 + (1 : Int32))).bind fun x159 => (si X (v3 + (2 : Int32))).bind fun x160 => bT1 (f_X13_pays v2 x159 x160 h156) fun x163 h161 => if x158 = x163 then (rec v1 v2 (v3 + 3) h161) else (some (.inl ((0 : Int32), h161)))) else (if (x2 &&& (31 : Int32)) = 15 then ((si X (v3 + (1 : Int32))).bind fun x166 => bT1 (f_X12_plan v1 x166 h) fun x169 h167 => (si X (v3 + (1 : Int32))).bind fun x170 => bT1 (f_X13_plan v2 x170 h167) fun x173 h171 => if x169 = x173 then (rec v1 v2 (v3 + 3) h171) else (some (.inl ((0 : Int32), h171)))) else (if (x2 &&& (31 : Int32)) = 16 then ((si X (v3 + (1 : Int32))).bind fun x176 => (si X (v3 + (2 : Int32))).bind fun x177 => bT1 (f_X12_round v1 x176 x177 h) fun x180 h178 => (si X (v3 + (1 : Int32))).bind fun x181 => (si X (v3 + (2 : Int32))).bind fun x182 => bT1 (f_X13_round v2 x181 x182 h178) fun x185 h183 => if x180 = x185 then (rec v1 v2 (v3 + 3) h183) else (some (.inl ((0 : Int32), h183)))) else (if (x2 &&& (31 : Int32)) = 17 then ((si X (v3 + (1 : Int32))).bind fun x188 => (si X (v3 + (2 : Int32))).bind fun x189 => bT1 (f_X12_colic v1 x188 x189 h) fun x192 h190 => (si X (v3 + (1 : Int32))).bind fun x193 => (si X (v3 + (2 : Int32))).bind fun x194 => bT1 (f_X13_colic v2 x193 x194 h190) fun x197 h195 => if x192 = x197 then (rec v1 v2 (v3 + 3) h195) else (some (.inl ((0 : Int32), h195)))) else (if (x2 &&& (31 : Int32)) = 18 then ((si X (v3 + (1 : Int32))).bind fun x200 => (si X (v3 + (2 : Int32))).bind fun x201 => if x201 = 0 then (f_L_law_669 X rec v1 v2 v3 (0 : Int32) x200 v1 h) else (f_L_law_669 X rec v1 v2 v3 (1 : Int32) x200 v1 h)) else (if (x2 &&& (31 : Int32)) = 19 then (bT1 (f_X12_couldBe v1 h) fun x206 h204 => bT1 (f_X13_couldBe v2 h204) fun x209 h207 => if x206 = x209 then (rec v1 v2 (v3 + 3) h207) else (some (.inl ((0 : Int32), h207)))) else (if (x2 &&& (31 : Int32)) = 20 then (bT1 (f_X12_ask v1 h) fun x214 h212 => bT1 (f_X13_ask v2 h212) fun x217 h215 => if x214 = x217 then (rec v1 v2 (v3 + 3) h215) else (some (.inl ((0 : Int32), h215)))) else (if (x2 &&& (31 : Int32)) = 21 then ((si X (v3 + (1 : Int32))).bind fun x220 => (si X (v3 + (2 : Int32))).bind fun x221 => bT1 (f_X12_write v1 x220 x221 h) fun x224 h222 => (si X (v3 + (1 : Int32))).bind fun x225 => (si X (v3 + (2 : Int32))).bind fun x226 => bT1 (f_X13_write v2 x225 x226 h222) fun x229 h227 => if x224 = x229 then (rec v1 v2 (v3 + 3) h227) else (some (.inl ((0 : Int32), h227)))) else (if (x2 &&& (31 : Int32)) = 22 then (bT1 (f_X12_judge v1 h) fun x234 h232 => bT1 (f_X13_judge v2 h232) fun x237 h235 => if x234 = x237 then (rec v1 v2 (v3 + 3) h235) else (some (.inl ((0 : Int32), h235)))) else (if (x2 &&& (31 : Int32)) = 23 then (bT1 (f_X12_tear v1 h) fun x242 h240 => bT1 (f_X13_tear v2 h240) fun x245 h243 => if x242 = x245 then (rec v1 v2 (v3 + 3) h243) else (some (.inl ((0 : Int32), h243)))) else (if (x2 &&& (31 : Int32)) = 24 then ((si X (v3 + (1 : Int32))).bind fun x248 => bT1 (f_X12_seed v1 x248 h) fun x251 h249 => (si X (v3 + (1 : Int32))).bind fun x252 => bT1 (f_X13_seed v2 x252 h249) fun x255 h253 => if x251 = x255 then (rec v1 v2 (v3 + 3) h253) else (some (.inl ((0 : Int32), h253)))) else (if (x2 &&& (31 : Int32)) = 25 then ((si X (v3 + (1 : Int32))).bind fun x258 => bT1 (f_X12_keep v1 x258 h) fun x261 h259 => (si X (v3 + (1 : Int32))).bind fun x262 => bT1 (f_X13_keep v2 x262 h259) fun x265 h263 => if x261 = x265 then (rec v1 v2 (v3 + 3) h263) else (some (.inl ((0 : Int32), h263)))) else (if (x2 &&& (31 : Int32)) = 26 then ((si X (v3 + (1 : Int32))).bind fun x268 => bT1 (f_X12_goBack v1 x268 h) fun x271 h269 => (si X (v3 + (1 : Int32))).bind fun x272 => bT1 (f_X13_goBack v2 x272 h269) fun x275 h273 => if x271 = x275 then (rec v1 v2 (v3 + 3) h273) else (some (.inl ((0 : Int32), h273)))) else (rec v1 v2 (v3 + 3) h))))))))))))))))))))))))))))
def f_L_law_L18 (X : SX) : Nat → Nat → Nat → Int32 → AH → Option ((Int32 × AH) ⊕ AH)
  | 0 => fun _ _ _ _ => none
  | n + 1 => F_L_law_L18 X (f_L_law_L18 X n)
set_option maxRecDepth 100000 in
set_option maxHeartbeats 4000000 in
theorem lx_L_law_L18 (X : SX) (d : Nat) : ∀ n (rv : Option Int32) (h' : AH), ∀ (v1 : Nat) (v2 : Nat) (v3 : Int32) (h : AH) (o : (Int32 × AH) ⊕ AH), f_L_law_L18 X n v1 v2 v3 h = some o → PS o rv h' (fun h1 => G X mL_law (d + 11) 859 [] [] h1 rv h') → G X mL_law (d + 11) 18 [(0, .float 0), (1, .ref v1), (2, .ref v2), (3, .int v3)] [] h rv h' := by
  intro n
  induction n with
  | zero =>
    intro rv h' v1 v2 v3 h o hf hP
    cases hf
  | succ n ihf =>
    intro rv h' v1 v2 v3 h o hf hP
    replace hf : F_L_law_L18 X (f_L_law_L18 X n) v1 v2 v3 h = some o := hf
    unfold F_L_law_L18 at hf
    have ih := ihf rv h'
    refine G.iload_n dL_law_18 rfl ?_
    refine G.sload_n dL_law_19 rfl ?_
    refine G.slen dL_law_20 ?_
    refine G.iconst (v := (3 : Int32)) dL_law_21 (by decide) ?_
    refine G.isub dL_law_22 ?_
    refine G.icmp_gt 859 dL_law_23 (by decide) (fun c1 => ?_) (fun c1 => ?_)
    · rw [if_pos c1] at hf
      have hq := Option.some.inj hf
      subst hq
      exact G.pick [] rfl hP
    · rw [if_neg c1] at hf
      refine G.sload_n dL_law_26 rfl ?_
      refine G.iload_n dL_law_27 rfl ?_
      refine G.sldb dL_law_28 hf (fun x2 hf => ?_)
      refine G.bipush (v := (31 : Int32)) dL_law_29 (by decide) ?_
      refine G.iand dL_law_31 ?_
      by_cases c3 : (x2 &&& (31 : Int32)) = 0
      · rw [if_pos c3] at hf
        refine G.tswIn 156 dL_law_32 (by rw [c3]; decide) (by rw [c3]; decide) (by rw [c3]; rfl) (by decide) ?_
        refine G.aload_n dL_law_156 rfl ?_
        refine G.sload_n dL_law_157 rfl ?_
        refine G.iload_n dL_law_158 rfl ?_
        refine G.iconst (v := (1 : Int32)) dL_law_159 (by decide) ?_
        refine G.iadd dL_law_160 ?_
        refine G.sldb dL_law_161 hf (fun x4 hf => ?_)
        obtain ⟨x7, h5, e6, hf⟩ := bT1_spec hf
        refine G.callVi (M' := mX12_feed) (ci := 11) (As := [.int x4]) (st := []) okX12_feed viX12_feed lkL_13 rfl rfl rfl (Nat.le_of_ble_eq_true rfl) (Nat.le_of_ble_eq_true rfl) dL_law_162 (c_X12_feed X (d + 9) _ _ _ _ _ e6).1 (c_X12_feed X (d + 9) _ _ _ _ _ e6).2 ?_
        refine G.aload_n dL_law_165 rfl ?_
        refine G.sload_n dL_law_166 rfl ?_
        refine G.iload_n dL_law_167 rfl ?_
        refine G.iconst (v := (1 : Int32)) dL_law_168 (by decide) ?_
        refine G.iadd dL_law_169 ?_
        refine G.sldb dL_law_170 hf (fun x8 hf => ?_)
        obtain ⟨x11, h9, e10, hf⟩ := bT1_spec hf
        refine G.callVi (M' := mX13_feed) (ci := 12) (As := [.int x8]) (st := [.int x7]) okX13_feed viX13_feed lkL_17 rfl rfl rfl (Nat.le_of_ble_eq_true rfl) (Nat.le_of_ble_eq_true rfl) dL_law_171 (c_X13_feed X (d + 10) _ _ _ _ _ e10).1 (c_X13_feed X (d + 10) _ _ _ _ _ e10).2 ?_
        refine G.icmp_eq 853 dL_law_174 (by decide) (fun c12 => ?_) (fun c12 => ?_)
        · rw [if_pos c12] at hf
          refine G.iinc (v := (v3 + 3)) (lv' := [(3, .int (v3 + 3)), (0, .float 0), (1, .ref v1), (2, .ref v2)]) dL_law_853 rfl rfl (by decide) rfl ?_
          refine G.goto 18 dL_law_856 (by decide) ?_
          exact G.pick [1, 2, 3, 0] rfl (ih v1 v2 (v3 + 3) h9 _ hf hP)
        · rw [if_neg c12] at hf
          refine G.iconst (v := (0 : Int32)) dL_law_177 (by decide) ?_
          have hq := Option.some.inj hf
          subst hq
          obtain ⟨hq1, hq2⟩ := hP
          subst hq1
          subst hq2
          exact G.iret rfl (by decide) dL_law_178
      · rw [if_neg c3] at hf
        by_cases c13 : (x2 &&& (31 : Int32)) = 1
        · rw [if_pos c13] at hf
          refine G.tswIn 179 dL_law_32 (by rw [c13]; decide) (by rw [c13]; decide) (by rw [c13]; rfl) (by decide) ?_
          refine G.aload_n dL_law_179 rfl ?_
          obtain ⟨x16, h14, e15, hf⟩ := bT1_spec hf
          refine G.callVi (M' := mX12_row) (ci := 11) (As := []) (st := []) okX12_row viX12_row lkL_18 rfl rfl rfl (Nat.le_of_ble_eq_true rfl) (Nat.le_of_ble_eq_true rfl) dL_law_180 (c_X12_row X (d + 5) _ _ _ _ e15).1 (c_X12_row X (d + 5) _ _ _ _ e15).2 ?_
          refine G.aload_n dL_law_183 rfl ?_
          obtain ⟨x19, h17, e18, hf⟩ := bT1_spec hf
          refine G.callVi (M' := mX13_row) (ci := 12) (As := []) (st := [.int x16]) okX13_row viX13_row lkL_22 rfl rfl rfl (Nat.le_of_ble_eq_true rfl) (Nat.le_of_ble_eq_true rfl) dL_law_184 (c_X13_row X (d + 6) _ _ _ _ e18).1 (c_X13_row X (d + 6) _ _ _ _ e18).2 ?_
          refine G.icmp_eq 853 dL_law_187 (by decide) (fun c20 => ?_) (fun c20 => ?_)
          · rw [if_pos c20] at hf
            refine G.iinc (v := (v3 + 3)) (lv' := [(3, .int (v3 + 3)), (0, .float 0), (1, .ref v1), (2, .ref v2)]) dL_law_853 rfl rfl (by decide) rfl ?_
            refine G.goto 18 dL_law_856 (by decide) ?_
            exact G.pick [1, 2, 3, 0] rfl (ih v1 v2 (v3 + 3) h17 _ hf hP)
          · rw [if_neg c20] at hf
            refine G.iconst (v := (0 : Int32)) dL_law_190 (by decide) ?_
            have hq := Option.some.inj hf
            subst hq
            obtain ⟨hq1, hq2⟩ := hP
            subst hq1
            subst hq2
            exact G.iret rfl (by decide) dL_law_191
        · rw [if_neg c13] at hf
          by_cases c21 : (x2 &&& (31 : Int32)) = 2
          · rw [if_pos c21] at hf
            refine G.tswIn 192 dL_law_32 (by rw [c21]; decide) (by rw [c21]; decide) (by rw [c21]; rfl) (by decide) ?_
            refine G.aload_n dL_law_192 rfl ?_
            obtain ⟨x24, h22, e23, hf⟩ := bT1_spec hf
            refine G.callVi (M' := mX12_fault) (ci := 11) (As := []) (st := []) okX12_fault viX12_fault lkL_23 rfl rfl rfl (Nat.le_of_ble_eq_true rfl) (Nat.le_of_ble_eq_true rfl) dL_law_193 (c_X12_fault X (d + 10) _ _ _ _ e23).1 (c_X12_fault X (d + 10) _ _ _ _ e23).2 ?_
            refine G.aload_n dL_law_196 rfl ?_
            obtain ⟨x27, h25, e26, hf⟩ := bT1_spec hf
            refine G.callVi (M' := mX13_fault) (ci := 12) (As := []) (st := [.int x24]) okX13_fault viX13_fault lkL_26 rfl rfl rfl (Nat.le_of_ble_eq_true rfl) (Nat.le_of_ble_eq_true rfl) dL_law_197 (c_X13_fault X (d + 10) _ _ _ _ e26).1 (c_X13_fault X (d + 10) _ _ _ _ e26).2 ?_
            refine G.icmp_eq 853 dL_law_200 (by decide) (fun c28 => ?_) (fun c28 => ?_)
            · rw [if_pos c28] at hf
              refine G.iinc (v := (v3 + 3)) (lv' := [(3, .int (v3 + 3)), (0, .float 0), (1, .ref v1), (2, .ref v2)]) dL_law_853 rfl rfl (by decide) rfl ?_
              refine G.goto 18 dL_law_856 (by decide) ?_
              exact G.pick [1, 2, 3, 0] rfl (ih v1 v2 (v3 + 3) h25 _ hf hP)
            · rw [if_neg c28] at hf
              refine G.iconst (v := (0 : Int32)) dL_law_203 (by decide) ?_
              have hq := Option.some.inj hf
              subst hq
              obtain ⟨hq1, hq2⟩ := hP
              subst hq1
              subst hq2
              exact G.iret rfl (by decide) dL_law_204
          · rw [if_neg c21] at hf
            by_cases c29 : (x2 &&& (31 : Int32)) = 3
            · rw [if_pos c29] at hf
              refine G.tswIn 205 dL_law_32 (by rw [c29]; decide) (by rw [c29]; decide) (by rw [c29]; rfl) (by decide) ?_
              refine G.aload_n dL_law_205 rfl ?_
              refine G.sload_n dL_law_206 rfl ?_
              refine G.iload_n dL_law_207 rfl ?_
              refine G.iconst (v := (1 : Int32)) dL_law_208 (by decide) ?_
              refine G.iadd dL_law_209 ?_
              refine G.sldb dL_law_210 hf (fun x30 hf => ?_)
              obtain ⟨x33, h31, e32, hf⟩ := bT1_spec hf
              refine G.callVi (M' := mX12_told) (ci := 11) (As := [.int x30]) (st := []) okX12_told viX12_told lkL_27 rfl rfl rfl (Nat.le_of_ble_eq_true rfl) (Nat.le_of_ble_eq_true rfl) dL_law_211 (c_X12_told X (d + 4) _ _ _ _ _ e32).1 (c_X12_told X (d + 4) _ _ _ _ _ e32).2 ?_
              refine G.aload_n dL_law_214 rfl ?_
              refine G.sload_n dL_law_215 rfl ?_
              refine G.iload_n dL_law_216 rfl ?_
              refine G.iconst (v := (1 : Int32)) dL_law_217 (by decide) ?_
              refine G.iadd dL_law_218 ?_
              refine G.sldb dL_law_219 hf (fun x34 hf => ?_)
              obtain ⟨x37, h35, e36, hf⟩ := bT1_spec hf
              refine G.callVi (M' := mX13_told) (ci := 12) (As := [.int x34]) (st := [.int x33]) okX13_told viX13_told lkL_30 rfl rfl rfl (Nat.le_of_ble_eq_true rfl) (Nat.le_of_ble_eq_true rfl) dL_law_220 (c_X13_told X (d + 4) _ _ _ _ _ e36).1 (c_X13_told X (d + 4) _ _ _ _ _ e36).2 ?_
              refine G.icmp_eq 853 dL_law_223 (by decide) (fun c38 => ?_) (fun c38 => ?_)
              · rw [if_pos c38] at hf
                refine G.iinc (v := (v3 + 3)) (lv' := [(3, .int (v3 + 3)), (0, .float 0), (1, .ref v1), (2, .ref v2)]) dL_law_853 rfl rfl (by decide) rfl ?_
                refine G.goto 18 dL_law_856 (by decide) ?_
                exact G.pick [1, 2, 3, 0] rfl (ih v1 v2 (v3 + 3) h35 _ hf hP)
              · rw [if_neg c38] at hf
                refine G.iconst (v := (0 : Int32)) dL_law_226 (by decide) ?_
                have hq := Option.some.inj hf
                subst hq
                obtain ⟨hq1, hq2⟩ := hP
                subst hq1
                subst hq2
                exact G.iret rfl (by decide) dL_law_227
            · rw [if_neg c29] at hf
              by_cases c39 : (x2 &&& (31 : Int32)) = 4
              · rw [if_pos c39] at hf
                refine G.tswIn 228 dL_law_32 (by rw [c39]; decide) (by rw [c39]; decide) (by rw [c39]; rfl) (by decide) ?_
                refine G.aload_n dL_law_228 rfl ?_
                refine G.sload_n dL_law_229 rfl ?_
                refine G.iload_n dL_law_230 rfl ?_
                refine G.iconst (v := (1 : Int32)) dL_law_231 (by decide) ?_
                refine G.iadd dL_law_232 ?_
                refine G.sldb dL_law_233 hf (fun x40 hf => ?_)
                refine G.sload_n dL_law_234 rfl ?_
                refine G.iload_n dL_law_235 rfl ?_
                refine G.iconst (v := (2 : Int32)) dL_law_236 (by decide) ?_
                refine G.iadd dL_law_237 ?_
                refine G.sldb dL_law_238 hf (fun x41 hf => ?_)
                obtain ⟨x44, h42, e43, hf⟩ := bT1_spec hf
                refine G.callVi (M' := mX12_singer) (ci := 11) (As := [.int x40, .int x41]) (st := []) okX12_singer viX12_singer lkL_31 rfl rfl rfl (Nat.le_of_ble_eq_true rfl) (Nat.le_of_ble_eq_true rfl) dL_law_239 (c_X12_singer X (d + 8) _ _ _ _ _ _ e43).1 (c_X12_singer X (d + 8) _ _ _ _ _ _ e43).2 ?_
                refine G.aload_n dL_law_242 rfl ?_
                refine G.sload_n dL_law_243 rfl ?_
                refine G.iload_n dL_law_244 rfl ?_
                refine G.iconst (v := (1 : Int32)) dL_law_245 (by decide) ?_
                refine G.iadd dL_law_246 ?_
                refine G.sldb dL_law_247 hf (fun x45 hf => ?_)
                refine G.sload_n dL_law_248 rfl ?_
                refine G.iload_n dL_law_249 rfl ?_
                refine G.iconst (v := (2 : Int32)) dL_law_250 (by decide) ?_
                refine G.iadd dL_law_251 ?_
                refine G.sldb dL_law_252 hf (fun x46 hf => ?_)
                obtain ⟨x49, h47, e48, hf⟩ := bT1_spec hf
                refine G.callVi (M' := mX13_singer) (ci := 12) (As := [.int x45, .int x46]) (st := [.int x44]) okX13_singer viX13_singer lkL_35 rfl rfl rfl (Nat.le_of_ble_eq_true rfl) (Nat.le_of_ble_eq_true rfl) dL_law_253 (c_X13_singer X (d + 9) _ _ _ _ _ _ e48).1 (c_X13_singer X (d + 9) _ _ _ _ _ _ e48).2 ?_
                refine G.icmp_eq 853 dL_law_256 (by decide) (fun c50 => ?_) (fun c50 => ?_)
                · rw [if_pos c50] at hf
                  refine G.iinc (v := (v3 + 3)) (lv' := [(3, .int (v3 + 3)), (0, .float 0), (1, .ref v1), (2, .ref v2)]) dL_law_853 rfl rfl (by decide) rfl ?_
                  refine G.goto 18 dL_law_856 (by decide) ?_
                  exact G.pick [1, 2, 3, 0] rfl (ih v1 v2 (v3 + 3) h47 _ hf hP)
                · rw [if_neg c50] at hf
                  refine G.iconst (v := (0 : Int32)) dL_law_259 (by decide) ?_
                  have hq := Option.some.inj hf
                  subst hq
                  obtain ⟨hq1, hq2⟩ := hP
                  subst hq1
                  subst hq2
                  exact G.iret rfl (by decide) dL_law_260
              · rw [if_neg c39] at hf
                by_cases c51 : (x2 &&& (31 : Int32)) = 5
                · rw [if_pos c51] at hf
                  refine G.tswIn 261 dL_law_32 (by rw [c51]; decide) (by rw [c51]; decide) (by rw [c51]; rfl) (by decide) ?_
                  refine G.aload_n dL_law_261 rfl ?_
                  refine G.sload_n dL_law_262 rfl ?_
                  refine G.iload_n dL_law_263 rfl ?_
                  refine G.iconst (v := (1 : Int32)) dL_law_264 (by decide) ?_
                  refine G.iadd dL_law_265 ?_
                  refine G.sldb dL_law_266 hf (fun x52 hf => ?_)
                  refine G.sload_n dL_law_267 rfl ?_
                  refine G.iload_n dL_law_268 rfl ?_
                  refine G.iconst (v := (2 : Int32)) dL_law_269 (by decide) ?_
                  refine G.iadd dL_law_270 ?_
                  refine G.sldb dL_law_271 hf (fun x53 hf => ?_)
                  obtain ⟨x56, h54, e55, hf⟩ := bT1_spec hf
                  refine G.callVi (M' := mX12_child) (ci := 11) (As := [.int x52, .int x53]) (st := []) okX12_child viX12_child lkL_36 rfl rfl rfl (Nat.le_of_ble_eq_true rfl) (Nat.le_of_ble_eq_true rfl) dL_law_272 (c_X12_child X (d + 8) _ _ _ _ _ _ e55).1 (c_X12_child X (d + 8) _ _ _ _ _ _ e55).2 ?_
                  refine G.aload_n dL_law_275 rfl ?_
                  refine G.sload_n dL_law_276 rfl ?_
                  refine G.iload_n dL_law_277 rfl ?_
                  refine G.iconst (v := (1 : Int32)) dL_law_278 (by decide) ?_
                  refine G.iadd dL_law_279 ?_
                  refine G.sldb dL_law_280 hf (fun x57 hf => ?_)
                  refine G.sload_n dL_law_281 rfl ?_
                  refine G.iload_n dL_law_282 rfl ?_
                  refine G.iconst (v := (2 : Int32)) dL_law_283 (by decide) ?_
                  refine G.iadd dL_law_284 ?_
                  refine G.sldb dL_law_285 hf (fun x58 hf => ?_)
                  obtain ⟨x61, h59, e60, hf⟩ := bT1_spec hf
                  refine G.callVi (M' := mX13_child) (ci := 12) (As := [.int x57, .int x58]) (st := [.int x56]) okX13_child viX13_child lkL_39 rfl rfl rfl (Nat.le_of_ble_eq_true rfl) (Nat.le_of_ble_eq_true rfl) dL_law_286 (c_X13_child X (d + 8) _ _ _ _ _ _ e60).1 (c_X13_child X (d + 8) _ _ _ _ _ _ e60).2 ?_
                  refine G.icmp_eq 853 dL_law_289 (by decide) (fun c62 => ?_) (fun c62 => ?_)
                  · rw [if_pos c62] at hf
                    refine G.iinc (v := (v3 + 3)) (lv' := [(3, .int (v3 + 3)), (0, .float 0), (1, .ref v1), (2, .ref v2)]) dL_law_853 rfl rfl (by decide) rfl ?_
                    refine G.goto 18 dL_law_856 (by decide) ?_
                    exact G.pick [1, 2, 3, 0] rfl (ih v1 v2 (v3 + 3) h59 _ hf hP)
                  · rw [if_neg c62] at hf
                    refine G.iconst (v := (0 : Int32)) dL_law_292 (by decide) ?_
                    have hq := Option.some.inj hf
                    subst hq
                    obtain ⟨hq1, hq2⟩ := hP
                    subst hq1
                    subst hq2
                    exact G.iret rfl (by decide) dL_law_293
                · rw [if_neg c51] at hf
                  by_cases c63 : (x2 &&& (31 : Int32)) = 6
                  · rw [if_pos c63] at hf
                    refine G.tswIn 294 dL_law_32 (by rw [c63]; decide) (by rw [c63]; decide) (by rw [c63]; rfl) (by decide) ?_
                    refine G.aload_n dL_law_294 rfl ?_
                    refine G.sload_n dL_law_295 rfl ?_
                    refine G.iload_n dL_law_296 rfl ?_
                    refine G.iconst (v := (1 : Int32)) dL_law_297 (by decide) ?_
                    refine G.iadd dL_law_298 ?_
                    refine G.sldb dL_law_299 hf (fun x64 hf => ?_)
                    refine G.sload_n dL_law_300 rfl ?_
                    refine G.iload_n dL_law_301 rfl ?_
                    refine G.iconst (v := (2 : Int32)) dL_law_302 (by decide) ?_
                    refine G.iadd dL_law_303 ?_
                    refine G.sldb dL_law_304 hf (fun x65 hf => ?_)
                    obtain ⟨x68, h66, e67, hf⟩ := bT1_spec hf
                    refine G.callVi (M' := mX12_go) (ci := 11) (As := [.int x64, .int x65]) (st := []) okX12_go viX12_go lkL_40 rfl rfl rfl (Nat.le_of_ble_eq_true rfl) (Nat.le_of_ble_eq_true rfl) dL_law_305 (c_X12_go X (d + 7) _ _ _ _ _ _ e67).1 (c_X12_go X (d + 7) _ _ _ _ _ _ e67).2 ?_
                    refine G.aload_n dL_law_308 rfl ?_
                    refine G.sload_n dL_law_309 rfl ?_
                    refine G.iload_n dL_law_310 rfl ?_
                    refine G.iconst (v := (1 : Int32)) dL_law_311 (by decide) ?_
                    refine G.iadd dL_law_312 ?_
                    refine G.sldb dL_law_313 hf (fun x69 hf => ?_)
                    refine G.sload_n dL_law_314 rfl ?_
                    refine G.iload_n dL_law_315 rfl ?_
                    refine G.iconst (v := (2 : Int32)) dL_law_316 (by decide) ?_
                    refine G.iadd dL_law_317 ?_
                    refine G.sldb dL_law_318 hf (fun x70 hf => ?_)
                    obtain ⟨x73, h71, e72, hf⟩ := bT1_spec hf
                    refine G.callVi (M' := mX13_go) (ci := 12) (As := [.int x69, .int x70]) (st := [.int x68]) okX13_go viX13_go lkL_43 rfl rfl rfl (Nat.le_of_ble_eq_true rfl) (Nat.le_of_ble_eq_true rfl) dL_law_319 (c_X13_go X (d + 9) _ _ _ _ _ _ e72).1 (c_X13_go X (d + 9) _ _ _ _ _ _ e72).2 ?_
                    refine G.icmp_eq 853 dL_law_322 (by decide) (fun c74 => ?_) (fun c74 => ?_)
                    · rw [if_pos c74] at hf
                      refine G.iinc (v := (v3 + 3)) (lv' := [(3, .int (v3 + 3)), (0, .float 0), (1, .ref v1), (2, .ref v2)]) dL_law_853 rfl rfl (by decide) rfl ?_
                      refine G.goto 18 dL_law_856 (by decide) ?_
                      exact G.pick [1, 2, 3, 0] rfl (ih v1 v2 (v3 + 3) h71 _ hf hP)
                    · rw [if_neg c74] at hf
                      refine G.iconst (v := (0 : Int32)) dL_law_325 (by decide) ?_
                      have hq := Option.some.inj hf
                      subst hq
                      obtain ⟨hq1, hq2⟩ := hP
                      subst hq1
                      subst hq2
                      exact G.iret rfl (by decide) dL_law_326
                  · rw [if_neg c63] at hf
                    by_cases c75 : (x2 &&& (31 : Int32)) = 7
                    · rw [if_pos c75] at hf
                      refine G.tswIn 327 dL_law_32 (by rw [c75]; decide) (by rw [c75]; decide) (by rw [c75]; rfl) (by decide) ?_
                      refine G.aload_n dL_law_327 rfl ?_
                      refine G.sload_n dL_law_328 rfl ?_
                      refine G.iload_n dL_law_329 rfl ?_
                      refine G.iconst (v := (1 : Int32)) dL_law_330 (by decide) ?_
                      refine G.iadd dL_law_331 ?_
                      refine G.sldb dL_law_332 hf (fun x76 hf => ?_)
                      refine G.sload_n dL_law_333 rfl ?_
                      refine G.iload_n dL_law_334 rfl ?_
                      refine G.iconst (v := (2 : Int32)) dL_law_335 (by decide) ?_
                      refine G.iadd dL_law_336 ?_
                      refine G.sldb dL_law_337 hf (fun x77 hf => ?_)
                      obtain ⟨x80, h78, e79, hf⟩ := bT1_spec hf
                      refine G.callVi (M' := mX12_sing) (ci := 11) (As := [.int x76, .int x77]) (st := []) okX12_sing viX12_sing lkL_44 rfl rfl rfl (Nat.le_of_ble_eq_true rfl) (Nat.le_of_ble_eq_true rfl) dL_law_338 (c_X12_sing X (d + 7) _ _ _ _ _ _ e79).1 (c_X12_sing X (d + 7) _ _ _ _ _ _ e79).2 ?_
                      refine G.aload_n dL_law_341 rfl ?_
                      refine G.sload_n dL_law_342 rfl ?_
                      refine G.iload_n dL_law_343 rfl ?_
                      refine G.iconst (v := (1 : Int32)) dL_law_344 (by decide) ?_
                      refine G.iadd dL_law_345 ?_
                      refine G.sldb dL_law_346 hf (fun x81 hf => ?_)
                      refine G.sload_n dL_law_347 rfl ?_
                      refine G.iload_n dL_law_348 rfl ?_
                      refine G.iconst (v := (2 : Int32)) dL_law_349 (by decide) ?_
                      refine G.iadd dL_law_350 ?_
                      refine G.sldb dL_law_351 hf (fun x82 hf => ?_)
                      obtain ⟨x85, h83, e84, hf⟩ := bT1_spec hf
                      refine G.callVi (M' := mX13_sing) (ci := 12) (As := [.int x81, .int x82]) (st := [.int x80]) okX13_sing viX13_sing lkL_47 rfl rfl rfl (Nat.le_of_ble_eq_true rfl) (Nat.le_of_ble_eq_true rfl) dL_law_352 (c_X13_sing X (d + 7) _ _ _ _ _ _ e84).1 (c_X13_sing X (d + 7) _ _ _ _ _ _ e84).2 ?_
                      refine G.icmp_eq 853 dL_law_355 (by decide) (fun c86 => ?_) (fun c86 => ?_)
                      · rw [if_pos c86] at hf
                        refine G.iinc (v := (v3 + 3)) (lv' := [(3, .int (v3 + 3)), (0, .float 0), (1, .ref v1), (2, .ref v2)]) dL_law_853 rfl rfl (by decide) rfl ?_
                        refine G.goto 18 dL_law_856 (by decide) ?_
                        exact G.pick [1, 2, 3, 0] rfl (ih v1 v2 (v3 + 3) h83 _ hf hP)
                      · rw [if_neg c86] at hf
                        refine G.iconst (v := (0 : Int32)) dL_law_358 (by decide) ?_
                        have hq := Option.some.inj hf
                        subst hq
                        obtain ⟨hq1, hq2⟩ := hP
                        subst hq1
                        subst hq2
                        exact G.iret rfl (by decide) dL_law_359
                    · rw [if_neg c75] at hf
                      by_cases c87 : (x2 &&& (31 : Int32)) = 8
                      · rw [if_pos c87] at hf
                        refine G.tswIn 360 dL_law_32 (by rw [c87]; decide) (by rw [c87]; decide) (by rw [c87]; rfl) (by decide) ?_
                        refine G.aload_n dL_law_360 rfl ?_
                        refine G.sload_n dL_law_361 rfl ?_
                        refine G.iload_n dL_law_362 rfl ?_
                        refine G.iconst (v := (1 : Int32)) dL_law_363 (by decide) ?_
                        refine G.iadd dL_law_364 ?_
                        refine G.sldb dL_law_365 hf (fun x88 hf => ?_)
                        refine G.sload_n dL_law_366 rfl ?_
                        refine G.iload_n dL_law_367 rfl ?_
                        refine G.iconst (v := (2 : Int32)) dL_law_368 (by decide) ?_
                        refine G.iadd dL_law_369 ?_
                        refine G.sldb dL_law_370 hf (fun x89 hf => ?_)
                        obtain ⟨x92, h90, e91, hf⟩ := bT1_spec hf
                        refine G.callVi (M' := mX12_carry) (ci := 11) (As := [.int x88, .int x89]) (st := []) okX12_carry viX12_carry lkL_48 rfl rfl rfl (Nat.le_of_ble_eq_true rfl) (Nat.le_of_ble_eq_true rfl) dL_law_371 (c_X12_carry X (d + 7) _ _ _ _ _ _ e91).1 (c_X12_carry X (d + 7) _ _ _ _ _ _ e91).2 ?_
                        refine G.aload_n dL_law_374 rfl ?_
                        refine G.sload_n dL_law_375 rfl ?_
                        refine G.iload_n dL_law_376 rfl ?_
                        refine G.iconst (v := (1 : Int32)) dL_law_377 (by decide) ?_
                        refine G.iadd dL_law_378 ?_
                        refine G.sldb dL_law_379 hf (fun x93 hf => ?_)
                        refine G.sload_n dL_law_380 rfl ?_
                        refine G.iload_n dL_law_381 rfl ?_
                        refine G.iconst (v := (2 : Int32)) dL_law_382 (by decide) ?_
                        refine G.iadd dL_law_383 ?_
                        refine G.sldb dL_law_384 hf (fun x94 hf => ?_)
                        obtain ⟨x97, h95, e96, hf⟩ := bT1_spec hf
                        refine G.callVi (M' := mX13_carry) (ci := 12) (As := [.int x93, .int x94]) (st := [.int x92]) okX13_carry viX13_carry lkL_51 rfl rfl rfl (Nat.le_of_ble_eq_true rfl) (Nat.le_of_ble_eq_true rfl) dL_law_385 (c_X13_carry X (d + 9) _ _ _ _ _ _ e96).1 (c_X13_carry X (d + 9) _ _ _ _ _ _ e96).2 ?_
                        refine G.icmp_eq 853 dL_law_388 (by decide) (fun c98 => ?_) (fun c98 => ?_)
                        · rw [if_pos c98] at hf
                          refine G.iinc (v := (v3 + 3)) (lv' := [(3, .int (v3 + 3)), (0, .float 0), (1, .ref v1), (2, .ref v2)]) dL_law_853 rfl rfl (by decide) rfl ?_
                          refine G.goto 18 dL_law_856 (by decide) ?_
                          exact G.pick [1, 2, 3, 0] rfl (ih v1 v2 (v3 + 3) h95 _ hf hP)
                        · rw [if_neg c98] at hf
                          refine G.iconst (v := (0 : Int32)) dL_law_391 (by decide) ?_
                          have hq := Option.some.inj hf
                          subst hq
                          obtain ⟨hq1, hq2⟩ := hP
                          subst hq1
                          subst hq2
                          exact G.iret rfl (by decide) dL_law_392
                      · rw [if_neg c87] at hf
                        by_cases c99 : (x2 &&& (31 : Int32)) = 9
                        · rw [if_pos c99] at hf
                          refine G.tswIn 393 dL_law_32 (by rw [c99]; decide) (by rw [c99]; decide) (by rw [c99]; rfl) (by decide) ?_
                          refine G.aload_n dL_law_393 rfl ?_
                          refine G.sload_n dL_law_394 rfl ?_
                          refine G.iload_n dL_law_395 rfl ?_
                          refine G.iconst (v := (1 : Int32)) dL_law_396 (by decide) ?_
                          refine G.iadd dL_law_397 ?_
                          refine G.sldb dL_law_398 hf (fun x100 hf => ?_)
                          obtain ⟨x103, h101, e102, hf⟩ := bT1_spec hf
                          refine G.callVi (M' := mX12_evening) (ci := 11) (As := [.int x100]) (st := []) okX12_evening viX12_evening lkL_52 rfl rfl rfl (Nat.le_of_ble_eq_true rfl) (Nat.le_of_ble_eq_true rfl) dL_law_399 (c_X12_evening X (d + 7) _ _ _ _ _ e102).1 (c_X12_evening X (d + 7) _ _ _ _ _ e102).2 ?_
                          refine G.aload_n dL_law_402 rfl ?_
                          refine G.sload_n dL_law_403 rfl ?_
                          refine G.iload_n dL_law_404 rfl ?_
                          refine G.iconst (v := (1 : Int32)) dL_law_405 (by decide) ?_
                          refine G.iadd dL_law_406 ?_
                          refine G.sldb dL_law_407 hf (fun x104 hf => ?_)
                          obtain ⟨x107, h105, e106, hf⟩ := bT1_spec hf
                          refine G.callVi (M' := mX13_evening) (ci := 12) (As := [.int x104]) (st := [.int x103]) okX13_evening viX13_evening lkL_55 rfl rfl rfl (Nat.le_of_ble_eq_true rfl) (Nat.le_of_ble_eq_true rfl) dL_law_408 (c_X13_evening X (d + 9) _ _ _ _ _ e106).1 (c_X13_evening X (d + 9) _ _ _ _ _ e106).2 ?_
                          refine G.icmp_eq 853 dL_law_411 (by decide) (fun c108 => ?_) (fun c108 => ?_)
                          · rw [if_pos c108] at hf
                            refine G.iinc (v := (v3 + 3)) (lv' := [(3, .int (v3 + 3)), (0, .float 0), (1, .ref v1), (2, .ref v2)]) dL_law_853 rfl rfl (by decide) rfl ?_
                            refine G.goto 18 dL_law_856 (by decide) ?_
                            exact G.pick [1, 2, 3, 0] rfl (ih v1 v2 (v3 + 3) h105 _ hf hP)
                          · rw [if_neg c108] at hf
                            refine G.iconst (v := (0 : Int32)) dL_law_414 (by decide) ?_
                            have hq := Option.some.inj hf
                            subst hq
                            obtain ⟨hq1, hq2⟩ := hP
                            subst hq1
                            subst hq2
                            exact G.iret rfl (by decide) dL_law_415
                        · rw [if_neg c99] at hf
                          by_cases c109 : (x2 &&& (31 : Int32)) = 10
                          · rw [if_pos c109] at hf
                            refine G.tswIn 416 dL_law_32 (by rw [c109]; decide) (by rw [c109]; decide) (by rw [c109]; rfl) (by decide) ?_
                            refine G.aload_n dL_law_416 rfl ?_
                            refine G.sload_n dL_law_417 rfl ?_
                            refine G.iload_n dL_law_418 rfl ?_
                            refine G.iconst (v := (1 : Int32)) dL_law_419 (by decide) ?_
                            refine G.iadd dL_law_420 ?_
                            refine G.sldb dL_law_421 hf (fun x110 hf => ?_)
                            obtain ⟨x113, h111, e112, hf⟩ := bT1_spec hf
                            refine G.callVi (M' := mX12_drift) (ci := 11) (As := [.int x110]) (st := []) okX12_drift viX12_drift lkL_56 rfl rfl rfl (Nat.le_of_ble_eq_true rfl) (Nat.le_of_ble_eq_true rfl) dL_law_422 (c_X12_drift X (d + 5) _ _ _ _ _ e112).1 (c_X12_drift X (d + 5) _ _ _ _ _ e112).2 ?_
                            refine G.aload_n dL_law_425 rfl ?_
                            refine G.sload_n dL_law_426 rfl ?_
                            refine G.iload_n dL_law_427 rfl ?_
                            refine G.iconst (v := (1 : Int32)) dL_law_428 (by decide) ?_
                            refine G.iadd dL_law_429 ?_
                            refine G.sldb dL_law_430 hf (fun x114 hf => ?_)
                            obtain ⟨x117, h115, e116, hf⟩ := bT1_spec hf
                            refine G.callVi (M' := mX13_drift) (ci := 12) (As := [.int x114]) (st := [.int x113]) okX13_drift viX13_drift lkL_59 rfl rfl rfl (Nat.le_of_ble_eq_true rfl) (Nat.le_of_ble_eq_true rfl) dL_law_431 (c_X13_drift X (d + 6) _ _ _ _ _ e116).1 (c_X13_drift X (d + 6) _ _ _ _ _ e116).2 ?_
                            refine G.icmp_eq 853 dL_law_434 (by decide) (fun c118 => ?_) (fun c118 => ?_)
                            · rw [if_pos c118] at hf
                              refine G.iinc (v := (v3 + 3)) (lv' := [(3, .int (v3 + 3)), (0, .float 0), (1, .ref v1), (2, .ref v2)]) dL_law_853 rfl rfl (by decide) rfl ?_
                              refine G.goto 18 dL_law_856 (by decide) ?_
                              exact G.pick [1, 2, 3, 0] rfl (ih v1 v2 (v3 + 3) h115 _ hf hP)
                            · rw [if_neg c118] at hf
                              refine G.iconst (v := (0 : Int32)) dL_law_437 (by decide) ?_
                              have hq := Option.some.inj hf
                              subst hq
                              obtain ⟨hq1, hq2⟩ := hP
                              subst hq1
                              subst hq2
                              exact G.iret rfl (by decide) dL_law_438
                          · rw [if_neg c109] at hf
                            by_cases c119 : (x2 &&& (31 : Int32)) = 11
                            · rw [if_pos c119] at hf
                              refine G.tswIn 439 dL_law_32 (by rw [c119]; decide) (by rw [c119]; decide) (by rw [c119]; rfl) (by decide) ?_
                              refine G.aload_n dL_law_439 rfl ?_
                              refine G.sload_n dL_law_440 rfl ?_
                              refine G.iload_n dL_law_441 rfl ?_
                              refine G.iconst (v := (1 : Int32)) dL_law_442 (by decide) ?_
                              refine G.iadd dL_law_443 ?_
                              refine G.sldb dL_law_444 hf (fun x120 hf => ?_)
                              obtain ⟨x123, h121, e122, hf⟩ := bT1_spec hf
                              refine G.callVi (M' := mX12_undo) (ci := 11) (As := [.int x120]) (st := []) okX12_undo viX12_undo lkL_60 rfl rfl rfl (Nat.le_of_ble_eq_true rfl) (Nat.le_of_ble_eq_true rfl) dL_law_445 (c_X12_undo X (d + 7) _ _ _ _ _ e122).1 (c_X12_undo X (d + 7) _ _ _ _ _ e122).2 ?_
                              refine G.aload_n dL_law_448 rfl ?_
                              refine G.sload_n dL_law_449 rfl ?_
                              refine G.iload_n dL_law_450 rfl ?_
                              refine G.iconst (v := (1 : Int32)) dL_law_451 (by decide) ?_
                              refine G.iadd dL_law_452 ?_
                              refine G.sldb dL_law_453 hf (fun x124 hf => ?_)
                              obtain ⟨x127, h125, e126, hf⟩ := bT1_spec hf
                              refine G.callVi (M' := mX13_undo) (ci := 12) (As := [.int x124]) (st := [.int x123]) okX13_undo viX13_undo lkL_63 rfl rfl rfl (Nat.le_of_ble_eq_true rfl) (Nat.le_of_ble_eq_true rfl) dL_law_454 (c_X13_undo X (d + 10) _ _ _ _ _ e126).1 (c_X13_undo X (d + 10) _ _ _ _ _ e126).2 ?_
                              refine G.icmp_eq 853 dL_law_457 (by decide) (fun c128 => ?_) (fun c128 => ?_)
                              · rw [if_pos c128] at hf
                                refine G.iinc (v := (v3 + 3)) (lv' := [(3, .int (v3 + 3)), (0, .float 0), (1, .ref v1), (2, .ref v2)]) dL_law_853 rfl rfl (by decide) rfl ?_
                                refine G.goto 18 dL_law_856 (by decide) ?_
                                exact G.pick [1, 2, 3, 0] rfl (ih v1 v2 (v3 + 3) h125 _ hf hP)
                              · rw [if_neg c128] at hf
                                refine G.iconst (v := (0 : Int32)) dL_law_460 (by decide) ?_
                                have hq := Option.some.inj hf
                                subst hq
                                obtain ⟨hq1, hq2⟩ := hP
                                subst hq1
                                subst hq2
                                exact G.iret rfl (by decide) dL_law_461
                            · rw [if_neg c119] at hf
                              by_cases c129 : (x2 &&& (31 : Int32)) = 12
                              · rw [if_pos c129] at hf
                                refine G.tswIn 462 dL_law_32 (by rw [c129]; decide) (by rw [c129]; decide) (by rw [c129]; rfl) (by decide) ?_
                                refine G.aload_n dL_law_462 rfl ?_
                                refine G.sload_n dL_law_463 rfl ?_
                                refine G.iload_n dL_law_464 rfl ?_
                                refine G.iconst (v := (1 : Int32)) dL_law_465 (by decide) ?_
                                refine G.iadd dL_law_466 ?_
                                refine G.sldb dL_law_467 hf (fun x130 hf => ?_)
                                refine G.sload_n dL_law_468 rfl ?_
                                refine G.iload_n dL_law_469 rfl ?_
                                refine G.iconst (v := (2 : Int32)) dL_law_470 (by decide) ?_
                                refine G.iadd dL_law_471 ?_
                                refine G.sldb dL_law_472 hf (fun x131 hf => ?_)
                                obtain ⟨x134, h132, e133, hf⟩ := bT1_spec hf
                                refine G.callVi (M' := mX12_steps) (ci := 11) (As := [.int x130, .int x131]) (st := []) okX12_steps viX12_steps lkL_64 rfl rfl rfl (Nat.le_of_ble_eq_true rfl) (Nat.le_of_ble_eq_true rfl) dL_law_473 (c_X12_steps X (d + 8) _ _ _ _ _ _ e133).1 (c_X12_steps X (d + 8) _ _ _ _ _ _ e133).2 ?_
                                refine G.aload_n dL_law_476 rfl ?_
                                refine G.sload_n dL_law_477 rfl ?_
                                refine G.iload_n dL_law_478 rfl ?_
                                refine G.iconst (v := (1 : Int32)) dL_law_479 (by decide) ?_
                                refine G.iadd dL_law_480 ?_
                                refine G.sldb dL_law_481 hf (fun x135 hf => ?_)
                                refine G.sload_n dL_law_482 rfl ?_
                                refine G.iload_n dL_law_483 rfl ?_
                                refine G.iconst (v := (2 : Int32)) dL_law_484 (by decide) ?_
                                refine G.iadd dL_law_485 ?_
                                refine G.sldb dL_law_486 hf (fun x136 hf => ?_)
                                obtain ⟨x139, h137, e138, hf⟩ := bT1_spec hf
                                refine G.callVi (M' := mX13_steps) (ci := 12) (As := [.int x135, .int x136]) (st := [.int x134]) okX13_steps viX13_steps lkL_67 rfl rfl rfl (Nat.le_of_ble_eq_true rfl) (Nat.le_of_ble_eq_true rfl) dL_law_487 (c_X13_steps X (d + 9) _ _ _ _ _ _ e138).1 (c_X13_steps X (d + 9) _ _ _ _ _ _ e138).2 ?_
                                refine G.icmp_eq 853 dL_law_490 (by decide) (fun c140 => ?_) (fun c140 => ?_)
                                · rw [if_pos c140] at hf
                                  refine G.iinc (v := (v3 + 3)) (lv' := [(3, .int (v3 + 3)), (0, .float 0), (1, .ref v1), (2, .ref v2)]) dL_law_853 rfl rfl (by decide) rfl ?_
                                  refine G.goto 18 dL_law_856 (by decide) ?_
                                  exact G.pick [1, 2, 3, 0] rfl (ih v1 v2 (v3 + 3) h137 _ hf hP)
                                · rw [if_neg c140] at hf
                                  refine G.iconst (v := (0 : Int32)) dL_law_493 (by decide) ?_
                                  have hq := Option.some.inj hf
                                  subst hq
                                  obtain ⟨hq1, hq2⟩ := hP
                                  subst hq1
                                  subst hq2
                                  exact G.iret rfl (by decide) dL_law_494
                              · rw [if_neg c129] at hf
                                by_cases c141 : (x2 &&& (31 : Int32)) = 13
                                · rw [if_pos c141] at hf
                                  refine G.tswIn 495 dL_law_32 (by rw [c141]; decide) (by rw [c141]; decide) (by rw [c141]; rfl) (by decide) ?_
                                  refine G.aload_n dL_law_495 rfl ?_
                                  refine G.sload_n dL_law_496 rfl ?_
                                  refine G.iload_n dL_law_497 rfl ?_
                                  refine G.iconst (v := (1 : Int32)) dL_law_498 (by decide) ?_
                                  refine G.iadd dL_law_499 ?_
                                  refine G.sldb dL_law_500 hf (fun x142 hf => ?_)
                                  refine G.sload_n dL_law_501 rfl ?_
                                  refine G.iload_n dL_law_502 rfl ?_
                                  refine G.iconst (v := (2 : Int32)) dL_law_503 (by decide) ?_
                                  refine G.iadd dL_law_504 ?_
                                  refine G.sldb dL_law_505 hf (fun x143 hf => ?_)
                                  obtain ⟨x146, h144, e145, hf⟩ := bT1_spec hf
                                  refine G.callVi (M' := mX12_can) (ci := 11) (As := [.int x142, .int x143]) (st := []) okX12_can viX12_can lkL_68 rfl rfl rfl (Nat.le_of_ble_eq_true rfl) (Nat.le_of_ble_eq_true rfl) dL_law_506 (c_X12_can X (d + 7) _ _ _ _ _ _ e145).1 (c_X12_can X (d + 7) _ _ _ _ _ _ e145).2 ?_
                                  refine G.aload_n dL_law_509 rfl ?_
                                  refine G.sload_n dL_law_510 rfl ?_
                                  refine G.iload_n dL_law_511 rfl ?_
                                  refine G.iconst (v := (1 : Int32)) dL_law_512 (by decide) ?_
                                  refine G.iadd dL_law_513 ?_
                                  refine G.sldb dL_law_514 hf (fun x147 hf => ?_)
                                  refine G.sload_n dL_law_515 rfl ?_
                                  refine G.iload_n dL_law_516 rfl ?_
                                  refine G.iconst (v := (2 : Int32)) dL_law_517 (by decide) ?_
                                  refine G.iadd dL_law_518 ?_
                                  refine G.sldb dL_law_519 hf (fun x148 hf => ?_)
                                  obtain ⟨x151, h149, e150, hf⟩ := bT1_spec hf
                                  refine G.callVi (M' := mX13_can) (ci := 12) (As := [.int x147, .int x148]) (st := [.int x146]) okX13_can viX13_can lkL_71 rfl rfl rfl (Nat.le_of_ble_eq_true rfl) (Nat.le_of_ble_eq_true rfl) dL_law_520 (c_X13_can X (d + 7) _ _ _ _ _ _ e150).1 (c_X13_can X (d + 7) _ _ _ _ _ _ e150).2 ?_
                                  refine G.icmp_eq 853 dL_law_523 (by decide) (fun c152 => ?_) (fun c152 => ?_)
                                  · rw [if_pos c152] at hf
                                    refine G.iinc (v := (v3 + 3)) (lv' := [(3, .int (v3 + 3)), (0, .float 0), (1, .ref v1), (2, .ref v2)]) dL_law_853 rfl rfl (by decide) rfl ?_
                                    refine G.goto 18 dL_law_856 (by decide) ?_
                                    exact G.pick [1, 2, 3, 0] rfl (ih v1 v2 (v3 + 3) h149 _ hf hP)
                                  · rw [if_neg c152] at hf
                                    refine G.iconst (v := (0 : Int32)) dL_law_526 (by decide) ?_
                                    have hq := Option.some.inj hf
                                    subst hq
                                    obtain ⟨hq1, hq2⟩ := hP
                                    subst hq1
                                    subst hq2
                                    exact G.iret rfl (by decide) dL_law_527
                                · rw [if_neg c141] at hf
                                  by_cases c153 : (x2 &&& (31 : Int32)) = 14
                                  · rw [if_pos c153] at hf
                                    refine G.tswIn 528 dL_law_32 (by rw [c153]; decide) (by rw [c153]; decide) (by rw [c153]; rfl) (by decide) ?_
                                    refine G.aload_n dL_law_528 rfl ?_
                                    refine G.sload_n dL_law_529 rfl ?_
                                    refine G.iload_n dL_law_530 rfl ?_
                                    refine G.iconst (v := (1 : Int32)) dL_law_531 (by decide) ?_
                                    refine G.iadd dL_law_532 ?_
                                    refine G.sldb dL_law_533 hf (fun x154 hf => ?_)
                                    refine G.sload_n dL_law_534 rfl ?_
                                    refine G.iload_n dL_law_535 rfl ?_
                                    refine G.iconst (v := (2 : Int32)) dL_law_536 (by decide) ?_
                                    refine G.iadd dL_law_537 ?_
                                    refine G.sldb dL_law_538 hf (fun x155 hf => ?_)
                                    obtain ⟨x158, h156, e157, hf⟩ := bT1_spec hf
                                    refine G.callVi (M' := mX12_pays) (ci := 11) (As := [.int x154, .int x155]) (st := []) okX12_pays viX12_pays lkL_72 rfl rfl rfl (Nat.le_of_ble_eq_true rfl) (Nat.le_of_ble_eq_true rfl) dL_law_539 (c_X12_pays X (d + 6) _ _ _ _ _ _ e157).1 (c_X12_pays X (d + 6) _ _ _ _ _ _ e157).2 ?_
                                    refine G.aload_n dL_law_542 rfl ?_
                                    refine G.sload_n dL_law_543 rfl ?_
                                    refine G.iload_n dL_law_544 rfl ?_
                                    refine G.iconst (v := (1 : Int32)) dL_law_545 (by decide) ?_
                                    refine G.iadd dL_law_546 ?_
                                    refine G.sldb dL_law_547 hf (fun x159 hf => ?_)
                                    refine G.sload_n dL_law_548 rfl ?_
                                    refine G.iload_n dL_law_549 rfl ?_
                                    refine G.iconst (v := (2 : Int32)) dL_law_550 (by decide) ?_
                                    refine G.iadd dL_law_551 ?_
                                    refine G.sldb dL_law_552 hf (fun x160 hf => ?_)
                                    obtain ⟨x163, h161, e162, hf⟩ := bT1_spec hf
                                    refine G.callVi (M' := mX13_pays) (ci := 12) (As := [.int x159, .int x160]) (st := [.int x158]) okX13_pays viX13_pays lkL_75 rfl rfl rfl (Nat.le_of_ble_eq_true rfl) (Nat.le_of_ble_eq_true rfl) dL_law_553 (c_X13_pays X (d + 6) _ _ _ _ _ _ e162).1 (c_X13_pays X (d + 6) _ _ _ _ _ _ e162).2 ?_
                                    refine G.icmp_eq 853 dL_law_556 (by decide) (fun c164 => ?_) (fun c164 => ?_)
                                    · rw [if_pos c164] at hf
                                      refine G.iinc (v := (v3 + 3)) (lv' := [(3, .int (v3 + 3)), (0, .float 0), (1, .ref v1), (2, .ref v2)]) dL_law_853 rfl rfl (by decide) rfl ?_
                                      refine G.goto 18 dL_law_856 (by decide) ?_
                                      exact G.pick [1, 2, 3, 0] rfl (ih v1 v2 (v3 + 3) h161 _ hf hP)
                                    · rw [if_neg c164] at hf
                                      refine G.iconst (v := (0 : Int32)) dL_law_559 (by decide) ?_
                                      have hq := Option.some.inj hf
                                      subst hq
                                      obtain ⟨hq1, hq2⟩ := hP
                                      subst hq1
                                      subst hq2
                                      exact G.iret rfl (by decide) dL_law_560
                                  · rw [if_neg c153] at hf
                                    by_cases c165 : (x2 &&& (31 : Int32)) = 15
                                    · rw [if_pos c165] at hf
                                      refine G.tswIn 561 dL_law_32 (by rw [c165]; decide) (by rw [c165]; decide) (by rw [c165]; rfl) (by decide) ?_
                                      refine G.aload_n dL_law_561 rfl ?_
                                      refine G.sload_n dL_law_562 rfl ?_
                                      refine G.iload_n dL_law_563 rfl ?_
                                      refine G.iconst (v := (1 : Int32)) dL_law_564 (by decide) ?_
                                      refine G.iadd dL_law_565 ?_
                                      refine G.sldb dL_law_566 hf (fun x166 hf => ?_)
                                      obtain ⟨x169, h167, e168, hf⟩ := bT1_spec hf
                                      refine G.callVi (M' := mX12_plan) (ci := 11) (As := [.int x166]) (st := []) okX12_plan viX12_plan lkL_76 rfl rfl rfl (Nat.le_of_ble_eq_true rfl) (Nat.le_of_ble_eq_true rfl) dL_law_567 (c_X12_plan X (d + 4) _ _ _ _ _ e168).1 (c_X12_plan X (d + 4) _ _ _ _ _ e168).2 ?_
                                      refine G.aload_n dL_law_570 rfl ?_
                                      refine G.sload_n dL_law_571 rfl ?_
                                      refine G.iload_n dL_law_572 rfl ?_
                                      refine G.iconst (v := (1 : Int32)) dL_law_573 (by decide) ?_
                                      refine G.iadd dL_law_574 ?_
                                      refine G.sldb dL_law_575 hf (fun x170 hf => ?_)
                                      obtain ⟨x173, h171, e172, hf⟩ := bT1_spec hf
                                      refine G.callVi (M' := mX13_plan) (ci := 12) (As := [.int x170]) (st := [.int x169]) okX13_plan viX13_plan lkL_79 rfl rfl rfl (Nat.le_of_ble_eq_true rfl) (Nat.le_of_ble_eq_true rfl) dL_law_576 (c_X13_plan X (d + 4) _ _ _ _ _ e172).1 (c_X13_plan X (d + 4) _ _ _ _ _ e172).2 ?_
                                      refine G.icmp_eq 853 dL_law_579 (by decide) (fun c174 => ?_) (fun c174 => ?_)
                                      · rw [if_pos c174] at hf
                                        refine G.iinc (v := (v3 + 3)) (lv' := [(3, .int (v3 + 3)), (0, .float 0), (1, .ref v1), (2, .ref v2)]) dL_law_853 rfl rfl (by decide) rfl ?_
                                        refine G.goto 18 dL_law_856 (by decide) ?_
                                        exact G.pick [1, 2, 3, 0] rfl (ih v1 v2 (v3 + 3) h171 _ hf hP)
                                      · rw [if_neg c174] at hf
                                        refine G.iconst (v := (0 : Int32)) dL_law_582 (by decide) ?_
                                        have hq := Option.some.inj hf
                                        subst hq
                                        obtain ⟨hq1, hq2⟩ := hP
                                        subst hq1
                                        subst hq2
                                        exact G.iret rfl (by decide) dL_law_583
                                    · rw [if_neg c165] at hf
                                      by_cases c175 : (x2 &&& (31 : Int32)) = 16
                                      · rw [if_pos c175] at hf
                                        refine G.tswIn 584 dL_law_32 (by rw [c175]; decide) (by rw [c175]; decide) (by rw [c175]; rfl) (by decide) ?_
                                        refine G.aload_n dL_law_584 rfl ?_
                                        refine G.sload_n dL_law_585 rfl ?_
                                        refine G.iload_n dL_law_586 rfl ?_
                                        refine G.iconst (v := (1 : Int32)) dL_law_587 (by decide) ?_
                                        refine G.iadd dL_law_588 ?_
                                        refine G.sldb dL_law_589 hf (fun x176 hf => ?_)
                                        refine G.sload_n dL_law_590 rfl ?_
                                        refine G.iload_n dL_law_591 rfl ?_
                                        refine G.iconst (v := (2 : Int32)) dL_law_592 (by decide) ?_
                                        refine G.iadd dL_law_593 ?_
                                        refine G.sldb dL_law_594 hf (fun x177 hf => ?_)
                                        obtain ⟨x180, h178, e179, hf⟩ := bT1_spec hf
                                        refine G.callVi (M' := mX12_round) (ci := 11) (As := [.int x176, .int x177]) (st := []) okX12_round viX12_round lkL_80 rfl rfl rfl (Nat.le_of_ble_eq_true rfl) (Nat.le_of_ble_eq_true rfl) dL_law_595 (c_X12_round X d _ _ _ _ _ _ e179).1 (c_X12_round X d _ _ _ _ _ _ e179).2 ?_
                                        refine G.aload_n dL_law_598 rfl ?_
                                        refine G.sload_n dL_law_599 rfl ?_
                                        refine G.iload_n dL_law_600 rfl ?_
                                        refine G.iconst (v := (1 : Int32)) dL_law_601 (by decide) ?_
                                        refine G.iadd dL_law_602 ?_
                                        refine G.sldb dL_law_603 hf (fun x181 hf => ?_)
                                        refine G.sload_n dL_law_604 rfl ?_
                                        refine G.iload_n dL_law_605 rfl ?_
                                        refine G.iconst (v := (2 : Int32)) dL_law_606 (by decide) ?_
                                        refine G.iadd dL_law_607 ?_
                                        refine G.sldb dL_law_608 hf (fun x182 hf => ?_)
                                        obtain ⟨x185, h183, e184, hf⟩ := bT1_spec hf
                                        refine G.callVi (M' := mX13_round) (ci := 12) (As := [.int x181, .int x182]) (st := [.int x180]) okX13_round viX13_round lkL_83 rfl rfl rfl (Nat.le_of_ble_eq_true rfl) (Nat.le_of_ble_eq_true rfl) dL_law_609 (c_X13_round X (d + 7) _ _ _ _ _ _ e184).1 (c_X13_round X (d + 7) _ _ _ _ _ _ e184).2 ?_
                                        refine G.icmp_eq 853 dL_law_612 (by decide) (fun c186 => ?_) (fun c186 => ?_)
                                        · rw [if_pos c186] at hf
                                          refine G.iinc (v := (v3 + 3)) (lv' := [(3, .int (v3 + 3)), (0, .float 0), (1, .ref v1), (2, .ref v2)]) dL_law_853 rfl rfl (by decide) rfl ?_
                                          refine G.goto 18 dL_law_856 (by decide) ?_
                                          exact G.pick [1, 2, 3, 0] rfl (ih v1 v2 (v3 + 3) h183 _ hf hP)
                                        · rw [if_neg c186] at hf
                                          refine G.iconst (v := (0 : Int32)) dL_law_615 (by decide) ?_
                                          have hq := Option.some.inj hf
                                          subst hq
                                          obtain ⟨hq1, hq2⟩ := hP
                                          subst hq1
                                          subst hq2
                                          exact G.iret rfl (by decide) dL_law_616
                                      · rw [if_neg c175] at hf
                                        by_cases c187 : (x2 &&& (31 : Int32)) = 17
                                        · rw [if_pos c187] at hf
                                          refine G.tswIn 617 dL_law_32 (by rw [c187]; decide) (by rw [c187]; decide) (by rw [c187]; rfl) (by decide) ?_
                                          refine G.aload_n dL_law_617 rfl ?_
                                          refine G.sload_n dL_law_618 rfl ?_
                                          refine G.iload_n dL_law_619 rfl ?_
                                          refine G.iconst (v := (1 : Int32)) dL_law_620 (by decide) ?_
                                          refine G.iadd dL_law_621 ?_
                                          refine G.sldb dL_law_622 hf (fun x188 hf => ?_)
                                          refine G.sload_n dL_law_623 rfl ?_
                                          refine G.iload_n dL_law_624 rfl ?_
                                          refine G.iconst (v := (2 : Int32)) dL_law_625 (by decide) ?_
                                          refine G.iadd dL_law_626 ?_
                                          refine G.sldb dL_law_627 hf (fun x189 hf => ?_)
                                          obtain ⟨x192, h190, e191, hf⟩ := bT1_spec hf
                                          refine G.callVi (M' := mX12_colic) (ci := 11) (As := [.int x188, .int x189]) (st := []) okX12_colic viX12_colic lkL_84 rfl rfl rfl (Nat.le_of_ble_eq_true rfl) (Nat.le_of_ble_eq_true rfl) dL_law_628 (c_X12_colic X (d + 10) _ _ _ _ _ _ e191).1 (c_X12_colic X (d + 10) _ _ _ _ _ _ e191).2 ?_
                                          refine G.aload_n dL_law_631 rfl ?_
                                          refine G.sload_n dL_law_632 rfl ?_
                                          refine G.iload_n dL_law_633 rfl ?_
                                          refine G.iconst (v := (1 : Int32)) dL_law_634 (by decide) ?_
                                          refine G.iadd dL_law_635 ?_
                                          refine G.sldb dL_law_636 hf (fun x193 hf => ?_)
                                          refine G.sload_n dL_law_637 rfl ?_
                                          refine G.iload_n dL_law_638 rfl ?_
                                          refine G.iconst (v := (2 : Int32)) dL_law_639 (by decide) ?_
                                          refine G.iadd dL_law_640 ?_
                                          refine G.sldb dL_law_641 hf (fun x194 hf => ?_)
                                          obtain ⟨x197, h195, e196, hf⟩ := bT1_spec hf
                                          refine G.callVi (M' := mX13_colic) (ci := 12) (As := [.int x193, .int x194]) (st := [.int x192]) okX13_colic viX13_colic lkL_87 rfl rfl rfl (Nat.le_of_ble_eq_true rfl) (Nat.le_of_ble_eq_true rfl) dL_law_642 (c_X13_colic X (d + 10) _ _ _ _ _ _ e196).1 (c_X13_colic X (d + 10) _ _ _ _ _ _ e196).2 ?_
                                          refine G.icmp_eq 853 dL_law_645 (by decide) (fun c198 => ?_) (fun c198 => ?_)
                                          · rw [if_pos c198] at hf
                                            refine G.iinc (v := (v3 + 3)) (lv' := [(3, .int (v3 + 3)), (0, .float 0), (1, .ref v1), (2, .ref v2)]) dL_law_853 rfl rfl (by decide) rfl ?_
                                            refine G.goto 18 dL_law_856 (by decide) ?_
                                            exact G.pick [1, 2, 3, 0] rfl (ih v1 v2 (v3 + 3) h195 _ hf hP)
                                          · rw [if_neg c198] at hf
                                            refine G.iconst (v := (0 : Int32)) dL_law_648 (by decide) ?_
                                            have hq := Option.some.inj hf
                                            subst hq
                                            obtain ⟨hq1, hq2⟩ := hP
                                            subst hq1
                                            subst hq2
                                            exact G.iret rfl (by decide) dL_law_649
                                        · rw [if_neg c187] at hf
                                          by_cases c199 : (x2 &&& (31 : Int32)) = 18
                                          · rw [if_pos c199] at hf
                                            refine G.tswIn 650 dL_law_32 (by rw [c199]; decide) (by rw [c199]; decide) (by rw [c199]; rfl) (by decide) ?_
                                            refine G.aload_n dL_law_650 rfl ?_
                                            refine G.sload_n dL_law_651 rfl ?_
                                            refine G.iload_n dL_law_652 rfl ?_
                                            refine G.iconst (v := (1 : Int32)) dL_law_653 (by decide) ?_
                                            refine G.iadd dL_law_654 ?_
                                            refine G.sldb dL_law_655 hf (fun x200 hf => ?_)
                                            refine G.sload_n dL_law_656 rfl ?_
                                            refine G.iload_n dL_law_657 rfl ?_
                                            refine G.iconst (v := (2 : Int32)) dL_law_658 (by decide) ?_
                                            refine G.iadd dL_law_659 ?_
                                            refine G.sldb dL_law_660 hf (fun x201 hf => ?_)
                                            refine G.if_eq 668 dL_law_661 (by decide) (fun c202 => ?_) (fun c202 => ?_)
                                            · rw [if_pos c202] at hf
                                              refine G.iconst (v := (0 : Int32)) dL_law_668 (by decide) ?_
                                              exact G.pick [0, 1, 2, 3] rfl (j_L_law_669 X d _ ihf v1 v2 v3 (0 : Int32) x200 v1 h _ hf _ _ hP)
                                            · rw [if_neg c202] at hf
                                              refine G.iconst (v := (1 : Int32)) dL_law_664 (by decide) ?_
                                              refine G.goto 669 dL_law_665 (by decide) ?_
                                              exact G.pick [0, 1, 2, 3] rfl (j_L_law_669 X d _ ihf v1 v2 v3 (1 : Int32) x200 v1 h _ hf _ _ hP)
                                          · rw [if_neg c199] at hf
                                            by_cases c203 : (x2 &&& (31 : Int32)) = 19
                                            · rw [if_pos c203] at hf
                                              refine G.tswIn 699 dL_law_32 (by rw [c203]; decide) (by rw [c203]; decide) (by rw [c203]; rfl) (by decide) ?_
                                              refine G.aload_n dL_law_699 rfl ?_
                                              obtain ⟨x206, h204, e205, hf⟩ := bT1_spec hf
                                              refine G.callVi (M' := mX12_couldBe) (ci := 11) (As := []) (st := []) okX12_couldBe viX12_couldBe lkL_93 rfl rfl rfl (Nat.le_of_ble_eq_true rfl) (Nat.le_of_ble_eq_true rfl) dL_law_700 (c_X12_couldBe X (d + 8) _ _ _ _ e205).1 (c_X12_couldBe X (d + 8) _ _ _ _ e205).2 ?_
                                              refine G.aload_n dL_law_703 rfl ?_
                                              obtain ⟨x209, h207, e208, hf⟩ := bT1_spec hf
                                              refine G.callVi (M' := mX13_couldBe) (ci := 12) (As := []) (st := [.int x206]) okX13_couldBe viX13_couldBe lkL_96 rfl rfl rfl (Nat.le_of_ble_eq_true rfl) (Nat.le_of_ble_eq_true rfl) dL_law_704 (c_X13_couldBe X (d + 10) _ _ _ _ e208).1 (c_X13_couldBe X (d + 10) _ _ _ _ e208).2 ?_
                                              refine G.icmp_eq 853 dL_law_707 (by decide) (fun c210 => ?_) (fun c210 => ?_)
                                              · rw [if_pos c210] at hf
                                                refine G.iinc (v := (v3 + 3)) (lv' := [(3, .int (v3 + 3)), (0, .float 0), (1, .ref v1), (2, .ref v2)]) dL_law_853 rfl rfl (by decide) rfl ?_
                                                refine G.goto 18 dL_law_856 (by decide) ?_
                                                exact G.pick [1, 2, 3, 0] rfl (ih v1 v2 (v3 + 3) h207 _ hf hP)
                                              · rw [if_neg c210] at hf
                                                refine G.iconst (v := (0 : Int32)) dL_law_710 (by decide) ?_
                                                have hq := Option.some.inj hf
                                                subst hq
                                                obtain ⟨hq1, hq2⟩ := hP
                                                subst hq1
                                                subst hq2
                                                exact G.iret rfl (by decide) dL_law_711
                                            · rw [if_neg c203] at hf
                                              by_cases c211 : (x2 &&& (31 : Int32)) = 20
                                              · rw [if_pos c211] at hf
                                                refine G.tswIn 712 dL_law_32 (by rw [c211]; decide) (by rw [c211]; decide) (by rw [c211]; rfl) (by decide) ?_
                                                refine G.aload_n dL_law_712 rfl ?_
                                                obtain ⟨x214, h212, e213, hf⟩ := bT1_spec hf
                                                refine G.callVi (M' := mX12_ask) (ci := 11) (As := []) (st := []) okX12_ask viX12_ask lkL_97 rfl rfl rfl (Nat.le_of_ble_eq_true rfl) (Nat.le_of_ble_eq_true rfl) dL_law_713 (c_X12_ask X (d + 7) _ _ _ _ e213).1 (c_X12_ask X (d + 7) _ _ _ _ e213).2 ?_
                                                refine G.aload_n dL_law_716 rfl ?_
                                                obtain ⟨x217, h215, e216, hf⟩ := bT1_spec hf
                                                refine G.callVi (M' := mX13_ask) (ci := 12) (As := []) (st := [.int x214]) okX13_ask viX13_ask lkL_100 rfl rfl rfl (Nat.le_of_ble_eq_true rfl) (Nat.le_of_ble_eq_true rfl) dL_law_717 (c_X13_ask X (d + 9) _ _ _ _ e216).1 (c_X13_ask X (d + 9) _ _ _ _ e216).2 ?_
                                                refine G.icmp_eq 853 dL_law_720 (by decide) (fun c218 => ?_) (fun c218 => ?_)
                                                · rw [if_pos c218] at hf
                                                  refine G.iinc (v := (v3 + 3)) (lv' := [(3, .int (v3 + 3)), (0, .float 0), (1, .ref v1), (2, .ref v2)]) dL_law_853 rfl rfl (by decide) rfl ?_
                                                  refine G.goto 18 dL_law_856 (by decide) ?_
                                                  exact G.pick [1, 2, 3, 0] rfl (ih v1 v2 (v3 + 3) h215 _ hf hP)
                                                · rw [if_neg c218] at hf
                                                  refine G.iconst (v := (0 : Int32)) dL_law_723 (by decide) ?_
                                                  have hq := Option.some.inj hf
                                                  subst hq
                                                  obtain ⟨hq1, hq2⟩ := hP
                                                  subst hq1
                                                  subst hq2
                                                  exact G.iret rfl (by decide) dL_law_724
                                              · rw [if_neg c211] at hf
                                                by_cases c219 : (x2 &&& (31 : Int32)) = 21
                                                · rw [if_pos c219] at hf
                                                  refine G.tswIn 725 dL_law_32 (by rw [c219]; decide) (by rw [c219]; decide) (by rw [c219]; rfl) (by decide) ?_
                                                  refine G.aload_n dL_law_725 rfl ?_
                                                  refine G.sload_n dL_law_726 rfl ?_
                                                  refine G.iload_n dL_law_727 rfl ?_
                                                  refine G.iconst (v := (1 : Int32)) dL_law_728 (by decide) ?_
                                                  refine G.iadd dL_law_729 ?_
                                                  refine G.sldb dL_law_730 hf (fun x220 hf => ?_)
                                                  refine G.sload_n dL_law_731 rfl ?_
                                                  refine G.iload_n dL_law_732 rfl ?_
                                                  refine G.iconst (v := (2 : Int32)) dL_law_733 (by decide) ?_
                                                  refine G.iadd dL_law_734 ?_
                                                  refine G.sldb dL_law_735 hf (fun x221 hf => ?_)
                                                  obtain ⟨x224, h222, e223, hf⟩ := bT1_spec hf
                                                  refine G.callVi (M' := mX12_write) (ci := 11) (As := [.int x220, .int x221]) (st := []) okX12_write viX12_write lkL_101 rfl rfl rfl (Nat.le_of_ble_eq_true rfl) (Nat.le_of_ble_eq_true rfl) dL_law_736 (c_X12_write X (d + 9) _ _ _ _ _ _ e223).1 (c_X12_write X (d + 9) _ _ _ _ _ _ e223).2 ?_
                                                  refine G.aload_n dL_law_739 rfl ?_
                                                  refine G.sload_n dL_law_740 rfl ?_
                                                  refine G.iload_n dL_law_741 rfl ?_
                                                  refine G.iconst (v := (1 : Int32)) dL_law_742 (by decide) ?_
                                                  refine G.iadd dL_law_743 ?_
                                                  refine G.sldb dL_law_744 hf (fun x225 hf => ?_)
                                                  refine G.sload_n dL_law_745 rfl ?_
                                                  refine G.iload_n dL_law_746 rfl ?_
                                                  refine G.iconst (v := (2 : Int32)) dL_law_747 (by decide) ?_
                                                  refine G.iadd dL_law_748 ?_
                                                  refine G.sldb dL_law_749 hf (fun x226 hf => ?_)
                                                  obtain ⟨x229, h227, e228, hf⟩ := bT1_spec hf
                                                  refine G.callVi (M' := mX13_write) (ci := 12) (As := [.int x225, .int x226]) (st := [.int x224]) okX13_write viX13_write lkL_104 rfl rfl rfl (Nat.le_of_ble_eq_true rfl) (Nat.le_of_ble_eq_true rfl) dL_law_750 (c_X13_write X (d + 9) _ _ _ _ _ _ e228).1 (c_X13_write X (d + 9) _ _ _ _ _ _ e228).2 ?_
                                                  refine G.icmp_eq 853 dL_law_753 (by decide) (fun c230 => ?_) (fun c230 => ?_)
                                                  · rw [if_pos c230] at hf
                                                    refine G.iinc (v := (v3 + 3)) (lv' := [(3, .int (v3 + 3)), (0, .float 0), (1, .ref v1), (2, .ref v2)]) dL_law_853 rfl rfl (by decide) rfl ?_
                                                    refine G.goto 18 dL_law_856 (by decide) ?_
                                                    exact G.pick [1, 2, 3, 0] rfl (ih v1 v2 (v3 + 3) h227 _ hf hP)
                                                  · rw [if_neg c230] at hf
                                                    refine G.iconst (v := (0 : Int32)) dL_law_756 (by decide) ?_
                                                    have hq := Option.some.inj hf
                                                    subst hq
                                                    obtain ⟨hq1, hq2⟩ := hP
                                                    subst hq1
                                                    subst hq2
                                                    exact G.iret rfl (by decide) dL_law_757
                                                · rw [if_neg c219] at hf
                                                  by_cases c231 : (x2 &&& (31 : Int32)) = 22
                                                  · rw [if_pos c231] at hf
                                                    refine G.tswIn 758 dL_law_32 (by rw [c231]; decide) (by rw [c231]; decide) (by rw [c231]; rfl) (by decide) ?_
                                                    refine G.aload_n dL_law_758 rfl ?_
                                                    obtain ⟨x234, h232, e233, hf⟩ := bT1_spec hf
                                                    refine G.callVi (M' := mX12_judge) (ci := 11) (As := []) (st := []) okX12_judge viX12_judge lkL_105 rfl rfl rfl (Nat.le_of_ble_eq_true rfl) (Nat.le_of_ble_eq_true rfl) dL_law_759 (c_X12_judge X (d + 9) _ _ _ _ e233).1 (c_X12_judge X (d + 9) _ _ _ _ e233).2 ?_
                                                    refine G.aload_n dL_law_762 rfl ?_
                                                    obtain ⟨x237, h235, e236, hf⟩ := bT1_spec hf
                                                    refine G.callVi (M' := mX13_judge) (ci := 12) (As := []) (st := [.int x234]) okX13_judge viX13_judge lkL_108 rfl rfl rfl (Nat.le_of_ble_eq_true rfl) (Nat.le_of_ble_eq_true rfl) dL_law_763 (c_X13_judge X (d + 10) _ _ _ _ e236).1 (c_X13_judge X (d + 10) _ _ _ _ e236).2 ?_
                                                    refine G.icmp_eq 853 dL_law_766 (by decide) (fun c238 => ?_) (fun c238 => ?_)
                                                    · rw [if_pos c238] at hf
                                                      refine G.iinc (v := (v3 + 3)) (lv' := [(3, .int (v3 + 3)), (0, .float 0), (1, .ref v1), (2, .ref v2)]) dL_law_853 rfl rfl (by decide) rfl ?_
                                                      refine G.goto 18 dL_law_856 (by decide) ?_
                                                      exact G.pick [1, 2, 3, 0] rfl (ih v1 v2 (v3 + 3) h235 _ hf hP)
                                                    · rw [if_neg c238] at hf
                                                      refine G.iconst (v := (0 : Int32)) dL_law_769 (by decide) ?_
                                                      have hq := Option.some.inj hf
                                                      subst hq
                                                      obtain ⟨hq1, hq2⟩ := hP
                                                      subst hq1
                                                      subst hq2
                                                      exact G.iret rfl (by decide) dL_law_770
                                                  · rw [if_neg c231] at hf
                                                    by_cases c239 : (x2 &&& (31 : Int32)) = 23
                                                    · rw [if_pos c239] at hf
                                                      refine G.tswIn 771 dL_law_32 (by rw [c239]; decide) (by rw [c239]; decide) (by rw [c239]; rfl) (by decide) ?_
                                                      refine G.aload_n dL_law_771 rfl ?_
                                                      obtain ⟨x242, h240, e241, hf⟩ := bT1_spec hf
                                                      refine G.callVi (M' := mX12_tear) (ci := 11) (As := []) (st := []) okX12_tear viX12_tear lkL_109 rfl rfl rfl (Nat.le_of_ble_eq_true rfl) (Nat.le_of_ble_eq_true rfl) dL_law_772 (c_X12_tear X (d + 9) _ _ _ _ e241).1 (c_X12_tear X (d + 9) _ _ _ _ e241).2 ?_
                                                      refine G.aload_n dL_law_775 rfl ?_
                                                      obtain ⟨x245, h243, e244, hf⟩ := bT1_spec hf
                                                      refine G.callVi (M' := mX13_tear) (ci := 12) (As := []) (st := [.int x242]) okX13_tear viX13_tear lkL_112 rfl rfl rfl (Nat.le_of_ble_eq_true rfl) (Nat.le_of_ble_eq_true rfl) dL_law_776 (c_X13_tear X (d + 10) _ _ _ _ e244).1 (c_X13_tear X (d + 10) _ _ _ _ e244).2 ?_
                                                      refine G.icmp_eq 853 dL_law_779 (by decide) (fun c246 => ?_) (fun c246 => ?_)
                                                      · rw [if_pos c246] at hf
                                                        refine G.iinc (v := (v3 + 3)) (lv' := [(3, .int (v3 + 3)), (0, .float 0), (1, .ref v1), (2, .ref v2)]) dL_law_853 rfl rfl (by decide) rfl ?_
                                                        refine G.goto 18 dL_law_856 (by decide) ?_
                                                        exact G.pick [1, 2, 3, 0] rfl (ih v1 v2 (v3 + 3) h243 _ hf hP)
                                                      · rw [if_neg c246] at hf
                                                        refine G.iconst (v := (0 : Int32)) dL_law_782 (by decide) ?_
                                                        have hq := Option.some.inj hf
                                                        subst hq
                                                        obtain ⟨hq1, hq2⟩ := hP
                                                        subst hq1
                                                        subst hq2
                                                        exact G.iret rfl (by decide) dL_law_783
                                                    · rw [if_neg c239] at hf
                                                      by_cases c247 : (x2 &&& (31 : Int32)) = 24
                                                      · rw [if_pos c247] at hf
                                                        refine G.tswIn 784 dL_law_32 (by rw [c247]; decide) (by rw [c247]; decide) (by rw [c247]; rfl) (by decide) ?_
                                                        refine G.aload_n dL_law_784 rfl ?_
                                                        refine G.sload_n dL_law_785 rfl ?_
                                                        refine G.iload_n dL_law_786 rfl ?_
                                                        refine G.iconst (v := (1 : Int32)) dL_law_787 (by decide) ?_
                                                        refine G.iadd dL_law_788 ?_
                                                        refine G.sldb dL_law_789 hf (fun x248 hf => ?_)
                                                        obtain ⟨x251, h249, e250, hf⟩ := bT1_spec hf
                                                        refine G.callVi (M' := mX12_seed) (ci := 11) (As := [.int x248]) (st := []) okX12_seed viX12_seed lkL_113 rfl rfl rfl (Nat.le_of_ble_eq_true rfl) (Nat.le_of_ble_eq_true rfl) dL_law_790 (c_X12_seed X (d + 10) _ _ _ _ _ e250).1 (c_X12_seed X (d + 10) _ _ _ _ _ e250).2 ?_
                                                        refine G.aload_n dL_law_793 rfl ?_
                                                        refine G.sload_n dL_law_794 rfl ?_
                                                        refine G.iload_n dL_law_795 rfl ?_
                                                        refine G.iconst (v := (1 : Int32)) dL_law_796 (by decide) ?_
                                                        refine G.iadd dL_law_797 ?_
                                                        refine G.sldb dL_law_798 hf (fun x252 hf => ?_)
                                                        obtain ⟨x255, h253, e254, hf⟩ := bT1_spec hf
                                                        refine G.callVi (M' := mX13_seed) (ci := 12) (As := [.int x252]) (st := [.int x251]) okX13_seed viX13_seed lkL_116 rfl rfl rfl (Nat.le_of_ble_eq_true rfl) (Nat.le_of_ble_eq_true rfl) dL_law_799 (c_X13_seed X (d + 10) _ _ _ _ _ e254).1 (c_X13_seed X (d + 10) _ _ _ _ _ e254).2 ?_
                                                        refine G.icmp_eq 853 dL_law_802 (by decide) (fun c256 => ?_) (fun c256 => ?_)
                                                        · rw [if_pos c256] at hf
                                                          refine G.iinc (v := (v3 + 3)) (lv' := [(3, .int (v3 + 3)), (0, .float 0), (1, .ref v1), (2, .ref v2)]) dL_law_853 rfl rfl (by decide) rfl ?_
                                                          refine G.goto 18 dL_law_856 (by decide) ?_
                                                          exact G.pick [1, 2, 3, 0] rfl (ih v1 v2 (v3 + 3) h253 _ hf hP)
                                                        · rw [if_neg c256] at hf
                                                          refine G.iconst (v := (0 : Int32)) dL_law_805 (by decide) ?_
                                                          have hq := Option.some.inj hf
                                                          subst hq
                                                          obtain ⟨hq1, hq2⟩ := hP
                                                          subst hq1
                                                          subst hq2
                                                          exact G.iret rfl (by decide) dL_law_806
                                                      · rw [if_neg c247] at hf
                                                        by_cases c257 : (x2 &&& (31 : Int32)) = 25
                                                        · rw [if_pos c257] at hf
                                                          refine G.tswIn 807 dL_law_32 (by rw [c257]; decide) (by rw [c257]; decide) (by rw [c257]; rfl) (by decide) ?_
                                                          refine G.aload_n dL_law_807 rfl ?_
                                                          refine G.sload_n dL_law_808 rfl ?_
                                                          refine G.iload_n dL_law_809 rfl ?_
                                                          refine G.iconst (v := (1 : Int32)) dL_law_810 (by decide) ?_
                                                          refine G.iadd dL_law_811 ?_
                                                          refine G.sldb dL_law_812 hf (fun x258 hf => ?_)
                                                          obtain ⟨x261, h259, e260, hf⟩ := bT1_spec hf
                                                          refine G.callVi (M' := mX12_keep) (ci := 11) (As := [.int x258]) (st := []) okX12_keep viX12_keep lkL_117 rfl rfl rfl (Nat.le_of_ble_eq_true rfl) (Nat.le_of_ble_eq_true rfl) dL_law_813 (c_X12_keep X (d + 8) _ _ _ _ _ e260).1 (c_X12_keep X (d + 8) _ _ _ _ _ e260).2 ?_
                                                          refine G.aload_n dL_law_816 rfl ?_
                                                          refine G.sload_n dL_law_817 rfl ?_
                                                          refine G.iload_n dL_law_818 rfl ?_
                                                          refine G.iconst (v := (1 : Int32)) dL_law_819 (by decide) ?_
                                                          refine G.iadd dL_law_820 ?_
                                                          refine G.sldb dL_law_821 hf (fun x262 hf => ?_)
                                                          obtain ⟨x265, h263, e264, hf⟩ := bT1_spec hf
                                                          refine G.callVi (M' := mX13_keep) (ci := 12) (As := [.int x262]) (st := [.int x261]) okX13_keep viX13_keep lkL_120 rfl rfl rfl (Nat.le_of_ble_eq_true rfl) (Nat.le_of_ble_eq_true rfl) dL_law_822 (c_X13_keep X (d + 10) _ _ _ _ _ e264).1 (c_X13_keep X (d + 10) _ _ _ _ _ e264).2 ?_
                                                          refine G.icmp_eq 853 dL_law_825 (by decide) (fun c266 => ?_) (fun c266 => ?_)
                                                          · rw [if_pos c266] at hf
                                                            refine G.iinc (v := (v3 + 3)) (lv' := [(3, .int (v3 + 3)), (0, .float 0), (1, .ref v1), (2, .ref v2)]) dL_law_853 rfl rfl (by decide) rfl ?_
                                                            refine G.goto 18 dL_law_856 (by decide) ?_
                                                            exact G.pick [1, 2, 3, 0] rfl (ih v1 v2 (v3 + 3) h263 _ hf hP)
                                                          · rw [if_neg c266] at hf
                                                            refine G.iconst (v := (0 : Int32)) dL_law_828 (by decide) ?_
                                                            have hq := Option.some.inj hf
                                                            subst hq
                                                            obtain ⟨hq1, hq2⟩ := hP
                                                            subst hq1
                                                            subst hq2
                                                            exact G.iret rfl (by decide) dL_law_829
                                                        · rw [if_neg c257] at hf
                                                          by_cases c267 : (x2 &&& (31 : Int32)) = 26
                                                          · rw [if_pos c267] at hf
                                                            refine G.tswIn 830 dL_law_32 (by rw [c267]; decide) (by rw [c267]; decide) (by rw [c267]; rfl) (by decide) ?_
                                                            refine G.aload_n dL_law_830 rfl ?_
                                                            refine G.sload_n dL_law_831 rfl ?_
                                                            refine G.iload_n dL_law_832 rfl ?_
                                                            refine G.iconst (v := (1 : Int32)) dL_law_833 (by decide) ?_
                                                            refine G.iadd dL_law_834 ?_
                                                            refine G.sldb dL_law_835 hf (fun x268 hf => ?_)
                                                            obtain ⟨x271, h269, e270, hf⟩ := bT1_spec hf
                                                            refine G.callVi (M' := mX12_goBack) (ci := 11) (As := [.int x268]) (st := []) okX12_goBack viX12_goBack lkL_121 rfl rfl rfl (Nat.le_of_ble_eq_true rfl) (Nat.le_of_ble_eq_true rfl) dL_law_836 (c_X12_goBack X (d + 8) _ _ _ _ _ e270).1 (c_X12_goBack X (d + 8) _ _ _ _ _ e270).2 ?_
                                                            refine G.aload_n dL_law_839 rfl ?_
                                                            refine G.sload_n dL_law_840 rfl ?_
                                                            refine G.iload_n dL_law_841 rfl ?_
                                                            refine G.iconst (v := (1 : Int32)) dL_law_842 (by decide) ?_
                                                            refine G.iadd dL_law_843 ?_
                                                            refine G.sldb dL_law_844 hf (fun x272 hf => ?_)
                                                            obtain ⟨x275, h273, e274, hf⟩ := bT1_spec hf
                                                            refine G.callVi (M' := mX13_goBack) (ci := 12) (As := [.int x272]) (st := [.int x271]) okX13_goBack viX13_goBack lkL_124 rfl rfl rfl (Nat.le_of_ble_eq_true rfl) (Nat.le_of_ble_eq_true rfl) dL_law_845 (c_X13_goBack X (d + 10) _ _ _ _ _ e274).1 (c_X13_goBack X (d + 10) _ _ _ _ _ e274).2 ?_
                                                            refine G.icmp_eq 853 dL_law_848 (by decide) (fun c276 => ?_) (fun c276 => ?_)
                                                            · rw [if_pos c276] at hf
                                                              refine G.iinc (v := (v3 + 3)) (lv' := [(3, .int (v3 + 3)), (0, .float 0), (1, .ref v1), (2, .ref v2)]) dL_law_853 rfl rfl (by decide) rfl ?_
                                                              refine G.goto 18 dL_law_856 (by decide) ?_
                                                              exact G.pick [1, 2, 3, 0] rfl (ih v1 v2 (v3 + 3) h273 _ hf hP)
                                                            · rw [if_neg c276] at hf
                                                              refine G.iconst (v := (0 : Int32)) dL_law_851 (by decide) ?_
                                                              have hq := Option.some.inj hf
                                                              subst hq
                                                              obtain ⟨hq1, hq2⟩ := hP
                                                              subst hq1
                                                              subst hq2
                                                              exact G.iret rfl (by decide) dL_law_852
                                                          · rw [if_neg c267] at hf
                                                            have nc3 := lv_neT c3 (a := 0) (by decide)
                                                            have nc13 := lv_neT c13 (a := 1) (by decide)
                                                            have nc21 := lv_neT c21 (a := 2) (by decide)
                                                            have nc29 := lv_neT c29 (a := 3) (by decide)
                                                            have nc39 := lv_neT c39 (a := 4) (by decide)
                                                            have nc51 := lv_neT c51 (a := 5) (by decide)
                                                            have nc63 := lv_neT c63 (a := 6) (by decide)
                                                            have nc75 := lv_neT c75 (a := 7) (by decide)
                                                            have nc87 := lv_neT c87 (a := 8) (by decide)
                                                            have nc99 := lv_neT c99 (a := 9) (by decide)
                                                            have nc109 := lv_neT c109 (a := 10) (by decide)
                                                            have nc119 := lv_neT c119 (a := 11) (by decide)
                                                            have nc129 := lv_neT c129 (a := 12) (by decide)
                                                            have nc141 := lv_neT c141 (a := 13) (by decide)
                                                            have nc153 := lv_neT c153 (a := 14) (by decide)
                                                            have nc165 := lv_neT c165 (a := 15) (by decide)
                                                            have nc175 := lv_neT c175 (a := 16) (by decide)
                                                            have nc187 := lv_neT c187 (a := 17) (by decide)
                                                            have nc199 := lv_neT c199 (a := 18) (by decide)
                                                            have nc203 := lv_neT c203 (a := 19) (by decide)
                                                            have nc211 := lv_neT c211 (a := 20) (by decide)
                                                            have nc219 := lv_neT c219 (a := 21) (by decide)
                                                            have nc231 := lv_neT c231 (a := 22) (by decide)
                                                            have nc239 := lv_neT c239 (a := 23) (by decide)
                                                            have nc247 := lv_neT c247 (a := 24) (by decide)
                                                            have nc257 := lv_neT c257 (a := 25) (by decide)
                                                            have nc267 := lv_neT c267 (a := 26) (by decide)
                                                            refine G.tswOut 853 dL_law_32 (by omega) (by decide) ?_
                                                            refine G.iinc (v := (v3 + 3)) (lv' := [(3, .int (v3 + 3)), (0, .float 0), (1, .ref v1), (2, .ref v2)]) dL_law_853 rfl rfl (by decide) rfl ?_
                                                            refine G.goto 18 dL_law_856 (by decide) ?_
                                                            exact G.pick [1, 2, 3, 0] rfl (ih v1 v2 (v3 + 3) h _ hf hP)
theorem l_L_law_L18 (X : SX) (d : Nat) (rv : Option Int32) (h' : AH) (n : Nat) : ∀ (v1 : Nat) (v2 : Nat) (v3 : Int32) (h : AH) (o : (Int32 × AH) ⊕ AH), f_L_law_L18 X n v1 v2 v3 h = some o → PS o rv h' (fun h1 => G X mL_law (d + 11) 859 [] [] h1 rv h') → G X mL_law (d + 11) 18 [(0, .float 0), (1, .ref v1), (2, .ref v2), (3, .int v3)] [] h rv h' := lx_L_law_L18 X d n rv h'
def f_L_law (X : SX)  (h : AH) : Option (Int32 × AH) := (f_X12_init (List.length h) (h ++ [.inr (11, [.null, .null, .null, .null, .null, .null, .null, .null, .null, .int 0])])).bind fun h1 => (f_X13_init (List.length h1) (h1 ++ [.inr (12, [.null, .int 0, .int 0, .int 0, .int 0, .int 0, .int 0, .null, .null, .null, .null, .null, .null, .int 0, .long 0, .null, .null, .null, .null, .int 0, .null, .int 0, .int 0, .int 0, .int 0, .int 0, .int 0, .int 0, .null, .null, .int 0, .int 0, .null, .null, .null, .null, .null, .null])])).bind fun h3 => bS (f_L_law_L18 X 1000000 (List.length h) (List.length h1) (0 : Int32) h3) (fun h5 => some ((1 : Int32), h5))
set_option maxRecDepth 100000 in
set_option maxHeartbeats 4000000 in
theorem c_L_law (X : SX) (d : Nat)  (h : AH) (rr : Int32) (h' : AH) (hf : f_L_law X h = some (rr, h')) : G X mL_law (d + 11) 0 [(0, .float 0)] [] h (some rr) h' := by
  unfold f_L_law at hf
  refine G.new (fs := [.null, .null, .null, .null, .null, .null, .null, .null, .null, .int 0]) ciX12 clL_7 ⟨rfl, by decide +kernel⟩ (fun _ _ => rfl) dL_law_0 ?_
  refine G.dup dL_law_3 rfl ?_
  obtain ⟨h1, e2, hf⟩ := Option.bind_eq_some_iff.mp hf
  refine G.callIv (M' := mX12_init) (As := []) (st := [.ref (List.length h)]) okX12_init ⟨rfl, rfl⟩ viX12_init (Or.inl lkL_9) rfl (Nat.le_of_ble_eq_true rfl) (Nat.le_of_ble_eq_true rfl) dL_law_4 (c_X12_init X (d + 7) _ _ _ e2) ?_
  refine G.astore_n (lv' := [(1, .ref (List.length h)), (0, .float 0)]) dL_law_7 (by decide) rfl ?_
  refine G.new (fs := [.null, .int 0, .int 0, .int 0, .int 0, .int 0, .int 0, .null, .null, .null, .null, .null, .null, .int 0, .long 0, .null, .null, .null, .null, .int 0, .null, .int 0, .int 0, .int 0, .int 0, .int 0, .int 0, .int 0, .null, .null, .int 0, .int 0, .null, .null, .null, .null, .null, .null]) ciX13 clL_10 ⟨rfl, by decide +kernel⟩ (fun _ _ => rfl) dL_law_8 ?_
  refine G.dup dL_law_11 rfl ?_
  obtain ⟨h3, e4, hf⟩ := Option.bind_eq_some_iff.mp hf
  refine G.callIv (M' := mX13_init) (As := []) (st := [.ref (List.length h1)]) okX13_init ⟨rfl, rfl⟩ viX13_init (Or.inl lkL_12) rfl (Nat.le_of_ble_eq_true rfl) (Nat.le_of_ble_eq_true rfl) dL_law_12 (c_X13_init X (d + 9) _ _ _ e4) ?_
  refine G.astore_n (lv' := [(2, .ref (List.length h1)), (1, .ref (List.length h)), (0, .float 0)]) dL_law_15 (by decide) rfl ?_
  refine G.iconst (v := (0 : Int32)) dL_law_16 (by decide) ?_
  refine G.istore_n (lv' := [(3, .int (0 : Int32)), (2, .ref (List.length h1)), (1, .ref (List.length h)), (0, .float 0)]) dL_law_17 (by decide) rfl ?_
  obtain ⟨o7, e6, hf⟩ := bS_spec hf
  refine G.pick [3, 2, 1, 0] rfl (l_L_law_L18 X d _ _ 1000000 (List.length h) (List.length h1) (0 : Int32) h3 o7 e6 ?_)
  rcases o7 with ⟨x8, h9⟩ | h5
  · cases hf
    exact And.intro rfl rfl
  · replace hf : _ = some _ := hf
    show G _ _ _ _ _ _ _ _ _
    refine G.iconst (v := (1 : Int32)) dL_law_859 (by decide) ?_
    obtain ⟨hq1, hq2⟩ := Prod.mk.inj (Option.some.inj hf)
    subst hq1
    subst hq2
    exact G.iret rfl (by decide) dL_law_860
