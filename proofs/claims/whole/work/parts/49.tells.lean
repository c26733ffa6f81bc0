/-- a call that looks, at one number -/
def LookAt (fc fm : AH → Option (Int32 × AH)) (sw : Bool) (σ : Sg) (ς : Lg) : Prop := ∃ r, fc (enc sw σ ς) = some (r, enc sw σ ς) ∧ fm (enc sw σ ς) = some (r, enc sw σ ς)
theorem told_14 {sw : Bool} {σ : Sg} {ς : Lg} (hI : Inv sw σ ς) : ∃ r s1 σ1 ς1 s2 σ2 ς2, f_X12_told 0 14 (enc sw σ ς) = some (r, enc s1 σ1 ς1) ∧ f_X13_told 302 14 (enc s1 σ1 ς1) = some (r, enc s2 σ2 ς2) ∧ Inv s2 σ2 ς2 := by
  obtain ⟨len, H, D, n, m, k, nx, q, e, h⟩ := id hI
  have hcc := h.cc
  obtain ⟨σa, σ1, σ2, w1, w2, w3, hP, hT1, hT2, o1, o2⟩ := tables (ς := ς) true hcc
  have w1' : f_X7_weigh 20 3 (1 : Int32) (enc sw σ ς) = some (enc sw σa ς) := w1
  have w3' : f_X13_plans 302 (0 : Int32) (enc sw σ1 ς) = some (enc sw σ2 ς) := w3
  have hfin : Inv sw σ2 ς := ⟨len, H, D, n, m, k, nx, q, e, h.off (fun a z1 z2 z3 => by rw [o2 a (by omega), o1 a (by omega) (by omega) (by omega)]) (fun j hj => by rw [o2 302 (by omega), o1 302 (by omega) (by omega) (by omega)])⟩
  have l0 : 0 < 448 := by omega
  have v1 : ai (enc sw σ1 ς) 0 22 (0 : Int32) = some (nI (bsR (zWc true (σ 308) (σ 306) (σ 307) (σ 304) (σ 305) n m) m n 0 0)) := by
    have := hT1 0 (by omega) (by omega) 0 (Nat.two_pow_pos m)
    rw [Nat.zero_mul, Nat.zero_add, Nat.sub_zero] at this
    rw [← this]; exact ai_22 l0
  have v2 : ai (enc sw σ2 ς) 0 316 (0 : Int32) = some (nI (bsR (zWc true (σ 308) (σ 306) (σ 307) (σ 304) (σ 305) n m) m n 0 0)) := by
    have := hT2 0 (by omega) (by omega) 0 (by omega)
    rw [Nat.zero_mul, Nat.zero_add, Nat.sub_zero] at this
    rw [← this]; exact ai_316 l0
  have hm : f_X7_mostAsleep 20 3 (enc sw σ ς) = some (nI (bsR (zWc true (σ 308) (σ 306) (σ 307) (σ 304) (σ 305) n m) m n 0 0), enc sw σ1 ς) := by
    unfold f_X7_mostAsleep
    rw [if_pos io_Pl, w1', Option.bind_some, w2, Option.bind_some, gr_Pl_1, Option.bind_some, v1, Option.bind_some]
  refine ⟨nI (bsR (zWc true (σ 308) (σ 306) (σ 307) (σ 304) (σ 305) n m) m n 0 0), sw, σ1, ς, sw, σ2, ς, ?_, ?_, hfin⟩
  · unfold f_X12_told
    rw [if_pos io_LD]
    rw [if_neg (by decide), if_neg (by decide), if_neg (by decide), if_neg (by decide), if_neg (by decide), if_neg (by decide), if_neg (by decide), if_neg (by decide), if_neg (by decide), if_neg (by decide), if_neg (by decide), if_neg (by decide), if_neg (by decide), if_neg (by decide)]
    rw [if_pos rfl, gr_LD_2, Option.bind_some, gr_LD_1, Option.bind_some, hm, bT1_some]
  · unfold f_X13_told
    rw [if_pos io_Mo]
    rw [if_neg (by decide), if_neg (by decide), if_neg (by decide), if_neg (by decide), if_neg (by decide), if_neg (by decide), if_neg (by decide), if_neg (by decide), if_neg (by decide), if_neg (by decide), if_neg (by decide), if_neg (by decide), if_neg (by decide), if_neg (by decide)]
    rw [if_pos rfl, w3', Option.bind_some, gr_Mo_29, Option.bind_some, v2, Option.bind_some]
theorem told_0 {sw : Bool} {σ : Sg} {ς : Lg} {len H D n m k nx q e : Nat} (h : InvG sw σ ς len H D n m k nx q e) : LookAt (f_X12_told 0 0) (f_X13_told 302 0) sw σ ς := by
  have hcc := h.cc
  obtain ⟨-, -, -, ⟨c1, c2, c3, c4⟩, ⟨d1, d2, d3, d4⟩, -, -⟩ := id h.2.2.1
  have n8 : σ 4 8 = σ 308 50 := hcc.2.1.2.2.2.1
  have n9 : σ 4 9 = σ 308 49 := hcc.2.1.2.2.2.2.1
  have n10 : σ 4 10 = σ 308 48 := hcc.2.1.2.2.2.2.2
  have a50 : ai (enc sw σ ς) 0 308 (50 : Int32) = some (σ 308 50) := ai_308 (j := 50) (by omega)
  have a49 : ai (enc sw σ ς) 0 308 (49 : Int32) = some (σ 308 49) := ai_308 (j := 49) (by omega)
  have a48 : ai (enc sw σ ς) 0 308 (48 : Int32) = some (σ 308 48) := ai_308 (j := 48) (by omega)
  refine ⟨nI H, ?_, ?_⟩
  · unfold f_X12_told
    rw [if_pos io_LD]
    rw [if_pos rfl, gr_LD_1, Option.bind_some, gr_Mt_1, Option.bind_some, gi_Ra_7, Option.bind_some, c1]
  · unfold f_X13_told
    rw [if_pos io_Mo]
    rw [if_pos rfl, gi_Mo_3, Option.bind_some, d1]
theorem told_1 {sw : Bool} {σ : Sg} {ς : Lg} {len H D n m k nx q e : Nat} (h : InvG sw σ ς len H D n m k nx q e) : LookAt (f_X12_told 0 1) (f_X13_told 302 1) sw σ ς := by
  have hcc := h.cc
  obtain ⟨-, -, -, ⟨c1, c2, c3, c4⟩, ⟨d1, d2, d3, d4⟩, -, -⟩ := id h.2.2.1
  have n8 : σ 4 8 = σ 308 50 := hcc.2.1.2.2.2.1
  have n9 : σ 4 9 = σ 308 49 := hcc.2.1.2.2.2.2.1
  have n10 : σ 4 10 = σ 308 48 := hcc.2.1.2.2.2.2.2
  have a50 : ai (enc sw σ ς) 0 308 (50 : Int32) = some (σ 308 50) := ai_308 (j := 50) (by omega)
  have a49 : ai (enc sw σ ς) 0 308 (49 : Int32) = some (σ 308 49) := ai_308 (j := 49) (by omega)
  have a48 : ai (enc sw σ ς) 0 308 (48 : Int32) = some (σ 308 48) := ai_308 (j := 48) (by omega)
  refine ⟨nI D, ?_, ?_⟩
  · unfold f_X12_told
    rw [if_pos io_LD]
    rw [if_neg (by decide)]
    rw [if_pos rfl, gr_LD_1, Option.bind_some, gr_Mt_1, Option.bind_some, gi_Ra_8, Option.bind_some, c2]
  · unfold f_X13_told
    rw [if_pos io_Mo]
    rw [if_neg (by decide)]
    rw [if_pos rfl, gi_Mo_4, Option.bind_some, d2]
theorem told_2 {sw : Bool} {σ : Sg} {ς : Lg} {len H D n m k nx q e : Nat} (h : InvG sw σ ς len H D n m k nx q e) : LookAt (f_X12_told 0 2) (f_X13_told 302 2) sw σ ς := by
  have hcc := h.cc
  obtain ⟨-, -, -, ⟨c1, c2, c3, c4⟩, ⟨d1, d2, d3, d4⟩, -, -⟩ := id h.2.2.1
  have n8 : σ 4 8 = σ 308 50 := hcc.2.1.2.2.2.1
  have n9 : σ 4 9 = σ 308 49 := hcc.2.1.2.2.2.2.1
  have n10 : σ 4 10 = σ 308 48 := hcc.2.1.2.2.2.2.2
  have a50 : ai (enc sw σ ς) 0 308 (50 : Int32) = some (σ 308 50) := ai_308 (j := 50) (by omega)
  have a49 : ai (enc sw σ ς) 0 308 (49 : Int32) = some (σ 308 49) := ai_308 (j := 49) (by omega)
  have a48 : ai (enc sw σ ς) 0 308 (48 : Int32) = some (σ 308 48) := ai_308 (j := 48) (by omega)
  refine ⟨nI n, ?_, ?_⟩
  · unfold f_X12_told
    rw [if_pos io_LD]
    rw [if_neg (by decide), if_neg (by decide)]
    rw [if_pos rfl, gr_LD_1, Option.bind_some, gr_Mt_1, Option.bind_some, gi_Ra_9, Option.bind_some, c3]
  · unfold f_X13_told
    rw [if_pos io_Mo]
    rw [if_neg (by decide), if_neg (by decide)]
    rw [if_pos rfl, gi_Mo_5, Option.bind_some, d3]
theorem told_3 {sw : Bool} {σ : Sg} {ς : Lg} {len H D n m k nx q e : Nat} (h : InvG sw σ ς len H D n m k nx q e) : LookAt (f_X12_told 0 3) (f_X13_told 302 3) sw σ ς := by
  have hcc := h.cc
  obtain ⟨-, -, -, ⟨c1, c2, c3, c4⟩, ⟨d1, d2, d3, d4⟩, -, -⟩ := id h.2.2.1
  have n8 : σ 4 8 = σ 308 50 := hcc.2.1.2.2.2.1
  have n9 : σ 4 9 = σ 308 49 := hcc.2.1.2.2.2.2.1
  have n10 : σ 4 10 = σ 308 48 := hcc.2.1.2.2.2.2.2
  have a50 : ai (enc sw σ ς) 0 308 (50 : Int32) = some (σ 308 50) := ai_308 (j := 50) (by omega)
  have a49 : ai (enc sw σ ς) 0 308 (49 : Int32) = some (σ 308 49) := ai_308 (j := 49) (by omega)
  have a48 : ai (enc sw σ ς) 0 308 (48 : Int32) = some (σ 308 48) := ai_308 (j := 48) (by omega)
  refine ⟨nI m, ?_, ?_⟩
  · unfold f_X12_told
    rw [if_pos io_LD]
    rw [if_neg (by decide), if_neg (by decide), if_neg (by decide)]
    rw [if_pos rfl, gr_LD_1, Option.bind_some, gr_Mt_1, Option.bind_some, gi_Ra_10, Option.bind_some, c4]
  · unfold f_X13_told
    rw [if_pos io_Mo]
    rw [if_neg (by decide), if_neg (by decide), if_neg (by decide)]
    rw [if_pos rfl, gi_Mo_6, Option.bind_some, d4]
theorem told_4 {sw : Bool} {σ : Sg} {ς : Lg} {len H D n m k nx q e : Nat} (h : InvG sw σ ς len H D n m k nx q e) : LookAt (f_X12_told 0 4) (f_X13_told 302 4) sw σ ς := by
  have hcc := h.cc
  obtain ⟨-, -, -, ⟨c1, c2, c3, c4⟩, ⟨d1, d2, d3, d4⟩, -, -⟩ := id h.2.2.1
  have n8 : σ 4 8 = σ 308 50 := hcc.2.1.2.2.2.1
  have n9 : σ 4 9 = σ 308 49 := hcc.2.1.2.2.2.2.1
  have n10 : σ 4 10 = σ 308 48 := hcc.2.1.2.2.2.2.2
  have a50 : ai (enc sw σ ς) 0 308 (50 : Int32) = some (σ 308 50) := ai_308 (j := 50) (by omega)
  have a49 : ai (enc sw σ ς) 0 308 (49 : Int32) = some (σ 308 49) := ai_308 (j := 49) (by omega)
  have a48 : ai (enc sw σ ς) 0 308 (48 : Int32) = some (σ 308 48) := ai_308 (j := 48) (by omega)
  refine ⟨nI len, ?_, ?_⟩
  · unfold f_X12_told
    rw [if_pos io_LD]
    rw [if_neg (by decide), if_neg (by decide), if_neg (by decide), if_neg (by decide)]
    rw [if_pos rfl, gr_LD_0, Option.bind_some, gi_Rd_1, Option.bind_some, h.1.2.1]
  · unfold f_X13_told
    rw [if_pos io_Mo]
    rw [if_neg (by decide), if_neg (by decide), if_neg (by decide), if_neg (by decide)]
    rw [if_pos rfl, gi_Mo_1, Option.bind_some, h.1.2.2.1]
theorem told_5 {sw : Bool} {σ : Sg} {ς : Lg} {len H D n m k nx q e : Nat} (h : InvG sw σ ς len H D n m k nx q e) : LookAt (f_X12_told 0 5) (f_X13_told 302 5) sw σ ς := by
  have hcc := h.cc
  obtain ⟨-, -, -, ⟨c1, c2, c3, c4⟩, ⟨d1, d2, d3, d4⟩, -, -⟩ := id h.2.2.1
  have n8 : σ 4 8 = σ 308 50 := hcc.2.1.2.2.2.1
  have n9 : σ 4 9 = σ 308 49 := hcc.2.1.2.2.2.2.1
  have n10 : σ 4 10 = σ 308 48 := hcc.2.1.2.2.2.2.2
  have a50 : ai (enc sw σ ς) 0 308 (50 : Int32) = some (σ 308 50) := ai_308 (j := 50) (by omega)
  have a49 : ai (enc sw σ ς) 0 308 (49 : Int32) = some (σ 308 49) := ai_308 (j := 49) (by omega)
  have a48 : ai (enc sw σ ς) 0 308 (48 : Int32) = some (σ 308 48) := ai_308 (j := 48) (by omega)
  refine ⟨σ 308 50, ?_, ?_⟩
  · unfold f_X12_told
    rw [if_pos io_LD]
    rw [if_neg (by decide), if_neg (by decide), if_neg (by decide), if_neg (by decide), if_neg (by decide)]
    rw [if_pos rfl, gr_LD_1, Option.bind_some, gr_Mt_0, Option.bind_some, gi_Nt_8, Option.bind_some, n8]
  · unfold f_X13_told
    rw [if_pos io_Mo]
    rw [if_neg (by decide), if_neg (by decide), if_neg (by decide), if_neg (by decide), if_neg (by decide)]
    rw [if_pos rfl, gr_Mo_11, Option.bind_some, a50, Option.bind_some]
theorem told_6 {sw : Bool} {σ : Sg} {ς : Lg} {len H D n m k nx q e : Nat} (h : InvG sw σ ς len H D n m k nx q e) : LookAt (f_X12_told 0 6) (f_X13_told 302 6) sw σ ς := by
  have hcc := h.cc
  obtain ⟨-, -, -, ⟨c1, c2, c3, c4⟩, ⟨d1, d2, d3, d4⟩, -, -⟩ := id h.2.2.1
  have n8 : σ 4 8 = σ 308 50 := hcc.2.1.2.2.2.1
  have n9 : σ 4 9 = σ 308 49 := hcc.2.1.2.2.2.2.1
  have n10 : σ 4 10 = σ 308 48 := hcc.2.1.2.2.2.2.2
  have a50 : ai (enc sw σ ς) 0 308 (50 : Int32) = some (σ 308 50) := ai_308 (j := 50) (by omega)
  have a49 : ai (enc sw σ ς) 0 308 (49 : Int32) = some (σ 308 49) := ai_308 (j := 49) (by omega)
  have a48 : ai (enc sw σ ς) 0 308 (48 : Int32) = some (σ 308 48) := ai_308 (j := 48) (by omega)
  refine ⟨σ 4 7, ?_, ?_⟩
  · unfold f_X12_told
    rw [if_pos io_LD]
    rw [if_neg (by decide), if_neg (by decide), if_neg (by decide), if_neg (by decide), if_neg (by decide), if_neg (by decide)]
    rw [if_pos rfl, gr_LD_1, Option.bind_some, gr_Mt_0, Option.bind_some, gi_Nt_7, Option.bind_some]
  · unfold f_X13_told
    rw [if_pos io_Mo]
    rw [if_neg (by decide), if_neg (by decide), if_neg (by decide), if_neg (by decide), if_neg (by decide), if_neg (by decide)]
    rw [if_pos rfl, awake_ok hcc, bT1_some]
theorem told_7 {sw : Bool} {σ : Sg} {ς : Lg} {len H D n m k nx q e : Nat} (h : InvG sw σ ς len H D n m k nx q e) : LookAt (f_X12_told 0 7) (f_X13_told 302 7) sw σ ς := by
  have hcc := h.cc
  obtain ⟨-, -, -, ⟨c1, c2, c3, c4⟩, ⟨d1, d2, d3, d4⟩, -, -⟩ := id h.2.2.1
  have n8 : σ 4 8 = σ 308 50 := hcc.2.1.2.2.2.1
  have n9 : σ 4 9 = σ 308 49 := hcc.2.1.2.2.2.2.1
  have n10 : σ 4 10 = σ 308 48 := hcc.2.1.2.2.2.2.2
  have a50 : ai (enc sw σ ς) 0 308 (50 : Int32) = some (σ 308 50) := ai_308 (j := 50) (by omega)
  have a49 : ai (enc sw σ ς) 0 308 (49 : Int32) = some (σ 308 49) := ai_308 (j := 49) (by omega)
  have a48 : ai (enc sw σ ς) 0 308 (48 : Int32) = some (σ 308 48) := ai_308 (j := 48) (by omega)
  obtain ⟨r, x1, x2⟩ := free_ok (ς := ς) hcc
  refine ⟨r, ?_, ?_⟩
  · unfold f_X12_told
    rw [if_pos io_LD]
    rw [if_neg (by decide), if_neg (by decide), if_neg (by decide), if_neg (by decide), if_neg (by decide), if_neg (by decide), if_neg (by decide)]
    rw [if_pos rfl, gr_LD_1, Option.bind_some, x1, bT1_some]
  · unfold f_X13_told
    rw [if_pos io_Mo]
    rw [if_neg (by decide), if_neg (by decide), if_neg (by decide), if_neg (by decide), if_neg (by decide), if_neg (by decide), if_neg (by decide)]
    rw [if_pos rfl, x2, bT1_some]
theorem told_8 {sw : Bool} {σ : Sg} {ς : Lg} {len H D n m k nx q e : Nat} (h : InvG sw σ ς len H D n m k nx q e) : LookAt (f_X12_told 0 8) (f_X13_told 302 8) sw σ ς := by
  have hcc := h.cc
  obtain ⟨-, -, -, ⟨c1, c2, c3, c4⟩, ⟨d1, d2, d3, d4⟩, -, -⟩ := id h.2.2.1
  have n8 : σ 4 8 = σ 308 50 := hcc.2.1.2.2.2.1
  have n9 : σ 4 9 = σ 308 49 := hcc.2.1.2.2.2.2.1
  have n10 : σ 4 10 = σ 308 48 := hcc.2.1.2.2.2.2.2
  have a50 : ai (enc sw σ ς) 0 308 (50 : Int32) = some (σ 308 50) := ai_308 (j := 50) (by omega)
  have a49 : ai (enc sw σ ς) 0 308 (49 : Int32) = some (σ 308 49) := ai_308 (j := 49) (by omega)
  have a48 : ai (enc sw σ ς) 0 308 (48 : Int32) = some (σ 308 48) := ai_308 (j := 48) (by omega)
  refine ⟨σ 308 49, ?_, ?_⟩
  · unfold f_X12_told
    rw [if_pos io_LD]
    rw [if_neg (by decide), if_neg (by decide), if_neg (by decide), if_neg (by decide), if_neg (by decide), if_neg (by decide), if_neg (by decide), if_neg (by decide)]
    rw [if_pos rfl, gr_LD_1, Option.bind_some, gr_Mt_0, Option.bind_some, gi_Nt_9, Option.bind_some, n9]
  · unfold f_X13_told
    rw [if_pos io_Mo]
    rw [if_neg (by decide), if_neg (by decide), if_neg (by decide), if_neg (by decide), if_neg (by decide), if_neg (by decide), if_neg (by decide), if_neg (by decide)]
    rw [if_pos rfl, gr_Mo_11, Option.bind_some, a49, Option.bind_some]
theorem told_9 {sw : Bool} {σ : Sg} {ς : Lg} {len H D n m k nx q e : Nat} (h : InvG sw σ ς len H D n m k nx q e) : LookAt (f_X12_told 0 9) (f_X13_told 302 9) sw σ ς := by
  have hcc := h.cc
  obtain ⟨-, -, -, ⟨c1, c2, c3, c4⟩, ⟨d1, d2, d3, d4⟩, -, -⟩ := id h.2.2.1
  have n8 : σ 4 8 = σ 308 50 := hcc.2.1.2.2.2.1
  have n9 : σ 4 9 = σ 308 49 := hcc.2.1.2.2.2.2.1
  have n10 : σ 4 10 = σ 308 48 := hcc.2.1.2.2.2.2.2
  have a50 : ai (enc sw σ ς) 0 308 (50 : Int32) = some (σ 308 50) := ai_308 (j := 50) (by omega)
  have a49 : ai (enc sw σ ς) 0 308 (49 : Int32) = some (σ 308 49) := ai_308 (j := 49) (by omega)
  have a48 : ai (enc sw σ ς) 0 308 (48 : Int32) = some (σ 308 48) := ai_308 (j := 48) (by omega)
  refine ⟨σ 308 48, ?_, ?_⟩
  · unfold f_X12_told
    rw [if_pos io_LD]
    rw [if_neg (by decide), if_neg (by decide), if_neg (by decide), if_neg (by decide), if_neg (by decide), if_neg (by decide), if_neg (by decide), if_neg (by decide), if_neg (by decide)]
    rw [if_pos rfl, gr_LD_1, Option.bind_some, gr_Mt_0, Option.bind_some, gi_Nt_10, Option.bind_some, n10]
  · unfold f_X13_told
    rw [if_pos io_Mo]
    rw [if_neg (by decide), if_neg (by decide), if_neg (by decide), if_neg (by decide), if_neg (by decide), if_neg (by decide), if_neg (by decide), if_neg (by decide), if_neg (by decide)]
    rw [if_pos rfl, gr_Mo_11, Option.bind_some, a48, Option.bind_some]
theorem told_10 {sw : Bool} {σ : Sg} {ς : Lg} {len H D n m k nx q e : Nat} (h : InvG sw σ ς len H D n m k nx q e) : LookAt (f_X12_told 0 10) (f_X13_told 302 10) sw σ ς := by
  have hcc := h.cc
  obtain ⟨-, -, -, ⟨c1, c2, c3, c4⟩, ⟨d1, d2, d3, d4⟩, -, -⟩ := id h.2.2.1
  have n8 : σ 4 8 = σ 308 50 := hcc.2.1.2.2.2.1
  have n9 : σ 4 9 = σ 308 49 := hcc.2.1.2.2.2.2.1
  have n10 : σ 4 10 = σ 308 48 := hcc.2.1.2.2.2.2.2
  have a50 : ai (enc sw σ ς) 0 308 (50 : Int32) = some (σ 308 50) := ai_308 (j := 50) (by omega)
  have a49 : ai (enc sw σ ς) 0 308 (49 : Int32) = some (σ 308 49) := ai_308 (j := 49) (by omega)
  have a48 : ai (enc sw σ ς) 0 308 (48 : Int32) = some (σ 308 48) := ai_308 (j := 48) (by omega)
  refine ⟨nI (zSum (σ 308) 0 n), ?_, ?_⟩
  · unfold f_X12_told
    rw [if_pos io_LD]
    rw [if_neg (by decide), if_neg (by decide), if_neg (by decide), if_neg (by decide), if_neg (by decide), if_neg (by decide), if_neg (by decide), if_neg (by decide), if_neg (by decide), if_neg (by decide)]
    rw [if_pos rfl, gr_LD_1, Option.bind_some, sum_C hcc, bT1_some]
  · unfold f_X13_told
    rw [if_pos io_Mo]
    rw [if_neg (by decide), if_neg (by decide), if_neg (by decide), if_neg (by decide), if_neg (by decide), if_neg (by decide), if_neg (by decide), if_neg (by decide), if_neg (by decide), if_neg (by decide)]
    rw [if_pos rfl, sum_M h.2.2.1 hcc.2.2, bT1_some]
theorem told_11 {sw : Bool} {σ : Sg} {ς : Lg} {len H D n m k nx q e : Nat} (h : InvG sw σ ς len H D n m k nx q e) : LookAt (f_X12_told 0 11) (f_X13_told 302 11) sw σ ς := by
  have hcc := h.cc
  obtain ⟨-, -, -, ⟨c1, c2, c3, c4⟩, ⟨d1, d2, d3, d4⟩, -, -⟩ := id h.2.2.1
  have n8 : σ 4 8 = σ 308 50 := hcc.2.1.2.2.2.1
  have n9 : σ 4 9 = σ 308 49 := hcc.2.1.2.2.2.2.1
  have n10 : σ 4 10 = σ 308 48 := hcc.2.1.2.2.2.2.2
  have a50 : ai (enc sw σ ς) 0 308 (50 : Int32) = some (σ 308 50) := ai_308 (j := 50) (by omega)
  have a49 : ai (enc sw σ ς) 0 308 (49 : Int32) = some (σ 308 49) := ai_308 (j := 49) (by omega)
  have a48 : ai (enc sw σ ς) 0 308 (48 : Int32) = some (σ 308 48) := ai_308 (j := 48) (by omega)
  obtain ⟨r, x1, x2⟩ := last_ok (ς := ς) hcc
  refine ⟨r, ?_, ?_⟩
  · unfold f_X12_told
    rw [if_pos io_LD]
    rw [if_neg (by decide), if_neg (by decide), if_neg (by decide), if_neg (by decide), if_neg (by decide), if_neg (by decide), if_neg (by decide), if_neg (by decide), if_neg (by decide), if_neg (by decide), if_neg (by decide)]
    rw [if_pos rfl, gr_LD_1, Option.bind_some, x1, bT1_some]
  · unfold f_X13_told
    rw [if_pos io_Mo]
    rw [if_neg (by decide), if_neg (by decide), if_neg (by decide), if_neg (by decide), if_neg (by decide), if_neg (by decide), if_neg (by decide), if_neg (by decide), if_neg (by decide), if_neg (by decide), if_neg (by decide)]
    rw [if_pos rfl, x2, bT1_some]
theorem told_12 {sw : Bool} {σ : Sg} {ς : Lg} {len H D n m k nx q e : Nat} (h : InvG sw σ ς len H D n m k nx q e) : LookAt (f_X12_told 0 12) (f_X13_told 302 12) sw σ ς := by
  have hcc := h.cc
  obtain ⟨-, -, -, ⟨c1, c2, c3, c4⟩, ⟨d1, d2, d3, d4⟩, -, -⟩ := id h.2.2.1
  have n8 : σ 4 8 = σ 308 50 := hcc.2.1.2.2.2.1
  have n9 : σ 4 9 = σ 308 49 := hcc.2.1.2.2.2.2.1
  have n10 : σ 4 10 = σ 308 48 := hcc.2.1.2.2.2.2.2
  have a50 : ai (enc sw σ ς) 0 308 (50 : Int32) = some (σ 308 50) := ai_308 (j := 50) (by omega)
  have a49 : ai (enc sw σ ς) 0 308 (49 : Int32) = some (σ 308 49) := ai_308 (j := 49) (by omega)
  have a48 : ai (enc sw σ ς) 0 308 (48 : Int32) = some (σ 308 48) := ai_308 (j := 48) (by omega)
  obtain ⟨r, x1, x2⟩ := hard_ok (ς := ς) hcc
  refine ⟨r, ?_, ?_⟩
  · unfold f_X12_told
    rw [if_pos io_LD]
    rw [if_neg (by decide), if_neg (by decide), if_neg (by decide), if_neg (by decide), if_neg (by decide), if_neg (by decide), if_neg (by decide), if_neg (by decide), if_neg (by decide), if_neg (by decide), if_neg (by decide), if_neg (by decide)]
    rw [if_pos rfl, gr_LD_1, Option.bind_some, x1, bT1_some]
  · unfold f_X13_told
    rw [if_pos io_Mo]
    rw [if_neg (by decide), if_neg (by decide), if_neg (by decide), if_neg (by decide), if_neg (by decide), if_neg (by decide), if_neg (by decide), if_neg (by decide), if_neg (by decide), if_neg (by decide), if_neg (by decide), if_neg (by decide)]
    rw [if_pos rfl, x2, bT1_some]
theorem told_13 {sw : Bool} {σ : Sg} {ς : Lg} {len H D n m k nx q e : Nat} (h : InvG sw σ ς len H D n m k nx q e) : LookAt (f_X12_told 0 13) (f_X13_told 302 13) sw σ ς := by
  have hcc := h.cc
  obtain ⟨-, -, -, ⟨c1, c2, c3, c4⟩, ⟨d1, d2, d3, d4⟩, -, -⟩ := id h.2.2.1
  have n8 : σ 4 8 = σ 308 50 := hcc.2.1.2.2.2.1
  have n9 : σ 4 9 = σ 308 49 := hcc.2.1.2.2.2.2.1
  have n10 : σ 4 10 = σ 308 48 := hcc.2.1.2.2.2.2.2
  have a50 : ai (enc sw σ ς) 0 308 (50 : Int32) = some (σ 308 50) := ai_308 (j := 50) (by omega)
  have a49 : ai (enc sw σ ς) 0 308 (49 : Int32) = some (σ 308 49) := ai_308 (j := 49) (by omega)
  have a48 : ai (enc sw σ ς) 0 308 (48 : Int32) = some (σ 308 48) := ai_308 (j := 48) (by omega)
  obtain ⟨r, x1, x2⟩ := spread_ok (ς := ς) hcc
  refine ⟨r, ?_, ?_⟩
  · unfold f_X12_told
    rw [if_pos io_LD]
    rw [if_neg (by decide), if_neg (by decide), if_neg (by decide), if_neg (by decide), if_neg (by decide), if_neg (by decide), if_neg (by decide), if_neg (by decide), if_neg (by decide), if_neg (by decide), if_neg (by decide), if_neg (by decide), if_neg (by decide)]
    rw [if_pos rfl, gr_LD_1, Option.bind_some, x1, bT1_some]
  · unfold f_X13_told
    rw [if_pos io_Mo]
    rw [if_neg (by decide), if_neg (by decide), if_neg (by decide), if_neg (by decide), if_neg (by decide), if_neg (by decide), if_neg (by decide), if_neg (by decide), if_neg (by decide), if_neg (by decide), if_neg (by decide), if_neg (by decide), if_neg (by decide)]
    rw [if_pos rfl, x2, bT1_some]
theorem told_15 {sw : Bool} {σ : Sg} {ς : Lg} {len H D n m k nx q e : Nat} (h : InvG sw σ ς len H D n m k nx q e) : LookAt (f_X12_told 0 15) (f_X13_told 302 15) sw σ ς := by
  have hcc := h.cc
  obtain ⟨-, -, -, ⟨c1, c2, c3, c4⟩, ⟨d1, d2, d3, d4⟩, -, -⟩ := id h.2.2.1
  have n8 : σ 4 8 = σ 308 50 := hcc.2.1.2.2.2.1
  have n9 : σ 4 9 = σ 308 49 := hcc.2.1.2.2.2.2.1
  have n10 : σ 4 10 = σ 308 48 := hcc.2.1.2.2.2.2.2
  have a50 : ai (enc sw σ ς) 0 308 (50 : Int32) = some (σ 308 50) := ai_308 (j := 50) (by omega)
  have a49 : ai (enc sw σ ς) 0 308 (49 : Int32) = some (σ 308 49) := ai_308 (j := 49) (by omega)
  have a48 : ai (enc sw σ ς) 0 308 (48 : Int32) = some (σ 308 48) := ai_308 (j := 48) (by omega)
  obtain ⟨r, x1, x2⟩ := will_ok (ς := ς) hcc
  refine ⟨r, ?_, ?_⟩
  · unfold f_X12_told
    rw [if_pos io_LD]
    rw [if_neg (by decide), if_neg (by decide), if_neg (by decide), if_neg (by decide), if_neg (by decide), if_neg (by decide), if_neg (by decide), if_neg (by decide), if_neg (by decide), if_neg (by decide), if_neg (by decide), if_neg (by decide), if_neg (by decide), if_neg (by decide), if_neg (by decide)]
    rw [if_pos rfl, gr_LD_1, Option.bind_some, x1, bT1_some]
  · unfold f_X13_told
    rw [if_pos io_Mo]
    rw [if_neg (by decide), if_neg (by decide), if_neg (by decide), if_neg (by decide), if_neg (by decide), if_neg (by decide), if_neg (by decide), if_neg (by decide), if_neg (by decide), if_neg (by decide), if_neg (by decide), if_neg (by decide), if_neg (by decide), if_neg (by decide), if_neg (by decide)]
    rw [if_pos rfl, x2, bT1_some]
theorem told_16 {sw : Bool} {σ : Sg} {ς : Lg} {len H D n m k nx q e : Nat} (h : InvG sw σ ς len H D n m k nx q e) : LookAt (f_X12_told 0 16) (f_X13_told 302 16) sw σ ς := by
  have hcc := h.cc
  obtain ⟨-, -, -, ⟨c1, c2, c3, c4⟩, ⟨d1, d2, d3, d4⟩, -, -⟩ := id h.2.2.1
  have n8 : σ 4 8 = σ 308 50 := hcc.2.1.2.2.2.1
  have n9 : σ 4 9 = σ 308 49 := hcc.2.1.2.2.2.2.1
  have n10 : σ 4 10 = σ 308 48 := hcc.2.1.2.2.2.2.2
  have a50 : ai (enc sw σ ς) 0 308 (50 : Int32) = some (σ 308 50) := ai_308 (j := 50) (by omega)
  have a49 : ai (enc sw σ ς) 0 308 (49 : Int32) = some (σ 308 49) := ai_308 (j := 49) (by omega)
  have a48 : ai (enc sw σ ς) 0 308 (48 : Int32) = some (σ 308 48) := ai_308 (j := 48) (by omega)
  refine ⟨nI q, ?_, ?_⟩
  · unfold f_X12_told
    rw [if_pos io_LD]
    rw [if_neg (by decide), if_neg (by decide), if_neg (by decide), if_neg (by decide), if_neg (by decide), if_neg (by decide), if_neg (by decide), if_neg (by decide), if_neg (by decide), if_neg (by decide), if_neg (by decide), if_neg (by decide), if_neg (by decide), if_neg (by decide), if_neg (by decide), if_neg (by decide)]
    rw [if_pos rfl, gr_LD_5, Option.bind_some, gi_Te_2, Option.bind_some, h.2.2.2.2.2.2.2.1.2.1]
  · unfold f_X13_told
    rw [if_pos io_Mo]
    rw [if_neg (by decide), if_neg (by decide), if_neg (by decide), if_neg (by decide), if_neg (by decide), if_neg (by decide), if_neg (by decide), if_neg (by decide), if_neg (by decide), if_neg (by decide), if_neg (by decide), if_neg (by decide), if_neg (by decide), if_neg (by decide), if_neg (by decide), if_neg (by decide)]
    rw [if_pos rfl, gi_Mo_19, Option.bind_some, h.2.2.2.2.2.2.2.1.2.2.1]
theorem told_17 {sw : Bool} {σ : Sg} {ς : Lg} {len H D n m k nx q e : Nat} (h : InvG sw σ ς len H D n m k nx q e) : LookAt (f_X12_told 0 17) (f_X13_told 302 17) sw σ ς := by
  have hcc := h.cc
  obtain ⟨-, -, -, ⟨c1, c2, c3, c4⟩, ⟨d1, d2, d3, d4⟩, -, -⟩ := id h.2.2.1
  have n8 : σ 4 8 = σ 308 50 := hcc.2.1.2.2.2.1
  have n9 : σ 4 9 = σ 308 49 := hcc.2.1.2.2.2.2.1
  have n10 : σ 4 10 = σ 308 48 := hcc.2.1.2.2.2.2.2
  have a50 : ai (enc sw σ ς) 0 308 (50 : Int32) = some (σ 308 50) := ai_308 (j := 50) (by omega)
  have a49 : ai (enc sw σ ς) 0 308 (49 : Int32) = some (σ 308 49) := ai_308 (j := 49) (by omega)
  have a48 : ai (enc sw σ ς) 0 308 (48 : Int32) = some (σ 308 48) := ai_308 (j := 48) (by omega)
  refine ⟨nI e, ?_, ?_⟩
  · unfold f_X12_told
    rw [if_pos io_LD]
    rw [if_neg (by decide), if_neg (by decide), if_neg (by decide), if_neg (by decide), if_neg (by decide), if_neg (by decide), if_neg (by decide), if_neg (by decide), if_neg (by decide), if_neg (by decide), if_neg (by decide), if_neg (by decide), if_neg (by decide), if_neg (by decide), if_neg (by decide), if_neg (by decide), if_neg (by decide)]
    rw [if_pos rfl, gr_LD_6, Option.bind_some, gi_Bo_2, Option.bind_some, h.2.2.2.2.2.2.2.2.2.1]
  · unfold f_X13_told
    rw [if_pos io_Mo]
    rw [if_neg (by decide), if_neg (by decide), if_neg (by decide), if_neg (by decide), if_neg (by decide), if_neg (by decide), if_neg (by decide), if_neg (by decide), if_neg (by decide), if_neg (by decide), if_neg (by decide), if_neg (by decide), if_neg (by decide), if_neg (by decide), if_neg (by decide), if_neg (by decide), if_neg (by decide)]
    rw [if_pos rfl, gi_Mo_21, Option.bind_some, h.2.2.2.2.2.2.2.2.2.2.1]
theorem told_18 {sw : Bool} {σ : Sg} {ς : Lg} {len H D n m k nx q e : Nat} (h : InvG sw σ ς len H D n m k nx q e) : LookAt (f_X12_told 0 18) (f_X13_told 302 18) sw σ ς := by
  have hcc := h.cc
  obtain ⟨-, -, -, ⟨c1, c2, c3, c4⟩, ⟨d1, d2, d3, d4⟩, -, -⟩ := id h.2.2.1
  have n8 : σ 4 8 = σ 308 50 := hcc.2.1.2.2.2.1
  have n9 : σ 4 9 = σ 308 49 := hcc.2.1.2.2.2.2.1
  have n10 : σ 4 10 = σ 308 48 := hcc.2.1.2.2.2.2.2
  have a50 : ai (enc sw σ ς) 0 308 (50 : Int32) = some (σ 308 50) := ai_308 (j := 50) (by omega)
  have a49 : ai (enc sw σ ς) 0 308 (49 : Int32) = some (σ 308 49) := ai_308 (j := 49) (by omega)
  have a48 : ai (enc sw σ ς) 0 308 (48 : Int32) = some (σ 308 48) := ai_308 (j := 48) (by omega)
  refine ⟨nI k, ?_, ?_⟩
  · unfold f_X12_told
    rw [if_pos io_LD]
    rw [if_neg (by decide), if_neg (by decide), if_neg (by decide), if_neg (by decide), if_neg (by decide), if_neg (by decide), if_neg (by decide), if_neg (by decide), if_neg (by decide), if_neg (by decide), if_neg (by decide), if_neg (by decide), if_neg (by decide), if_neg (by decide), if_neg (by decide), if_neg (by decide), if_neg (by decide), if_neg (by decide)]
    rw [if_pos rfl, gr_LD_4, Option.bind_some, gi_Pa_2, Option.bind_some, h.2.2.2.2.1.2.2.2.1]
  · unfold f_X13_told
    rw [if_pos io_Mo]
    rw [if_neg (by decide), if_neg (by decide), if_neg (by decide), if_neg (by decide), if_neg (by decide), if_neg (by decide), if_neg (by decide), if_neg (by decide), if_neg (by decide), if_neg (by decide), if_neg (by decide), if_neg (by decide), if_neg (by decide), if_neg (by decide), if_neg (by decide), if_neg (by decide), if_neg (by decide), if_neg (by decide)]
    rw [if_pos rfl, gi_Mo_13, Option.bind_some, h.2.2.2.2.1.2.2.2.2.1]
theorem al_told (x : Int32) : Alike (f_X12_told 0 x) (f_X13_told 302 x) := by
  intro sw σ ς hI
  obtain ⟨len, H, D, n, m, k, nx, q, e, h⟩ := id hI
  have wrap : LookAt (f_X12_told 0 x) (f_X13_told 302 x) sw σ ς → ∃ r s1 σ1 ς1 s2 σ2 ς2, f_X12_told 0 x (enc sw σ ς) = some (r, enc s1 σ1 ς1) ∧ f_X13_told 302 x (enc s1 σ1 ς1) = some (r, enc s2 σ2 ς2) ∧ Inv s2 σ2 ς2 := fun ⟨r, x1, x2⟩ => ⟨r, sw, σ, ς, sw, σ, ς, x1, x2, hI⟩
  by_cases h0 : x = 0
  · subst h0; exact wrap (told_0 h)
  by_cases h1 : x = 1
  · subst h1; exact wrap (told_1 h)
  by_cases h2 : x = 2
  · subst h2; exact wrap (told_2 h)
  by_cases h3 : x = 3
  · subst h3; exact wrap (told_3 h)
  by_cases h4 : x = 4
  · subst h4; exact wrap (told_4 h)
  by_cases h5 : x = 5
  · subst h5; exact wrap (told_5 h)
  by_cases h6 : x = 6
  · subst h6; exact wrap (told_6 h)
  by_cases h7 : x = 7
  · subst h7; exact wrap (told_7 h)
  by_cases h8 : x = 8
  · subst h8; exact wrap (told_8 h)
  by_cases h9 : x = 9
  · subst h9; exact wrap (told_9 h)
  by_cases h10 : x = 10
  · subst h10; exact wrap (told_10 h)
  by_cases h11 : x = 11
  · subst h11; exact wrap (told_11 h)
  by_cases h12 : x = 12
  · subst h12; exact wrap (told_12 h)
  by_cases h13 : x = 13
  · subst h13; exact wrap (told_13 h)
  by_cases h14 : x = 14
  · subst h14; exact told_14 hI
  by_cases h15 : x = 15
  · subst h15; exact wrap (told_15 h)
  by_cases h16 : x = 16
  · subst h16; exact wrap (told_16 h)
  by_cases h17 : x = 17
  · subst h17; exact wrap (told_17 h)
  by_cases h18 : x = 18
  · subst h18; exact wrap (told_18 h)
  refine wrap ⟨-1000000002, ?_, ?_⟩
  · unfold f_X12_told
    rw [if_pos io_LD, if_neg h0, if_neg h1, if_neg h2, if_neg h3, if_neg h4, if_neg h5, if_neg h6, if_neg h7, if_neg h8, if_neg h9, if_neg h10, if_neg h11, if_neg h12, if_neg h13, if_neg h14, if_neg h15, if_neg h16, if_neg h17, if_neg h18]
  · unfold f_X13_told
    rw [if_pos io_Mo, if_neg h0, if_neg h1, if_neg h2, if_neg h3, if_neg h4, if_neg h5, if_neg h6, if_neg h7, if_neg h8, if_neg h9, if_neg h10, if_neg h11, if_neg h12, if_neg h13, if_neg h14, if_neg h15, if_neg h16, if_neg h17, if_neg h18]
theorem al_singer (x y : Int32) : Alike (f_X12_singer 0 x y) (f_X13_singer 302 x y) := by
  refine Alike.look fun sw σ ς len H D n m k nx q e h => ?_
  have hcc := h.cc
  obtain ⟨⟨r1, r2, r3, r4⟩, r5, r6, ⟨c1, c2, c3, c4⟩, ⟨d1, d2, d3, d4⟩, r7, r8⟩ := id h.2.2.1
  by_cases hx : x < 0 ∨ nI n ≤ x
  · refine ⟨-1000000001, ?_, ?_⟩
    · unfold f_X12_singer
      rw [if_pos io_LD, gr_LD_1, Option.bind_some, hsC_no c3 hx, bT1_some, if_pos rfl]
    · unfold f_X13_singer
      rw [if_pos io_Mo, hsM_no d3 hx, bT1_some, if_pos rfl]
  · obtain ⟨s, hs, rfl⟩ : ∃ j, j < n ∧ x = nI j := by
      rcases pk_ix x (n := n) (by omega) with z | z | z
      · exact absurd (Or.inl z) hx
      · exact absurd (Or.inr z) hx
      · exact z
    have hs6 : s < 6 := by omega
    obtain ⟨s1, s2, s3, s4⟩ := hcc.2.1.1 s hs
    obtain ⟨s0, s5, -⟩ := r7 s hs
    have i0 : (0 : Int32) + nI s = nI s := by rw [show (0 : Int32) = nI 0 from rfl, nI_add, Nat.zero_add]
    have i6 : (6 : Int32) + nI s = nI (6 + s) := nI_add 6 s
    have i12 : (12 : Int32) + nI s = nI (12 + s) := nI_add 12 s
    have i18 : (18 : Int32) + nI s = nI (18 + s) := nI_add 18 s
    have l0 : s < 51 := by omega
    have l6 : 6 + s < 51 := by omega
    have l12 : 12 + s < 51 := by omega
    have l18 : 18 + s < 51 := by omega
    obtain ⟨r, -, e1, e2⟩ := never_ok (ς := ς) hcc hs
    by_cases y0 : y = 0
    · subst y0
      refine ⟨σ 304 s, ?_, ?_⟩
      · unfold f_X12_singer
        rw [if_pos io_LD, gr_LD_1, Option.bind_some, hsC_yes c3 hs r3, bT1_some, if_neg (by decide)]
        rw [if_pos rfl, gr_LD_1, Option.bind_some, gr_Mt_1, Option.bind_some, gr_Ra_0, Option.bind_some, ai_Ra_0 hs6, Option.bind_some, s0]
      · unfold f_X13_singer
        rw [if_pos io_Mo, hsM_yes d3 hs r3, bT1_some, if_neg (by decide)]
        rw [if_pos rfl, gr_Mo_7, Option.bind_some, ai_304 hs6, Option.bind_some]
    by_cases y1 : y = 1
    · subst y1
      refine ⟨σ 308 s, ?_, ?_⟩
      · unfold f_X12_singer
        rw [if_pos io_LD, gr_LD_1, Option.bind_some, hsC_yes c3 hs r3, bT1_some, if_neg (by decide)]
        rw [if_neg (by decide)]
        rw [if_pos rfl, gr_LD_1, Option.bind_some, gr_Mt_0, Option.bind_some, gr_Nt_0, Option.bind_some, ai_5 hs6, Option.bind_some, s1]
      · unfold f_X13_singer
        rw [if_pos io_Mo, hsM_yes d3 hs r3, bT1_some, if_neg (by decide)]
        rw [if_neg (by decide)]
        rw [if_pos rfl, gr_Mo_11, Option.bind_some, i0, ai_308 l0, Option.bind_some]
    by_cases y2 : y = 2
    · subst y2
      refine ⟨σ 308 (6 + s), ?_, ?_⟩
      · unfold f_X12_singer
        rw [if_pos io_LD, gr_LD_1, Option.bind_some, hsC_yes c3 hs r3, bT1_some, if_neg (by decide)]
        rw [if_neg (by decide), if_neg (by decide)]
        rw [if_pos rfl, gr_LD_1, Option.bind_some, gr_Mt_0, Option.bind_some, gr_Nt_1, Option.bind_some, ai_6 hs6, Option.bind_some, s2]
      · unfold f_X13_singer
        rw [if_pos io_Mo, hsM_yes d3 hs r3, bT1_some, if_neg (by decide)]
        rw [if_neg (by decide), if_neg (by decide)]
        rw [if_pos rfl, gr_Mo_11, Option.bind_some, i6, ai_308 l6, Option.bind_some]
    by_cases y3 : y = 3
    · subst y3
      refine ⟨σ 308 (12 + s), ?_, ?_⟩
      · unfold f_X12_singer
        rw [if_pos io_LD, gr_LD_1, Option.bind_some, hsC_yes c3 hs r3, bT1_some, if_neg (by decide)]
        rw [if_neg (by decide), if_neg (by decide), if_neg (by decide)]
        rw [if_pos rfl, gr_LD_1, Option.bind_some, gr_Mt_0, Option.bind_some, gr_Nt_2, Option.bind_some, ai_7 hs6, Option.bind_some, s3]
      · unfold f_X13_singer
        rw [if_pos io_Mo, hsM_yes d3 hs r3, bT1_some, if_neg (by decide)]
        rw [if_neg (by decide), if_neg (by decide), if_neg (by decide)]
        rw [if_pos rfl, gr_Mo_11, Option.bind_some, i12, ai_308 l12, Option.bind_some]
    by_cases y4 : y = 4
    · subst y4
      refine ⟨σ 308 (18 + s), ?_, ?_⟩
      · unfold f_X12_singer
        rw [if_pos io_LD, gr_LD_1, Option.bind_some, hsC_yes c3 hs r3, bT1_some, if_neg (by decide)]
        rw [if_neg (by decide), if_neg (by decide), if_neg (by decide), if_neg (by decide)]
        rw [if_pos rfl, gr_LD_1, Option.bind_some, gr_Mt_0, Option.bind_some, gr_Nt_3, Option.bind_some, ai_8 hs6, Option.bind_some, s4]
      · unfold f_X13_singer
        rw [if_pos io_Mo, hsM_yes d3 hs r3, bT1_some, if_neg (by decide)]
        rw [if_neg (by decide), if_neg (by decide), if_neg (by decide), if_neg (by decide)]
        rw [if_pos rfl, gr_Mo_11, Option.bind_some, i18, ai_308 l18, Option.bind_some]
    by_cases y5 : y = 5
    · subst y5
      refine ⟨σ 305 s, ?_, ?_⟩
      · unfold f_X12_singer
        rw [if_pos io_LD, gr_LD_1, Option.bind_some, hsC_yes c3 hs r3, bT1_some, if_neg (by decide)]
        rw [if_neg (by decide), if_neg (by decide), if_neg (by decide), if_neg (by decide), if_neg (by decide)]
        rw [if_pos rfl, gr_LD_1, Option.bind_some, gr_Mt_1, Option.bind_some, gr_Ra_3, Option.bind_some, ai_Ra_3 hs6, Option.bind_some, s5]
      · unfold f_X13_singer
        rw [if_pos io_Mo, hsM_yes d3 hs r3, bT1_some, if_neg (by decide)]
        rw [if_neg (by decide), if_neg (by decide), if_neg (by decide), if_neg (by decide), if_neg (by decide)]
        rw [if_pos rfl, gr_Mo_8, Option.bind_some, ai_305 hs6, Option.bind_some]
    by_cases y6 : y = 6
    · subst y6
      refine ⟨nI r, ?_, ?_⟩
      · unfold f_X12_singer
        rw [if_pos io_LD, gr_LD_1, Option.bind_some, hsC_yes c3 hs r3, bT1_some, if_neg (by decide)]
        rw [if_neg (by decide), if_neg (by decide), if_neg (by decide), if_neg (by decide), if_neg (by decide), if_neg (by decide)]
        rw [if_pos rfl, gr_LD_1, Option.bind_some, e1, bT1_some]
      · unfold f_X13_singer
        rw [if_pos io_Mo, hsM_yes d3 hs r3, bT1_some, if_neg (by decide)]
        rw [if_neg (by decide), if_neg (by decide), if_neg (by decide), if_neg (by decide), if_neg (by decide), if_neg (by decide)]
        rw [if_pos rfl, e2, bT1_some]
    refine ⟨-1000000002, ?_, ?_⟩
    · unfold f_X12_singer
      rw [if_pos io_LD, gr_LD_1, Option.bind_some, hsC_yes c3 hs r3, bT1_some, if_neg (by decide)]
      rw [if_neg y0, if_neg y1, if_neg y2, if_neg y3, if_neg y4, if_neg y5, if_neg y6]
    · unfold f_X13_singer
      rw [if_pos io_Mo, hsM_yes d3 hs r3, bT1_some, if_neg (by decide)]
      rw [if_neg y0, if_neg y1, if_neg y2, if_neg y3, if_neg y4, if_neg y5, if_neg y6]
theorem al_child (x y : Int32) : Alike (f_X12_child 0 x y) (f_X13_child 302 x y) := by
  refine Alike.look fun sw σ ς len H D n m k nx q e h => ?_
  have hcc := h.cc
  obtain ⟨⟨r1, r2, r3, r4⟩, r5, r6, ⟨c1, c2, c3, c4⟩, ⟨d1, d2, d3, d4⟩, r7, r8⟩ := id h.2.2.1
  by_cases hx : x < 0 ∨ nI m ≤ x
  · refine ⟨-1000000001, ?_, ?_⟩
    · unfold f_X12_child
      rw [if_pos io_LD, gr_LD_1, Option.bind_some, hcC_no c4 hx, bT1_some, if_pos rfl]
    · unfold f_X13_child
      rw [if_pos io_Mo, hcM_no d4 hx, bT1_some, if_pos rfl]
  · obtain ⟨c, hc, rfl⟩ : ∃ j, j < m ∧ x = nI j := by
      rcases pk_ix x (n := m) (by omega) with z | z | z
      · exact absurd (Or.inl z) hx
      · exact absurd (Or.inr z) hx
      · exact z
    have hc6 : c < 6 := by omega
    obtain ⟨s1, s2, s3⟩ := hcc.2.1.2.1 c hc
    obtain ⟨s0, s5⟩ := r8 c hc
    have i24 : (24 : Int32) + nI c = nI (24 + c) := nI_add 24 c
    have i30 : (30 : Int32) + nI c = nI (30 + c) := nI_add 30 c
    have i36 : (36 : Int32) + nI c = nI (36 + c) := nI_add 36 c
    have i42 : (42 : Int32) + nI c = nI (42 + c) := nI_add 42 c
    have l24 : 24 + c < 51 := by omega
    have l30 : 30 + c < 51 := by omega
    have l36 : 36 + c < 51 := by omega
    have l42 : 42 + c < 51 := by omega
    have has := hcc.2.1.asleep hc
    by_cases y0 : y = 0
    · subst y0
      refine ⟨σ 306 c, ?_, ?_⟩
      · unfold f_X12_child
        rw [if_pos io_LD, gr_LD_1, Option.bind_some, hcC_yes c4 hc r4, bT1_some, if_neg (by decide)]
        rw [if_pos rfl, gr_LD_1, Option.bind_some, gr_Mt_1, Option.bind_some, gr_Ra_4, Option.bind_some, ai_Ra_4 hc6, Option.bind_some, s0]
      · unfold f_X13_child
        rw [if_pos io_Mo, hcM_yes d4 hc r4, bT1_some, if_neg (by decide)]
        rw [if_pos rfl, gr_Mo_9, Option.bind_some, ai_306 hc6, Option.bind_some]
    by_cases y1 : y = 1
    · subst y1
      refine ⟨σ 307 c, ?_, ?_⟩
      · unfold f_X12_child
        rw [if_pos io_LD, gr_LD_1, Option.bind_some, hcC_yes c4 hc r4, bT1_some, if_neg (by decide)]
        rw [if_neg (by decide)]
        rw [if_pos rfl, gr_LD_1, Option.bind_some, gr_Mt_1, Option.bind_some, gr_Ra_5, Option.bind_some, ai_Ra_5 hc6, Option.bind_some, s5]
      · unfold f_X13_child
        rw [if_pos io_Mo, hcM_yes d4 hc r4, bT1_some, if_neg (by decide)]
        rw [if_neg (by decide)]
        rw [if_pos rfl, gr_Mo_10, Option.bind_some, ai_307 hc6, Option.bind_some]
    by_cases y2 : y = 2
    · subst y2
      refine ⟨σ 308 (24 + c), ?_, ?_⟩
      · unfold f_X12_child
        rw [if_pos io_LD, gr_LD_1, Option.bind_some, hcC_yes c4 hc r4, bT1_some, if_neg (by decide)]
        rw [if_neg (by decide), if_neg (by decide)]
        rw [if_pos rfl, gr_LD_1, Option.bind_some, gr_Mt_0, Option.bind_some, gr_Nt_4, Option.bind_some, ai_9 hc6, Option.bind_some, s1]
      · unfold f_X13_child
        rw [if_pos io_Mo, hcM_yes d4 hc r4, bT1_some, if_neg (by decide)]
        rw [if_neg (by decide), if_neg (by decide)]
        rw [if_pos rfl, gr_Mo_11, Option.bind_some, i24, ai_308 l24, Option.bind_some]
    by_cases y3 : y = 3
    · subst y3
      refine ⟨if σ 308 (30 + c) = 0 then 1 else 0, ?_, ?_⟩
      · unfold f_X12_child
        rw [if_pos io_LD, gr_LD_1, Option.bind_some, hcC_yes c4 hc r4, bT1_some, if_neg (by decide)]
        rw [if_neg (by decide), if_neg (by decide), if_neg (by decide)]
        rw [if_pos rfl, gr_LD_1, Option.bind_some, awake_C hcc hc, bT1_some]
        by_cases z : σ 308 (30 + c) = 0
        · rw [if_pos z, if_neg (by decide)]
        · rw [if_neg z, if_pos rfl]
      · unfold f_X13_child
        rw [if_pos io_Mo, hcM_yes d4 hc r4, bT1_some, if_neg (by decide)]
        rw [if_neg (by decide), if_neg (by decide), if_neg (by decide)]
        rw [if_pos rfl, gr_Mo_11, Option.bind_some, i30, ai_308 l30, Option.bind_some]
        rcases has with z | z
        · rw [z]; rfl
        · rw [z]; rfl
    by_cases y4 : y = 4
    · subst y4
      refine ⟨σ 308 (36 + c), ?_, ?_⟩
      · unfold f_X12_child
        rw [if_pos io_LD, gr_LD_1, Option.bind_some, hcC_yes c4 hc r4, bT1_some, if_neg (by decide)]
        rw [if_neg (by decide), if_neg (by decide), if_neg (by decide), if_neg (by decide)]
        rw [if_pos rfl, gr_LD_1, Option.bind_some, gr_Mt_0, Option.bind_some, gr_Nt_5, Option.bind_some, ai_10 hc6, Option.bind_some, s2]
      · unfold f_X13_child
        rw [if_pos io_Mo, hcM_yes d4 hc r4, bT1_some, if_neg (by decide)]
        rw [if_neg (by decide), if_neg (by decide), if_neg (by decide), if_neg (by decide)]
        rw [if_pos rfl, gr_Mo_11, Option.bind_some, i36, ai_308 l36, Option.bind_some]
    by_cases y5 : y = 5
    · subst y5
      refine ⟨σ 308 (42 + c), ?_, ?_⟩
      · unfold f_X12_child
        rw [if_pos io_LD, gr_LD_1, Option.bind_some, hcC_yes c4 hc r4, bT1_some, if_neg (by decide)]
        rw [if_neg (by decide), if_neg (by decide), if_neg (by decide), if_neg (by decide), if_neg (by decide)]
        rw [if_pos rfl, gr_LD_1, Option.bind_some, gr_Mt_0, Option.bind_some, gr_Nt_6, Option.bind_some, ai_11 hc6, Option.bind_some, s3]
      · unfold f_X13_child
        rw [if_pos io_Mo, hcM_yes d4 hc r4, bT1_some, if_neg (by decide)]
        rw [if_neg (by decide), if_neg (by decide), if_neg (by decide), if_neg (by decide), if_neg (by decide)]
        rw [if_pos rfl, gr_Mo_11, Option.bind_some, i42, ai_308 l42, Option.bind_some]
    by_cases y6 : y = 6
    · subst y6
      refine ⟨nI (zN (σ 308) (σ 306) (σ 307) c), ?_, ?_⟩
      · unfold f_X12_child
        rw [if_pos io_LD, gr_LD_1, Option.bind_some, hcC_yes c4 hc r4, bT1_some, if_neg (by decide)]
        rw [if_neg (by decide), if_neg (by decide), if_neg (by decide), if_neg (by decide), if_neg (by decide), if_neg (by decide)]
        rw [if_pos rfl, gr_LD_1, Option.bind_some, needs_C hcc hc, bT1_some]
      · unfold f_X13_child
        rw [if_pos io_Mo, hcM_yes d4 hc r4, bT1_some, if_neg (by decide)]
        rw [if_neg (by decide), if_neg (by decide), if_neg (by decide), if_neg (by decide), if_neg (by decide), if_neg (by decide)]
        rw [if_pos rfl, needs_M hcc.2.2 has hc r4, bT1_some]
    refine ⟨-1000000002, ?_, ?_⟩
    · unfold f_X12_child
      rw [if_pos io_LD, gr_LD_1, Option.bind_some, hcC_yes c4 hc r4, bT1_some, if_neg (by decide)]
      rw [if_neg y0, if_neg y1, if_neg y2, if_neg y3, if_neg y4, if_neg y5, if_neg y6]
    · unfold f_X13_child
      rw [if_pos io_Mo, hcM_yes d4 hc r4, bT1_some, if_neg (by decide)]
      rw [if_neg y0, if_neg y1, if_neg y2, if_neg y3, if_neg y4, if_neg y5, if_neg y6]
