abbrev Sg : Type := Nat → Nat → Int32
abbrev Lg : Type := Nat → Nat → Int64
abbrev Mk : Type := (Nat → Int32) → (Nat → Int64) → va_E
def mkI (n : Nat) : Mk := fun f _ => .inl (0, n, .inl f)
def mkC (n : Nat) : Mk := fun f _ => .inl (1, n, .inl f)
def mkZ (n : Nat) : Mk := fun f _ => .inl (2, n, .inl f)
def mkL (n : Nat) : Mk := fun _ g => .inl (3, n, .inr (.inl g))
/-- the thirty nights that are kept to be undone, the two images -/
def nfun : Nat → Option Nat := (List.range 30).foldl (fun f i => va_up f i (some (29 + 8 * i))) (fun _ => none)
def ifun : Nat → Option Nat := va_up (va_up (fun _ => none) 0 (some 284)) 1 (some 293)
def mkN : Mk := fun _ _ => .inl (4, 30, .inr (.inr (.inr (.inr nfun))))
def mkG : Mk := fun _ _ => .inl (5, 2, .inr (.inr (.inr (.inr ifun))))
def mkNight (p : Nat) : Mk := fun f _ => .inr (4, [.ref (p + 1), .ref (p + 2), .ref (p + 3), .ref (p + 4), .ref (p + 5), .ref (p + 6), .ref (p + 7), .int (f 7), .int (f 8), .int (f 9), .int (f 10)])
def mkRow (p : Nat) : Mk := fun f _ => .inr (9, [.ref (p + 1), .ref (p + 2), .ref (p + 3), .ref (p + 4), .ref (p + 5), .ref (p + 6), .ref (p + 7), .int (f 7), .int (f 8), .int (f 9), .int (f 10)])
/-- the row that stands, and the spare one -/
def rA (sw : Bool) : Nat := cond sw 276 12
def rB (sw : Bool) : Nat := cond sw 12 276
def mkModel : Mk := fun f g => .inr (12, [.ref 303, .int (f 1), .int (f 2), .int (f 3), .int (f 4), .int (f 5), .int (f 6), .ref 304, .ref 305, .ref 306, .ref 307, .ref 308, .ref 309, .int (f 13), .long (g 14), .ref 310, .ref 311, .ref 312, .ref 313, .int (f 19), .ref 314, .int (f 21), .int (f 22), .int (f 23), .int (f 24), .int (f 25), .int (f 26), .int (f 27), .ref 315, .ref 316, .int (f 30), .int (f 31), .ref 317, .ref 318, .ref 319, .ref 320, .ref 321, .ref 322])
def shp (sw : Bool) : List Mk := [fun f _ => .inr (11, [.ref 1, .ref 3, .ref 20, .ref 23, .ref 27, .ref 269, .ref 272, .ref 275, .ref (rB sw), .int (f 9)]),
  fun f _ => .inr (7, [.ref 2, .int (f 1), .int (f 2), .int (f 3), .int (f 4)]),
  mkC 240,
  fun _ _ => .inr (3, [.ref 4, .ref (rA sw)]),
  mkNight 4,
  mkI 6,
  mkI 6,
  mkI 6,
  mkI 6,
  mkI 6,
  mkI 6,
  mkI 6,
  mkRow 12,
  mkI 6,
  mkI 6,
  mkI 6,
  mkI 6,
  mkI 6,
  mkI 6,
  mkI 6,
  fun f _ => .inr (6, [.ref 21, .ref 22, .int (f 2), .int (f 3)]),
  mkI 36,
  mkI 448,
  fun f _ => .inr (8, [.ref 24, .ref 25, .ref 26, .int (f 3), .int (f 4), .int (f 5)]),
  mkI 6,
  mkI 6,
  mkI 6,
  fun f _ => .inr (5, [.ref 28, .int (f 1), .int (f 2)]),
  mkN,
  mkNight 29,
  mkI 6,
  mkI 6,
  mkI 6,
  mkI 6,
  mkI 6,
  mkI 6,
  mkI 6,
  mkNight 37,
  mkI 6,
  mkI 6,
  mkI 6,
  mkI 6,
  mkI 6,
  mkI 6,
  mkI 6,
  mkNight 45,
  mkI 6,
  mkI 6,
  mkI 6,
  mkI 6,
  mkI 6,
  mkI 6,
  mkI 6,
  mkNight 53,
  mkI 6,
  mkI 6,
  mkI 6,
  mkI 6,
  mkI 6,
  mkI 6,
  mkI 6,
  mkNight 61,
  mkI 6,
  mkI 6,
  mkI 6,
  mkI 6,
  mkI 6,
  mkI 6,
  mkI 6,
  mkNight 69,
  mkI 6,
  mkI 6,
  mkI 6,
  mkI 6,
  mkI 6,
  mkI 6,
  mkI 6,
  mkNight 77,
  mkI 6,
  mkI 6,
  mkI 6,
  mkI 6,
  mkI 6,
  mkI 6,
  mkI 6,
  mkNight 85,
  mkI 6,
  mkI 6,
  mkI 6,
  mkI 6,
  mkI 6,
  mkI 6,
  mkI 6,
  mkNight 93,
  mkI 6,
  mkI 6,
  mkI 6,
  mkI 6,
  mkI 6,
  mkI 6,
  mkI 6,
  mkNight 101,
  mkI 6,
  mkI 6,
  mkI 6,
  mkI 6,
  mkI 6,
  mkI 6,
  mkI 6,
  mkNight 109,
  mkI 6,
  mkI 6,
  mkI 6,
  mkI 6,
  mkI 6,
  mkI 6,
  mkI 6,
  mkNight 117,
  mkI 6,
  mkI 6,
  mkI 6,
  mkI 6,
  mkI 6,
  mkI 6,
  mkI 6,
  mkNight 125,
  mkI 6,
  mkI 6,
  mkI 6,
  mkI 6,
  mkI 6,
  mkI 6,
  mkI 6,
  mkNight 133,
  mkI 6,
  mkI 6,
  mkI 6,
  mkI 6,
  mkI 6,
  mkI 6,
  mkI 6,
  mkNight 141,
  mkI 6,
  mkI 6,
  mkI 6,
  mkI 6,
  mkI 6,
  mkI 6,
  mkI 6,
  mkNight 149,
  mkI 6,
  mkI 6,
  mkI 6,
  mkI 6,
  mkI 6,
  mkI 6,
  mkI 6,
  mkNight 157,
  mkI 6,
  mkI 6,
  mkI 6,
  mkI 6,
  mkI 6,
  mkI 6,
  mkI 6,
  mkNight 165,
  mkI 6,
  mkI 6,
  mkI 6,
  mkI 6,
  mkI 6,
  mkI 6,
  mkI 6,
  mkNight 173,
  mkI 6,
  mkI 6,
  mkI 6,
  mkI 6,
  mkI 6,
  mkI 6,
  mkI 6,
  mkNight 181,
  mkI 6,
  mkI 6,
  mkI 6,
  mkI 6,
  mkI 6,
  mkI 6,
  mkI 6,
  mkNight 189,
  mkI 6,
  mkI 6,
  mkI 6,
  mkI 6,
  mkI 6,
  mkI 6,
  mkI 6,
  mkNight 197,
  mkI 6,
  mkI 6,
  mkI 6,
  mkI 6,
  mkI 6,
  mkI 6,
  mkI 6,
  mkNight 205,
  mkI 6,
  mkI 6,
  mkI 6,
  mkI 6,
  mkI 6,
  mkI 6,
  mkI 6,
  mkNight 213,
  mkI 6,
  mkI 6,
  mkI 6,
  mkI 6,
  mkI 6,
  mkI 6,
  mkI 6,
  mkNight 221,
  mkI 6,
  mkI 6,
  mkI 6,
  mkI 6,
  mkI 6,
  mkI 6,
  mkI 6,
  mkNight 229,
  mkI 6,
  mkI 6,
  mkI 6,
  mkI 6,
  mkI 6,
  mkI 6,
  mkI 6,
  mkNight 237,
  mkI 6,
  mkI 6,
  mkI 6,
  mkI 6,
  mkI 6,
  mkI 6,
  mkI 6,
  mkNight 245,
  mkI 6,
  mkI 6,
  mkI 6,
  mkI 6,
  mkI 6,
  mkI 6,
  mkI 6,
  mkNight 253,
  mkI 6,
  mkI 6,
  mkI 6,
  mkI 6,
  mkI 6,
  mkI 6,
  mkI 6,
  mkNight 261,
  mkI 6,
  mkI 6,
  mkI 6,
  mkI 6,
  mkI 6,
  mkI 6,
  mkI 6,
  fun f _ => .inr (10, [.ref 270, .ref 271, .int (f 2)]),
  mkI 6,
  mkZ 6,
  fun f _ => .inr (0, [.ref 273, .ref 274, .int (f 2)]),
  mkI 20,
  mkI 20,
  mkG,
  mkRow 276,
  mkI 6,
  mkI 6,
  mkI 6,
  mkI 6,
  mkI 6,
  mkI 6,
  mkI 6,
  fun f _ => .inr (2, [.ref 285, .int (f 1), .int (f 2)]),
  mkNight 285,
  mkI 6,
  mkI 6,
  mkI 6,
  mkI 6,
  mkI 6,
  mkI 6,
  mkI 6,
  fun f _ => .inr (2, [.ref 294, .int (f 1), .int (f 2)]),
  mkNight 294,
  mkI 6,
  mkI 6,
  mkI 6,
  mkI 6,
  mkI 6,
  mkI 6,
  mkI 6,
  mkModel,
  mkI 240,
  mkI 6,
  mkI 6,
  mkI 6,
  mkI 6,
  mkI 51,
  mkI 1530,
  mkI 102,
  mkL 2,
  mkI 2,
  mkI 12,
  mkI 40,
  mkI 48,
  mkI 448,
  mkI 7,
  mkI 7,
  mkI 7,
  mkI 7,
  mkI 7,
  mkI 7]
def encl (σ : Sg) (ς : Lg) : Nat → List Mk → AH
  | _, [] => []
  | i, m :: l => m (σ i) (ς i) :: encl σ ς (i + 1) l
def enc (sw : Bool) (σ : Sg) (ς : Lg) : AH := encl σ ς 0 (shp sw)
def uA (σ : Sg) (a : Nat) (f : Nat → Int32) : Sg := fun b => if b = a then f else σ b
def uL (ς : Lg) (a : Nat) (f : Nat → Int64) : Lg := fun b => if b = a then f else ς b
theorem uA_s (σ : Sg) (a : Nat) (f : Nat → Int32) : uA σ a f a = f := by simp [uA]
theorem uA_n {σ : Sg} {a b : Nat} {f : Nat → Int32} (h : b ≠ a) : uA σ a f b = σ b := by simp [uA, h]
theorem uA_id (σ : Sg) (a : Nat) : uA σ a (σ a) = σ := by funext b; by_cases h : b = a <;> simp [uA, h]
theorem uL_id (ς : Lg) (a : Nat) : uL ς a (ς a) = ς := by funext b; by_cases h : b = a <;> simp [uL, h]
theorem encl_get (σ : Sg) (ς : Lg) : ∀ (l : List Mk) (i a : Nat), (encl σ ς i l)[a]? = (l[a]?).map (fun m => m (σ (i + a)) (ς (i + a)))
  | [], i, a => by simp [encl]
  | m :: l, i, 0 => by simp [encl]
  | m :: l, i, a + 1 => by
    simp only [encl, List.getElem?_cons_succ]
    rw [encl_get σ ς l (i + 1) a, show i + 1 + a = i + (a + 1) by omega]
theorem encl_off (σ : Sg) (ς : Lg) (f : Nat → Int32) (g : Nat → Int64) : ∀ (l : List Mk) (i a : Nat), a < i → encl (uA σ a f) (uL ς a g) i l = encl σ ς i l
  | [], i, a, h => rfl
  | m :: l, i, a, h => by
    simp only [encl]
    rw [encl_off σ ς f g l (i + 1) a (by omega), uA_n (by omega), show uL ς a g i = ς i by simp [uL, show i ≠ a by omega]]
theorem encl_set (σ : Sg) (ς : Lg) (f : Nat → Int32) (g : Nat → Int64) : ∀ (l : List Mk) (i a : Nat) (m : Mk), l[a]? = some m → (encl σ ς i l).set a (m f g) = encl (uA σ (i + a) f) (uL ς (i + a) g) i l
  | [], i, a, m, h => by simp at h
  | m0 :: l, i, 0, m, h => by
    rw [List.getElem?_cons_zero] at h
    cases h
    simp only [encl, List.set_cons_zero, Nat.add_zero]
    rw [encl_off σ ς f g l (i + 1) i (by omega), uA_s, show uL ς i g i = g by simp [uL]]
  | m0 :: l, i, a + 1, m, h => by
    rw [List.getElem?_cons_succ] at h
    simp only [encl, List.set_cons_succ]
    rw [encl_set σ ς f g l (i + 1) a m h, show i + 1 + a = i + (a + 1) by omega, uA_n (by omega), show uL ς (i + (a + 1)) g i = ς i by simp [uL]]
theorem enc_get {sw : Bool} {σ : Sg} {ς : Lg} {a : Nat} {m : Mk} (h : (shp sw)[a]? = some m) : (enc sw σ ς)[a]? = some (m (σ a) (ς a)) := by
  unfold enc
  rw [encl_get, h, Nat.zero_add]; rfl
theorem enc_set {sw : Bool} {σ : Sg} {ς : Lg} {a : Nat} {m : Mk} (h : (shp sw)[a]? = some m) (f : Nat → Int32) : (enc sw σ ς).set a (m f (ς a)) = enc sw (uA σ a f) ς := by
  unfold enc
  rw [encl_set σ ς f (ς a) (shp sw) 0 a m h, Nat.zero_add, uL_id]
theorem enc_setL {sw : Bool} {σ : Sg} {ς : Lg} {a : Nat} {m : Mk} (h : (shp sw)[a]? = some m) (g : Nat → Int64) : (enc sw σ ς).set a (m (σ a) g) = enc sw σ (uL ς a g) := by
  unfold enc
  rw [encl_set σ ς (σ a) g (shp sw) 0 a m h, Nat.zero_add, uA_id]
section EN
variable {sw : Bool} {σ : Sg} {ς : Lg} {a ci k : Nat} {m : Mk} {F : (Nat → Int32) → (Nat → Int64) → List Value}
theorem isO_of (hs : (shp sw)[a]? = some m) (hm : ∀ f g, m f g = .inr (ci, F f g)) : isO (enc sw σ ς) ci a = true := by
  unfold isO
  rw [enc_get hs, hm]
  simp
theorem gi_of (hs : (shp sw)[a]? = some m) (hm : ∀ f g, m f g = .inr (ci, F f g)) (hk : ∀ f g, (F f g)[k]? = some (.int (f k))) : gi (enc sw σ ς) ci a k = some (σ a k) := by
  unfold gi oget
  rw [enc_get hs, hm]
  simp only [if_true, hk]
theorem gl_of (hs : (shp sw)[a]? = some m) (hm : ∀ f g, m f g = .inr (ci, F f g)) (hk : ∀ f g, (F f g)[k]? = some (.long (g k))) : gl (enc sw σ ς) ci a k = some (ς a k) := by
  unfold gl oget
  rw [enc_get hs, hm]
  simp only [if_true, hk]
theorem gr_of {r : Nat} (hs : (shp sw)[a]? = some m) (hm : ∀ f g, m f g = .inr (ci, F f g)) (hk : ∀ f g, (F f g)[k]? = some (.ref r)) : gr (enc sw σ ς) ci a k = some r := by
  unfold gr oget
  rw [enc_get hs, hm]
  simp only [if_true, hk]
theorem pf_of (hs : (shp sw)[a]? = some m) (hm : ∀ f g, m f g = .inr (ci, F f g)) (x : Int32) (hk : ∀ f g, k < (F f g).length ∧ (F f g).set k (.int x) = F (upd f k x) g) : pf (enc sw σ ς) ci a k (.int x) = some (enc sw (uA σ a (upd (σ a) k x)) ς) := by
  unfold pf
  rw [enc_get hs, hm]
  simp only [hk, and_self, if_true]
  rw [← hm, enc_set hs]
theorem pfL_of (hs : (shp sw)[a]? = some m) (hm : ∀ f g, m f g = .inr (ci, F f g)) (x : Int64) (hk : ∀ f g, k < (F f g).length ∧ (F f g).set k (.long x) = F f (vp_updL g k x)) : pf (enc sw σ ς) ci a k (.long x) = some (enc sw σ (uL ς a (vp_updL (ς a) k x))) := by
  unfold pf
  rw [enc_get hs, hm]
  simp only [hk, and_self, if_true]
  rw [← hm, enc_setL hs]
theorem ai_of {kd n : Nat} (hs : (shp sw)[a]? = some m) (hm : ∀ f g, m f g = .inl (kd, n, .inl f)) (i : Int32) : ai (enc sw σ ς) kd a i = if ¬ (i < 0 ∨ n ≤ i.toNatClampNeg) then some (σ a i.toNatClampNeg) else none := by
  unfold ai
  rw [enc_get hs, hm]
  simp only [true_and]
theorem al_of {kd n : Nat} (hs : (shp sw)[a]? = some m) (hm : ∀ f g, m f g = .inl (kd, n, .inr (.inl g))) (i : Int32) : al (enc sw σ ς) kd a i = if ¬ (i < 0 ∨ n ≤ i.toNatClampNeg) then some (ς a i.toNatClampNeg) else none := by
  unfold al
  rw [enc_get hs, hm]
  simp only [true_and]
theorem aw_of {kd n : Nat} (hs : (shp sw)[a]? = some m) (hm : ∀ f g, m f g = .inl (kd, n, .inl f)) (i x : Int32) : aw (enc sw σ ς) kd a i x = if ¬ (i < 0 ∨ n ≤ i.toNatClampNeg) then some (enc sw (uA σ a (upd (σ a) i.toNatClampNeg x)) ς) else none := by
  unfold aw
  rw [enc_get hs, hm]
  simp only [true_and]
  rw [← hm _ (ς a), enc_set hs]
theorem alw_of {kd n : Nat} (hs : (shp sw)[a]? = some m) (hm : ∀ f g, m f g = .inl (kd, n, .inr (.inl g))) (i : Int32) (x : Int64) : alw (enc sw σ ς) kd a i x = if ¬ (i < 0 ∨ n ≤ i.toNatClampNeg) then some (enc sw σ (uL ς a (vp_updL (ς a) i.toNatClampNeg x))) else none := by
  unfold alw
  rw [enc_get hs, hm]
  simp only [true_and]
  rw [← hm (σ a), enc_setL hs]
/-- indices that are small numbers -/
theorem nI_inb {j n : Nat} (h : j < n) (hn : n < 2 ^ 31) : ¬ (nI j < 0 ∨ n ≤ (nI j).toNatClampNeg) := nI_in h hn
theorem ai_nI {kd n j : Nat} (hs : (shp sw)[a]? = some m) (hm : ∀ f g, m f g = .inl (kd, n, .inl f)) (hj : j < n) (hn : n < 2 ^ 31) : ai (enc sw σ ς) kd a (nI j) = some (σ a j) := by
  rw [ai_of hs hm, if_pos (nI_inb hj hn), nI_clamp (by omega)]
theorem aw_nI {kd n j : Nat} (x : Int32) (hs : (shp sw)[a]? = some m) (hm : ∀ f g, m f g = .inl (kd, n, .inl f)) (hj : j < n) (hn : n < 2 ^ 31) : aw (enc sw σ ς) kd a (nI j) x = some (enc sw (uA σ a (upd (σ a) j x)) ς) := by
  rw [aw_of hs hm, if_pos (nI_inb hj hn), nI_clamp (by omega)]
end EN
theorem io_LD {sw : Bool} {σ : Sg} {ς : Lg} : isO (enc sw σ ς) 11 0 = true := isO_of (m := _) rfl (fun _ _ => rfl)
theorem gr_LD_0 {sw : Bool} {σ : Sg} {ς : Lg} : gr (enc sw σ ς) 11 0 0 = some 1 := gr_of rfl (fun _ _ => rfl) (fun _ _ => rfl)
theorem gr_LD_1 {sw : Bool} {σ : Sg} {ς : Lg} : gr (enc sw σ ς) 11 0 1 = some 3 := gr_of rfl (fun _ _ => rfl) (fun _ _ => rfl)
theorem gr_LD_2 {sw : Bool} {σ : Sg} {ς : Lg} : gr (enc sw σ ς) 11 0 2 = some 20 := gr_of rfl (fun _ _ => rfl) (fun _ _ => rfl)
theorem gr_LD_3 {sw : Bool} {σ : Sg} {ς : Lg} : gr (enc sw σ ς) 11 0 3 = some 23 := gr_of rfl (fun _ _ => rfl) (fun _ _ => rfl)
theorem gr_LD_4 {sw : Bool} {σ : Sg} {ς : Lg} : gr (enc sw σ ς) 11 0 4 = some 27 := gr_of rfl (fun _ _ => rfl) (fun _ _ => rfl)
theorem gr_LD_5 {sw : Bool} {σ : Sg} {ς : Lg} : gr (enc sw σ ς) 11 0 5 = some 269 := gr_of rfl (fun _ _ => rfl) (fun _ _ => rfl)
theorem gr_LD_6 {sw : Bool} {σ : Sg} {ς : Lg} : gr (enc sw σ ς) 11 0 6 = some 272 := gr_of rfl (fun _ _ => rfl) (fun _ _ => rfl)
theorem gr_LD_7 {sw : Bool} {σ : Sg} {ς : Lg} : gr (enc sw σ ς) 11 0 7 = some 275 := gr_of rfl (fun _ _ => rfl) (fun _ _ => rfl)
theorem gr_LD_8 {sw : Bool} {σ : Sg} {ς : Lg} : gr (enc sw σ ς) 11 0 8 = some (rB sw) := gr_of rfl (fun _ _ => rfl) (fun _ _ => rfl)
theorem gi_LD_9 {sw : Bool} {σ : Sg} {ς : Lg} : gi (enc sw σ ς) 11 0 9 = some (σ 0 9) := gi_of rfl (fun _ _ => rfl) (fun _ _ => rfl)
theorem pf_LD_9 {sw : Bool} {σ : Sg} {ς : Lg} (x : Int32) : pf (enc sw σ ς) 11 0 9 (.int x) = some (enc sw (uA σ 0 (upd (σ 0) 9 x)) ς) := pf_of rfl (fun _ _ => rfl) x (fun _ _ => ⟨Nat.le_of_ble_eq_true rfl, rfl⟩)
theorem io_Rd {sw : Bool} {σ : Sg} {ς : Lg} : isO (enc sw σ ς) 7 1 = true := isO_of (m := _) rfl (fun _ _ => rfl)
theorem gr_Rd_0 {sw : Bool} {σ : Sg} {ς : Lg} : gr (enc sw σ ς) 7 1 0 = some 2 := gr_of rfl (fun _ _ => rfl) (fun _ _ => rfl)
theorem gi_Rd_1 {sw : Bool} {σ : Sg} {ς : Lg} : gi (enc sw σ ς) 7 1 1 = some (σ 1 1) := gi_of rfl (fun _ _ => rfl) (fun _ _ => rfl)
theorem pf_Rd_1 {sw : Bool} {σ : Sg} {ς : Lg} (x : Int32) : pf (enc sw σ ς) 7 1 1 (.int x) = some (enc sw (uA σ 1 (upd (σ 1) 1 x)) ς) := pf_of rfl (fun _ _ => rfl) x (fun _ _ => ⟨Nat.le_of_ble_eq_true rfl, rfl⟩)
theorem gi_Rd_2 {sw : Bool} {σ : Sg} {ς : Lg} : gi (enc sw σ ς) 7 1 2 = some (σ 1 2) := gi_of rfl (fun _ _ => rfl) (fun _ _ => rfl)
theorem pf_Rd_2 {sw : Bool} {σ : Sg} {ς : Lg} (x : Int32) : pf (enc sw σ ς) 7 1 2 (.int x) = some (enc sw (uA σ 1 (upd (σ 1) 2 x)) ς) := pf_of rfl (fun _ _ => rfl) x (fun _ _ => ⟨Nat.le_of_ble_eq_true rfl, rfl⟩)
theorem gi_Rd_3 {sw : Bool} {σ : Sg} {ς : Lg} : gi (enc sw σ ς) 7 1 3 = some (σ 1 3) := gi_of rfl (fun _ _ => rfl) (fun _ _ => rfl)
theorem pf_Rd_3 {sw : Bool} {σ : Sg} {ς : Lg} (x : Int32) : pf (enc sw σ ς) 7 1 3 (.int x) = some (enc sw (uA σ 1 (upd (σ 1) 3 x)) ς) := pf_of rfl (fun _ _ => rfl) x (fun _ _ => ⟨Nat.le_of_ble_eq_true rfl, rfl⟩)
theorem gi_Rd_4 {sw : Bool} {σ : Sg} {ς : Lg} : gi (enc sw σ ς) 7 1 4 = some (σ 1 4) := gi_of rfl (fun _ _ => rfl) (fun _ _ => rfl)
theorem pf_Rd_4 {sw : Bool} {σ : Sg} {ς : Lg} (x : Int32) : pf (enc sw σ ς) 7 1 4 (.int x) = some (enc sw (uA σ 1 (upd (σ 1) 4 x)) ς) := pf_of rfl (fun _ _ => rfl) x (fun _ _ => ⟨Nat.le_of_ble_eq_true rfl, rfl⟩)
theorem io_Mt {sw : Bool} {σ : Sg} {ς : Lg} : isO (enc sw σ ς) 3 3 = true := isO_of (m := _) rfl (fun _ _ => rfl)
theorem gr_Mt_0 {sw : Bool} {σ : Sg} {ς : Lg} : gr (enc sw σ ς) 3 3 0 = some 4 := gr_of rfl (fun _ _ => rfl) (fun _ _ => rfl)
theorem gr_Mt_1 {sw : Bool} {σ : Sg} {ς : Lg} : gr (enc sw σ ς) 3 3 1 = some (rA sw) := gr_of rfl (fun _ _ => rfl) (fun _ _ => rfl)
theorem io_Nt {sw : Bool} {σ : Sg} {ς : Lg} : isO (enc sw σ ς) 4 4 = true := isO_of (m := _) rfl (fun _ _ => rfl)
theorem gr_Nt_0 {sw : Bool} {σ : Sg} {ς : Lg} : gr (enc sw σ ς) 4 4 0 = some 5 := gr_of rfl (fun _ _ => rfl) (fun _ _ => rfl)
theorem gr_Nt_1 {sw : Bool} {σ : Sg} {ς : Lg} : gr (enc sw σ ς) 4 4 1 = some 6 := gr_of rfl (fun _ _ => rfl) (fun _ _ => rfl)
theorem gr_Nt_2 {sw : Bool} {σ : Sg} {ς : Lg} : gr (enc sw σ ς) 4 4 2 = some 7 := gr_of rfl (fun _ _ => rfl) (fun _ _ => rfl)
theorem gr_Nt_3 {sw : Bool} {σ : Sg} {ς : Lg} : gr (enc sw σ ς) 4 4 3 = some 8 := gr_of rfl (fun _ _ => rfl) (fun _ _ => rfl)
theorem gr_Nt_4 {sw : Bool} {σ : Sg} {ς : Lg} : gr (enc sw σ ς) 4 4 4 = some 9 := gr_of rfl (fun _ _ => rfl) (fun _ _ => rfl)
theorem gr_Nt_5 {sw : Bool} {σ : Sg} {ς : Lg} : gr (enc sw σ ς) 4 4 5 = some 10 := gr_of rfl (fun _ _ => rfl) (fun _ _ => rfl)
theorem gr_Nt_6 {sw : Bool} {σ : Sg} {ς : Lg} : gr (enc sw σ ς) 4 4 6 = some 11 := gr_of rfl (fun _ _ => rfl) (fun _ _ => rfl)
theorem gi_Nt_7 {sw : Bool} {σ : Sg} {ς : Lg} : gi (enc sw σ ς) 4 4 7 = some (σ 4 7) := gi_of rfl (fun _ _ => rfl) (fun _ _ => rfl)
theorem pf_Nt_7 {sw : Bool} {σ : Sg} {ς : Lg} (x : Int32) : pf (enc sw σ ς) 4 4 7 (.int x) = some (enc sw (uA σ 4 (upd (σ 4) 7 x)) ς) := pf_of rfl (fun _ _ => rfl) x (fun _ _ => ⟨Nat.le_of_ble_eq_true rfl, rfl⟩)
theorem gi_Nt_8 {sw : Bool} {σ : Sg} {ς : Lg} : gi (enc sw σ ς) 4 4 8 = some (σ 4 8) := gi_of rfl (fun _ _ => rfl) (fun _ _ => rfl)
theorem pf_Nt_8 {sw : Bool} {σ : Sg} {ς : Lg} (x : Int32) : pf (enc sw σ ς) 4 4 8 (.int x) = some (enc sw (uA σ 4 (upd (σ 4) 8 x)) ς) := pf_of rfl (fun _ _ => rfl) x (fun _ _ => ⟨Nat.le_of_ble_eq_true rfl, rfl⟩)
theorem gi_Nt_9 {sw : Bool} {σ : Sg} {ς : Lg} : gi (enc sw σ ς) 4 4 9 = some (σ 4 9) := gi_of rfl (fun _ _ => rfl) (fun _ _ => rfl)
theorem pf_Nt_9 {sw : Bool} {σ : Sg} {ς : Lg} (x : Int32) : pf (enc sw σ ς) 4 4 9 (.int x) = some (enc sw (uA σ 4 (upd (σ 4) 9 x)) ς) := pf_of rfl (fun _ _ => rfl) x (fun _ _ => ⟨Nat.le_of_ble_eq_true rfl, rfl⟩)
theorem gi_Nt_10 {sw : Bool} {σ : Sg} {ς : Lg} : gi (enc sw σ ς) 4 4 10 = some (σ 4 10) := gi_of rfl (fun _ _ => rfl) (fun _ _ => rfl)
theorem pf_Nt_10 {sw : Bool} {σ : Sg} {ς : Lg} (x : Int32) : pf (enc sw σ ς) 4 4 10 (.int x) = some (enc sw (uA σ 4 (upd (σ 4) 10 x)) ς) := pf_of rfl (fun _ _ => rfl) x (fun _ _ => ⟨Nat.le_of_ble_eq_true rfl, rfl⟩)
theorem io_Pl {sw : Bool} {σ : Sg} {ς : Lg} : isO (enc sw σ ς) 6 20 = true := isO_of (m := _) rfl (fun _ _ => rfl)
theorem gr_Pl_0 {sw : Bool} {σ : Sg} {ς : Lg} : gr (enc sw σ ς) 6 20 0 = some 21 := gr_of rfl (fun _ _ => rfl) (fun _ _ => rfl)
theorem gr_Pl_1 {sw : Bool} {σ : Sg} {ς : Lg} : gr (enc sw σ ς) 6 20 1 = some 22 := gr_of rfl (fun _ _ => rfl) (fun _ _ => rfl)
theorem gi_Pl_2 {sw : Bool} {σ : Sg} {ς : Lg} : gi (enc sw σ ς) 6 20 2 = some (σ 20 2) := gi_of rfl (fun _ _ => rfl) (fun _ _ => rfl)
theorem pf_Pl_2 {sw : Bool} {σ : Sg} {ς : Lg} (x : Int32) : pf (enc sw σ ς) 6 20 2 (.int x) = some (enc sw (uA σ 20 (upd (σ 20) 2 x)) ς) := pf_of rfl (fun _ _ => rfl) x (fun _ _ => ⟨Nat.le_of_ble_eq_true rfl, rfl⟩)
theorem gi_Pl_3 {sw : Bool} {σ : Sg} {ς : Lg} : gi (enc sw σ ς) 6 20 3 = some (σ 20 3) := gi_of rfl (fun _ _ => rfl) (fun _ _ => rfl)
theorem pf_Pl_3 {sw : Bool} {σ : Sg} {ς : Lg} (x : Int32) : pf (enc sw σ ς) 6 20 3 (.int x) = some (enc sw (uA σ 20 (upd (σ 20) 3 x)) ς) := pf_of rfl (fun _ _ => rfl) x (fun _ _ => ⟨Nat.le_of_ble_eq_true rfl, rfl⟩)
theorem io_Ro {sw : Bool} {σ : Sg} {ς : Lg} : isO (enc sw σ ς) 8 23 = true := isO_of (m := _) rfl (fun _ _ => rfl)
theorem gr_Ro_0 {sw : Bool} {σ : Sg} {ς : Lg} : gr (enc sw σ ς) 8 23 0 = some 24 := gr_of rfl (fun _ _ => rfl) (fun _ _ => rfl)
theorem gr_Ro_1 {sw : Bool} {σ : Sg} {ς : Lg} : gr (enc sw σ ς) 8 23 1 = some 25 := gr_of rfl (fun _ _ => rfl) (fun _ _ => rfl)
theorem gr_Ro_2 {sw : Bool} {σ : Sg} {ς : Lg} : gr (enc sw σ ς) 8 23 2 = some 26 := gr_of rfl (fun _ _ => rfl) (fun _ _ => rfl)
theorem gi_Ro_3 {sw : Bool} {σ : Sg} {ς : Lg} : gi (enc sw σ ς) 8 23 3 = some (σ 23 3) := gi_of rfl (fun _ _ => rfl) (fun _ _ => rfl)
theorem pf_Ro_3 {sw : Bool} {σ : Sg} {ς : Lg} (x : Int32) : pf (enc sw σ ς) 8 23 3 (.int x) = some (enc sw (uA σ 23 (upd (σ 23) 3 x)) ς) := pf_of rfl (fun _ _ => rfl) x (fun _ _ => ⟨Nat.le_of_ble_eq_true rfl, rfl⟩)
theorem gi_Ro_4 {sw : Bool} {σ : Sg} {ς : Lg} : gi (enc sw σ ς) 8 23 4 = some (σ 23 4) := gi_of rfl (fun _ _ => rfl) (fun _ _ => rfl)
theorem pf_Ro_4 {sw : Bool} {σ : Sg} {ς : Lg} (x : Int32) : pf (enc sw σ ς) 8 23 4 (.int x) = some (enc sw (uA σ 23 (upd (σ 23) 4 x)) ς) := pf_of rfl (fun _ _ => rfl) x (fun _ _ => ⟨Nat.le_of_ble_eq_true rfl, rfl⟩)
theorem gi_Ro_5 {sw : Bool} {σ : Sg} {ς : Lg} : gi (enc sw σ ς) 8 23 5 = some (σ 23 5) := gi_of rfl (fun _ _ => rfl) (fun _ _ => rfl)
theorem pf_Ro_5 {sw : Bool} {σ : Sg} {ς : Lg} (x : Int32) : pf (enc sw σ ς) 8 23 5 (.int x) = some (enc sw (uA σ 23 (upd (σ 23) 5 x)) ς) := pf_of rfl (fun _ _ => rfl) x (fun _ _ => ⟨Nat.le_of_ble_eq_true rfl, rfl⟩)
theorem io_Pa {sw : Bool} {σ : Sg} {ς : Lg} : isO (enc sw σ ς) 5 27 = true := isO_of (m := _) rfl (fun _ _ => rfl)
theorem gr_Pa_0 {sw : Bool} {σ : Sg} {ς : Lg} : gr (enc sw σ ς) 5 27 0 = some 28 := gr_of rfl (fun _ _ => rfl) (fun _ _ => rfl)
theorem gi_Pa_1 {sw : Bool} {σ : Sg} {ς : Lg} : gi (enc sw σ ς) 5 27 1 = some (σ 27 1) := gi_of rfl (fun _ _ => rfl) (fun _ _ => rfl)
theorem pf_Pa_1 {sw : Bool} {σ : Sg} {ς : Lg} (x : Int32) : pf (enc sw σ ς) 5 27 1 (.int x) = some (enc sw (uA σ 27 (upd (σ 27) 1 x)) ς) := pf_of rfl (fun _ _ => rfl) x (fun _ _ => ⟨Nat.le_of_ble_eq_true rfl, rfl⟩)
theorem gi_Pa_2 {sw : Bool} {σ : Sg} {ς : Lg} : gi (enc sw σ ς) 5 27 2 = some (σ 27 2) := gi_of rfl (fun _ _ => rfl) (fun _ _ => rfl)
theorem pf_Pa_2 {sw : Bool} {σ : Sg} {ς : Lg} (x : Int32) : pf (enc sw σ ς) 5 27 2 (.int x) = some (enc sw (uA σ 27 (upd (σ 27) 2 x)) ς) := pf_of rfl (fun _ _ => rfl) x (fun _ _ => ⟨Nat.le_of_ble_eq_true rfl, rfl⟩)
theorem io_Te {sw : Bool} {σ : Sg} {ς : Lg} : isO (enc sw σ ς) 10 269 = true := isO_of (m := _) rfl (fun _ _ => rfl)
theorem gr_Te_0 {sw : Bool} {σ : Sg} {ς : Lg} : gr (enc sw σ ς) 10 269 0 = some 270 := gr_of rfl (fun _ _ => rfl) (fun _ _ => rfl)
theorem gr_Te_1 {sw : Bool} {σ : Sg} {ς : Lg} : gr (enc sw σ ς) 10 269 1 = some 271 := gr_of rfl (fun _ _ => rfl) (fun _ _ => rfl)
theorem gi_Te_2 {sw : Bool} {σ : Sg} {ς : Lg} : gi (enc sw σ ς) 10 269 2 = some (σ 269 2) := gi_of rfl (fun _ _ => rfl) (fun _ _ => rfl)
theorem pf_Te_2 {sw : Bool} {σ : Sg} {ς : Lg} (x : Int32) : pf (enc sw σ ς) 10 269 2 (.int x) = some (enc sw (uA σ 269 (upd (σ 269) 2 x)) ς) := pf_of rfl (fun _ _ => rfl) x (fun _ _ => ⟨Nat.le_of_ble_eq_true rfl, rfl⟩)
theorem io_Bo {sw : Bool} {σ : Sg} {ς : Lg} : isO (enc sw σ ς) 0 272 = true := isO_of (m := _) rfl (fun _ _ => rfl)
theorem gr_Bo_0 {sw : Bool} {σ : Sg} {ς : Lg} : gr (enc sw σ ς) 0 272 0 = some 273 := gr_of rfl (fun _ _ => rfl) (fun _ _ => rfl)
theorem gr_Bo_1 {sw : Bool} {σ : Sg} {ς : Lg} : gr (enc sw σ ς) 0 272 1 = some 274 := gr_of rfl (fun _ _ => rfl) (fun _ _ => rfl)
theorem gi_Bo_2 {sw : Bool} {σ : Sg} {ς : Lg} : gi (enc sw σ ς) 0 272 2 = some (σ 272 2) := gi_of rfl (fun _ _ => rfl) (fun _ _ => rfl)
theorem pf_Bo_2 {sw : Bool} {σ : Sg} {ς : Lg} (x : Int32) : pf (enc sw σ ς) 0 272 2 (.int x) = some (enc sw (uA σ 272 (upd (σ 272) 2 x)) ς) := pf_of rfl (fun _ _ => rfl) x (fun _ _ => ⟨Nat.le_of_ble_eq_true rfl, rfl⟩)
theorem io_Ia {sw : Bool} {σ : Sg} {ς : Lg} : isO (enc sw σ ς) 2 284 = true := isO_of (m := _) rfl (fun _ _ => rfl)
theorem gr_Ia_0 {sw : Bool} {σ : Sg} {ς : Lg} : gr (enc sw σ ς) 2 284 0 = some 285 := gr_of rfl (fun _ _ => rfl) (fun _ _ => rfl)
theorem gi_Ia_1 {sw : Bool} {σ : Sg} {ς : Lg} : gi (enc sw σ ς) 2 284 1 = some (σ 284 1) := gi_of rfl (fun _ _ => rfl) (fun _ _ => rfl)
theorem pf_Ia_1 {sw : Bool} {σ : Sg} {ς : Lg} (x : Int32) : pf (enc sw σ ς) 2 284 1 (.int x) = some (enc sw (uA σ 284 (upd (σ 284) 1 x)) ς) := pf_of rfl (fun _ _ => rfl) x (fun _ _ => ⟨Nat.le_of_ble_eq_true rfl, rfl⟩)
theorem gi_Ia_2 {sw : Bool} {σ : Sg} {ς : Lg} : gi (enc sw σ ς) 2 284 2 = some (σ 284 2) := gi_of rfl (fun _ _ => rfl) (fun _ _ => rfl)
theorem pf_Ia_2 {sw : Bool} {σ : Sg} {ς : Lg} (x : Int32) : pf (enc sw σ ς) 2 284 2 (.int x) = some (enc sw (uA σ 284 (upd (σ 284) 2 x)) ς) := pf_of rfl (fun _ _ => rfl) x (fun _ _ => ⟨Nat.le_of_ble_eq_true rfl, rfl⟩)
theorem io_Ib {sw : Bool} {σ : Sg} {ς : Lg} : isO (enc sw σ ς) 2 293 = true := isO_of (m := _) rfl (fun _ _ => rfl)
theorem gr_Ib_0 {sw : Bool} {σ : Sg} {ς : Lg} : gr (enc sw σ ς) 2 293 0 = some 294 := gr_of rfl (fun _ _ => rfl) (fun _ _ => rfl)
theorem gi_Ib_1 {sw : Bool} {σ : Sg} {ς : Lg} : gi (enc sw σ ς) 2 293 1 = some (σ 293 1) := gi_of rfl (fun _ _ => rfl) (fun _ _ => rfl)
theorem pf_Ib_1 {sw : Bool} {σ : Sg} {ς : Lg} (x : Int32) : pf (enc sw σ ς) 2 293 1 (.int x) = some (enc sw (uA σ 293 (upd (σ 293) 1 x)) ς) := pf_of rfl (fun _ _ => rfl) x (fun _ _ => ⟨Nat.le_of_ble_eq_true rfl, rfl⟩)
theorem gi_Ib_2 {sw : Bool} {σ : Sg} {ς : Lg} : gi (enc sw σ ς) 2 293 2 = some (σ 293 2) := gi_of rfl (fun _ _ => rfl) (fun _ _ => rfl)
theorem pf_Ib_2 {sw : Bool} {σ : Sg} {ς : Lg} (x : Int32) : pf (enc sw σ ς) 2 293 2 (.int x) = some (enc sw (uA σ 293 (upd (σ 293) 2 x)) ς) := pf_of rfl (fun _ _ => rfl) x (fun _ _ => ⟨Nat.le_of_ble_eq_true rfl, rfl⟩)
theorem io_Mo {sw : Bool} {σ : Sg} {ς : Lg} : isO (enc sw σ ς) 12 302 = true := isO_of (m := _) rfl (fun _ _ => rfl)
theorem gr_Mo_0 {sw : Bool} {σ : Sg} {ς : Lg} : gr (enc sw σ ς) 12 302 0 = some 303 := gr_of rfl (fun _ _ => rfl) (fun _ _ => rfl)
theorem gi_Mo_1 {sw : Bool} {σ : Sg} {ς : Lg} : gi (enc sw σ ς) 12 302 1 = some (σ 302 1) := gi_of rfl (fun _ _ => rfl) (fun _ _ => rfl)
theorem pf_Mo_1 {sw : Bool} {σ : Sg} {ς : Lg} (x : Int32) : pf (enc sw σ ς) 12 302 1 (.int x) = some (enc sw (uA σ 302 (upd (σ 302) 1 x)) ς) := pf_of rfl (fun _ _ => rfl) x (fun _ _ => ⟨Nat.le_of_ble_eq_true rfl, rfl⟩)
theorem gi_Mo_2 {sw : Bool} {σ : Sg} {ς : Lg} : gi (enc sw σ ς) 12 302 2 = some (σ 302 2) := gi_of rfl (fun _ _ => rfl) (fun _ _ => rfl)
theorem pf_Mo_2 {sw : Bool} {σ : Sg} {ς : Lg} (x : Int32) : pf (enc sw σ ς) 12 302 2 (.int x) = some (enc sw (uA σ 302 (upd (σ 302) 2 x)) ς) := pf_of rfl (fun _ _ => rfl) x (fun _ _ => ⟨Nat.le_of_ble_eq_true rfl, rfl⟩)
theorem gi_Mo_3 {sw : Bool} {σ : Sg} {ς : Lg} : gi (enc sw σ ς) 12 302 3 = some (σ 302 3) := gi_of rfl (fun _ _ => rfl) (fun _ _ => rfl)
theorem pf_Mo_3 {sw : Bool} {σ : Sg} {ς : Lg} (x : Int32) : pf (enc sw σ ς) 12 302 3 (.int x) = some (enc sw (uA σ 302 (upd (σ 302) 3 x)) ς) := pf_of rfl (fun _ _ => rfl) x (fun _ _ => ⟨Nat.le_of_ble_eq_true rfl, rfl⟩)
theorem gi_Mo_4 {sw : Bool} {σ : Sg} {ς : Lg} : gi (enc sw σ ς) 12 302 4 = some (σ 302 4) := gi_of rfl (fun _ _ => rfl) (fun _ _ => rfl)
theorem pf_Mo_4 {sw : Bool} {σ : Sg} {ς : Lg} (x : Int32) : pf (enc sw σ ς) 12 302 4 (.int x) = some (enc sw (uA σ 302 (upd (σ 302) 4 x)) ς) := pf_of rfl (fun _ _ => rfl) x (fun _ _ => ⟨Nat.le_of_ble_eq_true rfl, rfl⟩)
theorem gi_Mo_5 {sw : Bool} {σ : Sg} {ς : Lg} : gi (enc sw σ ς) 12 302 5 = some (σ 302 5) := gi_of rfl (fun _ _ => rfl) (fun _ _ => rfl)
theorem pf_Mo_5 {sw : Bool} {σ : Sg} {ς : Lg} (x : Int32) : pf (enc sw σ ς) 12 302 5 (.int x) = some (enc sw (uA σ 302 (upd (σ 302) 5 x)) ς) := pf_of rfl (fun _ _ => rfl) x (fun _ _ => ⟨Nat.le_of_ble_eq_true rfl, rfl⟩)
theorem gi_Mo_6 {sw : Bool} {σ : Sg} {ς : Lg} : gi (enc sw σ ς) 12 302 6 = some (σ 302 6) := gi_of rfl (fun _ _ => rfl) (fun _ _ => rfl)
theorem pf_Mo_6 {sw : Bool} {σ : Sg} {ς : Lg} (x : Int32) : pf (enc sw σ ς) 12 302 6 (.int x) = some (enc sw (uA σ 302 (upd (σ 302) 6 x)) ς) := pf_of rfl (fun _ _ => rfl) x (fun _ _ => ⟨Nat.le_of_ble_eq_true rfl, rfl⟩)
theorem gr_Mo_7 {sw : Bool} {σ : Sg} {ς : Lg} : gr (enc sw σ ς) 12 302 7 = some 304 := gr_of rfl (fun _ _ => rfl) (fun _ _ => rfl)
theorem gr_Mo_8 {sw : Bool} {σ : Sg} {ς : Lg} : gr (enc sw σ ς) 12 302 8 = some 305 := gr_of rfl (fun _ _ => rfl) (fun _ _ => rfl)
theorem gr_Mo_9 {sw : Bool} {σ : Sg} {ς : Lg} : gr (enc sw σ ς) 12 302 9 = some 306 := gr_of rfl (fun _ _ => rfl) (fun _ _ => rfl)
theorem gr_Mo_10 {sw : Bool} {σ : Sg} {ς : Lg} : gr (enc sw σ ς) 12 302 10 = some 307 := gr_of rfl (fun _ _ => rfl) (fun _ _ => rfl)
theorem gr_Mo_11 {sw : Bool} {σ : Sg} {ς : Lg} : gr (enc sw σ ς) 12 302 11 = some 308 := gr_of rfl (fun _ _ => rfl) (fun _ _ => rfl)
theorem gr_Mo_12 {sw : Bool} {σ : Sg} {ς : Lg} : gr (enc sw σ ς) 12 302 12 = some 309 := gr_of rfl (fun _ _ => rfl) (fun _ _ => rfl)
theorem gi_Mo_13 {sw : Bool} {σ : Sg} {ς : Lg} : gi (enc sw σ ς) 12 302 13 = some (σ 302 13) := gi_of rfl (fun _ _ => rfl) (fun _ _ => rfl)
theorem pf_Mo_13 {sw : Bool} {σ : Sg} {ς : Lg} (x : Int32) : pf (enc sw σ ς) 12 302 13 (.int x) = some (enc sw (uA σ 302 (upd (σ 302) 13 x)) ς) := pf_of rfl (fun _ _ => rfl) x (fun _ _ => ⟨Nat.le_of_ble_eq_true rfl, rfl⟩)
theorem gl_Mo_14 {sw : Bool} {σ : Sg} {ς : Lg} : gl (enc sw σ ς) 12 302 14 = some (ς 302 14) := gl_of rfl (fun _ _ => rfl) (fun _ _ => rfl)
theorem pl_Mo_14 {sw : Bool} {σ : Sg} {ς : Lg} (x : Int64) : pf (enc sw σ ς) 12 302 14 (.long x) = some (enc sw σ (uL ς 302 (vp_updL (ς 302) 14 x))) := pfL_of rfl (fun _ _ => rfl) x (fun _ _ => ⟨Nat.le_of_ble_eq_true rfl, rfl⟩)
theorem gr_Mo_15 {sw : Bool} {σ : Sg} {ς : Lg} : gr (enc sw σ ς) 12 302 15 = some 310 := gr_of rfl (fun _ _ => rfl) (fun _ _ => rfl)
theorem gr_Mo_16 {sw : Bool} {σ : Sg} {ς : Lg} : gr (enc sw σ ς) 12 302 16 = some 311 := gr_of rfl (fun _ _ => rfl) (fun _ _ => rfl)
theorem gr_Mo_17 {sw : Bool} {σ : Sg} {ς : Lg} : gr (enc sw σ ς) 12 302 17 = some 312 := gr_of rfl (fun _ _ => rfl) (fun _ _ => rfl)
theorem gr_Mo_18 {sw : Bool} {σ : Sg} {ς : Lg} : gr (enc sw σ ς) 12 302 18 = some 313 := gr_of rfl (fun _ _ => rfl) (fun _ _ => rfl)
theorem gi_Mo_19 {sw : Bool} {σ : Sg} {ς : Lg} : gi (enc sw σ ς) 12 302 19 = some (σ 302 19) := gi_of rfl (fun _ _ => rfl) (fun _ _ => rfl)
theorem pf_Mo_19 {sw : Bool} {σ : Sg} {ς : Lg} (x : Int32) : pf (enc sw σ ς) 12 302 19 (.int x) = some (enc sw (uA σ 302 (upd (σ 302) 19 x)) ς) := pf_of rfl (fun _ _ => rfl) x (fun _ _ => ⟨Nat.le_of_ble_eq_true rfl, rfl⟩)
theorem gr_Mo_20 {sw : Bool} {σ : Sg} {ς : Lg} : gr (enc sw σ ς) 12 302 20 = some 314 := gr_of rfl (fun _ _ => rfl) (fun _ _ => rfl)
theorem gi_Mo_21 {sw : Bool} {σ : Sg} {ς : Lg} : gi (enc sw σ ς) 12 302 21 = some (σ 302 21) := gi_of rfl (fun _ _ => rfl) (fun _ _ => rfl)
theorem pf_Mo_21 {sw : Bool} {σ : Sg} {ς : Lg} (x : Int32) : pf (enc sw σ ς) 12 302 21 (.int x) = some (enc sw (uA σ 302 (upd (σ 302) 21 x)) ς) := pf_of rfl (fun _ _ => rfl) x (fun _ _ => ⟨Nat.le_of_ble_eq_true rfl, rfl⟩)
theorem gi_Mo_22 {sw : Bool} {σ : Sg} {ς : Lg} : gi (enc sw σ ς) 12 302 22 = some (σ 302 22) := gi_of rfl (fun _ _ => rfl) (fun _ _ => rfl)
theorem pf_Mo_22 {sw : Bool} {σ : Sg} {ς : Lg} (x : Int32) : pf (enc sw σ ς) 12 302 22 (.int x) = some (enc sw (uA σ 302 (upd (σ 302) 22 x)) ς) := pf_of rfl (fun _ _ => rfl) x (fun _ _ => ⟨Nat.le_of_ble_eq_true rfl, rfl⟩)
theorem gi_Mo_23 {sw : Bool} {σ : Sg} {ς : Lg} : gi (enc sw σ ς) 12 302 23 = some (σ 302 23) := gi_of rfl (fun _ _ => rfl) (fun _ _ => rfl)
theorem pf_Mo_23 {sw : Bool} {σ : Sg} {ς : Lg} (x : Int32) : pf (enc sw σ ς) 12 302 23 (.int x) = some (enc sw (uA σ 302 (upd (σ 302) 23 x)) ς) := pf_of rfl (fun _ _ => rfl) x (fun _ _ => ⟨Nat.le_of_ble_eq_true rfl, rfl⟩)
theorem gi_Mo_24 {sw : Bool} {σ : Sg} {ς : Lg} : gi (enc sw σ ς) 12 302 24 = some (σ 302 24) := gi_of rfl (fun _ _ => rfl) (fun _ _ => rfl)
theorem pf_Mo_24 {sw : Bool} {σ : Sg} {ς : Lg} (x : Int32) : pf (enc sw σ ς) 12 302 24 (.int x) = some (enc sw (uA σ 302 (upd (σ 302) 24 x)) ς) := pf_of rfl (fun _ _ => rfl) x (fun _ _ => ⟨Nat.le_of_ble_eq_true rfl, rfl⟩)
theorem gi_Mo_25 {sw : Bool} {σ : Sg} {ς : Lg} : gi (enc sw σ ς) 12 302 25 = some (σ 302 25) := gi_of rfl (fun _ _ => rfl) (fun _ _ => rfl)
theorem pf_Mo_25 {sw : Bool} {σ : Sg} {ς : Lg} (x : Int32) : pf (enc sw σ ς) 12 302 25 (.int x) = some (enc sw (uA σ 302 (upd (σ 302) 25 x)) ς) := pf_of rfl (fun _ _ => rfl) x (fun _ _ => ⟨Nat.le_of_ble_eq_true rfl, rfl⟩)
theorem gi_Mo_26 {sw : Bool} {σ : Sg} {ς : Lg} : gi (enc sw σ ς) 12 302 26 = some (σ 302 26) := gi_of rfl (fun _ _ => rfl) (fun _ _ => rfl)
theorem pf_Mo_26 {sw : Bool} {σ : Sg} {ς : Lg} (x : Int32) : pf (enc sw σ ς) 12 302 26 (.int x) = some (enc sw (uA σ 302 (upd (σ 302) 26 x)) ς) := pf_of rfl (fun _ _ => rfl) x (fun _ _ => ⟨Nat.le_of_ble_eq_true rfl, rfl⟩)
theorem gi_Mo_27 {sw : Bool} {σ : Sg} {ς : Lg} : gi (enc sw σ ς) 12 302 27 = some (σ 302 27) := gi_of rfl (fun _ _ => rfl) (fun _ _ => rfl)
theorem pf_Mo_27 {sw : Bool} {σ : Sg} {ς : Lg} (x : Int32) : pf (enc sw σ ς) 12 302 27 (.int x) = some (enc sw (uA σ 302 (upd (σ 302) 27 x)) ς) := pf_of rfl (fun _ _ => rfl) x (fun _ _ => ⟨Nat.le_of_ble_eq_true rfl, rfl⟩)
theorem gr_Mo_28 {sw : Bool} {σ : Sg} {ς : Lg} : gr (enc sw σ ς) 12 302 28 = some 315 := gr_of rfl (fun _ _ => rfl) (fun _ _ => rfl)
theorem gr_Mo_29 {sw : Bool} {σ : Sg} {ς : Lg} : gr (enc sw σ ς) 12 302 29 = some 316 := gr_of rfl (fun _ _ => rfl) (fun _ _ => rfl)
theorem gi_Mo_30 {sw : Bool} {σ : Sg} {ς : Lg} : gi (enc sw σ ς) 12 302 30 = some (σ 302 30) := gi_of rfl (fun _ _ => rfl) (fun _ _ => rfl)
theorem pf_Mo_30 {sw : Bool} {σ : Sg} {ς : Lg} (x : Int32) : pf (enc sw σ ς) 12 302 30 (.int x) = some (enc sw (uA σ 302 (upd (σ 302) 30 x)) ς) := pf_of rfl (fun _ _ => rfl) x (fun _ _ => ⟨Nat.le_of_ble_eq_true rfl, rfl⟩)
theorem gi_Mo_31 {sw : Bool} {σ : Sg} {ς : Lg} : gi (enc sw σ ς) 12 302 31 = some (σ 302 31) := gi_of rfl (fun _ _ => rfl) (fun _ _ => rfl)
theorem pf_Mo_31 {sw : Bool} {σ : Sg} {ς : Lg} (x : Int32) : pf (enc sw σ ς) 12 302 31 (.int x) = some (enc sw (uA σ 302 (upd (σ 302) 31 x)) ς) := pf_of rfl (fun _ _ => rfl) x (fun _ _ => ⟨Nat.le_of_ble_eq_true rfl, rfl⟩)
theorem gr_Mo_32 {sw : Bool} {σ : Sg} {ς : Lg} : gr (enc sw σ ς) 12 302 32 = some 317 := gr_of rfl (fun _ _ => rfl) (fun _ _ => rfl)
theorem gr_Mo_33 {sw : Bool} {σ : Sg} {ς : Lg} : gr (enc sw σ ς) 12 302 33 = some 318 := gr_of rfl (fun _ _ => rfl) (fun _ _ => rfl)
theorem gr_Mo_34 {sw : Bool} {σ : Sg} {ς : Lg} : gr (enc sw σ ς) 12 302 34 = some 319 := gr_of rfl (fun _ _ => rfl) (fun _ _ => rfl)
theorem gr_Mo_35 {sw : Bool} {σ : Sg} {ς : Lg} : gr (enc sw σ ς) 12 302 35 = some 320 := gr_of rfl (fun _ _ => rfl) (fun _ _ => rfl)
theorem gr_Mo_36 {sw : Bool} {σ : Sg} {ς : Lg} : gr (enc sw σ ς) 12 302 36 = some 321 := gr_of rfl (fun _ _ => rfl) (fun _ _ => rfl)
theorem gr_Mo_37 {sw : Bool} {σ : Sg} {ς : Lg} : gr (enc sw σ ς) 12 302 37 = some 322 := gr_of rfl (fun _ _ => rfl) (fun _ _ => rfl)
theorem shp_Ra (sw : Bool) : (shp sw)[rA sw]? = some (mkRow (rA sw)) := by cases sw <;> rfl
theorem io_Ra {sw : Bool} {σ : Sg} {ς : Lg} : isO (enc sw σ ς) 9 (rA sw) = true := isO_of (shp_Ra sw) (fun _ _ => rfl)
theorem gr_Ra_0 {sw : Bool} {σ : Sg} {ς : Lg} : gr (enc sw σ ς) 9 (rA sw) 0 = some (rA sw + 1) := gr_of (shp_Ra sw) (fun _ _ => rfl) (fun _ _ => rfl)
theorem shp_Ra_0 (sw : Bool) : (shp sw)[rA sw + 1]? = some (mkI 6) := by cases sw <;> rfl
theorem ai_Ra_0 {sw : Bool} {σ : Sg} {ς : Lg} {j : Nat} (h : j < 6) : ai (enc sw σ ς) 0 (rA sw + 1) (nI j) = some (σ (rA sw + 1) j) := ai_nI (shp_Ra_0 sw) (fun _ _ => rfl) h (by decide)
theorem aw_Ra_0 {sw : Bool} {σ : Sg} {ς : Lg} {j : Nat} (h : j < 6) (x : Int32) : aw (enc sw σ ς) 0 (rA sw + 1) (nI j) x = some (enc sw (uA σ (rA sw + 1) (upd (σ (rA sw + 1)) j x)) ς) := aw_nI x (shp_Ra_0 sw) (fun _ _ => rfl) h (by decide)
theorem gr_Ra_1 {sw : Bool} {σ : Sg} {ς : Lg} : gr (enc sw σ ς) 9 (rA sw) 1 = some (rA sw + 2) := gr_of (shp_Ra sw) (fun _ _ => rfl) (fun _ _ => rfl)
theorem shp_Ra_1 (sw : Bool) : (shp sw)[rA sw + 2]? = some (mkI 6) := by cases sw <;> rfl
theorem ai_Ra_1 {sw : Bool} {σ : Sg} {ς : Lg} {j : Nat} (h : j < 6) : ai (enc sw σ ς) 0 (rA sw + 2) (nI j) = some (σ (rA sw + 2) j) := ai_nI (shp_Ra_1 sw) (fun _ _ => rfl) h (by decide)
theorem aw_Ra_1 {sw : Bool} {σ : Sg} {ς : Lg} {j : Nat} (h : j < 6) (x : Int32) : aw (enc sw σ ς) 0 (rA sw + 2) (nI j) x = some (enc sw (uA σ (rA sw + 2) (upd (σ (rA sw + 2)) j x)) ς) := aw_nI x (shp_Ra_1 sw) (fun _ _ => rfl) h (by decide)
theorem gr_Ra_2 {sw : Bool} {σ : Sg} {ς : Lg} : gr (enc sw σ ς) 9 (rA sw) 2 = some (rA sw + 3) := gr_of (shp_Ra sw) (fun _ _ => rfl) (fun _ _ => rfl)
theorem shp_Ra_2 (sw : Bool) : (shp sw)[rA sw + 3]? = some (mkI 6) := by cases sw <;> rfl
theorem ai_Ra_2 {sw : Bool} {σ : Sg} {ς : Lg} {j : Nat} (h : j < 6) : ai (enc sw σ ς) 0 (rA sw + 3) (nI j) = some (σ (rA sw + 3) j) := ai_nI (shp_Ra_2 sw) (fun _ _ => rfl) h (by decide)
theorem aw_Ra_2 {sw : Bool} {σ : Sg} {ς : Lg} {j : Nat} (h : j < 6) (x : Int32) : aw (enc sw σ ς) 0 (rA sw + 3) (nI j) x = some (enc sw (uA σ (rA sw + 3) (upd (σ (rA sw + 3)) j x)) ς) := aw_nI x (shp_Ra_2 sw) (fun _ _ => rfl) h (by decide)
theorem gr_Ra_3 {sw : Bool} {σ : Sg} {ς : Lg} : gr (enc sw σ ς) 9 (rA sw) 3 = some (rA sw + 4) := gr_of (shp_Ra sw) (fun _ _ => rfl) (fun _ _ => rfl)
theorem shp_Ra_3 (sw : Bool) : (shp sw)[rA sw + 4]? = some (mkI 6) := by cases sw <;> rfl
theorem ai_Ra_3 {sw : Bool} {σ : Sg} {ς : Lg} {j : Nat} (h : j < 6) : ai (enc sw σ ς) 0 (rA sw + 4) (nI j) = some (σ (rA sw + 4) j) := ai_nI (shp_Ra_3 sw) (fun _ _ => rfl) h (by decide)
theorem aw_Ra_3 {sw : Bool} {σ : Sg} {ς : Lg} {j : Nat} (h : j < 6) (x : Int32) : aw (enc sw σ ς) 0 (rA sw + 4) (nI j) x = some (enc sw (uA σ (rA sw + 4) (upd (σ (rA sw + 4)) j x)) ς) := aw_nI x (shp_Ra_3 sw) (fun _ _ => rfl) h (by decide)
theorem gr_Ra_4 {sw : Bool} {σ : Sg} {ς : Lg} : gr (enc sw σ ς) 9 (rA sw) 4 = some (rA sw + 5) := gr_of (shp_Ra sw) (fun _ _ => rfl) (fun _ _ => rfl)
theorem shp_Ra_4 (sw : Bool) : (shp sw)[rA sw + 5]? = some (mkI 6) := by cases sw <;> rfl
theorem ai_Ra_4 {sw : Bool} {σ : Sg} {ς : Lg} {j : Nat} (h : j < 6) : ai (enc sw σ ς) 0 (rA sw + 5) (nI j) = some (σ (rA sw + 5) j) := ai_nI (shp_Ra_4 sw) (fun _ _ => rfl) h (by decide)
theorem aw_Ra_4 {sw : Bool} {σ : Sg} {ς : Lg} {j : Nat} (h : j < 6) (x : Int32) : aw (enc sw σ ς) 0 (rA sw + 5) (nI j) x = some (enc sw (uA σ (rA sw + 5) (upd (σ (rA sw + 5)) j x)) ς) := aw_nI x (shp_Ra_4 sw) (fun _ _ => rfl) h (by decide)
theorem gr_Ra_5 {sw : Bool} {σ : Sg} {ς : Lg} : gr (enc sw σ ς) 9 (rA sw) 5 = some (rA sw + 6) := gr_of (shp_Ra sw) (fun _ _ => rfl) (fun _ _ => rfl)
theorem shp_Ra_5 (sw : Bool) : (shp sw)[rA sw + 6]? = some (mkI 6) := by cases sw <;> rfl
theorem ai_Ra_5 {sw : Bool} {σ : Sg} {ς : Lg} {j : Nat} (h : j < 6) : ai (enc sw σ ς) 0 (rA sw + 6) (nI j) = some (σ (rA sw + 6) j) := ai_nI (shp_Ra_5 sw) (fun _ _ => rfl) h (by decide)
theorem aw_Ra_5 {sw : Bool} {σ : Sg} {ς : Lg} {j : Nat} (h : j < 6) (x : Int32) : aw (enc sw σ ς) 0 (rA sw + 6) (nI j) x = some (enc sw (uA σ (rA sw + 6) (upd (σ (rA sw + 6)) j x)) ς) := aw_nI x (shp_Ra_5 sw) (fun _ _ => rfl) h (by decide)
theorem gr_Ra_6 {sw : Bool} {σ : Sg} {ς : Lg} : gr (enc sw σ ς) 9 (rA sw) 6 = some (rA sw + 7) := gr_of (shp_Ra sw) (fun _ _ => rfl) (fun _ _ => rfl)
theorem shp_Ra_6 (sw : Bool) : (shp sw)[rA sw + 7]? = some (mkI 6) := by cases sw <;> rfl
theorem ai_Ra_6 {sw : Bool} {σ : Sg} {ς : Lg} {j : Nat} (h : j < 6) : ai (enc sw σ ς) 0 (rA sw + 7) (nI j) = some (σ (rA sw + 7) j) := ai_nI (shp_Ra_6 sw) (fun _ _ => rfl) h (by decide)
theorem aw_Ra_6 {sw : Bool} {σ : Sg} {ς : Lg} {j : Nat} (h : j < 6) (x : Int32) : aw (enc sw σ ς) 0 (rA sw + 7) (nI j) x = some (enc sw (uA σ (rA sw + 7) (upd (σ (rA sw + 7)) j x)) ς) := aw_nI x (shp_Ra_6 sw) (fun _ _ => rfl) h (by decide)
theorem gi_Ra_7 {sw : Bool} {σ : Sg} {ς : Lg} : gi (enc sw σ ς) 9 (rA sw) 7 = some (σ (rA sw) 7) := gi_of (shp_Ra sw) (fun _ _ => rfl) (fun _ _ => rfl)
theorem pf_Ra_7 {sw : Bool} {σ : Sg} {ς : Lg} (x : Int32) : pf (enc sw σ ς) 9 (rA sw) 7 (.int x) = some (enc sw (uA σ (rA sw) (upd (σ (rA sw)) 7 x)) ς) := pf_of (shp_Ra sw) (fun _ _ => rfl) x (fun _ _ => ⟨Nat.le_of_ble_eq_true rfl, rfl⟩)
theorem gi_Ra_8 {sw : Bool} {σ : Sg} {ς : Lg} : gi (enc sw σ ς) 9 (rA sw) 8 = some (σ (rA sw) 8) := gi_of (shp_Ra sw) (fun _ _ => rfl) (fun _ _ => rfl)
theorem pf_Ra_8 {sw : Bool} {σ : Sg} {ς : Lg} (x : Int32) : pf (enc sw σ ς) 9 (rA sw) 8 (.int x) = some (enc sw (uA σ (rA sw) (upd (σ (rA sw)) 8 x)) ς) := pf_of (shp_Ra sw) (fun _ _ => rfl) x (fun _ _ => ⟨Nat.le_of_ble_eq_true rfl, rfl⟩)
theorem gi_Ra_9 {sw : Bool} {σ : Sg} {ς : Lg} : gi (enc sw σ ς) 9 (rA sw) 9 = some (σ (rA sw) 9) := gi_of (shp_Ra sw) (fun _ _ => rfl) (fun _ _ => rfl)
theorem pf_Ra_9 {sw : Bool} {σ : Sg} {ς : Lg} (x : Int32) : pf (enc sw σ ς) 9 (rA sw) 9 (.int x) = some (enc sw (uA σ (rA sw) (upd (σ (rA sw)) 9 x)) ς) := pf_of (shp_Ra sw) (fun _ _ => rfl) x (fun _ _ => ⟨Nat.le_of_ble_eq_true rfl, rfl⟩)
theorem gi_Ra_10 {sw : Bool} {σ : Sg} {ς : Lg} : gi (enc sw σ ς) 9 (rA sw) 10 = some (σ (rA sw) 10) := gi_of (shp_Ra sw) (fun _ _ => rfl) (fun _ _ => rfl)
theorem pf_Ra_10 {sw : Bool} {σ : Sg} {ς : Lg} (x : Int32) : pf (enc sw σ ς) 9 (rA sw) 10 (.int x) = some (enc sw (uA σ (rA sw) (upd (σ (rA sw)) 10 x)) ς) := pf_of (shp_Ra sw) (fun _ _ => rfl) x (fun _ _ => ⟨Nat.le_of_ble_eq_true rfl, rfl⟩)
theorem shp_Rb (sw : Bool) : (shp sw)[rB sw]? = some (mkRow (rB sw)) := by cases sw <;> rfl
theorem io_Rb {sw : Bool} {σ : Sg} {ς : Lg} : isO (enc sw σ ς) 9 (rB sw) = true := isO_of (shp_Rb sw) (fun _ _ => rfl)
theorem gr_Rb_0 {sw : Bool} {σ : Sg} {ς : Lg} : gr (enc sw σ ς) 9 (rB sw) 0 = some (rB sw + 1) := gr_of (shp_Rb sw) (fun _ _ => rfl) (fun _ _ => rfl)
theorem shp_Rb_0 (sw : Bool) : (shp sw)[rB sw + 1]? = some (mkI 6) := by cases sw <;> rfl
theorem ai_Rb_0 {sw : Bool} {σ : Sg} {ς : Lg} {j : Nat} (h : j < 6) : ai (enc sw σ ς) 0 (rB sw + 1) (nI j) = some (σ (rB sw + 1) j) := ai_nI (shp_Rb_0 sw) (fun _ _ => rfl) h (by decide)
theorem aw_Rb_0 {sw : Bool} {σ : Sg} {ς : Lg} {j : Nat} (h : j < 6) (x : Int32) : aw (enc sw σ ς) 0 (rB sw + 1) (nI j) x = some (enc sw (uA σ (rB sw + 1) (upd (σ (rB sw + 1)) j x)) ς) := aw_nI x (shp_Rb_0 sw) (fun _ _ => rfl) h (by decide)
theorem gr_Rb_1 {sw : Bool} {σ : Sg} {ς : Lg} : gr (enc sw σ ς) 9 (rB sw) 1 = some (rB sw + 2) := gr_of (shp_Rb sw) (fun _ _ => rfl) (fun _ _ => rfl)
theorem shp_Rb_1 (sw : Bool) : (shp sw)[rB sw + 2]? = some (mkI 6) := by cases sw <;> rfl
theorem ai_Rb_1 {sw : Bool} {σ : Sg} {ς : Lg} {j : Nat} (h : j < 6) : ai (enc sw σ ς) 0 (rB sw + 2) (nI j) = some (σ (rB sw + 2) j) := ai_nI (shp_Rb_1 sw) (fun _ _ => rfl) h (by decide)
theorem aw_Rb_1 {sw : Bool} {σ : Sg} {ς : Lg} {j : Nat} (h : j < 6) (x : Int32) : aw (enc sw σ ς) 0 (rB sw + 2) (nI j) x = some (enc sw (uA σ (rB sw + 2) (upd (σ (rB sw + 2)) j x)) ς) := aw_nI x (shp_Rb_1 sw) (fun _ _ => rfl) h (by decide)
theorem gr_Rb_2 {sw : Bool} {σ : Sg} {ς : Lg} : gr (enc sw σ ς) 9 (rB sw) 2 = some (rB sw + 3) := gr_of (shp_Rb sw) (fun _ _ => rfl) (fun _ _ => rfl)
theorem shp_Rb_2 (sw : Bool) : (shp sw)[rB sw + 3]? = some (mkI 6) := by cases sw <;> rfl
theorem ai_Rb_2 {sw : Bool} {σ : Sg} {ς : Lg} {j : Nat} (h : j < 6) : ai (enc sw σ ς) 0 (rB sw + 3) (nI j) = some (σ (rB sw + 3) j) := ai_nI (shp_Rb_2 sw) (fun _ _ => rfl) h (by decide)
theorem aw_Rb_2 {sw : Bool} {σ : Sg} {ς : Lg} {j : Nat} (h : j < 6) (x : Int32) : aw (enc sw σ ς) 0 (rB sw + 3) (nI j) x = some (enc sw (uA σ (rB sw + 3) (upd (σ (rB sw + 3)) j x)) ς) := aw_nI x (shp_Rb_2 sw) (fun _ _ => rfl) h (by decide)
theorem gr_Rb_3 {sw : Bool} {σ : Sg} {ς : Lg} : gr (enc sw σ ς) 9 (rB sw) 3 = some (rB sw + 4) := gr_of (shp_Rb sw) (fun _ _ => rfl) (fun _ _ => rfl)
theorem shp_Rb_3 (sw : Bool) : (shp sw)[rB sw + 4]? = some (mkI 6) := by cases sw <;> rfl
theorem ai_Rb_3 {sw : Bool} {σ : Sg} {ς : Lg} {j : Nat} (h : j < 6) : ai (enc sw σ ς) 0 (rB sw + 4) (nI j) = some (σ (rB sw + 4) j) := ai_nI (shp_Rb_3 sw) (fun _ _ => rfl) h (by decide)
theorem aw_Rb_3 {sw : Bool} {σ : Sg} {ς : Lg} {j : Nat} (h : j < 6) (x : Int32) : aw (enc sw σ ς) 0 (rB sw + 4) (nI j) x = some (enc sw (uA σ (rB sw + 4) (upd (σ (rB sw + 4)) j x)) ς) := aw_nI x (shp_Rb_3 sw) (fun _ _ => rfl) h (by decide)
theorem gr_Rb_4 {sw : Bool} {σ : Sg} {ς : Lg} : gr (enc sw σ ς) 9 (rB sw) 4 = some (rB sw + 5) := gr_of (shp_Rb sw) (fun _ _ => rfl) (fun _ _ => rfl)
theorem shp_Rb_4 (sw : Bool) : (shp sw)[rB sw + 5]? = some (mkI 6) := by cases sw <;> rfl
theorem ai_Rb_4 {sw : Bool} {σ : Sg} {ς : Lg} {j : Nat} (h : j < 6) : ai (enc sw σ ς) 0 (rB sw + 5) (nI j) = some (σ (rB sw + 5) j) := ai_nI (shp_Rb_4 sw) (fun _ _ => rfl) h (by decide)
theorem aw_Rb_4 {sw : Bool} {σ : Sg} {ς : Lg} {j : Nat} (h : j < 6) (x : Int32) : aw (enc sw σ ς) 0 (rB sw + 5) (nI j) x = some (enc sw (uA σ (rB sw + 5) (upd (σ (rB sw + 5)) j x)) ς) := aw_nI x (shp_Rb_4 sw) (fun _ _ => rfl) h (by decide)
theorem gr_Rb_5 {sw : Bool} {σ : Sg} {ς : Lg} : gr (enc sw σ ς) 9 (rB sw) 5 = some (rB sw + 6) := gr_of (shp_Rb sw) (fun _ _ => rfl) (fun _ _ => rfl)
theorem shp_Rb_5 (sw : Bool) : (shp sw)[rB sw + 6]? = some (mkI 6) := by cases sw <;> rfl
theorem ai_Rb_5 {sw : Bool} {σ : Sg} {ς : Lg} {j : Nat} (h : j < 6) : ai (enc sw σ ς) 0 (rB sw + 6) (nI j) = some (σ (rB sw + 6) j) := ai_nI (shp_Rb_5 sw) (fun _ _ => rfl) h (by decide)
theorem aw_Rb_5 {sw : Bool} {σ : Sg} {ς : Lg} {j : Nat} (h : j < 6) (x : Int32) : aw (enc sw σ ς) 0 (rB sw + 6) (nI j) x = some (enc sw (uA σ (rB sw + 6) (upd (σ (rB sw + 6)) j x)) ς) := aw_nI x (shp_Rb_5 sw) (fun _ _ => rfl) h (by decide)
theorem gr_Rb_6 {sw : Bool} {σ : Sg} {ς : Lg} : gr (enc sw σ ς) 9 (rB sw) 6 = some (rB sw + 7) := gr_of (shp_Rb sw) (fun _ _ => rfl) (fun _ _ => rfl)
theorem shp_Rb_6 (sw : Bool) : (shp sw)[rB sw + 7]? = some (mkI 6) := by cases sw <;> rfl
theorem ai_Rb_6 {sw : Bool} {σ : Sg} {ς : Lg} {j : Nat} (h : j < 6) : ai (enc sw σ ς) 0 (rB sw + 7) (nI j) = some (σ (rB sw + 7) j) := ai_nI (shp_Rb_6 sw) (fun _ _ => rfl) h (by decide)
theorem aw_Rb_6 {sw : Bool} {σ : Sg} {ς : Lg} {j : Nat} (h : j < 6) (x : Int32) : aw (enc sw σ ς) 0 (rB sw + 7) (nI j) x = some (enc sw (uA σ (rB sw + 7) (upd (σ (rB sw + 7)) j x)) ς) := aw_nI x (shp_Rb_6 sw) (fun _ _ => rfl) h (by decide)
theorem gi_Rb_7 {sw : Bool} {σ : Sg} {ς : Lg} : gi (enc sw σ ς) 9 (rB sw) 7 = some (σ (rB sw) 7) := gi_of (shp_Rb sw) (fun _ _ => rfl) (fun _ _ => rfl)
theorem pf_Rb_7 {sw : Bool} {σ : Sg} {ς : Lg} (x : Int32) : pf (enc sw σ ς) 9 (rB sw) 7 (.int x) = some (enc sw (uA σ (rB sw) (upd (σ (rB sw)) 7 x)) ς) := pf_of (shp_Rb sw) (fun _ _ => rfl) x (fun _ _ => ⟨Nat.le_of_ble_eq_true rfl, rfl⟩)
theorem gi_Rb_8 {sw : Bool} {σ : Sg} {ς : Lg} : gi (enc sw σ ς) 9 (rB sw) 8 = some (σ (rB sw) 8) := gi_of (shp_Rb sw) (fun _ _ => rfl) (fun _ _ => rfl)
theorem pf_Rb_8 {sw : Bool} {σ : Sg} {ς : Lg} (x : Int32) : pf (enc sw σ ς) 9 (rB sw) 8 (.int x) = some (enc sw (uA σ (rB sw) (upd (σ (rB sw)) 8 x)) ς) := pf_of (shp_Rb sw) (fun _ _ => rfl) x (fun _ _ => ⟨Nat.le_of_ble_eq_true rfl, rfl⟩)
theorem gi_Rb_9 {sw : Bool} {σ : Sg} {ς : Lg} : gi (enc sw σ ς) 9 (rB sw) 9 = some (σ (rB sw) 9) := gi_of (shp_Rb sw) (fun _ _ => rfl) (fun _ _ => rfl)
theorem pf_Rb_9 {sw : Bool} {σ : Sg} {ς : Lg} (x : Int32) : pf (enc sw σ ς) 9 (rB sw) 9 (.int x) = some (enc sw (uA σ (rB sw) (upd (σ (rB sw)) 9 x)) ς) := pf_of (shp_Rb sw) (fun _ _ => rfl) x (fun _ _ => ⟨Nat.le_of_ble_eq_true rfl, rfl⟩)
theorem gi_Rb_10 {sw : Bool} {σ : Sg} {ς : Lg} : gi (enc sw σ ς) 9 (rB sw) 10 = some (σ (rB sw) 10) := gi_of (shp_Rb sw) (fun _ _ => rfl) (fun _ _ => rfl)
theorem pf_Rb_10 {sw : Bool} {σ : Sg} {ς : Lg} (x : Int32) : pf (enc sw σ ς) 9 (rB sw) 10 (.int x) = some (enc sw (uA σ (rB sw) (upd (σ (rB sw)) 10 x)) ς) := pf_of (shp_Rb sw) (fun _ _ => rfl) x (fun _ _ => ⟨Nat.le_of_ble_eq_true rfl, rfl⟩)
theorem ai_2 {sw : Bool} {σ : Sg} {ς : Lg} {j : Nat} (h : j < 240) : ai (enc sw σ ς) 1 2 (nI j) = some (σ 2 j) := ai_nI (m := _) rfl (fun _ _ => rfl) h (by decide)
theorem aw_2 {sw : Bool} {σ : Sg} {ς : Lg} {j : Nat} (h : j < 240) (x : Int32) : aw (enc sw σ ς) 1 2 (nI j) x = some (enc sw (uA σ 2 (upd (σ 2) j x)) ς) := aw_nI x (m := _) rfl (fun _ _ => rfl) h (by decide)
theorem ai_5 {sw : Bool} {σ : Sg} {ς : Lg} {j : Nat} (h : j < 6) : ai (enc sw σ ς) 0 5 (nI j) = some (σ 5 j) := ai_nI (m := _) rfl (fun _ _ => rfl) h (by decide)
theorem aw_5 {sw : Bool} {σ : Sg} {ς : Lg} {j : Nat} (h : j < 6) (x : Int32) : aw (enc sw σ ς) 0 5 (nI j) x = some (enc sw (uA σ 5 (upd (σ 5) j x)) ς) := aw_nI x (m := _) rfl (fun _ _ => rfl) h (by decide)
theorem ai_6 {sw : Bool} {σ : Sg} {ς : Lg} {j : Nat} (h : j < 6) : ai (enc sw σ ς) 0 6 (nI j) = some (σ 6 j) := ai_nI (m := _) rfl (fun _ _ => rfl) h (by decide)
theorem aw_6 {sw : Bool} {σ : Sg} {ς : Lg} {j : Nat} (h : j < 6) (x : Int32) : aw (enc sw σ ς) 0 6 (nI j) x = some (enc sw (uA σ 6 (upd (σ 6) j x)) ς) := aw_nI x (m := _) rfl (fun _ _ => rfl) h (by decide)
theorem ai_7 {sw : Bool} {σ : Sg} {ς : Lg} {j : Nat} (h : j < 6) : ai (enc sw σ ς) 0 7 (nI j) = some (σ 7 j) := ai_nI (m := _) rfl (fun _ _ => rfl) h (by decide)
theorem aw_7 {sw : Bool} {σ : Sg} {ς : Lg} {j : Nat} (h : j < 6) (x : Int32) : aw (enc sw σ ς) 0 7 (nI j) x = some (enc sw (uA σ 7 (upd (σ 7) j x)) ς) := aw_nI x (m := _) rfl (fun _ _ => rfl) h (by decide)
theorem ai_8 {sw : Bool} {σ : Sg} {ς : Lg} {j : Nat} (h : j < 6) : ai (enc sw σ ς) 0 8 (nI j) = some (σ 8 j) := ai_nI (m := _) rfl (fun _ _ => rfl) h (by decide)
theorem aw_8 {sw : Bool} {σ : Sg} {ς : Lg} {j : Nat} (h : j < 6) (x : Int32) : aw (enc sw σ ς) 0 8 (nI j) x = some (enc sw (uA σ 8 (upd (σ 8) j x)) ς) := aw_nI x (m := _) rfl (fun _ _ => rfl) h (by decide)
theorem ai_9 {sw : Bool} {σ : Sg} {ς : Lg} {j : Nat} (h : j < 6) : ai (enc sw σ ς) 0 9 (nI j) = some (σ 9 j) := ai_nI (m := _) rfl (fun _ _ => rfl) h (by decide)
theorem aw_9 {sw : Bool} {σ : Sg} {ς : Lg} {j : Nat} (h : j < 6) (x : Int32) : aw (enc sw σ ς) 0 9 (nI j) x = some (enc sw (uA σ 9 (upd (σ 9) j x)) ς) := aw_nI x (m := _) rfl (fun _ _ => rfl) h (by decide)
theorem ai_10 {sw : Bool} {σ : Sg} {ς : Lg} {j : Nat} (h : j < 6) : ai (enc sw σ ς) 0 10 (nI j) = some (σ 10 j) := ai_nI (m := _) rfl (fun _ _ => rfl) h (by decide)
theorem aw_10 {sw : Bool} {σ : Sg} {ς : Lg} {j : Nat} (h : j < 6) (x : Int32) : aw (enc sw σ ς) 0 10 (nI j) x = some (enc sw (uA σ 10 (upd (σ 10) j x)) ς) := aw_nI x (m := _) rfl (fun _ _ => rfl) h (by decide)
theorem ai_11 {sw : Bool} {σ : Sg} {ς : Lg} {j : Nat} (h : j < 6) : ai (enc sw σ ς) 0 11 (nI j) = some (σ 11 j) := ai_nI (m := _) rfl (fun _ _ => rfl) h (by decide)
theorem aw_11 {sw : Bool} {σ : Sg} {ς : Lg} {j : Nat} (h : j < 6) (x : Int32) : aw (enc sw σ ς) 0 11 (nI j) x = some (enc sw (uA σ 11 (upd (σ 11) j x)) ς) := aw_nI x (m := _) rfl (fun _ _ => rfl) h (by decide)
theorem ai_21 {sw : Bool} {σ : Sg} {ς : Lg} {j : Nat} (h : j < 36) : ai (enc sw σ ς) 0 21 (nI j) = some (σ 21 j) := ai_nI (m := _) rfl (fun _ _ => rfl) h (by decide)
theorem aw_21 {sw : Bool} {σ : Sg} {ς : Lg} {j : Nat} (h : j < 36) (x : Int32) : aw (enc sw σ ς) 0 21 (nI j) x = some (enc sw (uA σ 21 (upd (σ 21) j x)) ς) := aw_nI x (m := _) rfl (fun _ _ => rfl) h (by decide)
theorem ai_22 {sw : Bool} {σ : Sg} {ς : Lg} {j : Nat} (h : j < 448) : ai (enc sw σ ς) 0 22 (nI j) = some (σ 22 j) := ai_nI (m := _) rfl (fun _ _ => rfl) h (by decide)
theorem aw_22 {sw : Bool} {σ : Sg} {ς : Lg} {j : Nat} (h : j < 448) (x : Int32) : aw (enc sw σ ς) 0 22 (nI j) x = some (enc sw (uA σ 22 (upd (σ 22) j x)) ς) := aw_nI x (m := _) rfl (fun _ _ => rfl) h (by decide)
theorem ai_24 {sw : Bool} {σ : Sg} {ς : Lg} {j : Nat} (h : j < 6) : ai (enc sw σ ς) 0 24 (nI j) = some (σ 24 j) := ai_nI (m := _) rfl (fun _ _ => rfl) h (by decide)
theorem aw_24 {sw : Bool} {σ : Sg} {ς : Lg} {j : Nat} (h : j < 6) (x : Int32) : aw (enc sw σ ς) 0 24 (nI j) x = some (enc sw (uA σ 24 (upd (σ 24) j x)) ς) := aw_nI x (m := _) rfl (fun _ _ => rfl) h (by decide)
theorem ai_25 {sw : Bool} {σ : Sg} {ς : Lg} {j : Nat} (h : j < 6) : ai (enc sw σ ς) 0 25 (nI j) = some (σ 25 j) := ai_nI (m := _) rfl (fun _ _ => rfl) h (by decide)
theorem aw_25 {sw : Bool} {σ : Sg} {ς : Lg} {j : Nat} (h : j < 6) (x : Int32) : aw (enc sw σ ς) 0 25 (nI j) x = some (enc sw (uA σ 25 (upd (σ 25) j x)) ς) := aw_nI x (m := _) rfl (fun _ _ => rfl) h (by decide)
theorem ai_26 {sw : Bool} {σ : Sg} {ς : Lg} {j : Nat} (h : j < 6) : ai (enc sw σ ς) 0 26 (nI j) = some (σ 26 j) := ai_nI (m := _) rfl (fun _ _ => rfl) h (by decide)
theorem aw_26 {sw : Bool} {σ : Sg} {ς : Lg} {j : Nat} (h : j < 6) (x : Int32) : aw (enc sw σ ς) 0 26 (nI j) x = some (enc sw (uA σ 26 (upd (σ 26) j x)) ς) := aw_nI x (m := _) rfl (fun _ _ => rfl) h (by decide)
theorem ai_270 {sw : Bool} {σ : Sg} {ς : Lg} {j : Nat} (h : j < 6) : ai (enc sw σ ς) 0 270 (nI j) = some (σ 270 j) := ai_nI (m := _) rfl (fun _ _ => rfl) h (by decide)
theorem aw_270 {sw : Bool} {σ : Sg} {ς : Lg} {j : Nat} (h : j < 6) (x : Int32) : aw (enc sw σ ς) 0 270 (nI j) x = some (enc sw (uA σ 270 (upd (σ 270) j x)) ς) := aw_nI x (m := _) rfl (fun _ _ => rfl) h (by decide)
theorem ai_271 {sw : Bool} {σ : Sg} {ς : Lg} {j : Nat} (h : j < 6) : ai (enc sw σ ς) 2 271 (nI j) = some (σ 271 j) := ai_nI (m := _) rfl (fun _ _ => rfl) h (by decide)
theorem aw_271 {sw : Bool} {σ : Sg} {ς : Lg} {j : Nat} (h : j < 6) (x : Int32) : aw (enc sw σ ς) 2 271 (nI j) x = some (enc sw (uA σ 271 (upd (σ 271) j x)) ς) := aw_nI x (m := _) rfl (fun _ _ => rfl) h (by decide)
theorem ai_273 {sw : Bool} {σ : Sg} {ς : Lg} {j : Nat} (h : j < 20) : ai (enc sw σ ς) 0 273 (nI j) = some (σ 273 j) := ai_nI (m := _) rfl (fun _ _ => rfl) h (by decide)
theorem aw_273 {sw : Bool} {σ : Sg} {ς : Lg} {j : Nat} (h : j < 20) (x : Int32) : aw (enc sw σ ς) 0 273 (nI j) x = some (enc sw (uA σ 273 (upd (σ 273) j x)) ς) := aw_nI x (m := _) rfl (fun _ _ => rfl) h (by decide)
theorem ai_274 {sw : Bool} {σ : Sg} {ς : Lg} {j : Nat} (h : j < 20) : ai (enc sw σ ς) 0 274 (nI j) = some (σ 274 j) := ai_nI (m := _) rfl (fun _ _ => rfl) h (by decide)
theorem aw_274 {sw : Bool} {σ : Sg} {ς : Lg} {j : Nat} (h : j < 20) (x : Int32) : aw (enc sw σ ς) 0 274 (nI j) x = some (enc sw (uA σ 274 (upd (σ 274) j x)) ς) := aw_nI x (m := _) rfl (fun _ _ => rfl) h (by decide)
theorem ai_303 {sw : Bool} {σ : Sg} {ς : Lg} {j : Nat} (h : j < 240) : ai (enc sw σ ς) 0 303 (nI j) = some (σ 303 j) := ai_nI (m := _) rfl (fun _ _ => rfl) h (by decide)
theorem aw_303 {sw : Bool} {σ : Sg} {ς : Lg} {j : Nat} (h : j < 240) (x : Int32) : aw (enc sw σ ς) 0 303 (nI j) x = some (enc sw (uA σ 303 (upd (σ 303) j x)) ς) := aw_nI x (m := _) rfl (fun _ _ => rfl) h (by decide)
theorem ai_304 {sw : Bool} {σ : Sg} {ς : Lg} {j : Nat} (h : j < 6) : ai (enc sw σ ς) 0 304 (nI j) = some (σ 304 j) := ai_nI (m := _) rfl (fun _ _ => rfl) h (by decide)
theorem aw_304 {sw : Bool} {σ : Sg} {ς : Lg} {j : Nat} (h : j < 6) (x : Int32) : aw (enc sw σ ς) 0 304 (nI j) x = some (enc sw (uA σ 304 (upd (σ 304) j x)) ς) := aw_nI x (m := _) rfl (fun _ _ => rfl) h (by decide)
theorem ai_305 {sw : Bool} {σ : Sg} {ς : Lg} {j : Nat} (h : j < 6) : ai (enc sw σ ς) 0 305 (nI j) = some (σ 305 j) := ai_nI (m := _) rfl (fun _ _ => rfl) h (by decide)
theorem aw_305 {sw : Bool} {σ : Sg} {ς : Lg} {j : Nat} (h : j < 6) (x : Int32) : aw (enc sw σ ς) 0 305 (nI j) x = some (enc sw (uA σ 305 (upd (σ 305) j x)) ς) := aw_nI x (m := _) rfl (fun _ _ => rfl) h (by decide)
theorem ai_306 {sw : Bool} {σ : Sg} {ς : Lg} {j : Nat} (h : j < 6) : ai (enc sw σ ς) 0 306 (nI j) = some (σ 306 j) := ai_nI (m := _) rfl (fun _ _ => rfl) h (by decide)
theorem aw_306 {sw : Bool} {σ : Sg} {ς : Lg} {j : Nat} (h : j < 6) (x : Int32) : aw (enc sw σ ς) 0 306 (nI j) x = some (enc sw (uA σ 306 (upd (σ 306) j x)) ς) := aw_nI x (m := _) rfl (fun _ _ => rfl) h (by decide)
theorem ai_307 {sw : Bool} {σ : Sg} {ς : Lg} {j : Nat} (h : j < 6) : ai (enc sw σ ς) 0 307 (nI j) = some (σ 307 j) := ai_nI (m := _) rfl (fun _ _ => rfl) h (by decide)
theorem aw_307 {sw : Bool} {σ : Sg} {ς : Lg} {j : Nat} (h : j < 6) (x : Int32) : aw (enc sw σ ς) 0 307 (nI j) x = some (enc sw (uA σ 307 (upd (σ 307) j x)) ς) := aw_nI x (m := _) rfl (fun _ _ => rfl) h (by decide)
theorem ai_308 {sw : Bool} {σ : Sg} {ς : Lg} {j : Nat} (h : j < 51) : ai (enc sw σ ς) 0 308 (nI j) = some (σ 308 j) := ai_nI (m := _) rfl (fun _ _ => rfl) h (by decide)
theorem aw_308 {sw : Bool} {σ : Sg} {ς : Lg} {j : Nat} (h : j < 51) (x : Int32) : aw (enc sw σ ς) 0 308 (nI j) x = some (enc sw (uA σ 308 (upd (σ 308) j x)) ς) := aw_nI x (m := _) rfl (fun _ _ => rfl) h (by decide)
theorem ai_309 {sw : Bool} {σ : Sg} {ς : Lg} {j : Nat} (h : j < 1530) : ai (enc sw σ ς) 0 309 (nI j) = some (σ 309 j) := ai_nI (m := _) rfl (fun _ _ => rfl) h (by decide)
theorem aw_309 {sw : Bool} {σ : Sg} {ς : Lg} {j : Nat} (h : j < 1530) (x : Int32) : aw (enc sw σ ς) 0 309 (nI j) x = some (enc sw (uA σ 309 (upd (σ 309) j x)) ς) := aw_nI x (m := _) rfl (fun _ _ => rfl) h (by decide)
theorem ai_310 {sw : Bool} {σ : Sg} {ς : Lg} {j : Nat} (h : j < 102) : ai (enc sw σ ς) 0 310 (nI j) = some (σ 310 j) := ai_nI (m := _) rfl (fun _ _ => rfl) h (by decide)
theorem aw_310 {sw : Bool} {σ : Sg} {ς : Lg} {j : Nat} (h : j < 102) (x : Int32) : aw (enc sw σ ς) 0 310 (nI j) x = some (enc sw (uA σ 310 (upd (σ 310) j x)) ς) := aw_nI x (m := _) rfl (fun _ _ => rfl) h (by decide)
theorem ai_312 {sw : Bool} {σ : Sg} {ς : Lg} {j : Nat} (h : j < 2) : ai (enc sw σ ς) 0 312 (nI j) = some (σ 312 j) := ai_nI (m := _) rfl (fun _ _ => rfl) h (by decide)
theorem aw_312 {sw : Bool} {σ : Sg} {ς : Lg} {j : Nat} (h : j < 2) (x : Int32) : aw (enc sw σ ς) 0 312 (nI j) x = some (enc sw (uA σ 312 (upd (σ 312) j x)) ς) := aw_nI x (m := _) rfl (fun _ _ => rfl) h (by decide)
theorem ai_313 {sw : Bool} {σ : Sg} {ς : Lg} {j : Nat} (h : j < 12) : ai (enc sw σ ς) 0 313 (nI j) = some (σ 313 j) := ai_nI (m := _) rfl (fun _ _ => rfl) h (by decide)
theorem aw_313 {sw : Bool} {σ : Sg} {ς : Lg} {j : Nat} (h : j < 12) (x : Int32) : aw (enc sw σ ς) 0 313 (nI j) x = some (enc sw (uA σ 313 (upd (σ 313) j x)) ς) := aw_nI x (m := _) rfl (fun _ _ => rfl) h (by decide)
theorem ai_314 {sw : Bool} {σ : Sg} {ς : Lg} {j : Nat} (h : j < 40) : ai (enc sw σ ς) 0 314 (nI j) = some (σ 314 j) := ai_nI (m := _) rfl (fun _ _ => rfl) h (by decide)
theorem aw_314 {sw : Bool} {σ : Sg} {ς : Lg} {j : Nat} (h : j < 40) (x : Int32) : aw (enc sw σ ς) 0 314 (nI j) x = some (enc sw (uA σ 314 (upd (σ 314) j x)) ς) := aw_nI x (m := _) rfl (fun _ _ => rfl) h (by decide)
theorem ai_315 {sw : Bool} {σ : Sg} {ς : Lg} {j : Nat} (h : j < 48) : ai (enc sw σ ς) 0 315 (nI j) = some (σ 315 j) := ai_nI (m := _) rfl (fun _ _ => rfl) h (by decide)
theorem aw_315 {sw : Bool} {σ : Sg} {ς : Lg} {j : Nat} (h : j < 48) (x : Int32) : aw (enc sw σ ς) 0 315 (nI j) x = some (enc sw (uA σ 315 (upd (σ 315) j x)) ς) := aw_nI x (m := _) rfl (fun _ _ => rfl) h (by decide)
theorem ai_316 {sw : Bool} {σ : Sg} {ς : Lg} {j : Nat} (h : j < 448) : ai (enc sw σ ς) 0 316 (nI j) = some (σ 316 j) := ai_nI (m := _) rfl (fun _ _ => rfl) h (by decide)
theorem aw_316 {sw : Bool} {σ : Sg} {ς : Lg} {j : Nat} (h : j < 448) (x : Int32) : aw (enc sw σ ς) 0 316 (nI j) x = some (enc sw (uA σ 316 (upd (σ 316) j x)) ς) := aw_nI x (m := _) rfl (fun _ _ => rfl) h (by decide)
theorem ai_317 {sw : Bool} {σ : Sg} {ς : Lg} {j : Nat} (h : j < 7) : ai (enc sw σ ς) 0 317 (nI j) = some (σ 317 j) := ai_nI (m := _) rfl (fun _ _ => rfl) h (by decide)
theorem aw_317 {sw : Bool} {σ : Sg} {ς : Lg} {j : Nat} (h : j < 7) (x : Int32) : aw (enc sw σ ς) 0 317 (nI j) x = some (enc sw (uA σ 317 (upd (σ 317) j x)) ς) := aw_nI x (m := _) rfl (fun _ _ => rfl) h (by decide)
theorem ai_318 {sw : Bool} {σ : Sg} {ς : Lg} {j : Nat} (h : j < 7) : ai (enc sw σ ς) 0 318 (nI j) = some (σ 318 j) := ai_nI (m := _) rfl (fun _ _ => rfl) h (by decide)
theorem aw_318 {sw : Bool} {σ : Sg} {ς : Lg} {j : Nat} (h : j < 7) (x : Int32) : aw (enc sw σ ς) 0 318 (nI j) x = some (enc sw (uA σ 318 (upd (σ 318) j x)) ς) := aw_nI x (m := _) rfl (fun _ _ => rfl) h (by decide)
theorem ai_319 {sw : Bool} {σ : Sg} {ς : Lg} {j : Nat} (h : j < 7) : ai (enc sw σ ς) 0 319 (nI j) = some (σ 319 j) := ai_nI (m := _) rfl (fun _ _ => rfl) h (by decide)
theorem aw_319 {sw : Bool} {σ : Sg} {ς : Lg} {j : Nat} (h : j < 7) (x : Int32) : aw (enc sw σ ς) 0 319 (nI j) x = some (enc sw (uA σ 319 (upd (σ 319) j x)) ς) := aw_nI x (m := _) rfl (fun _ _ => rfl) h (by decide)
theorem ai_320 {sw : Bool} {σ : Sg} {ς : Lg} {j : Nat} (h : j < 7) : ai (enc sw σ ς) 0 320 (nI j) = some (σ 320 j) := ai_nI (m := _) rfl (fun _ _ => rfl) h (by decide)
theorem aw_320 {sw : Bool} {σ : Sg} {ς : Lg} {j : Nat} (h : j < 7) (x : Int32) : aw (enc sw σ ς) 0 320 (nI j) x = some (enc sw (uA σ 320 (upd (σ 320) j x)) ς) := aw_nI x (m := _) rfl (fun _ _ => rfl) h (by decide)
theorem ai_321 {sw : Bool} {σ : Sg} {ς : Lg} {j : Nat} (h : j < 7) : ai (enc sw σ ς) 0 321 (nI j) = some (σ 321 j) := ai_nI (m := _) rfl (fun _ _ => rfl) h (by decide)
theorem aw_321 {sw : Bool} {σ : Sg} {ς : Lg} {j : Nat} (h : j < 7) (x : Int32) : aw (enc sw σ ς) 0 321 (nI j) x = some (enc sw (uA σ 321 (upd (σ 321) j x)) ς) := aw_nI x (m := _) rfl (fun _ _ => rfl) h (by decide)
theorem ai_322 {sw : Bool} {σ : Sg} {ς : Lg} {j : Nat} (h : j < 7) : ai (enc sw σ ς) 0 322 (nI j) = some (σ 322 j) := ai_nI (m := _) rfl (fun _ _ => rfl) h (by decide)
theorem aw_322 {sw : Bool} {σ : Sg} {ς : Lg} {j : Nat} (h : j < 7) (x : Int32) : aw (enc sw σ ς) 0 322 (nI j) x = some (enc sw (uA σ 322 (upd (σ 322) j x)) ς) := aw_nI x (m := _) rfl (fun _ _ => rfl) h (by decide)
