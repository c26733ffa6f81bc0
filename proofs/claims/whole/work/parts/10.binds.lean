/-! binds over answers with a heap -/
def bT1 {α1 γ : Type} (o : Option (α1 × AH)) (F : α1 → AH → Option γ) : Option γ := match o with
  | some (x1, h) => F x1 h
  | none => none
theorem bT1_spec {α1 γ : Type} {o : Option (α1 × AH)} {F : α1 → AH → Option γ} {r : γ} (e : bT1 o F = some r) : ∃ x1 h, o = some (x1, h) ∧ F x1 h = some r := by
  unfold bT1 at e
  split at e
  · exact ⟨_, _, rfl, e⟩
  · cases e
def bT2 {α1 α2 γ : Type} (o : Option (α1 × α2 × AH)) (F : α1 → α2 → AH → Option γ) : Option γ := match o with
  | some (x1, x2, h) => F x1 x2 h
  | none => none
theorem bT2_spec {α1 α2 γ : Type} {o : Option (α1 × α2 × AH)} {F : α1 → α2 → AH → Option γ} {r : γ} (e : bT2 o F = some r) : ∃ x1 x2 h, o = some (x1, x2, h) ∧ F x1 x2 h = some r := by
  unfold bT2 at e
  split at e
  · exact ⟨_, _, _, rfl, e⟩
  · cases e
def bT3 {α1 α2 α3 γ : Type} (o : Option (α1 × α2 × α3 × AH)) (F : α1 → α2 → α3 → AH → Option γ) : Option γ := match o with
  | some (x1, x2, x3, h) => F x1 x2 x3 h
  | none => none
theorem bT3_spec {α1 α2 α3 γ : Type} {o : Option (α1 × α2 × α3 × AH)} {F : α1 → α2 → α3 → AH → Option γ} {r : γ} (e : bT3 o F = some r) : ∃ x1 x2 x3 h, o = some (x1, x2, x3, h) ∧ F x1 x2 x3 h = some r := by
  unfold bT3 at e
  split at e
  · exact ⟨_, _, _, _, rfl, e⟩
  · cases e
def bT4 {α1 α2 α3 α4 γ : Type} (o : Option (α1 × α2 × α3 × α4 × AH)) (F : α1 → α2 → α3 → α4 → AH → Option γ) : Option γ := match o with
  | some (x1, x2, x3, x4, h) => F x1 x2 x3 x4 h
  | none => none
theorem bT4_spec {α1 α2 α3 α4 γ : Type} {o : Option (α1 × α2 × α3 × α4 × AH)} {F : α1 → α2 → α3 → α4 → AH → Option γ} {r : γ} (e : bT4 o F = some r) : ∃ x1 x2 x3 x4 h, o = some (x1, x2, x3, x4, h) ∧ F x1 x2 x3 x4 h = some r := by
  unfold bT4 at e
  split at e
  · exact ⟨_, _, _, _, _, rfl, e⟩
  · cases e
def bT5 {α1 α2 α3 α4 α5 γ : Type} (o : Option (α1 × α2 × α3 × α4 × α5 × AH)) (F : α1 → α2 → α3 → α4 → α5 → AH → Option γ) : Option γ := match o with
  | some (x1, x2, x3, x4, x5, h) => F x1 x2 x3 x4 x5 h
  | none => none
theorem bT5_spec {α1 α2 α3 α4 α5 γ : Type} {o : Option (α1 × α2 × α3 × α4 × α5 × AH)} {F : α1 → α2 → α3 → α4 → α5 → AH → Option γ} {r : γ} (e : bT5 o F = some r) : ∃ x1 x2 x3 x4 x5 h, o = some (x1, x2, x3, x4, x5, h) ∧ F x1 x2 x3 x4 x5 h = some r := by
  unfold bT5 at e
  split at e
  · exact ⟨_, _, _, _, _, _, rfl, e⟩
  · cases e
def bT6 {α1 α2 α3 α4 α5 α6 γ : Type} (o : Option (α1 × α2 × α3 × α4 × α5 × α6 × AH)) (F : α1 → α2 → α3 → α4 → α5 → α6 → AH → Option γ) : Option γ := match o with
  | some (x1, x2, x3, x4, x5, x6, h) => F x1 x2 x3 x4 x5 x6 h
  | none => none
theorem bT6_spec {α1 α2 α3 α4 α5 α6 γ : Type} {o : Option (α1 × α2 × α3 × α4 × α5 × α6 × AH)} {F : α1 → α2 → α3 → α4 → α5 → α6 → AH → Option γ} {r : γ} (e : bT6 o F = some r) : ∃ x1 x2 x3 x4 x5 x6 h, o = some (x1, x2, x3, x4, x5, x6, h) ∧ F x1 x2 x3 x4 x5 x6 h = some r := by
  unfold bT6 at e
  split at e
  · exact ⟨_, _, _, _, _, _, _, rfl, e⟩
  · cases e
/-- behind a loop that may return -/
def bS {ρ : Type} (o : Option (ρ ⊕ AH)) (F : AH → Option ρ) : Option ρ := match o with
  | some (.inl r) => some r
  | some (.inr h) => F h
  | none => none
theorem bS_spec {ρ : Type} {o : Option (ρ ⊕ AH)} {F : AH → Option ρ} {r : ρ} (e : bS o F = some r) : ∃ q, o = some q ∧ (match q with | .inl x => some x = some r | .inr h => F h = some r) := by
  unfold bS at e
  split at e
  · exact ⟨_, rfl, e⟩
  · exact ⟨_, rfl, e⟩
  · cases e
/-- what a loop that may return hands on -/
def PS (o : (Int32 × AH) ⊕ AH) (rv : Option Int32) (h' : AH) (K : AH → Prop) : Prop := match o with
  | .inl q => rv = some q.1 ∧ h' = q.2
  | .inr h1 => K h1
/-- the script's int at i -/
def si (X : SX) (i : Int32) : Option Int32 := if ¬ (i < 0 ∨ X.1 ≤ i.toNatClampNeg) then some (X.2 i.toNatClampNeg) else none
section GX
variable {X : SX} {M M' : MD} {d pc n : Nat} {lv lv' : Lv} {st : List Value} {h h1 h' : AH} {rv : Option Int32}
theorem G.sldb {α : Type} {F : Int32 → Option α} {r : α} {z : UInt32} {i : Int32} (hd : decode M.2.2.1 pc = .ok (.iaload, 1)) (hb : (si X i).bind F = some r) (kk : ∀ x, F x = some r → G X M d (pc + 1) lv (.int x :: st) h rv h') : G X M d pc lv (.int i :: .float z :: st) h rv h' := by
  obtain ⟨x, e1, e2⟩ := Option.bind_eq_some_iff.mp hb
  unfold si at e1
  split at e1
  · rename_i hi
    cases e1
    exact G.sld hi hd (kk _ e2)
  · cases e1
theorem G.callVi {idx ci a : Nat} {As st0 : List Value} {q0 : vw_C} {x : Int32} (hM : MOK M' As.length) (hvi : Cond.instanceMethod M'.2.1 ∈ lwg ∧ Cond.selects M'.2.1.cls M'.2.1 M'.2.1 ∈ lwg) (hlk : Cond.methodLink M.1 idx M'.2.1 ∈ lwg) (hc : vwCl[ci]? = some q0) (hq : q0.1 = M'.2.1.cls) (hst : st0 = As.reverse ++ .ref a :: st) (hav : (lg_sl (.ref a :: As)).length ≤ M'.2.2.2.1) (hs : (st.map fun v => v.category).sum ≤ 8) (hd : decode M.2.2.1 pc = .ok (.invokevirtual idx, 3))
    (ho : isO h ci a = true) (k1 : G X M' d 0 (lv_args 0 (.ref a :: As)) [] h (some x) h1) (k2 : G X M (d + 1) (pc + 3) lv (.int x :: st) h1 rv h') : G X M (d + 1) pc lv st0 h rv h' := G.callV hM hvi hlk hc hq hst hav hs hd ho k1 k2
theorem G.callVv {idx ci a : Nat} {As st0 : List Value} {q0 : vw_C} (hM : MOK M' As.length) (hvi : Cond.instanceMethod M'.2.1 ∈ lwg ∧ Cond.selects M'.2.1.cls M'.2.1 M'.2.1 ∈ lwg) (hlk : Cond.methodLink M.1 idx M'.2.1 ∈ lwg) (hc : vwCl[ci]? = some q0) (hq : q0.1 = M'.2.1.cls) (hst : st0 = As.reverse ++ .ref a :: st) (hav : (lg_sl (.ref a :: As)).length ≤ M'.2.2.2.1) (hs : (st.map fun v => v.category).sum ≤ 8) (hd : decode M.2.2.1 pc = .ok (.invokevirtual idx, 3))
    (ho : isO h ci a = true) (k1 : G X M' d 0 (lv_args 0 (.ref a :: As)) [] h none h1) (k2 : G X M (d + 1) (pc + 3) lv st h1 rv h') : G X M (d + 1) pc lv st0 h rv h' := G.callV hM hvi hlk hc hq hst hav hs hd ho k1 k2
theorem G.callSi {idx : Nat} {As st0 : List Value} {x : Int32} (hM : MOK M' As.length) (hvi : Cond.static M'.2.1 ∈ lwg) (hlk : Cond.methodLink M.1 idx M'.2.1 ∈ lwg) (hst : st0 = As.reverse ++ st) (hav : (lg_sl As).length ≤ M'.2.2.2.1) (hs : (st.map fun v => v.category).sum ≤ 8) (hd : decode M.2.2.1 pc = .ok (.invokestatic idx, 3))
    (k1 : G X M' d 0 (lv_args 0 As) [] h (some x) h1) (k2 : G X M (d + 1) (pc + 3) lv (.int x :: st) h1 rv h') : G X M (d + 1) pc lv st0 h rv h' := G.callS hM hvi hlk hst hav hs hd k1 k2
theorem G.callIv {idx a : Nat} {As st0 : List Value} (hM : MOK M' As.length) (hret0 : M'.2.2.2.2 = none ∧ M'.2.1.name = "<init>") (hvi : Cond.instanceMethod M'.2.1 ∈ lwg) (hlk : Cond.methodLink M.1 idx M'.2.1 ∈ lwg ∨ ∃ host, (M.1, idx, M'.2.1, host) ∈ nsl) (hst : st0 = As.reverse ++ .ref a :: st) (hav : (lg_sl (.ref a :: As)).length ≤ M'.2.2.2.1) (hs : (st.map fun v => v.category).sum ≤ 8) (hd : decode M.2.2.1 pc = .ok (.invokespecial idx, 3))
    (k1 : G X M' d 0 (lv_args 0 (.ref a :: As)) [] h none h1) (k2 : G X M (d + 1) (pc + 3) lv st h1 rv h') : G X M (d + 1) pc lv st0 h rv h' := G.callI hM hret0 hvi hlk hst hav hs hd k1 k2
end GX
