/-! ONE STATIC WORLD: after the constructors no object is made. 190 objects, numbered; S.1 o i: int i of object o (a field's or an element's), S.2 o i: long i -/
abbrev LY : Type := va_G × (Nat → Nat) × (Nat → ClassId)
abbrev GS : Type := (Nat → Nat → Int32) × (Nat → Nat → Int64)
abbrev ad (Y : LY) (o : Nat) : Nat := Y.2.1 o
def fRock (Y : LY) (b : Nat) (g : Nat → Int32) : List Value := [.int (g 0), .int (g 1), .int (g 2), .int (g 3), .int (g 4), .ref (ad Y (b + 1)), .ref (ad Y (b + 2)), .ref (ad Y (b + 3)), .ref (ad Y (b + 4)), .ref (ad Y (b + 5)), .ref (ad Y (b + 6)), .ref (ad Y (b + 7))]
def fEM (Y : LY) (g : Nat → Int32) : List Value := [.ref (ad Y 26), .ref (ad Y 22), .ref (ad Y 34), .ref (ad Y 24), .int (g 4), .ref (ad Y 11), .ref (ad Y 13), .ref (ad Y 42), .ref (ad Y 5), .ref (ad Y 2), .ref (ad Y 1), .ref (ad Y 10)]
def fPair (g : Nat → Int32) : List Value := [.int (g 0), .int (g 1), .int (g 2), .int (g 3)]
def fRound (Y : LY) (g : Nat → Int32) : List Value := [.ref (ad Y 3), .ref (ad Y 4), .int (g 2), .int (g 3)]
def fSend (Y : LY) (g : Nat → Int32) : List Value := [.ref (ad Y 6), .ref (ad Y 7), .ref (ad Y 8), .int (g 3), .ref (ad Y 9), .int (g 5)]
def fTape (Y : LY) (g : Nat → Int32) : List Value := [.ref (ad Y 12), .int (g 1), .int (g 2), .int (g 3)]
def fSheet (Y : LY) (o : Nat) (g : Nat → Int32) : List Value := [.int (g 0), .int (g 1), .int (g 2), .ref (ad Y (o + 1))]
def fKnown (Y : LY) (o : Nat) (g : Nat → Int32) : List Value := [.ref (ad Y (o + 1)), .int (g 1), .int (g 2)]
def fModel (Y : LY) (g : Nat → Int32) : List Value := [.ref (ad Y 179), .int (g 1), .ref (ad Y 180), .int (g 3), .ref (ad Y 181), .ref (ad Y 182), .ref (ad Y 183), .int (g 7), .int (g 8), .ref (ad Y 184), .ref (ad Y 185), .ref (ad Y 186), .ref (ad Y 187), .ref (ad Y 188), .ref (ad Y 189)]
/-- what object o is: 0 int row, 1 long row, 2 .. objects -/
def cellF (Y : LY) (o : Nat) (g : Nat → Int32) (gl : Nat → Int64) : va_E :=
  if o < 26 then (match o with
    | 0 => .inr (7, fEM Y g)
    | 1 => .inr (1, fPair g)
    | 2 => .inr (3, fRound Y g)
    | 3 => .inl (Y.2.2 0, 6, .inl g)
    | 4 => .inl (Y.2.2 0, 6, .inl g)
    | 5 => .inr (4, fSend Y g)
    | 6 => .inl (Y.2.2 0, 6, .inl g)
    | 7 => .inl (Y.2.2 0, 6, .inl g)
    | 8 => .inl (Y.2.2 0, 5, .inl g)
    | 9 => .inl (Y.2.2 0, 5, .inl g)
    | 10 => .inl (Y.2.2 0, 100, .inl g)
    | 11 => .inr (6, fTape Y g)
    | 12 => .inl (Y.2.2 0, 90, .inl g)
    | 13 => .inl (Y.2.2 3, 4, .inr (.inr (.inr (.inr (fun i => some (ad Y (14 + 2 * i)))))))
    | 22 => .inr (0, fKnown Y 22 g)
    | 23 => .inl (Y.2.2 2, 8, .inr (.inr (.inr (.inr (fun i => some (ad Y (50 + 8 * i)))))))
    | 24 => .inr (0, fKnown Y 24 g)
    | 25 => .inl (Y.2.2 2, 8, .inr (.inr (.inr (.inr (fun i => some (ad Y (114 + 8 * i)))))))
    | o => if o % 2 = 0 then .inr (5, fSheet Y o g) else .inl (Y.2.2 1, 24, .inr (.inl gl)))
  else if o < 178 then (if (o - 26) % 8 = 0 then .inr (2, fRock Y o g) else if (o - 26) % 8 < 5 then .inl (Y.2.2 0, 6, .inl g) else .inl (Y.2.2 0, 5, .inl g))
  else (match o with
    | 178 => .inr (8, fModel Y g)
    | 179 => .inl (Y.2.2 0, 674, .inl g)
    | 180 => .inl (Y.2.2 0, 90, .inl g)
    | 181 => .inl (Y.2.2 1, 96, .inr (.inl gl))
    | 182 => .inl (Y.2.2 0, 4, .inl g)
    | 183 => .inl (Y.2.2 0, 4, .inl g)
    | 184 => .inl (Y.2.2 0, 5, .inl g)
    | 185 => .inl (Y.2.2 0, 7, .inl g)
    | 186 => .inl (Y.2.2 0, 6, .inl g)
    | 187 => .inl (Y.2.2 0, 308, .inl g)
    | 188 => .inl (Y.2.2 0, 100, .inl g)
    | _ => .inl (Y.2.2 1, 24, .inr (.inl gl)))
def CO (Y : LY) (o ci : Nat) (F : (Nat → Int32) → List Value) : Prop := o < 190 ∧ ∀ g gl, cellF Y o g gl = .inr (ci, F g)
def CI (Y : LY) (o n : Nat) : Prop := o < 190 ∧ n < 1000 ∧ ∀ g gl, cellF Y o g gl = .inl (Y.2.2 0, n, .inl g)
def CL (Y : LY) (o n : Nat) : Prop := o < 190 ∧ n < 1000 ∧ ∀ g gl, cellF Y o g gl = .inl (Y.2.2 1, n, .inr (.inl gl))
def CR (Y : LY) (o n t : Nat) (f : Nat → Nat) : Prop := o < 190 ∧ n < 1000 ∧ ∀ g gl, cellF Y o g gl = .inl (Y.2.2 t, n, .inr (.inr (.inr (.inr (fun i => some (ad Y (f i)))))))
theorem k_EM (Y : LY) : CO Y 0 7 (fEM Y) := ⟨by decide, fun _ _ => rfl⟩
theorem k_Pair (Y : LY) : CO Y 1 1 fPair := ⟨by decide, fun _ _ => rfl⟩
theorem k_Round (Y : LY) : CO Y 2 3 (fRound Y) := ⟨by decide, fun _ _ => rfl⟩
theorem k_Send (Y : LY) : CO Y 5 4 (fSend Y) := ⟨by decide, fun _ _ => rfl⟩
theorem k_Tape (Y : LY) : CO Y 11 6 (fTape Y) := ⟨by decide, fun _ _ => rfl⟩
theorem k_Known (Y : LY) : CO Y 22 0 (fKnown Y 22) := ⟨by decide, fun _ _ => rfl⟩
theorem k_Known2 (Y : LY) : CO Y 24 0 (fKnown Y 24) := ⟨by decide, fun _ _ => rfl⟩
theorem k_Model (Y : LY) : CO Y 178 8 (fModel Y) := ⟨by decide, fun _ _ => rfl⟩
theorem k_i3 (Y : LY) : CI Y 3 6 := ⟨by decide, by decide, fun _ _ => rfl⟩
theorem k_i4 (Y : LY) : CI Y 4 6 := ⟨by decide, by decide, fun _ _ => rfl⟩
theorem k_i6 (Y : LY) : CI Y 6 6 := ⟨by decide, by decide, fun _ _ => rfl⟩
theorem k_i7 (Y : LY) : CI Y 7 6 := ⟨by decide, by decide, fun _ _ => rfl⟩
theorem k_i8 (Y : LY) : CI Y 8 5 := ⟨by decide, by decide, fun _ _ => rfl⟩
theorem k_i9 (Y : LY) : CI Y 9 5 := ⟨by decide, by decide, fun _ _ => rfl⟩
theorem k_i10 (Y : LY) : CI Y 10 100 := ⟨by decide, by decide, fun _ _ => rfl⟩
theorem k_i12 (Y : LY) : CI Y 12 90 := ⟨by decide, by decide, fun _ _ => rfl⟩
theorem k_i179 (Y : LY) : CI Y 179 674 := ⟨by decide, by decide, fun _ _ => rfl⟩
theorem k_i180 (Y : LY) : CI Y 180 90 := ⟨by decide, by decide, fun _ _ => rfl⟩
theorem k_i182 (Y : LY) : CI Y 182 4 := ⟨by decide, by decide, fun _ _ => rfl⟩
theorem k_i183 (Y : LY) : CI Y 183 4 := ⟨by decide, by decide, fun _ _ => rfl⟩
theorem k_i184 (Y : LY) : CI Y 184 5 := ⟨by decide, by decide, fun _ _ => rfl⟩
theorem k_i185 (Y : LY) : CI Y 185 7 := ⟨by decide, by decide, fun _ _ => rfl⟩
theorem k_i186 (Y : LY) : CI Y 186 6 := ⟨by decide, by decide, fun _ _ => rfl⟩
theorem k_i187 (Y : LY) : CI Y 187 308 := ⟨by decide, by decide, fun _ _ => rfl⟩
theorem k_i188 (Y : LY) : CI Y 188 100 := ⟨by decide, by decide, fun _ _ => rfl⟩
theorem k_l181 (Y : LY) : CL Y 181 96 := ⟨by decide, by decide, fun _ _ => rfl⟩
theorem k_l189 (Y : LY) : CL Y 189 24 := ⟨by decide, by decide, fun _ _ => rfl⟩
theorem k_r13 (Y : LY) : CR Y 13 4 3 (fun i => 14 + 2 * i) := ⟨by decide, by decide, fun _ _ => rfl⟩
theorem k_r23 (Y : LY) : CR Y 23 8 2 (fun i => 50 + 8 * i) := ⟨by decide, by decide, fun _ _ => rfl⟩
theorem k_r25 (Y : LY) : CR Y 25 8 2 (fun i => 114 + 8 * i) := ⟨by decide, by decide, fun _ _ => rfl⟩
/-- a rock: its object b, its seven rows b + 1 .. b + 7 -/
def isR (b : Nat) : Prop := ∃ j, j < 19 ∧ b = 26 + 8 * j
theorem k_Rock (Y : LY) {b : Nat} (h : isR b) : CO Y b 2 (fRock Y b) := by
  obtain ⟨j, hj, rfl⟩ := h
  refine ⟨by omega, fun g gl => ?_⟩
  have h1 : ¬ 26 + 8 * j < 26 := by omega
  have h2 : 26 + 8 * j < 178 := by omega
  have h3 : (26 + 8 * j - 26) % 8 = 0 := by omega
  unfold cellF
  rw [if_neg h1, if_pos h2, if_pos h3]
theorem k_Rk6 (Y : LY) {b k : Nat} (h : isR b) (h0 : 0 < k) (hk : k < 5) : CI Y (b + k) 6 := by
  obtain ⟨j, hj, rfl⟩ := h
  refine ⟨by omega, by decide, fun g gl => ?_⟩
  have h1 : ¬ 26 + 8 * j + k < 26 := by omega
  have h2 : 26 + 8 * j + k < 178 := by omega
  have h3 : ¬ (26 + 8 * j + k - 26) % 8 = 0 := by omega
  have h4 : (26 + 8 * j + k - 26) % 8 < 5 := by omega
  unfold cellF
  rw [if_neg h1, if_pos h2, if_neg h3, if_pos h4]
theorem k_Rk5 (Y : LY) {b k : Nat} (h : isR b) (h0 : 4 < k) (hk : k < 8) : CI Y (b + k) 5 := by
  obtain ⟨j, hj, rfl⟩ := h
  refine ⟨by omega, by decide, fun g gl => ?_⟩
  have h1 : ¬ 26 + 8 * j + k < 26 := by omega
  have h2 : 26 + 8 * j + k < 178 := by omega
  have h3 : ¬ (26 + 8 * j + k - 26) % 8 = 0 := by omega
  have h4 : ¬ (26 + 8 * j + k - 26) % 8 < 5 := by omega
  unfold cellF
  rw [if_neg h1, if_pos h2, if_neg h3, if_neg h4]
theorem k_dark (Y : LY) {b : Nat} (h : isR b) : CI Y (b + 1) 6 := k_Rk6 Y h (by decide) (by decide)
theorem k_hard (Y : LY) {b : Nat} (h : isR b) : CI Y (b + 2) 6 := k_Rk6 Y h (by decide) (by decide)
theorem k_under (Y : LY) {b : Nat} (h : isR b) : CI Y (b + 3) 6 := k_Rk6 Y h (by decide) (by decide)
theorem k_wool (Y : LY) {b : Nat} (h : isR b) : CI Y (b + 4) 6 := k_Rk6 Y h (by decide) (by decide)
theorem k_kind (Y : LY) {b : Nat} (h : isR b) : CI Y (b + 5) 5 := k_Rk5 Y h (by decide) (by decide)
theorem k_size (Y : LY) {b : Nat} (h : isR b) : CI Y (b + 6) 5 := k_Rk5 Y h (by decide) (by decide)
theorem k_sent (Y : LY) {b : Nat} (h : isR b) : CI Y (b + 7) 5 := k_Rk5 Y h (by decide) (by decide)
theorem isR_now : isR 26 := ⟨0, by decide, rfl⟩
theorem isR_img : isR 34 := ⟨1, by decide, rfl⟩
theorem isR_trial : isR 42 := ⟨2, by decide, rfl⟩
theorem isR_known {j : Nat} (h : j < 8) : isR (50 + 8 * j) := ⟨3 + j, by omega, by omega⟩
theorem isR_iknown {j : Nat} (h : j < 8) : isR (114 + 8 * j) := ⟨11 + j, by omega, by omega⟩
theorem k_Sheet (Y : LY) {j : Nat} (h : j < 4) : CO Y (14 + 2 * j) 5 (fSheet Y (14 + 2 * j)) := by
  rcases (show j = 0 ∨ j = 1 ∨ j = 2 ∨ j = 3 by omega) with rfl | rfl | rfl | rfl <;> exact ⟨by decide, fun _ _ => rfl⟩
theorem k_items (Y : LY) {j : Nat} (h : j < 4) : CL Y (14 + 2 * j + 1) 24 := by
  rcases (show j = 0 ∨ j = 1 ∨ j = 2 ∨ j = 3 by omega) with rfl | rfl | rfl | rfl <;> exact ⟨by decide, by decide, fun _ _ => rfl⟩
def wl (Y : LY) (S : GS) : va_W := (List.range 190).map (fun o => (ad Y o, cellF Y o (S.1 o) (S.2 o)))
theorem wl_get {Y : LY} {S : GS} {o : Nat} (h : o < 190) : (wl Y S)[o]? = some (ad Y o, cellF Y o (S.1 o) (S.2 o)) := by
  simp [wl, h]
def stA (S : GS) (o : Nat) (f : Nat → Int32) : GS := (va_up S.1 o f, S.2)
def stL (S : GS) (o : Nat) (f : Nat → Int64) : GS := (S.1, va_up S.2 o f)
def stI (S : GS) (o i : Nat) (v : Int32) : GS := stA S o (upd (S.1 o) i v)
theorem wl_setA {Y : LY} {S : GS} {o : Nat} (f : Nat → Int32) : (wl Y S).set o (ad Y o, cellF Y o f (S.2 o)) = wl Y (stA S o f) := by
  apply List.ext_getElem?
  intro k
  rw [List.getElem?_set]
  by_cases hk : k < 190
  · by_cases h : o = k
    · subst h
      simp [wl, hk, stA, va_up_self]
    · rw [if_neg h, wl_get hk, wl_get hk]
      simp only [stA]
      rw [va_up_ne _ _ (fun q => h q.symm)]
  · have h2 : k ≥ 190 := by omega
    by_cases h : o = k
    · subst h
      simp [wl, hk]
    · rw [if_neg h]
      simp [wl, hk]
theorem wl_setL {Y : LY} {S : GS} {o : Nat} (f : Nat → Int64) : (wl Y S).set o (ad Y o, cellF Y o (S.1 o) f) = wl Y (stL S o f) := by
  apply List.ext_getElem?
  intro k
  rw [List.getElem?_set]
  by_cases hk : k < 190
  · by_cases h : o = k
    · subst h
      simp [wl, hk, stL, va_up_self]
    · rw [if_neg h, wl_get hk, wl_get hk]
      simp only [stL]
      rw [va_up_ne _ _ (fun q => h q.symm)]
  · by_cases h : o = k
    · subst h
      simp [wl, hk]
    · rw [if_neg h]
      simp [wl, hk]
def dY (Y : LY) : Prop := ∀ i j, i < 190 → j < 190 → ad Y i = ad Y j → i = j
theorem wl_some {Y : LY} {S : GS} {k : Nat} {q : Nat × va_E} (h : (wl Y S)[k]? = some q) : k < 190 ∧ q.1 = ad Y k := by
  have hk : k < 190 := by
    by_cases hk : k < 190
    · exact hk
    · exfalso
      have : (wl Y S)[k]? = none := by simp [wl]; omega
      rw [this] at h
      cases h
  rw [wl_get hk] at h
  cases h
  exact ⟨hk, rfl⟩
theorem wl_D {Y : LY} {S : GS} {A : Nat → Prop} (h : dY Y) (hA : ∀ o, o < 190 → A (ad Y o)) : va_D A (wl Y S) := by
  refine ⟨fun i j p q hi hj e => ?_, fun k q hk => ?_⟩
  · obtain ⟨h1, e1⟩ := wl_some hi
    obtain ⟨h2, e2⟩ := wl_some hj
    exact h i j h1 h2 (by rw [← e1, ← e2]; exact e)
  · obtain ⟨h1, e1⟩ := wl_some hk
    rw [e1]
    exact hA k h1
abbrev tysY (Y : LY) : List (ClassId × FieldType) := [(Y.2.2 0, .int), (Y.2.2 1, .long), (Y.2.2 2, .object RX2), (Y.2.2 3, .object RX5)]
def kY (Y : LY) (U : State) : Prop := va_K Y.1 vwCl (tysY Y) U ∧ dY Y
def AY (Y : LY) : Nat → Prop := fun q => ∃ o, o < 190 ∧ q = ad Y o
/-- the fixed things of a walk: the machine, the method, its frame's post, the world's addresses -/
abbrev CX : Type := Program × Launch × Env × Room × State × MethodId × Array Value × List Frame × Method × Code × (State → Prop) × LY × (Nat → Prop) × Nat × Nat × Nat
abbrev xp (X : CX) : Program := X.1
abbrev xl (X : CX) : Launch := X.2.1
abbrev xe (X : CX) : Env := X.2.2.1
abbrev xR (X : CX) : Room := X.2.2.2.1
abbrev xs (X : CX) : State := X.2.2.2.2.1
abbrev xm (X : CX) : MethodId := X.2.2.2.2.2.1
abbrev xa (X : CX) : Array Value := X.2.2.2.2.2.2.1
abbrev xb (X : CX) : List Frame := X.2.2.2.2.2.2.2.1
abbrev xt (X : CX) : Method := X.2.2.2.2.2.2.2.2.1
abbrev xc (X : CX) : Code := X.2.2.2.2.2.2.2.2.2.1
abbrev xQ (X : CX) : State → Prop := X.2.2.2.2.2.2.2.2.2.2.1
abbrev xY (X : CX) : LY := X.2.2.2.2.2.2.2.2.2.2.2.1
abbrev xA (X : CX) : Nat → Prop := X.2.2.2.2.2.2.2.2.2.2.2.2.1
abbrev xn (X : CX) : Nat := X.2.2.2.2.2.2.2.2.2.2.2.2.2.1
abbrev xk (X : CX) : Nat := X.2.2.2.2.2.2.2.2.2.2.2.2.2.2.1
abbrev xo (X : CX) : Nat := X.2.2.2.2.2.2.2.2.2.2.2.2.2.2.2
/-- locals, a place each: the kit's list of them -/
def zt : Nat → List (Option Value) → List (Nat × Value)
  | _, [] => []
  | k, none :: r => zt (k + 1) r
  | k, some v :: r => (k, v) :: zt (k + 1) r
theorem zt_mem : ∀ (L : List (Option Value)) (k : Nat) (q : Nat × Value), q ∈ zt k L ↔ ∃ i, q.1 = k + i ∧ L[i]? = some (some q.2)
  | [], k, q => by simp [zt]
  | none :: r, k, q => by
    rw [zt, zt_mem r (k + 1) q]
    constructor
    · rintro ⟨i, h1, h2⟩
      exact ⟨i + 1, by omega, by simpa using h2⟩
    · rintro ⟨i, h1, h2⟩
      cases i with
      | zero => simp at h2
      | succ i => exact ⟨i, by omega, by simpa using h2⟩
  | some v :: r, k, q => by
    rw [zt, List.mem_cons, zt_mem r (k + 1) q]
    constructor
    · rintro (h | ⟨i, h1, h2⟩)
      · subst h
        exact ⟨0, rfl, rfl⟩
      · exact ⟨i + 1, by omega, by simpa using h2⟩
    · rintro ⟨i, h1, h2⟩
      cases i with
      | zero =>
        left
        simp at h2
        obtain ⟨a, b⟩ := q
        simp at h1 h2
        rw [h1, h2]
      | succ i => exact Or.inr ⟨i, by omega, by simpa using h2⟩
def zl (ls : Array Slot) (n : Nat) (L : List (Option Value)) : Prop := lv_has ls n (zt 0 L) ∧ L.length = n
theorem zl_at {ls : Array Slot} {n : Nat} {L : List (Option Value)} (h : zl ls n L) {i : Nat} {v : Value} (hi : L[i]? = some (some v)) : ls[i]? = some (.val v) :=
  h.1.2.2 (i, v) ((zt_mem L 0 (i, v)).mpr ⟨i, by simp, hi⟩)
/-- no long begins in this place -/
def nl (x : Option Value) : Prop := ∀ v, x = some v → v.category ≠ 2
theorem nl_n : nl none := fun _ h => by cases h
theorem nl_i {x : Int32} : nl (some (.int x)) := fun v h => by cases h; simp [Value.category]
theorem nl_r {x : Nat} : nl (some (.ref x)) := fun v h => by cases h; simp [Value.category]
theorem zl_st {ls' : Array Slot} {n i : Nat} {v : Value} {L : List (Option Value)} (hn : L.length = n) (hp : ∀ j, j + 1 = i → ∀ x, L[j]? = some x → nl x) (h : lv_has ls' n ((i, v) :: (zt 0 L).filter (fun q => !(q.1 == i) && !(q.1 + 1 == i && q.2.category == 2)))) : zl ls' n (L.set i (some v)) := by
  refine ⟨⟨h.1, h.2.1, fun q hq => ?_⟩, by rw [List.length_set]; exact hn⟩
  obtain ⟨k, h1, h2⟩ := (zt_mem _ 0 q).mp hq
  rw [Nat.zero_add] at h1
  refine h.2.2 q ?_
  rw [List.getElem?_set] at h2
  by_cases e : i = k
  · subst e
    by_cases hl : i < L.length
    · rw [if_pos rfl, if_pos hl] at h2
      have h3 : v = q.2 := by simpa using h2
      have : q = (i, v) := by
        obtain ⟨a, b⟩ := q
        simp at h1 h3
        rw [h1, h3]
      rw [this]
      exact List.mem_cons_self
    · rw [if_pos rfl, if_neg hl] at h2
      cases h2
  · rw [if_neg e] at h2
    refine List.mem_cons_of_mem _ (List.mem_filter.mpr ⟨(zt_mem _ 0 q).mpr ⟨k, by omega, h2⟩, ?_⟩)
    have e1 : ¬ q.1 = i := by rw [h1]; exact fun z => e z.symm
    by_cases e2 : q.1 + 1 = i
    · have := hp k (by omega) _ h2 q.2 rfl
      simp [e1, this]
    · simp [e1, e2]
theorem zl_st2 {ls' : Array Slot} {n i : Nat} {v : Value} {L : List (Option Value)} (hn : L.length = n) (hp : ∀ j, j + 1 = i → ∀ x, L[j]? = some x → nl x) (h : lv_has ls' n ((i, v) :: (zt 0 L).filter (fun q => !(q.1 == i) && (!(q.1 == i + 1) && !(q.1 + 1 == i && q.2.category == 2))))) : zl ls' n ((L.set i (some v)).set (i + 1) none) := by
  refine ⟨⟨h.1, h.2.1, fun q hq => ?_⟩, by rw [List.length_set, List.length_set]; exact hn⟩
  obtain ⟨k, h1, h2⟩ := (zt_mem _ 0 q).mp hq
  rw [Nat.zero_add] at h1
  refine h.2.2 q ?_
  rw [List.getElem?_set] at h2
  by_cases e' : i + 1 = k
  · rw [if_pos e'] at h2
    split at h2
    · simp at h2
    · cases h2
  · rw [if_neg e', List.getElem?_set] at h2
    by_cases e : i = k
    · subst e
      by_cases hl : i < L.length
      · rw [if_pos rfl, if_pos hl] at h2
        have h3 : v = q.2 := by simpa using h2
        have : q = (i, v) := by
          obtain ⟨a, b⟩ := q
          simp at h1 h3
          rw [h1, h3]
        rw [this]
        exact List.mem_cons_self
      · rw [if_pos rfl, if_neg hl] at h2
        cases h2
    · rw [if_neg e] at h2
      refine List.mem_cons_of_mem _ (List.mem_filter.mpr ⟨(zt_mem _ 0 q).mpr ⟨k, by omega, h2⟩, ?_⟩)
      have e1 : ¬ q.1 = i := by rw [h1]; exact fun z => e z.symm
      have e3 : ¬ q.1 = i + 1 := by rw [h1]; exact fun z => e' z.symm
      by_cases e2 : q.1 + 1 = i
      · have := hp k (by omega) _ h2 q.2 rfl
        simp [e1, this, e3]
      · simp [e1, e2, e3]
/-- THE JUDGEMENT: at pc, with the locals lv and the stack st, over the world of S, the method comes to its post -/
def Zj (X : CX) (S : GS) (lv : List (Option Value)) (pc : Nat) (st : List Value) : Prop := ∀ (H : Heap) (locs : List Loc) (ls : Array Slot), va_P (xY X).1 vwCl (wl (xY X) S) H → va_S (xA X) (xs X).heap H locs → zl ls (xn X) lv → W (xp X) (xl X) (xe X) (xR X) (xs X) (xm X) (xa X) (xb X) (xt X) (xc X) H locs (xk X) (xo X) (xQ X) (F0 (xm X) pc ls st)
/-- rooms by levels -/
def rmL (d : Nat) : Room := { frames := 2 * d, cells := 0, slots := 0, locals := 100 * d }
def Cx (X : CX) (cc : ByteArray) (own : String) (Ts : List Cond) (d : Nat) : Prop := (xp X).tables.exec = Jvm.exec ∧ (xc X).code = cc ∧ (xc X).maxLocals = xn X ∧ (xs X).vm.findClass own = some (xm X).cls ∧ (∀ w ∈ Ts, w.before (xa X) (xs X) = true) ∧ kY (xY X) (xs X) ∧ (∀ o, o < 190 → xA X (ad (xY X) o)) ∧ 2 * d ≤ (xR X).frames ∧ 100 * d ≤ (xR X).locals ∧ xk X ≤ (xR X).cells ∧ xo X ≤ (xR X).slots
/-- CONTRACTS: an int method (a void one) that answers r0 and leaves the world of S0, from the world of S -/
def CtI (l : Launch) (y : MethodName) (ws : List Cond) (d : Nat) (Y : LY) (As : List Value) (S : GS) (r0 : Int32) (S0 : GS) : Prop :=
  Met l y ws (rmL d) (va_Pc As (fun U => va_P Y.1 vwCl (wl Y S) U.heap ∧ kY Y U)) (va_Qi (fun (r : Int32) (_ : Unit) => r = r0) (fun _ t => va_P Y.1 vwCl (wl Y S0) t.heap ∧ kY Y t) (AY Y)) 0 0 (AY Y)
def CtV (l : Launch) (y : MethodName) (ws : List Cond) (d : Nat) (Y : LY) (As : List Value) (S : GS) (S0 : GS) : Prop :=
  Met l y ws (rmL d) (va_Pc As (fun U => va_P Y.1 vwCl (wl Y S) U.heap ∧ kY Y U)) (va_Qv (fun (_ : Unit) => True) (fun _ t => va_P Y.1 vwCl (wl Y S0) t.heap ∧ kY Y t) (AY Y)) 0 0 (AY Y)
def RtI (X : CX) (ty : FieldType) (r0 : Int32) (S0 : GS) : Prop := (xt X).sig.returnType = some ty ∧ (xt X).locks = false ∧ xQ X = MQ (xb X) (va_Qi (fun (r : Int32) (_ : Unit) => r = r0) (fun _ t => va_P (xY X).1 vwCl (wl (xY X) S0) t.heap ∧ kY (xY X) t) (AY (xY X))) (xa X) (xs X) 0 0 (AY (xY X)) ∧ xA X = AY (xY X) ∧ xk X = 0 ∧ xo X = 0
def RtV (X : CX) (S0 : GS) : Prop := (xt X).sig.returnType = none ∧ (xt X).locks = false ∧ xQ X = MQ (xb X) (va_Qv (fun (_ : Unit) => True) (fun _ t => va_P (xY X).1 vwCl (wl (xY X) S0) t.heap ∧ kY (xY X) t) (AY (xY X))) (xa X) (xs X) 0 0 (AY (xY X)) ∧ xA X = AY (xY X) ∧ xk X = 0 ∧ xo X = 0
/-- the locals at the entry -/
def lvA : List Value → List (Option Value)
  | [] => []
  | v :: r => if v.category = 2 then some v :: none :: lvA r else some v :: lvA r
theorem lvA_mem : ∀ (As : List Value) (k : Nat) (q : Nat × Value), q ∈ zt k (lvA As) → q ∈ lv_args k As
  | [], k, q, h => by simp [lvA, zt] at h
  | v :: r, k, q, h => by
    rw [lvA] at h
    rw [lv_args]
    by_cases hv : v.category = 2
    · rw [if_pos hv, zt, zt] at h
      rw [if_pos hv]
      rcases List.mem_cons.mp h with h | h
      · rw [h]; exact List.mem_cons_self
      · exact List.mem_cons_of_mem _ (lvA_mem r (k + 2) q h)
    · rw [if_neg hv, zt] at h
      rw [if_neg hv]
      rcases List.mem_cons.mp h with h | h
      · rw [h]; exact List.mem_cons_self
      · exact List.mem_cons_of_mem _ (lvA_mem r (k + 1) q h)
theorem zt_app : ∀ (L M : List (Option Value)) (k : Nat) (q : Nat × Value), q ∈ zt k (L ++ List.replicate M.length none) → q ∈ zt k L := by
  intro L M k q h
  obtain ⟨i, h1, h2⟩ := (zt_mem _ _ _).mp h
  refine (zt_mem _ _ _).mpr ⟨i, h1, ?_⟩
  by_cases hi : i < L.length
  · rwa [List.getElem?_append_left hi] at h2
  · rw [List.getElem?_append_right (by omega)] at h2
    rw [List.getElem?_replicate] at h2
    split at h2
    · simp at h2
    · cases h2
theorem lvA_len : ∀ (As : List Value), (lvA As).length = (lg_sl As).length
  | [] => rfl
  | v :: r => by
    have ih := lvA_len r
    rw [lvA]
    by_cases hv : v.category = 2
    · rw [if_pos hv]
      simp [lg_sl, hv] at ih ⊢
      omega
    · rw [if_neg hv]
      simp [lg_sl, hv] at ih ⊢
      omega
/-- the entry's locals, to their number -/
def lvE (As : List Value) (n : Nat) : List (Option Value) := lvA As ++ List.replicate (n - (lvA As).length) none
theorem zl_entry (As : List Value) {n : Nat} (h : (lvA As).length ≤ n) : zl ((lg_sl As ++ List.replicate (n - (lg_sl As).length) Slot.unset).toArray) n (lvE As n) := by
  have h1 := lv_entry As (n := n) (by rw [← lvA_len]; exact h)
  refine ⟨⟨h1.1, h1.2.1, fun q hq => h1.2.2 q (lvA_mem As 0 q ?_)⟩, by simp [lvE]; omega⟩
  have := zt_app (lvA As) (List.replicate (n - (lvA As).length) none) 0 q
  simp at this
  exact this (by simpa [lvE] using hq)
theorem blind_of {Y : LY} {As : List Value} {S : GS} : FrameBlind (va_Pc As (fun U => va_P Y.1 vwCl (wl Y S) U.heap ∧ kY Y U)) := fun a U g mk q => by
  obtain ⟨q0, qP, qK, qD⟩ := q
  exact ⟨q0, qP, va_K.moved (u := U) (U := U.calling g mk a) (Vm.Alike.refl U.vm) qK, qD⟩
theorem mkI {l : Launch} {y : MethodName} {ws ws' : List Cond} {d : Nat} {Y : LY} {As : List Value} {S S0 : GS} {r0 : Int32} {cc : ByteArray} {maxL : Nat} {ty : FieldType} (hy : plainName y.cls = true) (hw : ws = Cond.code y cc maxL (some ty) :: ws') (hlen : (lvA As).length ≤ maxL)
    (body : ∀ X : CX, xl X = l → xY X = Y → Cx X cc y.cls ws d → RtI X ty r0 S0 → Zj X S (lvE As maxL) 0 []) : CtI l y ws d Y As S r0 S0 := by
  refine Met.ofW (cc := cc) (maxL := maxL) (ret := some ty) hy hw ?_
  intro p e s m args below meth c s₁ B hml hv
  obtain ⟨rfl, hP, hK, hD⟩ := hv
  have hts := atoms_spec (ws := ws) B.pre
  have hown : s.vm.findClass y.cls = some m.cls := findClass_of_methodNamed B.named
  rw [lg_entry_eq]
  refine body (p, l, e, rmL d, s, m, As.toArray, below, meth, c, MQ below (va_Qi (fun (r : Int32) (_ : Unit) => r = r0) (fun _ t => va_P Y.1 vwCl (wl Y S0) t.heap ∧ kY Y t) (AY Y)) As.toArray s 0 0 (AY Y), Y, AY Y, maxL, 0, 0) rfl rfl ⟨B.exec, B.bytes, hml, hown, hts, ⟨hK, hD⟩, fun o ho => ⟨o, ho, rfl⟩, Nat.le_refl _, Nat.le_refl _, Nat.le_refl _, Nat.le_refl _⟩ ⟨B.returns, B.notSynchronized, rfl, rfl, rfl, rfl⟩ s.heap [] _ hP va_S.rf (zl_entry As hlen)
theorem mkV {l : Launch} {y : MethodName} {ws ws' : List Cond} {d : Nat} {Y : LY} {As : List Value} {S S0 : GS} {cc : ByteArray} {maxL : Nat} (hy : plainName y.cls = true) (hw : ws = Cond.code y cc maxL none :: ws') (hlen : (lvA As).length ≤ maxL)
    (body : ∀ X : CX, xl X = l → xY X = Y → Cx X cc y.cls ws d → RtV X S0 → Zj X S (lvE As maxL) 0 []) : CtV l y ws d Y As S S0 := by
  refine Met.ofW (cc := cc) (maxL := maxL) (ret := none) hy hw ?_
  intro p e s m args below meth c s₁ B hml hv
  obtain ⟨rfl, hP, hK, hD⟩ := hv
  have hts := atoms_spec (ws := ws) B.pre
  have hown : s.vm.findClass y.cls = some m.cls := findClass_of_methodNamed B.named
  rw [lg_entry_eq]
  refine body (p, l, e, rmL d, s, m, As.toArray, below, meth, c, MQ below (va_Qv (fun (_ : Unit) => True) (fun _ t => va_P Y.1 vwCl (wl Y S0) t.heap ∧ kY Y t) (AY Y)) As.toArray s 0 0 (AY Y), Y, AY Y, maxL, 0, 0) rfl rfl ⟨B.exec, B.bytes, hml, hown, hts, ⟨hK, hD⟩, fun o ho => ⟨o, ho, rfl⟩, Nat.le_refl _, Nat.le_refl _, Nat.le_refl _, Nat.le_refl _⟩ ⟨B.returns, B.notSynchronized, rfl, rfl, rfl, rfl⟩ s.heap [] _ hP va_S.rf (zl_entry As hlen)
