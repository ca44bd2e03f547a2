/-! THE COMMON VALUE of a rock: V f i, f = 0 head (marks, monks, day, crumbs, draw), 1 dark, 2 hard, 3 under, 4 wool, 5 kind, 6 size, 7 sent (0 none, else mark + 1) -/
abbrev VR : Type := Nat → Nat → Nat
def sI (s : Nat) : Int32 := if s = 0 then -4 else nI (s - 1)
def HC (S : GS) (b : Nat) (V : VR) : Prop := (∀ i, i < 5 → S.1 b i = nI (V 0 i)) ∧ (∀ m, m < V 0 0 → S.1 (b + 1) m = nI (V 1 m) ∧ S.1 (b + 2) m = nI (V 2 m) ∧ S.1 (b + 3) m = nI (V 3 m) ∧ S.1 (b + 4) m = nI (V 4 m)) ∧ (∀ k, k < V 0 1 → S.1 (b + 5) k = nI (V 5 k) ∧ S.1 (b + 6) k = nI (V 6 k) ∧ S.1 (b + 7) k = sI (V 7 k))
def HW (w : Nat → Int32) (r : Nat) (V : VR) : Prop := (w (r + 0) = nI (V 0 0) ∧ w (r + 1) = nI (V 0 1) ∧ w (r + 2) = nI (V 0 2) ∧ w (r + 3) = nI (V 0 4) ∧ w (r + 4) = nI (V 0 3)) ∧ (∀ m, m < V 0 0 → w (r + 5 + m) = nI (V 1 m) ∧ w (r + 33 + m) = nI (V 2 m) ∧ w (r + 11 + m) = nI (V 3 m) ∧ w (r + 17 + m) = nI (V 4 m)) ∧ (∀ k, k < V 0 1 → w (r + 39 + k) = nI (V 5 k) ∧ w (r + 23 + k) = nI (V 6 k) ∧ w (r + 28 + k) = sI (V 7 k))
def Ok (V : VR) : Prop := V 0 0 ≤ 6 ∧ V 0 1 ≤ 5 ∧ (∀ m, m < V 0 0 → V 1 m ≤ 60 ∧ 1 ≤ V 2 m ∧ V 2 m ≤ 9 ∧ V 3 m ≤ 60 ∧ V 4 m ≤ 20) ∧ (∀ k, k < V 0 1 → V 5 k ≤ 4 ∧ V 6 k ≤ 99 ∧ V 7 k ≤ V 0 0)
def palN (kd sz : Nat) : Nat := if kd = 1 ∨ kd = 3 then (if sz < 30 then 4 else 6) else if kd = 2 ∨ kd = 4 then 8 else 4
def werN (kd hd : Nat) : Nat := if kd = 3 then hd / 2 + 1 else if kd = 4 then 1 else hd
def wolN (kd : Nat) : Nat := if kd = 2 then 3 else if kd = 4 then 2 else 1
abbrev vG (V : VR) (m : Nat) : Prop := V 1 m = 0 ∧ V 3 m = 0
abbrev vT (V : VR) (m : Nat) : Prop := 20 ≤ V 4 m
abbrev vC (V : VR) (k m : Nat) : Prop := 0 < V 6 k ∧ ¬ vG V m ∧ ¬ vT V m
def rbD (V : VR) (k m : Nat) : Nat := V 1 m - palN (V 5 k) (V 6 k)
def rbA (V : VR) (k m : Nat) : Nat := V 6 k - werN (V 5 k) (V 2 m)
def rbW (V : VR) (k m : Nat) : Nat := min 20 (V 4 m + wolN (V 5 k))
abbrev rbO (V : VR) (k m : Nat) : Prop := rbD V k m = 0 ∧ rbW V k m < 20
def vRub (V : VR) (k m : Nat) : VR := fun f i => if f = 1 ∧ i = m then (if rbO V k m then V 3 m else rbD V k m) else if f = 3 ∧ i = m then (if rbO V k m then 0 else V 3 m) else if f = 4 ∧ i = m then rbW V k m else if f = 6 ∧ i = k then rbA V k m else if f = 0 ∧ i = 3 then V 0 3 + (V 6 k - rbA V k m) else V f i
theorem nI0 : nI 0 = 0 := rfl
theorem nI_eq0 {a : Nat} (h : a < 2 ^ 31) : nI a = 0 ↔ a = 0 := nI_eq (b := 0) h (by decide)
theorem nI_le0 {a : Nat} (h : a < 2 ^ 31) : nI a ≤ 0 ↔ a = 0 := by
  have := nI_leI (a := a) (b := 0) h (by decide)
  rw [nI0] at this
  rw [this]
  omega
theorem palI {kd sz : Nat} (h1 : kd ≤ 4) (h2 : sz ≤ 99) : pal (nI kd) (nI sz) = nI (palN kd sz) := by
  unfold pal palN
  simp only [nI_eq (show kd < 2 ^ 31 by omega) (show 1 < 2 ^ 31 by decide), nI_eq (show kd < 2 ^ 31 by omega) (show 2 < 2 ^ 31 by decide), nI_eq (show kd < 2 ^ 31 by omega) (show 3 < 2 ^ 31 by decide), nI_eq (show kd < 2 ^ 31 by omega) (show 4 < 2 ^ 31 by decide), nI_ltI (show sz < 2 ^ 31 by omega) (show 30 < 2 ^ 31 by decide)]
  split
  · split <;> rfl
  · split <;> rfl
theorem palN_le (kd sz : Nat) : palN kd sz ≤ 8 := by
  unfold palN
  split
  · split <;> omega
  · split <;> omega
theorem lDI {kd sz : Nat} (h1 : kd ≤ 4) (h2 : sz ≤ 99) : lD (nI kd) (nI sz) = nI (palN kd sz) := by
  unfold lD palN
  simp only [nI_eq (show kd < 2 ^ 31 by omega) (show 1 < 2 ^ 31 by decide), nI_eq (show kd < 2 ^ 31 by omega) (show 2 < 2 ^ 31 by decide), nI_eq (show kd < 2 ^ 31 by omega) (show 3 < 2 ^ 31 by decide), nI_eq (show kd < 2 ^ 31 by omega) (show 4 < 2 ^ 31 by decide), nI_ltI (show sz < 2 ^ 31 by omega) (show 30 < 2 ^ 31 by decide)]
  by_cases a : kd = 1 ∨ kd = 3
  · have b : ¬ (kd = 2 ∨ kd = 4) := by omega
    by_cases c : sz < 30
    · simp [a, b, c]
    · simp [a, b, c]
  · by_cases b : kd = 2 ∨ kd = 4
    · simp [a, b]
    · simp [a, b]
theorem werI {kd hd : Nat} (h1 : kd ≤ 4) (h2 : hd ≤ 9) : wer (nI kd) (nI hd) = nI (werN kd hd) := by
  unfold wer werN
  simp only [nI_eq (show kd < 2 ^ 31 by omega) (show 3 < 2 ^ 31 by decide), nI_eq (show kd < 2 ^ 31 by omega) (show 4 < 2 ^ 31 by decide)]
  split
  · rw [pk_div (by omega) (by decide) (by decide), nI_add]
  · split <;> rfl
theorem werN_le {kd hd : Nat} (h2 : hd ≤ 9) : werN kd hd ≤ 9 := by
  unfold werN
  split
  · omega
  · split <;> omega
theorem wolI {kd : Nat} (h1 : kd ≤ 4) : wol (nI kd) = nI (wolN kd) := by
  unfold wol wolN
  simp only [nI_eq (show kd < 2 ^ 31 by omega) (show 2 < 2 ^ 31 by decide), nI_eq (show kd < 2 ^ 31 by omega) (show 4 < 2 ^ 31 by decide)]
  split
  · rfl
  · split <;> rfl
theorem wolN_in (kd : Nat) : 1 ≤ wolN kd ∧ wolN kd ≤ 3 := by
  unfold wolN
  split
  · omega
  · split <;> omega
theorem mx0I {a b : Nat} (ha : a < 2 ^ 30) (hb : b < 2 ^ 30) : mx0 (nI a - nI b) = nI (a - b) := by
  unfold mx0
  have h := pk_sub_toInt ha hb
  by_cases c : b < a
  · rw [pk_sub (by omega), if_pos (nI_lt (by omega) (by omega))]
  · rw [if_neg]
    · rw [show a - b = 0 by omega]
    · rw [Int32.lt_iff_toInt_lt, h]
      have : (nI 0).toInt = 0 := rfl
      omega
theorem lssI {a b : Nat} (ha : a < 2 ^ 30) (hb : b < 2 ^ 30) : lss (nI a) (nI b) = nI (a - b) := by
  unfold lss
  by_cases c : b ≤ a
  · rw [if_pos (nI_le c (by omega)), pk_sub c]
  · rw [if_neg (nI_ge (by omega) (by omega)), show a - b = 0 by omega]
theorem mn20I {a : Nat} (ha : a < 2 ^ 30) : mn20 (nI a) = nI (min 20 a) := by
  unfold mn20
  by_cases c : a < 20
  · rw [if_pos (nI_lt c (by decide)), show min 20 a = a by omega]
  · rw [if_neg (nI_nlt (by omega) (by omega)), show min 20 a = 20 by omega]
theorem mw20I {a : Nat} (ha : a < 2 ^ 30) : mw20 (nI a) = nI (min 20 a) := by
  unfold mw20
  by_cases c : a ≤ 20
  · rw [if_pos (nI_le c (by decide)), show min 20 a = a by omega]
  · rw [if_neg (nI_ge (by omega) (by omega)), show min 20 a = 20 by omega]
