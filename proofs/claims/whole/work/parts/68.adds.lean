theorem stI_sk {S : GS} {o i o' i' : Nat} {v : Int32} (h : ¬ (o' = o ∧ i' = i)) : (stI S o i v).1 o' i' = S.1 o' i' := by
  by_cases c : o' = o
  · subst c
    exact stI_ni (fun z => h ⟨rfl, z⟩)
  · rw [stI_no c]
def vAM (V : VR) (x y z : Nat) : VR := fun f i => if f = 0 ∧ i = 0 then V 0 0 + 1 else if i = V 0 0 ∧ (1 ≤ f ∧ f ≤ 4) then (if f = 1 then x else if f = 2 then y else if f = 3 then z else 0) else V f i
def vAK (V : VR) (x y z : Nat) : VR := fun f i => if f = 0 ∧ i = 1 then V 0 1 + 1 else if i = V 0 1 ∧ (5 ≤ f ∧ f ≤ 7) then (if f = 5 then x else if f = 6 then y else z) else V f i
theorem HC_AM {S : GS} {b x y z : Nat} {V : VR} (h : HC S b V) : HC (cAM S b (V 0 0) (nI x) (nI y) (nI z)) b (vAM V x y z) := by
  have r : ∀ f i, f ≤ 7 → ¬ (f = 0 ∧ i = 0) → ¬ (i = V 0 0 ∧ (1 ≤ f ∧ f ≤ 4)) → (cAM S b (V 0 0) (nI x) (nI y) (nI z)).1 (b + f) i = S.1 (b + f) i := by
    intro f i hf h1 h2
    unfold cAM
    rw [stI_sk (by omega), stI_sk (by omega), stI_sk (by omega), stI_sk (by omega), stI_sk (by omega)]
  have n0 : vAM V x y z 0 0 = V 0 0 + 1 := by simp [vAM]
  have n1 : vAM V x y z 0 1 = V 0 1 := by simp [vAM]
  refine ⟨fun i hi => ?_, fun m hm => ?_, fun k hk => ?_⟩
  · by_cases c : i = 0
    · subst c
      rw [n0]
      unfold cAM
      rw [stI_me]
    · have r0 := r 0 i (by decide) (by omega) (by omega)
      rw [Nat.add_zero] at r0
      rw [r0, show vAM V x y z 0 i = V 0 i by simp [vAM, c]]
      exact h.1 i hi
  · rw [n0] at hm
    by_cases c : m = V 0 0
    · subst c
      unfold cAM
      refine ⟨?_, ?_, ?_, ?_⟩ <;> simp (disch := omega) only [stI_no, stI_me] <;> simp [vAM]
    · rw [r 1 m (by decide) (by omega) (by omega), r 2 m (by decide) (by omega) (by omega), r 3 m (by decide) (by omega) (by omega), r 4 m (by decide) (by omega) (by omega)]
      have q := h.2.1 m (by omega)
      simpa [vAM, c] using q
  · rw [n1] at hk
    rw [r 5 k (by decide) (by omega) (by omega), r 6 k (by decide) (by omega) (by omega), r 7 k (by decide) (by omega) (by omega)]
    have q := h.2.2 k hk
    simpa [vAM] using q
theorem HC_AK {S : GS} {b x y z : Nat} {V : VR} (h : HC S b V) : HC (cAK S b (V 0 1) (nI x) (nI y) (sI z)) b (vAK V x y z) := by
  have r : ∀ f i, f ≤ 7 → ¬ (f = 0 ∧ i = 1) → ¬ (i = V 0 1 ∧ (5 ≤ f ∧ f ≤ 7)) → (cAK S b (V 0 1) (nI x) (nI y) (sI z)).1 (b + f) i = S.1 (b + f) i := by
    intro f i hf h1 h2
    unfold cAK
    rw [stI_sk (by omega), stI_sk (by omega), stI_sk (by omega), stI_sk (by omega)]
  have n0 : vAK V x y z 0 0 = V 0 0 := by simp [vAK]
  have n1 : vAK V x y z 0 1 = V 0 1 + 1 := by simp [vAK]
  refine ⟨fun i hi => ?_, fun m hm => ?_, fun k hk => ?_⟩
  · by_cases c : i = 1
    · subst c
      rw [n1]
      unfold cAK
      rw [stI_me]
    · have r0 := r 0 i (by decide) (by omega) (by omega)
      rw [Nat.add_zero] at r0
      rw [r0, show vAK V x y z 0 i = V 0 i by simp [vAK, c]]
      exact h.1 i hi
  · rw [n0] at hm
    rw [r 1 m (by decide) (by omega) (by omega), r 2 m (by decide) (by omega) (by omega), r 3 m (by decide) (by omega) (by omega), r 4 m (by decide) (by omega) (by omega)]
    have q := h.2.1 m hm
    simpa [vAK] using q
  · rw [n1] at hk
    by_cases c : k = V 0 1
    · subst c
      unfold cAK
      refine ⟨?_, ?_, ?_⟩ <;> simp (disch := omega) only [stI_no, stI_me] <;> simp [vAK]
    · rw [r 5 k (by decide) (by omega) (by omega), r 6 k (by decide) (by omega) (by omega), r 7 k (by decide) (by omega) (by omega)]
      have q := h.2.2 k (by omega)
      simpa [vAK, c] using q
theorem Ok_AM {V : VR} {x y z : Nat} (h : Ok V) (hn : V 0 0 < 6) (hx : x ≤ 60) (h1 : 1 ≤ y) (hy : y ≤ 9) (hz : z ≤ 60) : Ok (vAM V x y z) := by
  have n0 : vAM V x y z 0 0 = V 0 0 + 1 := by simp [vAM]
  have n1 : vAM V x y z 0 1 = V 0 1 := by simp [vAM]
  refine ⟨by rw [n0]; omega, by rw [n1]; exact h.2.1, fun m hm => ?_, fun k hk => ?_⟩
  · rw [n0] at hm
    by_cases c : m = V 0 0
    · subst c
      simp [vAM]
      omega
    · have q := h.2.2.1 m (by omega)
      simpa [vAM, c] using q
  · rw [n1] at hk
    rw [n0]
    have q := h.2.2.2 k hk
    have e : ∀ f, 5 ≤ f → vAM V x y z f k = V f k := fun f hf => by unfold vAM; rw [if_neg (by omega), if_neg (by omega)]
    rw [e 5 (by decide), e 6 (by decide), e 7 (by decide)]
    omega
theorem Ok_AK {V : VR} {x y z : Nat} (h : Ok V) (hn : V 0 1 < 5) (hx : x ≤ 4) (hy : y ≤ 99) (hz : z ≤ V 0 0) : Ok (vAK V x y z) := by
  have n0 : vAK V x y z 0 0 = V 0 0 := by simp [vAK]
  have n1 : vAK V x y z 0 1 = V 0 1 + 1 := by simp [vAK]
  refine ⟨by rw [n0]; exact h.1, by rw [n1]; omega, fun m hm => ?_, fun k hk => ?_⟩
  · rw [n0] at hm
    have q := h.2.2.1 m hm
    simpa [vAK] using q
  · rw [n1] at hk
    rw [n0]
    by_cases c : k = V 0 1
    · subst c
      simp [vAK]
      omega
    · have q := h.2.2.2 k (by omega)
      simpa [vAK, c] using q
abbrev mrkP (x y z : Int32) : Prop := inB x 0 60 ∧ inB y 1 9 ∧ inB z 0 60
def aMark (b : B3) (x y z : Int32) : Int32 × B3 := if mrkP x y z then (if b.1 0 0 < 6 then (nI (b.1 0 0), (vAM b.1 x.toNatClampNeg y.toNatClampNeg z.toNatClampNeg, b.2.1, 0)) else (-3, b)) else (-1, b)
theorem aMark_n {b : B3} {x y z : Int32} (h : ¬ mrkP x y z) : aMark b x y z = (-1, b) := if_neg h
theorem aMark_f {b : B3} {x y z : Int32} (h : mrkP x y z) (h6 : ¬ b.1 0 0 < 6) : aMark b x y z = (-3, b) := by
  unfold aMark
  rw [if_pos h, if_neg h6]
theorem aMark_y {b : B3} {x y z : Nat} (h : mrkP (nI x) (nI y) (nI z)) (hx : x ≤ 60) (hy : y ≤ 9) (hz : z ≤ 60) (h6 : b.1 0 0 < 6) : aMark b (nI x) (nI y) (nI z) = (nI (b.1 0 0), (vAM b.1 x y z, b.2.1, 0)) := by
  unfold aMark
  rw [if_pos h, if_pos h6, nI_clamp (by omega), nI_clamp (by omega), nI_clamp (by omega)]
def aMonk (b : B3) (x y : Int32) : Int32 × B3 := if inB x 0 4 ∧ inB y 0 99 then (if b.1 0 1 < 5 then (nI (b.1 0 1), (vAK b.1 x.toNatClampNeg y.toNatClampNeg 0, b.2.1, 0)) else (-3, b)) else (-1, b)
theorem aMonk_n {b : B3} {x y : Int32} (h : ¬ (inB x 0 4 ∧ inB y 0 99)) : aMonk b x y = (-1, b) := if_neg h
theorem aMonk_f {b : B3} {x y : Int32} (h : inB x 0 4 ∧ inB y 0 99) (h6 : ¬ b.1 0 1 < 5) : aMonk b x y = (-3, b) := by
  unfold aMonk
  rw [if_pos h, if_neg h6]
theorem aMonk_y {b : B3} {x y : Nat} (h : inB (nI x) 0 4 ∧ inB (nI y) 0 99) (hx : x ≤ 4) (hy : y ≤ 99) (h6 : b.1 0 1 < 5) : aMonk b (nI x) (nI y) = (nI (b.1 0 1), (vAK b.1 x y 0, b.2.1, 0)) := by
  unfold aMonk
  rw [if_pos h, if_pos h6, nI_clamp (by omega), nI_clamp (by omega)]
theorem cAM_fr {S : GS} {b n : Nat} {x y z : Int32} : Fr (rk b) S (cAM S b n x y z) := by
  unfold cAM
  exact ((((Fr.I ⟨by omega, by omega⟩).tr (Fr.I ⟨by omega, by omega⟩)).tr (Fr.I ⟨by omega, by omega⟩)).tr (Fr.I ⟨by omega, by omega⟩)).tr (Fr.I ⟨by omega, by omega⟩)
theorem cAK_fr {S : GS} {b n : Nat} {x y z : Int32} : Fr (rk b) S (cAK S b n x y z) := by
  unfold cAK
  exact (((Fr.I ⟨by omega, by omega⟩).tr (Fr.I ⟨by omega, by omega⟩)).tr (Fr.I ⟨by omega, by omega⟩)).tr (Fr.I ⟨by omega, by omega⟩)
/-! the model's -/
def mAM (S : GS) (r n : Nat) (x y z : Int32) : GS := stI (stI (stI (stI (stI S 179 (r + 5 + n) x) 179 (r + 33 + n) y) 179 (r + 11 + n) z) 179 (r + 17 + n) (nI 0)) 179 (r + 0) (nI (n + 1))
def mAK (S : GS) (r n : Nat) (x y z : Int32) : GS := stI (stI (stI (stI S 179 (r + 39 + n) x) 179 (r + 23 + n) y) 179 (r + 28 + n) z) 179 (r + 1) (nI (n + 1))
theorem HW_AM {S : GS} {r x y z : Nat} {V : VR} (ho : Ok V) (hn : V 0 0 < 6) (h : HW (S.1 179) r V) : HW ((mAM S r (V 0 0) (nI x) (nI y) (nI z)).1 179) r (vAM V x y z) := by
  have o2 := ho.2.1
  have n0 : vAM V x y z 0 0 = V 0 0 + 1 := by simp [vAM]
  have n1 : vAM V x y z 0 1 = V 0 1 := by simp [vAM]
  have far : ∀ i, i ≠ r + 0 → i ≠ r + 5 + V 0 0 → i ≠ r + 33 + V 0 0 → i ≠ r + 11 + V 0 0 → i ≠ r + 17 + V 0 0 → (mAM S r (V 0 0) (nI x) (nI y) (nI z)).1 179 i = S.1 179 i := by
    intro i h1 h2 h3 h4 h5
    unfold mAM
    rw [stI_ni h1, stI_ni h5, stI_ni h4, stI_ni h3, stI_ni h2]
  have q := h.1
  refine ⟨⟨?_, ?_, ?_, ?_, ?_⟩, fun m hm => ?_, fun k hk => ?_⟩
  · rw [n0]; exact stI_me _ _ _ _
  · rw [far _ (by omega) (by omega) (by omega) (by omega) (by omega), q.2.1]; simp [vAM]
  · rw [far _ (by omega) (by omega) (by omega) (by omega) (by omega), q.2.2.1]; simp [vAM]
  · rw [far _ (by omega) (by omega) (by omega) (by omega) (by omega), q.2.2.2.1]; simp [vAM]
  · rw [far _ (by omega) (by omega) (by omega) (by omega) (by omega), q.2.2.2.2]; simp [vAM]
  · rw [n0] at hm
    by_cases c : m = V 0 0
    · subst c
      unfold mAM
      refine ⟨?_, ?_, ?_, ?_⟩ <;> simp (disch := omega) only [stI_ni, stI_me] <;> simp [vAM]
    · rw [far _ (by omega) (by omega) (by omega) (by omega) (by omega), far _ (by omega) (by omega) (by omega) (by omega) (by omega), far _ (by omega) (by omega) (by omega) (by omega) (by omega), far _ (by omega) (by omega) (by omega) (by omega) (by omega)]
      have q := h.2.1 m (by omega)
      simpa [vAM, c] using q
  · rw [n1] at hk
    rw [far _ (by omega) (by omega) (by omega) (by omega) (by omega), far _ (by omega) (by omega) (by omega) (by omega) (by omega), far _ (by omega) (by omega) (by omega) (by omega) (by omega)]
    have q := h.2.2 k hk
    simpa [vAM] using q
theorem HW_AK {S : GS} {r x y z : Nat} {V : VR} (ho : Ok V) (hn : V 0 1 < 5) (h : HW (S.1 179) r V) : HW ((mAK S r (V 0 1) (nI x) (nI y) (sI z)).1 179) r (vAK V x y z) := by
  have o1 := ho.1
  have n0 : vAK V x y z 0 0 = V 0 0 := by simp [vAK]
  have n1 : vAK V x y z 0 1 = V 0 1 + 1 := by simp [vAK]
  have far : ∀ i, i ≠ r + 1 → i ≠ r + 39 + V 0 1 → i ≠ r + 23 + V 0 1 → i ≠ r + 28 + V 0 1 → (mAK S r (V 0 1) (nI x) (nI y) (sI z)).1 179 i = S.1 179 i := by
    intro i h1 h2 h3 h4
    unfold mAK
    rw [stI_ni h1, stI_ni h4, stI_ni h3, stI_ni h2]
  have q := h.1
  refine ⟨⟨?_, ?_, ?_, ?_, ?_⟩, fun m hm => ?_, fun k hk => ?_⟩
  · rw [far _ (by omega) (by omega) (by omega) (by omega), q.1]; simp [vAK]
  · rw [n1]; exact stI_me _ _ _ _
  · rw [far _ (by omega) (by omega) (by omega) (by omega), q.2.2.1]; simp [vAK]
  · rw [far _ (by omega) (by omega) (by omega) (by omega), q.2.2.2.1]; simp [vAK]
  · rw [far _ (by omega) (by omega) (by omega) (by omega), q.2.2.2.2]; simp [vAK]
  · rw [n0] at hm
    rw [far _ (by omega) (by omega) (by omega) (by omega), far _ (by omega) (by omega) (by omega) (by omega), far _ (by omega) (by omega) (by omega) (by omega), far _ (by omega) (by omega) (by omega) (by omega)]
    have q := h.2.1 m hm
    simpa [vAK] using q
  · rw [n1] at hk
    by_cases c : k = V 0 1
    · subst c
      unfold mAK
      refine ⟨?_, ?_, ?_⟩ <;> simp (disch := omega) only [stI_ni, stI_me] <;> simp [vAK]
    · rw [far _ (by omega) (by omega) (by omega) (by omega), far _ (by omega) (by omega) (by omega) (by omega), far _ (by omega) (by omega) (by omega) (by omega)]
      have q := h.2.2 k (by omega)
      simpa [vAK, c] using q
theorem mAM_fr {S : GS} {r n : Nat} {x y z : Int32} : Fr om S (mAM S r n x y z) := ((((Fr.M).tr Fr.M).tr Fr.M).tr Fr.M).tr Fr.M
theorem mAK_fr {S : GS} {r n : Nat} {x y z : Int32} : Fr om S (mAK S r n x y z) := (((Fr.M).tr Fr.M).tr Fr.M).tr Fr.M
theorem mAM_far {S : GS} {r n i : Nat} {x y z : Int32} (hn : n < 6) (h : r + 39 ≤ i) : (mAM S r n x y z).1 179 i = S.1 179 i := by
  unfold mAM
  rw [stI_ni (by omega), stI_ni (by omega), stI_ni (by omega), stI_ni (by omega), stI_ni (by omega)]
theorem mAK_far {S : GS} {r n i : Nat} {x y z : Int32} (hn : n < 5) (h : r + 44 ≤ i) : (mAK S r n x y z).1 179 i = S.1 179 i := by
  unfold mAK
  rw [stI_ni (by omega), stI_ni (by omega), stI_ni (by omega), stI_ni (by omega)]
