theorem mR4_rd {S : GS} {r k m : Nat} {V : VR} (h : HW (S.1 179) r V) (ho : Ok V) (hk : k < V 0 1) (hm : m < V 0 0) (i : Nat) : (mR4 S r k m).1 179 i = if i = r + 17 + m then nI (rbW V k m) else if i = r + 4 then nI (V 0 3 + (V 6 k - rbA V k m)) else if i = r + 23 + k then nI (rbA V k m) else if i = r + 5 + m then nI (rbD V k m) else S.1 179 i := by
  obtain ⟨e1, e2, e3, e4⟩ := h.2.1 m hm
  obtain ⟨o1, o2, o3, o4, o5⟩ := ho.2.2.1 m hm
  obtain ⟨f1, f2, f3⟩ := h.2.2 k hk
  obtain ⟨p1, p2, p3⟩ := ho.2.2.2 k hk
  have w1 := wolN_in (V 5 k)
  have w2 := werN_le (kd := V 5 k) o3
  have w3 := palN_le (V 5 k) (V 6 k)
  have hm6 : m < 6 := Nat.lt_of_lt_of_le hm ho.1
  have hk5 : k < 5 := Nat.lt_of_lt_of_le hk ho.2.1
  have h3 := h.1.2.2.2.2
  have x1 : lss (S.1 179 (r + 5 + m)) (lD (S.1 179 (r + 39 + k)) (S.1 179 (r + 23 + k))) = nI (rbD V k m) := by
    rw [e1, f1, f2, lDI p1 p2, lssI (by omega) (by omega)]
    rfl
  have x2 : lss (S.1 179 (r + 23 + k)) (wer (S.1 179 (r + 39 + k)) (S.1 179 (r + 33 + m))) = nI (rbA V k m) := by
    rw [f1, f2, e2, werI p1 o3, lssI (by omega) (by omega)]
    rfl
  have x3 : mw20 (S.1 179 (r + 17 + m) + wol (S.1 179 (r + 39 + k))) = nI (rbW V k m) := by
    rw [e4, f1, wolI p1, nI_add, mw20I (by omega)]
    rfl
  have x4 : S.1 179 (r + 4) + (S.1 179 (r + 23 + k) - nI (rbA V k m)) = nI (V 0 3 + (V 6 k - rbA V k m)) := by
    rw [h3, f2, pk_sub (by unfold rbA; omega), nI_add]
  have y1 : (mR1 S r k m).1 179 (r + 33 + m) = S.1 179 (r + 33 + m) := stI_ni (by omega)
  have z2 : (mR2 S r k m).1 179 (r + 23 + k) = nI (rbA V k m) := by
    unfold mR2
    rw [stI_me, y1, x2]
  have z2' : ∀ i, i ≠ r + 23 + k → i ≠ r + 5 + m → (mR2 S r k m).1 179 i = S.1 179 i := by
    intro i h1 h2
    unfold mR2 mR1
    rw [stI_ni h1, stI_ni h2]
  have z3 : ∀ i, i ≠ r + 4 → (mR3 S r k m).1 179 i = (mR2 S r k m).1 179 i := fun i h1 => stI_ni h1
  unfold mR4
  rw [stI_rd, if_pos rfl]
  by_cases c1 : i = r + 17 + m
  · rw [if_pos c1, if_pos c1, z3 _ (by omega), z2' _ (by omega) (by omega), x3]
  · rw [if_neg c1, if_neg c1]
    by_cases c2 : i = r + 4
    · subst c2
      rw [if_pos rfl]
      unfold mR3
      rw [stI_me, z2, z2' _ (by omega) (by omega), x4]
    · rw [if_neg c2, z3 _ c2]
      by_cases c3 : i = r + 23 + k
      · subst c3
        rw [if_pos rfl, z2]
      · rw [if_neg c3]
        by_cases c4 : i = r + 5 + m
        · subst c4
          rw [if_pos rfl]
          unfold mR2
          rw [stI_ni (by omega)]
          unfold mR1
          rw [stI_me, x1]
        · rw [if_neg c4, z2' _ c3 c4]
theorem mRub_rd {S : GS} {r k m : Nat} {V : VR} (h : HW (S.1 179) r V) (ho : Ok V) (hk : k < V 0 1) (hm : m < V 0 0) (i : Nat) : (mRub S r k m).1 179 i = if i = r + 17 + m then nI (rbW V k m) else if i = r + 4 then nI (V 0 3 + (V 6 k - rbA V k m)) else if i = r + 23 + k then nI (rbA V k m) else if i = r + 5 + m then nI (if rbO V k m then V 3 m else rbD V k m) else if i = r + 11 + m then nI (if rbO V k m then 0 else V 3 m) else S.1 179 i := by
  obtain ⟨e1, e2, e3, e4⟩ := h.2.1 m hm
  obtain ⟨q1, q2⟩ := rb_in (k := k) ho hm
  have hm6 : m < 6 := Nat.lt_of_lt_of_le hm ho.1
  have hk5 : k < 5 := Nat.lt_of_lt_of_le hk ho.2.1
  have d1 : (mR4 S r k m).1 179 (r + 5 + m) = nI (rbD V k m) := by
    rw [mR4_rd h ho hk hm, if_neg (by omega), if_neg (by omega), if_neg (by omega), if_pos rfl]
  have d4 : (mR4 S r k m).1 179 (r + 17 + m) = nI (rbW V k m) := by rw [mR4_rd h ho hk hm, if_pos rfl]
  have d3 : (mR4 S r k m).1 179 (r + 11 + m) = nI (V 3 m) := by
    rw [mR4_rd h ho hk hm, if_neg (by omega), if_neg (by omega), if_neg (by omega), if_neg (by omega), e3]
  have hc : ((mR4 S r k m).1 179 (r + 5 + m) = 0 ∧ ¬ mT (mR4 S r k m) r m) ↔ rbO V k m := by
    unfold mT rbO
    rw [d1, d4, nI_eq0 (by omega), nI_eq (by omega) (by decide)]
    omega
  unfold mRub
  by_cases c : rbO V k m
  · rw [if_pos (hc.mpr c), if_pos c, if_pos c, stI_rd, if_pos rfl]
    by_cases c3 : i = r + 11 + m
    · subst c3
      rw [if_pos rfl, if_neg (by omega), if_neg (by omega), if_neg (by omega), if_neg (by omega), if_pos rfl]
    · rw [if_neg c3, stI_rd, if_pos rfl]
      by_cases c1 : i = r + 5 + m
      · subst c1
        rw [if_pos rfl, if_neg (by omega), if_neg (by omega), if_neg (by omega), if_pos rfl, d3]
      · rw [if_neg c1, mR4_rd h ho hk hm, if_neg c1, if_neg c1, if_neg c3]
  · rw [if_neg (fun z => c (hc.mp z)), if_neg c, if_neg c, mR4_rd h ho hk hm]
    by_cases c3 : i = r + 11 + m
    · subst c3
      rw [if_pos rfl, e3]
    · rw [if_neg c3]
theorem HW_rub {S : GS} {r k m : Nat} {V : VR} (h : HW (S.1 179) r V) (ho : Ok V) (hk : k < V 0 1) (hm : m < V 0 0) : HW ((mRub S r k m).1 179) r (vRub V k m) := by
  have n0 : vRub V k m 0 0 = V 0 0 := by simp [vRub]
  have n1 : vRub V k m 0 1 = V 0 1 := by simp [vRub]
  have hm6 : m < 6 := Nat.lt_of_lt_of_le hm ho.1
  have hk5 : k < 5 := Nat.lt_of_lt_of_le hk ho.2.1
  have far : ∀ i, i ≠ r + 17 + m → i ≠ r + 4 → i ≠ r + 23 + k → i ≠ r + 5 + m → i ≠ r + 11 + m → (mRub S r k m).1 179 i = S.1 179 i := by
    intro i h1 h2 h3 h4 h5
    rw [mRub_rd h ho hk hm, if_neg h1, if_neg h2, if_neg h3, if_neg h4, if_neg h5]
  refine ⟨⟨?_, ?_, ?_, ?_, ?_⟩, fun m' hm' => ?_, fun k' hk' => ?_⟩
  · rw [far _ (by omega) (by omega) (by omega) (by omega) (by omega), h.1.1]; simp [vRub]
  · rw [far _ (by omega) (by omega) (by omega) (by omega) (by omega), h.1.2.1]; simp [vRub]
  · rw [far _ (by omega) (by omega) (by omega) (by omega) (by omega), h.1.2.2.1]; simp [vRub]
  · rw [far _ (by omega) (by omega) (by omega) (by omega) (by omega), h.1.2.2.2.1]; simp [vRub]
  · rw [mRub_rd h ho hk hm, if_neg (by omega), if_pos rfl]; simp [vRub]
  · rw [n0] at hm'
    have hm6' : m' < 6 := Nat.lt_of_lt_of_le hm' ho.1
    obtain ⟨e1, e2, e3, e4⟩ := h.2.1 m' hm'
    by_cases c : m' = m
    · subst c
      refine ⟨?_, ?_, ?_, ?_⟩
      · rw [mRub_rd h ho hk hm, if_neg (by omega), if_neg (by omega), if_neg (by omega), if_pos rfl]; simp [vRub]
      · rw [far _ (by omega) (by omega) (by omega) (by omega) (by omega), e2]; simp [vRub]
      · rw [mRub_rd h ho hk hm, if_neg (by omega), if_neg (by omega), if_neg (by omega), if_neg (by omega), if_pos rfl]; simp [vRub]
      · rw [mRub_rd h ho hk hm, if_pos rfl]; simp [vRub]
    · refine ⟨?_, ?_, ?_, ?_⟩
      · rw [far _ (by omega) (by omega) (by omega) (by omega) (by omega), e1]; simp [vRub, c]
      · rw [far _ (by omega) (by omega) (by omega) (by omega) (by omega), e2]; simp [vRub, c]
      · rw [far _ (by omega) (by omega) (by omega) (by omega) (by omega), e3]; simp [vRub, c]
      · rw [far _ (by omega) (by omega) (by omega) (by omega) (by omega), e4]; simp [vRub, c]
  · rw [n1] at hk'
    have hk5' : k' < 5 := Nat.lt_of_lt_of_le hk' ho.2.1
    obtain ⟨e1, e2, e3⟩ := h.2.2 k' hk'
    by_cases c : k' = k
    · subst c
      refine ⟨?_, ?_, ?_⟩
      · rw [far _ (by omega) (by omega) (by omega) (by omega) (by omega), e1]; simp [vRub]
      · rw [mRub_rd h ho hk hm, if_neg (by omega), if_neg (by omega), if_pos rfl]; simp [vRub]
      · rw [far _ (by omega) (by omega) (by omega) (by omega) (by omega), e3]; simp [vRub]
    · refine ⟨?_, ?_, ?_⟩
      · rw [far _ (by omega) (by omega) (by omega) (by omega) (by omega), e1]; simp [vRub, c]
      · rw [far _ (by omega) (by omega) (by omega) (by omega) (by omega), e2]; simp [vRub, c]
      · rw [far _ (by omega) (by omega) (by omega) (by omega) (by omega), e3]; simp [vRub, c]
