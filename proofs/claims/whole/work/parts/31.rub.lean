theorem rG_iff {S : GS} {b m : Nat} {V : VR} (h : HC S b V) (ho : Ok V) (hm : m < V 0 0) : rG S b m ↔ vG V m := by
  obtain ⟨e1, e2, e3, e4⟩ := h.2.1 m hm
  obtain ⟨o1, o2, o3, o4, o5⟩ := ho.2.2.1 m hm
  unfold rG vG
  rw [e1, e3, nI_eq0 (by omega), nI_eq0 (by omega)]
theorem rT_iff {S : GS} {b m : Nat} {V : VR} (h : HC S b V) (ho : Ok V) (hm : m < V 0 0) : rT S b m ↔ vT V m := by
  obtain ⟨e1, e2, e3, e4⟩ := h.2.1 m hm
  obtain ⟨o1, o2, o3, o4, o5⟩ := ho.2.2.1 m hm
  unfold rT vT
  rw [e4, nI_ltI (by omega) (by decide)]
  omega
theorem rO_iff {S : GS} {b m : Nat} {V : VR} (h : HC S b V) (ho : Ok V) (hm : m < V 0 0) : rO S b m ↔ ¬ vG V m ∧ ¬ vT V m := by
  unfold rO
  rw [rG_iff h ho hm, rT_iff h ho hm]
theorem rC_iff {S : GS} {b k m : Nat} {V : VR} (h : HC S b V) (ho : Ok V) (hk : k < V 0 1) (hm : m < V 0 0) : rC S b k m ↔ vC V k m := by
  obtain ⟨e1, e2, e3⟩ := h.2.2 k hk
  obtain ⟨o1, o2, o3⟩ := ho.2.2.2 k hk
  unfold rC vC
  rw [rO_iff h ho hm, e2, nI_le0 (by omega)]
  constructor
  · rintro ⟨a, b⟩
    exact ⟨by omega, b⟩
  · rintro ⟨a, b⟩
    exact ⟨by omega, b⟩
theorem mG_iff {S : GS} {r m : Nat} {V : VR} (h : HW (S.1 179) r V) (ho : Ok V) (hm : m < V 0 0) : mG S r m ↔ vG V m := by
  obtain ⟨e1, e2, e3, e4⟩ := h.2.1 m hm
  obtain ⟨o1, o2, o3, o4, o5⟩ := ho.2.2.1 m hm
  unfold mG vG
  rw [e1, e3, nI_eq0 (by omega), nI_eq0 (by omega)]
theorem mT_iff {S : GS} {r m : Nat} {V : VR} (h : HW (S.1 179) r V) (ho : Ok V) (hm : m < V 0 0) : mT S r m ↔ vT V m := by
  obtain ⟨e1, e2, e3, e4⟩ := h.2.1 m hm
  obtain ⟨o1, o2, o3, o4, o5⟩ := ho.2.2.1 m hm
  unfold mT vT
  rw [e4, nI_eq (by omega) (by decide)]
  omega
theorem mC_iff {S : GS} {r k m : Nat} {V : VR} (h : HW (S.1 179) r V) (ho : Ok V) (hk : k < V 0 1) (hm : m < V 0 0) : mC S r k m ↔ vC V k m := by
  obtain ⟨e1, e2, e3⟩ := h.2.2 k hk
  obtain ⟨o1, o2, o3⟩ := ho.2.2.2 k hk
  unfold mC vC
  rw [mG_iff h ho hm, mT_iff h ho hm, e2, nI_le0 (by omega)]
  constructor
  · rintro ⟨a, b, c⟩
    exact ⟨by omega, c, b⟩
  · rintro ⟨a, b, c⟩
    exact ⟨by omega, c, b⟩
/-- what a rub leaves in a rock of the class -/
theorem cR4_rd {S : GS} {b k m : Nat} {V : VR} (h : HC S b V) (ho : Ok V) (hk : k < V 0 1) (hm : m < V 0 0) (o i : Nat) : (cR4 S b k m).1 o i = if o = b ∧ i = 3 then nI (V 0 3 + (V 6 k - rbA V k m)) else if o = b + 4 ∧ i = m then nI (rbW V k m) else if o = b + 6 ∧ i = k then nI (rbA V k m) else if o = b + 1 ∧ i = m then nI (rbD V k m) else S.1 o i := by
  obtain ⟨e1, e2, e3, e4⟩ := h.2.1 m hm
  obtain ⟨o1, o2, o3, o4, o5⟩ := ho.2.2.1 m hm
  obtain ⟨f1, f2, f3⟩ := h.2.2 k hk
  obtain ⟨p1, p2, p3⟩ := ho.2.2.2 k hk
  have w1 := wolN_in (V 5 k)
  have w2 := werN_le (kd := V 5 k) o3
  have w3 := palN_le (V 5 k) (V 6 k)
  have h3 := h.1 3 (by decide)
  have x1 : mx0 (S.1 (b + 1) m - pal (S.1 (b + 5) k) (S.1 (b + 6) k)) = nI (rbD V k m) := by
    rw [e1, f1, f2, palI p1 p2, mx0I (by omega) (by omega)]
    rfl
  have x2 : mx0 (S.1 (b + 6) k - wer (S.1 (b + 5) k) (S.1 (b + 2) m)) = nI (rbA V k m) := by
    rw [f1, f2, e2, werI p1 o3, mx0I (by omega) (by omega)]
    rfl
  have x3 : mn20 (S.1 (b + 4) m + wol (S.1 (b + 5) k)) = nI (rbW V k m) := by
    rw [e4, f1, wolI p1, nI_add, mn20I (by omega)]
    rfl
  have x4 : S.1 b 3 + (S.1 (b + 6) k - nI (rbA V k m)) = nI (V 0 3 + (V 6 k - rbA V k m)) := by
    rw [h3, f2, pk_sub (by unfold rbA; omega), nI_add]
  unfold cR4 cR3 cR2 cR1
  simp only [stI_rd]
  by_cases c0 : o = b
  · subst c0
    by_cases c1 : i = 3
    · subst c1
      simp [x1, x2, x3, x4]
    · simp [c1]
  · by_cases c4 : o = b + 4
    · subst c4
      by_cases c1 : i = m
      · subst c1
        simp [x3]
      · simp [c1]
    · by_cases c6 : o = b + 6
      · subst c6
        by_cases c1 : i = k
        · subst c1
          simp [x2]
        · simp [c1]
      · by_cases c1 : o = b + 1
        · subst c1
          by_cases c2 : i = m
          · subst c2
            simp [x1]
          · simp [c2]
        · simp [c0, c4, c6, c1]
theorem nI_iff0 {a : Nat} (h : a < 2 ^ 31) : nI a = 0 ↔ a = 0 := nI_eq0 h
theorem rb_in {V : VR} {k m : Nat} (ho : Ok V) (hm : m < V 0 0) : rbD V k m ≤ 60 ∧ rbW V k m ≤ 20 := by
  obtain ⟨o1, o2, o3, o4, o5⟩ := ho.2.2.1 m hm
  unfold rbD rbW
  omega
theorem cRub_rd {S : GS} {b k m : Nat} {V : VR} (h : HC S b V) (ho : Ok V) (hk : k < V 0 1) (hm : m < V 0 0) (o i : Nat) : (cRub S b k m).1 o i = if o = b ∧ i = 3 then nI (V 0 3 + (V 6 k - rbA V k m)) else if o = b + 4 ∧ i = m then nI (rbW V k m) else if o = b + 6 ∧ i = k then nI (rbA V k m) else if o = b + 1 ∧ i = m then nI (if rbO V k m then V 3 m else rbD V k m) else if o = b + 3 ∧ i = m then nI (if rbO V k m then 0 else V 3 m) else S.1 o i := by
  obtain ⟨e1, e2, e3, e4⟩ := h.2.1 m hm
  obtain ⟨q1, q2⟩ := rb_in (k := k) ho hm
  have d1 : (cR4 S b k m).1 (b + 1) m = nI (rbD V k m) := by rw [cR4_rd h ho hk hm]; simp
  have d4 : (cR4 S b k m).1 (b + 4) m = nI (rbW V k m) := by rw [cR4_rd h ho hk hm]; simp
  have d3 : (cR4 S b k m).1 (b + 3) m = nI (V 3 m) := by rw [cR4_rd h ho hk hm]; simp [e3]
  have hc : ((cR4 S b k m).1 (b + 1) m = 0 ∧ ¬ rT (cR4 S b k m) b m) ↔ rbO V k m := by
    unfold rT rbO
    rw [d1, d4, nI_eq0 (by omega), nI_ltI (by omega) (by decide)]
    simp
  unfold cRub
  by_cases c : rbO V k m
  · rw [if_pos (hc.mpr c), if_pos c, if_pos c]
    simp only [stI_rd, d3]
    by_cases c3 : o = b + 3
    · subst c3
      by_cases c1 : i = m
      · subst c1
        simp
      · simp [c1, cR4_rd h ho hk hm]
    · by_cases c1 : o = b + 1
      · subst c1
        by_cases c2 : i = m
        · subst c2
          simp
        · simp [c2, cR4_rd h ho hk hm]
      · simp [c3, c1, cR4_rd h ho hk hm]
  · rw [if_neg (fun z => c (hc.mp z)), if_neg c, if_neg c, cR4_rd h ho hk hm]
    by_cases c3 : o = b + 3
    · subst c3
      by_cases c1 : i = m
      · subst c1
        simp [e3]
      · simp [c1]
    · simp [c3]
theorem HC_rub {S : GS} {b k m : Nat} {V : VR} (h : HC S b V) (ho : Ok V) (hk : k < V 0 1) (hm : m < V 0 0) : HC (cRub S b k m) b (vRub V k m) := by
  have n0 : vRub V k m 0 0 = V 0 0 := by simp [vRub]
  have n1 : vRub V k m 0 1 = V 0 1 := by simp [vRub]
  refine ⟨fun i hi => ?_, fun m' hm' => ?_, fun k' hk' => ?_⟩
  · rw [cRub_rd h ho hk hm]
    by_cases c : i = 3
    · subst c
      simp [vRub]
    · simp [vRub, c, h.1 i hi]
  · rw [n0] at hm'
    obtain ⟨e1, e2, e3, e4⟩ := h.2.1 m' hm'
    refine ⟨?_, ?_, ?_, ?_⟩ <;> rw [cRub_rd h ho hk hm] <;> by_cases c : m' = m <;> simp [vRub, c, e1, e2, e3, e4] <;> (subst c; simp [e1, e2, e3, e4])
  · rw [n1] at hk'
    obtain ⟨e1, e2, e3⟩ := h.2.2 k' hk'
    refine ⟨?_, ?_, ?_⟩ <;> rw [cRub_rd h ho hk hm] <;> by_cases c : k' = k <;> simp [vRub, c, e1, e2, e3] <;> (subst c; simp [e1, e2, e3])
theorem Ok_rub {V : VR} {k m : Nat} (ho : Ok V) (hk : k < V 0 1) (hm : m < V 0 0) : Ok (vRub V k m) := by
  have n0 : vRub V k m 0 0 = V 0 0 := by simp [vRub]
  have n1 : vRub V k m 0 1 = V 0 1 := by simp [vRub]
  obtain ⟨q1, q2⟩ := rb_in (k := k) ho hm
  refine ⟨by rw [n0]; exact ho.1, by rw [n1]; exact ho.2.1, fun m' hm' => ?_, fun k' hk' => ?_⟩
  · rw [n0] at hm'
    obtain ⟨o1, o2, o3, o4, o5⟩ := ho.2.2.1 m' hm'
    obtain ⟨u1, u2, u3, u4, u5⟩ := ho.2.2.1 m hm
    refine ⟨?_, ?_, ?_, ?_, ?_⟩ <;> by_cases c : m' = m <;> simp [vRub, c] <;> first | omega | (split <;> omega) | skip
    all_goals first | omega | (subst c; omega)
  · rw [n1] at hk'
    obtain ⟨o1, o2, o3⟩ := ho.2.2.2 k' hk'
    rw [n0]
    refine ⟨?_, ?_, ?_⟩ <;> by_cases c : k' = k <;> simp [vRub, c] <;> first | omega | (unfold rbA; omega) | skip
    all_goals first | omega | (subst c; first | omega | (unfold rbA; omega))
