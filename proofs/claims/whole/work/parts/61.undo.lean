def HK (S : GS) (kb rb : Nat) (U : Nat → VR) (nu : Nat) : Prop := nu ≤ 8 ∧ ∃ od, od < 8 ∧ S.1 kb 1 = nI od ∧ S.1 kb 2 = nI nu ∧ ∀ j, j < nu → HC S (rb + 8 * ((od + j) % 8)) (U j)
def pushU (U : Nat → VR) (nu : Nat) (V : VR) : Nat → VR := fun j => if nu < 8 then (if j = nu then V else U j) else (if j = 7 then V else U (j + 1))
def pushN (nu : Nat) : Nat := if nu < 8 then nu + 1 else 8
theorem pushN_in (nu : Nat) (h : nu ≤ 8) : pushN nu ≤ 8 ∧ 0 < pushN nu := by unfold pushN; split <;> omega
def SF (U V : VR) : Prop := U 0 0 = V 0 0 ∧ U 0 1 = V 0 1 ∧ (∀ m, m < V 0 0 → U 2 m = V 2 m) ∧ (∀ k, k < V 0 1 → U 5 k = V 5 k)
theorem SF.rf {V : VR} : SF V V := ⟨rfl, rfl, fun _ _ => rfl, fun _ _ => rfl⟩
theorem SF.tr {U V W : VR} (h : SF U V) (h2 : SF V W) : SF U W := ⟨h.1.trans h2.1, h.2.1.trans h2.2.1, fun m hm => (h.2.2.1 m (by rw [h2.1]; exact hm)).trans (h2.2.2.1 m hm), fun k hk => (h.2.2.2 k (by rw [h2.2.1]; exact hk)).trans (h2.2.2.2 k hk)⟩
theorem SF.sy {U V : VR} (h : SF U V) : SF V U := ⟨h.1.symm, h.2.1.symm, fun m hm => (h.2.2.1 m (by rw [← h.1]; exact hm)).symm, fun k hk => (h.2.2.2 k (by rw [← h.2.1]; exact hk)).symm⟩
/-- what may come back: as many marks and monks as now, of the same kinds; sound; the days -/
def OkU (U : Nat → VR) (nu : Nat) (V : VR) : Prop := ∀ j, j < nu → Ok (U j) ∧ SF (U j) V ∧ U j 0 2 ≤ 9999 ∧ U j 0 4 < 2 ^ 31
theorem OkU_push {U : Nat → VR} {nu : Nat} {V W : VR} (hn : nu ≤ 8) (h : OkU U nu V) (ho : Ok V) (hd : V 0 2 ≤ 9999) (hr : V 0 4 < 2 ^ 31) (hs : SF V W) : OkU (pushU U nu V) (pushN nu) W := by
  intro j hj
  unfold pushN at hj
  unfold pushU
  by_cases c : nu < 8
  · rw [if_pos c] at hj ⊢
    by_cases d : j = nu
    · rw [if_pos d]
      exact ⟨ho, hs, hd, hr⟩
    · rw [if_neg d]
      obtain ⟨a, b, e, f⟩ := h j (by omega)
      exact ⟨a, b.tr hs, e, f⟩
  · rw [if_neg c] at hj ⊢
    by_cases d : j = 7
    · rw [if_pos d]
      exact ⟨ho, hs, hd, hr⟩
    · rw [if_neg d]
      obtain ⟨a, b, e, f⟩ := h (j + 1) (by omega)
      exact ⟨a, b.tr hs, e, f⟩
theorem HK_keep {S : GS} {U : Nat → VR} {nu od : Nat} {V : VR} (hod : od < 8) (hn : nu ≤ 8) (h1 : S.1 22 1 = nI od) (h2 : S.1 22 2 = nI nu) (h3 : ∀ j, j < nu → HC S (50 + 8 * ((od + j) % 8)) (U j)) (h : HC S 26 V) (ho : Ok V) : HK (cKp S od nu) 22 50 (pushU U nu V) (pushN nu) := by
  have hd : dis (cKr od nu) 26 := Or.inl (by have := cKr_in od nu; omega)
  have hb : HC (cBec S (cKr od nu) 26) (cKr od nu) V := HC_bec hd h ho
  have hj : ∀ j, j < nu → (od + j) % 8 ≠ (od + nu) % 8 → HC (cBec S (cKr od nu) 26) (50 + 8 * ((od + j) % 8)) (U j) := fun j hj hne => HC_fr (h3 j hj) cBec_fr (fun o q1 q2 q3 => by unfold cKr at q3; omega)
  by_cases c : nu < 8
  · rw [cKp_y c]
    unfold pushN pushU
    rw [if_pos c]
    refine ⟨by omega, od, hod, ?_, ?_, fun j q => ?_⟩
    · rw [stI_ni (by decide), cBec_22, h1]
    · rw [stI_me]
    · simp only [if_pos c]
      by_cases d : j = nu
      · rw [if_pos d, d]
        exact HC_of hb (fun o q1 q2 => stI_no (by omega))
      · rw [if_neg d]
        exact HC_of (hj j (by omega) (by omega)) (fun o q1 q2 => stI_no (by omega))
  · have e8 : nu = 8 := by omega
    subst e8
    rw [cKp_n c]
    unfold pushN pushU
    rw [if_neg c]
    refine ⟨by omega, (od + 1) % 8, Nat.mod_lt _ (by decide), ?_, ?_, fun j q => ?_⟩
    · rw [stI_me]
    · rw [stI_ni (by decide), cBec_22, h2]
    · simp only [if_neg c]
      by_cases d : j = 7
      · rw [if_pos d, d]
        have e : 50 + 8 * (((od + 1) % 8 + 7) % 8) = cKr od 8 := by unfold cKr; omega
        rw [e]
        exact HC_of hb (fun o q1 q2 => stI_no (by have := cKr_in od 8; omega))
      · rw [if_neg d]
        have e : 50 + 8 * (((od + 1) % 8 + j) % 8) = 50 + 8 * ((od + (j + 1)) % 8) := by omega
        rw [e]
        exact HC_of (hj (j + 1) (by omega) (by omega)) (fun o q1 q2 => stI_no (by omega))
theorem cKp_fr {S : GS} {od nu : Nat} : Fr (fun o => o = 22 ∨ (50 ≤ o ∧ o < 114)) S (cKp S od nu) := by
  have f : Fr (fun o => o = 22 ∨ (50 ≤ o ∧ o < 114)) S (cBec S (cKr od nu) 26) := cBec_fr.mono (fun o h => Or.inr (by have := cKr_in od nu; omega))
  unfold cKp
  split
  · exact f.tr (Fr.I (Or.inl rfl))
  · exact f.tr (Fr.I (Or.inl rfl))
/-! the model's store of what may come back -/
def HS (w : Nat → Int32) (p : Nat) (V : VR) : Prop := (w (p + 0) = nI (V 0 2) ∧ w (p + 1) = nI (V 0 4) ∧ w (p + 2) = nI (V 0 3)) ∧ (∀ m, m < V 0 0 → w (p + 3 + m) = nI (V 1 m) ∧ w (p + 9 + m) = nI (V 3 m) ∧ w (p + 15 + m) = nI (V 4 m)) ∧ (∀ k, k < V 0 1 → w (p + 21 + k) = nI (V 6 k) ∧ w (p + 26 + k) = sI (V 7 k))
def HU (w : Nat → Int32) (r : Nat) (U : Nat → VR) (nu : Nat) : Prop := nu ≤ 8 ∧ w (r + 44) = nI nu ∧ ∀ j, j < nu → HS w (r + 45 + 31 * j) (U j)
theorem HS_of {w w' : Nat → Int32} {p q : Nat} {V : VR} (h : HS w p V) (ho : Ok V) (e : ∀ i, i < 31 → w' (q + i) = w (p + i)) : HS w' q V := by
  have a1 := ho.1
  have a2 := ho.2.1
  refine ⟨?_, fun m hm => ?_, fun k hk => ?_⟩
  · rw [e 0 (by decide), e 1 (by decide), e 2 (by decide)]
    exact h.1
  · simp only [Nat.add_assoc]
    rw [e (3 + m) (by omega), e (9 + m) (by omega), e (15 + m) (by omega)]
    simpa only [Nat.add_assoc] using h.2.1 m hm
  · simp only [Nat.add_assoc]
    rw [e (21 + k) (by omega), e (26 + k) (by omega)]
    simpa only [Nat.add_assoc] using h.2.2 k hk
theorem HS_now {w w' : Nat → Int32} {r q : Nat} {V : VR} (h : HW w r V) (ho : Ok V) (e : ∀ i, i < 31 → w' (q + i) = w (r + 2 + i)) : HS w' q V := by
  have a1 := ho.1
  have a2 := ho.2.1
  refine ⟨?_, fun m hm => ?_, fun k hk => ?_⟩
  · rw [e 0 (by decide), e 1 (by decide), e 2 (by decide)]
    exact ⟨h.1.2.2.1, h.1.2.2.2.1, h.1.2.2.2.2⟩
  · have q1 := h.2.1 m hm
    simp only [Nat.add_assoc] at q1 ⊢
    rw [e (3 + m) (by omega), e (9 + m) (by omega), e (15 + m) (by omega)]
    simp only [Nat.add_assoc, show 2 + (3 + m) = 5 + m by omega, show 2 + (9 + m) = 11 + m by omega, show 2 + (15 + m) = 17 + m by omega]
    exact ⟨q1.1, q1.2.2.1, q1.2.2.2⟩
  · have q1 := h.2.2 k hk
    simp only [Nat.add_assoc] at q1 ⊢
    rw [e (21 + k) (by omega), e (26 + k) (by omega)]
    simp only [Nat.add_assoc, show 2 + (21 + k) = 23 + k by omega, show 2 + (26 + k) = 28 + k by omega]
    exact ⟨q1.2.1, q1.2.2⟩
theorem HW_back {w w' : Nat → Int32} {p : Nat} {U V : VR} (h : HS w p U) (hv : HW w 0 V) (ho : Ok U) (hs : SF U V) (e : ∀ i, i < 31 → w' (2 + i) = w (p + i)) (e2 : ∀ i, i < 2 ∨ (33 ≤ i ∧ i < 44) → w' i = w i) : HW w' 0 U := by
  have a1 := ho.1
  have a2 := ho.2.1
  refine ⟨?_, fun m hm => ?_, fun k hk => ?_⟩
  · refine ⟨?_, ?_, ?_, ?_, ?_⟩
    · rw [e2 _ (by omega), hv.1.1, hs.1]
    · rw [e2 _ (by omega), hv.1.2.1, hs.2.1]
    · exact (e 0 (by decide)).trans h.1.1
    · exact (e 1 (by decide)).trans h.1.2.1
    · exact (e 2 (by decide)).trans h.1.2.2
  · have q := h.2.1 m hm
    have m2 : m < V 0 0 := by rw [← hs.1]; exact hm
    have q2 := hv.2.1 m m2
    refine ⟨?_, ?_, ?_, ?_⟩
    · rw [show 0 + 5 + m = 2 + (3 + m) by omega, e (3 + m) (by omega), ← Nat.add_assoc]; exact q.1
    · rw [e2 _ (by omega), q2.2.1, hs.2.2.1 m m2]
    · rw [show 0 + 11 + m = 2 + (9 + m) by omega, e (9 + m) (by omega), ← Nat.add_assoc]; exact q.2.1
    · rw [show 0 + 17 + m = 2 + (15 + m) by omega, e (15 + m) (by omega), ← Nat.add_assoc]; exact q.2.2
  · have q := h.2.2 k hk
    have k2 : k < V 0 1 := by rw [← hs.2.1]; exact hk
    have q2 := hv.2.2 k k2
    refine ⟨?_, ?_, ?_⟩
    · rw [e2 _ (by omega), q2.1, hs.2.2.2 k k2]
    · rw [show 0 + 23 + k = 2 + (21 + k) by omega, e (21 + k) (by omega), ← Nat.add_assoc]; exact q.1
    · rw [show 0 + 28 + k = 2 + (26 + k) by omega, e (26 + k) (by omega), ← Nat.add_assoc]; exact q.2
theorem mMi_fr {S : GS} {nu : Nat} : Fr om S (mMi S nu) := by
  unfold mMi mM0
  split
  · exact ((mBr_fr.tr Fr.M).tr mBr_fr).tr Fr.M
  · exact mBr_fr.tr Fr.M
theorem mMi_lo {S : GS} {nu i : Nat} (hn : nu ≤ 8) (h : i < 44 ∨ 293 ≤ i) : (mMi S nu).1 179 i = S.1 179 i := by
  by_cases c : nu = 8
  · subst c
    rw [mMi_8, stI_ni (by omega), mBr_far (by omega), stI_ni (by omega), mBr_far (by omega)]
  · rw [mMi_n c, stI_ni (by omega), mBr_far (by omega)]
theorem HU_minds {S : GS} {U : Nat → VR} {nu : Nat} {V : VR} (h : HU (S.1 179) 0 U nu) (hu : OkU U nu V) (hv : HW (S.1 179) 0 V) (ho : Ok V) : HU ((mMi S nu).1 179) 0 (pushU U nu V) (pushN nu) := by
  obtain ⟨h8, h1, h2⟩ := h
  by_cases c : nu = 8
  · subst c
    rw [mMi_8]
    refine ⟨by unfold pushN; rw [if_neg (by decide)]; exact Nat.le_refl _, ?_, fun j hj => ?_⟩
    · exact stI_me _ _ _ _
    · have hj : j < 8 := hj
      unfold pushU
      rw [if_neg (by decide)]
      by_cases d : j = 7
      · subst d
        rw [if_pos rfl]
        refine HS_now (r := 0) hv ho (fun i hi => ?_)
        rw [stI_ni (by omega), show 0 + 45 + 31 * 7 + i = 45 + 31 * 7 + i by omega, mBr_in (by omega) hi, stI_ni (by omega), mBr_far (by omega), Nat.zero_add]
      · rw [if_neg d]
        refine HS_of (h2 (j + 1) (by omega)) (hu (j + 1) (by omega)).1 (fun i hi => ?_)
        rw [stI_ni (by omega), mBr_far (by omega), stI_ni (by omega), show 0 + 45 + 31 * j + i = 45 + (31 * j + i) by omega, mBr_in (by omega) (by omega), show 76 + (31 * j + i) = 0 + 45 + 31 * (j + 1) + i by omega]
  · rw [mMi_n c]
    have c8 : nu < 8 := by omega
    unfold pushU pushN
    rw [if_pos c8]
    refine ⟨by omega, stI_me _ _ _ _, fun j hj => ?_⟩
    simp only [if_pos c8]
    by_cases d : j = nu
    · rw [if_pos d, d]
      refine HS_now (r := 0) hv ho (fun i hi => ?_)
      rw [stI_ni (by omega), show 0 + 45 + 31 * nu + i = 45 + 31 * nu + i by omega, mBr_in (by omega) hi, Nat.zero_add]
    · rw [if_neg d]
      refine HS_of (h2 j (by omega)) (hu j (by omega)).1 (fun i hi => ?_)
      rw [stI_ni (by omega), mBr_far (by omega)]
