/-- nothing but the objects of P has changed -/
def Fr (P : Nat → Prop) (S T : GS) : Prop := (∀ o, ¬ P o → T.1 o = S.1 o) ∧ T.2 = S.2
theorem Fr.rf {P : Nat → Prop} {S : GS} : Fr P S S := ⟨fun _ _ => rfl, rfl⟩
theorem Fr.tr {P : Nat → Prop} {S T U : GS} (h : Fr P S T) (h2 : Fr P T U) : Fr P S U := ⟨fun o q => (h2.1 o q).trans (h.1 o q), h2.2.trans h.2⟩
theorem Fr.mono {P Q : Nat → Prop} {S T : GS} (h : Fr P S T) (hp : ∀ o, P o → Q o) : Fr Q S T := ⟨fun o q => h.1 o (fun z => q (hp o z)), h.2⟩
theorem Fr.I {P : Nat → Prop} {S : GS} {o i : Nat} {v : Int32} (h : P o) : Fr P S (stI S o i v) := ⟨fun o' q => stI_no (fun e => q (e ▸ h)), rfl⟩
theorem Fr.A {P : Nat → Prop} {S : GS} {o : Nat} {f : Nat → Int32} (h : P o) : Fr P S (stA S o f) := ⟨fun o' q => by rw [stA_rd]; exact if_neg (fun e => q (by rw [e]; exact h)), rfl⟩
theorem foldN_fr {P : Nat → Prop} {f : Nat → GS → GS} (h : ∀ i S, Fr P S (f i S)) : ∀ (n i : Nat) (S : GS), Fr P S (foldN f n i S) := by
  intro n
  induction n with
  | zero => intro i S; exact Fr.rf
  | succ n ih => intro i S; exact (h i S).tr (ih (i + 1) (f i S))
abbrev rk (b : Nat) : Nat → Prop := fun o => b ≤ o ∧ o < b + 8
theorem cR4_fr {S : GS} {b k m : Nat} : Fr (rk b) S (cR4 S b k m) := by
  unfold cR4 cR3 cR2 cR1
  exact (((Fr.I ⟨by omega, by omega⟩).tr (Fr.I ⟨by omega, by omega⟩)).tr (Fr.I ⟨by omega, by omega⟩)).tr (Fr.I ⟨by omega, by omega⟩)
theorem cRub_fr {S : GS} {b k m : Nat} : Fr (rk b) S (cRub S b k m) := by
  unfold cRub
  split
  · exact (cR4_fr.tr (Fr.I ⟨by omega, by omega⟩)).tr (Fr.I ⟨by omega, by omega⟩)
  · exact cR4_fr
theorem cP1_fr {S : GS} {b k : Nat} {ill : Int32} : Fr (rk b) S (cP1 b ill k S) := by
  unfold cP1
  split
  · exact cRub_fr
  · exact Fr.rf
theorem cPD_fr {S : GS} {b nk : Nat} {ill : Int32} : Fr (rk b) S (cPD S b ill nk) := by
  unfold cPD
  exact (foldN_fr (fun i S => cP1_fr) nk 0 S).tr (Fr.I ⟨by omega, by omega⟩)
theorem cRT_fr {b k m : Nat} : ∀ (n : Nat) (S : GS), Fr (rk b) S (cRT b k m n S) := by
  intro n
  induction n with
  | zero => intro S; exact Fr.rf
  | succ n ih =>
    intro S
    unfold cRT
    split
    · exact cRub_fr.tr (ih _)
    · exact Fr.rf
abbrev om (o : Nat) : Prop := o = 179
theorem Fr.M {S : GS} {i : Nat} {v : Int32} : Fr om S (stI S 179 i v) := ⟨fun o' q => stI_no q, rfl⟩
theorem mRub_fr {S : GS} {r k m : Nat} : Fr om S (mRub S r k m) := by
  have e4 : Fr om S (mR4 S r k m) := by
    unfold mR4 mR3 mR2 mR1
    exact ((Fr.M.tr Fr.M).tr Fr.M).tr Fr.M
  unfold mRub
  split
  · exact (e4.tr Fr.M).tr Fr.M
  · exact e4
theorem mP1_fr {S : GS} {r k : Nat} {ill : Int32} : Fr om S (mP1 r ill k S) := by
  unfold mP1
  split
  · exact mRub_fr
  · exact Fr.rf
theorem mPs_fr {S : GS} {r nk : Nat} {ill : Int32} : Fr om S (mPs S r ill nk) := by
  unfold mPs
  exact (foldN_fr (fun i S => mP1_fr) nk 0 S).tr Fr.M
theorem mBr_fr {S : GS} {fr to n : Nat} : Fr om S (mBr S fr to n) := foldN_fr (fun i S => (Fr.M : Fr om S (mB1 fr to i S))) n 0 S
/-- a rock is read off its own eight objects alone -/
theorem HC_of {S T : GS} {b : Nat} {V : VR} (h : HC S b V) (e : ∀ o, b ≤ o → o < b + 8 → T.1 o = S.1 o) : HC T b V := by
  have e0 := e b (by omega) (by omega)
  have e1 := e (b + 1) (by omega) (by omega)
  have e2 := e (b + 2) (by omega) (by omega)
  have e3 := e (b + 3) (by omega) (by omega)
  have e4 := e (b + 4) (by omega) (by omega)
  have e5 := e (b + 5) (by omega) (by omega)
  have e6 := e (b + 6) (by omega) (by omega)
  have e7 := e (b + 7) (by omega) (by omega)
  unfold HC
  rw [e0, e1, e2, e3, e4, e5, e6, e7]
  exact h
theorem HC_fr {P : Nat → Prop} {S T : GS} {b : Nat} {V : VR} (h : HC S b V) (f : Fr P S T) (hp : ∀ o, b ≤ o → o < b + 8 → ¬ P o) : HC T b V := HC_of h (fun o h1 h2 => f.1 o (hp o h1 h2))
/-! a day -/
def vP1 (ill : Int32) (k : Nat) (V : VR) : VR := if wellP ill k ∧ V 7 k ≠ 0 ∧ vC V k (V 7 k - 1) then vRub V k (V 7 k - 1) else V
def vDay (V : VR) : VR := fun f i => if f = 0 ∧ i = 2 then V 0 2 + 1 else V f i
def vPD (V : VR) (ill : Int32) : VR := vDay (foldN (vP1 ill) (V 0 1) 0 V)
theorem vRub_hd {V : VR} {k m i : Nat} (h : i ≠ 3) : vRub V k m 0 i = V 0 i := by simp [vRub, h]
theorem vRub_7 {V : VR} {k m : Nat} : vRub V k m 7 = V 7 := by funext i; simp [vRub]
theorem vP1_hd {V : VR} {k i : Nat} {ill : Int32} (h : i ≠ 3) : vP1 ill k V 0 i = V 0 i := by
  unfold vP1
  split
  · exact vRub_hd h
  · rfl
theorem sI_neg {s : Nat} (h : s < 2 ^ 31) : sI s < 0 ↔ s = 0 := by
  unfold sI
  by_cases c : s = 0
  · rw [if_pos c]
    exact ⟨fun _ => c, fun _ => by decide⟩
  · rw [if_neg c]
    exact ⟨fun q => absurd q (nI_pos (by omega)), fun q => absurd q c⟩
theorem sI_m4 {s : Nat} (h : s < 2 ^ 31) : sI s = -4 ↔ s = 0 := by
  unfold sI
  by_cases c : s = 0
  · rw [if_pos c]
    exact ⟨fun _ => c, fun _ => rfl⟩
  · rw [if_neg c]
    refine ⟨fun q => ?_, fun q => absurd q c⟩
    have := nI_pos (n := s - 1) (by omega)
    rw [q] at this
    exact absurd (by decide) this
theorem sI_cl {s : Nat} (h : s < 2 ^ 31) (h0 : s ≠ 0) : (sI s).toNatClampNeg = s - 1 := by
  unfold sI
  rw [if_neg h0, nI_clamp (by omega)]
theorem HC_sOk {S : GS} {b : Nat} {V : VR} (h : HC S b V) (ho : Ok V) : sOk S b (V 0 1) := by
  intro k hk hn
  obtain ⟨e1, e2, e3⟩ := h.2.2 k hk
  obtain ⟨o1, o2, o3⟩ := ho.2.2.2 k hk
  have h6 := ho.1
  unfold sK
  rw [e3] at hn ⊢
  rw [sI_neg (by omega)] at hn
  rw [sI_cl (by omega) hn]
  omega
theorem HC_P1 {S : GS} {b k : Nat} {V : VR} {ill : Int32} (h : HC S b V) (ho : Ok V) (hk : k < V 0 1) : HC (cP1 b ill k S) b (vP1 ill k V) ∧ Ok (vP1 ill k V) := by
  obtain ⟨e1, e2, e3⟩ := h.2.2 k hk
  obtain ⟨o1, o2, o3⟩ := ho.2.2.2 k hk
  have h6 := ho.1
  by_cases c : V 7 k = 0
  · rw [cP1_n (fun z => z.2.1 (by rw [e3, sI_neg (by omega)]; exact c))]
    unfold vP1
    rw [if_neg (fun z => z.2.1 c)]
    exact ⟨h, ho⟩
  · have hs : sK S b k = V 7 k - 1 := by
      unfold sK
      rw [e3, sI_cl (by omega) c]
    have hm : V 7 k - 1 < V 0 0 := by omega
    have hi := rC_iff h ho hk hm
    by_cases d : wellP ill k ∧ vC V k (V 7 k - 1)
    · rw [cP1_y ⟨d.1, by rw [e3, sI_neg (by omega)]; exact c, by rw [hs]; exact hi.mpr d.2⟩, hs]
      unfold vP1
      rw [if_pos ⟨d.1, c, d.2⟩]
      exact ⟨HC_rub h ho hk hm, Ok_rub ho hk hm⟩
    · rw [cP1_n (fun z => d ⟨z.1, hi.mp (by have := z.2.2; rw [hs] at this; exact this)⟩)]
      unfold vP1
      rw [if_neg (fun z => d ⟨z.1, z.2.2⟩)]
      exact ⟨h, ho⟩
theorem HC_fold {b : Nat} {ill : Int32} : ∀ (n i : Nat) (S : GS) (V : VR), HC S b V → Ok V → i + n ≤ V 0 1 → HC (foldN (cP1 b ill) n i S) b (foldN (vP1 ill) n i V) ∧ Ok (foldN (vP1 ill) n i V) ∧ ∀ j, j ≠ 3 → foldN (vP1 ill) n i V 0 j = V 0 j := by
  intro n
  induction n with
  | zero => intro i S V h ho _; exact ⟨h, ho, fun _ _ => rfl⟩
  | succ n ih =>
    intro i S V h ho hi
    obtain ⟨h1, h2⟩ := HC_P1 (ill := ill) (k := i) h ho (by omega)
    obtain ⟨a1, a2, a3⟩ := ih (i + 1) _ _ h1 h2 (by rw [vP1_hd (by decide)]; omega)
    exact ⟨a1, a2, fun j hj => (a3 j hj).trans (vP1_hd hj)⟩
theorem vDay_hd {V : VR} {i : Nat} (h : i ≠ 2) : vDay V 0 i = V 0 i := by simp [vDay, h]
theorem Ok_day {V : VR} (ho : Ok V) : Ok (vDay V) := by
  have e : ∀ f i, f ≠ 0 → vDay V f i = V f i := fun f i h => by simp [vDay, h]
  unfold Ok
  rw [vDay_hd (by decide), vDay_hd (by decide)]
  simp only [e 1 _ (by decide), e 2 _ (by decide), e 3 _ (by decide), e 4 _ (by decide), e 5 _ (by decide), e 6 _ (by decide), e 7 _ (by decide)]
  exact ho
theorem vPD_hd {V : VR} {ill : Int32} {i : Nat} (h : i ≠ 2) (h3 : i ≠ 3) : vPD V ill 0 i = V 0 i := by
  unfold vPD
  rw [vDay_hd h]
  have : ∀ (n j : Nat) (V : VR), foldN (vP1 ill) n j V 0 i = V 0 i := by
    intro n
    induction n with
    | zero => intro j V; rfl
    | succ n ih => intro j V; exact (ih (j + 1) _).trans (vP1_hd h3)
  exact this _ _ _
theorem HC_day {S : GS} {b : Nat} {V : VR} (h : HC S b V) : HC (stI S b 2 (S.1 b 2 + nI 1)) b (vDay V) := by
  have e2 := h.1 2 (by decide)
  refine ⟨fun i hi => ?_, fun m hm => ?_, fun k hk => ?_⟩
  · rw [stI_rd, if_pos rfl]
    by_cases c : i = 2
    · subst c
      rw [if_pos rfl, e2, nI_add]
      simp [vDay]
    · rw [if_neg c, h.1 i hi, vDay_hd c]
  · rw [vDay_hd (by decide)] at hm
    rw [stI_no (by omega), stI_no (by omega), stI_no (by omega), stI_no (by omega)]
    simpa [vDay] using h.2.1 m hm
  · rw [vDay_hd (by decide)] at hk
    rw [stI_no (by omega), stI_no (by omega), stI_no (by omega)]
    simpa [vDay] using h.2.2 k hk
theorem HC_PD {S : GS} {b : Nat} {V : VR} {ill : Int32} (h : HC S b V) (ho : Ok V) : HC (cPD S b ill (V 0 1)) b (vPD V ill) ∧ Ok (vPD V ill) := by
  obtain ⟨a1, a2, a3⟩ := HC_fold (b := b) (ill := ill) (V 0 1) 0 S V h ho (by omega)
  exact ⟨HC_day a1, Ok_day a2⟩
