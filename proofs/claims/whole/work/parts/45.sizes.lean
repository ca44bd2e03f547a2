def vs (V : VR) (f i v : Nat) : VR := fun f' i' => if f' = f ∧ i' = i then v else V f' i'
theorem vs_me {V : VR} {f i v : Nat} : vs V f i v f i = v := if_pos ⟨rfl, rfl⟩
theorem vs_no {V : VR} {f i v f' i' : Nat} (h : ¬ (f' = f ∧ i' = i)) : vs V f i v f' i' = V f' i' := if_neg h
def sml (k m : Nat) : Nat → Nat → VR → Int32
  | 0, _, _ => -4
  | n + 1, s, V => if vG (vRT k m 60 (vs V 6 k s)) m then nI s else sml k m n (s + 1) V
theorem sml_n {k m n s : Nat} {V : VR} (h : ¬ vG (vRT k m 60 (vs V 6 k s)) m) : sml k m (n + 1) s V = sml k m n (s + 1) V := if_neg h
theorem sml_y {k m n s : Nat} {V : VR} (h : vG (vRT k m 60 (vs V 6 k s)) m) : sml k m (n + 1) s V = nI s := if_pos h
def aSmall (V : VR) (x y : Int32) : Int32 := if inR x (V 0 1) ∧ inR y (V 0 0) then sml x.toNatClampNeg y.toNatClampNeg 100 0 V else -1
theorem aSmall_y {V : VR} {k m : Nat} (hk : k < V 0 1) (hm : m < V 0 0) (h5 : V 0 1 ≤ 5) (h6 : V 0 0 ≤ 6) : aSmall V (nI k) (nI m) = sml k m 100 0 V := by
  unfold aSmall
  rw [if_pos ⟨inR_nI hk (by omega), inR_nI hm (by omega)⟩, nI_clamp (by omega), nI_clamp (by omega)]
theorem aSmall_n {V : VR} {x y : Int32} (h : ¬ (inR x (V 0 1) ∧ inR y (V 0 0))) : aSmall V x y = -1 := if_neg h
theorem Ok_size {V : VR} {k s : Nat} (ho : Ok V) (hs : s ≤ 99) : Ok (vs V 6 k s) := by
  have e : ∀ f i, f ≠ 6 → vs V 6 k s f i = V f i := fun f i hf => vs_no (fun z => hf z.1)
  refine ⟨by rw [e _ _ (by decide)]; exact ho.1, by rw [e _ _ (by decide)]; exact ho.2.1, fun m hm => ?_, fun j hj => ?_⟩
  · rw [e _ _ (by decide)] at hm
    rw [e _ _ (by decide), e _ _ (by decide), e _ _ (by decide), e _ _ (by decide)]
    exact ho.2.2.1 m hm
  · rw [e _ _ (by decide)] at hj
    rw [e 5 j (by decide), e 7 j (by decide), e 0 0 (by decide)]
    have q := ho.2.2.2 j hj
    by_cases c : j = k
    · subst c
      rw [vs_me]
      exact ⟨q.1, hs, q.2.2⟩
    · rw [vs_no (fun z => c z.2)]
      exact q
theorem HC_size {S : GS} {b k s : Nat} {V : VR} (h : HC S b V) : HC (stI S (b + 6) k (nI s)) b (vs V 6 k s) := by
  have e : ∀ f i, f ≠ 6 → vs V 6 k s f i = V f i := fun f i hf => vs_no (fun z => hf z.1)
  refine ⟨fun i hi => ?_, fun m hm => ?_, fun j hj => ?_⟩
  · rw [stI_no (by omega), e _ _ (by decide)]
    exact h.1 i hi
  · rw [e _ _ (by decide)] at hm
    rw [stI_no (by omega), stI_no (by omega), stI_no (by omega), stI_no (by omega), e _ _ (by decide), e _ _ (by decide), e _ _ (by decide), e _ _ (by decide)]
    exact h.2.1 m hm
  · rw [e _ _ (by decide)] at hj
    rw [stI_no (o' := b + 5) (by omega), stI_no (o' := b + 7) (by omega), e 5 j (by decide), e 7 j (by decide)]
    have q := h.2.2 j hj
    by_cases c : j = k
    · subst c
      rw [stI_me, vs_me]
      exact ⟨q.1, rfl, q.2.2⟩
    · rw [stI_ni c, vs_no (fun z => c z.2)]
      exact q
theorem HW_size {S : GS} {r k s : Nat} {V : VR} (hk : k < 5) (h : HW (S.1 179) r V) (ho : Ok V) : HW ((stI S 179 (r + 23 + k) (nI s)).1 179) r (vs V 6 k s) := by
  have a1 := ho.1
  have a2 := ho.2.1
  have e : ∀ f i, f ≠ 6 → vs V 6 k s f i = V f i := fun f i hf => vs_no (fun z => hf z.1)
  refine ⟨?_, fun m hm => ?_, fun j hj => ?_⟩
  · rw [stI_ni (by omega), stI_ni (by omega), stI_ni (by omega), stI_ni (by omega), stI_ni (by omega), e _ _ (by decide), e _ _ (by decide), e _ _ (by decide), e _ _ (by decide), e _ _ (by decide)]
    exact h.1
  · rw [e _ _ (by decide)] at hm
    rw [stI_ni (by omega), stI_ni (by omega), stI_ni (by omega), stI_ni (by omega), e _ _ (by decide), e _ _ (by decide), e _ _ (by decide), e _ _ (by decide)]
    exact h.2.1 m hm
  · rw [e _ _ (by decide)] at hj
    rw [stI_ni (i' := r + 39 + j) (by omega), stI_ni (i' := r + 28 + j) (by omega), e 5 j (by decide), e 7 j (by decide)]
    have q := h.2.2 j hj
    by_cases c : j = k
    · subst c
      rw [stI_me, vs_me]
      exact ⟨q.1, rfl, q.2.2⟩
    · rw [stI_ni (by omega), vs_no (fun z => c z.2)]
      exact q
/-- alike but for the crumbs -/
def E3 (U V : VR) : Prop := ∀ f i, ¬ (f = 0 ∧ i = 3) → U f i = V f i
theorem E3_rub {U V : VR} {k m : Nat} (h : E3 U V) : E3 (vRub U k m) (vRub V k m) := by
  have h1 := h 1 m (by omega)
  have h3 := h 3 m (by omega)
  have h4 := h 4 m (by omega)
  have h2 := h 2 m (by omega)
  have h5 := h 5 k (by omega)
  have h6 := h 6 k (by omega)
  have d : rbD U k m = rbD V k m := by unfold rbD; rw [h1, h5, h6]
  have a : rbA U k m = rbA V k m := by unfold rbA; rw [h2, h5, h6]
  have w : rbW U k m = rbW V k m := by unfold rbW; rw [h4, h5]
  intro f i hf
  unfold vRub rbO
  rw [d, a, w, h3, if_neg hf, if_neg hf, h f i hf]
theorem E3_C {U V : VR} {k m : Nat} (h : E3 U V) : vC U k m ↔ vC V k m := by
  unfold vC vG vT
  rw [h 6 k (by omega), h 1 m (by omega), h 3 m (by omega), h 4 m (by omega)]
theorem E3_RT {k m : Nat} : ∀ (n : Nat) (U V : VR), E3 U V → E3 (vRT k m n U) (vRT k m n V) := by
  intro n
  induction n with
  | zero => intro U V h; exact h
  | succ n ih =>
    intro U V h
    unfold vRT
    by_cases c : vC V k m
    · rw [if_pos c, if_pos ((E3_C h).mpr c)]
      exact ih _ _ (E3_rub h)
    · rw [if_neg c, if_neg (fun z => c ((E3_C h).mp z))]
      exact h
/-- the trial of 'small': as the rock, but for one size and the crumbs -/
def Ex (U V : VR) (k : Nat) : Prop := ∀ f i, ¬ (f = 0 ∧ i = 3) → ¬ (f = 6 ∧ i = k) → U f i = V f i
theorem Ex_E3 {U V : VR} {k s : Nat} (h : Ex U V k) : E3 (vs U 6 k s) (vs V 6 k s) := by
  intro f i hf
  by_cases c : f = 6 ∧ i = k
  · obtain ⟨rfl, rfl⟩ := c
    rw [vs_me, vs_me]
  · rw [vs_no c, vs_no c]
    exact h f i hf c
theorem cMI_fr {S : GS} {b o m : Nat} : Fr (rk b) S (cMI S b o m) := by
  unfold cMI cM1
  exact (((Fr.I ⟨by omega, by omega⟩).tr (Fr.I ⟨by omega, by omega⟩)).tr (Fr.I ⟨by omega, by omega⟩)).tr (Fr.I ⟨by omega, by omega⟩)
/-- the rock W with mark m as V has it -/
def vMI (W V : VR) (m : Nat) : VR := fun f i => if (1 ≤ f ∧ f ≤ 4) ∧ i = m then V f i else W f i
theorem stI_ii {S : GS} {o i q i' : Nat} {v : Int32} (h : i' ≠ i) : (stI S o i v).1 q i' = S.1 q i' := by
  by_cases c : q = o
  · subst c
    exact stI_ni h
  · rw [stI_no c]
theorem HC_MI {S : GS} {b o m : Nat} {W V : VR} (hd : dis b o) (h : HC S b W) (h2 : HC S o V) (hm : m < V 0 0) : HC (cMI S b o m) b (vMI W V m) := by
  unfold dis at hd
  have r : ∀ q i, (cMI S b o m).1 q i = if (b + 1 ≤ q ∧ q ≤ b + 4) ∧ i = m then S.1 (o + (q - b)) i else S.1 q i := by
    intro q i
    unfold cMI cM1
    by_cases c : (b + 1 ≤ q ∧ q ≤ b + 4) ∧ i = m
    · obtain ⟨⟨c1, c2⟩, rfl⟩ := c
      rw [if_pos ⟨⟨c1, c2⟩, rfl⟩]
      rcases (show q = b + 1 ∨ q = b + 2 ∨ q = b + 3 ∨ q = b + 4 by omega) with rfl | rfl | rfl | rfl
      · rw [show b + 1 - b = 1 by omega]
        simp (disch := omega) only [stI_me, stI_no]
      · rw [show b + 2 - b = 2 by omega]
        simp (disch := omega) only [stI_me, stI_no]
      · rw [show b + 3 - b = 3 by omega]
        simp (disch := omega) only [stI_me, stI_no]
      · rw [show b + 4 - b = 4 by omega]
        simp (disch := omega) only [stI_me, stI_no]
    · rw [if_neg c]
      by_cases c1 : i = m
      · rw [stI_no (by omega), stI_no (by omega), stI_no (by omega), stI_no (by omega)]
      · rw [stI_ii c1, stI_ii c1, stI_ii c1, stI_ii c1]
  have n0 : ∀ i, vMI W V m 0 i = W 0 i := fun i => if_neg (fun z => by omega)
  refine ⟨fun i hi => ?_, fun j hj => ?_, fun k hk => ?_⟩
  · rw [r, if_neg (fun z => by omega), n0]
    exact h.1 i hi
  · rw [n0] at hj
    rw [r, r, r, r]
    by_cases c : j = m
    · subst c
      rw [if_pos ⟨⟨by omega, by omega⟩, rfl⟩, if_pos ⟨⟨by omega, by omega⟩, rfl⟩, if_pos ⟨⟨by omega, by omega⟩, rfl⟩, if_pos ⟨⟨by omega, by omega⟩, rfl⟩, show b + 1 - b = 1 by omega, show b + 2 - b = 2 by omega, show b + 3 - b = 3 by omega, show b + 4 - b = 4 by omega]
      unfold vMI
      rw [if_pos ⟨⟨by omega, by omega⟩, rfl⟩, if_pos ⟨⟨by omega, by omega⟩, rfl⟩, if_pos ⟨⟨by omega, by omega⟩, rfl⟩, if_pos ⟨⟨by omega, by omega⟩, rfl⟩]
      exact h2.2.1 j hm
    · rw [if_neg (fun z => c z.2), if_neg (fun z => c z.2), if_neg (fun z => c z.2), if_neg (fun z => c z.2)]
      unfold vMI
      rw [if_neg (fun z => c z.2), if_neg (fun z => c z.2), if_neg (fun z => c z.2), if_neg (fun z => c z.2)]
      exact h.2.1 j hj
  · rw [n0] at hk
    rw [r, r, r, if_neg (fun z => by omega), if_neg (fun z => by omega), if_neg (fun z => by omega)]
    unfold vMI
    rw [if_neg (fun z => by omega), if_neg (fun z => by omega), if_neg (fun z => by omega)]
    exact h.2.2 k hk
theorem Ex_MI {U V : VR} {k m n s : Nat} (h : Ex U V k) : Ex (vMI (vRT k m n (vs U 6 k s)) V m) V k := by
  intro f i h0 h6
  unfold vMI
  by_cases c : (1 ≤ f ∧ f ≤ 4) ∧ i = m
  · rw [if_pos c]
  · rw [if_neg c, vRT_far (fun z => c ⟨by omega, z.2⟩) (fun z => c ⟨by omega, z.2⟩) (fun z => c ⟨by omega, z.2⟩) h6 h0, vs_no h6]
    exact h f i h0 h6
theorem Ok_Ex {U V : VR} {k : Nat} (ho : Ok V) (h : Ex U V k) (hs : U 6 k ≤ 99) : Ok U := by
  refine ⟨by rw [h 0 0 (by omega) (by omega)]; exact ho.1, by rw [h 0 1 (by omega) (by omega)]; exact ho.2.1, fun m hm => ?_, fun j hj => ?_⟩
  · rw [h 0 0 (by omega) (by omega)] at hm
    rw [h 1 m (by omega) (by omega), h 2 m (by omega) (by omega), h 3 m (by omega) (by omega), h 4 m (by omega) (by omega)]
    exact ho.2.2.1 m hm
  · rw [h 0 1 (by omega) (by omega)] at hj
    rw [h 5 j (by omega) (by omega), h 7 j (by omega) (by omega), h 0 0 (by omega) (by omega)]
    have q := ho.2.2.2 j hj
    by_cases c : j = k
    · subst c
      exact ⟨q.1, hs, q.2.2⟩
    · rw [h 6 j (by omega) (fun z => c z.2)]
      exact q
