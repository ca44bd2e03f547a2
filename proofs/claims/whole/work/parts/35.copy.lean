theorem stA_me {S : GS} {o : Nat} {f : Nat → Int32} : (stA S o f).1 o = f := by rw [stA_rd, if_pos rfl]
theorem stA_no {S : GS} {o o' : Nat} {f : Nat → Int32} (h : o' ≠ o) : (stA S o f).1 o' = S.1 o' := by rw [stA_rd, if_neg h]
def dis (b o : Nat) : Prop := o + 8 ≤ b ∨ b + 8 ≤ o
theorem isR_dis {b o : Nat} (hb : isR b) (ho : isR o) (h : b ≠ o) : dis b o := by
  obtain ⟨j, hj, rfl⟩ := hb
  obtain ⟨k, hk, rfl⟩ := ho
  unfold dis
  omega
theorem cBec_rd {S : GS} {b o : Nat} (h : dis b o) : (∀ i, i < 5 → (cBec S b o).1 b i = S.1 o i) ∧ (∀ f j, 1 ≤ f → f ≤ 4 → j < 6 → (cBec S b o).1 (b + f) j = S.1 (o + f) j) ∧ (∀ f j, 5 ≤ f → f ≤ 7 → j < 5 → (cBec S b o).1 (b + f) j = S.1 (o + f) j) := by
  unfold dis at h
  refine ⟨fun i hi => ?_, fun f j h1 h2 hj => ?_, fun f j h1 h2 hj => ?_⟩
  · unfold cBec cA1 cH1
    simp (disch := omega) only [stA_no]
    rcases (show i = 0 ∨ i = 1 ∨ i = 2 ∨ i = 3 ∨ i = 4 by omega) with rfl | rfl | rfl | rfl | rfl <;> simp (disch := omega) only [stI_me, stI_ni, stI_no]
  · unfold cBec cA1 cH1
    rcases (show f = 1 ∨ f = 2 ∨ f = 3 ∨ f = 4 by omega) with rfl | rfl | rfl | rfl <;> simp (disch := omega) only [stA_no, stA_me, stI_no, pk_cpy_in, Nat.zero_add, Nat.sub_zero]
  · unfold cBec cA1 cH1
    rcases (show f = 5 ∨ f = 6 ∨ f = 7 by omega) with rfl | rfl | rfl <;> simp (disch := omega) only [stA_no, stA_me, stI_no, pk_cpy_in, Nat.zero_add, Nat.sub_zero]
theorem cBec_fr {S : GS} {b o : Nat} : Fr (rk b) S (cBec S b o) := by
  unfold cBec cA1 cH1
  have i : ∀ {T : GS} {i : Nat} {v : Int32}, Fr (rk b) T (stI T b i v) := Fr.I ⟨by omega, by omega⟩
  have a : ∀ {T : GS} {f : Nat} {g : Nat → Int32}, f < 8 → Fr (rk b) T (stA T (b + f) g) := fun hf => Fr.A ⟨by omega, by omega⟩
  exact ((((((((((i.tr i).tr i).tr i).tr i).tr (a (by decide))).tr (a (by decide))).tr (a (by decide))).tr (a (by decide))).tr (a (by decide))).tr (a (by decide))).tr (a (by decide))
theorem HC_bec {S : GS} {b o : Nat} {V : VR} (hd : dis b o) (h : HC S o V) (ho : Ok V) : HC (cBec S b o) b V := by
  obtain ⟨r1, r2, r3⟩ := cBec_rd (S := S) hd
  have a1 := ho.1
  have a2 := ho.2.1
  refine ⟨fun i hi => by rw [r1 i hi]; exact h.1 i hi, fun m hm => ?_, fun k hk => ?_⟩
  · rw [r2 1 m (by decide) (by decide) (by omega), r2 2 m (by decide) (by decide) (by omega), r2 3 m (by decide) (by decide) (by omega), r2 4 m (by decide) (by decide) (by omega)]
    exact h.2.1 m hm
  · rw [r3 5 k (by decide) (by decide) (by omega), r3 6 k (by decide) (by decide) (by omega), r3 7 k (by decide) (by decide) (by omega)]
    exact h.2.2 k hk
theorem HC_keep {S : GS} {b o : Nat} {V : VR} (hd : dis b o) (h : HC S o V) : HC (cBec S b o) o V := HC_fr h cBec_fr (fun q h1 h2 h3 => by unfold dis at hd; omega)
/-! the model's copies -/
theorem mB_in {fr to N : Nat} (hc : to ≤ fr ∨ fr + N ≤ to) : ∀ (n i : Nat) (S : GS), i + n ≤ N → ∀ j, i ≤ j → j < i + n → (foldN (mB1 fr to) n i S).1 179 (to + j) = S.1 179 (fr + j) := by
  intro n
  induction n with
  | zero => intro i S _ j h1 h2; omega
  | succ n ih =>
    intro i S hi j h1 h2
    have far : ∀ (n i : Nat) (S : GS) (q : Nat), q < to + i → (foldN (mB1 fr to) n i S).1 179 q = S.1 179 q := by
      intro n
      induction n with
      | zero => intro i S q _; rfl
      | succ n ih => intro i S q hq; exact (ih (i + 1) _ q (by omega)).trans (stI_ni (by omega))
    show (foldN (mB1 fr to) n (i + 1) (mB1 fr to i S)).1 179 (to + j) = _
    by_cases c : j = i
    · subst c
      rw [far n (j + 1) _ (to + j) (by omega)]
      exact stI_me _ _ _ _
    · rw [ih (i + 1) _ (by omega) j (by omega) (by omega)]
      exact stI_ni (by omega)
theorem mBr_in {S : GS} {fr to n k : Nat} (hc : to ≤ fr ∨ fr + n ≤ to) (hk : k < n) : (mBr S fr to n).1 179 (to + k) = S.1 179 (fr + k) := mB_in hc n 0 S (by omega) k (by omega) (by omega)
theorem HW_bring {S : GS} {fr to : Nat} {V : VR} (hd : fr + 44 ≤ to ∨ to ≤ fr) (h : HW (S.1 179) fr V) (ho : Ok V) : HW ((mBr S fr to 44).1 179) to V := by
  have a1 := ho.1
  have a2 := ho.2.1
  have e : ∀ k, k < 44 → (mBr S fr to 44).1 179 (to + k) = S.1 179 (fr + k) := fun k hk => mBr_in (by omega) hk
  refine ⟨?_, fun m hm => ?_, fun k hk => ?_⟩
  · rw [e 0 (by decide), e 1 (by decide), e 2 (by decide), e 3 (by decide), e 4 (by decide)]
    exact h.1
  · simp only [Nat.add_assoc]
    rw [e (5 + m) (by omega), e (33 + m) (by omega), e (11 + m) (by omega), e (17 + m) (by omega)]
    simpa only [Nat.add_assoc] using h.2.1 m hm
  · simp only [Nat.add_assoc]
    rw [e (39 + k) (by omega), e (23 + k) (by omega), e (28 + k) (by omega)]
    simpa only [Nat.add_assoc] using h.2.2 k hk
/-! rubs again and again -/
def vRT (k m : Nat) : Nat → VR → VR
  | 0, V => V
  | n + 1, V => if vC V k m then vRT k m n (vRub V k m) else V
def vRN (k m : Nat) : Nat → VR → Nat
  | 0, _ => 0
  | n + 1, V => if vC V k m then vRN k m n (vRub V k m) + 1 else 0
theorem HC_RT {b k m : Nat} : ∀ (n : Nat) (S : GS) (V : VR), HC S b V → Ok V → k < V 0 1 → m < V 0 0 → HC (cRT b k m n S) b (vRT k m n V) ∧ Ok (vRT k m n V) ∧ cRN b k m n S = vRN k m n V ∧ ∀ i, i ≠ 3 → vRT k m n V 0 i = V 0 i := by
  intro n
  induction n with
  | zero => intro S V h ho _ _; exact ⟨h, ho, rfl, fun _ _ => rfl⟩
  | succ n ih =>
    intro S V h ho hk hm
    have hi := rC_iff h ho hk hm
    unfold cRT cRN vRT vRN
    by_cases c : vC V k m
    · rw [if_pos c, if_pos c, if_pos (hi.mpr c), if_pos (hi.mpr c)]
      obtain ⟨a1, a2, a3, a4⟩ := ih (cRub S b k m) (vRub V k m) (HC_rub h ho hk hm) (Ok_rub ho hk hm) (by rw [vRub_hd (by decide)]; exact hk) (by rw [vRub_hd (by decide)]; exact hm)
      exact ⟨a1, a2, by rw [a3], fun i hi => (a4 i hi).trans (vRub_hd hi)⟩
    · rw [if_neg c, if_neg c, if_neg (fun z => c (hi.mp z)), if_neg (fun z => c (hi.mp z))]
      exact ⟨h, ho, rfl, fun _ _ => rfl⟩
theorem vRN_le {k m : Nat} : ∀ (n : Nat) (V : VR), vRN k m n V ≤ n := by
  intro n
  induction n with
  | zero => intro V; exact Nat.le_refl _
  | succ n ih =>
    intro V
    unfold vRN
    split
    · have := ih (vRub V k m); omega
    · omega
/-! sets of marks -/
def gst (P : Nat → Prop) (D : ∀ i, Decidable (P i)) (n : Nat) : Int32 := foldN (fun i v => @ite _ (P i) (D i) (v ||| nI 1 <<< (nI i &&& 31)) v) n 0 (nI 0)
theorem foldN_congr {α : Type} {f g : Nat → α → α} : ∀ (n i : Nat) (v : α), (∀ j v, i ≤ j → j < i + n → f j v = g j v) → foldN f n i v = foldN g n i v := by
  intro n
  induction n with
  | zero => intro i v _; rfl
  | succ n ih =>
    intro i v h
    show foldN f n (i + 1) (f i v) = foldN g n (i + 1) (g i v)
    rw [h i v (by omega) (by omega)]
    exact ih (i + 1) _ (fun j v h1 h2 => h j v (by omega) (by omega))
def goneV (V : VR) : Int32 := foldN (fun i v => if vG V i then v ||| nI 1 <<< (nI i &&& 31) else v) (V 0 0) 0 (nI 0)
def tornV (V : VR) : Int32 := foldN (fun i v => if vT V i then v ||| nI 1 <<< (nI i &&& 31) else v) (V 0 0) 0 (nI 0)
theorem goneV_c {S : GS} {b : Nat} {V : VR} (h : HC S b V) (ho : Ok V) : foldN (fun i v => if rG S b i then v ||| nI 1 <<< (nI i &&& 31) else v) (V 0 0) 0 (nI 0) = goneV V := by
  refine foldN_congr _ _ _ (fun j v _ h2 => ?_)
  have hi := rG_iff h ho (m := j) (by omega)
  by_cases c : vG V j
  · rw [if_pos c, if_pos (hi.mpr c)]
  · rw [if_neg c, if_neg (fun z => c (hi.mp z))]
theorem tornV_c {S : GS} {b : Nat} {V : VR} (h : HC S b V) (ho : Ok V) : foldN (fun i v => if rT S b i then v ||| nI 1 <<< (nI i &&& 31) else v) (V 0 0) 0 (nI 0) = tornV V := by
  refine foldN_congr _ _ _ (fun j v _ h2 => ?_)
  have hi := rT_iff h ho (m := j) (by omega)
  by_cases c : vT V j
  · rw [if_pos c, if_pos (hi.mpr c)]
  · rw [if_neg c, if_neg (fun z => c (hi.mp z))]
theorem or_z (v : Int32) : v ||| nI 0 = v := by
  rw [nI0]
  exact Int32.or_zero
theorem goneV_m {S : GS} {r : Nat} {V : VR} (h : HW (S.1 179) r V) (ho : Ok V) : foldN (fun i v => v ||| (if mG S r i then nI 1 <<< (nI i &&& 31) else nI 0)) (V 0 0) 0 (nI 0) = goneV V := by
  refine foldN_congr _ _ _ (fun j v _ h2 => ?_)
  have hi := mG_iff h ho (m := j) (by omega)
  by_cases c : vG V j
  · rw [if_pos c, if_pos (hi.mpr c)]
  · rw [if_neg c, if_neg (fun z => c (hi.mp z)), or_z]
theorem tornV_m {S : GS} {r : Nat} {V : VR} (h : HW (S.1 179) r V) (ho : Ok V) : foldN (fun i v => v ||| (if mT S r i then nI 1 <<< (nI i &&& 31) else nI 0)) (V 0 0) 0 (nI 0) = tornV V := by
  refine foldN_congr _ _ _ (fun j v _ h2 => ?_)
  have hi := mT_iff h ho (m := j) (by omega)
  by_cases c : vT V j
  · rw [if_pos c, if_pos (hi.mpr c)]
  · rw [if_neg c, if_neg (fun z => c (hi.mp z)), or_z]
