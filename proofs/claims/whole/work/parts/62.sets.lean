theorem HC_set {S : GS} {b f i v : Nat} {x : Int32} {V : VR} (hf : f ≤ 7) (hx : x = if f = 7 then sI v else nI v) (h0 : f = 0 → 2 ≤ i) (h : HC S b V) : HC (stI S (b + f) i x) b (vs V f i v) := by
  have n0 : vs V f i v 0 0 = V 0 0 := vs_no (fun z => by have := h0 z.1.symm; omega)
  have n1 : vs V f i v 0 1 = V 0 1 := vs_no (fun z => by have := h0 z.1.symm; omega)
  have key : ∀ f' i', f' ≤ 7 → S.1 (b + f') i' = (if f' = 7 then sI (V f' i') else nI (V f' i')) → (stI S (b + f) i x).1 (b + f') i' = (if f' = 7 then sI (vs V f i v f' i') else nI (vs V f i v f' i')) := by
    intro f' i' hf' e
    by_cases c : f' = f ∧ i' = i
    · obtain ⟨rfl, rfl⟩ := c
      rw [stI_me, vs_me, hx]
    · rw [vs_no c, ← e]
      by_cases d : f' = f
      · subst d
        exact stI_ni (fun z => c ⟨rfl, z⟩)
      · rw [stI_no (by omega)]
  refine ⟨fun j hj => ?_, fun m hm => ?_, fun k hk => ?_⟩
  · exact key 0 j (by decide) (h.1 j hj)
  · rw [n0] at hm
    have q := h.2.1 m hm
    exact ⟨key 1 m (by decide) q.1, key 2 m (by decide) q.2.1, key 3 m (by decide) q.2.2.1, key 4 m (by decide) q.2.2.2⟩
  · rw [n1] at hk
    have q := h.2.2 k hk
    exact ⟨key 5 k (by decide) q.1, key 6 k (by decide) q.2.1, key 7 k (by decide) q.2.2⟩
/-- where the model keeps V f i in its region -/
def mo (f i : Nat) : Nat := if f = 0 then (if i = 3 then 4 else if i = 4 then 3 else i) else if f = 1 then 5 + i else if f = 2 then 33 + i else if f = 3 then 11 + i else if f = 4 then 17 + i else if f = 5 then 39 + i else if f = 6 then 23 + i else 28 + i
def inV (V : VR) (f i : Nat) : Prop := (f = 0 ∧ i < 5) ∨ ((1 ≤ f ∧ f ≤ 4) ∧ i < V 0 0) ∨ ((5 ≤ f ∧ f ≤ 7) ∧ i < V 0 1)
theorem HW_iff {w : Nat → Int32} {r : Nat} {V : VR} : HW w r V ↔ ∀ f i, inV V f i → w (r + mo f i) = (if f = 7 then sI (V f i) else nI (V f i)) := by
  constructor
  · intro h f i hi
    rcases hi with ⟨rfl, hi⟩ | ⟨⟨h1, h2⟩, hi⟩ | ⟨⟨h1, h2⟩, hi⟩
    · rcases (show i = 0 ∨ i = 1 ∨ i = 2 ∨ i = 3 ∨ i = 4 by omega) with rfl | rfl | rfl | rfl | rfl
      · exact h.1.1
      · exact h.1.2.1
      · exact h.1.2.2.1
      · exact h.1.2.2.2.2
      · exact h.1.2.2.2.1
    · have q := h.2.1 i hi
      rcases (show f = 1 ∨ f = 2 ∨ f = 3 ∨ f = 4 by omega) with rfl | rfl | rfl | rfl
      · exact (Nat.add_assoc r 5 i ▸ q.1)
      · exact (Nat.add_assoc r 33 i ▸ q.2.1)
      · exact (Nat.add_assoc r 11 i ▸ q.2.2.1)
      · exact (Nat.add_assoc r 17 i ▸ q.2.2.2)
    · have q := h.2.2 i hi
      rcases (show f = 5 ∨ f = 6 ∨ f = 7 by omega) with rfl | rfl | rfl
      · exact (Nat.add_assoc r 39 i ▸ q.1)
      · exact (Nat.add_assoc r 23 i ▸ q.2.1)
      · exact (Nat.add_assoc r 28 i ▸ q.2.2)
  · intro h
    refine ⟨⟨h 0 0 (Or.inl ⟨rfl, by decide⟩), h 0 1 (Or.inl ⟨rfl, by decide⟩), h 0 2 (Or.inl ⟨rfl, by decide⟩), h 0 4 (Or.inl ⟨rfl, by decide⟩), h 0 3 (Or.inl ⟨rfl, by decide⟩)⟩, fun m hm => ?_, fun k hk => ?_⟩
    · simp only [Nat.add_assoc]
      exact ⟨h 1 m (Or.inr (Or.inl ⟨⟨by decide, by decide⟩, hm⟩)), h 2 m (Or.inr (Or.inl ⟨⟨by decide, by decide⟩, hm⟩)), h 3 m (Or.inr (Or.inl ⟨⟨by decide, by decide⟩, hm⟩)), h 4 m (Or.inr (Or.inl ⟨⟨by decide, by decide⟩, hm⟩))⟩
    · simp only [Nat.add_assoc]
      exact ⟨h 5 k (Or.inr (Or.inr ⟨⟨by decide, by decide⟩, hk⟩)), h 6 k (Or.inr (Or.inr ⟨⟨by decide, by decide⟩, hk⟩)), h 7 k (Or.inr (Or.inr ⟨⟨by decide, by decide⟩, hk⟩))⟩
theorem mo_inj {V : VR} (ho : Ok V) {f i f' i' : Nat} (h : inV V f i) (h' : inV V f' i') (e : mo f i = mo f' i') : f = f' ∧ i = i' := by
  have a1 := ho.1
  have a2 := ho.2.1
  unfold inV at h h'
  unfold mo at e
  repeat' split at e
  all_goals omega
theorem HW_set {w : Nat → Int32} {r f i v : Nat} {x : Int32} {V : VR} (ho : Ok V) (hi : inV V f i) (hx : x = if f = 7 then sI v else nI v) (h0 : f = 0 → 2 ≤ i) (h : HW w r V) : HW (upd w (r + mo f i) x) r (vs V f i v) := by
  have n0 : vs V f i v 0 0 = V 0 0 := vs_no (fun z => by have := h0 z.1.symm; omega)
  have n1 : vs V f i v 0 1 = V 0 1 := vs_no (fun z => by have := h0 z.1.symm; omega)
  rw [HW_iff] at h ⊢
  intro f' i' hi'
  have hi2 : inV V f' i' := by unfold inV at hi' ⊢; rw [n0, n1] at hi'; exact hi'
  by_cases c : f' = f ∧ i' = i
  · obtain ⟨rfl, rfl⟩ := c
    rw [pk_us, vs_me, hx]
  · rw [pk_un (fun z => c (mo_inj ho hi2 hi (by omega))), vs_no c]
    exact h f' i' hi2
theorem HW_stI {S : GS} {r p f i v : Nat} {x : Int32} {V : VR} (ho : Ok V) (hi : inV V f i) (hp : p = r + mo f i) (hx : x = if f = 7 then sI v else nI v) (h0 : f = 0 → 2 ≤ i) (h : HW (S.1 179) r V) : HW ((stI S 179 p x).1 179) r (vs V f i v) := by
  subst hp
  have : (stI S 179 (r + mo f i) x).1 179 = upd (S.1 179) (r + mo f i) x := stA_me
  rw [this]
  exact HW_set ho hi hx h0 h
theorem sI_s (m : Nat) : sI (m + 1) = nI m := by
  unfold sI
  rw [if_neg (by omega), Nat.add_sub_cancel]
theorem sI_0 : sI 0 = -4 := rfl
def dN (d : Nat) : Nat := (d * 1103515245 + 12345) % 2147483648
theorem and31 (n : Nat) : nI n &&& nI 2147483647 = nI (n % 2147483648) := by
  have h := pk_and (nI n) (m := nI 2147483647) 31 (by decide)
  rw [h]
  have e : (nI n).toBitVec.toNat = n % 4294967296 := by simp [nI]
  rw [e]
  congr 1
  omega
def vDr (V : VR) : VR := if 0 < V 0 1 ∧ 0 < V 0 0 then vs (vs V 0 4 (dN (V 0 4))) 7 (dN (V 0 4) / 65536 % V 0 1) (dN (V 0 4) / 128 % V 0 0 + 1) else vs V 0 4 (dN (V 0 4))
def cDS (S : GS) (b : Nat) (V : VR) : GS := if 0 < V 0 1 ∧ 0 < V 0 0 then stI (stI S b 4 (nI (dN (V 0 4)))) (b + 7) (dN (V 0 4) / 65536 % V 0 1) (nI (dN (V 0 4) / 128 % V 0 0)) else stI S b 4 (nI (dN (V 0 4)))
theorem HC_DS {S : GS} {b : Nat} {V : VR} (h : HC S b V) : HC (cDS S b V) b (vDr V) := by
  have h1 : HC (stI S b 4 (nI (dN (V 0 4)))) b (vs V 0 4 (dN (V 0 4))) := HC_set (f := 0) (by decide) rfl (fun _ => by decide) h
  unfold cDS vDr
  split
  · exact HC_set (f := 7) (by decide) (by rw [if_pos rfl, sI_s]) (fun z => by omega) h1
  · exact h1
theorem vs_ok {V : VR} {f i v : Nat} (ho : Ok V) (hf : f = 0 ∧ 2 ≤ i ∨ f = 7 ∧ v ≤ V 0 0 ∨ f = 1 ∧ v ≤ 60) : Ok (vs V f i v) := by
  have n0 : vs V f i v 0 0 = V 0 0 := vs_no (fun z => by omega)
  have n1 : vs V f i v 0 1 = V 0 1 := vs_no (fun z => by omega)
  refine ⟨by rw [n0]; exact ho.1, by rw [n1]; exact ho.2.1, fun m hm => ?_, fun k hk => ?_⟩
  · rw [n0] at hm
    have q := ho.2.2.1 m hm
    rw [vs_no (f' := 2) (fun z => by omega), vs_no (f' := 3) (fun z => by omega), vs_no (f' := 4) (fun z => by omega)]
    by_cases c : 1 = f ∧ m = i
    · obtain ⟨rfl, rfl⟩ := c
      rw [vs_me]
      omega
    · rw [vs_no c]
      exact q
  · rw [n1] at hk
    have q := ho.2.2.2 k hk
    rw [n0, vs_no (f' := 5) (fun z => by omega), vs_no (f' := 6) (fun z => by omega)]
    by_cases c : 7 = f ∧ k = i
    · obtain ⟨rfl, rfl⟩ := c
      rw [vs_me]
      omega
    · rw [vs_no c]
      exact q
theorem Ok_dr {V : VR} (ho : Ok V) : Ok (vDr V) := by
  unfold vDr
  split
  · rename_i c
    refine vs_ok (vs_ok ho (Or.inl ⟨rfl, by decide⟩)) (Or.inr (Or.inl ⟨rfl, ?_⟩))
    rw [vs_no (by omega)]
    have := Nat.mod_lt (dN (V 0 4) / 128) c.2
    omega
  · exact vs_ok ho (Or.inl ⟨rfl, by decide⟩)
theorem vDr_hd {V : VR} {i : Nat} (h : i ≠ 4) : vDr V 0 i = V 0 i := by
  unfold vDr
  split
  · rw [vs_no (by omega), vs_no (by omega)]
  · rw [vs_no (by omega)]
theorem cDS_fr {S : GS} {b : Nat} {V : VR} : Fr (rk b) S (cDS S b V) := by
  unfold cDS
  split
  · exact (Fr.I ⟨by omega, by omega⟩).tr (Fr.I ⟨by omega, by omega⟩)
  · exact Fr.I ⟨by omega, by omega⟩
