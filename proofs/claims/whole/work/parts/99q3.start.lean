theorem lw_dY {G : va_G} {cA : Nat → ClassId} {h0 : Nat} {an ai at_ : Nat → Nat} {qk rk0 : Nat} {fk : Nat → Option Nat} {ak : Nat → Nat → Nat} {qi ri0 : Nat} {fi : Nat → Option Nat} {aI : Nat → Nat → Nat} {qt tl qs : Nat} {fs : Nat → Option Nat} {qp s1 s2 s3 s4 qr o1 o2 qq qw : Nat} {sh ti : Nat → Nat} {m0 w1 w2 w3 w4 w5 w6 w7 w8 w9 w10 w11 : Nat} {A : Nat → Prop} (hD : va_D A (lwW cA h0 an ai at_ qk rk0 fk ak qi ri0 fi aI qt tl qs fs qp s1 s2 s3 s4 qr o1 o2 qq qw sh ti m0 w1 w2 w3 w4 w5 w6 w7 w8 w9 w10 w11)) : dY (lwY G cA h0 an ai at_ qk rk0 fk ak qi ri0 fi aI qt tl qs fs qp s1 s2 s3 s4 qr o1 o2 qq qw sh ti m0 w1 w2 w3 w4 w5 w6 w7 w8 w9 w10 w11) ∧ ∀ o, o < 190 → A (ad (lwY G cA h0 an ai at_ qk rk0 fk ak qi ri0 fi aI qt tl qs fs qp s1 s2 s3 s4 qr o1 o2 qq qw sh ti m0 w1 w2 w3 w4 w5 w6 w7 w8 w9 w10 w11) o) := by
  have hl : (lwA h0 an ai at_ qk rk0 fk ak qi ri0 fi aI qt tl qs fs qp s1 s2 s3 s4 qr o1 o2 qq qw sh ti m0 w1 w2 w3 w4 w5 w6 w7 w8 w9 w10 w11).length = 190 := rfl
  have key : ∀ o, o < 190 → ∃ p, (lwW cA h0 an ai at_ qk rk0 fk ak qi ri0 fi aI qt tl qs fs qp s1 s2 s3 s4 qr o1 o2 qq qw sh ti m0 w1 w2 w3 w4 w5 w6 w7 w8 w9 w10 w11)[lwp.getD o 0]? = some p ∧ p.1 = ad (lwY G cA h0 an ai at_ qk rk0 fk ak qi ri0 fi aI qt tl qs fs qp s1 s2 s3 s4 qr o1 o2 qq qw sh ti m0 w1 w2 w3 w4 w5 w6 w7 w8 w9 w10 w11) o := fun o ho => at_fst lwA_fst (by rw [hl]; exact lwp_in o ho)
  refine ⟨fun i j hi hj e => ?_, fun o ho => ?_⟩
  · obtain ⟨p, p1, p2⟩ := key i hi
    obtain ⟨r, r1, r2⟩ := key j hj
    exact lwp_inj i hi j hj (hD.1 _ _ p r p1 r1 (by rw [p2, r2]; exact e))
  · obtain ⟨p, p1, p2⟩ := key o ho
    rw [← p2]
    exact hD.2 _ p p1
theorem lw_wP {Y : LY} {H : Heap} (h : ∀ o, o < 190 → va_at Y.1 vwCl (ad Y o, cellF Y o (S0.1 o) (S0.2 o)) H) : va_P Y.1 vwCl (wl Y S0) H := fun k q hk => by
  obtain ⟨h190, e⟩ := wl_some hk
  rw [wl_get h190] at hk
  cases hk
  exact h k h190
/-! what holds at the start -/
def vone : VR := vs vz 0 4 1
def bb0 : B3 := (vone, fun _ => vz, 0)
def qq0 : SQ := (fun _ => 0, fun _ => 0, fun _ => 0, fun _ _ => 0)
def tt0 : TX := (fun _ => 0, 0)
theorem lc0 : LC S0 bb0 qq0 tt0 0 bb0 := by
  refine ⟨⟨⟨fun i hi => ?_, fun k (hk : k < 0) => by omega, fun k (hk : k < 0) => by omega⟩, by decide, 0, by decide, by decide, by decide, fun j hj => absurd hj (Nat.not_lt_zero j)⟩, fun j hj => ?_, ⟨by decide, fun i hi => absurd hi (Nat.not_lt_zero i)⟩, by decide, fun z => absurd z (by decide)⟩
  · rcases (show i = 0 ∨ i = 1 ∨ i = 2 ∨ i = 3 ∨ i = 4 by omega) with rfl | rfl | rfl | rfl | rfl <;> decide
  · rcases (show j = 0 ∨ j = 1 ∨ j = 2 ∨ j = 3 by omega) with rfl | rfl | rfl | rfl <;> exact ⟨by decide, by decide, by decide, fun _ _ => rfl⟩
theorem lm0 : LM S0 bb0 qq0 tt0 0 bb0 := by
  refine ⟨⟨⟨⟨by decide, by decide, by decide, by decide, by decide⟩, fun k (hk : k < 0) => by omega, fun k (hk : k < 0) => by omega⟩, by decide, by decide, fun j hj => absurd hj (Nat.not_lt_zero j)⟩, fun j hj => ?_, ⟨by decide, fun i hi => absurd hi (Nat.not_lt_zero i)⟩, by decide, fun z => absurd z (by decide)⟩
  rcases (show j = 0 ∨ j = 1 ∨ j = 2 ∨ j = 3 by omega) with rfl | rfl | rfl | rfl <;> exact ⟨by decide, by decide, fun _ _ => rfl⟩
theorem lo0 : LO bb0 qq0 tt0 0 bb0 := ⟨⟨vs_ok vz_ok (Or.inl ⟨rfl, by decide⟩), fun j hj => absurd hj (Nat.not_lt_zero j), by decide, by decide, by decide⟩, fun j _ => ⟨Nat.zero_le _, Nat.zero_le _, Nat.zero_le _⟩, ⟨Nat.zero_le _, fun i hi => absurd hi (Nat.not_lt_zero i)⟩, Nat.zero_le _, fun z => absurd z (by decide)⟩
