/-! WHAT IS TYPED, read as a rock: an error bears its place -/
def skp (tx : Nat → Nat) (n : Nat) : Nat → Nat → Nat
  | 0, p => p
  | f + 1, p => if p < n ∧ tx p = 32 then skp tx n f (p + 1) else p
def sk (tx : Nat → Nat) (n p : Nat) : Nat := skp tx n (n - p) p
theorem sk_y {tx : Nat → Nat} {n p : Nat} (h : p < n ∧ tx p = 32) : sk tx n p = sk tx n (p + 1) := by
  unfold sk
  rw [show n - p = (n - (p + 1)) + 1 by omega, skp, if_pos h]
theorem sk_n {tx : Nat → Nat} {n p : Nat} (h : ¬ (p < n ∧ tx p = 32)) : sk tx n p = p := by
  unfold sk
  cases n - p with
  | zero => rfl
  | succ f => rw [skp, if_neg h]
theorem skp_in {tx : Nat → Nat} {n : Nat} : ∀ f p, p + f = n → p ≤ skp tx n f p ∧ skp tx n f p ≤ n ∧ ¬ (skp tx n f p < n ∧ tx (skp tx n f p) = 32) := by
  intro f
  induction f with
  | zero => intro p hp; exact ⟨Nat.le_refl _, by show p ≤ n; omega, fun z => by have z1 : p < n := z.1; omega⟩
  | succ f ih =>
    intro p hp
    rw [skp]
    split
    · obtain ⟨a, b, c⟩ := ih (p + 1) (by omega)
      exact ⟨by omega, b, c⟩
    · exact ⟨Nat.le_refl _, by omega, by assumption⟩
theorem sk_in {tx : Nat → Nat} {n p : Nat} (h : p ≤ n) : p ≤ sk tx n p ∧ sk tx n p ≤ n ∧ ¬ (sk tx n p < n ∧ tx (sk tx n p) = 32) := skp_in (n - p) p (by omega)
theorem sk_sk {tx : Nat → Nat} {n p : Nat} (h : p ≤ n) : sk tx n (sk tx n p) = sk tx n p := sk_n (sk_in h).2.2
abbrev dgt (tx : Nat → Nat) (n q : Nat) : Prop := q < n ∧ 48 ≤ tx q ∧ tx q ≤ 57
abbrev tkP (tx : Nat → Nat) (n c p : Nat) : Prop := sk tx n p < n ∧ tx (sk tx n p) = c
def tkN (tx : Nat → Nat) (n c p : Nat) : Nat := if tkP tx n c p then sk tx n p + 1 else sk tx n p
theorem tkN_y {tx : Nat → Nat} {n c p : Nat} (h : tkP tx n c p) : tkN tx n c p = sk tx n p + 1 := if_pos h
theorem tkN_n {tx : Nat → Nat} {n c p : Nat} (h : ¬ tkP tx n c p) : tkN tx n c p = sk tx n p := if_neg h
theorem sk_d {tx : Nat → Nat} {n q : Nat} (h : dgt tx n q) : sk tx n q = q := sk_n (fun z => by have := h.2.1; omega)
theorem tk_d {tx : Nat → Nat} {n q c : Nat} (h : dgt tx n q) (hc : c < 48 ∨ 57 < c) : ¬ tkP tx n c q := fun z => by
  have z2 := z.2
  rw [sk_d h] at z2
  have := h.2
  omega
abbrev PE : Type := Except Nat (Nat × Nat)
def numV (tx : Nat → Nat) (n q : Nat) : Nat × Nat := if dgt tx n (q + 1) then (10 * (tx q - 48) + tx (q + 1) - 48, q + 2) else (tx q - 48, q + 1)
theorem numV_y {tx : Nat → Nat} {n q : Nat} (h : dgt tx n (q + 1)) : numV tx n q = (10 * (tx q - 48) + tx (q + 1) - 48, q + 2) := if_pos h
theorem numV_n {tx : Nat → Nat} {n q : Nat} (h : ¬ dgt tx n (q + 1)) : numV tx n q = (tx q - 48, q + 1) := if_neg h
def numL (tx : Nat → Nat) (n hi p : Nat) : PE := if dgt tx n (sk tx n p) then (if (numV tx n (sk tx n p)).1 ≤ hi then .ok (numV tx n (sk tx n p)) else .error (sk tx n p)) else .error (sk tx n p)
theorem numL_n {tx : Nat → Nat} {n hi p : Nat} (h : ¬ dgt tx n (sk tx n p)) : numL tx n hi p = .error (sk tx n p) := if_neg h
theorem numL_b {tx : Nat → Nat} {n hi p v q : Nat} (h : dgt tx n (sk tx n p)) (e : numV tx n (sk tx n p) = (v, q)) (h2 : ¬ v ≤ hi) : numL tx n hi p = .error (sk tx n p) := by
  unfold numL
  rw [if_pos h, e, if_neg h2]
theorem numL_y {tx : Nat → Nat} {n hi p v q : Nat} (h : dgt tx n (sk tx n p)) (e : numV tx n (sk tx n p) = (v, q)) (h2 : v ≤ hi) : numL tx n hi p = .ok (v, q) := by
  unfold numL
  rw [if_pos h, e, if_pos h2]
def numS (tx : Nat → Nat) (n hi p : Nat) : PE := match numL tx n hi p with
  | .error q => .error q
  | .ok (v, q) => if dgt tx n q then .error q else .ok (v, q)
theorem numS_e {tx : Nat → Nat} {n hi p q : Nat} (h : numL tx n hi p = .error q) : numS tx n hi p = .error q := by unfold numS; rw [h]
theorem numS_d {tx : Nat → Nat} {n hi p v q : Nat} (h : numL tx n hi p = .ok (v, q)) (hd : dgt tx n q) : numS tx n hi p = .error q := by unfold numS; rw [h]; exact if_pos hd
theorem numS_y {tx : Nat → Nat} {n hi p v q : Nat} (h : numL tx n hi p = .ok (v, q)) (hd : ¬ dgt tx n q) : numS tx n hi p = .ok (v, q) := by unfold numS; rw [h]; exact if_neg hd
theorem numL_le {tx : Nat → Nat} {n hi p v q : Nat} (h : numL tx n hi p = .ok (v, q)) : v ≤ hi := by
  unfold numL at h
  split at h
  · split at h
    · next h2 => rw [Except.ok.injEq] at h; rw [h] at h2; exact h2
    · cases h
  · cases h
theorem numS_le {tx : Nat → Nat} {n hi p v q : Nat} (h : numS tx n hi p = .ok (v, q)) : v ≤ hi := by
  unfold numS at h
  split at h
  · cases h
  · next v' q' e =>
    split at h
    · cases h
    · rw [Except.ok.injEq, Prod.mk.injEq] at h
      rw [← h.1]
      exact numL_le e
def dig (tx : Nat → Nat) (n lo hi p : Nat) : PE := if sk tx n p < n ∧ 48 + lo ≤ tx (sk tx n p) ∧ tx (sk tx n p) ≤ 48 + hi then .ok (tx (sk tx n p) - 48, sk tx n p + 1) else .error (sk tx n p)
theorem dig_y {tx : Nat → Nat} {n lo hi p : Nat} (h : sk tx n p < n ∧ 48 + lo ≤ tx (sk tx n p) ∧ tx (sk tx n p) ≤ 48 + hi) : dig tx n lo hi p = .ok (tx (sk tx n p) - 48, sk tx n p + 1) := if_pos h
theorem dig_n {tx : Nat → Nat} {n lo hi p : Nat} (h : ¬ (sk tx n p < n ∧ 48 + lo ≤ tx (sk tx n p) ∧ tx (sk tx n p) ≤ 48 + hi)) : dig tx n lo hi p = .error (sk tx n p) := if_neg h
theorem dig_in {tx : Nat → Nat} {n lo hi p v q : Nat} (h : dig tx n lo hi p = .ok (v, q)) : lo ≤ v ∧ v ≤ hi := by
  unfold dig at h
  split at h
  · next h2 =>
    rw [Except.ok.injEq, Prod.mk.injEq] at h
    omega
  · cases h
abbrev RE : Type := Except Nat (VR × Nat)
def maP (tx : Nat → Nat) (n p : Nat) (W : VR) : RE := match numS tx n 60 p with
  | .error q => .error q
  | .ok (x, p1) => if tkP tx n 46 p1 then (match dig tx n 1 9 (sk tx n p1 + 1) with
    | .error q => .error q
    | .ok (y, p2) => if tkP tx n 47 p2 then (match numS tx n 60 (sk tx n p2 + 1) with
      | .error q => .error q
      | .ok (z, p3) => .ok (vAM W x y z, p3)) else .ok (vAM W x y 0, sk tx n p2)) else .error (sk tx n p1)
def kdN (c : Nat) : Nat := if c = 112 then 1 else if c = 110 then 2 else if c = 115 then 3 else if c = 116 then 4 else if c = 97 then 5 else 0
theorem kdN_le (c : Nat) : kdN c ≤ 5 := by unfold kdN; repeat' split
                                           all_goals omega
theorem kdI_N (c : Nat) : kdI c = mI (kdN c) := by
  unfold kdI kdN
  repeat' split
  all_goals rfl
def moP (tx : Nat → Nat) (n p : Nat) (W : VR) : RE := if sk tx n p < n ∧ kdN (tx (sk tx n p)) ≠ 0 then (match numS tx n 99 (sk tx n p + 1) with
  | .error q => .error q
  | .ok (x, p1) => if tkP tx n 62 p1 then (match dig tx n 0 (W 0 0 - 1) (sk tx n p1 + 1) with
    | .error q => .error q
    | .ok (y, p2) => .ok (vAK W (kdN (tx (sk tx n p)) - 1) x (y + 1), p2)) else .ok (vAK W (kdN (tx (sk tx n p)) - 1) x 0, sk tx n p1)) else .error (sk tx n p)
def msP (tx : Nat → Nat) (n : Nat) : Nat → Nat → VR → RE
  | 0, p, W => .ok (W, p)
  | f + 1, p, W => match maP tx n p W with
    | .error q => .error q
    | .ok (W1, p1) => if f = 0 then .ok (W1, p1) else if tkP tx n 44 p1 then msP tx n f (sk tx n p1 + 1) W1 else .ok (W1, sk tx n p1)
def ksP (tx : Nat → Nat) (n : Nat) : Nat → Nat → VR → RE
  | 0, p, W => .ok (W, p)
  | f + 1, p, W => match moP tx n p W with
    | .error q => .error q
    | .ok (W1, p1) => if f = 0 then .ok (W1, p1) else if tkP tx n 44 p1 then ksP tx n f (sk tx n p1 + 1) W1 else .ok (W1, sk tx n p1)
def fnP (tx : Nat → Nat) (n p : Nat) (W : VR) : RE := if sk tx n p < n then .error (sk tx n p) else .ok (W, sk tx n p)
def rkP (tx : Nat → Nat) (n : Nat) (W : VR) : RE := match msP tx n 6 0 W with
  | .error q => .error q
  | .ok (W1, p1) => if tkP tx n 59 p1 then (match ksP tx n 5 (sk tx n p1 + 1) W1 with
    | .error q => .error q
    | .ok (W2, p2) => fnP tx n p2 W2) else fnP tx n (sk tx n p1) W1
theorem maP_ok {tx : Nat → Nat} {n p q : Nat} {W W1 : VR} (h : maP tx n p W = .ok (W1, q)) (ho : Ok W) (h6 : W 0 0 < 6) : Ok W1 ∧ W1 0 0 = W 0 0 + 1 ∧ W1 0 1 = W 0 1 := by
  have key : ∃ x y z, W1 = vAM W x y z ∧ x ≤ 60 ∧ 1 ≤ y ∧ y ≤ 9 ∧ z ≤ 60 := by
    unfold maP at h
    split at h
    · cases h
    · next x p1 e1 =>
      have x60 := numS_le e1
      split at h
      · split at h
        · cases h
        · next y p2 e2 =>
          have yy := dig_in e2
          split at h
          · split at h
            · cases h
            · next z p3 e3 =>
              rw [Except.ok.injEq, Prod.mk.injEq] at h
              exact ⟨x, y, z, h.1.symm, x60, yy.1, yy.2, numS_le e3⟩
          · rw [Except.ok.injEq, Prod.mk.injEq] at h
            exact ⟨x, y, 0, h.1.symm, x60, yy.1, yy.2, by omega⟩
      · cases h
  obtain ⟨x, y, z, rfl, a1, a2, a3, a4⟩ := key
  exact ⟨Ok_AM ho h6 a1 a2 a3 a4, by simp [vAM], by simp [vAM]⟩
theorem moP_ok {tx : Nat → Nat} {n p q : Nat} {W W1 : VR} (h : moP tx n p W = .ok (W1, q)) (ho : Ok W) (h0 : 0 < W 0 0) (h5 : W 0 1 < 5) : Ok W1 ∧ W1 0 1 = W 0 1 + 1 ∧ W1 0 0 = W 0 0 := by
  have key : ∃ x y z, W1 = vAK W x y z ∧ x ≤ 4 ∧ y ≤ 99 ∧ z ≤ W 0 0 := by
    have kl := kdN_le (tx (sk tx n p))
    unfold moP at h
    split at h
    · split at h
      · cases h
      · next x p1 e1 =>
        have x60 := numS_le e1
        split at h
        · split at h
          · cases h
          · next y p2 e2 =>
            have yy := dig_in e2
            rw [Except.ok.injEq, Prod.mk.injEq] at h
            exact ⟨_, x, y + 1, h.1.symm, by omega, x60, by omega⟩
        · rw [Except.ok.injEq, Prod.mk.injEq] at h
          exact ⟨_, x, 0, h.1.symm, by omega, x60, by omega⟩
    · cases h
  obtain ⟨x, y, z, rfl, a1, a2, a3⟩ := key
  exact ⟨Ok_AK ho h5 a1 a2 a3, by simp [vAK], by simp [vAK]⟩
theorem vAM_vs {W : VR} {x y z d : Nat} : vAM (vs W 0 4 d) x y z = vs (vAM W x y z) 0 4 d := by
  funext f i
  have e0 : vs W 0 4 d 0 0 = W 0 0 := vs_no (by omega)
  unfold vAM
  rw [e0]
  by_cases c : f = 0 ∧ i = 4
  · obtain ⟨rfl, rfl⟩ := c
    rw [vs_me, if_neg (by omega), if_neg (by omega), vs_me]
  · rw [vs_no c, vs_no c]
theorem vAK_vs {W : VR} {x y z d : Nat} : vAK (vs W 0 4 d) x y z = vs (vAK W x y z) 0 4 d := by
  funext f i
  have e0 : vs W 0 4 d 0 1 = W 0 1 := vs_no (by omega)
  unfold vAK
  rw [e0]
  by_cases c : f = 0 ∧ i = 4
  · obtain ⟨rfl, rfl⟩ := c
    rw [vs_me, if_neg (by omega), if_neg (by omega), vs_me]
  · rw [vs_no c, vs_no c]
def TxOk (tx : Nat → Nat) (n : Nat) : Prop := n ≤ 90 ∧ ∀ i, i < n → 32 ≤ tx i ∧ tx i ≤ 126
def lkC (tx : Nat → Nat) (n q : Nat) : Int32 := if q < n then nI (tx q) else -1
theorem lkC_y {tx : Nat → Nat} {n q : Nat} (h : q < n) : lkC tx n q = nI (tx q) := if_pos h
theorem lkC_n {tx : Nat → Nat} {n q : Nat} (h : ¬ q < n) : lkC tx n q = -1 := if_neg h
theorem lkC_eq {tx : Nat → Nat} {n q c : Nat} (hx : TxOk tx n) (hc : c < 1000) : lkC tx n q = nI c ↔ q < n ∧ tx q = c := by
  by_cases h : q < n
  · have := hx.2 q h
    rw [lkC_y h, nI_eq (by omega) (by omega)]
    exact ⟨fun z => ⟨h, z⟩, fun z => z.2⟩
  · rw [lkC_n h]
    refine ⟨fun z => ?_, fun z => absurd z.1 h⟩
    have e : (-1 : Int32).toInt = (nI c).toInt := by rw [z]
    rw [nI_toInt (by omega)] at e
    have : (-1 : Int32).toInt = -1 := rfl
    omega
theorem lkC_d {tx : Nat → Nat} {n q : Nat} (hx : TxOk tx n) : inB (lkC tx n q) 48 57 ↔ dgt tx n q := by
  by_cases h : q < n
  · have := hx.2 q h
    rw [lkC_y h]
    unfold inB
    rw [nI_leI (by omega) (by omega), nI_leI (by omega) (by omega)]
    exact ⟨fun z => ⟨h, z⟩, fun z => z.2⟩
  · rw [lkC_n h]
    exact ⟨fun z => absurd z (by decide), fun z => absurd z.1 h⟩
