/-! where an error may lie -/
def gE {α : Type} (tx : Nat → Nat) (n : Nat) (e : Except Nat (α × Nat)) (P : α → Prop) : Prop := (∀ q, e = .error q → q ≤ n ∧ sk tx n q = q) ∧ (∀ a q, e = .ok (a, q) → q ≤ n ∧ P a)
theorem gE_e {α : Type} {tx : Nat → Nat} {n q : Nat} {P : α → Prop} (h : q ≤ n ∧ sk tx n q = q) : gE tx n (.error q : Except Nat (α × Nat)) P := ⟨fun q' z => (by cases z; exact h), fun a q' z => (by cases z)⟩
theorem gE_k {α : Type} {tx : Nat → Nat} {n q : Nat} {a : α} {P : α → Prop} (h : q ≤ n) (hp : P a) : gE tx n (.ok (a, q) : Except Nat (α × Nat)) P := ⟨fun q' z => (by cases z), fun a' q' z => (by cases z; exact ⟨h, hp⟩)⟩
theorem sk_e {tx : Nat → Nat} {n p : Nat} (h : p ≤ n) : sk tx n p ≤ n ∧ sk tx n (sk tx n p) = sk tx n p := ⟨(sk_in h).2.1, sk_sk h⟩
theorem numV_le {tx : Nat → Nat} {n q : Nat} (d : dgt tx n q) : (numV tx n q).2 ≤ n := by
  unfold numV
  have := d.1
  split
  · next e => have := e.1; show q + 2 ≤ n; omega
  · show q + 1 ≤ n; omega
theorem numL_g {tx : Nat → Nat} {n hi p : Nat} (h : p ≤ n) : gE tx n (numL tx n hi p) (fun _ => True) := by
  unfold numL
  split
  · next d =>
    split
    · show gE tx n (.ok ((numV tx n (sk tx n p)).1, (numV tx n (sk tx n p)).2)) _
      exact gE_k (numV_le d) trivial
    · exact gE_e (sk_e h)
  · exact gE_e (sk_e h)
theorem numS_g {tx : Nat → Nat} {n hi p : Nat} (h : p ≤ n) : gE tx n (numS tx n hi p) (fun _ => True) := by
  have g := numL_g (tx := tx) (hi := hi) h
  unfold numS
  split
  · next q e => exact gE_e (g.1 q e)
  · next v q e =>
    split
    · next d => exact gE_e ⟨(g.2 _ _ e).1, sk_d d⟩
    · exact gE_k (g.2 _ _ e).1 trivial
theorem dig_g {tx : Nat → Nat} {n lo hi p : Nat} (h : p ≤ n) : gE tx n (dig tx n lo hi p) (fun _ => True) := by
  unfold dig
  split
  · next d => exact gE_k (by have := d.1; omega) trivial
  · exact gE_e (sk_e h)
theorem vAM_02 {W : VR} {x y z : Nat} : vAM W x y z 0 2 = W 0 2 := by
  unfold vAM
  rw [if_neg (by omega), if_neg (by omega)]
theorem vAK_02 {W : VR} {x y z : Nat} : vAK W x y z 0 2 = W 0 2 := by
  unfold vAK
  rw [if_neg (by omega), if_neg (by omega)]
theorem maP_g {tx : Nat → Nat} {n p : Nat} {W : VR} (h : p ≤ n) : gE tx n (maP tx n p W) (fun U => U 0 2 = W 0 2) := by
  have g := numS_g (tx := tx) (hi := 60) h
  unfold maP
  split
  · next q e => exact gE_e (g.1 q e)
  · next x p1 e =>
    have l1 := (g.2 _ _ e).1
    split
    · next t =>
      have g2 := dig_g (tx := tx) (lo := 1) (hi := 9) (show sk tx n p1 + 1 ≤ n by have := t.1; omega)
      split
      · next q e2 => exact gE_e (g2.1 q e2)
      · next y p2 e2 =>
        have l2 := (g2.2 _ _ e2).1
        split
        · next t2 =>
          have g3 := numS_g (tx := tx) (hi := 60) (show sk tx n p2 + 1 ≤ n by have := t2.1; omega)
          split
          · next q e3 => exact gE_e (g3.1 q e3)
          · next z p3 e3 => exact gE_k (g3.2 _ _ e3).1 vAM_02
        · exact gE_k (sk_e l2).1 vAM_02
    · exact gE_e (sk_e l1)
theorem moP_g {tx : Nat → Nat} {n p : Nat} {W : VR} (h : p ≤ n) : gE tx n (moP tx n p W) (fun U => U 0 2 = W 0 2) := by
  unfold moP
  split
  · next t0 =>
    have g := numS_g (tx := tx) (hi := 99) (show sk tx n p + 1 ≤ n by have := t0.1; omega)
    split
    · next q e => exact gE_e (g.1 q e)
    · next x p1 e =>
      have l1 := (g.2 _ _ e).1
      split
      · next t =>
        have g2 := dig_g (tx := tx) (lo := 0) (hi := W 0 0 - 1) (show sk tx n p1 + 1 ≤ n by have := t.1; omega)
        split
        · next q e2 => exact gE_e (g2.1 q e2)
        · next y p2 e2 => exact gE_k (g2.2 _ _ e2).1 vAK_02
      · exact gE_k (sk_e l1).1 vAK_02
  · exact gE_e (sk_e h)

theorem msP_g {tx : Nat → Nat} {n : Nat} : ∀ (f p : Nat) (W : VR), p ≤ n → gE tx n (msP tx n f p W) (fun U => U 0 2 = W 0 2) := by
  intro f
  induction f with
  | zero => intro p W h; rw [msP]; exact gE_k h rfl
  | succ f ih =>
    intro p W h
    have g := maP_g (tx := tx) (W := W) h
    rw [msP]
    split
    · next q e => exact gE_e (g.1 q e)
    · next W1 p1 e =>
      obtain ⟨l1, w1⟩ := g.2 _ _ e
      split
      · exact gE_k l1 w1
      · split
        · next t =>
          have g2 := ih (sk tx n p1 + 1) W1 (by have := t.1; omega)
          exact ⟨g2.1, fun a q z => ⟨(g2.2 a q z).1, (g2.2 a q z).2.trans w1⟩⟩
        · exact gE_k (sk_e l1).1 w1

theorem ksP_g {tx : Nat → Nat} {n : Nat} : ∀ (f p : Nat) (W : VR), p ≤ n → gE tx n (ksP tx n f p W) (fun U => U 0 2 = W 0 2) := by
  intro f
  induction f with
  | zero => intro p W h; rw [ksP]; exact gE_k h rfl
  | succ f ih =>
    intro p W h
    have g := moP_g (tx := tx) (W := W) h
    rw [ksP]
    split
    · next q e => exact gE_e (g.1 q e)
    · next W1 p1 e =>
      obtain ⟨l1, w1⟩ := g.2 _ _ e
      split
      · exact gE_k l1 w1
      · split
        · next t =>
          have g2 := ih (sk tx n p1 + 1) W1 (by have := t.1; omega)
          exact ⟨g2.1, fun a q z => ⟨(g2.2 a q z).1, (g2.2 a q z).2.trans w1⟩⟩
        · exact gE_k (sk_e l1).1 w1

theorem fnP_g {tx : Nat → Nat} {n p : Nat} {W : VR} {P : VR → Prop} (h : p ≤ n) (hw : P W) : gE tx n (fnP tx n p W) P := by
  unfold fnP
  split
  · exact gE_e (sk_e h)
  · exact gE_k (sk_e h).1 hw
theorem rkP_g {tx : Nat → Nat} {n : Nat} {W : VR} : gE tx n (rkP tx n W) (fun U => U 0 2 = W 0 2) := by
  have g := msP_g (tx := tx) (n := n) 6 0 W (Nat.zero_le n)
  unfold rkP
  split
  · next q e => exact gE_e (g.1 q e)
  · next W1 p1 e =>
    obtain ⟨l1, w1⟩ := g.2 _ _ e
    split
    · next t =>
      have g2 := ksP_g (tx := tx) (n := n) 5 (sk tx n p1 + 1) W1 (by have := t.1; omega)
      split
      · next q e2 => exact gE_e (g2.1 q e2)
      · next W2 p2 e2 =>
        obtain ⟨l2, w2⟩ := g2.2 _ _ e2
        exact fnP_g l2 (w2.trans w1)
    · exact fnP_g (sk_e l1).1 w1
theorem fnP_y {tx : Nat → Nat} {n p : Nat} {W : VR} (h : sk tx n p < n) : fnP tx n p W = .error (sk tx n p) := if_pos h
theorem fnP_n {tx : Nat → Nat} {n p : Nat} {W : VR} (h : ¬ sk tx n p < n) : fnP tx n p W = .ok (W, sk tx n p) := if_neg h
theorem rk0 {tx : Nat → Nat} {n q : Nat} {W : VR} (e : msP tx n 6 0 W = .error q) : rkP tx n W = .error q := by unfold rkP; rw [e]
theorem rk1 {tx : Nat → Nat} {n p1 q : Nat} {W W1 : VR} (e : msP tx n 6 0 W = .ok (W1, p1)) (h : tkP tx n 59 p1) (e2 : ksP tx n 5 (sk tx n p1 + 1) W1 = .error q) : rkP tx n W = .error q := by unfold rkP; rw [e]; dsimp only; rw [if_pos h, e2]
theorem rk2 {tx : Nat → Nat} {n p1 p2 : Nat} {W W1 W2 : VR} (e : msP tx n 6 0 W = .ok (W1, p1)) (h : tkP tx n 59 p1) (e2 : ksP tx n 5 (sk tx n p1 + 1) W1 = .ok (W2, p2)) : rkP tx n W = fnP tx n p2 W2 := by unfold rkP; rw [e]; dsimp only; rw [if_pos h, e2]
theorem rk3 {tx : Nat → Nat} {n p1 : Nat} {W W1 : VR} (e : msP tx n 6 0 W = .ok (W1, p1)) (h : ¬ tkP tx n 59 p1) : rkP tx n W = fnP tx n (sk tx n p1) W1 := by unfold rkP; rw [e]; dsimp only; rw [if_neg h]
theorem fnP_ok {tx : Nat → Nat} {n p q : Nat} {W W1 : VR} (h : fnP tx n p W = .ok (W1, q)) : W1 = W := by
  unfold fnP at h
  split at h
  · cases h
  · rw [Except.ok.injEq, Prod.mk.injEq] at h
    exact h.1.symm
theorem rkP_ok {tx : Nat → Nat} {n q : Nat} {W W1 : VR} (h : rkP tx n W = .ok (W1, q)) (ho : Ok W) (h0 : W 0 0 = 0) (h1 : W 0 1 = 0) : Ok W1 := by
  cases e : msP tx n 6 0 W with
  | error z => rw [rk0 e] at h; cases h
  | ok x =>
    obtain ⟨W2, p2⟩ := x
    obtain ⟨a1, a2, a3, a4⟩ := msP_ok 6 0 p2 W W2 e ho (by omega)
    by_cases t : tkP tx n 59 p2
    · cases e2 : ksP tx n 5 (sk tx n p2 + 1) W2 with
      | error z => rw [rk1 e t e2] at h; cases h
      | ok y =>
        obtain ⟨W3, p3⟩ := y
        rw [rk2 e t e2] at h
        rw [fnP_ok h]
        exact (ksP_ok 5 _ p3 W2 W3 e2 a1 (a3 (by decide)) (by omega)).1
    · rw [rk3 e t] at h
      rw [fnP_ok h]
      exact a1
def vz : VR := fun _ _ => 0
theorem vz_ok : Ok vz := ⟨Nat.zero_le _, Nat.zero_le _, fun m hm => absurd hm (Nat.not_lt_zero _), fun k hk => absurd hk (Nat.not_lt_zero _)⟩
theorem vs_vs {W : VR} {d e : Nat} : vs (vs W 0 4 d) 0 4 e = vs W 0 4 e := by
  funext f i
  by_cases c : f = 0 ∧ i = 4
  · obtain ⟨rfl, rfl⟩ := c
    rw [vs_me, vs_me]
  · rw [vs_no c, vs_no c, vs_no c]
theorem nI_ex (x : Int32) : ∃ n, x = nI n := ⟨x.toBitVec.toNat, by
  apply Int32.toBitVec_inj.mp
  simp [nI]⟩
theorem cCl_fr {S : GS} {b : Nat} : Fr (rk b) S (cCl S b) := by
  unfold cCl
  exact (((Fr.I ⟨by omega, by omega⟩).tr (Fr.I ⟨by omega, by omega⟩)).tr (Fr.I ⟨by omega, by omega⟩)).tr (Fr.I ⟨by omega, by omega⟩)
theorem HC_cl {S : GS} {dd : Nat} (h : S.1 42 4 = nI dd) : HC (cCl S 42) 42 (vs vz 0 4 dd) := by
  have e0 : vs vz 0 4 dd 0 0 = 0 := vs_00
  have e1 : vs vz 0 4 dd 0 1 = 0 := vs_01
  refine ⟨fun i hi => ?_, fun m hm => absurd hm (by rw [e0]; omega), fun k hk => absurd hk (by rw [e1]; omega)⟩
  unfold cCl
  rcases (show i = 0 ∨ i = 1 ∨ i = 2 ∨ i = 3 ∨ i = 4 by omega) with rfl | rfl | rfl | rfl | rfl
  · rw [stI_ni (by decide), stI_ni (by decide), stI_ni (by decide), stI_me, vs_no (by omega)]; rfl
  · rw [stI_ni (by decide), stI_ni (by decide), stI_me, vs_no (by omega)]; rfl
  · rw [stI_ni (by decide), stI_me, vs_no (by omega)]; rfl
  · rw [stI_me, vs_no (by omega)]; rfl
  · rw [stI_ni (by decide), stI_ni (by decide), stI_ni (by decide), stI_ni (by decide), vs_me]; exact h
theorem TP_0 {S : GS} {tx : Nat → Nat} {n : Nat} (h1 : S.1 11 1 = nI n) (h2 : ∀ i, i < n → S.1 12 i = nI (tx i)) : TP (stI S 11 2 (nI 0)) tx n 0 := ⟨by rw [stI_ni (by decide)]; exact h1, stI_me _ _ _ _, fun i hi => by rw [stI_no (by decide)]; exact h2 i hi, Nat.zero_le _⟩
