/-! SETS AS NUMBERS -/
def bset (P : Nat → Bool) : Nat → Nat
  | 0 => 0
  | n + 1 => bset P n + (if P n = true then 2 ^ n else 0)
def cntB (P : Nat → Bool) : Nat → Nat
  | 0 => 0
  | n + 1 => cntB P n + (if P n = true then 1 else 0)
def allB (P : Nat → Bool) : Nat → Bool
  | 0 => true
  | n + 1 => allB P n && P n
def popc (s : Nat) : Nat := s % 2 + s / 2 % 2 + s / 4 % 2 + s / 8 % 2 + s / 16 % 2 + s / 32 % 2
theorem bset_lt (P : Nat → Bool) : ∀ n, bset P n < 2 ^ n
  | 0 => by simp [bset]
  | n + 1 => by
    have := bset_lt P n
    rw [bset, Nat.pow_succ]
    split <;> omega
theorem bset_64 {P : Nat → Bool} {n : Nat} (h : n ≤ 6) : bset P n < 64 := Nat.lt_of_lt_of_le (bset_lt P n) (Nat.le_trans (Nat.pow_le_pow_right (by decide) h) (by decide))
theorem bset_32 {P : Nat → Bool} {n : Nat} (h : n ≤ 5) : bset P n < 32 := Nat.lt_of_lt_of_le (bset_lt P n) (Nat.le_trans (Nat.pow_le_pow_right (by decide) h) (by decide))
theorem cntB_le (P : Nat → Bool) : ∀ n, cntB P n ≤ n
  | 0 => Nat.le_refl _
  | n + 1 => by
    have := cntB_le P n
    rw [cntB]
    split <;> omega
theorem cntB_congr {P Q : Nat → Bool} : ∀ n, (∀ k, k < n → P k = Q k) → cntB P n = cntB Q n
  | 0, _ => rfl
  | n + 1, h => by rw [cntB, cntB, cntB_congr n (fun k hk => h k (by omega)), h n (by omega)]
theorem allB_congr {P Q : Nat → Bool} : ∀ n, (∀ k, k < n → P k = Q k) → allB P n = allB Q n
  | 0, _ => rfl
  | n + 1, h => by rw [allB, allB, allB_congr n (fun k hk => h k (by omega)), h n (by omega)]
theorem t_or : ∀ i : Fin 6, ∀ a : Fin 64, a.1 < 2 ^ i.1 → nI a.1 ||| nI 1 <<< (nI i.1 &&& 31) = nI (a.1 + 2 ^ i.1) := by decide +kernel
theorem t_pop : ∀ n : Fin 6, ∀ s : Fin 64, s.1 < 2 ^ n.1 → popc (s.1 + 2 ^ n.1) = popc s.1 + 1 := by decide +kernel
theorem t_bit : ∀ n : Fin 6, ∀ s : Fin 64, ∀ k : Fin 6, s.1 < 2 ^ n.1 → k.1 ≤ n.1 → (s.1 + 2 ^ n.1).testBit k.1 = (decide (k.1 = n.1) || s.1.testBit k.1) := by decide +kernel
theorem t_bit0 : ∀ n : Fin 6, ∀ s : Fin 64, s.1 < 2 ^ n.1 → s.1.testBit n.1 = false := by decide +kernel
theorem t_andn : ∀ a : Fin 32, ∀ b : Fin 32, nI a.1 &&& (nI b.1 ^^^ (-1)) = nI (a.1 - (a.1 &&& b.1)) := by decide +kernel
theorem t_has : ∀ a : Fin 64, ∀ k : Fin 6, (nI a.1 >>> (nI k.1 &&& 31) &&& nI 1 = nI 1) ↔ a.1.testBit k.1 = true := by decide +kernel
theorem t_cnt : ∀ n : Fin 6, ∀ a : Fin 32, a.1 < 2 ^ n.1 → popc a.1 = cntB (fun k => a.1.testBit k) n.1 := by decide +kernel
theorem t_sub : ∀ n : Fin 6, ∀ a : Fin 32, ∀ b : Fin 32, a.1 < 2 ^ n.1 → b.1 < 2 ^ n.1 → ((a.1 - (a.1 &&& b.1) = 0) ↔ allB (fun k => !a.1.testBit k || b.1.testBit k) n.1 = true) := by decide +kernel
theorem t_dif : ∀ n : Fin 6, ∀ a : Fin 32, ∀ b : Fin 32, a.1 < 2 ^ n.1 → b.1 < 2 ^ n.1 → popc (b.1 - (b.1 &&& a.1)) = cntB (fun k => b.1.testBit k && !a.1.testBit k) n.1 := by decide +kernel
theorem t_shl : ∀ k : Fin 6, nI 1 <<< (nI k.1 &&& 31) = nI (2 ^ k.1) := by decide +kernel
theorem popc_bset {P : Nat → Bool} : ∀ n, n ≤ 6 → popc (bset P n) = cntB P n
  | 0, _ => by rw [bset, cntB]; decide
  | n + 1, h => by
    have ih := popc_bset (P := P) n (by omega)
    rw [bset, cntB]
    by_cases c : P n = true
    · rw [if_pos c, if_pos c, t_pop ⟨n, by omega⟩ ⟨bset P n, bset_64 (by omega)⟩ (bset_lt P n), ih]
    · rw [if_neg c, if_neg c, Nat.add_zero, Nat.add_zero, ih]
theorem bset_bit {P : Nat → Bool} {k : Nat} : ∀ n, n ≤ 6 → k < n → (bset P n).testBit k = P k
  | 0, _, h => absurd h (by omega)
  | n + 1, h, hk => by
    rw [bset]
    by_cases c : P n = true
    · rw [if_pos c, t_bit ⟨n, by omega⟩ ⟨bset P n, bset_64 (by omega)⟩ ⟨k, by omega⟩ (bset_lt P n) (by show k ≤ n; omega)]
      by_cases e : k = n
      · subst e
        simp [c]
      · simp only [e, decide_false, Bool.false_or]
        exact bset_bit n (by omega) (by omega)
    · rw [if_neg c, Nat.add_zero]
      by_cases e : k = n
      · subst e
        rw [t_bit0 ⟨k, by omega⟩ ⟨bset P k, bset_64 (by omega)⟩ (bset_lt P k)]
        simpa using c
      · exact bset_bit n (by omega) (by omega)
theorem fold_bset {P : Nat → Bool} {f : Nat → Int32 → Int32} (hf : ∀ i v, f i v = if P i = true then v ||| nI 1 <<< (nI i &&& 31) else v) : ∀ n i, i + n ≤ 6 → foldN f n i (nI (bset P i)) = nI (bset P (i + n)) := by
  intro n
  induction n with
  | zero => intro i _; rfl
  | succ n ih =>
    intro i hi
    simp only [foldN]
    rw [hf i]
    have e : (if P i = true then nI (bset P i) ||| nI 1 <<< (nI i &&& 31) else nI (bset P i)) = nI (bset P (i + 1)) := by
      rw [bset]
      by_cases c : P i = true
      · rw [if_pos c, if_pos c, t_or ⟨i, by omega⟩ ⟨bset P i, bset_64 (by omega)⟩ (bset_lt P i)]
      · rw [if_neg c, if_neg c, Nat.add_zero]
    rw [e, ih (i + 1) (by omega), show i + 1 + n = i + (n + 1) by omega]
def goneP (V : VR) (m : Nat) : Bool := decide (vG V m)
def sentP (V : VR) (k : Nat) : Bool := decide (V 7 k ≠ 0)
def gN (V : VR) : Nat := bset (goneP V) (V 0 0)
theorem gN_lt {V : VR} (ho : Ok V) : gN V < 64 := bset_64 ho.1
theorem goneV_gN {V : VR} (ho : Ok V) : goneV V = nI (gN V) := by
  have := fold_bset (P := goneP V) (f := fun i v => if vG V i then v ||| nI 1 <<< (nI i &&& 31) else v) (fun i v => by
    unfold goneP
    by_cases c : vG V i
    · rw [if_pos c, if_pos (decide_eq_true c)]
    · rw [if_neg c, if_neg (fun z => c (of_decide_eq_true z))]) (V 0 0) 0 (by have := ho.1; omega)
  rw [Nat.zero_add] at this
  exact this
theorem sentV_c {S : GS} {b : Nat} {V : VR} (h : HC S b V) (ho : Ok V) : foldN (fun i v => if S.1 (b + 7) i < 0 then v else v ||| nI 1 <<< (nI i &&& 31)) (V 0 1) 0 (nI 0) = nI (bset (sentP V) (V 0 1)) := by
  have e := fold_bset (P := sentP V) (f := fun i v => if sentP V i = true then v ||| nI 1 <<< (nI i &&& 31) else v) (fun _ _ => rfl) (V 0 1) 0 (by have := ho.2.1; omega)
  rw [Nat.zero_add] at e
  rw [← e]
  refine foldN_congr _ _ _ (fun j v _ h2 => ?_)
  have hj : j < V 0 1 := by omega
  rw [(h.2.2 j hj).2.2]
  unfold sentP
  have o7 := (ho.2.2.2 j hj).2.2
  have o1 := ho.1
  by_cases c : V 7 j = 0
  · rw [c, sI_0, if_pos (by decide)]
    simp
  · rw [show sI (V 7 j) = nI (V 7 j - 1) from if_neg c, if_neg (nI_pos (by omega))]
    simp [c]
/-- the weight of a set of ill ones -/
def wN (B A : Nat → Bool) (c d : Nat) : Nat → Nat
  | 0 => 1
  | k + 1 => wN B A c d k * (if B k = true then (if A k = true then c else d) else (if A k = true then 0 else 1))
theorem wN_eq (B A : Nat → Bool) (c d : Nat) : ∀ n, wN B A c d n = if allB (fun k => !A k || B k) n = true then c ^ cntB A n * d ^ cntB (fun k => B k && !A k) n else 0 := by
  intro n
  induction n with
  | zero => rfl
  | succ n ih =>
    rw [wN, ih, allB, cntB, cntB]
    by_cases h : allB (fun k => !A k || B k) n = true
    · rw [if_pos h, h]
      cases ha : A n <;> cases hb : B n <;> simp [Nat.pow_succ, Nat.mul_assoc, Nat.mul_comm, Nat.mul_left_comm]
    · rw [if_neg h]
      have : allB (fun k => !A k || B k) n = false := by simpa using h
      rw [this]
      simp
theorem wN_le {B A : Nat → Bool} {c d : Nat} (hc : c ≤ 10) (hd : d ≤ 10) : ∀ n, wN B A c d n ≤ 10 ^ n := by
  intro n
  induction n with
  | zero => exact Nat.le_refl _
  | succ n ih =>
    rw [wN, Nat.pow_succ]
    refine Nat.mul_le_mul ih ?_
    split
    · split <;> omega
    · split <;> omega
theorem wN_congr {B B' A A' : Nat → Bool} {c d : Nat} : ∀ n, (∀ k, k < n → B k = B' k ∧ A k = A' k) → wN B A c d n = wN B' A' c d n
  | 0, _ => rfl
  | n + 1, h => by rw [wN, wN, wN_congr n (fun k hk => h k (by omega)), (h n (by omega)).1, (h n (by omega)).2]
def wV (V : VR) (c a : Nat) : Nat := wN (sentP V) (fun k => a.testBit k) c (10 - c) (V 0 1)
theorem wV_c {V : VR} {c a : Nat} (h5 : V 0 1 ≤ 5) (ha : a < 2 ^ V 0 1) : wV V c a = if a - (a &&& bset (sentP V) (V 0 1)) = 0 then c ^ popc a * (10 - c) ^ popc (bset (sentP V) (V 0 1) - (bset (sentP V) (V 0 1) &&& a)) else 0 := by
  have a32 : a < 32 := Nat.lt_of_lt_of_le ha (Nat.le_trans (Nat.pow_le_pow_right (by decide) h5) (by decide))
  have b32 : bset (sentP V) (V 0 1) < 32 := bset_32 h5
  have hb := bset_lt (sentP V) (V 0 1)
  have s1 := t_sub ⟨V 0 1, by omega⟩ ⟨a, a32⟩ ⟨_, b32⟩ ha hb
  have s2 := t_dif ⟨V 0 1, by omega⟩ ⟨a, a32⟩ ⟨_, b32⟩ ha hb
  have s3 := t_cnt ⟨V 0 1, by omega⟩ ⟨a, a32⟩ ha
  have key : ∀ k, k < V 0 1 → (bset (sentP V) (V 0 1)).testBit k = sentP V k := fun k hk => bset_bit (V 0 1) (by omega) hk
  rw [cntB_congr (Q := fun k => sentP V k && !a.testBit k) _ (fun k hk => by show ((bset (sentP V) (V 0 1)).testBit k && !a.testBit k) = _; rw [key k hk])] at s2
  rw [allB_congr (Q := fun k => !a.testBit k || sentP V k) _ (fun k hk => by show (!a.testBit k || (bset (sentP V) (V 0 1)).testBit k) = _; rw [key k hk])] at s1
  unfold wV
  rw [wN_eq, s3, s2]
  by_cases z : a - (a &&& bset (sentP V) (V 0 1)) = 0
  · rw [if_pos z, if_pos (s1.mp z)]
  · rw [if_neg z, if_neg (fun y => z (s1.mpr y))]
def chN (V : VR) (m c a : Nat) : Nat := if popc (gN (vPD V (nI a))) < m then 0 else wV V c a
theorem chN_le {V : VR} {m c a : Nat} (h5 : V 0 1 ≤ 5) (hc : c ≤ 10) : chN V m c a ≤ 100000 := by
  unfold chN
  split
  · omega
  · exact Nat.le_trans (wN_le hc (by omega) _) (Nat.le_trans (Nat.pow_le_pow_right (by decide) h5) (by decide))
def upF (V : VR) (m c : Nat) (n a u : Nat) : Nat := foldN (fun a u => u + chN V m c a) n a u
def upN (V : VR) (m c : Nat) : Nat := upF V m c (2 ^ V 0 1) 0 0
theorem upF_le {V : VR} {m c : Nat} (h5 : V 0 1 ≤ 5) (hc : c ≤ 10) : ∀ (n a u : Nat), upF V m c n a u ≤ u + n * 100000 := by
  intro n
  induction n with
  | zero => intro a u; exact Nat.le_refl _
  | succ n ih =>
    intro a u
    have := ih (a + 1) (u + chN V m c a)
    have h := chN_le (V := V) (m := m) (a := a) h5 hc
    show upF V m c n (a + 1) (u + chN V m c a) ≤ _
    omega
def dnN (V : VR) : Nat := 10 ^ cntB (sentP V) (V 0 1)
theorem dnN_in {V : VR} (h5 : V 0 1 ≤ 5) : 0 < dnN V ∧ dnN V ≤ 100000 := by
  refine ⟨Nat.pow_pos (by decide), ?_⟩
  have := cntB_le (sentP V) (V 0 1)
  exact Nat.le_trans (Nat.pow_le_pow_right (by decide) (show cntB (sentP V) (V 0 1) ≤ 5 by omega)) (by decide)
theorem upN_lt {V : VR} {m c : Nat} (h5 : V 0 1 ≤ 5) (hc : c ≤ 10) : upN V m c ≤ 3200000 := by
  have := upF_le (m := m) h5 hc (2 ^ V 0 1) 0 0
  have h2 : 2 ^ V 0 1 ≤ 32 := Nat.le_trans (Nat.pow_le_pow_right (by decide) h5) (by decide)
  unfold upN
  omega
/-- Euclid, in so many steps -/
def eu : Nat → Nat → Nat → Nat
  | 0, a, _ => a
  | n + 1, a, b => if b = 0 then a else eu n b (a % b)
theorem eu_0 (n a : Nat) : eu n a 0 = a := by cases n <;> simp [eu]
theorem gcd_st (a b : Nat) : Nat.gcd b (a % b) = Nat.gcd a b := by rw [Nat.gcd_comm b (a % b), ← Nat.gcd_rec b a, Nat.gcd_comm]
theorem eu_gcd : ∀ (k a b n : Nat), b < 2 ^ k → 2 * k ≤ n → eu n a b = Nat.gcd a b := by
  intro k
  induction k with
  | zero => intro a b n hb _; have : b = 0 := by simpa using hb
            subst this; rw [eu_0, Nat.gcd_zero_right]
  | succ k ih =>
    intro a b n hb hn
    obtain ⟨n, rfl⟩ : ∃ m, n = m + 2 := ⟨n - 2, by omega⟩
    rw [eu]
    by_cases c : b = 0
    · rw [if_pos c, c, Nat.gcd_zero_right]
    · rw [if_neg c, eu, ← gcd_st a b]
      by_cases d : a % b = 0
      · rw [if_pos d, d, Nat.gcd_zero_right]
      · rw [if_neg d, ← gcd_st b (a % b)]
        refine ih _ _ _ ?_ (by omega)
        have h1 : a % b < b := Nat.mod_lt _ (by omega)
        have h2 : b % (a % b) < a % b := Nat.mod_lt _ (by omega)
        have h3 : a % b + b % (a % b) ≤ b := by
          have e := Nat.div_add_mod b (a % b)
          have q : 1 ≤ b / (a % b) := (Nat.one_le_div_iff (by omega)).mpr (by omega)
          have := Nat.mul_le_mul_left (a % b) q
          omega
        rw [Nat.pow_succ] at hb
        omega
def aSlip (V : VR) (x y z : Int32) : Int32 := if inB x 0 6 ∧ inB y 0 10 ∧ inB z 0 1 then (if z = 0 then nI (upN V x.toNatClampNeg y.toNatClampNeg / Nat.gcd (upN V x.toNatClampNeg y.toNatClampNeg) (dnN V)) else nI (dnN V / Nat.gcd (upN V x.toNatClampNeg y.toNatClampNeg) (dnN V))) else -1
theorem aSlip_n {V : VR} {x y z : Int32} (h : ¬ (inB x 0 6 ∧ inB y 0 10 ∧ inB z 0 1)) : aSlip V x y z = -1 := if_neg h
theorem aSlip_y {V : VR} {m c : Nat} {z : Int32} (hm : m ≤ 6) (hc : c ≤ 10) (hz : inB z 0 1) : aSlip V (nI m) (nI c) z = if z = 0 then nI (upN V m c / Nat.gcd (upN V m c) (dnN V)) else nI (dnN V / Nat.gcd (upN V m c) (dnN V)) := by
  unfold aSlip
  rw [if_pos ⟨inB_nI (by omega) hm (by decide), inB_nI (by omega) hc (by decide), hz⟩, nI_clamp (by omega), nI_clamp (by omega)]
def sh32 (x k : Int32) : Int32 := (x.toUInt32 >>> (k.toUInt32 &&& Int32.toUInt32 31)).toInt32
def bc1 (x : Int32) : Int32 := x - (sh32 x (nI 1) &&& nI 1431655765)
def bc2 (x : Int32) : Int32 := (x &&& nI 858993459) + (sh32 x (nI 2) &&& nI 858993459)
def bc3 (x : Int32) : Int32 := x + sh32 x (nI 4) &&& nI 252645135
def bc4 (x : Int32) : Int32 := x + sh32 x (nI 8)
def bc5 (x : Int32) : Int32 := x + sh32 x (nI 16)
theorem t_bc : ∀ s : Fin 64, bc5 (bc4 (bc3 (bc2 (bc1 (nI s.1))))) &&& nI 63 = nI (popc s.1) := by decide +kernel
