/-! SENDS: whose fate hangs on whom; the first best of all ways to send -/
theorem t_shl32 : ∀ k : Fin 32, nI 1 <<< (nI k.1 &&& 31) = nI (2 ^ k.1) := by decide +kernel
theorem t_u31 : ∀ k : Fin 32, (((nI k.1).toUInt32 &&& Int32.toUInt32 31).toBitVec % 32).toNat = k.1 := by decide +kernel
theorem or_nI (a b : Nat) : nI a ||| nI b = nI (a ||| b) := by
  apply Int32.toBitVec_inj.mp
  rw [Int32.toBitVec_or]
  show BitVec.ofNat 32 a ||| BitVec.ofNat 32 b = BitVec.ofNat 32 (a ||| b)
  apply BitVec.eq_of_toNat_eq
  rw [BitVec.toNat_or, BitVec.toNat_ofNat, BitVec.toNat_ofNat, BitVec.toNat_ofNat, Nat.or_mod_two_pow]
theorem or_pow {s c : Nat} (hs : s < 2 ^ c) (hc : c < 32) : nI s ||| nI 1 <<< (nI c &&& 31) = nI (s + 2 ^ c) := by
  rw [t_shl32 ⟨c, hc⟩, or_nI]
  have := Nat.two_pow_add_eq_or_of_lt hs 1
  rw [Nat.mul_one] at this
  rw [Nat.or_comm, ← this, Nat.add_comm]
theorem bset_bitG {P : Nat → Bool} {k : Nat} : ∀ n, k < n → (bset P n).testBit k = P k
  | 0, h => absurd h (by omega)
  | n + 1, hk => by
    rw [bset]
    by_cases e : k = n
    · subst e
      have z : (bset P k).testBit k = false := Nat.testBit_lt_two_pow (bset_lt P k)
      by_cases c : P k = true
      · rw [if_pos c, Nat.add_comm, Nat.testBit_two_pow_add_eq, z, c]
        rfl
      · rw [if_neg c, Nat.add_zero, z]
        simpa using c
    · by_cases c : P n = true
      · rw [if_pos c, Nat.add_comm, Nat.testBit_two_pow_add_gt (by omega)]
        exact bset_bitG n (by omega)
      · rw [if_neg c, Nat.add_zero]
        exact bset_bitG n (by omega)
theorem bset_congr {P Q : Nat → Bool} : ∀ n, (∀ k, k < n → P k = Q k) → bset P n = bset Q n
  | 0, _ => rfl
  | n + 1, h => by rw [bset, bset, bset_congr n (fun k hk => h k (by omega)), h n (by omega)]
theorem bset_u {P : Nat → Bool} {n a : Nat} (hn : n ≤ 32) (ha : a < n) : ((nI (bset P n)).toUInt32 >>> ((nI a).toUInt32 &&& Int32.toUInt32 31)).toInt32 &&& nI 1 = nI (if P a = true then 1 else 0) := by
  have hb : bset P n < 2 ^ 32 := Nat.lt_of_lt_of_le (bset_lt P n) (Nat.pow_le_pow_right (by decide) hn)
  rw [pk_ushrN hb (nI a) a (t_u31 ⟨a, by omega⟩), pk_andN (Nat.lt_of_le_of_lt (Nat.div_le_self _ _) hb) 1 (by decide)]
  have := bset_bitG (P := P) n ha
  rw [Nat.testBit_eq_decide_div_mod_eq] at this
  congr 1
  rw [← this]
  by_cases c : bset P n / 2 ^ a % 2 = 1
  · simp [c]
  · have : bset P n / 2 ^ a % 2 = 0 := by omega
    simp [this]
theorem nI_eq032 {a : Nat} (h : a < 2 ^ 32) : nI a = 0 ↔ a = 0 := by
  constructor
  · intro e
    have q : (nI a).toBitVec.toNat = (0 : Int32).toBitVec.toNat := by rw [e]
    rw [pk_tn h] at q
    exact q
  · intro e
    rw [e]
    rfl
theorem bset_pos {P : Nat → Bool} {n a : Nat} (ha : a < n) (h : P a = true) : bset P n ≠ 0 := by
  intro e
  have := bset_bitG (P := P) n ha
  rw [e, h, Nat.zero_testBit] at this
  cases this
theorem cntB_mono {P Q : Nat → Bool} : ∀ n, (∀ k, k < n → P k = true → Q k = true) → cntB P n ≤ cntB Q n
  | 0, _ => Nat.le_refl _
  | n + 1, h => by
    have ih := cntB_mono n (fun k hk => h k (by omega))
    have := h n (by omega)
    rw [cntB, cntB]
    by_cases c : P n = true
    · rw [if_pos c, if_pos (this c)]
      omega
    · rw [if_neg c]
      split <;> omega
theorem foldN_add {α : Type} {f : Nat → α → α} : ∀ (a b i : Nat) (s : α), foldN f (a + b) i s = foldN f b (i + a) (foldN f a i s) := by
  intro a
  induction a with
  | zero => intro b i s; rw [Nat.zero_add, Nat.add_zero]; rfl
  | succ a ih =>
    intro b i s
    rw [show a + 1 + b = (a + b) + 1 by omega]
    show foldN f (a + b) (i + 1) (f i s) = foldN f b (i + (a + 1)) (foldN f a (i + 1) (f i s))
    rw [ih b (i + 1), show i + 1 + a = i + (a + 1) by omega]
theorem foldN_mul {α : Type} {f : Nat → α → α} (q b : Nat) : ∀ (r i : Nat) (s : α), foldN f (r * q) (b + i * q) s = foldN (fun j s => foldN f q (b + j * q) s) r i s := by
  intro r
  induction r with
  | zero => intro i s; rw [Nat.zero_mul]; rfl
  | succ r ih =>
    intro i s
    rw [Nat.succ_mul, Nat.add_comm (r * q) q, foldN_add, show b + i * q + q = b + (i + 1) * q by rw [Nat.succ_mul]; omega, ih (i + 1)]
    rfl
theorem foldN_fix {α : Type} {f : Nat → α → α} {s : α} (h : ∀ i, f i s = s) : ∀ (n i : Nat), foldN f n i s = s := by
  intro n
  induction n with
  | zero => intro i; rfl
  | succ n ih => intro i; show foldN f n (i + 1) (f i s) = s; rw [h i]; exact ih (i + 1)
/-- a day of a crew at one mark -/
def vCk (m a k : Nat) (U : VR) : VR := if a.testBit k = true ∧ vC U k m then vRub U k m else U
def vCw (m a : Nat) (U : VR) : VR := foldN (vCk m a) (U 0 1) 0 U
def vCn (m a n : Nat) (V : VR) : VR := foldN (fun _ U => vCw m a U) n 0 V
def fate (V : VR) (n m a : Nat) : Bool := decide (vG (vCn m a n V) m)
theorem vCk_hd {m a k i : Nat} {U : VR} (h : i ≠ 3) : vCk m a k U 0 i = U 0 i := by
  unfold vCk
  split
  · exact vRub_hd h
  · rfl
theorem Ok_Ck {m a k : Nat} {U : VR} (ho : Ok U) (hk : k < U 0 1) (hm : m < U 0 0) : Ok (vCk m a k U) := by
  unfold vCk
  split
  · exact Ok_rub ho hk hm
  · exact ho
theorem vCf_in {m a : Nat} : ∀ (n k : Nat) (U : VR), Ok U → k + n ≤ U 0 1 → m < U 0 0 → Ok (foldN (vCk m a) n k U) ∧ ∀ i, i ≠ 3 → foldN (vCk m a) n k U 0 i = U 0 i := by
  intro n
  induction n with
  | zero => intro k U ho _ _; exact ⟨ho, fun _ _ => rfl⟩
  | succ n ih =>
    intro k U ho hk hm
    obtain ⟨a1, a2⟩ := ih (k + 1) (vCk m a k U) (Ok_Ck ho (by omega) hm) (by rw [vCk_hd (by decide)]; omega) (by rw [vCk_hd (by decide)]; exact hm)
    exact ⟨a1, fun i hi => (a2 i hi).trans (vCk_hd hi)⟩
theorem vCw_in {m a : Nat} {U : VR} (ho : Ok U) (hm : m < U 0 0) : Ok (vCw m a U) ∧ ∀ i, i ≠ 3 → vCw m a U 0 i = U 0 i := vCf_in (U 0 1) 0 U ho (by omega) hm
theorem well0 {k : Nat} (h : k < 6) : wellP (nI 0) k := by
  have : ∀ k : Fin 6, wellP (nI 0) k.1 := by decide +kernel
  exact this ⟨k, h⟩
/-- alike at the mark m and in its crew A -/
def EI (m : Nat) (A : Nat → Bool) (U W : VR) : Prop := (∀ f, 1 ≤ f → f ≤ 4 → U f m = W f m) ∧ ∀ k, A k = true → U 5 k = W 5 k ∧ U 6 k = W 6 k
theorem EI_in {m k : Nat} {A : Nat → Bool} {U W : VR} (h : EI m A U W) (hk : A k = true) : (vC U k m ↔ vC W k m) ∧ EI m A (vRub U k m) (vRub W k m) := by
  obtain ⟨h1, h2⟩ := h
  have e1 := h1 1 (by decide) (by decide)
  have e2 := h1 2 (by decide) (by decide)
  have e3 := h1 3 (by decide) (by decide)
  have e4 := h1 4 (by decide) (by decide)
  obtain ⟨e5, e6⟩ := h2 k hk
  have d1 : rbD U k m = rbD W k m := by unfold rbD; rw [e1, e5, e6]
  have d2 : rbA U k m = rbA W k m := by unfold rbA; rw [e2, e5, e6]
  have d3 : rbW U k m = rbW W k m := by unfold rbW; rw [e4, e5]
  refine ⟨by unfold vC vG vT; rw [e1, e3, e4, e6], fun f f1 f4 => ?_, fun i hi => ?_⟩
  · rcases (show f = 1 ∨ f = 2 ∨ f = 3 ∨ f = 4 by omega) with rfl | rfl | rfl | rfl
    · simp [vRub, rbO, d1, d3, e3]
    · simp [vRub, e2]
    · simp [vRub, rbO, d1, d3, e3]
    · simp [vRub, d3]
  · obtain ⟨g5, g6⟩ := h2 i hi
    refine ⟨by simp [vRub, g5], ?_⟩
    by_cases c : i = k
    · subst c
      simp [vRub, d2]
    · simp [vRub, c, g6]
theorem EI_out {m m' k : Nat} {A : Nat → Bool} {U W : VR} (h : EI m A U W) (hk : ¬ A k = true) (hm : m' ≠ m) : EI m A (vRub U k m') W := by
  obtain ⟨h1, h2⟩ := h
  refine ⟨fun f f1 f4 => ?_, fun i hi => ?_⟩
  · rw [← h1 f f1 f4]
    have : ¬ m = m' := fun z => hm z.symm
    have f0 : ¬ f = 0 := by omega
    have f6 : ¬ f = 6 := by omega
    simp [vRub, this, f0, f6]
  · obtain ⟨g5, g6⟩ := h2 i hi
    have c : ¬ i = k := fun z => hk (z ▸ hi)
    exact ⟨by simp [vRub, g5], by simp [vRub, c, g6]⟩
theorem EI_step {m a k : Nat} {A : Nat → Bool} {g : Nat → Nat} {U W : VR} (h : EI m A U W) (hk : k < 6) (h7 : U 7 k = g k + 1) (hA : A k = decide (g k = m)) (ha : a.testBit k = A k) : EI m A (vP1 (nI 0) k U) (vCk m a k W) := by
  unfold vP1 vCk
  rw [h7, Nat.add_sub_cancel]
  by_cases c : g k = m
  · have ak : A k = true := by rw [hA]; exact decide_eq_true c
    obtain ⟨q1, q2⟩ := EI_in h ak
    rw [c]
    by_cases d : vC W k m
    · rw [if_pos ⟨well0 hk, by omega, q1.mpr d⟩, if_pos ⟨by rw [ha, ak], d⟩]
      exact q2
    · rw [if_neg (fun z => d (q1.mp z.2.2)), if_neg (fun z => d z.2)]
      exact h
  · have ak : ¬ A k = true := by rw [hA]; exact fun z => c (of_decide_eq_true z)
    have e2 : (if a.testBit k = true ∧ vC W k m then vRub W k m else W) = W := if_neg (fun z => ak (by rw [← ha]; exact z.1))
    rw [e2]
    split
    · exact EI_out h ak c
    · exact h
theorem vP1_7 {ill : Int32} {k : Nat} {U : VR} : vP1 ill k U 7 = U 7 := by
  unfold vP1
  split
  · exact vRub_7
  · rfl
theorem EI_day {m a : Nat} {A : Nat → Bool} {g : Nat → Nat} : ∀ (n k : Nat) (U W : VR), k + n ≤ 6 → EI m A U W → (∀ j, j < k + n → U 7 j = g j + 1) → (∀ j, j < k + n → A j = decide (g j = m) ∧ a.testBit j = A j) → EI m A (foldN (vP1 (nI 0)) n k U) (foldN (vCk m a) n k W) := by
  intro n
  induction n with
  | zero => intro k U W _ h _ _; exact h
  | succ n ih =>
    intro k U W hk h h7 hA
    exact ih (k + 1) _ _ (by omega) (EI_step h (by omega) (h7 k (by omega)) (hA k (by omega)).1 (hA k (by omega)).2) (fun j hj => by rw [vP1_7]; exact h7 j (by omega)) (fun j hj => hA j (by omega))
theorem EI_days {m a K : Nat} {A : Nat → Bool} {g : Nat → Nat} (hK : K ≤ 5) (hA : ∀ j, j < K → A j = decide (g j = m) ∧ a.testBit j = A j) : ∀ (n i : Nat) (U W : VR), EI m A U W → U 0 1 = K → W 0 1 = K → Ok W → m < W 0 0 → (∀ j, j < K → U 7 j = g j + 1) → EI m A (foldN (fun _ U => vPD U (nI 0)) n i U) (foldN (fun _ U => vCw m a U) n i W) := by
  intro n
  induction n with
  | zero => intro i U W h _ _ _ _ _; exact h
  | succ n ih =>
    intro i U W h hu hw ho hm h7
    obtain ⟨o1, o2⟩ := vCw_in (m := m) (a := a) ho hm
    refine ih (i + 1) (vPD U (nI 0)) (vCw m a W) ?_ (by rw [vPD_hd (by decide) (by decide)]; exact hu) (by rw [o2 1 (by decide)]; exact hw) o1 (by rw [o2 0 (by decide)]; exact hm) (fun j hj => ?_)
    · have q := EI_day (m := m) (a := a) (A := A) (g := g) K 0 U W (by omega) h (by rw [Nat.zero_add]; exact h7) (by rw [Nat.zero_add]; exact hA)
      unfold vPD vCw
      rw [hu, hw]
      refine ⟨fun f f1 f4 => ?_, fun k hk => ?_⟩
      · unfold vDay
        rw [if_neg (by omega)]
        exact q.1 f f1 f4
      · unfold vDay
        rw [if_neg (by omega), if_neg (by omega)]
        exact q.2 k hk
    · rw [vPD_far (by omega)]
      exact h7 j hj
/-- all sent as g says -/
def vA (V : VR) (g : Nat → Nat) : VR := fun f i => if f = 7 then g i + 1 else V f i
def crewB (g : Nat → Nat) (m K : Nat) : Nat := bset (fun k => decide (g k = m)) K
def scC (V : VR) (n : Nat) (g : Nat → Nat) : Nat := cntB (fun m => fate V n m (crewB g m (V 0 1))) (V 0 0)
theorem Ok_A {V : VR} {g : Nat → Nat} (ho : Ok V) (hg : ∀ k, k < V 0 1 → g k < V 0 0) : Ok (vA V g) := by
  refine ⟨ho.1, ho.2.1, ho.2.2.1, fun k hk => ?_⟩
  have q := ho.2.2.2 k hk
  refine ⟨q.1, q.2.1, ?_⟩
  show g k + 1 ≤ V 0 0
  have := hg k hk
  omega
theorem fate_eq {V : VR} {g : Nat → Nat} {n m : Nat} (ho : Ok V) (hm : m < V 0 0) : goneP (vDays (vA V g) n) m = fate V n m (crewB g m (V 0 1)) := by
  have h5 := ho.2.1
  have e := EI_days (m := m) (a := crewB g m (V 0 1)) (K := V 0 1) (A := fun k => decide (g k = m)) (g := g) h5 (fun j hj => ⟨rfl, bset_bitG (V 0 1) hj⟩) n 0 (vA V g) V
    ⟨fun f f1 f4 => by unfold vA; rw [if_neg (by omega)], fun k _ => ⟨rfl, rfl⟩⟩ rfl rfl ho hm (fun j _ => rfl)
  have e1 := e.1 1 (by decide) (by decide)
  have e3 := e.1 3 (by decide) (by decide)
  unfold goneP fate vDays vCn vG
  rw [e1, e3]
theorem sdsc_eq {V : VR} {g : Nat → Nat} {n : Nat} (ho : Ok V) : cntB (goneP (vDays (vA V g) n)) (V 0 0) = scC V n g := cntB_congr _ (fun _ hm => fate_eq ho hm)
theorem scC_congr {V : VR} {g g' : Nat → Nat} {n : Nat} (h : ∀ k, k < V 0 1 → g k = g' k) : scC V n g = scC V n g' := by
  unfold scC crewB
  refine cntB_congr _ (fun m _ => ?_)
  rw [bset_congr (Q := fun k => decide (g' k = m)) _ (fun k hk => by rw [h k hk])]
theorem scC_le {V : VR} {g : Nat → Nat} {n : Nat} : scC V n g ≤ V 0 0 := cntB_le _ _
def lmN (V : VR) (n : Nat) : Nat := cntB (fun m => decide (bset (fate V n m) (2 ^ V 0 1) ≠ 0)) (V 0 0)
theorem scC_lm {V : VR} {g : Nat → Nat} {n : Nat} : scC V n g ≤ lmN V n := cntB_mono _ (fun m _ h => decide_eq_true (bset_pos (bset_lt _ _) h))
/-- the marks of a way to send, as the digits of its number -/
def dg (M K c k : Nat) : Nat := c / M ^ (K - 1 - k) % M
def sdS (V : VR) (n c : Nat) (s : Nat × Nat) : Nat × Nat := if s.1 ≤ scC V n (dg (V 0 0) (V 0 1) c) then (scC V n (dg (V 0 0) (V 0 1) c) + 1, c) else s
def sdF (V : VR) (n : Nat) (q c : Nat) (s : Nat × Nat) : Nat × Nat := foldN (sdS V n) q c s
def sdAll (V : VR) (n : Nat) : Nat × Nat := sdF V n (V 0 0 ^ V 0 1) 0 (0, 0)
theorem sdS_in {V : VR} {n c : Nat} {s : Nat × Nat} (h : s.1 ≤ V 0 0 + 1) : (sdS V n c s).1 ≤ V 0 0 + 1 ∧ 0 < (sdS V n c s).1 := by
  have := scC_le (V := V) (n := n) (g := dg (V 0 0) (V 0 1) c)
  unfold sdS
  split
  · exact ⟨by show scC _ _ _ + 1 ≤ _; omega, by show 0 < scC _ _ _ + 1; omega⟩
  · exact ⟨h, by omega⟩
theorem sdF_in {V : VR} {n : Nat} : ∀ (q c : Nat) (s : Nat × Nat), s.1 ≤ V 0 0 + 1 → (sdF V n q c s).1 ≤ V 0 0 + 1 ∧ (0 < q ∨ 0 < s.1 → 0 < (sdF V n q c s).1) := by
  intro q
  induction q with
  | zero => intro c s h; exact ⟨h, fun z => by rcases z with z | z; exact absurd z (by decide); exact z⟩
  | succ q ih =>
    intro c s h
    obtain ⟨a1, a2⟩ := sdS_in (n := n) (c := c) h
    obtain ⟨b1, b2⟩ := ih (c + 1) (sdS V n c s) a1
    exact ⟨b1, fun _ => b2 (Or.inr a2)⟩
theorem sdF_stop {V : VR} {n q c : Nat} {s : Nat × Nat} (h : lmN V n < s.1) : sdF V n q c s = s := foldN_fix (fun i => by
  unfold sdS
  rw [if_neg (by have := scC_lm (V := V) (n := n) (g := dg (V 0 0) (V 0 1) i); omega)]) q c
theorem sdF_split {V : VR} {n q c : Nat} {s : Nat × Nat} : sdF V n (V 0 0 * q) (c * (V 0 0 * q)) s = foldN (fun j s => sdF V n q ((c * V 0 0 + j) * q) s) (V 0 0) 0 s := by
  have := foldN_mul (f := sdS V n) q (c * (V 0 0 * q)) (V 0 0) 0 s
  rw [Nat.zero_mul, Nat.add_zero] at this
  refine this.trans ?_
  refine foldN_congr _ _ _ (fun j v _ _ => ?_)
  unfold sdF
  rw [Nat.add_mul, Nat.mul_assoc]
def cdN (M : Nat) (g : Nat → Nat) : Nat → Nat
  | 0 => 0
  | d + 1 => cdN M g d * M + g d
theorem cdN_congr {M : Nat} {g g' : Nat → Nat} : ∀ d, (∀ k, k < d → g k = g' k) → cdN M g d = cdN M g' d
  | 0, _ => rfl
  | d + 1, h => by rw [cdN, cdN, cdN_congr d (fun k hk => h k (by omega)), h d (by omega)]
theorem cdN_div {M : Nat} {g : Nat → Nat} (h : ∀ k, g k < M) (d : Nat) : ∀ j, cdN M g (d + j) / M ^ j = cdN M g d
  | 0 => by rw [Nat.pow_zero, Nat.div_one, Nat.add_zero]
  | j + 1 => by
    have hM : 0 < M := Nat.lt_of_le_of_lt (Nat.zero_le _) (h 0)
    rw [show d + (j + 1) = (d + j) + 1 by omega, cdN, Nat.pow_succ, Nat.mul_comm (M ^ j) M, ← Nat.div_div_eq_div_mul, Nat.mul_comm (cdN M g (d + j)) M, Nat.mul_add_div hM, Nat.div_eq_of_lt (h (d + j)), Nat.add_zero]
    exact cdN_div h d j
theorem dg_cd {M K : Nat} {g : Nat → Nat} (h : ∀ k, g k < M) {k : Nat} (hk : k < K) : dg M K (cdN M g K) k = g k := by
  unfold dg
  have e := cdN_div h (k + 1) (K - 1 - k)
  rw [show k + 1 + (K - 1 - k) = K by omega] at e
  rw [e, cdN, Nat.mul_comm, Nat.mul_add_mod, Nat.mod_eq_of_lt (h k)]
def mI (t : Nat) : Int32 := if t = 0 then -1 else nI (t - 1)
theorem mI_le {a t : Nat} (ha : a < 1000) (ht : t < 1000) : nI a ≤ mI t ↔ a < t := by
  unfold mI
  by_cases c : t = 0
  · rw [if_pos c, Int32.le_iff_toInt_le, nI_toInt (by omega)]
    have : (-1 : Int32).toInt = -1 := rfl
    omega
  · rw [if_neg c, nI_leI (by omega) (by omega)]
    omega
theorem mI_ge {a t : Nat} (ha : a < 1000) (ht : t < 1000) : nI a ≤ mI t ↔ a < t := mI_le ha ht
theorem mI_s {t : Nat} : mI (t + 1) = nI t := by
  unfold mI
  rw [if_neg (by omega), Nat.add_sub_cancel]
def aSends (V : VR) (x y : Int32) : Int32 := if inB x 0 30 ∧ -1 ≤ y then (if V 0 0 = 0 then (if 0 ≤ y then -4 else nI 0) else if y < nI (V 0 1) then (if 0 ≤ y then nI (dg (V 0 0) (V 0 1) (sdAll V x.toNatClampNeg).2 y.toNatClampNeg) else mI (sdAll V x.toNatClampNeg).1) else -4) else -1
theorem aSends_n {V : VR} {x y : Int32} (h : ¬ (inB x 0 30 ∧ -1 ≤ y)) : aSends V x y = -1 := if_neg h
theorem aSends_0 {V : VR} {x y : Int32} (h : inB x 0 30) (h2 : -1 ≤ y) (h0 : V 0 0 = 0) : aSends V x y = if 0 ≤ y then -4 else nI 0 := by
  unfold aSends
  rw [if_pos ⟨h, h2⟩, if_pos h0]
theorem aSends_k {V : VR} {x y : Int32} (h : inB x 0 30) (h2 : -1 ≤ y) (h0 : ¬ V 0 0 = 0) (h3 : ¬ y < nI (V 0 1)) : aSends V x y = -4 := by
  unfold aSends
  rw [if_pos ⟨h, h2⟩, if_neg h0, if_neg h3]
theorem aSends_y {V : VR} {n : Nat} {y : Int32} (h : n ≤ 30) (h2 : -1 ≤ y) (h0 : ¬ V 0 0 = 0) (h3 : y < nI (V 0 1)) : aSends V (nI n) y = if 0 ≤ y then nI (dg (V 0 0) (V 0 1) (sdAll V n).2 y.toNatClampNeg) else mI (sdAll V n).1 := by
  unfold aSends
  rw [if_pos ⟨inB_nI (by omega) h (by decide), h2⟩, if_neg h0, if_pos h3, nI_clamp (by omega)]
