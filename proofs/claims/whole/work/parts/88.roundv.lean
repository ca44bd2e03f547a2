/-! ROUND: one monk through all open marks, in every order; the first best -/
def openP (V : VR) (m : Nat) : Bool := decide (¬ vG V m ∧ ¬ vT V m)
def opN (V : VR) : Nat := cntB (openP V) (V 0 0)
def UU (V : VR) (k : Nat) (o : Nat → Nat) : Nat → VR
  | 0 => V
  | d + 1 => vRT k (o d) 60 (UU V k o d)
def pth (o : Nat → Nat) : Nat → Nat → Bool
  | 0, _ => false
  | d + 1, j => pth o d j || decide (o d = j)
abbrev cand (V : VR) (o : Nat → Nat) (d j : Nat) : Prop := openP V j = true ∧ pth o d j = false
abbrev RS : Type := Nat × (Nat → Nat)
def gcU (V : VR) (k : Nat) (o : Nat → Nat) (d : Nat) : Nat := cntB (goneP (UU V k o d)) (V 0 0)
def rdW (V : VR) (k L : Nat) (o : Nat → Nat) (s : RS) : RS := if s.1 ≤ gcU V k o L then (gcU V k o L + 1, o) else s
def rdF (V : VR) (k L : Nat) : Nat → Nat → (Nat → Nat) → RS → RS
  | 0, _, o, s => rdW V k L o s
  | e + 1, d, o, s => foldN (fun j s => if cand V o d j then rdF V k L e (d + 1) (qu o d j) s else s) (V 0 0) 0 s
def rdJ (V : VR) (k L e d : Nat) (o : Nat → Nat) (j : Nat) (s : RS) : RS := if cand V o d j then rdF V k L e (d + 1) (qu o d j) s else s
theorem rdF_s {V : VR} {k L e d : Nat} {o : Nat → Nat} {s : RS} : rdF V k L (e + 1) d o s = foldN (rdJ V k L e d o) (V 0 0) 0 s := rfl
theorem rdJ_y {V : VR} {k L e d j : Nat} {o : Nat → Nat} {s : RS} (h : cand V o d j) : rdJ V k L e d o j s = rdF V k L e (d + 1) (qu o d j) s := if_pos h
theorem rdJ_n {V : VR} {k L e d j : Nat} {o : Nat → Nat} {s : RS} (h : ¬ cand V o d j) : rdJ V k L e d o j s = s := if_neg h
def rdAll (V : VR) (k : Nat) : RS := rdF V k (opN V) (opN V) 0 (fun _ => 0) (0, fun _ => 0)
theorem pth_congr {o o' : Nat → Nat} {j : Nat} : ∀ d, (∀ i, i < d → o i = o' i) → pth o d j = pth o' d j
  | 0, _ => rfl
  | d + 1, h => by rw [pth, pth, pth_congr d (fun i hi => h i (by omega)), h d (by omega)]
theorem UU_congr {V : VR} {k : Nat} {o o' : Nat → Nat} : ∀ d, (∀ i, i < d → o i = o' i) → UU V k o d = UU V k o' d
  | 0, _ => rfl
  | d + 1, h => by rw [UU, UU, UU_congr d (fun i hi => h i (by omega)), h d (by omega)]
theorem pth_q {o : Nat → Nat} {d v j : Nat} : pth (qu o d v) d j = pth o d j := pth_congr d (fun _ hi => qu_no (by omega))
theorem UU_q {V : VR} {k d v : Nat} {o : Nat → Nat} : UU V k (qu o d v) d = UU V k o d := UU_congr d (fun _ hi => qu_no (by omega))
theorem UU_s {V : VR} {k d v : Nat} {o : Nat → Nat} : UU V k (qu o d v) (d + 1) = vRT k v 60 (UU V k o d) := by rw [UU, UU_q, qu_me]
theorem Ok_RT {k m : Nat} : ∀ (n : Nat) (V : VR), Ok V → k < V 0 1 → m < V 0 0 → Ok (vRT k m n V) := by
  intro n
  induction n with
  | zero => intro V ho _ _; exact ho
  | succ n ih =>
    intro V ho hk hm
    unfold vRT
    split
    · exact ih _ (Ok_rub ho hk hm) (by rw [vRub_hd (by decide)]; exact hk) (by rw [vRub_hd (by decide)]; exact hm)
    · exact ho
theorem UU_in {V : VR} {k : Nat} {o : Nat → Nat} (ho : Ok V) (hk : k < V 0 1) : ∀ d, (∀ i, i < d → o i < V 0 0) → Ok (UU V k o d) ∧ ∀ i, i ≠ 3 → UU V k o d 0 i = V 0 i
  | 0, _ => ⟨ho, fun _ _ => rfl⟩
  | d + 1, h => by
    obtain ⟨a, b⟩ := UU_in ho hk d (fun i hi => h i (by omega))
    refine ⟨Ok_RT 60 _ a (by rw [b 1 (by decide)]; exact hk) (by rw [b 0 (by decide)]; exact h d (by omega)), fun i hi => ?_⟩
    rw [UU, vRT_hd hi]
    exact b i hi
theorem UU_out {V : VR} {k m f : Nat} {o : Nat → Nat} (f1 : 1 ≤ f) (f4 : f ≤ 4) : ∀ d, pth o d m = false → UU V k o d f m = V f m
  | 0, _ => rfl
  | d + 1, h => by
    rw [pth, Bool.or_eq_false_iff] at h
    have hn : ¬ o d = m := of_decide_eq_false h.2
    rw [UU, vRT_far (by omega) (by omega) (by omega) (by omega) (by omega)]
    exact UU_out f1 f4 d h.1
theorem UU_5 {V : VR} {k i : Nat} {o : Nat → Nat} : ∀ d, UU V k o d 5 i = V 5 i
  | 0 => rfl
  | d + 1 => by
    rw [UU, vRT_far (by omega) (by omega) (by omega) (by omega) (by omega)]
    exact UU_5 d
theorem EI_RT {m k : Nat} {A : Nat → Bool} (hk : A k = true) : ∀ (n : Nat) (U W : VR), EI m A U W → EI m A (vRT k m n U) (vRT k m n W) := by
  intro n
  induction n with
  | zero => intro U W h; exact h
  | succ n ih =>
    intro U W h
    obtain ⟨h1, h2⟩ := EI_in h hk
    unfold vRT
    by_cases c : vC W k m
    · rw [if_pos c, if_pos (h1.mpr c)]
      exact ih _ _ h2
    · rw [if_neg c, if_neg (fun z => c (h1.mp z))]
      exact h
theorem EI_G {m : Nat} {A : Nat → Bool} {U W : VR} (h : EI m A U W) : vG U m ↔ vG W m := by
  unfold vG
  rw [h.1 1 (by decide) (by decide), h.1 3 (by decide) (by decide)]
theorem cntB_upd {P Q : Nat → Bool} {m : Nat} (h : ∀ j, j ≠ m → P j = Q j) : ∀ n, m < n → cntB P n + (if Q m = true then 1 else 0) = cntB Q n + (if P m = true then 1 else 0)
  | 0, hm => absurd hm (by omega)
  | n + 1, hm => by
    rw [cntB, cntB]
    by_cases c : m = n
    · subst c
      rw [cntB_congr m (fun k hk => h k (by omega))]
      omega
    · have ih := cntB_upd h n (by omega)
      rw [h n (fun z => c z.symm)]
      omega
theorem cntB_ex {P : Nat → Bool} : ∀ n, 0 < cntB P n → ∃ j, j < n ∧ P j = true
  | 0, h => absurd h (by rw [cntB]; decide)
  | n + 1, h => by
    by_cases c : P n = true
    · exact ⟨n, by omega, c⟩
    · rw [cntB, if_neg c, Nat.add_zero] at h
      obtain ⟨j, h1, h2⟩ := cntB_ex n h
      exact ⟨j, by omega, h2⟩
theorem gcU_le {V : VR} {k d : Nat} {o : Nat → Nat} : gcU V k o d ≤ V 0 0 := cntB_le _ _
theorem gcU_s {V : VR} {k d j : Nat} {o : Nat → Nat} (hj : j < V 0 0) (hc : cand V o d j) : gcU V k (qu o d j) (d + 1) = gcU V k o d + (if vG (vRT k j 60 (UU V k o d)) j then 1 else 0) := by
  have q := cntB_upd (P := goneP (UU V k o d)) (Q := goneP (vRT k j 60 (UU V k o d))) (m := j) (fun i hi => by
    unfold goneP vG
    rw [vRT_far (by omega) (by omega) (by omega) (by omega) (by omega), vRT_far (by omega) (by omega) (by omega) (by omega) (by omega)]) (V 0 0) hj
  have hg : ¬ goneP (UU V k o d) j = true := by
    have z := (of_decide_eq_true hc.1).1
    unfold goneP vG
    rw [UU_out (by decide) (by decide) d hc.2, UU_out (by decide) (by decide) d hc.2]
    exact fun w => z (of_decide_eq_true w)
  rw [if_neg hg, Nat.add_zero] at q
  unfold gcU
  rw [UU_s, ← q]
  congr 1
  unfold goneP
  by_cases c : vG (vRT k j 60 (UU V k o d)) j
  · rw [if_pos c, if_pos (decide_eq_true c)]
  · rw [if_neg c, if_neg (fun z => c (of_decide_eq_true z))]
theorem foldN_fixb {α : Type} {f : Nat → α → α} {s : α} : ∀ (n i : Nat), (∀ j, i ≤ j → j < i + n → f j s = s) → foldN f n i s = s := by
  intro n
  induction n with
  | zero => intro i _; rfl
  | succ n ih =>
    intro i h
    show foldN f n (i + 1) (f i s) = s
    rw [h i (Nat.le_refl _) (by omega)]
    exact ih (i + 1) (fun j h1 h2 => h j (by omega) (by omega))
theorem rdF_stop {V : VR} {k L : Nat} : ∀ (e d : Nat) (o : Nat → Nat) (s : RS), d + e = L → gcU V k o d + e < s.1 → rdF V k L e d o s = s := by
  intro e
  induction e with
  | zero =>
    intro d o s hd hs
    obtain rfl : d = L := by omega
    show rdW V k d o s = s
    unfold rdW
    rw [if_neg (by omega)]
  | succ e ih =>
    intro d o s hd hs
    rw [rdF_s]
    refine foldN_fixb _ _ (fun j _ hj => ?_)
    by_cases c : cand V o d j
    · rw [rdJ_y c]
      refine ih (d + 1) _ s (by omega) ?_
      rw [gcU_s (by omega) c]
      split <;> omega
    · exact rdJ_n c
theorem foldN_mono {α : Type} {f : Nat → α → α} {g : α → Nat} (h : ∀ j s, g s ≤ g (f j s)) : ∀ (n i : Nat) (s : α), g s ≤ g (foldN f n i s) := by
  intro n
  induction n with
  | zero => intro i s; exact Nat.le_refl _
  | succ n ih => intro i s; exact Nat.le_trans (h i s) (ih (i + 1) (f i s))
theorem foldN_bd {α : Type} {f : Nat → α → α} {g : α → Nat} {b : Nat} (h : ∀ j s, g s ≤ b → g (f j s) ≤ b) : ∀ (n i : Nat) (s : α), g s ≤ b → g (foldN f n i s) ≤ b := by
  intro n
  induction n with
  | zero => intro i s hs; exact hs
  | succ n ih => intro i s hs; exact ih (i + 1) (f i s) (h i s hs)
theorem foldN_pos {α : Type} {f : Nat → α → α} {g : α → Nat} {j : Nat} (h : ∀ j s, g s ≤ g (f j s)) (hj : ∀ s, 0 < g (f j s)) : ∀ (n i : Nat) (s : α), i ≤ j → j < i + n → 0 < g (foldN f n i s) := by
  intro n
  induction n with
  | zero => intro i s h1 h2; exact absurd h2 (by omega)
  | succ n ih =>
    intro i s h1 h2
    by_cases c : i = j
    · subst c
      exact Nat.lt_of_lt_of_le (hj s) (foldN_mono h n (i + 1) (f i s))
    · exact ih (i + 1) (f i s) (by omega) (by omega)
theorem rdF_bd {V : VR} {k L : Nat} : ∀ (e d : Nat) (o : Nat → Nat) (s : RS), (s.1 ≤ V 0 0 + 1 → (rdF V k L e d o s).1 ≤ V 0 0 + 1) ∧ s.1 ≤ (rdF V k L e d o s).1 := by
  intro e
  induction e with
  | zero =>
    intro d o s
    show (s.1 ≤ V 0 0 + 1 → (rdW V k L o s).1 ≤ V 0 0 + 1) ∧ s.1 ≤ (rdW V k L o s).1
    have q := gcU_le (V := V) (k := k) (d := L) (o := o)
    unfold rdW
    split
    · exact ⟨fun _ => by show gcU V k o L + 1 ≤ _; omega, by show s.1 ≤ gcU V k o L + 1; omega⟩
    · exact ⟨fun z => z, Nat.le_refl _⟩
  | succ e ih =>
    intro d o s
    rw [rdF_s]
    refine ⟨fun hs => foldN_bd (g := fun s : RS => s.1) (fun j s hs => ?_) _ _ _ hs, foldN_mono (g := fun s : RS => s.1) (fun j s => ?_) _ _ _⟩
    · unfold rdJ
      split
      · exact (ih _ _ _).1 hs
      · exact hs
    · unfold rdJ
      split
      · exact (ih _ _ _).2
      · exact Nat.le_refl _
theorem rdF_pos {V : VR} {k L : Nat} : ∀ (e d : Nat) (o : Nat → Nat) (s : RS), cntB (fun j => openP V j && !pth o d j) (V 0 0) = e → 0 < (rdF V k L e d o s).1 := by
  intro e
  induction e with
  | zero =>
    intro d o s _
    show 0 < (rdW V k L o s).1
    unfold rdW
    split
    · show 0 < gcU V k o L + 1; omega
    · omega
  | succ e ih =>
    intro d o s hc
    rw [rdF_s]
    obtain ⟨j, hj, hp⟩ := cntB_ex (V 0 0) (show 0 < cntB (fun j => openP V j && !pth o d j) (V 0 0) by omega)
    have hp' : openP V j = true ∧ pth o d j = false := by simpa using hp
    refine foldN_pos (g := fun s : RS => s.1) (j := j) (fun j s => ?_) (fun s => ?_) _ _ _ (by omega) (by omega)
    · unfold rdJ
      split
      · exact (rdF_bd _ _ _ _).2
      · exact Nat.le_refl _
    · rw [rdJ_y hp']
      refine ih (d + 1) _ s ?_
      have q := cntB_upd (P := fun j => openP V j && !pth o d j) (Q := fun i => openP V i && !pth (qu o d j) (d + 1) i) (m := j) (fun i hi => by
        show (openP V i && !pth o d i) = (openP V i && !pth (qu o d j) (d + 1) i)
        rw [pth, pth_q, qu_me, decide_eq_false (fun z => hi z.symm), Bool.or_false]) (V 0 0) hj
      have z1 : (fun j => openP V j && !pth o d j) j = true := hp
      have z2 : ¬ (fun i => openP V i && !pth (qu o d j) (d + 1) i) j = true := by
        show ¬ (openP V j && !pth (qu o d j) (d + 1) j) = true
        rw [pth, qu_me]
        simp
      rw [if_pos z1, if_neg z2] at q
      omega
theorem rdAll_in (V : VR) (k : Nat) : (rdAll V k).1 ≤ V 0 0 + 1 ∧ 0 < (rdAll V k).1 := ⟨(rdF_bd _ _ _ _).1 (by show 0 ≤ _; omega), rdF_pos _ _ _ _ (by
  unfold opN
  exact cntB_congr _ (fun i _ => by simp [pth]))⟩
theorem opN_le (V : VR) : opN V ≤ V 0 0 := cntB_le _ _
theorem pth0 {o : Nat → Nat} : bset (pth o 0) 6 = 0 := rfl
theorem or_pth {o : Nat → Nat} {d : Nat} (h : o d < 6) : nI (bset (pth o d) 6) ||| nI 1 <<< (nI (o d) &&& 31) = nI (bset (pth o (d + 1)) 6) := by
  rw [shl1 h, or_nI]
  congr 1
  refine Nat.eq_of_testBit_eq (fun i => ?_)
  rw [Nat.testBit_or, Nat.testBit_two_pow]
  by_cases hi : i < 6
  · rw [bset_bitG 6 hi, bset_bitG 6 hi, pth]
  · rw [Nat.testBit_lt_two_pow (Nat.lt_of_lt_of_le (bset_lt (pth o d) 6) (Nat.pow_le_pow_right (by decide) (by omega))), Nat.testBit_lt_two_pow (Nat.lt_of_lt_of_le (bset_lt (pth o (d + 1)) 6) (Nat.pow_le_pow_right (by decide) (by omega)))]
    simp
    omega
theorem or_pthq {o : Nat → Nat} {d v : Nat} (h : v < 6) : nI (bset (pth o d) 6) ||| nI 1 <<< (nI v &&& 31) = nI (bset (pth (qu o d v) (d + 1)) 6) := by
  have q := or_pth (o := qu o d v) (d := d) (by rw [qu_me]; exact h)
  rw [qu_me, bset_congr (Q := pth o d) 6 (fun k _ => pth_q)] at q
  exact q
theorem t_b64 : ∀ a : Fin 64, ∀ k : Fin 6, (nI a.1 >>> (nI k.1 &&& 31) &&& nI 1 = 0) ↔ ¬ a.1.testBit k.1 = true := by decide +kernel
theorem pth_b {o : Nat → Nat} {d j : Nat} (hj : j < 6) : (nI (bset (pth o d) 6) >>> (nI j &&& 31) &&& nI 1 = 0) ↔ pth o d j = false := by
  rw [t_b64 ⟨bset (pth o d) 6, bset_64 (by decide)⟩ ⟨j, hj⟩, bset_bitG 6 hj]
  simp
theorem Ok_MI {W V : VR} {m : Nat} (hw : Ok W) (hv : Ok V) (h0 : W 0 0 = V 0 0) : Ok (vMI W V m) := by
  have e0 : vMI W V m 0 0 = W 0 0 := by unfold vMI; rw [if_neg (by omega)]
  have e1 : vMI W V m 0 1 = W 0 1 := by unfold vMI; rw [if_neg (by omega)]
  refine ⟨by rw [e0]; exact hw.1, by rw [e1]; exact hw.2.1, fun j hj => ?_, fun j hj => ?_⟩
  · rw [e0] at hj
    by_cases c : j = m
    · subst c
      simpa [vMI] using hv.2.2.1 j (by omega)
    · simpa [vMI, c] using hw.2.2.1 j hj
  · rw [e1] at hj
    rw [e0]
    simpa [vMI] using hw.2.2.2 j hj
def aRound (V : VR) (x y : Int32) : Int32 := if inR x (V 0 1) ∧ -1 ≤ y then (if y < nI (opN V) then (if 0 ≤ y then nI ((rdAll V x.toNatClampNeg).2 y.toNatClampNeg) else mI (rdAll V x.toNatClampNeg).1) else -4) else -1
theorem aRound_n {V : VR} {x y : Int32} (h : ¬ (inR x (V 0 1) ∧ -1 ≤ y)) : aRound V x y = -1 := if_neg h
theorem aRound_k {V : VR} {x y : Int32} (h : inR x (V 0 1)) (h2 : -1 ≤ y) (h3 : ¬ y < nI (opN V)) : aRound V x y = -4 := by
  unfold aRound
  rw [if_pos ⟨h, h2⟩, if_neg h3]
theorem aRound_y {V : VR} {k : Nat} {y : Int32} (hk : k < V 0 1) (h5 : V 0 1 ≤ 5) (h2 : -1 ≤ y) (h3 : y < nI (opN V)) : aRound V (nI k) y = if 0 ≤ y then nI ((rdAll V k).2 y.toNatClampNeg) else mI (rdAll V k).1 := by
  unfold aRound
  rw [if_pos ⟨inR_nI hk (by omega), h2⟩, if_pos h3, nI_clamp (by omega)]
theorem y_of6 {y : Int32} {k : Nat} (hk : k ≤ 6) (h1 : 0 ≤ y) (h2 : y < nI k) : ∃ j, j < k ∧ y = nI j := inR_of (by omega) ⟨h1, h2⟩
