/-! WHAT HOLDS BETWEEN TWO CALLS: the class's half, the model's half, what is sound -/
def LC (S : GS) (b : B3) (q : SQ) (t : TX) (im : Nat) (c : B3) : Prop := IC S b ∧ QC S q ∧ XC S t ∧ S.1 0 4 = nI im ∧ (im = 1 → ICi S c)
def LM (S : GS) (b : B3) (q : SQ) (t : TX) (im : Nat) (c : B3) : Prop := IM S b ∧ QM S q ∧ XM S t ∧ S.1 178 1 = nI im ∧ (im = 1 → IMi S c)
def LO (b : B3) (q : SQ) (t : TX) (im : Nat) (c : B3) : Prop := OkB b ∧ QOk q ∧ TxOk t.1 t.2 ∧ im ≤ 1 ∧ (im = 1 → OkB c)
def EqC (S T : GS) : Prop := ∀ o, o < 178 → T.1 o = S.1 o ∧ T.2 o = S.2 o
def EqM (S T : GS) : Prop := ∀ o, 178 ≤ o → T.1 o = S.1 o ∧ T.2 o = S.2 o
theorem HK_of {S T : GS} {kb rb : Nat} {U : Nat → VR} {nu : Nat} (h : HK S kb rb U nu) (e1 : T.1 kb = S.1 kb) (e2 : ∀ o, rb ≤ o → o < rb + 64 → T.1 o = S.1 o) : HK T kb rb U nu := by
  obtain ⟨h8, od, ho, k1, k2, k3⟩ := h
  exact ⟨h8, od, ho, by rw [e1]; exact k1, by rw [e1]; exact k2, fun j hj => HC_of (k3 j hj) (fun o q1 q2 => e2 o (by omega) (by omega))⟩
theorem IC_of {S T : GS} {b : B3} (h : IC S b) (e : ∀ o, o = 22 ∨ (26 ≤ o ∧ o < 34) ∨ (50 ≤ o ∧ o < 114) → T.1 o = S.1 o) : IC T b := ⟨HC_of h.1 (fun o q1 q2 => e o (by omega)), HK_of h.2 (e 22 (Or.inl rfl)) (fun o q1 q2 => e o (by omega))⟩
theorem ICi_of {S T : GS} {b : B3} (h : ICi S b) (e : ∀ o, o = 24 ∨ (34 ≤ o ∧ o < 42) ∨ (114 ≤ o ∧ o < 178) → T.1 o = S.1 o) : ICi T b := ⟨HC_of h.1 (fun o q1 q2 => e o (by omega)), HK_of h.2 (e 24 (Or.inl rfl)) (fun o q1 q2 => e o (by omega))⟩
theorem QC_of {S T : GS} {q : SQ} (h : QC S q) (e1 : ∀ o, 14 ≤ o → o < 22 → T.1 o = S.1 o) (e2 : ∀ o, 14 ≤ o → o < 22 → T.2 o = S.2 o) : QC T q := by
  intro j hj
  rw [e1 _ (by omega) (by omega), e2 _ (by omega) (by omega)]
  exact h j hj
theorem XC_of {S T : GS} {t : TX} (h : XC S t) (e1 : T.1 11 = S.1 11) (e2 : T.1 12 = S.1 12) : XC T t := by
  unfold XC
  rw [e1, e2]
  exact h
theorem IMi_of {S T : GS} {b : B3} (h : IMi S b) (hO : OkB b) (e : ∀ i, 293 ≤ i → i < 586 → T.1 179 i = S.1 179 i) : IMi T b := ⟨HW_of h.1 hO.1 (fun i a1 a2 => e i a1 (by omega)), HU_of h.2 hO.2.1 (fun i a1 a2 => e i (by omega) (by omega))⟩
theorem QM_of {S T : GS} {q : SQ} (h : QM S q) (e1 : T.1 182 = S.1 182) (e2 : T.1 183 = S.1 183) (e3 : T.2 181 = S.2 181) : QM T q := by
  intro j hj
  rw [e1, e2, e3]
  exact h j hj
theorem XM_of {S T : GS} {t : TX} (h : XM S t) (e1 : T.1 178 3 = S.1 178 3) (e2 : T.1 180 = S.1 180) : XM T t := by
  unfold XM
  rw [e1, e2]
  exact h
theorem LC_eq {S T : GS} {b c : B3} {q : SQ} {t : TX} {im : Nat} (h : LC S b q t im c) (e : EqC S T) : LC T b q t im c := ⟨IC_of h.1 (fun o ho => (e o (by omega)).1), QC_of h.2.1 (fun o a1 a2 => (e o (by omega)).1) (fun o a1 a2 => (e o (by omega)).2), XC_of h.2.2.1 (e 11 (by decide)).1 (e 12 (by decide)).1, by rw [(e 0 (by decide)).1]; exact h.2.2.2.1, fun z => ICi_of (h.2.2.2.2 z) (fun o ho => (e o (by omega)).1)⟩
theorem LM_eq {S T : GS} {b c : B3} {q : SQ} {t : TX} {im : Nat} (h : LM S b q t im c) (hO : LO b q t im c) (e : EqM S T) : LM T b q t im c := ⟨IM_lo h.1 hO.1 (fun i _ => by rw [(e 179 (by decide)).1]), QM_of h.2.1 (e 182 (by decide)).1 (e 183 (by decide)).1 (e 181 (by decide)).2, XM_of h.2.2.1 (by rw [(e 178 (by decide)).1]) (e 180 (by decide)).1, by rw [(e 178 (by decide)).1]; exact h.2.2.2.1, fun z => IMi_of (h.2.2.2.2 z) (hO.2.2.2.2 z) (fun i _ _ => by rw [(e 179 (by decide)).1])⟩
section LCL
variable {S u : GS} {b c b' : B3} {q q' : SQ} {t t' : TX} {im : Nat}
theorem eqm_fr {P : Nat → Prop} (f : Fr P S u) (hp : ∀ o, P o → o < 178) : EqM S u := fun o ho => ⟨f.1 o (fun z => absurd (hp o z) (by omega)), by rw [f.2]⟩
theorem eqm_q (f : FrQ S u) : EqM S u := fun o ho => ⟨f.1 o (by omega) (by omega), f.2 o (by omega)⟩
theorem lc_ro (h : LC S b q t im c) (f : Fr scr S u) : LC u b q t im c := ⟨IC_of h.1 (fun o ho => f.1 o (by omega)), QC_of h.2.1 (fun o a1 a2 => f.1 o (by omega)) (fun o _ _ => by rw [f.2]), XC_of h.2.2.1 (f.1 11 (by omega)) (f.1 12 (by omega)), by rw [f.1 0 (by omega)]; exact h.2.2.2.1, fun z => ICi_of (h.2.2.2.2 z) (fun o ho => f.1 o (by omega))⟩
theorem lc_n (h : LC S b q t im c) (f : Fr clN S u) (hI : IC u b') : LC u b' q t im c := ⟨hI, QC_of h.2.1 (fun o a1 a2 => f.1 o (by omega)) (fun o _ _ => by rw [f.2]), XC_of h.2.2.1 (f.1 11 (by omega)) (f.1 12 (by omega)), by rw [f.1 0 (by omega)]; exact h.2.2.2.1, fun z => ICi_of (h.2.2.2.2 z) (fun o ho => f.1 o (by omega))⟩
theorem lc_q (h : LC S b q t im c) (f : FrQ S u) (hQ : QC u q') : LC u b q' t im c := ⟨IC_of h.1 (fun o ho => f.1 o (by omega) (by omega)), hQ, XC_of h.2.2.1 (f.1 11 (by omega) (by omega)) (f.1 12 (by omega) (by omega)), by rw [f.1 0 (by omega) (by omega)]; exact h.2.2.2.1, fun z => ICi_of (h.2.2.2.2 z) (fun o ho => f.1 o (by omega) (by omega))⟩
theorem lc_t (h : LC S b q t im c) (f : Fr F13 S u) (hX : XC u t') : LC u b q t' im c := ⟨IC_of h.1 (fun o ho => f.1 o (by omega)), QC_of h.2.1 (fun o a1 a2 => f.1 o (by omega)) (fun o _ _ => by rw [f.2]), hX, by rw [f.1 0 (by omega)]; exact h.2.2.2.1, fun z => ICi_of (h.2.2.2.2 z) (fun o ho => f.1 o (by omega))⟩
theorem lc_r (h : LC S b q t im c) (f : Fr clR S u) (hI : IC u b') (h11 : u.1 11 1 = nI 0) : LC u b' q (t.1, 0) im c := ⟨hI, QC_of h.2.1 (fun o a1 a2 => f.1 o (by omega)) (fun o _ _ => by rw [f.2]), ⟨h11, fun i (hi : i < 0) => by omega⟩, by rw [f.1 0 (by omega)]; exact h.2.2.2.1, fun z => ICi_of (h.2.2.2.2 z) (fun o ho => f.1 o (by omega))⟩
theorem lc_i (h : LC S b q t im c) (f : Fr clI S u) (hI : IC u b) (hJ : ICi u b) (h4 : u.1 0 4 = nI 1) : LC u b q t 1 b := ⟨hI, QC_of h.2.1 (fun o a1 a2 => f.1 o (by omega)) (fun o _ _ => by rw [f.2]), XC_of h.2.2.1 (f.1 11 (by omega)) (f.1 12 (by omega)), h4, fun _ => hJ⟩
theorem lc_s (h : LC S b q t 1 c) (f : Fr clN S u) (hI : IC u c) (hJ : ICi u c) : LC u c q t 1 c := ⟨hI, QC_of h.2.1 (fun o a1 a2 => f.1 o (by omega)) (fun o _ _ => by rw [f.2]), XC_of h.2.2.1 (f.1 11 (by omega)) (f.1 12 (by omega)), by rw [f.1 0 (by omega)]; exact h.2.2.2.1, fun _ => hJ⟩
theorem eqc_m (f : FrM S u) : EqC S u := fun o ho => ⟨f.1 o (by omega) (by omega), f.2.2 o (by omega)⟩
theorem eqc_n (f : FrN S u) : EqC S u := fun o ho => ⟨f.1 o (by omega) (by omega), f.2.2 o (by omega)⟩
theorem eqc_q (f : FrQm S u) : EqC S u := fun o ho => ⟨f.1 o (by omega) (by omega), f.2.2 o (by omega) (by omega)⟩
theorem eqc_x (f : FrX S u) : EqC S u := fun o ho => ⟨f.1 o (by omega) (by omega), by rw [f.2.2]⟩
theorem eqc_k (f : FrK S u) : EqC S u := fun o ho => ⟨f.1 o (by omega) (by omega), by rw [f.2.2.2]⟩
theorem eqc_i (f : FrI S u) : EqC S u := fun o ho => ⟨f.1 o (by omega) (by omega), by rw [f.2.2]⟩
theorem eqc_o (f : Fr om S u) : EqC S u := fun o ho => ⟨f.1 o (by omega), by rw [f.2]⟩
theorem lm_ro (h : LM S b q t im c) (hO : LO b q t im c) (f : FrM S u) : LM u b q t im c := ⟨IM_lo h.1 hO.1 (fun i a => f.2.1 i (by omega)), QM_of h.2.1 (f.1 182 (by omega) (by omega)) (f.1 183 (by omega) (by omega)) (f.2.2 181 (by omega)), XM_of h.2.2.1 (by rw [f.1 178 (by omega) (by omega)]) (f.1 180 (by omega) (by omega)), by rw [f.1 178 (by omega) (by omega)]; exact h.2.2.2.1, fun z => IMi_of (h.2.2.2.2 z) (hO.2.2.2.2 z) (fun i a1 a2 => f.2.1 i a2)⟩
theorem lm_n (h : LM S b q t im c) (hO : LO b q t im c) (f : FrN S u) (hI : IM u b') : LM u b' q t im c := ⟨hI, QM_of h.2.1 (f.1 182 (by omega) (by omega)) (f.1 183 (by omega) (by omega)) (f.2.2 181 (by omega)), XM_of h.2.2.1 (by rw [f.1 178 (by omega) (by omega)]) (f.1 180 (by omega) (by omega)), by rw [f.1 178 (by omega) (by omega)]; exact h.2.2.2.1, fun z => IMi_of (h.2.2.2.2 z) (hO.2.2.2.2 z) (fun i a1 a2 => f.2.1 i a1 a2)⟩
theorem lm_q (h : LM S b q t im c) (hO : LO b q t im c) (f : FrQm S u) (hQ : QM u q') : LM u b q' t im c := ⟨IM_lo h.1 hO.1 (fun i a => f.2.1 i (by omega)), hQ, XM_of h.2.2.1 (by rw [f.1 178 (by omega) (by omega)]) (f.1 180 (by omega) (by omega)), by rw [f.1 178 (by omega) (by omega)]; exact h.2.2.2.1, fun z => IMi_of (h.2.2.2.2 z) (hO.2.2.2.2 z) (fun i a1 a2 => f.2.1 i a2)⟩
theorem lm_t (h : LM S b q t im c) (hO : LO b q t im c) (f : FrX S u) (hX : XM u t') : LM u b q t' im c := ⟨IM_lo h.1 hO.1 (fun i a => by rw [f.1 179 (by decide) (by decide)]), QM_of h.2.1 (f.1 182 (by decide) (by decide)) (f.1 183 (by decide) (by decide)) (by rw [f.2.2]), hX, by rw [f.2.1 1 (by decide)]; exact h.2.2.2.1, fun z => IMi_of (h.2.2.2.2 z) (hO.2.2.2.2 z) (fun i a1 a2 => by rw [f.1 179 (by decide) (by decide)])⟩
theorem lm_r (h : LM S b q t im c) (hO : LO b q t im c) (f : FrK S u) (hI : IM u b') (h3 : u.1 178 3 = nI 0) : LM u b' q (t.1, 0) im c := ⟨hI, QM_of h.2.1 (f.1 182 (by decide) (by decide)) (f.1 183 (by decide) (by decide)) (by rw [f.2.2.2]), ⟨h3, fun i (hi : i < 0) => by omega⟩, by rw [f.2.1 1 (by decide) (by decide) (by decide)]; exact h.2.2.2.1, fun z => IMi_of (h.2.2.2.2 z) (hO.2.2.2.2 z) (fun i a1 a2 => f.2.2.1 i a1 a2)⟩
theorem lm_i (h : LM S b q t im c) (f : FrI S u) (hI : IM u b) (hJ : IMi u b) (h1 : u.1 178 1 = nI 1) : LM u b q t 1 b := ⟨hI, QM_of h.2.1 (f.1 182 (by decide) (by decide)) (f.1 183 (by decide) (by decide)) (by rw [f.2.2]), XM_of h.2.2.1 (f.2.1 3 (by decide)) (f.1 180 (by decide) (by decide)), h1, fun _ => hJ⟩
theorem lm_s (h : LM S b q t 1 c) (f : Fr om S u) (hI : IM u c) (hJ : IMi u c) : LM u c q t 1 c := ⟨hI, QM_of h.2.1 (f.1 182 (by decide)) (f.1 183 (by decide)) (by rw [f.2]), XM_of h.2.2.1 (by rw [f.1 178 (by decide)]) (f.1 180 (by decide)), by rw [f.1 178 (by decide)]; exact h.2.2.2.1, fun _ => hJ⟩
end LCL
/-! what the calls leave is sound -/
theorem bDays_ok {g : VR → VR} (hg : gOk g) : ∀ (n i : Nat) (b : B3), OkB b → b.1 0 2 + n ≤ 9999 → OkB (foldN (fun _ b => bDay g b) n i b) := by
  intro n
  induction n with
  | zero => intro i b h _; exact h
  | succ n ih =>
    intro i b h hd
    exact ih (i + 1) (bDay g b) (OkB_day hg h (by omega)) (by rw [bDay_day hg]; omega)
theorem aDays_ok {g : VR → VR} (hg : gOk g) {b : B3} {x : Int32} (h : OkB b) : OkB (aDays g b x).2 := by
  unfold aDays
  split
  · split
    · exact h
    · exact bDays_ok hg _ 0 b h (by omega)
  · exact h
theorem aSend_ok {b : B3} {x y : Int32} (h : OkB b) : OkB (aSend b x y).2 := by
  unfold aSend
  split
  · next p =>
    split
    · exact h
    · have sv := sndV_eq h.1.1 p
      refine OkB_pushW h (vs_ok h.1 (Or.inr (Or.inl ⟨rfl, sv.2⟩))) (SF_vs (by omega)) ?_ ?_
      · rw [vs_no (by omega)]; exact h.2.2.1
      · rw [vs_no (by omega)]; exact h.2.2.2.1
  · exact h
theorem aPress_ok {b : B3} {x y z : Int32} (h : OkB b) : OkB (aPress b x y z).2 := by
  have o1 := h.1.1
  have o2 := h.1.2.1
  unfold aPress
  split
  · next p =>
    split
    · obtain ⟨k, hk, rfl⟩ := inR_of (by omega) p.1
      obtain ⟨m, hm, rfl⟩ := inR_of (by omega) p.2.1
      rw [nI_clamp (by omega), nI_clamp (by omega)]
      refine OkB_pushW h (Ok_RT _ _ h.1 hk hm) SF_RT ?_ ?_
      · rw [vRT_hd (by decide)]; exact h.2.2.1
      · rw [vRT_hd (by decide)]; exact h.2.2.2.1
    · exact h
  · exact h
theorem aInk_ok {b : B3} {x y : Int32} (h : OkB b) : OkB (aInk b x y).2 := by
  unfold aInk
  split
  · split
    · exact h
    · refine OkB_pushW h (vs_ok h.1 (Or.inr (Or.inr ⟨rfl, by omega⟩))) (SF_vs (by omega)) ?_ ?_
      · rw [vs_no (by omega)]; exact h.2.2.1
      · rw [vs_no (by omega)]; exact h.2.2.2.1
  · exact h
theorem aUndo_ok {b : B3} (h : OkB b) : OkB (aUndo b).2 := by
  unfold aUndo
  split
  · exact h
  · next c =>
    obtain ⟨h1, h2, h3, h4, h5⟩ := h
    have q := h2 (b.2.2 - 1) (by omega)
    refine ⟨q.1, fun j (hj : j < b.2.2 - 1) => ?_, q.2.2.1, q.2.2.2, by show b.2.2 - 1 ≤ 8; omega⟩
    have r := h2 j (by omega)
    exact ⟨r.1, r.2.1.tr q.2.1.sy, r.2.2.1, r.2.2.2⟩
theorem aSeed_ok {b : B3} {x : Int32} (h : OkB b) : OkB (aSeed b x).2 := by
  unfold aSeed
  split
  · exact h
  · have hx : x.toNatClampNeg < 2 ^ 31 := by
      have := x.toInt_lt
      show x.toInt.toNat < 2 ^ 31
      omega
    refine ⟨vs_ok h.1 (Or.inl ⟨rfl, by decide⟩), fun j hj => ?_, ?_, ?_, h.2.2.2.2⟩
    · have r := h.2.1 j hj
      exact ⟨r.1, r.2.1.tr (SF_vs (by omega)), r.2.2.1, r.2.2.2⟩
    · show vs b.1 0 4 x.toNatClampNeg 0 2 ≤ 9999
      rw [vs_no (by omega)]; exact h.2.2.1
    · show vs b.1 0 4 x.toNatClampNeg 0 4 < 2 ^ 31
      rw [vs_me]; exact hx
theorem aMark_ok {b : B3} {x y z : Int32} (h : OkB b) : OkB (aMark b x y z).2 := by
  unfold aMark
  split
  · next p =>
    split
    · next c =>
      obtain ⟨i, -, hi, rfl⟩ := inB_of (by decide) p.1 (by decide)
      obtain ⟨j, hj1, hj, rfl⟩ := inB_of (by decide) p.2.1 (by decide)
      obtain ⟨k, -, hk, rfl⟩ := inB_of (by decide) p.2.2 (by decide)
      rw [nI_clamp (by omega), nI_clamp (by omega), nI_clamp (by omega)]
      refine ⟨Ok_AM h.1 c hi hj1 hj hk, fun m (hm : m < 0) => by omega, ?_, ?_, Nat.zero_le _⟩
      · show vAM b.1 i j k 0 2 ≤ 9999
        rw [vAM_02]; exact h.2.2.1
      · show vAM b.1 i j k 0 4 < 2 ^ 31
        unfold vAM
        rw [if_neg (by omega), if_neg (by omega)]; exact h.2.2.2.1
    · exact h
  · exact h
theorem aMonk_ok {b : B3} {x y : Int32} (h : OkB b) : OkB (aMonk b x y).2 := by
  unfold aMonk
  split
  · next p =>
    split
    · next c =>
      obtain ⟨i, -, hi, rfl⟩ := inB_of (by decide) p.1 (by decide)
      obtain ⟨j, -, hj, rfl⟩ := inB_of (by decide) p.2 (by decide)
      rw [nI_clamp (by omega), nI_clamp (by omega)]
      refine ⟨Ok_AK h.1 c hi hj (Nat.zero_le _), fun m (hm : m < 0) => by omega, ?_, ?_, Nat.zero_le _⟩
      · show vAK b.1 i j 0 0 2 ≤ 9999
        rw [vAK_02]; exact h.2.2.1
      · show vAK b.1 i j 0 0 4 < 2 ^ 31
        unfold vAK
        rw [if_neg (by omega), if_neg (by omega)]; exact h.2.2.2.1
    · exact h
  · exact h
theorem aSheet_ok {q : SQ} {x y z : Int32} (h : QOk q) : QOk (aSheet q x y z).2 := by
  unfold aSheet
  split
  · next p =>
    split
    · next c =>
      obtain ⟨j, -, hj, rfl⟩ := inB_of (by decide) p.1.2 (by decide)
      obtain ⟨k, -, hk, rfl⟩ := inB_of (x := z) (lo := 0) (hi := 24) (by decide) ⟨c, p.2⟩ (by decide)
      rw [nI_clamp (show j < 2 ^ 31 by omega), nI_clamp (show k < 2 ^ 31 by omega)]
      exact QOk_hold h hj hk
    · exact h
  · exact h
theorem aDrop_ok {q : SQ} {x : Int32} (h : QOk q) : QOk (aDrop q x).2 := by
  unfold aDrop
  split
  · split
    · exact h
    · exact QOk_drop h
  · exact h
theorem aItem_ok {q : SQ} {x y i : Int32} {v : Int64} (h : QOk q) : QOk (aItem q x y i v).2 := by
  unfold aItem
  split
  · split
    · exact h
    · exact h
  · exact h
theorem aCopy_ok {q : SQ} {f i t j n : Int32} (h : QOk q) : QOk (aCopy q f i t j n).2 := by
  unfold aCopy
  split
  · split
    · exact h
    · split
      · split
        · exact h
        · exact h
      · exact h
  · exact h
theorem filmG_ok {k j i : Nat} : ∀ (n e : Nat) (U : VR) (q : SQ), QOk q → QOk (filmG k j i n e U q) := by
  intro n
  induction n with
  | zero => intro e U q h; exact h
  | succ n ih => intro e U q h; exact ih (e + 1) _ _ h
theorem aFilm_ok {V : VR} {q : SQ} {x y s l i : Int32} (h : QOk q) : QOk (aFilm V q x y s l i).2 := by
  unfold aFilm
  split
  · split
    · exact filmG_ok _ _ _ _ h
    · exact h
  · exact h
