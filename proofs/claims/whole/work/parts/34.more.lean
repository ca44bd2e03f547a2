/-! relational contracts: the answer r and the world u behind are of 'post' -/
def CtP (l : Launch) (y : MethodName) (ws : List Cond) (d : Nat) (Y : LY) (As : List Value) (S : GS) (post : Int32 → GS → Prop) : Prop :=
  Met l y ws (rmL d) (va_Pc As (fun U => va_P Y.1 vwCl (wl Y S) U.heap ∧ kY Y U)) (va_Qi (fun (r : Int32) (u : GS) => post r u) (fun u t => va_P Y.1 vwCl (wl Y u) t.heap ∧ kY Y t) (AY Y)) 0 0 (AY Y)
def RtP (X : CX) (ty : FieldType) (post : Int32 → GS → Prop) : Prop := (xt X).sig.returnType = some ty ∧ (xt X).locks = false ∧ xQ X = MQ (xb X) (va_Qi (fun (r : Int32) (u : GS) => post r u) (fun u t => va_P (xY X).1 vwCl (wl (xY X) u) t.heap ∧ kY (xY X) t) (AY (xY X))) (xa X) (xs X) 0 0 (AY (xY X)) ∧ xA X = AY (xY X) ∧ xk X = 0 ∧ xo X = 0
theorem mkP {l : Launch} {y : MethodName} {ws ws' : List Cond} {d : Nat} {Y : LY} {As : List Value} {S : GS} {post : Int32 → GS → Prop} {cc : ByteArray} {maxL : Nat} {ty : FieldType} (hy : plainName y.cls = true) (hw : ws = Cond.code y cc maxL (some ty) :: ws') (hlen : (lvA As).length ≤ maxL)
    (body : ∀ X : CX, xl X = l → xY X = Y → Cx X cc y.cls ws d → RtP X ty post → Zj X S (lvE As maxL) 0 []) : CtP l y ws d Y As S post := by
  refine Met.ofW (cc := cc) (maxL := maxL) (ret := some ty) hy hw ?_
  intro p e s m args below meth c s₁ B hml hv
  obtain ⟨rfl, hP, hK, hD⟩ := hv
  have hts := atoms_spec (ws := ws) B.pre
  have hown : s.vm.findClass y.cls = some m.cls := findClass_of_methodNamed B.named
  rw [lg_entry_eq]
  refine body (p, l, e, rmL d, s, m, As.toArray, below, meth, c, MQ below (va_Qi (fun (r : Int32) (u : GS) => post r u) (fun u t => va_P Y.1 vwCl (wl Y u) t.heap ∧ kY Y t) (AY Y)) As.toArray s 0 0 (AY Y), Y, AY Y, maxL, 0, 0) rfl rfl ⟨B.exec, B.bytes, hml, hown, hts, ⟨hK, hD⟩, fun o ho => ⟨o, ho, rfl⟩, Nat.le_refl _, Nat.le_refl _, Nat.le_refl _, Nat.le_refl _⟩ ⟨B.returns, B.notSynchronized, rfl, rfl, rfl, rfl⟩ s.heap [] _ hP va_S.rf (zl_entry As hlen)
section ZP
variable {X : CX} {S : GS} {lv : List (Option Value)} {pc : Nat} {st : List Value} {cc : ByteArray} {own : String} {Ts : List Cond} {d : Nat}
theorem z_iretP (C : Cx X cc own Ts d) {ty : FieldType} {v : Int32} {post : Int32 → GS → Prop} (hdg : decode cc pc = .ok (.ireturn, 1)) (hr : RtP X ty post) (hn : narrow ty (.int v) = .int v) (hp : post v S) : Zj X S lv pc [.int v] := fun H locs ls hP hS hl => by
  obtain ⟨h1, h2, h3, h4, h5, h6⟩ := hr
  rw [h3, h5, h6]
  rw [h4] at hS
  exact W.zret C.1 C.2.1 h1 hn (fun t ht hW => ⟨⟨v, S, rfl, hp, by rw [ht]; exact hP, va_K.moved hW.alike C.2.2.2.2.2.1.1, C.2.2.2.2.2.1.2⟩, hS.F ht⟩) hS.2.2 hdg
theorem z_callVP (C : Cx X cc own Ts d) {y : MethodName} {ws : List Cond} {d1 n maxL index ci o N : Nat} {ret : Option FieldType} {As st0 : List Value} {post : Int32 → GS → Prop} {F : (Nat → Int32) → List Value} {Cn : String} {T : u_T} (hdg : decode cc pc = .ok (.invokevirtual index, 3)) (hM : CtP (xl X) y ws d1 (xY X) (.ref (ad (xY X) o) :: As) S post) (hg : GoodIn Ts (wsV own index Cn y ws)) (hm : MD y ws n maxL ret) (hy : y.cls = Cn) (hd : d1 < d) (hc : CO (xY X) o ci F) (hcl : vwCl[ci]? = some (Cn, T, N)) (hn : As.length = n) (hst : st0 = As.reverse ++ .ref (ad (xY X) o) :: st) (hw : (st.map fun v => v.category).sum ≤ 8) (k : ∀ r S0, post r S0 → Zj X S0 lv (pc + 3) (.int r :: st)) : Zj X S lv pc st0 := fun H locs ls hP hS hl => by
  obtain ⟨hx, hb, hml, hown, hts, hK, hA, hf, hlo, hk1, hk2⟩ := id C
  obtain ⟨bytes, ws', e1, e2, e3, e4, e5⟩ := hm
  subst hst
  have hA1 : ∀ q, AY (xY X) q → xA X q := by
    rintro q ⟨o', h1, h2⟩
    rw [h2]
    exact hA o' h1
  refine va_calli (va_runV (As := As) (rest := st) ⟨hx, hb, hml, hown, hts⟩ hM (cwV n hts hg e1 rfl rfl ⟨hy, e3, e4, e5⟩ ⟨by show 2 * d1 + 1 ≤ _; omega, by show 8 + (maxL + 11) + 100 * d1 ≤ _; omega⟩) ⟨blind_of, va_recv hK.1 hP hcl (q0 := o) (by rw [wl_get hc.1, hc.2]), fun U hU hW => ⟨rfl, by rw [hU]; exact hP, va_K.moved hW.alike hK.1, hK.2⟩⟩ rfl hn hl.1.1 rfl (lv_room hw) hdg ⟨hk1, hk2⟩) hS (fun q _ h => hA1 q h) hA1 (fun r u t H1 locs1 ht hvm hw1 hB hz1 hk1 hS1 => ?_)
  exact k r u hw1 H1 locs1 ls (by rw [← ht]; exact hB.1) hS1 hl
end ZP
theorem bi_congr {c c' : Prop} [Decidable c] [Decidable c'] (h : c ↔ c') : bi c = bi c' := by
  by_cases q : c
  · rw [bi_1 q, bi_1 (h.mp q)]
  · rw [bi_0 q, bi_0 (fun z => q (h.mpr z))]
/-- x is one of n numbers from 0 on -/
abbrev inR (x : Int32) (n : Nat) : Prop := 0 ≤ x ∧ x < nI n
theorem inR_of {x : Int32} {n : Nat} (hn : n < 2 ^ 31) (h : inR x n) : ∃ j, j < n ∧ x = nI j := by
  obtain ⟨h1, h2⟩ := h
  rw [Int32.le_iff_toInt_le] at h1
  rw [Int32.lt_iff_toInt_lt, nI_toInt hn] at h2
  have e : (0 : Int32).toInt = 0 := rfl
  refine ⟨x.toInt.toNat, by omega, ?_⟩
  apply Int32.toInt_inj.mp
  rw [nI_toInt (by omega)]
  omega
theorem inR_nI {j n : Nat} (h : j < n) (hn : n < 2 ^ 31) : inR (nI j) n := ⟨nI_pos' (by omega), nI_lt h hn⟩
theorem inR_m {x : Int32} {n : Nat} (hn : n < 1000) : (0 ≤ x ∧ x ≤ nI n - nI 1) ↔ inR x n := by
  unfold inR
  rw [Int32.le_iff_toInt_le, Int32.le_iff_toInt_le, Int32.lt_iff_toInt_lt, nI_toInt (by omega), pk_sub_toInt (by omega) (by decide)]
  omega
theorem inR_c {x : Int32} {n : Nat} : (¬ x < 0 ∧ x < nI n) ↔ inR x n := by
  unfold inR
  rw [Int32.le_iff_toInt_le, Int32.lt_iff_toInt_lt, Int32.lt_iff_toInt_lt]
  omega
/-- x is a number of lo .. hi -/
abbrev inB (x : Int32) (lo hi : Nat) : Prop := nI lo ≤ x ∧ x ≤ nI hi
theorem inB_of {x : Int32} {lo hi : Nat} (hn : hi < 2 ^ 31) (h : inB x lo hi) (hl : lo ≤ hi) : ∃ j, lo ≤ j ∧ j ≤ hi ∧ x = nI j := by
  obtain ⟨h1, h2⟩ := h
  rw [Int32.le_iff_toInt_le, nI_toInt (by omega)] at h1
  rw [Int32.le_iff_toInt_le, nI_toInt hn] at h2
  refine ⟨x.toInt.toNat, by omega, by omega, ?_⟩
  apply Int32.toInt_inj.mp
  rw [nI_toInt (by omega)]
  omega
theorem inB_c {x : Int32} {lo hi : Nat} : (¬ x < nI lo ∧ ¬ nI hi < x) ↔ inB x lo hi := by
  unfold inB
  rw [Int32.le_iff_toInt_le, Int32.le_iff_toInt_le, Int32.lt_iff_toInt_lt, Int32.lt_iff_toInt_lt]
  omega
theorem inB_nI {j lo hi : Nat} (h1 : lo ≤ j) (h2 : j ≤ hi) (hn : hi < 2 ^ 31) : inB (nI j) lo hi := ⟨nI_le h1 (by omega), nI_le h2 hn⟩
theorem well_iff (ill : Int32) (k : Nat) : wellP ill k ↔ ¬ ill >>> (nI k &&& 31) &&& nI 1 = nI 1 := by
  obtain ⟨j, hj, e⟩ := pk_andE (ill >>> (nI k &&& 31)) (m := nI 1) 1 (by decide)
  unfold wellP
  rw [e]
  rcases (show j = 0 ∨ j = 1 by omega) with rfl | rfl <;> decide
theorem HW_of {w w' : Nat → Int32} {r : Nat} {V : VR} (h : HW w r V) (ho : Ok V) (e : ∀ i, r ≤ i → i < r + 44 → w' i = w i) : HW w' r V := by
  have a1 := ho.1
  have a2 := ho.2.1
  refine ⟨?_, fun m hm => ?_, fun k hk => ?_⟩
  · rw [e _ (by omega) (by omega), e _ (by omega) (by omega), e _ (by omega) (by omega), e _ (by omega) (by omega), e _ (by omega) (by omega)]
    exact h.1
  · rw [e _ (by omega) (by omega), e _ (by omega) (by omega), e _ (by omega) (by omega), e _ (by omega) (by omega)]
    exact h.2.1 m hm
  · rw [e _ (by omega) (by omega), e _ (by omega) (by omega), e _ (by omega) (by omega)]
    exact h.2.2 k hk
theorem HW_mOk {S : GS} {r : Nat} {V : VR} (h : HW (S.1 179) r V) (ho : Ok V) : mOk S r (V 0 1) := by
  intro k hk hn
  obtain ⟨e1, e2, e3⟩ := h.2.2 k hk
  obtain ⟨o1, o2, o3⟩ := ho.2.2.2 k hk
  have h6 := ho.1
  unfold mK
  rw [e3] at hn ⊢
  rw [sI_m4 (by omega)] at hn
  rw [sI_cl (by omega) hn, sI_neg (by omega)]
  exact ⟨hn, by omega⟩
theorem HW_P1 {S : GS} {r k : Nat} {V : VR} {ill : Int32} (h : HW (S.1 179) r V) (ho : Ok V) (hk : k < V 0 1) : HW ((mP1 r ill k S).1 179) r (vP1 ill k V) ∧ Ok (vP1 ill k V) := by
  obtain ⟨e1, e2, e3⟩ := h.2.2 k hk
  obtain ⟨o1, o2, o3⟩ := ho.2.2.2 k hk
  have h6 := ho.1
  by_cases c : V 7 k = 0
  · rw [mP1_n (fun z => z.1 (by rw [e3, sI_m4 (by omega)]; exact c))]
    unfold vP1
    rw [if_neg (fun z => z.2.1 c)]
    exact ⟨h, ho⟩
  · have hs : mK S r k = V 7 k - 1 := by
      unfold mK
      rw [e3, sI_cl (by omega) c]
    have hm : V 7 k - 1 < V 0 0 := by omega
    have hi := mC_iff h ho hk hm
    by_cases d : wellP ill k ∧ vC V k (V 7 k - 1)
    · rw [mP1_y ⟨by rw [e3, sI_m4 (by omega)]; exact c, (well_iff ill k).mp d.1, by rw [hs]; exact hi.mpr d.2⟩, hs]
      unfold vP1
      rw [if_pos ⟨d.1, c, d.2⟩]
      exact ⟨HW_rub h ho hk hm, Ok_rub ho hk hm⟩
    · rw [mP1_n (fun z => d ⟨(well_iff ill k).mpr z.2.1, hi.mp (by have := z.2.2; rw [hs] at this; exact this)⟩)]
      unfold vP1
      rw [if_neg (fun z => d ⟨z.1, z.2.2⟩)]
      exact ⟨h, ho⟩
theorem HW_fold {r : Nat} {ill : Int32} : ∀ (n i : Nat) (S : GS) (V : VR), HW (S.1 179) r V → Ok V → i + n ≤ V 0 1 → HW ((foldN (mP1 r ill) n i S).1 179) r (foldN (vP1 ill) n i V) ∧ Ok (foldN (vP1 ill) n i V) := by
  intro n
  induction n with
  | zero => intro i S V h ho _; exact ⟨h, ho⟩
  | succ n ih =>
    intro i S V h ho hi
    obtain ⟨h1, h2⟩ := HW_P1 (ill := ill) (k := i) h ho (by omega)
    exact ih (i + 1) _ _ h1 h2 (by rw [vP1_hd (by decide)]; omega)
theorem HW_day {S : GS} {r : Nat} {V : VR} (h : HW (S.1 179) r V) (ho : Ok V) : HW ((stI S 179 (r + 2) (S.1 179 (r + 2) + nI 1)).1 179) r (vDay V) := by
  have a1 := ho.1
  have a2 := ho.2.1
  have e2 := h.1.2.2.1
  refine ⟨⟨?_, ?_, ?_, ?_, ?_⟩, fun m hm => ?_, fun k hk => ?_⟩
  · rw [stI_ni (by omega), h.1.1]; simp [vDay]
  · rw [stI_ni (by omega), h.1.2.1]; simp [vDay]
  · rw [stI_me, e2, nI_add]; simp [vDay]
  · rw [stI_ni (by omega), h.1.2.2.2.1]; simp [vDay]
  · rw [stI_ni (by omega), h.1.2.2.2.2]; simp [vDay]
  · rw [vDay_hd (by decide)] at hm
    rw [stI_ni (by omega), stI_ni (by omega), stI_ni (by omega), stI_ni (by omega)]
    simpa [vDay] using h.2.1 m hm
  · rw [vDay_hd (by decide)] at hk
    rw [stI_ni (by omega), stI_ni (by omega), stI_ni (by omega)]
    simpa [vDay] using h.2.2 k hk
theorem HW_PS {S : GS} {r : Nat} {V : VR} {ill : Int32} (h : HW (S.1 179) r V) (ho : Ok V) : HW ((mPs S r ill (V 0 1)).1 179) r (vPD V ill) := by
  obtain ⟨a1, a2⟩ := HW_fold (r := r) (ill := ill) (V 0 1) 0 S V h ho (by omega)
  exact HW_day a1 a2
/-- passes changes its own region alone -/
theorem mPs_far {S : GS} {r nk i : Nat} {ill : Int32} (hS : mOk S r nk) (hn : nk ≤ 5) (h : i < r + 2 ∨ r + 28 ≤ i) : (mPs S r ill nk).1 179 i = S.1 179 i := by
  unfold mPs
  rw [stI_ni (by omega)]
  have : ∀ (n j : Nat) (S : GS), j + n = nk → mOk S r nk → (foldN (mP1 r ill) n j S).1 179 i = S.1 179 i := by
    intro n
    induction n with
    | zero => intro j S _ _; rfl
    | succ n ih =>
      intro j S hj hS
      have key : (mP1 r ill j S).1 179 i = S.1 179 i ∧ mOk (mP1 r ill j S) r nk := by
        unfold mP1
        split
        · rename_i c
          obtain ⟨c1, c2, c3⟩ := c
          have := (hS j (by omega) c1).2
          exact ⟨mRub_far (by omega) (by omega) (by omega) (by omega) (by omega), mOk_rub this (by omega) hS⟩
        · exact ⟨rfl, hS⟩
      exact (ih (j + 1) _ (by omega) key.2).trans key.1
  exact this nk 0 S (by omega) hS
