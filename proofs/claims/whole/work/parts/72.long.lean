/-! a static method that answers a long -/
def CtL (l : Launch) (y : MethodName) (ws : List Cond) (d : Nat) (Y : LY) (As : List Value) (S : GS) (r0 : Int64) (S0 : GS) : Prop :=
  Met l y ws (rmL d) (va_Pc As (fun U => va_P Y.1 vwCl (wl Y S) U.heap ∧ kY Y U)) (va_Ql (fun (r : Int64) (_ : Unit) => r = r0) (fun _ t => va_P Y.1 vwCl (wl Y S0) t.heap ∧ kY Y t) (AY Y)) 0 0 (AY Y)
def RtL (X : CX) (r0 : Int64) (S0 : GS) : Prop := (xt X).sig.returnType = some .long ∧ (xt X).locks = false ∧ xQ X = MQ (xb X) (va_Ql (fun (r : Int64) (_ : Unit) => r = r0) (fun _ t => va_P (xY X).1 vwCl (wl (xY X) S0) t.heap ∧ kY (xY X) t) (AY (xY X))) (xa X) (xs X) 0 0 (AY (xY X)) ∧ xA X = AY (xY X) ∧ xk X = 0 ∧ xo X = 0
theorem mkL {l : Launch} {y : MethodName} {ws ws' : List Cond} {d : Nat} {Y : LY} {As : List Value} {S S0 : GS} {r0 : Int64} {cc : ByteArray} {maxL : Nat} (hy : plainName y.cls = true) (hw : ws = Cond.code y cc maxL (some .long) :: ws') (hlen : (lvA As).length ≤ maxL)
    (body : ∀ X : CX, xl X = l → xY X = Y → Cx X cc y.cls ws d → RtL X r0 S0 → Zj X S (lvE As maxL) 0 []) : CtL l y ws d Y As S r0 S0 := by
  refine Met.ofW (cc := cc) (maxL := maxL) (ret := some .long) hy hw ?_
  intro p e s m args below meth c s₁ B hml hv
  obtain ⟨rfl, hP, hK, hD⟩ := hv
  have hts := atoms_spec (ws := ws) B.pre
  have hown : s.vm.findClass y.cls = some m.cls := findClass_of_methodNamed B.named
  rw [lg_entry_eq]
  refine body (p, l, e, rmL d, s, m, As.toArray, below, meth, c, MQ below (va_Ql (fun (r : Int64) (_ : Unit) => r = r0) (fun _ t => va_P Y.1 vwCl (wl Y S0) t.heap ∧ kY Y t) (AY Y)) As.toArray s 0 0 (AY Y), Y, AY Y, maxL, 0, 0) rfl rfl ⟨B.exec, B.bytes, hml, hown, hts, ⟨hK, hD⟩, fun o ho => ⟨o, ho, rfl⟩, Nat.le_refl _, Nat.le_refl _, Nat.le_refl _, Nat.le_refl _⟩ ⟨B.returns, B.notSynchronized, rfl, rfl, rfl, rfl⟩ s.heap [] _ hP va_S.rf (zl_entry As hlen)
section ZLL
variable {X : CX} {S : GS} {lv : List (Option Value)} {pc : Nat} {st : List Value} {cc : ByteArray} {own : String} {Ts : List Cond} {d : Nat}
theorem z_lret (C : Cx X cc own Ts d) {r0 v : Int64} {S0 : GS} (hdg : decode cc pc = .ok (.lreturn, 1)) (hr : RtL X r0 S0) (hv : v = r0) (hS0 : S = S0) : Zj X S lv pc [.long v] := fun H locs ls hP hS hl => by
  subst hv
  subst hS0
  obtain ⟨h1, h2, h3, h4, h5, h6⟩ := hr
  rw [h3, h5, h6]
  rw [h4] at hS
  exact W.lret C.1 C.2.1 h1 (fun t ht hW => ⟨⟨v, (), rfl, rfl, by rw [ht]; exact hP, va_K.moved hW.alike C.2.2.2.2.2.1.1, C.2.2.2.2.2.1.2⟩, hS.F ht⟩) hS.2.2 hdg
theorem z_callSL (C : Cx X cc own Ts d) {y : MethodName} {ws : List Cond} {d1 n maxL index : Nat} {ret : Option FieldType} {As st0 : List Value} {r0 : Int64} {S0 : GS} (hdg : decode cc pc = .ok (.invokestatic index, 3)) (hM : CtL (xl X) y ws d1 (xY X) As S r0 S0) (hg : GoodIn Ts (va_wsS own index y ws)) (hm : MD y ws n maxL ret) (hd : d1 < d) (hn : As.length = n) (hst : st0 = As.reverse ++ st) (hw : (st.map fun v => v.category).sum ≤ 8) (k : Zj X S0 lv (pc + 3) (.long r0 :: st)) : Zj X S lv pc st0 := fun H locs ls hP hS hl => by
  obtain ⟨hx, hb, hml, hown, hts, hK, hA, hf, hlo, hk1, hk2⟩ := id C
  obtain ⟨bytes, ws', e1, e2, e3, e4, e5⟩ := hm
  subst hst
  have hA1 : ∀ q, AY (xY X) q → xA X q := by
    rintro q ⟨o', h1, h2⟩
    rw [h2]
    exact hA o' h1
  refine va_calll (va_runS (As := As) (rest := st) ⟨hx, hb, hml, hown, hts⟩ hM (va_cwS n hts hg e1 rfl rfl ⟨e3, e4, e5⟩ ⟨by show 2 * d1 + 1 ≤ _; omega, by show 8 + (maxL + 11) + 100 * d1 ≤ _; omega⟩) ⟨blind_of, fun U hU hW => ⟨rfl, by rw [hU]; exact hP, va_K.moved hW.alike hK.1, hK.2⟩⟩ rfl hn hl.1.1 rfl (lv_room hw) hdg ⟨hk1, hk2⟩) hS (fun q _ h => hA1 q h) hA1 (fun r u t H1 locs1 ht hvm hw1 hB hz1 hk1 hS1 => ?_)
  subst hw1
  exact k H1 locs1 ls (by rw [← ht]; exact hB.1) hS1 hl
end ZLL
theorem stL_rd (S : GS) (o : Nat) (f : Nat → Int64) (o' : Nat) : (stL S o f).2 o' = if o' = o then f else S.2 o' := by
  by_cases h : o' = o
  · subst h
    rw [if_pos rfl]
    exact va_up_self _ _ _
  · rw [if_neg h]
    exact va_up_ne _ _ h
theorem stL_me {S : GS} {o : Nat} {f : Nat → Int64} : (stL S o f).2 o = f := by rw [stL_rd, if_pos rfl]
theorem stL_no {S : GS} {o o' : Nat} {f : Nat → Int64} (h : o' ≠ o) : (stL S o f).2 o' = S.2 o' := by rw [stL_rd, if_neg h]
theorem stL_1 {S : GS} {o : Nat} {f : Nat → Int64} : (stL S o f).1 = S.1 := rfl
theorem stI_2 {S : GS} {o i : Nat} {v : Int32} : (stI S o i v).2 = S.2 := rfl
/-! SHEETS: held, lane, size, items -/
abbrev SQ : Type := (Nat → Nat) × (Nat → Nat) × (Nat → Nat) × (Nat → Nat → Int64)
def qu {α : Type} (f : Nat → α) (j : Nat) (v : α) : Nat → α := fun k => if k = j then v else f k
theorem qu_me {α : Type} {f : Nat → α} {j : Nat} {v : α} : qu f j v j = v := if_pos rfl
theorem qu_no {α : Type} {f : Nat → α} {j k : Nat} {v : α} (h : k ≠ j) : qu f j v k = f k := if_neg h
def QOk (q : SQ) : Prop := ∀ j, j < 4 → q.1 j ≤ 1 ∧ q.2.1 j ≤ 3 ∧ q.2.2.1 j ≤ 24
def QC (S : GS) (q : SQ) : Prop := ∀ j, j < 4 → S.1 (14 + 2 * j) 0 = nI (q.1 j) ∧ S.1 (14 + 2 * j) 1 = nI (q.2.1 j) ∧ S.1 (14 + 2 * j) 2 = nI (q.2.2.1 j) ∧ ∀ i, i < 24 → S.2 (14 + 2 * j + 1) i = q.2.2.2 j i
def QM (S : GS) (q : SQ) : Prop := ∀ j, j < 4 → S.1 182 j = (if q.1 j = 1 then nI (q.2.2.1 j) else -1) ∧ S.1 183 j = nI (q.2.1 j) ∧ ∀ i, i < 24 → S.2 181 (24 * j + i) = q.2.2.2 j i
def FrQ (S T : GS) : Prop := (∀ o, ¬ (14 ≤ o ∧ o < 22) → ¬ scr o → T.1 o = S.1 o) ∧ (∀ o, ¬ (14 ≤ o ∧ o < 22) → T.2 o = S.2 o)
def FrQm (S T : GS) : Prop := (∀ o, o ≠ 179 → ¬ (182 ≤ o ∧ o ≤ 188) → T.1 o = S.1 o) ∧ (∀ i, i < 586 → T.1 179 i = S.1 179 i) ∧ (∀ o, o ≠ 181 → o ≠ 189 → T.2 o = S.2 o)
theorem FrQ.rf {S : GS} : FrQ S S := ⟨fun _ _ _ => rfl, fun _ _ => rfl⟩
theorem FrQm.rf {S : GS} : FrQm S S := ⟨fun _ _ _ => rfl, fun _ _ => rfl, fun _ _ _ => rfl⟩
theorem FrQ.tr {S T U : GS} (h : FrQ S T) (h2 : FrQ T U) : FrQ S U := ⟨fun o a b => (h2.1 o a b).trans (h.1 o a b), fun o a => (h2.2 o a).trans (h.2 o a)⟩
theorem FrQm.tr {S T U : GS} (h : FrQm S T) (h2 : FrQm T U) : FrQm S U := ⟨fun o a b => (h2.1 o a b).trans (h.1 o a b), fun i a => (h2.2.1 i a).trans (h.2.1 i a), fun o a b => (h2.2.2 o a b).trans (h.2.2 o a b)⟩
theorem FrQ.of {S T : GS} (h : Fr scr S T) : FrQ S T := ⟨fun o _ b => h.1 o b, fun o _ => by rw [h.2]⟩
theorem FrQ.I {S : GS} {o i : Nat} {v : Int32} (h : 14 ≤ o ∧ o < 22) : FrQ S (stI S o i v) := ⟨fun o' a _ => stI_no (fun z => a (z ▸ h)), fun _ _ => rfl⟩
theorem FrQ.L {S : GS} {o : Nat} {f : Nat → Int64} (h : 14 ≤ o ∧ o < 22) : FrQ S (stL S o f) := ⟨fun _ _ _ => rfl, fun o' a => stL_no (fun z => a (z ▸ h))⟩
theorem FrQm.I {S : GS} {o i : Nat} {v : Int32} (h : 182 ≤ o ∧ o ≤ 188) : FrQm S (stI S o i v) := ⟨fun o' _ a => stI_no (fun z => a (z ▸ h)), fun j _ => by rw [stI_no (by omega)], fun _ _ _ => rfl⟩
theorem FrQm.L {S : GS} {o : Nat} {f : Nat → Int64} (h : o = 181 ∨ o = 189) : FrQm S (stL S o f) := ⟨fun _ _ _ => rfl, fun _ _ => rfl, fun o' a b => stL_no (by omega)⟩
abbrev spP (i n : Int32) (sz : Nat) : Prop := 0 ≤ i.toInt ∧ 0 ≤ n.toInt ∧ i.toInt + n.toInt ≤ (sz : Int)
theorem i32lo (x : Int32) : -2147483648 ≤ x.toInt := Int32.le_toInt x
theorem i32hi (x : Int32) : x.toInt < 2147483648 := Int32.toInt_lt x
theorem nneg_iff {x : Int32} : ¬ x < 0 ↔ 0 ≤ x.toInt := by
  rw [Int32.lt_iff_toInt_lt]
  have : (0 : Int32).toInt = 0 := rfl
  omega
theorem sp_sub {sz : Nat} {n : Int32} (h : sz ≤ 24) (hn : 0 ≤ n.toInt) : (nI sz - n).toInt = (sz : Int) - n.toInt := by
  have := i32hi n
  rw [Int32.toInt_sub, nI_toInt (by omega)]
  rw [Int.bmod_eq_of_le (by omega) (by omega)]
theorem sp_c {i n : Int32} {sz : Nat} (h : sz ≤ 24) (h1 : ¬ i < 0) (h2 : ¬ n < 0) : ¬ (nI sz - n < i) ↔ spP i n sz := by
  rw [nneg_iff] at h1 h2
  rw [Int32.lt_iff_toInt_lt, sp_sub h h2]
  unfold spP
  omega
theorem sp_add {i n : Int32} : (i.toInt64 + n.toInt64).toInt = i.toInt + n.toInt := by
  have := i32hi n
  have := i32lo n
  have := i32hi i
  have := i32lo i
  rw [Int64.toInt_add, Int32.toInt_toInt64, Int32.toInt_toInt64]
  rw [Int.bmod_eq_of_le (by omega) (by omega)]
theorem cmp_le (x y : Int64) : lg_cmp x y ≤ 0 ↔ ¬ y < x := by
  rw [← cmp_gt x y]
  rw [Int32.lt_iff_toInt_lt, Int32.le_iff_toInt_le]
  omega
theorem sp_m {i n : Int32} {sz : Nat} (h : sz ≤ 24) (h1 : ¬ i < 0) (h2 : ¬ n < 0) : lg_cmp (i.toInt64 + n.toInt64) (nI sz).toInt64 ≤ 0 ↔ spP i n sz := by
  rw [nneg_iff] at h1 h2
  rw [cmp_le, Int64.lt_iff_toInt_lt, sp_add, Int32.toInt_toInt64, nI_toInt (by omega)]
  unfold spP
  omega
theorem sp_n1 {i n : Int32} {sz : Nat} (h : i < 0) : ¬ spP i n sz := fun z => (nneg_iff.mpr z.1) h
theorem sp_n2 {i n : Int32} {sz : Nat} (h : n < 0) : ¬ spP i n sz := fun z => (nneg_iff.mpr z.2.1) h
theorem sp_of {i n : Int32} {sz : Nat} (h : spP i n sz) (h24 : sz ≤ 24) : ∃ i' n' : Nat, i = nI i' ∧ n = nI n' ∧ i' + n' ≤ sz := by
  obtain ⟨h1, h2, h3⟩ := h
  obtain ⟨a, ha, rfl⟩ := nI_of (nneg_iff.mpr h1)
  obtain ⟨b, hb, rfl⟩ := nI_of (nneg_iff.mpr h2)
  rw [nI_toInt ha, nI_toInt hb] at h3
  exact ⟨a, b, rfl, rfl, by omega⟩
def aLook (q : SQ) (j : Nat) (ln i n : Int32) : Int32 := if q.1 j = 0 then -11 else if nI (q.2.1 j) = ln then (if spP i n (q.2.2.1 j) then nI 0 else -13) else -12
theorem aLook_ok {q : SQ} {j : Nat} {ln i n : Int32} (h : 0 ≤ aLook q j ln i n) : q.1 j ≠ 0 ∧ nI (q.2.1 j) = ln ∧ spP i n (q.2.2.1 j) := by
  unfold aLook at h
  split at h
  · exact absurd h (by decide)
  · split at h
    · split at h
      · exact ⟨by assumption, by assumption, by assumption⟩
      · exact absurd h (by decide)
    · exact absurd h (by decide)
def lowL (ln : Nat) (v : Int64) : Int64 := if ln = 0 then v.toInt32.toInt8.toInt32.toInt64 else if ln = 1 then v.toInt32.toInt16.toInt32.toInt64 else if ln = 2 then v.toInt32.toInt64 else v
def qHold (q : SQ) (j ln n : Nat) : SQ := (qu q.1 j 1, qu q.2.1 j ln, qu q.2.2.1 j n, qu q.2.2.2 j (fun _ => 0))
def qDrop (q : SQ) (j : Nat) : SQ := (qu q.1 j 0, q.2.1, q.2.2.1, q.2.2.2)
def qPut (q : SQ) (j i : Nat) (v : Int64) : SQ := (q.1, q.2.1, q.2.2.1, qu q.2.2.2 j (vp_updL (q.2.2.2 j) i v))
def qCopy (q : SQ) (f i t j n : Nat) : SQ := (q.1, q.2.1, q.2.2.1, qu q.2.2.2 t (va_cpy (q.2.2.2 f) (q.2.2.2 t) i j n))
def aSheet (q : SQ) (x y z : Int32) : Int32 × SQ := if (inB x 0 3 ∧ inB y 0 3) ∧ z ≤ nI 24 then (if 0 ≤ z then (z, qHold q x.toNatClampNeg y.toNatClampNeg z.toNatClampNeg) else (-14, q)) else (-1, q)
def aDrop (q : SQ) (x : Int32) : Int32 × SQ := if inB x 0 3 then (if q.1 x.toNatClampNeg = 0 then (-11, q) else (nI (q.2.2.1 x.toNatClampNeg), qDrop q x.toNatClampNeg)) else (-1, q)
def aItem (q : SQ) (x y i : Int32) (v : Int64) : Int32 × SQ := if inB x 0 3 ∧ inB y 0 3 then (if 0 ≤ aLook q x.toNatClampNeg y i (nI 1) then (nI 1, qPut q x.toNatClampNeg i.toNatClampNeg (lowL (q.2.1 x.toNatClampNeg) v)) else (aLook q x.toNatClampNeg y i (nI 1), q)) else (-1, q)
def aCopy (q : SQ) (f i t j n : Int32) : Int32 × SQ := if inB f 0 3 ∧ inB t 0 3 then (if q.1 f.toNatClampNeg = 0 ∨ q.1 t.toNatClampNeg = 0 then (-11, q) else if q.2.1 f.toNatClampNeg = q.2.1 t.toNatClampNeg then (if spP i n (q.2.2.1 f.toNatClampNeg) ∧ spP j n (q.2.2.1 t.toNatClampNeg) then (n, qCopy q f.toNatClampNeg i.toNatClampNeg t.toNatClampNeg j.toNatClampNeg n.toNatClampNeg) else (-13, q)) else (-12, q)) else (-1, q)
theorem QOk_hold {q : SQ} {j ln n : Nat} (h : QOk q) (h1 : ln ≤ 3) (h2 : n ≤ 24) : QOk (qHold q j ln n) := by
  intro k hk
  unfold qHold
  by_cases c : k = j
  · subst c
    simp only [qu_me]
    omega
  · simp only [qu_no c]
    exact h k hk
theorem QOk_drop {q : SQ} {j : Nat} (h : QOk q) : QOk (qDrop q j) := by
  intro k hk
  unfold qDrop
  by_cases c : k = j
  · subst c
    simp only [qu_me]
    have := h k hk
    omega
  · simp only [qu_no c]
    exact h k hk
theorem QC_put {S : GS} {q : SQ} {j i : Nat} {v : Int64} (h : QC S q) : QC (stL S (14 + 2 * j + 1) (vp_updL (S.2 (14 + 2 * j + 1)) i v)) (qPut q j i v) := by
  intro k hk
  obtain ⟨a, b, c, d⟩ := h k hk
  refine ⟨a, b, c, fun e he => ?_⟩
  unfold qPut
  by_cases z : k = j
  · subst z
    rw [stL_me]
    simp only [qu_me]
    unfold vp_updL
    rw [d e he]
  · rw [stL_no (by omega)]
    simp only [qu_no z]
    exact d e he
theorem QM_put {S : GS} {q : SQ} {j i : Nat} {v : Int64} (hi : i < 24) (h : QM S q) : QM (stL S 181 (vp_updL (S.2 181) (24 * j + i) v)) (qPut q j i v) := by
  intro k hk
  obtain ⟨a, b, d⟩ := h k hk
  refine ⟨a, b, fun e he => ?_⟩
  unfold qPut
  rw [stL_me]
  by_cases z : k = j
  · subst z
    simp only [qu_me]
    by_cases y : e = i
    · subst y
      rw [pk_uLs, pk_uLs]
    · rw [pk_uLn (by omega), pk_uLn y]
      exact d e he
  · simp only [qu_no z]
    rw [pk_uLn (by omega)]
    exact d e he
theorem QC_fr {S T : GS} {q : SQ} (h : QC S q) (f : ∀ o, 14 ≤ o → o < 22 → T.1 o = S.1 o ∧ T.2 o = S.2 o) : QC T q := by
  intro j hj
  rw [(f (14 + 2 * j) (by omega) (by omega)).1, (f (14 + 2 * j + 1) (by omega) (by omega)).2]
  exact h j hj
theorem QM_fr {S T : GS} {q : SQ} (h : QM S q) (f1 : T.1 182 = S.1 182) (f2 : T.1 183 = S.1 183) (f3 : T.2 181 = S.2 181) : QM T q := by
  intro j hj
  rw [f1, f2, f3]
  exact h j hj
theorem QM_sz {S : GS} {q : SQ} {j : Nat} (h : QM S q) (hO : QOk q) (hj : j < 4) : (q.1 j = 0 ∧ ¬ 0 ≤ S.1 182 j) ∨ (q.1 j ≠ 0 ∧ 0 ≤ S.1 182 j ∧ S.1 182 j = nI (q.2.2.1 j)) := by
  have o := hO j hj
  have e := (h j hj).1
  by_cases c : q.1 j = 1
  · rw [if_pos c] at e
    exact Or.inr ⟨by omega, by rw [e]; exact nI_pos' (by omega), e⟩
  · rw [if_neg c] at e
    exact Or.inl ⟨by omega, by rw [e]; decide⟩
