def CtR (l : Launch) (y : MethodName) (ws : List Cond) (d : Nat) (Y : LY) (As : List Value) (S : GS) (post : GS → Prop) : Prop :=
  Met l y ws (rmL d) (va_Pc As (fun U => va_P Y.1 vwCl (wl Y S) U.heap ∧ kY Y U)) (va_Qv (fun (u : GS) => post u) (fun u t => va_P Y.1 vwCl (wl Y u) t.heap ∧ kY Y t) (AY Y)) 0 0 (AY Y)
def RtR (X : CX) (post : GS → Prop) : Prop := (xt X).sig.returnType = none ∧ (xt X).locks = false ∧ xQ X = MQ (xb X) (va_Qv (fun (u : GS) => post u) (fun u t => va_P (xY X).1 vwCl (wl (xY X) u) t.heap ∧ kY (xY X) t) (AY (xY X))) (xa X) (xs X) 0 0 (AY (xY X)) ∧ xA X = AY (xY X) ∧ xk X = 0 ∧ xo X = 0
theorem mkR {l : Launch} {y : MethodName} {ws ws' : List Cond} {d : Nat} {Y : LY} {As : List Value} {S : GS} {post : GS → Prop} {cc : ByteArray} {maxL : Nat} (hy : plainName y.cls = true) (hw : ws = Cond.code y cc maxL none :: ws') (hlen : (lvA As).length ≤ maxL)
    (body : ∀ X : CX, xl X = l → xY X = Y → Cx X cc y.cls ws d → RtR X post → Zj X S (lvE As maxL) 0 []) : CtR l y ws d Y As S post := by
  refine Met.ofW (cc := cc) (maxL := maxL) (ret := none) hy hw ?_
  intro p e s m args below meth c s₁ B hml hv
  obtain ⟨rfl, hP, hK, hD⟩ := hv
  have hts := atoms_spec (ws := ws) B.pre
  have hown : s.vm.findClass y.cls = some m.cls := findClass_of_methodNamed B.named
  rw [lg_entry_eq]
  refine body (p, l, e, rmL d, s, m, As.toArray, below, meth, c, MQ below (va_Qv (fun (u : GS) => post u) (fun u t => va_P Y.1 vwCl (wl Y u) t.heap ∧ kY Y t) (AY Y)) As.toArray s 0 0 (AY Y), Y, AY Y, maxL, 0, 0) rfl rfl ⟨B.exec, B.bytes, hml, hown, hts, ⟨hK, hD⟩, fun o ho => ⟨o, ho, rfl⟩, Nat.le_refl _, Nat.le_refl _, Nat.le_refl _, Nat.le_refl _⟩ ⟨B.returns, B.notSynchronized, rfl, rfl, rfl, rfl⟩ s.heap [] _ hP va_S.rf (zl_entry As hlen)
section ZRV
variable {X : CX} {S : GS} {lv : List (Option Value)} {pc : Nat} {st : List Value} {cc : ByteArray} {own : String} {Ts : List Cond} {d : Nat}
theorem z_vretR (C : Cx X cc own Ts d) {post : GS → Prop} (hdg : decode cc pc = .ok (.return_, 1)) (hr : RtR X post) (hp : post S) : Zj X S lv pc [] := fun H locs ls hP hS hl => by
  obtain ⟨h1, h2, h3, h4, h5, h6⟩ := hr
  rw [h3, h5, h6]
  rw [h4] at hS
  exact W.vret C.1 C.2.1 h1 (fun t ht hW => ⟨⟨S, rfl, hp, by rw [ht]; exact hP, va_K.moved hW.alike C.2.2.2.2.2.1.1, C.2.2.2.2.2.1.2⟩, hS.F ht⟩) hS.2.2 hdg
theorem z_callVR (C : Cx X cc own Ts d) {y : MethodName} {ws : List Cond} {d1 n maxL index ci o N : Nat} {ret : Option FieldType} {As st0 : List Value} {post : GS → Prop} {F : (Nat → Int32) → List Value} {Cn : String} {T : u_T} (hdg : decode cc pc = .ok (.invokevirtual index, 3)) (hM : CtR (xl X) y ws d1 (xY X) (.ref (ad (xY X) o) :: As) S post) (hg : GoodIn Ts (wsV own index Cn y ws)) (hm : MD y ws n maxL ret) (hy : y.cls = Cn) (hd : d1 < d) (hc : CO (xY X) o ci F) (hcl : vwCl[ci]? = some (Cn, T, N)) (hn : As.length = n) (hst : st0 = As.reverse ++ .ref (ad (xY X) o) :: st) (hw : (st.map fun v => v.category).sum ≤ 8) (k : ∀ S0, post S0 → Zj X S0 lv (pc + 3) st) : Zj X S lv pc st0 := fun H locs ls hP hS hl => by
  obtain ⟨hx, hb, hml, hown, hts, hK, hA, hf, hlo, hk1, hk2⟩ := id C
  obtain ⟨bytes, ws', e1, e2, e3, e4, e5⟩ := hm
  subst hst
  have hA1 : ∀ q, AY (xY X) q → xA X q := by
    rintro q ⟨o', h1, h2⟩
    rw [h2]
    exact hA o' h1
  refine va_callv (va_runV (As := As) (rest := st) ⟨hx, hb, hml, hown, hts⟩ hM (cwV n hts hg e1 rfl rfl ⟨hy, e3, e4, e5⟩ ⟨by show 2 * d1 + 1 ≤ _; omega, by show 8 + (maxL + 11) + 100 * d1 ≤ _; omega⟩) ⟨blind_of, va_recv hK.1 hP hcl (q0 := o) (by rw [wl_get hc.1, hc.2]), fun U hU hW => ⟨rfl, by rw [hU]; exact hP, va_K.moved hW.alike hK.1, hK.2⟩⟩ rfl hn hl.1.1 rfl (lv_room hw) hdg ⟨hk1, hk2⟩) hS (fun q _ h => hA1 q h) hA1 (fun u t H1 locs1 ht hvm hw1 hB hz1 hk1 hS1 => ?_)
  exact k u hw1 H1 locs1 ls (by rw [← ht]; exact hB.1) hS1 hl
end ZRV
/-! the pair: found, crumbs, first's rubs, pair -/
abbrev PS4 : Type := Nat × Nat × Nat × Nat
abbrev psB (s : PS4) (c a : Nat) : Prop := s.1 = 0 ∨ c < s.2.1 ∨ (c = s.2.1 ∧ a < s.2.2.1)
def psW (s : PS4) (c a p : Nat) : PS4 := if psB s c a then (1, c, a, p) else s
def prT (V : VR) (m i j a : Nat) : VR := vRT j m (60 - a) (vRT i m a V)
def pr1 (V : VR) (m i j a : Nat) (s : PS4) : PS4 := if vG (prT V m i j a) m then psW s (prT V m i j a 0 3 - V 0 3) a (10 * i + j) else s
def prA (V : VR) (m i j : Nat) : Nat → Nat → PS4 → PS4
  | 0, _, s => s
  | n + 1, a, s => if vRN i m a V = a then prA V m i j n (a + 1) (pr1 V m i j a s) else s
def prAll (V : VR) (m : Nat) : PS4 := foldN (fun i s => foldN (fun j s => if i = j then s else prA V m i j 61 0 s) (V 0 1) 0 s) (V 0 1) 0 (0, 0, 0, 0)
def aPair (V : VR) (x y : Int32) : Int32 := if inR x (V 0 0) ∧ inB y 0 2 then (if (prAll V x.toNatClampNeg).1 = 0 then -4 else if y = nI 0 then nI (prAll V x.toNatClampNeg).2.1 else if y = nI 1 then nI (prAll V x.toNatClampNeg).2.2.2 else nI (prAll V x.toNatClampNeg).2.2.1) else -1
theorem aPair_y {V : VR} {m : Nat} {y : Int32} (hm : m < V 0 0) (h6 : V 0 0 ≤ 6) (hy : inB y 0 2) : aPair V (nI m) y = if (prAll V m).1 = 0 then -4 else if y = nI 0 then nI (prAll V m).2.1 else if y = nI 1 then nI (prAll V m).2.2.2 else nI (prAll V m).2.2.1 := by
  unfold aPair
  rw [if_pos ⟨inR_nI hm (by omega), hy⟩, nI_clamp (by omega)]
theorem aPair_n {V : VR} {x y : Int32} (h : ¬ (inR x (V 0 0) ∧ inB y 0 2)) : aPair V x y = -1 := if_neg h
/-- crumbs and size together stay -/
theorem vRT_cs {k m : Nat} : ∀ (n : Nat) (V : VR), vRT k m n V 0 3 + vRT k m n V 6 k = V 0 3 + V 6 k := by
  intro n
  induction n with
  | zero => intro V; rfl
  | succ n ih =>
    intro V
    unfold vRT
    split
    · rw [ih]
      have e1 : vRub V k m 0 3 = V 0 3 + (V 6 k - rbA V k m) := by simp [vRub]
      have e2 : vRub V k m 6 k = rbA V k m := by simp [vRub]
      rw [e1, e2]
      unfold rbA
      omega
    · rfl
theorem prT_cr {V : VR} {m i j a : Nat} (ho : Ok V) (hi : i < V 0 1) (hj : j < V 0 1) (hij : i ≠ j) : V 0 3 ≤ prT V m i j a 0 3 ∧ prT V m i j a 0 3 ≤ V 0 3 + 198 := by
  have e1 := vRT_cs (k := i) (m := m) a V
  have e2 := vRT_cs (k := j) (m := m) (60 - a) (vRT i m a V)
  have e3 : vRT i m a V 6 j = V 6 j := vRT_far (by omega) (by omega) (by omega) (by omega) (by omega) a V
  have o1 := (ho.2.2.2 i hi).2.1
  have o2 := (ho.2.2.2 j hj).2.1
  have e4 : vRT i m a V 6 i ≤ V 6 i := by
    have : ∀ (n : Nat) (V : VR), vRT i m n V 6 i ≤ V 6 i := by
      intro n
      induction n with
      | zero => intro V; exact Nat.le_refl _
      | succ n ih =>
        intro V
        unfold vRT
        split
        · refine Nat.le_trans (ih _) ?_
          have : vRub V i m 6 i = rbA V i m := by simp [vRub]
          rw [this]
          unfold rbA
          omega
        · exact Nat.le_refl _
    exact this a V
  have e5 : vRT j m (60 - a) (vRT i m a V) 6 j ≤ vRT i m a V 6 j := by
    have : ∀ (n : Nat) (V : VR), vRT j m n V 6 j ≤ V 6 j := by
      intro n
      induction n with
      | zero => intro V; exact Nat.le_refl _
      | succ n ih =>
        intro V
        unfold vRT
        split
        · refine Nat.le_trans (ih _) ?_
          have : vRub V j m 6 j = rbA V j m := by simp [vRub]
          rw [this]
          unfold rbA
          omega
        · exact Nat.le_refl _
    exact this _ _
  unfold prT
  omega
/-- the plan of the class holds s -/
def HP (S : GS) (s : PS4) : Prop := S.1 1 0 = nI s.1 ∧ s.1 ≤ 1 ∧ (s.1 = 1 → S.1 1 1 = nI s.2.1 ∧ S.1 1 3 = nI s.2.2.1 ∧ S.1 1 2 = nI s.2.2.2 ∧ s.2.1 ≤ 198 ∧ s.2.2.1 ≤ 60)
theorem HP_fr {P : Nat → Prop} {S T : GS} {s : PS4} (h : HP S s) (f : Fr P S T) (hp : ¬ P 1) : HP T s := by
  unfold HP
  rw [f.1 1 hp]
  exact h
