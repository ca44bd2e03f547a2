/-! THE CONSTRUCTORS' LAYER: a world that grows -/
def rmG (d mc ms : Nat) : Room := { frames := 2 * d, cells := mc, slots := ms, locals := 100 * d }
def nW (U : State) : Prop := va_AO RX2 U ∧ va_AO RX5 U ∧ va_Nw (.methodLinkNest RX0 17 yX2_init RX7) U ∧ va_Nw (.methodLinkNest RX7 9 yX2_init RX7) U ∧ va_Nw (.methodLinkNest RX7 31 yX6_init RX7) U ∧ va_Nw (.methodLinkNest RX7 47 yX4_init RX7) U ∧ va_Nw (.methodLinkNest RX7 54 yX3_init RX7) U ∧ va_Nw (.methodLinkNest RX7 61 yX1_init RX7) U ∧ va_Nw (.methodLinkNest RX7 70 yX5_init RX7) U
theorem nW.warm {s U : State} (hW : s.WarmedH U.vm) (h : nW s) : nW U := by
  obtain ⟨h1, h2, h3, h4, h5, h6, h7, h8, h9⟩ := h
  exact ⟨va_AO.moved hW.alike h1, va_AO.moved hW.alike h2, va_Nw.warmM hW h3, va_Nw.warmM hW h4, va_Nw.warmM hW h5, va_Nw.warmM hW h6, va_Nw.warmM hW h7, va_Nw.warmM hW h8, va_Nw.warmM hW h9⟩
theorem nW.call {U : State} {g : JFrame} {mk : MethodId} {a : Array Value} (h : nW U) : nW (U.calling g mk a) := by
  obtain ⟨h1, h2, h3, h4, h5, h6, h7, h8, h9⟩ := h
  exact ⟨va_AO.moved (u := U) (U := U.calling g mk a) (Vm.Alike.refl U.vm) h1, va_AO.moved (u := U) (U := U.calling g mk a) (Vm.Alike.refl U.vm) h2, va_Nw.same (u := U) (U := U.calling g mk a) rfl rfl h3, va_Nw.same (u := U) (U := U.calling g mk a) rfl rfl h4, va_Nw.same (u := U) (U := U.calling g mk a) rfl rfl h5, va_Nw.same (u := U) (U := U.calling g mk a) rfl rfl h6, va_Nw.same (u := U) (U := U.calling g mk a) rfl rfl h7, va_Nw.same (u := U) (U := U.calling g mk a) rfl rfl h8, va_Nw.same (u := U) (U := U.calling g mk a) rfl rfl h9⟩
abbrev tyC (cA : Nat → ClassId) : List (ClassId × FieldType) := [(cA 0, .int), (cA 1, .long), (cA 2, .object RX2), (cA 3, .object RX5)]
def CtN (l : Launch) (y : MethodName) (ws : List Cond) (d mc ms : Nat) (G : va_G) (cA : Nat → ClassId) (e0 : va_E) (post : Nat → va_W → Prop) : Prop :=
  ∀ (h0 sz : Nat), Met l y ws (rmG d mc ms) (va_Pc [.ref h0] (fun U => U.heap.size = sz ∧ va_P G vwCl [(h0, e0)] U.heap ∧ va_K G vwCl (tyC cA) U ∧ nW U)) (va_Qv (fun (w : va_W) => post h0 w) (fun w t => va_P G vwCl w t.heap ∧ va_D (va_A [(h0, e0)] sz) w) (va_A [(h0, e0)] sz)) mc ms (va_A [(h0, e0)] sz)
theorem blind_N {G : va_G} {cA : Nat → ClassId} {e0 : va_E} {h0 sz : Nat} : FrameBlind (va_Pc [.ref h0] (fun U => U.heap.size = sz ∧ va_P G vwCl [(h0, e0)] U.heap ∧ va_K G vwCl (tyC cA) U ∧ nW U)) := fun a U g mk q => by
  obtain ⟨q0, q1, qP, qK, qN⟩ := q
  exact ⟨q0, q1, qP, va_K.moved (u := U) (U := U.calling g mk a) (Vm.Alike.refl U.vm) qK, qN.call⟩
def Gj (X : CX) (ws : va_W) (k n : Nat) (lv : List (Option Value)) (pc : Nat) (st : List Value) : Prop := ∀ (H : Heap) (locs : List Loc) (ls : Array Slot), va_P (xY X).1 vwCl ws H → va_D (xA X) ws → va_S (xA X) (xs X).heap H locs → zl ls (xn X) lv → W (xp X) (xl X) (xe X) (xR X) (xs X) (xm X) (xa X) (xb X) (xt X) (xc X) H locs k n (xQ X) (F0 (xm X) pc ls st)
def Gx (X : CX) (cc : ByteArray) (own : String) (Ts : List Cond) (d mc ms : Nat) : Prop := (xp X).tables.exec = Jvm.exec ∧ (xc X).code = cc ∧ (xc X).maxLocals = xn X ∧ (xs X).vm.findClass own = some (xm X).cls ∧ (∀ w ∈ Ts, w.before (xa X) (xs X) = true) ∧ va_K (xY X).1 vwCl (tyC (xY X).2.2) (xs X) ∧ (∀ q, (xs X).heap.size ≤ q → xA X q) ∧ nW (xs X) ∧ 2 * d ≤ (xR X).frames ∧ 100 * d ≤ (xR X).locals ∧ mc ≤ (xR X).cells ∧ ms ≤ (xR X).slots
def RtN (X : CX) (h0 : Nat) (e0 : va_E) (post : Nat → va_W → Prop) (mc ms : Nat) : Prop := (xt X).sig.returnType = none ∧ (xt X).locks = false ∧ (xt X).name = "<init>" ∧ xQ X = MQ (xb X) (va_Qv (fun (w : va_W) => post h0 w) (fun w t => va_P (xY X).1 vwCl w t.heap ∧ va_D (va_A [(h0, e0)] (xs X).heap.size) w) (va_A [(h0, e0)] (xs X).heap.size)) (xa X) (xs X) mc ms (va_A [(h0, e0)] (xs X).heap.size) ∧ xA X = va_A [(h0, e0)] (xs X).heap.size
theorem one_D {A : Nat → Prop} {h0 : Nat} {e0 : va_E} (h : A h0) : va_D A [(h0, e0)] := by
  have key : ∀ (k : Nat) (q : Nat × va_E), ([(h0, e0)] : va_W)[k]? = some q → k = 0 ∧ q = (h0, e0) := by
    intro k q hk
    cases k with
    | zero => exact ⟨rfl, (Option.some.inj hk).symm⟩
    | succ k => simp at hk
  exact ⟨fun i j p q hi hj _ => by rw [(key i p hi).1, (key j q hj).1], fun k q hk => by rw [(key k q hk).2]; exact h⟩
theorem mkN {l : Launch} {y : MethodName} {ws ws' : List Cond} {d mc ms : Nat} {G : va_G} {cA : Nat → ClassId} {e0 : va_E} {post : Nat → va_W → Prop} {cc : ByteArray} {maxL : Nat} (hy : plainName y.cls = true) (hw : ws = Cond.code y cc maxL none :: ws') (hlen : 1 ≤ maxL) (hyn : y.name = "<init>")
    (body : ∀ (X : CX) (h0 : Nat), xl X = l → (xY X).1 = G → (xY X).2.2 = cA → Gx X cc y.cls ws d mc ms → RtN X h0 e0 post mc ms → Gj X [(h0, e0)] 0 0 (lvE [.ref h0] maxL) 0 []) : CtN l y ws d mc ms G cA e0 post := by
  intro h0 sz
  refine Met.ofW (cc := cc) (maxL := maxL) (ret := none) hy hw ?_
  intro p e s m args below meth c s₁ B hml hv
  obtain ⟨rfl, hsz, hP, hK, hn⟩ := hv
  subst hsz
  have hts := atoms_spec (ws := ws) B.pre
  have hown : s.vm.findClass y.cls = some m.cls := findClass_of_methodNamed B.named
  have hin : meth.name = "<init>" := ((name_of_methodNamed B.named B.method).1).trans hyn
  rw [lg_entry_eq]
  exact body (p, l, e, rmG d mc ms, s, m, [Value.ref h0].toArray, below, meth, c, MQ below (va_Qv (fun (w : va_W) => post h0 w) (fun w t => va_P G vwCl w t.heap ∧ va_D (va_A [(h0, e0)] s.heap.size) w) (va_A [(h0, e0)] s.heap.size)) [Value.ref h0].toArray s mc ms (va_A [(h0, e0)] s.heap.size), (G, fun _ => 0, cA), va_A [(h0, e0)] s.heap.size, maxL, 0, 0) h0 rfl rfl rfl ⟨B.exec, B.bytes, hml, hown, hts, hK, fun q hq => Or.inr hq, hn, Nat.le_refl _, Nat.le_refl _, Nat.le_refl _, Nat.le_refl _⟩ ⟨B.returns, B.notSynchronized, hin, rfl, rfl⟩ s.heap [] _ hP (one_D (Or.inl ⟨0, e0, rfl⟩)) va_S.rf (zl_entry [.ref h0] hlen)
theorem g_join {A0 : Nat → Prop} {G : va_G} {R w1 : va_W} {q : Nat} {e0 : va_E} {H H1 : Heap} (hP : va_P G vwCl (R ++ [(q, e0)]) H) (hD : va_D A0 (R ++ [(q, e0)])) (hk : ∀ x : Nat, x < H.size → ¬ va_A [(q, e0)] H.size x → H1[x]? = H[x]?) (hF : ∀ x, va_A [(q, e0)] H.size x → A0 x) (hP1 : va_P G vwCl w1 H1) (hD1 : va_D (va_A [(q, e0)] H.size) w1) : va_P G vwCl (R ++ w1) H1 ∧ va_D A0 (R ++ w1) := by
  have lt : ∀ (k : Nat) (x : Nat × va_E), R[k]? = some x → k < R.length := fun k x h => (List.getElem?_eq_some_iff.mp h).1
  have at' : ∀ (k : Nat) (x : Nat × va_E), R[k]? = some x → (R ++ [(q, e0)])[k]? = some x := fun k x h => by rw [List.getElem?_append_left (lt k x h)]; exact h
  have last : (R ++ [(q, e0)])[R.length]? = some (q, e0) := by rw [List.getElem?_append_right (Nat.le_refl _), Nat.sub_self]; rfl
  have apart : ∀ (k : Nat) (x : Nat × va_E), R[k]? = some x → x.1 < H.size ∧ ¬ va_A [(q, e0)] H.size x.1 := by
    intro k x hx
    have hl := (hP k x (at' k x hx)).lt
    refine ⟨hl, fun h => ?_⟩
    rcases h with ⟨k2, e, h⟩ | h
    · cases k2 with
      | zero =>
        have h2 := Option.some.inj h
        have e1 : x.1 = q := (congrArg Prod.fst h2).symm
        have := hD.1 k R.length x (q, e0) (at' k x hx) last e1
        have := lt k x hx
        omega
      | succ k2 => simp at h
    · omega
  refine ⟨va_P.app (fun k x hx => (hP k x (at' k x hx)).kept (hk x.1 (apart k x hx).1 (apart k x hx).2)) hP1, va_D.app ⟨fun i j p r hi hj e => hD.1 i j p r (at' i p hi) (at' j r hj) e, fun k x hx => hD.2 k x (at' k x hx)⟩ (hD1.weaken (fun k x _ h => hF x.1 h)) (fun i j x y hx hy hxy => ?_)⟩
  exact (apart i x hx).2 (by rw [hxy]; exact hD1.2 j y hy)
theorem g_free {A0 : Nat → Prop} {R : va_W} {q : Nat} {e0 : va_E} {H0 H : Heap} {locs : List Loc} (hD : va_D A0 (R ++ [(q, e0)])) (hS : va_S A0 H0 H locs) (hA : ∀ x, H0.size ≤ x → A0 x) : ∀ x, va_A [(q, e0)] H.size x → A0 x := by
  intro x h
  rcases h with ⟨k, e, h⟩ | h
  · cases k with
    | zero =>
      have h2 := Option.some.inj h
      have e1 : q = x := congrArg Prod.fst h2
      rw [← e1]
      exact hD.2 R.length (q, e0) (by rw [List.getElem?_append_right (Nat.le_refl _), Nat.sub_self]; rfl)
    | succ k => simp at h
  · exact hA x (Nat.le_trans hS.1 h)
section GR
variable {X : CX} {ws : va_W} {k n : Nat} {lv : List (Option Value)} {pc : Nat} {st : List Value} {cc : ByteArray} {own : String} {Ts : List Cond} {d mc ms : Nat}
theorem g_aload0 (C : Gx X cc own Ts d mc ms) {r : List (Option Value)} {x : Nat} (hdg : decode cc pc = .ok (.aload_n 0, 1)) (kk : Gj X ws k n (some (.ref x) :: r) (pc + 1) (.ref x :: st)) : Gj X ws k n (some (.ref x) :: r) pc st := fun H locs ls hP hD hS hl => lv_aload_n C.1 C.2.1 hdg rfl (zl_at hl (i := 0) rfl) (kk H locs ls hP hD hS hl)
theorem g_iload1 (C : Gx X cc own Ts d mc ms) {a0 : Option Value} {r : List (Option Value)} {x : Int32} (hdg : decode cc pc = .ok (.iload_n 1, 1)) (kk : Gj X ws k n (a0 :: some (.int x) :: r) (pc + 1) (.int x :: st)) : Gj X ws k n (a0 :: some (.int x) :: r) pc st := fun H locs ls hP hD hS hl => lv_iload_n C.1 C.2.1 hdg rfl (zl_at hl (i := 1) rfl) (kk H locs ls hP hD hS hl)
theorem g_istore1 (C : Gx X cc own Ts d mc ms) {a0 b : Option Value} {r : List (Option Value)} {x : Int32} (hdg : decode cc pc = .ok (.istore_n 1, 1)) (hp : nl a0) (kk : Gj X ws k n (a0 :: some (.int x) :: r) (pc + 1) st) : Gj X ws k n (a0 :: b :: r) pc (.int x :: st) := fun H locs ls hP hD hS hl => lv_istore_n C.1 C.2.1 hdg rfl hl.1 (by have h := hl.2; simp at h; omega) rfl (fun ls' h' => kk H locs ls' hP hD hS (zl_st (i := 1) hl.2 (nlx (i := 0) hp rfl) h'))
theorem g_istore3 (C : Gx X cc own Ts d mc ms) {a0 a1 a2 b : Option Value} {r : List (Option Value)} {x : Int32} (hdg : decode cc pc = .ok (.istore_n 3, 1)) (hp : nl a2) (kk : Gj X ws k n (a0 :: a1 :: a2 :: some (.int x) :: r) (pc + 1) st) : Gj X ws k n (a0 :: a1 :: a2 :: b :: r) pc (.int x :: st) := fun H locs ls hP hD hS hl => lv_istore_n C.1 C.2.1 hdg rfl hl.1 (by have h := hl.2; simp at h; omega) rfl (fun ls' h' => kk H locs ls' hP hD hS (zl_st (i := 3) hl.2 (nlx (i := 2) hp rfl) h'))
theorem g_astore1 (C : Gx X cc own Ts d mc ms) {a0 b : Option Value} {r : List (Option Value)} {x : Nat} (hdg : decode cc pc = .ok (.astore_n 1, 1)) (hp : nl a0) (kk : Gj X ws k n (a0 :: some (.ref x) :: r) (pc + 1) st) : Gj X ws k n (a0 :: b :: r) pc (.ref x :: st) := fun H locs ls hP hD hS hl => lv_astore_n C.1 C.2.1 hdg rfl hl.1 (by have h := hl.2; simp at h; omega) rfl (fun ls' h' => kk H locs ls' hP hD hS (zl_st (i := 1) hl.2 (nlx (i := 0) hp rfl) h'))
theorem g_astore2 (C : Gx X cc own Ts d mc ms) {a0 a1 b : Option Value} {r : List (Option Value)} {x : Nat} (hdg : decode cc pc = .ok (.astore_n 2, 1)) (hp : nl a1) (kk : Gj X ws k n (a0 :: a1 :: some (.ref x) :: r) (pc + 1) st) : Gj X ws k n (a0 :: a1 :: b :: r) pc (.ref x :: st) := fun H locs ls hP hD hS hl => lv_astore_n C.1 C.2.1 hdg rfl hl.1 (by have h := hl.2; simp at h; omega) rfl (fun ls' h' => kk H locs ls' hP hD hS (zl_st (i := 2) hl.2 (nlx (i := 1) hp rfl) h'))
theorem g_dup (C : Gx X cc own Ts d mc ms) {va : Value} (hdg : decode cc pc = .ok (.dup, 1)) (hva : va.category = 1) (kk : Gj X ws k n lv (pc + 1) (va :: va :: st)) : Gj X ws k n lv pc (va :: st) := fun H locs ls hP hD hS hl => lv_dup C.1 C.2.1 hdg hva (kk H locs ls hP hD hS hl)
theorem g_goto (C : Gx X cc own Ts d mc ms) {off : Int} (tgt : Nat) (hdg : decode cc pc = .ok (.goto off, 3)) (ht : (pc : Int) + off = (tgt : Int)) (kk : Gj X ws k n lv tgt st) : Gj X ws k n lv pc st := fun H locs ls hP hD hS hl => lv_goto C.1 C.2.1 hdg ht (kk H locs ls hP hD hS hl)
theorem g_iconst (C : Gx X cc own Ts d mc ms) {z : Int} (v : Int32) (hdg : decode cc pc = .ok (.iconst z, 1)) (hv : Int32.ofInt z = v) (kk : Gj X ws k n lv (pc + 1) (.int v :: st)) : Gj X ws k n lv pc st := fun H locs ls hP hD hS hl => lv_iconst C.1 C.2.1 hdg hv (kk H locs ls hP hD hS hl)
theorem g_bipush (C : Gx X cc own Ts d mc ms) {z : Int} (v : Int32) (hdg : decode cc pc = .ok (.bipush z, 2)) (hv : (Int8.ofInt z).toInt32 = v) (kk : Gj X ws k n lv (pc + 2) (.int v :: st)) : Gj X ws k n lv pc st := fun H locs ls hP hD hS hl => lv_bipush C.1 C.2.1 hdg hv (kk H locs ls hP hD hS hl)
theorem g_sipush (C : Gx X cc own Ts d mc ms) {z : Int} (v : Int32) (hdg : decode cc pc = .ok (.sipush z, 3)) (hv : (Int16.ofInt z).toInt32 = v) (kk : Gj X ws k n lv (pc + 3) (.int v :: st)) : Gj X ws k n lv pc st := fun H locs ls hP hD hS hl => lv_sipush C.1 C.2.1 hdg hv (kk H locs ls hP hD hS hl)
theorem g_geT (C : Gx X cc own Ts d mc ms) {x y : Int32} {off : Int} (tgt : Nat) (hdg : decode cc pc = .ok (.if_icmp .ge off, 3)) (ht : (pc : Int) + off = (tgt : Int)) (h : y ≤ x) (kk : Gj X ws k n lv tgt st) : Gj X ws k n lv pc (.int y :: .int x :: st) := fun H locs ls hP hD hS hl => lv_icmp_ge C.1 C.2.1 hdg ht (fun _ => kk H locs ls hP hD hS hl) (fun q => absurd h q)
theorem g_geF (C : Gx X cc own Ts d mc ms) {x y : Int32} {off : Int} (tgt : Nat) (hdg : decode cc pc = .ok (.if_icmp .ge off, 3)) (ht : (pc : Int) + off = (tgt : Int)) (h : ¬ y ≤ x) (kk : Gj X ws k n lv (pc + 3) st) : Gj X ws k n lv pc (.int y :: .int x :: st) := fun H locs ls hP hD hS hl => lv_icmp_ge C.1 C.2.1 hdg ht (fun q => absurd q h) (fun _ => kk H locs ls hP hD hS hl)
theorem g_iinc1 (C : Gx X cc own Ts d mc ms) {a0 : Option Value} {r : List (Option Value)} {z : Int} {x : Int32} (v : Int32) (hdg : decode cc pc = .ok (.iinc 1 z, 3)) (hv : x + Int32.ofInt z = v) (hp : nl a0) (kk : Gj X ws k n (a0 :: some (.int v) :: r) (pc + 3) st) : Gj X ws k n (a0 :: some (.int x) :: r) pc st := fun H locs ls hP hD hS hl => by
  obtain ⟨k0, hk0⟩ := List.getElem?_of_mem ((zt_mem (a0 :: some (.int x) :: r) 0 (1, .int x)).mpr ⟨1, by simp, rfl⟩)
  exact lv_iinc C.1 C.2.1 hdg hl.1 hk0 hv (by have h := hl.2; simp at h; omega) rfl (fun ls' h' => kk H locs ls' hP hD hS (zl_st (i := 1) hl.2 (nlx (i := 0) hp rfl) h'))
theorem g_obj (C : Gx X cc own Ts d mc ms) {idx a : Nat} (hdg : decode cc pc = .ok (.invokespecial idx, 3)) (h : Cond.methodLink own idx objectInit ∈ Ts ∧ Cond.instanceMethod objectInit ∈ Ts ∧ Cond.code objectInit ⟨#[0xb1]⟩ 1 none ∈ Ts) (hd : 0 < d) (hw : (st.map fun v => v.category).sum ≤ 8) (kk : Gj X ws k n lv (pc + 3) st) : Gj X ws k n lv pc (.ref a :: st) := fun H locs ls hP hD hS hl => by
  obtain ⟨hx, hb, hml, hown, hts, hK, hA, hn, hf, hlo, hk1, hk2⟩ := id C
  have hr := lv_room (m := xm X) (pc := pc) (ls := ls) (rest := .ref a :: st) hw
  exact W.objInit hx hb hown (hts _ h.1) (hts _ h.2.1) (hts _ h.2.2) rfl (hl.1.1.trans hml.symm) rfl hdg (by omega) (by omega) (kk H locs ls hP hD hS hl)
theorem g_vret (C : Gx X cc own Ts d mc ms) {h0 : Nat} {e0 : va_E} {post : Nat → va_W → Prop} (hdg : decode cc pc = .ok (.return_, 1)) (hr : RtN X h0 e0 post mc ms) (hk : k ≤ mc) (hn : n ≤ ms) (hp : post h0 ws) : Gj X ws k n lv pc [] := fun H locs ls hP hD hS hl => by
  obtain ⟨h1, h2, h3, h4, h5⟩ := hr
  rw [h4]
  rw [h5] at hS hD
  refine W.widen hk hn ?_
  exact W.vret C.1 C.2.1 h1 (fun t ht hW => ⟨⟨ws, rfl, hp, by rw [ht]; exact hP, hD⟩, hS.F ht⟩) hS.2.2 hdg
theorem g_new (C : Gx X cc own Ts d mc ms) {ci index N : Nat} {Cn : String} {T : u_T} {ty : Nat → FieldType} (fs : List Value) (hdg : decode cc pc = .ok (.new index, 3)) (hc : vwCl[ci]? = some (Cn, T, N)) (hin : ∀ w ∈ u_ws Cn T N, w ∈ Ts) (hty : ∀ k, k < N → parseFieldDescriptor (T k).2.2.1 = some (ty k)) (hw : Cond.classLink own index Cn ∈ Ts ∧ Cond.instantiable Cn N ∈ Ts ∧ Cond.initialized Cn ∈ Ts) (hfs : ∀ j, j < N → defaultValue (ty j) = vp_V fs j) (hk : k + 1 ≤ mc) (hn : n + N ≤ ms) (kk : ∀ q, Gj X (ws ++ [(q, .inr (ci, fs))]) (k + 1) (n + N) lv (pc + 3) (.ref q :: st)) : Gj X ws k n lv pc st := fun H locs ls hP hD hS hl => by
  obtain ⟨hx, hb, hml, hown, hts, hK, hA, hnw, hf, hlo, hk1, hk2⟩ := id C
  exact va_new hx hb hts hin ty hty hown (hts _ hw.1) (hts _ hw.2.1) (hts _ hw.2.2) hK hP hD hS hA hc hfs (Nat.le_trans hk hk1) (Nat.le_trans hn hk2) hdg (fun q H1 hP1 hD1 hS1 => kk q H1 locs ls hP1 hD1 hS1 hl)
theorem g_newI (C : Gx X cc own Ts d mc ms) (N : Nat) (hdg : decode cc pc = .ok (.newarray .int, 2)) (hm : Cond.arrayClass .int ∈ Ts) (hN : N < 1000) (hk : k + 1 ≤ mc) (hn : n + N ≤ ms) (kk : ∀ q, Gj X (ws ++ [(q, .inl ((xY X).2.2 0, N, .inl (fun _ => 0)))]) (k + 1) (n + N) lv (pc + 2) (.ref q :: st)) : Gj X ws k n lv pc (.int (nI N) :: st) := fun H locs ls hP hD hS hl => by
  obtain ⟨hx, hb, hml, hown, hts, hK, hA, hnw, hf, hlo, hk1, hk2⟩ := id C
  refine va_newa (atype := .int) (ty := .int) (a0 := (N, .inl (fun _ => 0))) (N' := N) hx hb (hts _ hm) rfl hK hP hD hS hA (fun _ => rfl) (nI_pos (by omega)) (nI_clamp (by omega)) (show N * 4 ≤ 536870912 by omega) (Nat.le_trans hk hk1) (Nat.le_trans hn hk2) hdg (fun q cA H1 hK1 hP1 hD1 hS1 => ?_)
  have h1 : (xs X).vm.findClass ("[" ++ FieldType.int.toString) = some cA := (hK1.2 4 (cA, .int) rfl).2
  have h2 : (xs X).vm.findClass ("[" ++ FieldType.int.toString) = some ((xY X).2.2 0) := (hK.2 0 ((xY X).2.2 0, .int) rfl).2
  have e : cA = (xY X).2.2 0 := Option.some.inj (h1.symm.trans h2)
  rw [e] at hP1 hD1
  exact kk q H1 locs ls hP1 hD1 hS1 hl
theorem g_newJ (C : Gx X cc own Ts d mc ms) (N : Nat) (hdg : decode cc pc = .ok (.newarray .long, 2)) (hm : Cond.arrayClass .long ∈ Ts) (hN : N < 1000) (hk : k + 1 ≤ mc) (hn : n + N ≤ ms) (kk : ∀ q, Gj X (ws ++ [(q, .inl ((xY X).2.2 1, N, .inr (.inl (fun _ => 0))))]) (k + 1) (n + N) lv (pc + 2) (.ref q :: st)) : Gj X ws k n lv pc (.int (nI N) :: st) := fun H locs ls hP hD hS hl => by
  obtain ⟨hx, hb, hml, hown, hts, hK, hA, hnw, hf, hlo, hk1, hk2⟩ := id C
  refine va_newa (atype := .long) (ty := .long) (a0 := (N, .inr (.inl (fun _ => 0)))) (N' := N) hx hb (hts _ hm) rfl hK hP hD hS hA (fun _ => rfl) (nI_pos (by omega)) (nI_clamp (by omega)) (show N * 8 ≤ 536870912 by omega) (Nat.le_trans hk hk1) (Nat.le_trans hn hk2) hdg (fun q cA H1 hK1 hP1 hD1 hS1 => ?_)
  have h1 : (xs X).vm.findClass ("[" ++ FieldType.long.toString) = some cA := (hK1.2 4 (cA, .long) rfl).2
  have h2 : (xs X).vm.findClass ("[" ++ FieldType.long.toString) = some ((xY X).2.2 1) := (hK.2 1 ((xY X).2.2 1, .long) rfl).2
  have e : cA = (xY X).2.2 1 := Option.some.inj (h1.symm.trans h2)
  rw [e] at hP1 hD1
  exact kk q H1 locs ls hP1 hD1 hS1 hl
theorem g_newq (C : Gx X cc own Ts d mc ms) (N t : Nat) {index : Nat} {Cn : String} (hdg : decode cc pc = .ok (.anewarray index, 3)) (hm : Cond.classLink own index Cn ∈ Ts) (ho : va_AO Cn (xs X)) (ht : (tyC (xY X).2.2)[t]? = some ((xY X).2.2 t, .object Cn)) (hN : N < 1000) (hk : k + 1 ≤ mc) (hn : n + N ≤ ms) (kk : ∀ q, Gj X (ws ++ [(q, .inl ((xY X).2.2 t, N, .inr (.inr (.inr (.inr (fun _ => none))))))]) (k + 1) (n + N) lv (pc + 3) (.ref q :: st)) : Gj X ws k n lv pc (.int (nI N) :: st) := fun H locs ls hP hD hS hl => by
  obtain ⟨hx, hb, hml, hown, hts, hK, hA, hnw, hf, hlo, hk1, hk2⟩ := id C
  refine va_newq (N' := N) hx hb hown (hts _ hm) ho hK hP hD hS hA (nI_pos (by omega)) (nI_clamp (by omega)) (by omega) (Nat.le_trans hk hk1) (Nat.le_trans hn hk2) hdg (fun q cA H1 hK1 hP1 hD1 hS1 => ?_)
  obtain ⟨_, _, _, _, _, h1⟩ := (hK1.2 4 (cA, .object Cn) rfl).2
  obtain ⟨_, _, _, _, _, h2⟩ := (hK.2 t _ ht).2
  have e : cA = (xY X).2.2 t := Option.some.inj (h1.symm.trans h2)
  rw [e] at hP1 hD1
  exact kk q H1 locs ls hP1 hD1 hS1 hl
def FF (own : String) (Ts : List Cond) (index ci k : Nat) (ty : FieldType) : Prop := ∃ (Cn : String) (T : u_T) (N : Nat) (ty0 : Nat → FieldType), vwCl[ci]? = some (Cn, T, N) ∧ (∀ w ∈ u_ws Cn T N, w ∈ Ts) ∧ k < N ∧ Cond.fieldLink own index (T k).1 (T k).2.1 (T k).2.2.1 ∈ Ts ∧ (∀ k, k < N → parseFieldDescriptor (T k).2.2.1 = some (ty0 k)) ∧ (∀ a, a < N → ∀ b, b < N → a ≠ b → (T a).2.1 ≠ (T b).2.1) ∧ (T k).2.2.2 = true ∧ (T k).1 = own ∧ parseFieldDescriptor (T k).2.2.1 = some ty
theorem g_putF (C : Gx X cc own Ts d mc ms) (hin : (xt X).name = "<init>") {h0 q ci index j : Nat} {fs : List Value} {R : va_W} {ty : FieldType} (hdg : decode cc pc = .ok (.putfield index, 3)) (hf : FF own Ts index ci j ty) (hn : narrow ty (.ref q) = .ref q) (hfit : fits ty (.ref q) = true) (hl : j < fs.length) (kk : Gj X ((h0, .inr (ci, fs.set j (.ref q))) :: R) k n lv (pc + 3) st) : Gj X ((h0, .inr (ci, fs)) :: R) k n lv pc (.ref q :: .ref h0 :: st) := fun H locs ls hP hD hS hls => by
  obtain ⟨hx, hb, hml, hown, hts, hK, hA, hnw, hfr, hlo, hk1, hk2⟩ := id C
  obtain ⟨Cn, T, N, ty0, f1, f2, f3, f4, f5, f6, f7, f8, f9⟩ := hf
  exact va_putF hx hb hts f2 ty0 f5 f6 hown hK hP hD hS 0 rfl f1 j f3 (hts _ f4) (fun _ h9 => h9) f7 hin f8 f9 hn hfit hl hdg (fun H1 locs1 hP1 hD1 hS1 => kk H1 locs1 ls hP1 hD1 hS1 hls)
theorem g_put (C : Gx X cc own Ts d mc ms) {h0 ci index j : Nat} {v : Int32} {fs : List Value} {R : va_W} {ty : FieldType} (hdg : decode cc pc = .ok (.putfield index, 3)) (hf : FP own Ts index ci j ty) (hn : narrow ty (.int v) = .int v) (hfit : fits ty (.int v) = true) (hl : j < fs.length) (kk : Gj X ((h0, .inr (ci, fs.set j (.int v))) :: R) k n lv (pc + 3) st) : Gj X ((h0, .inr (ci, fs)) :: R) k n lv pc (.int v :: .ref h0 :: st) := fun H locs ls hP hD hS hls => by
  obtain ⟨hx, hb, hml, hown, hts, hK, hA, hnw, hfr, hlo, hk1, hk2⟩ := id C
  obtain ⟨⟨Cn, T, N, f1, f2, f3, f4⟩, Cn', T', N', ty0, g1, g2, g3, g4, g5⟩ := hf
  rw [f1] at g1
  cases g1
  exact va_put hx hb hts f2 ty0 g2 g3 hown hK hP hD hS 0 rfl f1 j f3 (hts _ f4) (fun _ h9 => h9) g4 g5 hn hfit hl hdg (fun H1 locs1 hP1 hD1 hS1 => kk H1 locs1 ls hP1 hD1 hS1 hls)
theorem g_get (C : Gx X cc own Ts d mc ms) {h0 ci index j : Nat} {v : Value} {fs : List Value} {R : va_W} (hdg : decode cc pc = .ok (.getfield index, 3)) (hf : FL own Ts index ci j) (hv : fs[j]? = some v) (kk : Gj X ((h0, .inr (ci, fs)) :: R) k n lv (pc + 3) (v :: st)) : Gj X ((h0, .inr (ci, fs)) :: R) k n lv pc (.ref h0 :: st) := fun H locs ls hP hD hS hls => by
  obtain ⟨hx, hb, hml, hown, hts, hK, hA, hnw, hfr, hlo, hk1, hk2⟩ := id C
  obtain ⟨Cn, T, N, f1, f2, f3, f4⟩ := hf
  exact va_get hx hb hts f2 hown hK hP 0 rfl f1 j f3 (hts _ f4) (fun _ h9 => h9) hv hdg (kk H locs ls hP hD hS hls)
theorem g_iast (C : Gx X cc own Ts d mc ms) (q0 : Nat) {a N i : Nat} {x : Int32} {f : Nat → Int32} (ws' : va_W) (hdg : decode cc pc = .ok (.iastore, 1)) (he : ws[q0]? = some (a, .inl ((xY X).2.2 0, N, .inl f))) (hi : i < N) (hN : N < 1000) (hs : ws.set q0 (a, .inl ((xY X).2.2 0, N, .inl (upd f i x))) = ws') (kk : Gj X ws' k n lv (pc + 1) st) : Gj X ws k n lv pc (.int x :: .int (nI i) :: .ref a :: st) := fun H locs ls hP hD hS hls => by
  obtain ⟨hx, hb, hml, hown, hts, hK, hA, hnw, hfr, hlo, hk1, hk2⟩ := id C
  refine va_iast hx hb hK hP hD hS q0 0 he rfl (vp_in_nI hi (by omega)) hdg (fun H1 locs1 hP1 hD1 hS1 => ?_)
  rw [nI_clamp (by omega), hs] at hP1 hD1
  exact kk H1 locs1 ls hP1 hD1 hS1 hls
theorem g_astq (C : Gx X cc own Ts d mc ms) (q0 t qk ci : Nat) {a N i v : Nat} {Cn : String} {T : u_T} {NN : Nat} {vs : List Value} {f : Nat → Option Nat} (ws' : va_W) (hdg : decode cc pc = .ok (.aastore, 1)) (he : ws[q0]? = some (a, .inl ((xY X).2.2 t, N, .inr (.inr (.inr (.inr f)))))) (ht : (tyC (xY X).2.2)[t]? = some ((xY X).2.2 t, .object Cn)) (hv : ws[qk]? = some (v, .inr (ci, vs))) (hc : vwCl[ci]? = some (Cn, T, NN)) (hi : i < N) (hN : N < 1000) (hs : ws.set q0 (a, .inl ((xY X).2.2 t, N, .inr (.inr (.inr (.inr (va_up f i (some v))))))) = ws') (kk : Gj X ws' k n lv (pc + 1) st) : Gj X ws k n lv pc (.ref v :: .int (nI i) :: .ref a :: st) := fun H locs ls hP hD hS hls => by
  obtain ⟨hx, hb, hml, hown, hts, hK, hA, hnw, hfr, hlo, hk1, hk2⟩ := id C
  refine va_astq (r := (Cn, T, NN)) hx hb hK hP hD hS q0 t qk ci he ht hv hc (vp_in_nI hi (by omega)) hdg (fun H1 locs1 hP1 hD1 hS1 => ?_)
  rw [nI_clamp (by omega), hs] at hP1 hD1
  exact kk H1 locs1 ls hP1 hD1 hS1 hls
theorem g_initN (C : Gx X cc own Ts d mc ms) {R : va_W} {q index d1 mc1 ms1 maxL : Nat} {e0 : va_E} {y : MethodName} {wy : List Cond} {host : String} {post : Nat → va_W → Prop} (hdg : decode cc pc = .ok (.invokespecial index, 3)) (hM : CtN (xl X) y wy d1 mc1 ms1 (xY X).1 (xY X).2.2 e0 post) (hg : GoodIn Ts wy) (hm : MD y wy 0 maxL none) (hyn : y.name = "<init>") (hi : Cond.instanceMethod y ∈ Ts ∧ Cond.initialized y.cls ∈ Ts) (hl : va_Nw (.methodLinkNest own index y host) (xs X)) (hd : d1 < d) (hk : k + mc1 ≤ mc) (hn : n + ms1 ≤ ms) (hw : (st.map fun v => v.category).sum ≤ 8) (kk : ∀ w, post q w → Gj X (R ++ w) (k + mc1) (n + ms1) lv (pc + 3) st) : Gj X (R ++ [(q, e0)]) k n lv pc (.ref q :: st) := fun H locs ls hP hD hS hls => by
  obtain ⟨hx, hb, hml, hown, hts, hK, hA, hnw, hfr, hlo, hk1, hk2⟩ := id C
  obtain ⟨bytes, ws', e1, e2, e3, e4, e5⟩ := hm
  have hF := g_free hD hS hA
  have hP0 : va_P (xY X).1 vwCl [(q, e0)] H := fun i x hx => by
    cases i with
    | zero => exact hP R.length x (by rw [List.getElem?_append_right (Nat.le_refl _), Nat.sub_self]; exact hx)
    | succ i => simp at hx
  refine va_callv (va_runIN (As := []) (rest := st) ⟨hx, hb, hml, hown, hts⟩ (hM q H.size) ⟨va_cnB 0 hts hg e1 rfl rfl hl (hts _ hi.2) ⟨e3, e4, e5⟩ ⟨by show 2 * d1 + 1 ≤ _; omega, by show 8 + (maxL + 11) + 100 * d1 ≤ _; omega⟩, hyn, hts _ hi.1⟩ ⟨blind_N, fun U hU hW => ⟨rfl, by rw [hU], by rw [hU]; exact hP0, va_K.moved hW.alike hK, hnw.warm hW⟩⟩ rfl rfl hls.1.1 rfl (lv_room hw) hdg ⟨Nat.le_trans hk hk1, Nat.le_trans hn hk2⟩) hS (fun x _ h => hF x h) hF (fun w t H1 locs1 ht hvm hpost hB hz hkk hS1 => ?_)
  obtain ⟨hP1, hD1⟩ := hB
  rw [ht] at hP1
  obtain ⟨hP2, hD2⟩ := g_join hP hD hkk hF hP1 hD1
  exact kk w hpost H1 locs1 ls hP2 hD2 hS1 hls
theorem g_initI (C : Gx X cc own Ts d mc ms) {R : va_W} {q index d1 mc1 ms1 maxL : Nat} {e0 : va_E} {y : MethodName} {wy : List Cond} {post : Nat → va_W → Prop} (hdg : decode cc pc = .ok (.invokespecial index, 3)) (hM : CtN (xl X) y wy d1 mc1 ms1 (xY X).1 (xY X).2.2 e0 post) (hg : GoodIn Ts wy) (hm : MD y wy 0 maxL none) (hyn : y.name = "<init>") (hi : Cond.instanceMethod y ∈ Ts ∧ Cond.initialized y.cls ∈ Ts ∧ Cond.methodLink own index y ∈ Ts) (hd : d1 < d) (hk : k + mc1 ≤ mc) (hn : n + ms1 ≤ ms) (hw : (st.map fun v => v.category).sum ≤ 8) (kk : ∀ w, post q w → Gj X (R ++ w) (k + mc1) (n + ms1) lv (pc + 3) st) : Gj X (R ++ [(q, e0)]) k n lv pc (.ref q :: st) := fun H locs ls hP hD hS hls => by
  obtain ⟨hx, hb, hml, hown, hts, hK, hA, hnw, hfr, hlo, hk1, hk2⟩ := id C
  obtain ⟨bytes, ws', e1, e2, e3, e4, e5⟩ := hm
  have hF := g_free hD hS hA
  have hP0 : va_P (xY X).1 vwCl [(q, e0)] H := fun i x hx => by
    cases i with
    | zero => exact hP R.length x (by rw [List.getElem?_append_right (Nat.le_refl _), Nat.sub_self]; exact hx)
    | succ i => simp at hx
  refine va_callv (va_runI (As := []) (rest := st) ⟨hx, hb, hml, hown, hts⟩ (hM q H.size) (cwI 0 hts hg e1 rfl rfl (hts _ hi.2.1) (hts _ hi.2.2) (hts _ hi.1) hyn ⟨e3, e4, e5⟩ ⟨by show 2 * d1 + 1 ≤ _; omega, by show 8 + (maxL + 11) + 100 * d1 ≤ _; omega⟩) ⟨blind_N, fun U hU hW => ⟨rfl, by rw [hU], by rw [hU]; exact hP0, va_K.moved hW.alike hK, hnw.warm hW⟩⟩ rfl rfl hls.1.1 rfl (lv_room hw) hdg ⟨Nat.le_trans hk hk1, Nat.le_trans hn hk2⟩) hS (fun x _ h => hF x h) hF (fun w t H1 locs1 ht hvm hpost hB hz hkk hS1 => ?_)
  obtain ⟨hP1, hD1⟩ := hB
  rw [ht] at hP1
  obtain ⟨hP2, hD2⟩ := g_join hP hD hkk hF hP1 hD1
  exact kk w hpost H1 locs1 ls hP2 hD2 hS1 hls
end GR
