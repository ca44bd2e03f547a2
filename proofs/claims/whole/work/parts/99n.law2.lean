/-! THE CLAIM OUT OF ONE WALK OF THE LAW'S BODY. Your part is whole_start (and what it stands on); all else here is the same for every law, but numbers. -/
def R_law : String := "ErasingMonksLaw"
def lw_P (b : Addr) (xs : List Int32) (args : Array Value) (s : State) : Prop := args = #[.ref b] ∧ s.IntsAt b xs ∧ xs.length ≤ 3584 ∧ (Jvm.Cond.and given_1 narrow_1).before args s = true
def lw_Q (_ : Array Value) (s : State) (o : Outcome) (t : State) : Prop := o = .returned (some (.int 1)) ∧ Framed s o t [] 600000 7302250
def lw_Z (below : List Frame) (a : Array Value) (s : State) : State → Prop := fun t => ∃ o, t.status = .running ∧ Ended t below o ∧ lw_Q a s o t
/-- the law's own end, with 1 on the stack, nothing written that was there before, its room as the claim has it -/
theorem lw_ret {p : Program} {l : Launch} {e : Env} {s : State} {m : MethodId} {below : List Frame} {meth : Method} {c : Code} {b : Nat} (hx : p.tables.exec = Jvm.exec) (hb : c.code = code) (hr : meth.sig.returnType = ret) (hlocks : meth.locks = false) {pc : Nat} {H : Heap} {ls : Array Slot} (hdg : decode code pc = .ok (.ireturn, 1)) : W p l e room_1 s m #[Value.ref b] below meth c H [] 600000 7302250 (lw_Z below #[Value.ref b] s) (F0 m pc ls [.int 1]) := by
  intro T hT X
  obtain ⟨fs, hret, hrun, hended, hW, hframe⟩ := X.leave (v := some (.int 1)) (hlocks := hlocks) (fun h => by rw [hr] at h; cases h)
  have hmeth' : T.vm.method? m = some meth := X.method'
  refine ⟨T.setFrames fs, ?_, .returned (some (.int 1)), hrun, hended, rfl, ⟨_, rfl⟩, hW, hframe⟩
  jvm_step X.here [X.here.top, hx, hb, hdg, hmeth', hr, ret, narrow_b1]
  (try refine ⟨rfl, ?_⟩); (try refine ⟨rfl, ?_⟩)
  first | (intro acts; rw [hret _ acts rfl rfl rfl]) | rw [hret _ _ rfl rfl rfl]
  exact Steps.refl _
/-- what holds at the law's entry: the machine, the code, the tables' words (any of lw_tbl by 'hts w (by decide +kernel)'), the script of L ints xs at the cell b, what the Statement gives of the start (any of its parts by flat_of_before) -/
def lw_At (p : Program) (s : State) (m : MethodId) (meth : Method) (c : Code) (b L : Nat) (xs : Nat → Int32) : Prop :=
  p.tables.exec = Jvm.exec ∧ c.code = code ∧ meth.sig.returnType = ret ∧ c.maxLocals = 4 ∧ s.vm.findClass R_law = some m.cls ∧ (∀ w ∈ lw_tbl, w.before #[Value.ref b] s = true) ∧ va_X b L xs s s.heap ∧ b < s.heap.size ∧ meth.locks = false ∧ (Jvm.Cond.and given_1 narrow_1).before #[Value.ref b] s = true

def kSA (A : Nat → Prop) (a b : Nat) (U : State) : Prop := va_Z "java/lang/String" "COMPACT_STRINGS" "Z" (.int (nI 1)) A U U.heap ∧ va_O "java/lang/String" a A U U.heap ∧ va_OF "java/lang/String" "coder" "B" (.int (nI 0)) a A U U.heap ∧ va_OF "java/lang/String" "value" "[B" (.ref b) a A U U.heap ∧ va_T .byte b 5 (fun j => .int (nI (kn j))) A U U.heap ∧ vk_R RX6 66 "pnsta" a U
theorem kSA_go {A : Nat → Prop} {Y : LY} {a b : Nat} {s U : State} {H : Heap} {locs : List Loc} (h : kSA A a b s) (hAY : ∀ q, AY Y q → A q) (hS : va_S A s.heap H locs) (hU : U.heap = H) (hW : s.WarmedH U.vm) : kS Y a b U := by
  obtain ⟨h1, h2, h3, h4, h5, h6⟩ := h
  unfold kS
  rw [hU]
  exact ⟨(va_Z.moved hW.alike (h1.kept hS.2.1)).narrow hAY, (va_O.moved hW.alike (h2.kept hS.2.1)).narrow hAY, (va_OF.moved hW.alike (h3.kept hS.2.1)).narrow hAY, (va_OF.moved hW.alike (h4.kept hS.2.1)).narrow hAY, (va_T.moved hW.alike (h5.kept hS.2.1)).narrow hAY, vk_R.warm hW h6⟩
section ZL
variable {X : CX} {S : GS} {lv : List (Option Value)} {pc : Nat} {st : List Value} {cc : ByteArray} {own : String} {Ts : List Cond} {d a b : Nat}
theorem z_callVPL (C : Cx X cc own Ts d) (hk : kSA (xA X) a b (xs X)) {y : MethodName} {ws : List Cond} {d1 n maxL index ci o N : Nat} {ret : Option FieldType} {As st0 : List Value} {post : Int32 → GS → Prop} {F : (Nat → Int32) → List Value} {Cn : String} {T : u_T} (hdg : decode cc pc = .ok (.invokevirtual index, 3)) (hM : CtK (xl X) y ws d1 (xY X) a b (.ref (ad (xY X) o) :: As) S post) (hg : GoodIn Ts (wsV own index Cn y ws)) (hm : MD y ws n maxL ret) (hy : y.cls = Cn) (hd : d1 < d) (hc : CO (xY X) o ci F) (hcl : vwCl[ci]? = some (Cn, T, N)) (hn : As.length = n) (hst : st0 = As.reverse ++ .ref (ad (xY X) o) :: st) (hw : (st.map fun v => v.category).sum ≤ 8) (k : ∀ r S0, post r S0 → Zj X S0 lv (pc + 3) (.int r :: st)) : Zj X S lv pc st0 := fun H locs ls hP hS hl => by
  obtain ⟨hx, hb, hml, hown, hts, hK, hA, hf, hlo, hk1, hk2⟩ := id C
  obtain ⟨bytes, ws', e1, e2, e3, e4, e5⟩ := hm
  subst hst
  have hA1 : ∀ q, AY (xY X) q → xA X q := fun q h => by
    obtain ⟨o, ho, e⟩ := h
    rw [e]
    exact hA o ho
  refine va_calli (va_runV (As := As) (rest := st) ⟨hx, hb, hml, hown, hts⟩ hM (cwV n hts hg e1 rfl rfl ⟨hy, e3, e4, e5⟩ ⟨by show 2 * d1 + 1 ≤ _; omega, by show 8 + (maxL + 11) + 100 * d1 ≤ _; omega⟩) ⟨blind_K, va_recv hK.1 hP hcl (q0 := o) (by rw [wl_get hc.1, hc.2]), fun U hU hW => ⟨rfl, by rw [hU]; exact hP, ⟨va_K.moved hW.alike hK.1, hK.2⟩, kSA_go hk hA1 hS hU hW⟩⟩ rfl hn hl.1.1 rfl (lv_room hw) hdg ⟨hk1, hk2⟩) hS (fun q _ h => hA1 q h) hA1 (fun r u t H1 locs1 ht hvm hw1 hB hz1 hk1 hS1 => ?_)
  exact k r u hw1 H1 locs1 ls (by rw [← ht]; exact hB.1) hS1 hl
def LX (X : CX) (sb L : Nat) (f : Nat → Int32) : Prop := va_X sb L f (xs X) (xs X).heap ∧ sb < (xs X).heap.size ∧ ¬ xA X sb ∧ L ≤ 3584
theorem z_sld (C : Cx X cc own Ts d) {sb L i : Nat} {f : Nat → Int32} (hB : LX X sb L f) (hdg : decode cc pc = .ok (.iaload, 1)) (hi : i < L) (k : Zj X S lv (pc + 1) (.int (f i) :: st)) : Zj X S lv pc (.int (nI i) :: .ref sb :: st) := fun H locs ls hP hS hl => by
  have hL := hB.2.2.2
  refine va_sld C.1 C.2.1 hB.1 hB.2.1 hB.2.2.1 hS (vp_in_nI hi (by omega)) hdg ?_
  rw [nI_clamp (by omega)]
  exact k H locs ls hP hS hl
theorem z_slen (C : Cx X cc own Ts d) {sb L : Nat} {f : Nat → Int32} (hB : LX X sb L f) (hdg : decode cc pc = .ok (.arraylength, 1)) (k : Zj X S lv (pc + 1) (.int (nI L) :: st)) : Zj X S lv pc (.ref sb :: st) := fun H locs ls hP hS hl => va_slen C.1 C.2.1 hB.1 hB.2.1 hB.2.2.1 hS hdg (k H locs ls hP hS hl)
/-- the law's own frame -/
def LE (X : CX) (sb : Nat) : Prop := xR X = room_1 ∧ xa X = #[Value.ref sb] ∧ xQ X = lw_Z (xb X) #[Value.ref sb] (xs X) ∧ xA X = (fun q => (xs X).heap.size ≤ q) ∧ (xt X).sig.returnType = ret ∧ (xt X).locks = false ∧ xk X ≤ 600000 ∧ xo X ≤ 7302250
theorem z_lend (C : Cx X code own Ts d) {sb : Nat} (hE : LE X sb) (hdg : decode code pc = .ok (.ireturn, 1)) : Zj X S lv pc [.int (nI 1)] := fun H locs ls hP hS hl => by
  obtain ⟨h1, h2, h3, h4, h5, h6, h7, h8⟩ := hE
  rw [h4] at hS
  refine va_forget (fun q hq => hS.2.2 q hq) ?_
  refine W.widen h7 h8 ?_
  rw [h1, h2, h3]
  exact lw_ret C.1 C.2.1 h5 h6 hdg
end ZL
theorem law_cmp {L i : Nat} (hL : L ≤ 3584) (hi : i ≤ 3600) : nI L - nI 7 < nI i ↔ L < i + 7 := by
  rw [Int32.lt_iff_toInt_lt, pk_sub_toInt (by omega) (by decide), nI_toInt (by omega)]
  omega
