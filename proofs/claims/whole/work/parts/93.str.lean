/-! THE TEXT OF THE KINDS: a String constant outside the world -/
def kn (j : Nat) : Nat := ([112, 110, 115, 116, 97] : List Nat).getD j 0
def kS (Y : LY) (a b : Nat) (U : State) : Prop := va_Z "java/lang/String" "COMPACT_STRINGS" "Z" (.int (nI 1)) (AY Y) U U.heap ∧ va_O "java/lang/String" a (AY Y) U U.heap ∧ va_OF "java/lang/String" "coder" "B" (.int (nI 0)) a (AY Y) U U.heap ∧ va_OF "java/lang/String" "value" "[B" (.ref b) a (AY Y) U U.heap ∧ va_T .byte b 5 (fun j => .int (nI (kn j))) (AY Y) U U.heap ∧ vk_R RX6 66 "pnsta" a U
def kX (X : CX) (a b : Nat) : Prop := xA X = AY (xY X) ∧ kS (xY X) a b (xs X)
theorem kS_go {Y : LY} {a b : Nat} {s U : State} {H : Heap} {locs : List Loc} (h : kS Y a b s) (hS : va_S (AY Y) s.heap H locs) (hU : U.heap = H) (hW : s.WarmedH U.vm) : kS Y a b U := by
  obtain ⟨h1, h2, h3, h4, h5, h6⟩ := h
  unfold kS
  rw [hU]
  exact ⟨va_Z.moved hW.alike (h1.kept hS.2.1), va_O.moved hW.alike (h2.kept hS.2.1), va_OF.moved hW.alike (h3.kept hS.2.1), va_OF.moved hW.alike (h4.kept hS.2.1), va_T.moved hW.alike (h5.kept hS.2.1), vk_R.warm hW h6⟩
def PcK (Y : LY) (a b : Nat) (As : List Value) (S : GS) : Array Value → State → Prop := va_Pc As (fun U => va_P Y.1 vwCl (wl Y S) U.heap ∧ kY Y U ∧ kS Y a b U)
theorem blind_K {Y : LY} {a b : Nat} {As : List Value} {S : GS} : FrameBlind (PcK Y a b As S) := fun x U g mk q => by
  obtain ⟨q0, qP, ⟨qK, qD⟩, h1, h2, h3, h4, h5, h6⟩ := q
  exact ⟨q0, qP, ⟨va_K.moved (u := U) (U := U.calling g mk x) (Vm.Alike.refl U.vm) qK, qD⟩, va_Z.moved (u := U) (U := U.calling g mk x) (Vm.Alike.refl U.vm) h1, va_O.moved (u := U) (U := U.calling g mk x) (Vm.Alike.refl U.vm) h2, va_OF.moved (u := U) (U := U.calling g mk x) (Vm.Alike.refl U.vm) h3, va_OF.moved (u := U) (U := U.calling g mk x) (Vm.Alike.refl U.vm) h4, va_T.moved (u := U) (U := U.calling g mk x) (Vm.Alike.refl U.vm) h5, vk_R.same (u := U) (U := U.calling g mk x) rfl h6⟩
def CtK (l : Launch) (y : MethodName) (ws : List Cond) (d : Nat) (Y : LY) (a b : Nat) (As : List Value) (S : GS) (post : Int32 → GS → Prop) : Prop :=
  Met l y ws (rmL d) (PcK Y a b As S) (va_Qi (fun (r : Int32) (u : GS) => post r u) (fun u t => va_P Y.1 vwCl (wl Y u) t.heap ∧ kY Y t) (AY Y)) 0 0 (AY Y)
theorem mkK {l : Launch} {y : MethodName} {ws ws' : List Cond} {d : Nat} {Y : LY} {a b : Nat} {As : List Value} {S : GS} {post : Int32 → GS → Prop} {cc : ByteArray} {maxL : Nat} {ty : FieldType} (hy : plainName y.cls = true) (hw : ws = Cond.code y cc maxL (some ty) :: ws') (hlen : (lvA As).length ≤ maxL)
    (body : ∀ X : CX, xl X = l → xY X = Y → Cx X cc y.cls ws d → RtP X ty post → kX X a b → Zj X S (lvE As maxL) 0 []) : CtK l y ws d Y a b As S post := by
  refine Met.ofW (cc := cc) (maxL := maxL) (ret := some ty) hy hw ?_
  intro p e s m args below meth c s₁ B hml hv
  obtain ⟨rfl, hP, ⟨hK, hD⟩, hz⟩ := hv
  have hts := atoms_spec (ws := ws) B.pre
  have hown : s.vm.findClass y.cls = some m.cls := findClass_of_methodNamed B.named
  rw [lg_entry_eq]
  refine body (p, l, e, rmL d, s, m, As.toArray, below, meth, c, MQ below (va_Qi (fun (r : Int32) (u : GS) => post r u) (fun u t => va_P Y.1 vwCl (wl Y u) t.heap ∧ kY Y t) (AY Y)) As.toArray s 0 0 (AY Y), Y, AY Y, maxL, 0, 0) rfl rfl ⟨B.exec, B.bytes, hml, hown, hts, ⟨hK, hD⟩, fun o ho => ⟨o, ho, rfl⟩, Nat.le_refl _, Nat.le_refl _, Nat.le_refl _, Nat.le_refl _⟩ ⟨B.returns, B.notSynchronized, rfl, rfl, rfl, rfl⟩ ⟨rfl, hz⟩ s.heap [] _ hP va_S.rf (zl_entry As hlen)
section ZK
variable {X : CX} {S : GS} {lv : List (Option Value)} {pc : Nat} {st : List Value} {cc : ByteArray} {own : String} {Ts : List Cond} {d a b : Nat}
theorem z_getsC (C : Cx X cc own Ts d) (hk : kX X a b) {index : Nat} (hdg : decode cc pc = .ok (.getstatic index, 3)) (hm : Cond.fieldLink own index "java/lang/String" "COMPACT_STRINGS" "Z" ∈ Ts) (k : Zj X S lv (pc + 3) (.int (nI 1) :: st)) : Zj X S lv pc st := fun H locs ls hP hS hl =>
  va_gets C.1 C.2.1 hk.2.1 (by rw [← hk.1]; exact hS) C.2.2.2.1 (C.2.2.2.2.1 _ hm) (fun _ h => h) hdg (k H locs ls hP hS hl)
theorem z_getKc (C : Cx X cc own Ts d) (hk : kX X a b) {index : Nat} (hdg : decode cc pc = .ok (.getfield index, 3)) (hm : Cond.fieldLink own index "java/lang/String" "coder" "B" ∈ Ts) (k : Zj X S lv (pc + 3) (.int (nI 0) :: st)) : Zj X S lv pc (.ref a :: st) := fun H locs ls hP hS hl =>
  vk_getf C.1 C.2.1 hk.2.2.2.1 (by rw [← hk.1]; exact hS) C.2.2.2.1 (C.2.2.2.2.1 _ hm) (fun _ h => h) hdg (k H locs ls hP hS hl)
theorem z_getKv (C : Cx X cc own Ts d) (hk : kX X a b) {index : Nat} (hdg : decode cc pc = .ok (.getfield index, 3)) (hm : Cond.fieldLink own index "java/lang/String" "value" "[B" ∈ Ts) (k : Zj X S lv (pc + 3) (.ref b :: st)) : Zj X S lv pc (.ref a :: st) := fun H locs ls hP hS hl =>
  vk_getf C.1 C.2.1 hk.2.2.2.2.1 (by rw [← hk.1]; exact hS) C.2.2.2.1 (C.2.2.2.2.1 _ hm) (fun _ h => h) hdg (k H locs ls hP hS hl)
theorem z_alenK (C : Cx X cc own Ts d) (hk : kX X a b) (hdg : decode cc pc = .ok (.arraylength, 1)) (k : Zj X S lv (pc + 1) (.int (nI 5) :: st)) : Zj X S lv pc (.ref b :: st) := fun H locs ls hP hS hl =>
  va_tlen C.1 C.2.1 hk.2.2.2.2.2.1 (by rw [← hk.1]; exact hS) rfl hdg (k H locs ls hP hS hl)
theorem z_baldK (C : Cx X cc own Ts d) (hk : kX X a b) {i : Nat} (hdg : decode cc pc = .ok (.baload, 1)) (hi : i < 5) (k : Zj X S lv (pc + 1) (.int (nI (kn i)) :: st)) : Zj X S lv pc (.int (nI i) :: .ref b :: st) := fun H locs ls hP hS hl =>
  va_tb C.1 C.2.1 hk.2.2.2.2.2.1 (by rw [← hk.1]; exact hS) (vp_in_nI hi (by decide)) (by rw [nI_clamp (by omega)]) hdg (k H locs ls hP hS hl)
theorem z_ldcS {Ts : List Cond} {d : Nat} (C : Cx X cc RX6 Ts d) (hk : kX X a b) (hdg : decode cc pc = .ok (.ldc 66, 2)) (k : Zj X S lv (pc + 2) (.ref a :: st)) : Zj X S lv pc st := fun H locs ls hP hS hl =>
  va_ldcS C.1 C.2.1 C.2.2.2.1 hk.2.2.2.2.2.2 hdg (k H locs ls hP hS hl)
theorem z_callVK (C : Cx X cc own Ts d) (hk : kX X a b) {y : MethodName} {ws : List Cond} {d1 n maxL index : Nat} {ret : Option FieldType} {As st0 : List Value} {post : Int32 → GS → Prop} (hdg : decode cc pc = .ok (.invokevirtual index, 3)) (hM : CtK (xl X) y ws d1 (xY X) a b (.ref a :: As) S post) (hg : GoodIn Ts (wsV own index "java/lang/String" y ws)) (hm : MD y ws n maxL ret) (hy : y.cls = "java/lang/String") (hd : d1 < d) (hn : As.length = n) (hst : st0 = As.reverse ++ .ref a :: st) (hw : (st.map fun v => v.category).sum ≤ 8) (k : ∀ r S0, post r S0 → Zj X S0 lv (pc + 3) (.int r :: st)) : Zj X S lv pc st0 := fun H locs ls hP hS hl => by
  obtain ⟨hx, hb, hml, hown, hts, hK, hA, hf, hlo, hk1, hk2⟩ := id C
  obtain ⟨bytes, ws', e1, e2, e3, e4, e5⟩ := hm
  subst hst
  have hS' : va_S (AY (xY X)) (xs X).heap H locs := by rw [← hk.1]; exact hS
  have hA1 : ∀ q, AY (xY X) q → xA X q := fun q h => by rw [hk.1]; exact h
  have hrc : ∃ cell : Cell, H[a]? = some cell ∧ cell.vm.isStatics = false ∧ (xs X).vm.findClass "java/lang/String" = some cell.cls := by
    obtain ⟨cell, h1, h2, h3, -⟩ := hk.2.2.1.kept hS'.2.1
    exact ⟨cell, h1, h2, h3⟩
  refine va_calli (va_runV (As := As) (rest := st) ⟨hx, hb, hml, hown, hts⟩ hM (cwV n hts hg e1 rfl rfl ⟨hy, e3, e4, e5⟩ ⟨by show 2 * d1 + 1 ≤ _; omega, by show 8 + (maxL + 11) + 100 * d1 ≤ _; omega⟩) ⟨blind_K, hrc, fun U hU hW => ⟨rfl, by rw [hU]; exact hP, ⟨va_K.moved hW.alike hK.1, hK.2⟩, kS_go hk.2 hS' hU hW⟩⟩ rfl hn hl.1.1 rfl (lv_room hw) hdg ⟨hk1, hk2⟩) hS (fun q _ h => hA1 q h) hA1 (fun r u t H1 locs1 ht hvm hw1 hB hz1 hk1 hS1 => ?_)
  exact k r u hw1 H1 locs1 ls (by rw [← ht]; exact hB.1) hS1 hl
theorem z_callVPK (C : Cx X cc own Ts d) (hk : kX X a b) {y : MethodName} {ws : List Cond} {d1 n maxL index ci o N : Nat} {ret : Option FieldType} {As st0 : List Value} {post : Int32 → GS → Prop} {F : (Nat → Int32) → List Value} {Cn : String} {T : u_T} (hdg : decode cc pc = .ok (.invokevirtual index, 3)) (hM : CtK (xl X) y ws d1 (xY X) a b (.ref (ad (xY X) o) :: As) S post) (hg : GoodIn Ts (wsV own index Cn y ws)) (hm : MD y ws n maxL ret) (hy : y.cls = Cn) (hd : d1 < d) (hc : CO (xY X) o ci F) (hcl : vwCl[ci]? = some (Cn, T, N)) (hn : As.length = n) (hst : st0 = As.reverse ++ .ref (ad (xY X) o) :: st) (hw : (st.map fun v => v.category).sum ≤ 8) (k : ∀ r S0, post r S0 → Zj X S0 lv (pc + 3) (.int r :: st)) : Zj X S lv pc st0 := fun H locs ls hP hS hl => by
  obtain ⟨hx, hb, hml, hown, hts, hK, hA, hf, hlo, hk1, hk2⟩ := id C
  obtain ⟨bytes, ws', e1, e2, e3, e4, e5⟩ := hm
  subst hst
  have hS' : va_S (AY (xY X)) (xs X).heap H locs := by rw [← hk.1]; exact hS
  have hA1 : ∀ q, AY (xY X) q → xA X q := fun q h => by rw [hk.1]; exact h
  refine va_calli (va_runV (As := As) (rest := st) ⟨hx, hb, hml, hown, hts⟩ hM (cwV n hts hg e1 rfl rfl ⟨hy, e3, e4, e5⟩ ⟨by show 2 * d1 + 1 ≤ _; omega, by show 8 + (maxL + 11) + 100 * d1 ≤ _; omega⟩) ⟨blind_K, va_recv hK.1 hP hcl (q0 := o) (by rw [wl_get hc.1, hc.2]), fun U hU hW => ⟨rfl, by rw [hU]; exact hP, ⟨va_K.moved hW.alike hK.1, hK.2⟩, kS_go hk.2 hS' hU hW⟩⟩ rfl hn hl.1.1 rfl (lv_room hw) hdg ⟨hk1, hk2⟩) hS (fun q _ h => hA1 q h) hA1 (fun r u t H1 locs1 ht hvm hw1 hB hz1 hk1 hS1 => ?_)
  exact k r u hw1 H1 locs1 ls (by rw [← ht]; exact hB.1) hS1 hl
theorem z_callSK (C : Cx X cc own Ts d) (hk : kX X a b) {y : MethodName} {ws : List Cond} {d1 n maxL index : Nat} {ret : Option FieldType} {As st0 : List Value} {post : Int32 → GS → Prop} (hdg : decode cc pc = .ok (.invokestatic index, 3)) (hM : CtK (xl X) y ws d1 (xY X) a b As S post) (hg : GoodIn Ts (va_wsS own index y ws)) (hm : MD y ws n maxL ret) (hd : d1 < d) (hn : As.length = n) (hst : st0 = As.reverse ++ st) (hw : (st.map fun v => v.category).sum ≤ 8) (k : ∀ r S0, post r S0 → Zj X S0 lv (pc + 3) (.int r :: st)) : Zj X S lv pc st0 := fun H locs ls hP hS hl => by
  obtain ⟨hx, hb, hml, hown, hts, hK, hA, hf, hlo, hk1, hk2⟩ := id C
  obtain ⟨bytes, ws', e1, e2, e3, e4, e5⟩ := hm
  subst hst
  have hS' : va_S (AY (xY X)) (xs X).heap H locs := by rw [← hk.1]; exact hS
  have hA1 : ∀ q, AY (xY X) q → xA X q := fun q h => by rw [hk.1]; exact h
  refine va_calli (va_runS (As := As) (rest := st) ⟨hx, hb, hml, hown, hts⟩ hM (va_cwS n hts hg e1 rfl rfl ⟨e3, e4, e5⟩ ⟨by show 2 * d1 + 1 ≤ _; omega, by show 8 + (maxL + 11) + 100 * d1 ≤ _; omega⟩) ⟨blind_K, fun U hU hW => ⟨rfl, by rw [hU]; exact hP, ⟨va_K.moved hW.alike hK.1, hK.2⟩, kS_go hk.2 hS' hU hW⟩⟩ rfl hn hl.1.1 rfl (lv_room hw) hdg ⟨hk1, hk2⟩) hS (fun q _ h => hA1 q h) hA1 (fun r u t H1 locs1 ht hvm hw1 hB hz1 hk1 hS1 => ?_)
  exact k r u hw1 H1 locs1 ls (by rw [← ht]; exact hB.1) hS1 hl
end ZK
def kdI (c : Nat) : Int32 := if c = 112 then nI 0 else if c = 110 then nI 1 else if c = 115 then nI 2 else if c = 116 then nI 3 else if c = 97 then nI 4 else -1
theorem kdI_no {c : Nat} (h : ∀ j, j < 5 → ¬ kn j = c) : kdI c = -1 := by
  have h0 : ¬ 112 = c := h 0 (by decide)
  have h1 : ¬ 110 = c := h 1 (by decide)
  have h2 : ¬ 115 = c := h 2 (by decide)
  have h3 : ¬ 116 = c := h 3 (by decide)
  have h4 : ¬ 97 = c := h 4 (by decide)
  unfold kdI
  rw [if_neg (by omega), if_neg (by omega), if_neg (by omega), if_neg (by omega), if_neg (by omega)]
theorem kdI_at {i : Nat} (h : i < 5) : kdI (kn i) = nI i := by
  rcases (show i = 0 ∨ i = 1 ∨ i = 2 ∨ i = 3 ∨ i = 4 by omega) with rfl | rfl | rfl | rfl | rfl <;> rfl
theorem kn_lt {i : Nat} (h : i < 5) : kn i < 128 := by
  rcases (show i = 0 ∨ i = 1 ∨ i = 2 ∨ i = 3 ∨ i = 4 by omega) with rfl | rfl | rfl | rfl | rfl <;> decide
theorem t_ib128 : ∀ c : Fin 128, (nI c.1).toInt8.toInt32 = nI c.1 := by decide +kernel

theorem kz_J0_isLatin1_aae02_38 : Cond.fieldLink RJ0 38 "java/lang/String" "COMPACT_STRINGS" "Z" ∈ wsJ0_isLatin1_aae02 := by decide +kernel
theorem kz_J0_isLatin1_aae02_15 : Cond.fieldLink RJ0 15 "java/lang/String" "coder" "B" ∈ wsJ0_isLatin1_aae02 := by decide +kernel
set_option maxHeartbeats 4000000 in
set_option maxRecDepth 100000 in
theorem c_J0_isLatin1_aae02 {l : Launch} {Y : LY} {a b : Nat} {S : GS}  : CtK l yJ0_isLatin1_aae02 wsJ0_isLatin1_aae02 1 Y a b [.ref a] S (fun r u => r = nI 1 ∧ u = S) := by
  refine mkK (cc := cJ0_isLatin1_aae02) (maxL := 1) rfl rfl (Nat.le_of_ble_eq_true rfl) ?_
  intro X hl hY C hr hk
  subst hl
  subst hY
  show Zj X S [some (.ref a)] 0 []
  refine z_getsC C hk dJ0_isLatin1_aae02_0 kz_J0_isLatin1_aae02_38 ?_
  refine z_if_eqF C 17 dJ0_isLatin1_aae02_3 (by decide) (by decide) ?_
  refine z_aload0 C dJ0_isLatin1_aae02_6 ?_
  refine z_getKc C hk dJ0_isLatin1_aae02_7 kz_J0_isLatin1_aae02_15 ?_
  refine z_if_neF C 17 dJ0_isLatin1_aae02_10 (by decide) (by decide) ?_
  refine z_iconstN 1 C dJ0_isLatin1_aae02_13 ?_
  refine z_goto C 18 dJ0_isLatin1_aae02_14 (by decide) ?_
  exact z_iretP C dJ0_isLatin1_aae02_18 hr rfl ⟨rfl, rfl⟩

theorem kz_J0_coder_7d493_38 : Cond.fieldLink RJ0 38 "java/lang/String" "COMPACT_STRINGS" "Z" ∈ wsJ0_coder_7d493 := by decide +kernel
theorem kz_J0_coder_7d493_15 : Cond.fieldLink RJ0 15 "java/lang/String" "coder" "B" ∈ wsJ0_coder_7d493 := by decide +kernel
set_option maxHeartbeats 4000000 in
set_option maxRecDepth 100000 in
theorem c_J0_coder_7d493 {l : Launch} {Y : LY} {a b : Nat} {S : GS}  : CtK l yJ0_coder_7d493 wsJ0_coder_7d493 1 Y a b [.ref a] S (fun r u => r = nI 0 ∧ u = S) := by
  refine mkK (cc := cJ0_coder_7d493) (maxL := 1) rfl rfl (Nat.le_of_ble_eq_true rfl) ?_
  intro X hl hY C hr hk
  subst hl
  subst hY
  show Zj X S [some (.ref a)] 0 []
  refine z_getsC C hk dJ0_coder_7d493_0 kz_J0_coder_7d493_38 ?_
  refine z_if_eqF C 13 dJ0_coder_7d493_3 (by decide) (by decide) ?_
  refine z_aload0 C dJ0_coder_7d493_6 ?_
  refine z_getKc C hk dJ0_coder_7d493_7 kz_J0_coder_7d493_15 ?_
  refine z_goto C 14 dJ0_coder_7d493_10 (by decide) ?_
  exact z_iretP C dJ0_coder_7d493_14 hr rfl ⟨rfl, rfl⟩

theorem kz_J0_length_8abf5_9 : Cond.fieldLink RJ0 9 "java/lang/String" "value" "[B" ∈ wsJ0_length_8abf5 := by decide +kernel
theorem md_J0_coder_7d493 : MD yJ0_coder_7d493 wsJ0_coder_7d493 0 1 (some .byte) := ⟨_, _, rfl, by decide, by decide +kernel, by decide +kernel, by decide +kernel⟩
set_option maxHeartbeats 4000000 in
set_option maxRecDepth 100000 in
theorem c_J0_length_8abf5 {l : Launch} {Y : LY} {a b : Nat} {S : GS}  : CtK l yJ0_length_8abf5 wsJ0_length_8abf5 2 Y a b [.ref a] S (fun r u => r = nI 5 ∧ u = S) := by
  refine mkK (cc := cJ0_length_8abf5) (maxL := 1) rfl rfl (Nat.le_of_ble_eq_true rfl) ?_
  intro X hl hY C hr hk
  subst hl
  subst hY
  show Zj X S [some (.ref a)] 0 []
  refine z_aload0 C dJ0_length_8abf5_0 ?_
  refine z_getKv C hk dJ0_length_8abf5_1 kz_J0_length_8abf5_9 ?_
  refine z_alenK C hk dJ0_length_8abf5_4 ?_
  refine z_aload0 C dJ0_length_8abf5_5 ?_
  refine z_callVK C hk dJ0_length_8abf5_6 c_J0_coder_7d493 gJ0_length_8abf5_J0_coder_7d493 md_J0_coder_7d493 rfl (by decide) rfl rfl (Nat.le_of_ble_eq_true rfl) ?_
  rintro _ _ ⟨rfl, rfl⟩
  refine z_ishr C dJ0_length_8abf5_9 ?_
  refine z_top (y := nI 5) C (by decide) ?_
  exact z_iretP C dJ0_length_8abf5_10 hr rfl ⟨rfl, rfl⟩

set_option maxHeartbeats 4000000 in
set_option maxRecDepth 100000 in
theorem c_J1_canEncode_9a6ad {l : Launch} {Y : LY} {a b : Nat} {S : GS} {c : Nat} (hc : c ≤ 126) : CtK l yJ1_canEncode_9a6ad wsJ1_canEncode_9a6ad 1 Y a b [.int (nI c)] S (fun r u => r = nI 1 ∧ u = S) := by
  refine mkK (cc := cJ1_canEncode_9a6ad) (maxL := 1) rfl rfl (Nat.le_of_ble_eq_true rfl) ?_
  intro X hl hY C hr hk
  subst hl
  subst hY
  show Zj X S [some (.int (nI c))] 0 []
  refine z_iload0 C dJ1_canEncode_9a6ad_0 ?_
  refine z_if_ltN C 15 dJ1_canEncode_9a6ad_1 (by decide) (by omega) ?_
  refine z_iload0 C dJ1_canEncode_9a6ad_4 ?_
  refine z_sipush (v := nI 255) C dJ1_canEncode_9a6ad_5 (by decide) ?_
  refine z_icmp_gtN C 15 dJ1_canEncode_9a6ad_8 (by decide) (by omega) (by omega) (fun c8 => ?_) (fun c8 => ?_)
  · exact absurd c8 (by omega)
  · refine z_iconstN 1 C dJ1_canEncode_9a6ad_11 ?_
    refine z_goto C 16 dJ1_canEncode_9a6ad_12 (by decide) ?_
    exact z_iretP C dJ1_canEncode_9a6ad_16 hr rfl ⟨rfl, rfl⟩

set_option maxHeartbeats 4000000 in
set_option maxRecDepth 100000 in
theorem lp_J1_indexOfChar {X : CX} {a b c : Nat} {S : GS} (hc : c ≤ 126) (hk : kX X a b) (hr : RtP X .int (fun r u => r = kdI c ∧ u = S)) (C : Cx X cJ1_indexOfChar_4cfef RJ1 wsJ1_indexOfChar_4cfef 1) : ∀ (n : Nat) (i : Nat), i + n = 5 → (∀ j, j < i → ¬ kn j = c) → Zj X S [some (.ref b), some (.int (nI (c))), some (.int (nI (0))), some (.int (nI (5))), some (.int (nI (c))), some (.int (nI (i)))] 7 [] := by
  intro n
  induction n with
  | zero =>
    intro i hi h
    obtain rfl : i = 5 := by omega
    refine z_iload5 C dJ1_indexOfChar_4cfef_7 ?_
    refine z_iload3 C dJ1_indexOfChar_4cfef_9 ?_
    refine z_icmp_geN C 31 dJ1_indexOfChar_4cfef_10 (by decide) (by omega) (by omega) (fun c10 => ?_) (fun c10 => ?_)
    · refine z_iconst (v := (-1)) C dJ1_indexOfChar_4cfef_31 (by decide) ?_
      exact z_iretP C dJ1_indexOfChar_4cfef_32 hr rfl ⟨(kdI_no h).symm, rfl⟩
    · exact absurd c10 (by omega)
  | succ n ih =>
    intro i hi h
    have kl := kn_lt (show i < 5 by omega)
    refine z_iload5 C dJ1_indexOfChar_4cfef_7 ?_
    refine z_iload3 C dJ1_indexOfChar_4cfef_9 ?_
    refine z_icmp_geN C 31 dJ1_indexOfChar_4cfef_10 (by decide) (by omega) (by omega) (fun c10 => ?_) (fun c10 => ?_)
    · exact absurd c10 (by omega)
    · refine z_aload0 C dJ1_indexOfChar_4cfef_13 ?_
      refine z_iload5 C dJ1_indexOfChar_4cfef_14 ?_
      refine z_baldK C hk dJ1_indexOfChar_4cfef_16 (by omega) ?_
      refine z_iload4 C dJ1_indexOfChar_4cfef_17 ?_
      refine z_icmp_neN C 25 dJ1_indexOfChar_4cfef_19 (by decide) (by omega) (by omega) (fun c19 => ?_) (fun c19 => ?_)
      · refine z_iinc5 C dJ1_indexOfChar_4cfef_25 (inc1 _) nl_i ?_
        refine z_goto C 7 dJ1_indexOfChar_4cfef_28 (by decide) ?_
        refine ih (i + 1) (by omega) (fun j hj => ?_)
        by_cases z : j = i
        · subst z; exact c19
        · exact h j (by omega)
      · refine z_iload5 C dJ1_indexOfChar_4cfef_22 ?_
        exact z_iretP C dJ1_indexOfChar_4cfef_24 hr rfl ⟨by rw [← c19]; exact (kdI_at (by omega)).symm, rfl⟩

set_option maxHeartbeats 4000000 in
set_option maxRecDepth 100000 in
theorem c_J1_indexOfChar_4cfef {l : Launch} {Y : LY} {a b : Nat} {S : GS} {c : Nat} (hc : c ≤ 126) : CtK l yJ1_indexOfChar_4cfef wsJ1_indexOfChar_4cfef 1 Y a b [.ref b, .int (nI c), .int (nI 0), .int (nI 5)] S (fun r u => r = kdI c ∧ u = S) := by
  refine mkK (cc := cJ1_indexOfChar_4cfef) (maxL := 6) rfl rfl (Nat.le_of_ble_eq_true rfl) ?_
  intro X hl hY C hr hk
  subst hl
  subst hY
  show Zj X S [some (.ref b), some (.int (nI c)), some (.int (nI 0)), some (.int (nI 5)), none, none] 0 []
  refine z_iload1 C dJ1_indexOfChar_4cfef_0 ?_
  refine z_i2b C dJ1_indexOfChar_4cfef_1 ?_
  refine z_top (y := nI c) C (t_ib128 ⟨c, by omega⟩) ?_
  refine z_istore4 C dJ1_indexOfChar_4cfef_2 nl_i ?_
  refine z_iload2 C dJ1_indexOfChar_4cfef_4 ?_
  refine z_istore5 C dJ1_indexOfChar_4cfef_5 nl_i ?_
  exact lp_J1_indexOfChar hc hk hr C 5 0 (by decide) (fun j hj => absurd hj (by omega))

theorem md_J1_canEncode_9a6ad : MD yJ1_canEncode_9a6ad wsJ1_canEncode_9a6ad 1 1 (some .boolean) := ⟨_, _, rfl, by decide, by decide +kernel, by decide +kernel, by decide +kernel⟩
theorem mm_J1_indexOf_4cfef_92 : Cond.methodLink RJ1 92 Lib.Math.max.name ∈ wsJ1_indexOf_4cfef ∧ Cond.static Lib.Math.max.name ∈ wsJ1_indexOf_4cfef ∧ Cond.initialized "java/lang/Math" ∈ wsJ1_indexOf_4cfef ∧ Cond.code Lib.Math.max.name Lib.Math.max.code 2 (some .int) ∈ wsJ1_indexOf_4cfef := by decide +kernel
theorem mm_J1_indexOf_4cfef_38 : Cond.methodLink RJ1 38 Lib.Math.min.name ∈ wsJ1_indexOf_4cfef ∧ Cond.static Lib.Math.min.name ∈ wsJ1_indexOf_4cfef ∧ Cond.initialized "java/lang/Math" ∈ wsJ1_indexOf_4cfef ∧ Cond.code Lib.Math.min.name Lib.Math.min.code 2 (some .int) ∈ wsJ1_indexOf_4cfef := by decide +kernel
theorem md_J1_indexOfChar_4cfef : MD yJ1_indexOfChar_4cfef wsJ1_indexOfChar_4cfef 4 6 (some .int) := ⟨_, _, rfl, by decide, by decide +kernel, by decide +kernel, by decide +kernel⟩
set_option maxHeartbeats 4000000 in
set_option maxRecDepth 100000 in
theorem c_J1_indexOf_4cfef {l : Launch} {Y : LY} {a b : Nat} {S : GS} {c : Nat} (hc : c ≤ 126) : CtK l yJ1_indexOf_4cfef wsJ1_indexOf_4cfef 2 Y a b [.ref b, .int (nI c), .int (nI 0), .int (nI 5)] S (fun r u => r = kdI c ∧ u = S) := by
  refine mkK (cc := cJ1_indexOf_4cfef) (maxL := 4) rfl rfl (Nat.le_of_ble_eq_true rfl) ?_
  intro X hl hY C hr hk
  subst hl
  subst hY
  show Zj X S [some (.ref b), some (.int (nI c)), some (.int (nI 0)), some (.int (nI 5))] 0 []
  refine z_iload1 C dJ1_indexOf_4cfef_0 ?_
  refine z_callSK C hk dJ1_indexOf_4cfef_1 (c_J1_canEncode_9a6ad hc) gJ1_indexOf_4cfef_J1_canEncode_9a6ad md_J1_canEncode_9a6ad (by decide) rfl rfl (Nat.le_of_ble_eq_true rfl) ?_
  rintro _ _ ⟨rfl, rfl⟩
  refine z_if_neT C 9 dJ1_indexOf_4cfef_4 (by decide) (by decide) ?_
  refine z_iload2 C dJ1_indexOf_4cfef_9 ?_
  refine z_iconstN 0 C dJ1_indexOf_4cfef_10 ?_
  refine z_mmax C dJ1_indexOf_4cfef_11 mm_J1_indexOf_4cfef_92.1 mm_J1_indexOf_4cfef_92.2.1 mm_J1_indexOf_4cfef_92.2.2.1 mm_J1_indexOf_4cfef_92.2.2.2 (by decide) (Nat.le_of_ble_eq_true rfl) ?_
  refine z_top (y := nI 0) C (by decide) ?_
  refine z_istore2 C dJ1_indexOf_4cfef_14 nl_i ?_
  refine z_iload3 C dJ1_indexOf_4cfef_15 ?_
  refine z_aload0 C dJ1_indexOf_4cfef_16 ?_
  refine z_alenK C hk dJ1_indexOf_4cfef_17 ?_
  refine z_mmin C dJ1_indexOf_4cfef_18 mm_J1_indexOf_4cfef_38.1 mm_J1_indexOf_4cfef_38.2.1 mm_J1_indexOf_4cfef_38.2.2.1 mm_J1_indexOf_4cfef_38.2.2.2 (by decide) (Nat.le_of_ble_eq_true rfl) ?_
  refine z_top (y := nI 5) C (by decide) ?_
  refine z_istore3 C dJ1_indexOf_4cfef_21 nl_i ?_
  refine z_iload2 C dJ1_indexOf_4cfef_22 ?_
  refine z_iload3 C dJ1_indexOf_4cfef_23 ?_
  refine z_icmp_ltN C 29 dJ1_indexOf_4cfef_24 (by decide) (by omega) (by omega) (fun c24 => ?_) (fun c24 => ?_)
  · refine z_aload0 C dJ1_indexOf_4cfef_29 ?_
    refine z_iload1 C dJ1_indexOf_4cfef_30 ?_
    refine z_iload2 C dJ1_indexOf_4cfef_31 ?_
    refine z_iload3 C dJ1_indexOf_4cfef_32 ?_
    refine z_callSK C hk dJ1_indexOf_4cfef_33 (c_J1_indexOfChar_4cfef hc) gJ1_indexOf_4cfef_J1_indexOfChar_4cfef md_J1_indexOfChar_4cfef (by decide) rfl rfl (Nat.le_of_ble_eq_true rfl) ?_
    rintro _ _ ⟨rfl, rfl⟩
    exact z_iretP C dJ1_indexOf_4cfef_36 hr rfl ⟨rfl, rfl⟩
  · exact absurd c24 (by omega)

theorem md_J0_isLatin1_aae02 : MD yJ0_isLatin1_aae02 wsJ0_isLatin1_aae02 0 1 (some .boolean) := ⟨_, _, rfl, by decide, by decide +kernel, by decide +kernel, by decide +kernel⟩
theorem kz_J0_indexOf_7cf53_9 : Cond.fieldLink RJ0 9 "java/lang/String" "value" "[B" ∈ wsJ0_indexOf_7cf53 := by decide +kernel
theorem md_J0_length_8abf5 : MD yJ0_length_8abf5 wsJ0_length_8abf5 0 1 (some .int) := ⟨_, _, rfl, by decide, by decide +kernel, by decide +kernel, by decide +kernel⟩
theorem md_J1_indexOf_4cfef : MD yJ1_indexOf_4cfef wsJ1_indexOf_4cfef 4 4 (some .int) := ⟨_, _, rfl, by decide, by decide +kernel, by decide +kernel, by decide +kernel⟩
set_option maxHeartbeats 4000000 in
set_option maxRecDepth 100000 in
theorem c_J0_indexOf_7cf53 {l : Launch} {Y : LY} {a b : Nat} {S : GS} {c : Nat} (hc : c ≤ 126) : CtK l yJ0_indexOf_7cf53 wsJ0_indexOf_7cf53 3 Y a b [.ref a, .int (nI c), .int (nI 0)] S (fun r u => r = kdI c ∧ u = S) := by
  refine mkK (cc := cJ0_indexOf_7cf53) (maxL := 3) rfl rfl (Nat.le_of_ble_eq_true rfl) ?_
  intro X hl hY C hr hk
  subst hl
  subst hY
  show Zj X S [some (.ref a), some (.int (nI c)), some (.int (nI 0))] 0 []
  refine z_aload0 C dJ0_indexOf_7cf53_0 ?_
  refine z_callVK C hk dJ0_indexOf_7cf53_1 c_J0_isLatin1_aae02 gJ0_indexOf_7cf53_J0_isLatin1_aae02 md_J0_isLatin1_aae02 rfl (by decide) rfl rfl (Nat.le_of_ble_eq_true rfl) ?_
  rintro _ _ ⟨rfl, rfl⟩
  refine z_if_eqF C 23 dJ0_indexOf_7cf53_4 (by decide) (by decide) ?_
  refine z_aload0 C dJ0_indexOf_7cf53_7 ?_
  refine z_getKv C hk dJ0_indexOf_7cf53_8 kz_J0_indexOf_7cf53_9 ?_
  refine z_iload1 C dJ0_indexOf_7cf53_11 ?_
  refine z_iload2 C dJ0_indexOf_7cf53_12 ?_
  refine z_aload0 C dJ0_indexOf_7cf53_13 ?_
  refine z_callVK C hk dJ0_indexOf_7cf53_14 c_J0_length_8abf5 gJ0_indexOf_7cf53_J0_length_8abf5 md_J0_length_8abf5 rfl (by decide) rfl rfl (Nat.le_of_ble_eq_true rfl) ?_
  rintro _ _ ⟨rfl, rfl⟩
  refine z_callSK C hk dJ0_indexOf_7cf53_17 (c_J1_indexOf_4cfef hc) gJ0_indexOf_7cf53_J1_indexOf_4cfef md_J1_indexOf_4cfef (by decide) rfl rfl (Nat.le_of_ble_eq_true rfl) ?_
  rintro _ _ ⟨rfl, rfl⟩
  refine z_goto C 36 dJ0_indexOf_7cf53_20 (by decide) ?_
  exact z_iretP C dJ0_indexOf_7cf53_36 hr rfl ⟨rfl, rfl⟩

theorem md_J0_indexOf_7cf53 : MD yJ0_indexOf_7cf53 wsJ0_indexOf_7cf53 2 3 (some .int) := ⟨_, _, rfl, by decide, by decide +kernel, by decide +kernel, by decide +kernel⟩
set_option maxHeartbeats 4000000 in
set_option maxRecDepth 100000 in
theorem c_J0_indexOf_0f7a4 {l : Launch} {Y : LY} {a b : Nat} {S : GS} {c : Nat} (hc : c ≤ 126) : CtK l yJ0_indexOf_0f7a4 wsJ0_indexOf_0f7a4 4 Y a b [.ref a, .int (nI c)] S (fun r u => r = kdI c ∧ u = S) := by
  refine mkK (cc := cJ0_indexOf_0f7a4) (maxL := 2) rfl rfl (Nat.le_of_ble_eq_true rfl) ?_
  intro X hl hY C hr hk
  subst hl
  subst hY
  show Zj X S [some (.ref a), some (.int (nI c))] 0 []
  refine z_aload0 C dJ0_indexOf_0f7a4_0 ?_
  refine z_iload1 C dJ0_indexOf_0f7a4_1 ?_
  refine z_iconstN 0 C dJ0_indexOf_0f7a4_2 ?_
  refine z_callVK C hk dJ0_indexOf_0f7a4_3 (c_J0_indexOf_7cf53 hc) gJ0_indexOf_0f7a4_J0_indexOf_7cf53 md_J0_indexOf_7cf53 rfl (by decide) rfl rfl (Nat.le_of_ble_eq_true rfl) ?_
  rintro _ _ ⟨rfl, rfl⟩
  exact z_iretP C dJ0_indexOf_0f7a4_6 hr rfl ⟨rfl, rfl⟩
