/-- the reference's search: best, order, the rows of all depths -/
def MR (T : GS) (V : VR) (k : Nat) (s : RS) (o : Nat → Nat) (d : Nat) : Prop := (0 < s.1 → ∀ j, j < opN V → T.1 186 j = nI (s.2 j)) ∧ (∀ j, j < d → T.1 185 j = nI (o j)) ∧ (∀ j, j ≤ d → HW (fun i => T.1 187 (44 * j + i)) 0 (UU V k o j)) ∧ s.1 ≤ V 0 0 + 1
theorem MR_of {T T' : GS} {V : VR} {k d : Nat} {s : RS} {o : Nat → Nat} (h : MR T V k s o d) (h6 : T'.1 186 = T.1 186) (h5 : ∀ j, j < d → T'.1 185 j = T.1 185 j) (h7 : T'.1 187 = T.1 187) : MR T' V k s o d := ⟨fun z j hj => by rw [h6]; exact h.1 z j hj, fun j hj => by rw [h5 j hj]; exact h.2.1 j hj, fun j hj => by rw [h7]; exact h.2.2.1 j hj, h.2.2.2⟩
theorem MR_up {T : GS} {V : VR} {k d i : Nat} {s : RS} {o : Nat → Nat} (h : MR T V k s (qu o d i) (d + 1)) : MR T V k s o d := ⟨h.1, fun j hj => by
  have := h.2.1 j (by omega)
  rw [qu_no (by omega)] at this
  exact this, fun j hj => by
  have := h.2.2.1 j (by omega)
  rw [UU_congr (o' := o) j (fun i hi => qu_no (by omega))] at this
  exact this, h.2.2.2⟩
theorem MR_in {T T2 T3 : GS} {V : VR} {k d i : Nat} {s : RS} {o : Nat → Nat} (ho : Ok V) (hk : k < V 0 1) (hp : ∀ j, j < d → o j < V 0 0) (hi : i < V 0 0) (h : MR T V k s o d) (a6 : T2.1 186 = T.1 186) (a5 : T2.1 185 = (stI T 185 d (nI i)).1 185) (a7 : T2.1 187 = T.1 187) (hw : HW (T2.1 179) 586 (vRT k i 60 (UU V k o d)))
    (g1 : ∀ j, j < 44 → T3.1 187 (44 * (d + 1) + j) = T2.1 179 (586 + j)) (g2 : ∀ j, j < 44 * (d + 1) → T3.1 187 j = T2.1 187 j) (g3 : ∀ q, q ≠ 187 → T3.1 q = T2.1 q) : MR (stI T3 185 (d + 1) (-1)) V k s (qu o d i) (d + 1) := by
  have hq : ∀ j, j < d + 1 → qu o d i j < V 0 0 := fun j hj => by
    by_cases c : j = d
    · subst c; rw [qu_me]; exact hi
    · rw [qu_no c]; exact hp j (by omega)
  refine ⟨fun z j hj => ?_, fun j hj => ?_, fun j hj => ?_, h.2.2.2⟩
  · rw [stI_no (by decide), g3 186 (by decide), a6]
    exact h.1 z j hj
  · rw [stI_ni (by omega), g3 185 (by decide), a5]
    by_cases c : j = d
    · subst c
      rw [stI_me, qu_me]
    · rw [stI_ni c, qu_no c]
      exact h.2.1 j (by omega)
  · have e7 : (stI T3 185 (d + 1) (-1)).1 187 = T3.1 187 := stI_no (by decide)
    by_cases c : j = d + 1
    · subst c
      rw [UU_s]
      have ok : Ok (vRT k i 60 (UU V k o d)) := by
        have := (UU_in ho hk (d + 1) hq).1
        rw [UU_s] at this
        exact this
      refine HW_mv hw ok (fun x hx => ?_)
      rw [e7, Nat.zero_add]
      exact g1 x hx
    · rw [UU_congr (o' := o) j (fun x hx => qu_no (by omega))]
      refine HW_mv (h.2.2.1 j (by omega)) (UU_in ho hk j (fun x hx => hp x (by omega))).1 (fun x hx => ?_)
      rw [e7, Nat.zero_add, g2 _ (by omega), a7]

set_option maxRecDepth 20000 in
theorem fl_X8_bestRound_29 : FL RX8 wsX8_bestRound 29 8 10 := ⟨RX8, TX8, 15, rfl, (fun w h => List.mem_cons_of_mem _ (List.mem_append_right _ h)), by decide, by decide +kernel⟩
set_option maxHeartbeats 4000000 in
set_option maxRecDepth 100000 in
theorem lA_X8_best {X : CX} {V : VR} {k : Nat} {d : Nat} {o : Nat → Nat} {mst : Int32} {x8 : Option Value} {T : GS} (hd : d ≤ 6) (h6 : ∀ j, j < d → o j < 6) (h5 : ∀ j, j < d → T.1 185 j = nI (o j)) (C : Cx X cX8_bestRound RX8 wsX8_bestRound 4) : ∀ (n : Nat) (i : Nat), i + n = d → Zj X T [some (.ref (ad (xY X) 178)), some (.int (nI (k))), some (.int (nI (bset (openP V) (V 0 0)))), some (.int (nI (opN V))), some (.int (mst)), some (.int (nI (d))), some (.int (nI (bset (pth o d) 6))), some (.int (nI (d))), x8] 70 [] → Zj X T [some (.ref (ad (xY X) 178)), some (.int (nI (k))), some (.int (nI (bset (openP V) (V 0 0)))), some (.int (nI (opN V))), some (.int (mst)), some (.int (nI (d))), some (.int (nI (bset (pth o i) 6))), some (.int (nI (i))), x8] 43 [] := by
  intro n
  induction n with
  | zero =>
    intro i hi kk
    obtain rfl : i = d := by omega
    refine z_iload7 C dX8_bestRound_43 ?_
    refine z_iload5 C dX8_bestRound_45 ?_
    refine z_icmp_geN C 70 dX8_bestRound_47 (by decide) (by omega) (by omega) (fun c47 => ?_) (fun c47 => ?_)
    · exact kk
    · exact absurd c47 (by omega)
  | succ n ih =>
    intro i hi kk
    refine z_iload7 C dX8_bestRound_43 ?_
    refine z_iload5 C dX8_bestRound_45 ?_
    refine z_icmp_geN C 70 dX8_bestRound_47 (by decide) (by omega) (by omega) (fun c47 => ?_) (fun c47 => ?_)
    · exact absurd c47 (by omega)
    · refine z_iload6 C dX8_bestRound_50 ?_
      refine z_iconstN 1 C dX8_bestRound_52 ?_
      refine z_aload0 C dX8_bestRound_53 ?_
      refine z_get C dX8_bestRound_54 fl_X8_bestRound_29 (k_Model _) rfl ?_
      refine z_iload7 C dX8_bestRound_57 ?_
      refine z_iald C dX8_bestRound_59 (k_i185 _) (by omega) ?_
      refine z_top C (h5 i (by omega)) ?_
      refine z_ishl C dX8_bestRound_60 ?_
      refine z_ior C dX8_bestRound_61 ?_
      refine z_top C (or_pth (h6 i (by omega))) ?_
      refine z_istore6 C dX8_bestRound_62 nl_i ?_
      refine z_iinc7 C dX8_bestRound_64 (inc1 _) nl_i ?_
      refine z_goto C 43 dX8_bestRound_67 (by decide) ?_
      exact ih (i + 1) (by omega) kk

set_option maxRecDepth 20000 in
theorem fl_X8_bestRound_32 : FL RX8 wsX8_bestRound 32 8 11 := ⟨RX8, TX8, 15, rfl, (fun w h => List.mem_cons_of_mem _ (List.mem_append_right _ h)), by decide, by decide +kernel⟩
set_option maxHeartbeats 4000000 in
set_option maxRecDepth 100000 in
theorem lB_X8_best {X : CX} {V : VR} {k : Nat} {d : Nat} {o : Nat → Nat} {mst : Int32} {x6 x7 : Option Value} (hL : opN V ≤ 6) (nl7 : nl x7) (C : Cx X cX8_bestRound RX8 wsX8_bestRound 4) : ∀ (n : Nat) (i : Nat) (T : GS), i + n = opN V → (∀ j, j < opN V → T.1 185 j = nI (o j)) → (∀ j, j < i → T.1 186 j = nI (o j)) → (∀ T', (∀ j, j < opN V → T'.1 186 j = nI (o j)) → (∀ q, q ≠ 186 → T'.1 q = T.1 q) → T'.2 = T.2 → Zj X T' [some (.ref (ad (xY X) 178)), some (.int (nI (k))), some (.int (nI (bset (openP V) (V 0 0)))), some (.int (nI (opN V))), some (.int (mst)), some (.int (nI (d))), x6, x7, some (.int (nI (opN V)))] 134 []) → Zj X T [some (.ref (ad (xY X) 178)), some (.int (nI (k))), some (.int (nI (bset (openP V) (V 0 0)))), some (.int (nI (opN V))), some (.int (mst)), some (.int (nI (d))), x6, x7, some (.int (nI (i)))] 108 [] := by
  intro n
  induction n with
  | zero =>
    intro i T hi h5 h6 kk
    obtain rfl : i = opN V := by omega
    refine z_iload8 C dX8_bestRound_108 ?_
    refine z_iload3 C dX8_bestRound_110 ?_
    refine z_icmp_geN C 134 dX8_bestRound_111 (by decide) (by omega) (by omega) (fun c111 => ?_) (fun c111 => ?_)
    · exact kk T h6 (fun _ _ => rfl) rfl
    · exact absurd c111 (by omega)
  | succ n ih =>
    intro i T hi h5 h6 kk
    refine z_iload8 C dX8_bestRound_108 ?_
    refine z_iload3 C dX8_bestRound_110 ?_
    refine z_icmp_geN C 134 dX8_bestRound_111 (by decide) (by omega) (by omega) (fun c111 => ?_) (fun c111 => ?_)
    · exact absurd c111 (by omega)
    · refine z_aload0 C dX8_bestRound_114 ?_
      refine z_get C dX8_bestRound_115 fl_X8_bestRound_32 (k_Model _) rfl ?_
      refine z_iload8 C dX8_bestRound_118 ?_
      refine z_aload0 C dX8_bestRound_120 ?_
      refine z_get C dX8_bestRound_121 fl_X8_bestRound_29 (k_Model _) rfl ?_
      refine z_iload8 C dX8_bestRound_124 ?_
      refine z_iald C dX8_bestRound_126 (k_i185 _) (by omega) ?_
      refine z_top C (h5 i (by omega)) ?_
      refine z_iast C dX8_bestRound_127 (k_i186 _) (by omega) ?_
      refine z_iinc8 C dX8_bestRound_128 (inc1 _) nl7 ?_
      refine z_goto C 108 dX8_bestRound_131 (by decide) ?_
      refine ih (i + 1) _ (by omega) (fun j hj => by rw [stI_no (by decide)]; exact h5 j hj) (fun j hj => ?_) (fun T2 a b c => kk T2 a (fun q hq => (b q hq).trans (stI_no hq)) c)
      by_cases c : j = i
      · subst c
        rw [stI_me]
      · rw [stI_ni c]
        exact h6 j (by omega)

set_option maxRecDepth 20000 in
theorem fl_X8_bestRound_7 : FL RX8 wsX8_bestRound 7 8 0 := ⟨RX8, TX8, 15, rfl, (fun w h => List.mem_cons_of_mem _ (List.mem_append_right _ h)), by decide, by decide +kernel⟩
set_option maxHeartbeats 4000000 in
set_option maxRecDepth 100000 in
theorem lC_X8_best {X : CX} {V : VR} {k : Nat} {e d : Nat} {o : Nat → Nat} {mst : Int32} {x8 : Option Value} {T : GS} (ho : Ok V) (hM : T.1 179 0 = nI (V 0 0)) (C : Cx X cX8_bestRound RX8 wsX8_bestRound 4) : ∀ (n : Nat) (j : Nat), j + n = V 0 0 → ((∀ s, foldN (rdJ V k (opN V) e d o) n j s = s) → Zj X T [some (.ref (ad (xY X) 178)), some (.int (nI (k))), some (.int (nI (bset (openP V) (V 0 0)))), some (.int (nI (opN V))), some (.int (mst)), some (.int (nI (d))), some (.int (nI (bset (pth o d) 6))), some (.int (nI (V 0 0))), x8] 187 []) → (∀ c j', j' + (c + 1) = V 0 0 → c < n → cand V o d j' → (∀ s, foldN (rdJ V k (opN V) e d o) n j s = foldN (rdJ V k (opN V) e d o) (c + 1) j' s) → Zj X T [some (.ref (ad (xY X) 178)), some (.int (nI (k))), some (.int (nI (bset (openP V) (V 0 0)))), some (.int (nI (opN V))), some (.int (mst)), some (.int (nI (d))), some (.int (nI (bset (pth o d) 6))), some (.int (nI (j'))), x8] 187 []) → Zj X T [some (.ref (ad (xY X) 178)), some (.int (nI (k))), some (.int (nI (bset (openP V) (V 0 0)))), some (.int (nI (opN V))), some (.int (mst)), some (.int (nI (d))), some (.int (nI (bset (pth o d) 6))), some (.int (nI (j))), x8] 151 [] := by
  intro n
  induction n with
  | zero =>
    intro j hj k0 k1
    have o1 := ho.1
    obtain rfl : j = V 0 0 := by omega
    refine z_iload7 C dX8_bestRound_151 ?_
    refine z_aload0 C dX8_bestRound_153 ?_
    refine z_get C dX8_bestRound_154 fl_X8_bestRound_7 (k_Model _) rfl ?_
    refine z_iconstN 0 C dX8_bestRound_157 ?_
    refine z_iald C dX8_bestRound_158 (k_i179 _) (by omega) ?_
    refine z_top C hM ?_
    refine z_icmp_geN C 187 dX8_bestRound_159 (by decide) (by omega) (by omega) (fun c159 => ?_) (fun c159 => ?_)
    · exact k0 (fun _ => rfl)
    · exact absurd c159 (by omega)
  | succ n ih =>
    intro j hj k0 k1
    have o1 := ho.1
    have hF : (nI (bset (openP V) (V 0 0)) >>> (nI j &&& 31) &&& nI 1 = nI 1) ↔ openP V j = true := by
      rw [t_has ⟨bset (openP V) (V 0 0), bset_64 o1⟩ ⟨j, by omega⟩, bset_bitG (V 0 0) (show j < V 0 0 by omega)]
    have hB : (nI (bset (pth o d) 6) >>> (nI j &&& 31) &&& nI 1 = nI 1) ↔ pth o d j = true := by
      rw [t_has ⟨bset (pth o d) 6, bset_64 (by decide)⟩ ⟨j, by omega⟩, bset_bitG 6 (show j < 6 by omega)]
    have go : ¬ cand V o d j → Zj X T [some (.ref (ad (xY X) 178)), some (.int (nI (k))), some (.int (nI (bset (openP V) (V 0 0)))), some (.int (nI (opN V))), some (.int (mst)), some (.int (nI (d))), some (.int (nI (bset (pth o d) 6))), some (.int (nI (j + 1))), x8] 151 [] := fun hn => ih (j + 1) (by omega) (fun q => k0 (fun s => by
        show foldN (rdJ V k (opN V) e d o) n (j + 1) (rdJ V k (opN V) e d o j s) = s
        rw [rdJ_n hn]
        exact q s)) (fun c j' a b c' q => k1 c j' a (by omega) c' (fun s => by
        show foldN (rdJ V k (opN V) e d o) n (j + 1) (rdJ V k (opN V) e d o j s) = _
        rw [rdJ_n hn]
        exact q s))
    refine z_iload7 C dX8_bestRound_151 ?_
    refine z_aload0 C dX8_bestRound_153 ?_
    refine z_get C dX8_bestRound_154 fl_X8_bestRound_7 (k_Model _) rfl ?_
    refine z_iconstN 0 C dX8_bestRound_157 ?_
    refine z_iald C dX8_bestRound_158 (k_i179 _) (by omega) ?_
    refine z_top C hM ?_
    refine z_icmp_geN C 187 dX8_bestRound_159 (by decide) (by omega) (by omega) (fun c159 => ?_) (fun c159 => ?_)
    · exact absurd c159 (by omega)
    · refine z_iload2 C dX8_bestRound_162 ?_
      refine z_iload7 C dX8_bestRound_163 ?_
      refine z_callSI C dX8_bestRound_165 c_X8_has gX8_bestRound_X8_has md_X8_has (by decide) rfl rfl (Nat.le_of_ble_eq_true rfl) ?_
      refine z_if_eqB C 181 dX8_bestRound_168 (by decide) (fun c168 => ?_) (fun c168 => ?_)
      · refine z_iinc7 C dX8_bestRound_181 (inc1 _) nl_i ?_
        refine z_goto C 151 dX8_bestRound_184 (by decide) ?_
        exact go (fun z => c168 (hF.mpr z.1))
      · refine z_iload6 C dX8_bestRound_171 ?_
        refine z_iload7 C dX8_bestRound_173 ?_
        refine z_callSI C dX8_bestRound_175 c_X8_has gX8_bestRound_X8_has md_X8_has (by decide) rfl rfl (Nat.le_of_ble_eq_true rfl) ?_
        refine z_if_eqB C 187 dX8_bestRound_178 (by decide) (fun c178 => ?_) (fun c178 => ?_)
        · exact k1 n j (by omega) (by omega) ⟨hF.mp c168, by have := fun z => c178 (hB.mpr z); simpa using this⟩ (fun _ => rfl)
        · refine z_iinc7 C dX8_bestRound_181 (inc1 _) nl_i ?_
          refine z_goto C 151 dX8_bestRound_184 (by decide) ?_
          exact go (fun z => by have := hB.mp c178; rw [z.2] at this; cases this)

set_option maxHeartbeats 4000000 in
set_option maxRecDepth 100000 in
theorem lD_X8_best {X : CX} {V : VR} {k : Nat} {mst : Int32} {d : Nat} {x6 x8 : Option Value} {j : Nat} (C : Cx X cX8_bestRound RX8 wsX8_bestRound 4) : ∀ (n : Nat) (T : GS) (U : VR), HW (T.1 179) 586 U → Ok U → k < U 0 1 → j < U 0 0 → 20 ≤ U 4 j + n → Zj X (mRT 586 k j n T) [some (.ref (ad (xY X) 178)), some (.int (nI (k))), some (.int (nI (bset (openP V) (V 0 0)))), some (.int (nI (opN V))), some (.int (mst)), some (.int (nI (d))), x6, some (.int (nI (j))), x8] 245 [] → Zj X T [some (.ref (ad (xY X) 178)), some (.int (nI (k))), some (.int (nI (bset (openP V) (V 0 0)))), some (.int (nI (opN V))), some (.int (mst)), some (.int (nI (d))), x6, some (.int (nI (j))), x8] 219 [] := by
  intro n
  induction n with
  | zero =>
    intro T U h ho hk hm hw kk
    have o1 := ho.1
    have o2 := ho.2.1
    refine z_aload0 C dX8_bestRound_219 ?_
    refine z_sipush (v := nI 586) C dX8_bestRound_220 (by decide) ?_
    refine z_iload1 C dX8_bestRound_223 ?_
    refine z_iload7 C dX8_bestRound_224 ?_
    refine z_callVI C dX8_bestRound_226 (c_X8_canRub (by omega) (by omega) (by omega)) gX8_bestRound_X8_canRub md_X8_canRub rfl (by decide) (k_Model _) rfl rfl rfl (Nat.le_of_ble_eq_true rfl) ?_
    refine z_if_eqB C 245 dX8_bestRound_229 (by decide) (fun c229 => ?_) (fun c229 => ?_)
    · exact kk
    · exact absurd ((mC_iff h ho hk hm).mp c229).2.2 (fun z => z (by show 20 ≤ U 4 j; omega))
  | succ n ih =>
    intro T U h ho hk hm hw kk
    have o1 := ho.1
    have o2 := ho.2.1
    have hi := mC_iff h ho hk hm
    refine z_aload0 C dX8_bestRound_219 ?_
    refine z_sipush (v := nI 586) C dX8_bestRound_220 (by decide) ?_
    refine z_iload1 C dX8_bestRound_223 ?_
    refine z_iload7 C dX8_bestRound_224 ?_
    refine z_callVI C dX8_bestRound_226 (c_X8_canRub (by omega) (by omega) (by omega)) gX8_bestRound_X8_canRub md_X8_canRub rfl (by decide) (k_Model _) rfl rfl rfl (Nat.le_of_ble_eq_true rfl) ?_
    refine z_if_eqB C 245 dX8_bestRound_229 (by decide) (fun c229 => ?_) (fun c229 => ?_)
    · simp only [mRT, if_neg c229] at kk
      exact kk
    · refine z_aload0 C dX8_bestRound_232 ?_
      refine z_sipush (v := nI 586) C dX8_bestRound_233 (by decide) ?_
      refine z_iload1 C dX8_bestRound_236 ?_
      refine z_iload7 C dX8_bestRound_237 ?_
      refine z_callVV C dX8_bestRound_239 (c_X8_rubs (by omega) (by omega) (by omega)) gX8_bestRound_X8_rubs md_X8_rubs rfl (by decide) (k_Model _) rfl rfl rfl (Nat.le_of_ble_eq_true rfl) ?_
      refine z_goto C 219 dX8_bestRound_242 (by decide) ?_
      simp only [mRT, if_pos c229] at kk
      refine ih _ _ (HW_rub h ho hk hm) (Ok_rub ho hk hm) (by rw [vRub_hd (by decide)]; exact hk) (by rw [vRub_hd (by decide)]; exact hm) ?_ kk
      have e4 : vRub U k j 4 j = rbW U k j := by simp [vRub]
      have w1 := wolN_in (U 5 k)
      rw [e4]
      unfold rbW
      omega
