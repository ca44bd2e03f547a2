theorem mo_lt {V : VR} {f i : Nat} (ho : Ok V) (h : inV V f i) : mo f i < 44 := by
  have o1 := ho.1
  have o2 := ho.2.1
  unfold inV at h
  unfold mo
  repeat' split
  all_goals omega
theorem HW_mv {w w' : Nat → Int32} {r r' : Nat} {V : VR} (h : HW w r V) (ho : Ok V) (e : ∀ i, i < 44 → w' (r' + i) = w (r + i)) : HW w' r' V := HW_iff.mpr (fun f i hi => by rw [e _ (mo_lt ho hi)]; exact HW_iff.mp h f i hi)
theorem FrM.I18 {S : GS} {q i : Nat} {v : Int32} (h : 184 ≤ q ∧ q ≤ 188) : FrM S (stI S q i v) := ⟨fun o _ b => stI_no (fun e => b (e ▸ h)), fun i _ => by rw [stI_no (by omega)], fun _ _ => rfl⟩
theorem mI_add {t : Nat} (h : t < 1000) : mI t + nI 1 = nI t := by
  cases t with
  | zero => rfl
  | succ t => rw [mI_s, nI_add]

set_option maxRecDepth 20000 in
theorem fl_X8_freeOnes_7 : FL RX8 wsX8_freeOnes 7 8 0 := ⟨RX8, TX8, 15, rfl, (fun w h => List.mem_cons_of_mem _ (List.mem_append_right _ h)), by decide, by decide +kernel⟩
set_option maxHeartbeats 4000000 in
set_option maxRecDepth 100000 in
theorem lp_X8_freeOnes {X : CX} {S : GS} {V : VR} (h : HW (S.1 179) 0 V) (ho : Ok V) (C : Cx X cX8_freeOnes RX8 wsX8_freeOnes 2) : ∀ (n : Nat) (i : Nat), i + n = V 0 0 → Zj X S [some (.ref (ad (xY X) 178)), some (.int (nI (bset (openP V) (V 0 0)))), some (.int (nI (V 0 0)))] 48 [] → Zj X S [some (.ref (ad (xY X) 178)), some (.int (nI (bset (openP V) i))), some (.int (nI (i)))] 4 [] := by
  intro n
  induction n with
  | zero =>
    intro i hi kk
    have o1 := ho.1
    have hM : S.1 179 0 = nI (V 0 0) := h.1.1
    obtain rfl : i = V 0 0 := by omega
    refine z_iload2 C dX8_freeOnes_4 ?_
    refine z_aload0 C dX8_freeOnes_5 ?_
    refine z_get C dX8_freeOnes_6 fl_X8_freeOnes_7 (k_Model _) rfl ?_
    refine z_iconstN 0 C dX8_freeOnes_9 ?_
    refine z_iald C dX8_freeOnes_10 (k_i179 _) (by omega) ?_
    refine z_top C hM ?_
    refine z_icmp_geN C 48 dX8_freeOnes_11 (by decide) (by omega) (by omega) (fun c11 => ?_) (fun c11 => ?_)
    · exact kk
    · exact absurd c11 (by omega)
  | succ n ih =>
    intro i hi kk
    have o1 := ho.1
    have hM : S.1 179 0 = nI (V 0 0) := h.1.1
    have hG := mG_iff h ho (m := i) (by omega)
    have hT := mT_iff h ho (m := i) (by omega)
    refine z_iload2 C dX8_freeOnes_4 ?_
    refine z_aload0 C dX8_freeOnes_5 ?_
    refine z_get C dX8_freeOnes_6 fl_X8_freeOnes_7 (k_Model _) rfl ?_
    refine z_iconstN 0 C dX8_freeOnes_9 ?_
    refine z_iald C dX8_freeOnes_10 (k_i179 _) (by omega) ?_
    refine z_top C hM ?_
    refine z_icmp_geN C 48 dX8_freeOnes_11 (by decide) (by omega) (by omega) (fun c11 => ?_) (fun c11 => ?_)
    · exact absurd c11 (by omega)
    · refine z_iload1 C dX8_freeOnes_14 ?_
      refine z_aload0 C dX8_freeOnes_15 ?_
      refine z_iconstN 0 C dX8_freeOnes_16 ?_
      refine z_iload2 C dX8_freeOnes_17 ?_
      refine z_callVI C dX8_freeOnes_18 (c_X8_isGone (by omega) (by omega)) gX8_freeOnes_X8_isGone md_X8_isGone rfl (by decide) (k_Model _) rfl rfl rfl (Nat.le_of_ble_eq_true rfl) ?_
      refine z_if_neB C 39 dX8_freeOnes_21 (by decide) (fun c21 => ?_) (fun c21 => ?_)
      · refine z_iconstN 0 C dX8_freeOnes_39 ?_
        refine z_ior C dX8_freeOnes_40 ?_
        refine z_top (y := nI (bset (openP V) (i + 1))) C (by rw [or_z, bset_sn (show ¬ openP V i = true from fun z => (of_decide_eq_true z).1 (hG.mp c21))]) ?_
        refine z_istore1 C dX8_freeOnes_41 nl_r ?_
        refine z_iinc2 C dX8_freeOnes_42 (inc1 _) nl_i ?_
        refine z_goto C 4 dX8_freeOnes_45 (by decide) ?_
        exact ih (i + 1) (by omega) kk
      · refine z_aload0 C dX8_freeOnes_24 ?_
        refine z_iconstN 0 C dX8_freeOnes_25 ?_
        refine z_iload2 C dX8_freeOnes_26 ?_
        refine z_callVI C dX8_freeOnes_27 (c_X8_isTorn (by omega) (by omega)) gX8_freeOnes_X8_isTorn md_X8_isTorn rfl (by decide) (k_Model _) rfl rfl rfl (Nat.le_of_ble_eq_true rfl) ?_
        refine z_if_neB C 39 dX8_freeOnes_30 (by decide) (fun c30 => ?_) (fun c30 => ?_)
        · refine z_iconstN 0 C dX8_freeOnes_39 ?_
          refine z_ior C dX8_freeOnes_40 ?_
          refine z_top (y := nI (bset (openP V) (i + 1))) C (by rw [or_z, bset_sn (show ¬ openP V i = true from fun z => (of_decide_eq_true z).2 (hT.mp c30))]) ?_
          refine z_istore1 C dX8_freeOnes_41 nl_r ?_
          refine z_iinc2 C dX8_freeOnes_42 (inc1 _) nl_i ?_
          refine z_goto C 4 dX8_freeOnes_45 (by decide) ?_
          exact ih (i + 1) (by omega) kk
        · refine z_iconstN 1 C dX8_freeOnes_33 ?_
          refine z_iload2 C dX8_freeOnes_34 ?_
          refine z_ishl C dX8_freeOnes_35 ?_
          refine z_goto C 40 dX8_freeOnes_36 (by decide) ?_
          refine z_ior C dX8_freeOnes_40 ?_
          refine z_top (y := nI (bset (openP V) (i + 1))) C (by rw [t_or ⟨i, by omega⟩ ⟨bset (openP V) i, bset_64 (by omega)⟩ (bset_lt _ _), bset_s (show openP V i = true from decide_eq_true ⟨fun z => c21 (hG.mpr z), fun z => c30 (hT.mpr z)⟩)]) ?_
          refine z_istore1 C dX8_freeOnes_41 nl_r ?_
          refine z_iinc2 C dX8_freeOnes_42 (inc1 _) nl_i ?_
          refine z_goto C 4 dX8_freeOnes_45 (by decide) ?_
          exact ih (i + 1) (by omega) kk

set_option maxHeartbeats 4000000 in
set_option maxRecDepth 100000 in
theorem c_X8_freeOnes {l : Launch} {Y : LY} {S : GS} {V : VR} (h : HW (S.1 179) 0 V) (ho : Ok V) : CtI l yX8_freeOnes wsX8_freeOnes 2 Y [.ref (ad Y 178)] S (nI (bset (openP V) (V 0 0))) (S) := by
  refine mkI (cc := cX8_freeOnes) (maxL := 3) rfl rfl (Nat.le_of_ble_eq_true rfl) ?_
  intro X hl hY C hr
  subst hl
  subst hY
  show Zj X S [some (.ref (ad (xY X) 178)), none, none] 0 []
  refine z_iconstN 0 C dX8_freeOnes_0 ?_
  refine z_istore1 C dX8_freeOnes_1 nl_r ?_
  refine z_iconstN 0 C dX8_freeOnes_2 ?_
  refine z_istore2 C dX8_freeOnes_3 nl_i ?_
  refine lp_X8_freeOnes h ho C (V 0 0) 0 (by omega) ?_
  refine z_iload1 C dX8_freeOnes_48 ?_
  exact z_iret C dX8_freeOnes_49 hr rfl rfl rfl

set_option maxRecDepth 20000 in
theorem fl_X8_lays_7 : FL RX8 wsX8_lays 7 8 0 := ⟨RX8, TX8, 15, rfl, (fun w h => List.mem_cons_of_mem _ (List.mem_append_right _ h)), by decide, by decide +kernel⟩
set_option maxRecDepth 20000 in
theorem fl_X8_lays_35 : FL RX8 wsX8_lays 35 8 12 := ⟨RX8, TX8, 15, rfl, (fun w h => List.mem_cons_of_mem _ (List.mem_append_right _ h)), by decide, by decide +kernel⟩
set_option maxHeartbeats 4000000 in
set_option maxRecDepth 100000 in
theorem lp_X8_lays {X : CX} {S : GS} {d : Nat} (hd : d ≤ 6) (hr : RtR X (fun u => (∀ j, j < 44 → u.1 179 (586 + j) = S.1 187 (44 * d + j)) ∧ (∀ j, j < 586 ∨ 630 ≤ j → u.1 179 j = S.1 179 j) ∧ (∀ q, q ≠ 179 → u.1 q = S.1 q) ∧ u.2 = S.2)) (C : Cx X cX8_lays RX8 wsX8_lays 1) : ∀ (n : Nat) (i : Nat) (T : GS), i + n = 44 → (∀ j, j < i → T.1 179 (586 + j) = S.1 187 (44 * d + j)) → (∀ j, j < 586 ∨ 586 + i ≤ j → T.1 179 j = S.1 179 j) → (∀ q, q ≠ 179 → T.1 q = S.1 q) → T.2 = S.2 → Zj X T [some (.ref (ad (xY X) 178)), some (.int (nI (d))), some (.int (nI (i)))] 2 [] := by
  intro n
  induction n with
  | zero =>
    intro i T hi h1 h2 h3 h4
    obtain rfl : i = 44 := by omega
    refine z_iload2 C dX8_lays_2 ?_
    refine z_bipush (v := nI 44) C dX8_lays_3 (by decide) ?_
    refine z_icmp_geN C 35 dX8_lays_5 (by decide) (by omega) (by omega) (fun c5 => ?_) (fun c5 => ?_)
    · exact z_vretR C dX8_lays_35 hr ⟨h1, fun j hj => h2 j (by omega), h3, h4⟩
    · exact absurd c5 (by omega)
  | succ n ih =>
    intro i T hi h1 h2 h3 h4
    refine z_iload2 C dX8_lays_2 ?_
    refine z_bipush (v := nI 44) C dX8_lays_3 (by decide) ?_
    refine z_icmp_geN C 35 dX8_lays_5 (by decide) (by omega) (by omega) (fun c5 => ?_) (fun c5 => ?_)
    · exact absurd c5 (by omega)
    · refine z_aload0 C dX8_lays_8 ?_
      refine z_get C dX8_lays_9 fl_X8_lays_7 (k_Model _) rfl ?_
      refine z_sipush (v := nI 586) C dX8_lays_12 (by decide) ?_
      refine z_iload2 C dX8_lays_15 ?_
      refine z_iaddN C dX8_lays_16 ?_
      refine z_aload0 C dX8_lays_17 ?_
      refine z_get C dX8_lays_18 fl_X8_lays_35 (k_Model _) rfl ?_
      refine z_bipush (v := nI 44) C dX8_lays_21 (by decide) ?_
      refine z_iload1 C dX8_lays_23 ?_
      refine z_imulN C dX8_lays_24 ?_
      refine z_iload2 C dX8_lays_25 ?_
      refine z_iaddN C dX8_lays_26 ?_
      refine z_iald C dX8_lays_27 (k_i187 _) (by omega) ?_
      refine z_iast C dX8_lays_28 (k_i179 _) (by omega) ?_
      refine z_iinc2 C dX8_lays_29 (inc1 _) nl_i ?_
      refine z_goto C 2 dX8_lays_32 (by decide) ?_
      refine ih (i + 1) _ (by omega) (fun j hj => ?_) (fun j hj => ?_) (fun q hq => by rw [stI_no hq]; exact h3 q hq) h4
      · by_cases c : j = i
        · subst c
          rw [stI_me, h3 187 (by decide)]
        · rw [stI_ni (by omega)]
          exact h1 j (by omega)
      · rw [stI_ni (by omega)]
        exact h2 j (by omega)

set_option maxHeartbeats 4000000 in
set_option maxRecDepth 100000 in
theorem c_X8_lays {l : Launch} {Y : LY} {S : GS} {d : Nat} (hd : d ≤ 6) : CtR l yX8_lays wsX8_lays 1 Y [.ref (ad Y 178), .int (nI d)] S (fun u => (∀ j, j < 44 → u.1 179 (586 + j) = S.1 187 (44 * d + j)) ∧ (∀ j, j < 586 ∨ 630 ≤ j → u.1 179 j = S.1 179 j) ∧ (∀ q, q ≠ 179 → u.1 q = S.1 q) ∧ u.2 = S.2) := by
  refine mkR (cc := cX8_lays) (maxL := 3) rfl rfl (Nat.le_of_ble_eq_true rfl) ?_
  intro X hl hY C hr
  subst hl
  subst hY
  show Zj X S [some (.ref (ad (xY X) 178)), some (.int (nI d)), none] 0 []
  refine z_iconstN 0 C dX8_lays_0 ?_
  refine z_istore2 C dX8_lays_1 nl_i ?_
  exact lp_X8_lays hd hr C 44 0 S (by decide) (fun j hj => absurd hj (by omega)) (fun _ _ => rfl) (fun _ _ => rfl) rfl

set_option maxRecDepth 20000 in
theorem fl_X8_holds_35 : FL RX8 wsX8_holds 35 8 12 := ⟨RX8, TX8, 15, rfl, (fun w h => List.mem_cons_of_mem _ (List.mem_append_right _ h)), by decide, by decide +kernel⟩
set_option maxRecDepth 20000 in
theorem fl_X8_holds_7 : FL RX8 wsX8_holds 7 8 0 := ⟨RX8, TX8, 15, rfl, (fun w h => List.mem_cons_of_mem _ (List.mem_append_right _ h)), by decide, by decide +kernel⟩
set_option maxHeartbeats 4000000 in
set_option maxRecDepth 100000 in
theorem lp_X8_holds {X : CX} {S : GS} {d : Nat} (hd : d ≤ 6) (hr : RtR X (fun u => (∀ j, j < 44 → u.1 187 (44 * d + j) = S.1 179 (586 + j)) ∧ (∀ j, j < 44 * d → u.1 187 j = S.1 187 j) ∧ (∀ q, q ≠ 187 → u.1 q = S.1 q) ∧ u.2 = S.2)) (C : Cx X cX8_holds RX8 wsX8_holds 1) : ∀ (n : Nat) (i : Nat) (T : GS), i + n = 44 → (∀ j, j < i → T.1 187 (44 * d + j) = S.1 179 (586 + j)) → (∀ j, j < 44 * d → T.1 187 j = S.1 187 j) → (∀ q, q ≠ 187 → T.1 q = S.1 q) → T.2 = S.2 → Zj X T [some (.ref (ad (xY X) 178)), some (.int (nI (d))), some (.int (nI (i)))] 2 [] := by
  intro n
  induction n with
  | zero =>
    intro i T hi h1 h2 h3 h4
    obtain rfl : i = 44 := by omega
    refine z_iload2 C dX8_holds_2 ?_
    refine z_bipush (v := nI 44) C dX8_holds_3 (by decide) ?_
    refine z_icmp_geN C 35 dX8_holds_5 (by decide) (by omega) (by omega) (fun c5 => ?_) (fun c5 => ?_)
    · exact z_vretR C dX8_holds_35 hr ⟨h1, h2, h3, h4⟩
    · exact absurd c5 (by omega)
  | succ n ih =>
    intro i T hi h1 h2 h3 h4
    refine z_iload2 C dX8_holds_2 ?_
    refine z_bipush (v := nI 44) C dX8_holds_3 (by decide) ?_
    refine z_icmp_geN C 35 dX8_holds_5 (by decide) (by omega) (by omega) (fun c5 => ?_) (fun c5 => ?_)
    · exact absurd c5 (by omega)
    · refine z_aload0 C dX8_holds_8 ?_
      refine z_get C dX8_holds_9 fl_X8_holds_35 (k_Model _) rfl ?_
      refine z_bipush (v := nI 44) C dX8_holds_12 (by decide) ?_
      refine z_iload1 C dX8_holds_14 ?_
      refine z_imulN C dX8_holds_15 ?_
      refine z_iload2 C dX8_holds_16 ?_
      refine z_iaddN C dX8_holds_17 ?_
      refine z_aload0 C dX8_holds_18 ?_
      refine z_get C dX8_holds_19 fl_X8_holds_7 (k_Model _) rfl ?_
      refine z_sipush (v := nI 586) C dX8_holds_22 (by decide) ?_
      refine z_iload2 C dX8_holds_25 ?_
      refine z_iaddN C dX8_holds_26 ?_
      refine z_iald C dX8_holds_27 (k_i179 _) (by omega) ?_
      refine z_iast C dX8_holds_28 (k_i187 _) (by omega) ?_
      refine z_iinc2 C dX8_holds_29 (inc1 _) nl_i ?_
      refine z_goto C 2 dX8_holds_32 (by decide) ?_
      refine ih (i + 1) _ (by omega) (fun j hj => ?_) (fun j hj => ?_) (fun q hq => by rw [stI_no hq]; exact h3 q hq) h4
      · by_cases c : j = i
        · subst c
          rw [stI_me, h3 179 (by decide)]
        · rw [stI_ni (by omega)]
          exact h1 j (by omega)
      · rw [stI_ni (by omega)]
        exact h2 j hj

set_option maxHeartbeats 4000000 in
set_option maxRecDepth 100000 in
theorem c_X8_holds {l : Launch} {Y : LY} {S : GS} {d : Nat} (hd : d ≤ 6) : CtR l yX8_holds wsX8_holds 1 Y [.ref (ad Y 178), .int (nI d)] S (fun u => (∀ j, j < 44 → u.1 187 (44 * d + j) = S.1 179 (586 + j)) ∧ (∀ j, j < 44 * d → u.1 187 j = S.1 187 j) ∧ (∀ q, q ≠ 187 → u.1 q = S.1 q) ∧ u.2 = S.2) := by
  refine mkR (cc := cX8_holds) (maxL := 3) rfl rfl (Nat.le_of_ble_eq_true rfl) ?_
  intro X hl hY C hr
  subst hl
  subst hY
  show Zj X S [some (.ref (ad (xY X) 178)), some (.int (nI d)), none] 0 []
  refine z_iconstN 0 C dX8_holds_0 ?_
  refine z_istore2 C dX8_holds_1 nl_i ?_
  exact lp_X8_holds hd hr C 44 0 S (by decide) (fun j hj => absurd hj (by omega)) (fun _ _ => rfl) (fun _ _ => rfl) rfl
