set_option maxRecDepth 20000 in
theorem fl_X5_spans_23 : FL RX5 wsX5_spans 23 5 2 := ⟨RX5, TX5, 4, rfl, (fun w h => List.mem_cons_of_mem _ (List.mem_append_right _ h)), by decide, by decide +kernel⟩
set_option maxHeartbeats 4000000 in
set_option maxRecDepth 100000 in
theorem c_X5_spans {l : Launch} {Y : LY} {S : GS} {j sz : Nat} {i n : Int32} (hj : j < 4) (hs : S.1 (14 + 2 * j) 2 = nI sz) (h24 : sz ≤ 24) : CtI l yX5_spans wsX5_spans 1 Y [.ref (ad Y (14 + 2 * j)), .int i, .int n] S (bi (spP i n sz)) (S) := by
  refine mkI (cc := cX5_spans) (maxL := 3) rfl rfl (Nat.le_of_ble_eq_true rfl) ?_
  intro X hl hY C hr
  subst hl
  subst hY
  show Zj X S [some (.ref (ad (xY X) (14 + 2 * j))), some (.int i), some (.int n)] 0 []
  refine z_iload1 C dX5_spans_0 ?_
  refine z_if_lt C 22 dX5_spans_1 (by decide) (fun c1 => ?_) (fun c1 => ?_)
  · refine z_iconstN 0 C dX5_spans_22 ?_
    exact z_iret C dX5_spans_23 hr bi_nar (b0 (by first | exact sp_n1 c1 | exact sp_n2 c5 | exact fun z => (sp_c h24 c1 c5).mpr z c15)) rfl
  · refine z_iload2 C dX5_spans_4 ?_
    refine z_if_lt C 22 dX5_spans_5 (by decide) (fun c5 => ?_) (fun c5 => ?_)
    · refine z_iconstN 0 C dX5_spans_22 ?_
      exact z_iret C dX5_spans_23 hr bi_nar (b0 (by first | exact sp_n1 c1 | exact sp_n2 c5 | exact fun z => (sp_c h24 c1 c5).mpr z c15)) rfl
    · refine z_iload1 C dX5_spans_8 ?_
      refine z_aload0 C dX5_spans_9 ?_
      refine z_get C dX5_spans_10 fl_X5_spans_23 (k_Sheet _ hj) rfl ?_
      refine z_top C hs ?_
      refine z_iload2 C dX5_spans_13 ?_
      refine z_isub C dX5_spans_14 ?_
      refine z_icmp_gt C 22 dX5_spans_15 (by decide) (fun c15 => ?_) (fun c15 => ?_)
      · refine z_iconstN 0 C dX5_spans_22 ?_
        exact z_iret C dX5_spans_23 hr bi_nar (b0 (by first | exact sp_n1 c1 | exact sp_n2 c5 | exact fun z => (sp_c h24 c1 c5).mpr z c15)) rfl
      · refine z_iconstN 1 C dX5_spans_18 ?_
        refine z_goto C 23 dX5_spans_19 (by decide) ?_
        exact z_iret C dX5_spans_23 hr bi_nar (b1 ((sp_c h24 c1 c5).mp c15)) rfl

set_option maxRecDepth 20000 in
theorem fl_X5_write_19 : FL RX5 wsX5_write 19 5 1 := ⟨RX5, TX5, 4, rfl, (fun w h => List.mem_cons_of_mem _ (List.mem_append_right _ h)), by decide, by decide +kernel⟩
set_option maxRecDepth 20000 in
theorem fl_X5_write_9 : FL RX5 wsX5_write 9 5 3 := ⟨RX5, TX5, 4, rfl, (fun w h => List.mem_cons_of_mem _ (List.mem_append_right _ h)), by decide, by decide +kernel⟩
set_option maxHeartbeats 4000000 in
set_option maxRecDepth 100000 in
theorem c_X5_write {l : Launch} {Y : LY} {S : GS} {j i ln : Nat} {v : Int64} (hj : j < 4) (hi : i < 24) (hl : S.1 (14 + 2 * j) 1 = nI ln) (h3 : ln ≤ 3) : CtV l yX5_write wsX5_write 1 Y [.ref (ad Y (14 + 2 * j)), .int (nI i), .long v] S (stL S (14 + 2 * j + 1) (vp_updL (S.2 (14 + 2 * j + 1)) i (lowL ln v))) := by
  refine mkV (cc := cX5_write) (maxL := 4) rfl rfl (Nat.le_of_ble_eq_true rfl) ?_
  intro X hl hY C hr
  subst hl
  subst hY
  show Zj X S [some (.ref (ad (xY X) (14 + 2 * j))), some (.int (nI i)), some (.long v), none] 0 []
  refine z_aload0 C dX5_write_0 ?_
  refine z_get C dX5_write_1 fl_X5_write_19 (k_Sheet _ hj) rfl ?_
  refine z_top C hl ?_
  refine z_name (fun x4 e4 => ?_)
  rcases sw_0_3 x4 with rfl | rfl | rfl | o4
  · refine z_tabIn (off := 28) C 32 dX5_write_4 (by decide) (by decide) (by decide) (by decide) ?_
    refine z_aload0 C dX5_write_32 ?_
    refine z_get C dX5_write_33 fl_X5_write_9 (k_Sheet _ hj) rfl ?_
    refine z_iload1 C dX5_write_36 ?_
    refine z_lload2 C dX5_write_37 ?_
    refine z_l2i C dX5_write_38 ?_
    refine z_i2b C dX5_write_39 ?_
    refine z_i2l C dX5_write_40 ?_
    refine z_last C dX5_write_41 (k_items _ hj) (by omega) ?_
    refine z_goto C 77 dX5_write_42 (by decide) ?_
    exact z_vret C dX5_write_77 hr (by
    have q : lowL ln v = _ := rfl
    first
      | (have e : ln = 0 := ((nI_eq (by decide) (by omega)).mp e4).symm; subst e; rfl)
      | (have e : ln = 1 := ((nI_eq (by decide) (by omega)).mp e4).symm; subst e; rfl)
      | (have e : ln = 2 := ((nI_eq (by decide) (by omega)).mp e4).symm; subst e; rfl)
      | (have e : ln = 3 := by
          rw [e4, nI_toInt (by omega)] at o4
          omega
         subst e; rfl))
  · refine z_tabIn (off := 41) C 45 dX5_write_4 (by decide) (by decide) (by decide) (by decide) ?_
    refine z_aload0 C dX5_write_45 ?_
    refine z_get C dX5_write_46 fl_X5_write_9 (k_Sheet _ hj) rfl ?_
    refine z_iload1 C dX5_write_49 ?_
    refine z_lload2 C dX5_write_50 ?_
    refine z_l2i C dX5_write_51 ?_
    refine z_i2s C dX5_write_52 ?_
    refine z_i2l C dX5_write_53 ?_
    refine z_last C dX5_write_54 (k_items _ hj) (by omega) ?_
    refine z_goto C 77 dX5_write_55 (by decide) ?_
    exact z_vret C dX5_write_77 hr (by
    have q : lowL ln v = _ := rfl
    first
      | (have e : ln = 0 := ((nI_eq (by decide) (by omega)).mp e4).symm; subst e; rfl)
      | (have e : ln = 1 := ((nI_eq (by decide) (by omega)).mp e4).symm; subst e; rfl)
      | (have e : ln = 2 := ((nI_eq (by decide) (by omega)).mp e4).symm; subst e; rfl)
      | (have e : ln = 3 := by
          rw [e4, nI_toInt (by omega)] at o4
          omega
         subst e; rfl))
  · refine z_tabIn (off := 54) C 58 dX5_write_4 (by decide) (by decide) (by decide) (by decide) ?_
    refine z_aload0 C dX5_write_58 ?_
    refine z_get C dX5_write_59 fl_X5_write_9 (k_Sheet _ hj) rfl ?_
    refine z_iload1 C dX5_write_62 ?_
    refine z_lload2 C dX5_write_63 ?_
    refine z_l2i C dX5_write_64 ?_
    refine z_i2l C dX5_write_65 ?_
    refine z_last C dX5_write_66 (k_items _ hj) (by omega) ?_
    refine z_goto C 77 dX5_write_67 (by decide) ?_
    exact z_vret C dX5_write_77 hr (by
    have q : lowL ln v = _ := rfl
    first
      | (have e : ln = 0 := ((nI_eq (by decide) (by omega)).mp e4).symm; subst e; rfl)
      | (have e : ln = 1 := ((nI_eq (by decide) (by omega)).mp e4).symm; subst e; rfl)
      | (have e : ln = 2 := ((nI_eq (by decide) (by omega)).mp e4).symm; subst e; rfl)
      | (have e : ln = 3 := by
          rw [e4, nI_toInt (by omega)] at o4
          omega
         subst e; rfl))
  · refine z_tabOut C 70 dX5_write_4 o4 (by decide) ?_
    refine z_aload0 C dX5_write_70 ?_
    refine z_get C dX5_write_71 fl_X5_write_9 (k_Sheet _ hj) rfl ?_
    refine z_iload1 C dX5_write_74 ?_
    refine z_lload2 C dX5_write_75 ?_
    refine z_last C dX5_write_76 (k_items _ hj) (by omega) ?_
    exact z_vret C dX5_write_77 hr (by
    have q : lowL ln v = _ := rfl
    first
      | (have e : ln = 0 := ((nI_eq (by decide) (by omega)).mp e4).symm; subst e; rfl)
      | (have e : ln = 1 := ((nI_eq (by decide) (by omega)).mp e4).symm; subst e; rfl)
      | (have e : ln = 2 := ((nI_eq (by decide) (by omega)).mp e4).symm; subst e; rfl)
      | (have e : ln = 3 := by
          rw [e4, nI_toInt (by omega)] at o4
          omega
         subst e; rfl))

set_option maxRecDepth 20000 in
theorem fl_X5_hold_9 : FL RX5 wsX5_hold 9 5 3 := ⟨RX5, TX5, 4, rfl, (fun w h => List.mem_cons_of_mem _ (List.mem_append_right _ h)), by decide, by decide +kernel⟩
set_option maxHeartbeats 4000000 in
set_option maxRecDepth 100000 in
theorem lp_X5_hold {X : CX} {S1 : GS} {j : Nat} {x y : Int32} (hj : j < 4) (hr : RtR X (fun u => u.1 = S1.1 ∧ (∀ o, o ≠ 14 + 2 * j + 1 → u.2 o = S1.2 o) ∧ (∀ k, k < 24 → u.2 (14 + 2 * j + 1) k = 0))) (C : Cx X cX5_hold RX5 wsX5_hold 1) : ∀ (n : Nat) (i : Nat) (T : GS), i + n = 24 → (T.1 = S1.1 ∧ (∀ o, o ≠ 14 + 2 * j + 1 → T.2 o = S1.2 o) ∧ (∀ k, k < i → T.2 (14 + 2 * j + 1) k = 0)) → Zj X T [some (.ref (ad (xY X) (14 + 2 * j))), some (.int (x)), some (.int (y)), some (.int (nI (i)))] 17 [] := by
  intro n
  induction n with
  | zero =>
    intro i T hi hI
    obtain rfl : i = 24 := by omega
    refine z_iload3 C dX5_hold_17 ?_
    refine z_bipush (v := nI 24) C dX5_hold_18 (by decide) ?_
    refine z_icmp_geN C 36 dX5_hold_20 (by decide) (by omega) (by omega) (fun c20 => ?_) (fun c20 => ?_)
    · exact z_vretR C dX5_hold_36 hr hI
    · exact absurd c20 (by omega)
  | succ n ih =>
    intro i T hi hI
    refine z_iload3 C dX5_hold_17 ?_
    refine z_bipush (v := nI 24) C dX5_hold_18 (by decide) ?_
    refine z_icmp_geN C 36 dX5_hold_20 (by decide) (by omega) (by omega) (fun c20 => ?_) (fun c20 => ?_)
    · exact absurd c20 (by omega)
    · refine z_aload0 C dX5_hold_23 ?_
      refine z_get C dX5_hold_24 fl_X5_hold_9 (k_Sheet _ hj) rfl ?_
      refine z_iload3 C dX5_hold_27 ?_
      refine z_lconst (v := 0) C dX5_hold_28 rfl ?_
      refine z_last C dX5_hold_29 (k_items _ hj) (by omega) ?_
      refine z_iinc3 C dX5_hold_30 (inc1 _) nl_i ?_
      refine z_goto C 17 dX5_hold_33 (by decide) ?_
      refine ih (i + 1) _ (by omega) ⟨hI.1, fun o h => (stL_no h).trans (hI.2.1 o h), fun k hk => ?_⟩
      rw [stL_me]
      by_cases c : k = i
      · subst c
        exact pk_uLs
      · rw [pk_uLn c]
        exact hI.2.2 k (by omega)

set_option maxRecDepth 20000 in
theorem fl_X5_hold_15 : FL RX5 wsX5_hold 15 5 0 := ⟨RX5, TX5, 4, rfl, (fun w h => List.mem_cons_of_mem _ (List.mem_append_right _ h)), by decide, by decide +kernel⟩
theorem fp_X5_hold_15 : FP RX5 wsX5_hold 15 5 0 .boolean := ⟨fl_X5_hold_15, RX5, TX5, 4, tyX5, rfl, tyX5_ok, nmX5, rfl, by decide +kernel⟩
set_option maxRecDepth 20000 in
theorem fl_X5_hold_19 : FL RX5 wsX5_hold 19 5 1 := ⟨RX5, TX5, 4, rfl, (fun w h => List.mem_cons_of_mem _ (List.mem_append_right _ h)), by decide, by decide +kernel⟩
theorem fp_X5_hold_19 : FP RX5 wsX5_hold 19 5 1 .int := ⟨fl_X5_hold_19, RX5, TX5, 4, tyX5, rfl, tyX5_ok, nmX5, rfl, by decide +kernel⟩
set_option maxRecDepth 20000 in
theorem fl_X5_hold_23 : FL RX5 wsX5_hold 23 5 2 := ⟨RX5, TX5, 4, rfl, (fun w h => List.mem_cons_of_mem _ (List.mem_append_right _ h)), by decide, by decide +kernel⟩
theorem fp_X5_hold_23 : FP RX5 wsX5_hold 23 5 2 .int := ⟨fl_X5_hold_23, RX5, TX5, 4, tyX5, rfl, tyX5_ok, nmX5, rfl, by decide +kernel⟩
set_option maxHeartbeats 4000000 in
set_option maxRecDepth 100000 in
theorem c_X5_hold {l : Launch} {Y : LY} {S : GS} {j : Nat} {x y : Int32} (hj : j < 4) : CtR l yX5_hold wsX5_hold 1 Y [.ref (ad Y (14 + 2 * j)), .int x, .int y] S (fun u => u.1 = (stI (stI (stI S (14 + 2 * j) 0 (nI 1)) (14 + 2 * j) 1 x) (14 + 2 * j) 2 y).1 ∧ (∀ o, o ≠ 14 + 2 * j + 1 → u.2 o = (stI (stI (stI S (14 + 2 * j) 0 (nI 1)) (14 + 2 * j) 1 x) (14 + 2 * j) 2 y).2 o) ∧ (∀ k, k < 24 → u.2 (14 + 2 * j + 1) k = 0)) := by
  refine mkR (cc := cX5_hold) (maxL := 4) rfl rfl (Nat.le_of_ble_eq_true rfl) ?_
  intro X hl hY C hr
  subst hl
  subst hY
  show Zj X S [some (.ref (ad (xY X) (14 + 2 * j))), some (.int x), some (.int y), none] 0 []
  refine z_aload0 C dX5_hold_0 ?_
  refine z_iconstN 1 C dX5_hold_1 ?_
  refine z_put C dX5_hold_2 fp_X5_hold_15 (k_Sheet _ hj) rfl rfl (Nat.le_of_ble_eq_true rfl) rfl ?_
  refine z_aload0 C dX5_hold_5 ?_
  refine z_iload1 C dX5_hold_6 ?_
  refine z_put C dX5_hold_7 fp_X5_hold_19 (k_Sheet _ hj) rfl rfl (Nat.le_of_ble_eq_true rfl) rfl ?_
  refine z_aload0 C dX5_hold_10 ?_
  refine z_iload2 C dX5_hold_11 ?_
  refine z_put C dX5_hold_12 fp_X5_hold_23 (k_Sheet _ hj) rfl rfl (Nat.le_of_ble_eq_true rfl) rfl ?_
  refine z_iconstN 0 C dX5_hold_15 ?_
  refine z_istore3 C dX5_hold_16 nl_i ?_
  exact lp_X5_hold hj hr C 24 0 _ (by omega) ⟨rfl, fun _ _ => rfl, fun k hk => absurd hk (by omega)⟩

set_option maxRecDepth 20000 in
theorem fl_X7_lookAt_38 : FL RX7 wsX7_lookAt 38 7 6 := ⟨RX7, TX7, 12, rfl, (fun w h => List.mem_cons_of_mem _ (List.mem_append_left _ (List.mem_append_right _ h))), by decide, by decide +kernel⟩
set_option maxRecDepth 20000 in
theorem fl_X7_lookAt_287 : FL RX7 wsX7_lookAt 287 5 0 := ⟨RX5, TX5, 4, rfl, (fun w h => List.mem_cons_of_mem _ (List.mem_append_right _ h)), by decide, by decide +kernel⟩
set_option maxRecDepth 20000 in
theorem fl_X7_lookAt_291 : FL RX7 wsX7_lookAt 291 5 1 := ⟨RX5, TX5, 4, rfl, (fun w h => List.mem_cons_of_mem _ (List.mem_append_right _ h)), by decide, by decide +kernel⟩
theorem md_X5_spans : MD yX5_spans wsX5_spans 2 3 (some .boolean) := ⟨_, _, rfl, by decide, by decide +kernel, by decide +kernel, by decide +kernel⟩
set_option maxHeartbeats 4000000 in
set_option maxRecDepth 100000 in
theorem c_X7_lookAt {l : Launch} {Y : LY} {S : GS} {q : SQ} {j : Nat} {y i n : Int32} (hQ : QC S q) (hO : QOk q) (hj : j < 4) : CtI l yX7_lookAt wsX7_lookAt 2 Y [.ref (ad Y 0), .int (nI j), .int y, .int i, .int n] S (aLook q j y i n) (S) := by
  refine mkI (cc := cX7_lookAt) (maxL := 6) rfl rfl (Nat.le_of_ble_eq_true rfl) ?_
  intro X hl hY C hr
  subst hl
  subst hY
  have hq := hO j hj
  show Zj X S [some (.ref (ad (xY X) 0)), some (.int (nI j)), some (.int y), some (.int i), some (.int n), none] 0 []
  refine z_aload0 C dX7_lookAt_0 ?_
  refine z_get C dX7_lookAt_1 fl_X7_lookAt_38 (k_EM _) rfl ?_
  refine z_iload1 C dX7_lookAt_4 ?_
  refine z_aald3 C dX7_lookAt_5 (k_r13 _) hj ?_
  refine z_astore5 C dX7_lookAt_6 nl_i ?_
  refine z_aload5 C dX7_lookAt_8 ?_
  refine z_get C dX7_lookAt_10 fl_X7_lookAt_287 (k_Sheet _ hj) rfl ?_
  refine z_top C (hQ j hj).1 ?_
  refine z_if_neN C 19 dX7_lookAt_13 (by decide) (by omega) (fun c13 => ?_) (fun c13 => ?_)
  · refine z_aload5 C dX7_lookAt_19 ?_
    refine z_get C dX7_lookAt_21 fl_X7_lookAt_291 (k_Sheet _ hj) rfl ?_
    refine z_top C (hQ j hj).2.1 ?_
    refine z_iload2 C dX7_lookAt_24 ?_
    refine z_icmp_eq C 31 dX7_lookAt_25 (by decide) (fun c25 => ?_) (fun c25 => ?_)
    · refine z_aload5 C dX7_lookAt_31 ?_
      refine z_iload3 C dX7_lookAt_33 ?_
      refine z_iload4 C dX7_lookAt_34 ?_
      refine z_callVI C dX7_lookAt_36 (c_X5_spans hj (hQ j hj).2.2.1 hq.2.2) gX7_lookAt_X5_spans md_X5_spans rfl (by decide) (k_Sheet _ hj) rfl rfl rfl (Nat.le_of_ble_eq_true rfl) ?_
      refine z_if_eqB C 46 dX7_lookAt_39 (by decide) (fun c39 => ?_) (fun c39 => ?_)
      · refine z_bipush (v := (-13)) C dX7_lookAt_46 (by decide) ?_
        exact z_iret C dX7_lookAt_48 hr rfl (by unfold aLook; rw [if_neg (by omega), if_pos c25, if_neg c39]) rfl
      · refine z_iconstN 0 C dX7_lookAt_42 ?_
        refine z_goto C 48 dX7_lookAt_43 (by decide) ?_
        exact z_iret C dX7_lookAt_48 hr rfl (by unfold aLook; rw [if_neg (by omega), if_pos c25, if_pos c39]) rfl
    · refine z_bipush (v := (-12)) C dX7_lookAt_28 (by decide) ?_
      exact z_iret C dX7_lookAt_30 hr rfl (by unfold aLook; rw [if_neg (by omega), if_neg c25]) rfl
  · refine z_bipush (v := (-11)) C dX7_lookAt_16 (by decide) ?_
    exact z_iret C dX7_lookAt_18 hr rfl (by unfold aLook; rw [if_pos c13]) rfl

theorem aSheet_n {q : SQ} {x y z : Int32} (h : ¬ ((inB x 0 3 ∧ inB y 0 3) ∧ z ≤ nI 24)) : aSheet q x y z = (-1, q) := if_neg h
theorem aSheet_s {q : SQ} {x y z : Int32} (h : inB x 0 3 ∧ inB y 0 3) (h2 : z ≤ nI 24) (h3 : ¬ 0 ≤ z) : aSheet q x y z = (-14, q) := by
  unfold aSheet
  rw [if_pos ⟨h, h2⟩, if_neg h3]
theorem aSheet_y {q : SQ} {j ln n : Nat} (h1 : j ≤ 3) (h2 : ln ≤ 3) (h3 : n ≤ 24) : aSheet q (nI j) (nI ln) (nI n) = (nI n, qHold q j ln n) := by
  unfold aSheet
  rw [if_pos ⟨⟨inB_nI (by omega) h1 (by decide), inB_nI (by omega) h2 (by decide)⟩, nI_le h3 (by decide)⟩, if_pos (nI_pos' (by omega)), nI_clamp (by omega), nI_clamp (by omega), nI_clamp (by omega)]
theorem nI_of24 {z : Int32} (h1 : 0 ≤ z) (h2 : z ≤ nI 24) : ∃ n, n ≤ 24 ∧ z = nI n := by
  obtain ⟨n, -, h, e⟩ := inB_of (lo := 0) (hi := 24) (x := z) (by decide) ⟨h1, h2⟩ (by decide)
  exact ⟨n, h, e⟩
theorem QC_hold {S u : GS} {q : SQ} {j ln n : Nat} (hj : j < 4) (h : QC S q) (e1 : u.1 = (stI (stI (stI S (14 + 2 * j) 0 (nI 1)) (14 + 2 * j) 1 (nI ln)) (14 + 2 * j) 2 (nI n)).1) (e2 : ∀ o, o ≠ 14 + 2 * j + 1 → u.2 o = S.2 o) (e3 : ∀ k, k < 24 → u.2 (14 + 2 * j + 1) k = 0) : QC u (qHold q j ln n) ∧ FrQ S u := by
  refine ⟨fun k hk => ?_, fun o a _ => ?_, fun o a => e2 o (by omega)⟩
  · unfold qHold
    by_cases c : k = j
    · subst c
      simp only [qu_me]
      rw [e1]
      refine ⟨?_, ?_, ?_, e3⟩
      · rw [stI_ni (by decide), stI_ni (by decide), stI_me]
      · rw [stI_ni (by decide), stI_me]
      · rw [stI_me]
    · simp only [qu_no c]
      rw [e1, e2 _ (by omega), stI_no (by omega), stI_no (by omega), stI_no (by omega)]
      exact h k hk
  · rw [e1, stI_no (by omega), stI_no (by omega), stI_no (by omega)]

theorem md_X7_isSheet : MD yX7_isSheet wsX7_isSheet 2 2 (some .boolean) := ⟨_, _, rfl, by decide, by decide +kernel, by decide +kernel, by decide +kernel⟩
set_option maxRecDepth 20000 in
theorem fl_X7_sheet_38 : FL RX7 wsX7_sheet 38 7 6 := ⟨RX7, TX7, 12, rfl, (fun w h => List.mem_cons_of_mem _ (List.mem_append_left _ (List.mem_append_right _ h))), by decide, by decide +kernel⟩
theorem md_X5_hold : MD yX5_hold wsX5_hold 2 4 none := ⟨_, _, rfl, by decide, by decide +kernel, by decide +kernel, by decide +kernel⟩
set_option maxHeartbeats 4000000 in
set_option maxRecDepth 100000 in
theorem c_X7_sheet {l : Launch} {Y : LY} {S : GS} {q : SQ} (hQ : QC S q) (hO : QOk q) {x y z : Int32} : CtP l yX7_sheet wsX7_sheet 4 Y [.ref (ad Y 0), .int x, .int y, .int z] S (fun r u => r = (aSheet q x y z).1 ∧ QC u (aSheet q x y z).2 ∧ FrQ S u) := by
  refine mkP (cc := cX7_sheet) (maxL := 4) rfl rfl (Nat.le_of_ble_eq_true rfl) ?_
  intro X hl hY C hr
  subst hl
  subst hY
  show Zj X S [some (.ref (ad (xY X) 0)), some (.int x), some (.int y), some (.int z)] 0 []
  refine z_iload1 C dX7_sheet_0 ?_
  refine z_iload2 C dX7_sheet_1 ?_
  refine z_callSI C dX7_sheet_2 c_X7_isSheet gX7_sheet_X7_isSheet md_X7_isSheet (by decide) rfl rfl (Nat.le_of_ble_eq_true rfl) ?_
  refine z_if_eqB C 14 dX7_sheet_5 (by decide) (fun c5 => ?_) (fun c5 => ?_)
  · refine z_iconst (v := (-1)) C dX7_sheet_14 (by decide) ?_
    exact z_iretP C dX7_sheet_15 hr rfl ⟨by rw [aSheet_n (by rintro ⟨h1, h2⟩; contradiction)], by rw [aSheet_n (by rintro ⟨h1, h2⟩; contradiction)]; exact hQ, FrQ.rf⟩
  · refine z_iload3 C dX7_sheet_8 ?_
    refine z_bipush (v := nI 24) C dX7_sheet_9 (by decide) ?_
    refine z_icmp_le C 16 dX7_sheet_11 (by decide) (fun c11 => ?_) (fun c11 => ?_)
    · refine z_iload3 C dX7_sheet_16 ?_
      refine z_if_ge C 23 dX7_sheet_17 (by decide) (fun c17 => ?_) (fun c17 => ?_)
      · obtain ⟨j, -, hj3, rfl⟩ := inB_of (by decide) c5.1 (by decide)
        obtain ⟨ln, -, hl3, rfl⟩ := inB_of (by decide) c5.2 (by decide)
        have hj : j < 4 := by omega
        obtain ⟨n, hn, rfl⟩ := nI_of24 c17 c11
        refine z_aload0 C dX7_sheet_23 ?_
        refine z_get C dX7_sheet_24 fl_X7_sheet_38 (k_EM _) rfl ?_
        refine z_iload1 C dX7_sheet_27 ?_
        refine z_aald3 C dX7_sheet_28 (k_r13 _) hj ?_
        refine z_iload2 C dX7_sheet_29 ?_
        refine z_iload3 C dX7_sheet_30 ?_
        refine z_callVR C dX7_sheet_31 (c_X5_hold hj) gX7_sheet_X5_hold md_X5_hold rfl (by decide) (k_Sheet _ hj) rfl rfl rfl (Nat.le_of_ble_eq_true rfl) ?_
        intro S0 hS0
        refine z_iload3 C dX7_sheet_34 ?_
        exact z_iretP C dX7_sheet_35 hr rfl ⟨by rw [aSheet_y hj3 hl3 hn], by rw [aSheet_y hj3 hl3 hn]; exact (QC_hold hj hQ hS0.1 hS0.2.1 hS0.2.2).1, (QC_hold hj hQ hS0.1 hS0.2.1 hS0.2.2).2⟩
      · refine z_bipush (v := (-14)) C dX7_sheet_20 (by decide) ?_
        exact z_iretP C dX7_sheet_22 hr rfl ⟨by rw [aSheet_s c5 c11 c17], by rw [aSheet_s c5 c11 c17]; exact hQ, FrQ.rf⟩
    · refine z_iconst (v := (-1)) C dX7_sheet_14 (by decide) ?_
      exact z_iretP C dX7_sheet_15 hr rfl ⟨by rw [aSheet_n (by rintro ⟨h1, h2⟩; contradiction)], by rw [aSheet_n (by rintro ⟨h1, h2⟩; contradiction)]; exact hQ, FrQ.rf⟩

theorem aDrop_n {q : SQ} {x : Int32} (h : ¬ inB x 0 3) : aDrop q x = (-1, q) := if_neg h
theorem aDrop_0 {q : SQ} {j : Nat} (h1 : j ≤ 3) (h : q.1 j = 0) : aDrop q (nI j) = (-11, q) := by
  unfold aDrop
  rw [if_pos (inB_nI (by omega) h1 (by decide)), nI_clamp (by omega), if_pos h]
theorem aDrop_y {q : SQ} {j : Nat} (h1 : j ≤ 3) (h : ¬ q.1 j = 0) : aDrop q (nI j) = (nI (q.2.2.1 j), qDrop q j) := by
  unfold aDrop
  rw [if_pos (inB_nI (by omega) h1 (by decide)), nI_clamp (by omega), if_neg h]
theorem QC_drop {S : GS} {q : SQ} {j : Nat} (h : QC S q) : QC (stI S (14 + 2 * j) 0 (nI 0)) (qDrop q j) := by
  intro k hk
  unfold qDrop
  by_cases c : k = j
  · subst c
    obtain ⟨h1, h2, h3, h4⟩ := h k hk
    simp only [qu_me]
    exact ⟨stI_me _ _ _ _, (stI_ni (by decide)).trans h2, (stI_ni (by decide)).trans h3, h4⟩
  · simp only [qu_no c]
    rw [stI_no (by omega)]
    exact h k hk

set_option maxRecDepth 20000 in
theorem fl_X7_drop_38 : FL RX7 wsX7_drop 38 7 6 := ⟨RX7, TX7, 12, rfl, (fun w h => List.mem_cons_of_mem _ (List.mem_append_left _ (List.mem_append_right _ h))), by decide, by decide +kernel⟩
set_option maxRecDepth 20000 in
theorem fl_X7_drop_287 : FL RX7 wsX7_drop 287 5 0 := ⟨RX5, TX5, 4, rfl, (fun w h => List.mem_cons_of_mem _ (List.mem_append_right _ h)), by decide, by decide +kernel⟩
theorem fp_X7_drop_287 : FP RX7 wsX7_drop 287 5 0 .boolean := ⟨fl_X7_drop_287, RX5, TX5, 4, tyX5, rfl, tyX5_ok, nmX5, rfl, by decide +kernel⟩
set_option maxRecDepth 20000 in
theorem fl_X7_drop_290 : FL RX7 wsX7_drop 290 5 2 := ⟨RX5, TX5, 4, rfl, (fun w h => List.mem_cons_of_mem _ (List.mem_append_right _ h)), by decide, by decide +kernel⟩
set_option maxHeartbeats 4000000 in
set_option maxRecDepth 100000 in
theorem c_X7_drop {l : Launch} {Y : LY} {S : GS} {q : SQ} (hQ : QC S q) (hO : QOk q) {x : Int32} : CtP l yX7_drop wsX7_drop 4 Y [.ref (ad Y 0), .int x] S (fun r u => r = (aDrop q x).1 ∧ QC u (aDrop q x).2 ∧ FrQ S u) := by
  refine mkP (cc := cX7_drop) (maxL := 3) rfl rfl (Nat.le_of_ble_eq_true rfl) ?_
  intro X hl hY C hr
  subst hl
  subst hY
  show Zj X S [some (.ref (ad (xY X) 0)), some (.int x), none] 0 []
  refine z_iload1 C dX7_drop_0 ?_
  refine z_iconstN 0 C dX7_drop_1 ?_
  refine z_iconstN 3 C dX7_drop_2 ?_
  refine z_callSI C dX7_drop_3 c_X7_within gX7_drop_X7_within md_X7_within (by decide) rfl rfl (Nat.le_of_ble_eq_true rfl) ?_
  refine z_if_neB C 11 dX7_drop_6 (by decide) (fun c6 => ?_) (fun c6 => ?_)
  · obtain ⟨j, -, hj3, rfl⟩ := inB_of (by decide) c6 (by decide)
    have hj : j < 4 := by omega
    refine z_aload0 C dX7_drop_11 ?_
    refine z_get C dX7_drop_12 fl_X7_drop_38 (k_EM _) rfl ?_
    refine z_iload1 C dX7_drop_15 ?_
    refine z_aald3 C dX7_drop_16 (k_r13 _) hj ?_
    refine z_astore2 C dX7_drop_17 nl_i ?_
    refine z_aload2 C dX7_drop_18 ?_
    have hq := hO j hj
    refine z_get C dX7_drop_19 fl_X7_drop_287 (k_Sheet _ hj) rfl ?_
    refine z_top C (hQ j hj).1 ?_
    refine z_if_neN C 28 dX7_drop_22 (by decide) (by omega) (fun c22 => ?_) (fun c22 => ?_)
    · refine z_aload2 C dX7_drop_28 ?_
      refine z_iconstN 0 C dX7_drop_29 ?_
      refine z_put C dX7_drop_30 fp_X7_drop_287 (k_Sheet _ hj) rfl rfl (Nat.le_of_ble_eq_true rfl) rfl ?_
      refine z_aload2 C dX7_drop_33 ?_
      refine z_get C dX7_drop_34 fl_X7_drop_290 (k_Sheet _ hj) rfl ?_
      refine z_top C ((stI_ni (by decide)).trans (hQ j hj).2.2.1) ?_
      exact z_iretP C dX7_drop_37 hr rfl ⟨by rw [aDrop_y hj3 (by omega)], by rw [aDrop_y hj3 (by omega)]; exact QC_drop hQ, FrQ.I (by omega)⟩
    · refine z_bipush (v := (-11)) C dX7_drop_25 (by decide) ?_
      exact z_iretP C dX7_drop_27 hr rfl ⟨by rw [aDrop_0 hj3 c22], by rw [aDrop_0 hj3 c22]; exact hQ, FrQ.rf⟩
  · refine z_iconst (v := (-1)) C dX7_drop_9 (by decide) ?_
    exact z_iretP C dX7_drop_10 hr rfl ⟨by rw [aDrop_n c6], by rw [aDrop_n c6]; exact hQ, FrQ.rf⟩

theorem aItem_n {q : SQ} {x y i : Int32} {v : Int64} (h : ¬ (inB x 0 3 ∧ inB y 0 3)) : aItem q x y i v = (-1, q) := if_neg h
theorem aItem_l {q : SQ} {j : Nat} {y i : Int32} {v : Int64} (h1 : j ≤ 3) (h2 : inB y 0 3) (h : ¬ 0 ≤ aLook q j y i (nI 1)) : aItem q (nI j) y i v = (aLook q j y i (nI 1), q) := by
  unfold aItem
  rw [if_pos ⟨inB_nI (by omega) h1 (by decide), h2⟩, nI_clamp (by omega), if_neg h]
theorem aItem_y {q : SQ} {j i : Nat} {y : Int32} {v : Int64} (h1 : j ≤ 3) (hi : i < 24) (h2 : inB y 0 3) (h : 0 ≤ aLook q j y (nI i) (nI 1)) : aItem q (nI j) y (nI i) v = (nI 1, qPut q j i (lowL (q.2.1 j) v)) := by
  unfold aItem
  rw [if_pos ⟨inB_nI (by omega) h1 (by decide), h2⟩, nI_clamp (by omega), nI_clamp (by omega), if_pos h]
theorem aLook_i {q : SQ} {j : Nat} {y i n : Int32} (hO : QOk q) (hj : j < 4) (h : 0 ≤ aLook q j y i n) : q.1 j ≠ 0 ∧ nI (q.2.1 j) = y ∧ ∃ i' n' : Nat, i = nI i' ∧ n = nI n' ∧ i' + n' ≤ q.2.2.1 j ∧ q.2.2.1 j ≤ 24 := by
  obtain ⟨a, b, c⟩ := aLook_ok h
  obtain ⟨i', n', e1, e2, e3⟩ := sp_of c (hO j hj).2.2
  exact ⟨a, b, i', n', e1, e2, e3, (hO j hj).2.2⟩

theorem md_X7_lookAt : MD yX7_lookAt wsX7_lookAt 4 6 (some .int) := ⟨_, _, rfl, by decide, by decide +kernel, by decide +kernel, by decide +kernel⟩
set_option maxRecDepth 20000 in
theorem fl_X7_item_38 : FL RX7 wsX7_item 38 7 6 := ⟨RX7, TX7, 12, rfl, (fun w h => List.mem_cons_of_mem _ (List.mem_append_left _ (List.mem_append_right _ h))), by decide, by decide +kernel⟩
theorem md_X5_write : MD yX5_write wsX5_write 2 4 none := ⟨_, _, rfl, by decide, by decide +kernel, by decide +kernel, by decide +kernel⟩
set_option maxHeartbeats 4000000 in
set_option maxRecDepth 100000 in
theorem c_X7_item {l : Launch} {Y : LY} {S : GS} {q : SQ} (hQ : QC S q) (hO : QOk q) {x y z : Int32} {v : Int64} : CtP l yX7_item wsX7_item 4 Y [.ref (ad Y 0), .int x, .int y, .int z, .long v] S (fun r u => r = (aItem q x y z v).1 ∧ QC u (aItem q x y z v).2 ∧ FrQ S u) := by
  refine mkP (cc := cX7_item) (maxL := 7) rfl rfl (Nat.le_of_ble_eq_true rfl) ?_
  intro X hl hY C hr
  subst hl
  subst hY
  show Zj X S [some (.ref (ad (xY X) 0)), some (.int x), some (.int y), some (.int z), some (.long v), none, none] 0 []
  refine z_iload1 C dX7_item_0 ?_
  refine z_iload2 C dX7_item_1 ?_
  refine z_callSI C dX7_item_2 c_X7_isSheet gX7_item_X7_isSheet md_X7_isSheet (by decide) rfl rfl (Nat.le_of_ble_eq_true rfl) ?_
  refine z_if_neB C 10 dX7_item_5 (by decide) (fun c5 => ?_) (fun c5 => ?_)
  · obtain ⟨j, -, hj3, rfl⟩ := inB_of (by decide) c5.1 (by decide)
    have hj : j < 4 := by omega
    refine z_aload0 C dX7_item_10 ?_
    refine z_iload1 C dX7_item_11 ?_
    refine z_iload2 C dX7_item_12 ?_
    refine z_iload3 C dX7_item_13 ?_
    refine z_iconstN 1 C dX7_item_14 ?_
    refine z_callVI C dX7_item_15 (c_X7_lookAt hQ hO hj) gX7_item_X7_lookAt md_X7_lookAt rfl (by decide) (k_EM _) rfl rfl rfl (Nat.le_of_ble_eq_true rfl) ?_
    refine z_istore6 C dX7_item_18 nl_n ?_
    refine z_iload6 C dX7_item_20 ?_
    refine z_if_ge C 28 dX7_item_22 (by decide) (fun c22 => ?_) (fun c22 => ?_)
    · obtain ⟨-, -, i, n1, rfl, e1, h1, h2⟩ := aLook_i hO hj c22
      have e2 : 1 = n1 ∨ 24 < n1 := by by_cases z : n1 ≤ 24; exact Or.inl ((nI_eq (by decide) (by omega)).mp e1); exact Or.inr (by omega)
      have hi : i < 24 := by omega
      refine z_aload0 C dX7_item_28 ?_
      refine z_get C dX7_item_29 fl_X7_item_38 (k_EM _) rfl ?_
      refine z_iload1 C dX7_item_32 ?_
      refine z_aald3 C dX7_item_33 (k_r13 _) hj ?_
      refine z_iload3 C dX7_item_34 ?_
      refine z_lload4 C dX7_item_35 ?_
      refine z_callVV C dX7_item_37 (c_X5_write hj hi (hQ j hj).2.1 (hO j hj).2.1) gX7_item_X5_write md_X5_write rfl (by decide) (k_Sheet _ hj) rfl rfl rfl (Nat.le_of_ble_eq_true rfl) ?_
      refine z_iconstN 1 C dX7_item_40 ?_
      exact z_iretP C dX7_item_41 hr rfl ⟨by rw [aItem_y hj3 hi c5.2 c22], by rw [aItem_y hj3 hi c5.2 c22]; exact QC_put hQ, FrQ.L (by omega)⟩
    · refine z_iload6 C dX7_item_25 ?_
      exact z_iretP C dX7_item_27 hr rfl ⟨by rw [aItem_l hj3 c5.2 c22], by rw [aItem_l hj3 c5.2 c22]; exact hQ, FrQ.rf⟩
  · refine z_iconst (v := (-1)) C dX7_item_8 (by decide) ?_
    exact z_iretP C dX7_item_9 hr rfl ⟨by rw [aItem_n c5], by rw [aItem_n c5]; exact hQ, FrQ.rf⟩
