theorem aCopy_n {q : SQ} {f i t j n : Int32} (h : ¬ (inB f 0 3 ∧ inB t 0 3)) : aCopy q f i t j n = (-1, q) := if_neg h
theorem aCopy_0 {q : SQ} {f t : Nat} {i j n : Int32} (hf : f < 4) (ht : t < 4) (h : q.1 f = 0 ∨ q.1 t = 0) : aCopy q (nI f) i (nI t) j n = (-11, q) := by
  unfold aCopy
  rw [if_pos ⟨inB_nI (by omega) (by omega) (by decide), inB_nI (by omega) (by omega) (by decide)⟩, nI_clamp (by omega), nI_clamp (by omega), if_pos h]
theorem aCopy_c {q : SQ} {f t : Nat} {i j n : Int32} (hf : f < 4) (ht : t < 4) (h : ¬ (q.1 f = 0 ∨ q.1 t = 0)) (h2 : ¬ q.2.1 f = q.2.1 t) : aCopy q (nI f) i (nI t) j n = (-12, q) := by
  unfold aCopy
  rw [if_pos ⟨inB_nI (by omega) (by omega) (by decide), inB_nI (by omega) (by omega) (by decide)⟩, nI_clamp (by omega), nI_clamp (by omega), if_neg h, if_neg h2]
theorem aCopy_x {q : SQ} {f t : Nat} {i j n : Int32} (hf : f < 4) (ht : t < 4) (h : ¬ (q.1 f = 0 ∨ q.1 t = 0)) (h2 : q.2.1 f = q.2.1 t) (h3 : ¬ (spP i n (q.2.2.1 f) ∧ spP j n (q.2.2.1 t))) : aCopy q (nI f) i (nI t) j n = (-13, q) := by
  unfold aCopy
  rw [if_pos ⟨inB_nI (by omega) (by omega) (by decide), inB_nI (by omega) (by omega) (by decide)⟩, nI_clamp (by omega), nI_clamp (by omega), if_neg h, if_pos h2, if_neg h3]
theorem aCopy_y {q : SQ} {f t i j n : Nat} (hf : f < 4) (ht : t < 4) (h : ¬ (q.1 f = 0 ∨ q.1 t = 0)) (h2 : q.2.1 f = q.2.1 t) (h3 : spP (nI i) (nI n) (q.2.2.1 f)) (h4 : spP (nI j) (nI n) (q.2.2.1 t)) (hi : i ≤ 24) (hj : j ≤ 24) (hn : n ≤ 24) : aCopy q (nI f) (nI i) (nI t) (nI j) (nI n) = (nI n, qCopy q f i t j n) := by
  unfold aCopy
  rw [if_pos ⟨inB_nI (by omega) (by omega) (by decide), inB_nI (by omega) (by omega) (by decide)⟩, nI_clamp (by omega), nI_clamp (by omega), if_neg h, if_pos h2, if_pos ⟨h3, h4⟩, nI_clamp (by omega), nI_clamp (by omega), nI_clamp (by omega)]
theorem QC_copy {S : GS} {q : SQ} {f i t j n : Nat} (hf : f < 4) (h1 : i + n ≤ 24) (h : QC S q) : QC (stL S (14 + 2 * t + 1) (va_cpy (S.2 (14 + 2 * f + 1)) (S.2 (14 + 2 * t + 1)) i j n)) (qCopy q f i t j n) := by
  intro k hk
  obtain ⟨a, b, c, d⟩ := h k hk
  refine ⟨a, b, c, fun e he => ?_⟩
  unfold qCopy
  by_cases z : k = t
  · subst z
    rw [stL_me]
    simp only [qu_me]
    unfold va_cpy
    by_cases y : j ≤ e ∧ e < j + n
    · rw [if_pos y, if_pos y]
      exact (h f hf).2.2.2 _ (by omega)
    · rw [if_neg y, if_neg y]
      exact d e he
  · rw [stL_no (by omega)]
    simp only [qu_no z]
    exact d e he
theorem sp_two {i j n : Int32} {a b : Nat} (h1 : spP i n a) (h2 : spP j n b) (ha : a ≤ 24) (hb : b ≤ 24) : ∃ i' j' n' : Nat, i = nI i' ∧ j = nI j' ∧ n = nI n' ∧ i' + n' ≤ a ∧ j' + n' ≤ b := by
  obtain ⟨i', n', e1, e2, e3⟩ := sp_of h1 ha
  obtain ⟨j', n2, e4, e5, e6⟩ := sp_of h2 hb
  have : n' = n2 := (nI_eq (by omega) (by omega)).mp (e2.symm.trans e5)
  subst this
  exact ⟨i', j', n', e1, e4, e2, e3, e6⟩

set_option maxRecDepth 20000 in
theorem fl_X7_copy_38 : FL RX7 wsX7_copy 38 7 6 := ⟨RX7, TX7, 12, rfl, (fun w h => List.mem_cons_of_mem _ (List.mem_append_left _ (List.mem_append_right _ h))), by decide, by decide +kernel⟩
set_option maxRecDepth 20000 in
theorem fl_X7_copy_287 : FL RX7 wsX7_copy 287 5 0 := ⟨RX5, TX5, 4, rfl, (fun w h => List.mem_cons_of_mem _ (List.mem_append_right _ h)), by decide, by decide +kernel⟩
set_option maxRecDepth 20000 in
theorem fl_X7_copy_291 : FL RX7 wsX7_copy 291 5 1 := ⟨RX5, TX5, 4, rfl, (fun w h => List.mem_cons_of_mem _ (List.mem_append_right _ h)), by decide, by decide +kernel⟩
set_option maxRecDepth 20000 in
theorem fl_X7_copy_269 : FL RX7 wsX7_copy 269 5 3 := ⟨RX5, TX5, 4, rfl, (fun w h => List.mem_cons_of_mem _ (List.mem_append_right _ h)), by decide, by decide +kernel⟩
theorem ac_X7_copy_297 : Cond.methodLink RX7 297 arraycopyName ∈ wsX7_copy ∧ Cond.native arraycopyName ∈ wsX7_copy ∧ Cond.static arraycopyName ∈ wsX7_copy ∧ Cond.initialized "java/lang/System" ∈ wsX7_copy := by decide +kernel
set_option maxHeartbeats 4000000 in
set_option maxRecDepth 100000 in
theorem c_X7_copy {l : Launch} {Y : LY} {S : GS} {q : SQ} (hQ : QC S q) (hO : QOk q) {x i y j n : Int32} : CtP l yX7_copy wsX7_copy 4 Y [.ref (ad Y 0), .int x, .int i, .int y, .int j, .int n] S (fun r u => r = (aCopy q x i y j n).1 ∧ QC u (aCopy q x i y j n).2 ∧ FrQ S u) := by
  refine mkP (cc := cX7_copy) (maxL := 8) rfl rfl (Nat.le_of_ble_eq_true rfl) ?_
  intro X hl hY C hr
  subst hl
  subst hY
  show Zj X S [some (.ref (ad (xY X) 0)), some (.int x), some (.int i), some (.int y), some (.int j), some (.int n), none, none] 0 []
  refine z_iload1 C dX7_copy_0 ?_
  refine z_iconstN 0 C dX7_copy_1 ?_
  refine z_iconstN 3 C dX7_copy_2 ?_
  refine z_callSI C dX7_copy_3 c_X7_within gX7_copy_X7_within md_X7_within (by decide) rfl rfl (Nat.le_of_ble_eq_true rfl) ?_
  refine z_if_eqB C 18 dX7_copy_6 (by decide) (fun c6 => ?_) (fun c6 => ?_)
  · refine z_iconst (v := (-1)) C dX7_copy_18 (by decide) ?_
    exact z_iretP C dX7_copy_19 hr rfl ⟨by rw [aCopy_n (by rintro ⟨h1, h2⟩; contradiction)], by rw [aCopy_n (by rintro ⟨h1, h2⟩; contradiction)]; exact hQ, FrQ.rf⟩
  · refine z_iload3 C dX7_copy_9 ?_
    refine z_iconstN 0 C dX7_copy_10 ?_
    refine z_iconstN 3 C dX7_copy_11 ?_
    refine z_callSI C dX7_copy_12 c_X7_within gX7_copy_X7_within md_X7_within (by decide) rfl rfl (Nat.le_of_ble_eq_true rfl) ?_
    refine z_if_neB C 20 dX7_copy_15 (by decide) (fun c15 => ?_) (fun c15 => ?_)
    · obtain ⟨f, -, hf3, rfl⟩ := inB_of (by decide) c6 (by decide)
      obtain ⟨t, -, ht3, rfl⟩ := inB_of (by decide) c15 (by decide)
      have hf : f < 4 := by omega
      have ht : t < 4 := by omega
      have of := hO f hf
      have ot := hO t ht
      refine z_aload0 C dX7_copy_20 ?_
      refine z_get C dX7_copy_21 fl_X7_copy_38 (k_EM _) rfl ?_
      refine z_iload1 C dX7_copy_24 ?_
      refine z_aald3 C dX7_copy_25 (k_r13 _) hf ?_
      refine z_astore6 C dX7_copy_26 nl_i ?_
      refine z_aload0 C dX7_copy_28 ?_
      refine z_get C dX7_copy_29 fl_X7_copy_38 (k_EM _) rfl ?_
      refine z_iload3 C dX7_copy_32 ?_
      refine z_aald3 C dX7_copy_33 (k_r13 _) ht ?_
      refine z_astore7 C dX7_copy_34 nl_r ?_
      refine z_aload6 C dX7_copy_36 ?_
      refine z_get C dX7_copy_38 fl_X7_copy_287 (k_Sheet _ hf) rfl ?_
      refine z_top C (hQ f hf).1 ?_
      refine z_if_eqN C 52 dX7_copy_41 (by decide) (by omega) (fun c41 => ?_) (fun c41 => ?_)
      · refine z_bipush (v := (-11)) C dX7_copy_52 (by decide) ?_
        exact z_iretP C dX7_copy_54 hr rfl ⟨by rw [aCopy_0 hf ht (by omega)], by rw [aCopy_0 hf ht (by omega)]; exact hQ, FrQ.rf⟩
      · refine z_aload7 C dX7_copy_44 ?_
        refine z_get C dX7_copy_46 fl_X7_copy_287 (k_Sheet _ ht) rfl ?_
        refine z_top C (hQ t ht).1 ?_
        refine z_if_neN C 55 dX7_copy_49 (by decide) (by omega) (fun c49 => ?_) (fun c49 => ?_)
        · refine z_aload6 C dX7_copy_55 ?_
          refine z_get C dX7_copy_57 fl_X7_copy_291 (k_Sheet _ hf) rfl ?_
          refine z_top C (hQ f hf).2.1 ?_
          refine z_aload7 C dX7_copy_60 ?_
          refine z_get C dX7_copy_62 fl_X7_copy_291 (k_Sheet _ ht) rfl ?_
          refine z_top C (hQ t ht).2.1 ?_
          refine z_icmp_eqN C 71 dX7_copy_65 (by decide) (by omega) (by omega) (fun c65 => ?_) (fun c65 => ?_)
          · refine z_aload6 C dX7_copy_71 ?_
            refine z_iload2 C dX7_copy_73 ?_
            refine z_iload5 C dX7_copy_74 ?_
            refine z_callVI C dX7_copy_76 (c_X5_spans hf (hQ f hf).2.2.1 of.2.2) gX7_copy_X5_spans md_X5_spans rfl (by decide) (k_Sheet _ hf) rfl rfl rfl (Nat.le_of_ble_eq_true rfl) ?_
            refine z_if_eqB C 94 dX7_copy_79 (by decide) (fun c79 => ?_) (fun c79 => ?_)
            · refine z_bipush (v := (-13)) C dX7_copy_94 (by decide) ?_
              exact z_iretP C dX7_copy_96 hr rfl ⟨by rw [aCopy_x hf ht (by omega) (by omega) (by rintro ⟨h1, h2⟩; contradiction)], by rw [aCopy_x hf ht (by omega) (by omega) (by rintro ⟨h1, h2⟩; contradiction)]; exact hQ, FrQ.rf⟩
            · refine z_aload7 C dX7_copy_82 ?_
              refine z_iload4 C dX7_copy_84 ?_
              refine z_iload5 C dX7_copy_86 ?_
              refine z_callVI C dX7_copy_88 (c_X5_spans ht (hQ t ht).2.2.1 ot.2.2) gX7_copy_X5_spans md_X5_spans rfl (by decide) (k_Sheet _ ht) rfl rfl rfl (Nat.le_of_ble_eq_true rfl) ?_
              refine z_if_neB C 97 dX7_copy_91 (by decide) (fun c91 => ?_) (fun c91 => ?_)
              · obtain ⟨i, j, n, rfl, rfl, rfl, h1, h2⟩ := sp_two c79 c91 of.2.2 ot.2.2
                refine z_aload6 C dX7_copy_97 ?_
                refine z_get C dX7_copy_99 fl_X7_copy_269 (k_Sheet _ hf) rfl ?_
                refine z_iload2 C dX7_copy_102 ?_
                refine z_aload7 C dX7_copy_103 ?_
                refine z_get C dX7_copy_105 fl_X7_copy_269 (k_Sheet _ ht) rfl ?_
                refine z_iload4 C dX7_copy_108 ?_
                refine z_iload5 C dX7_copy_110 ?_
                refine z_copyl C dX7_copy_112 ac_X7_copy_297.1 ac_X7_copy_297.2.1 ac_X7_copy_297.2.2.1 ac_X7_copy_297.2.2.2 (by decide) (Nat.le_of_ble_eq_true rfl) (k_items _ hf) (k_items _ ht) (by omega) (by omega) ?_
                refine z_iload5 C dX7_copy_115 ?_
                exact z_iretP C dX7_copy_117 hr rfl ⟨by rw [aCopy_y hf ht (by omega) (by omega) c79 c91 (by omega) (by omega) (by omega)], by rw [aCopy_y hf ht (by omega) (by omega) c79 c91 (by omega) (by omega) (by omega)]; exact QC_copy hf (by omega) hQ, FrQ.L (by omega)⟩
              · refine z_bipush (v := (-13)) C dX7_copy_94 (by decide) ?_
                exact z_iretP C dX7_copy_96 hr rfl ⟨by rw [aCopy_x hf ht (by omega) (by omega) (by rintro ⟨h1, h2⟩; contradiction)], by rw [aCopy_x hf ht (by omega) (by omega) (by rintro ⟨h1, h2⟩; contradiction)]; exact hQ, FrQ.rf⟩
          · refine z_bipush (v := (-12)) C dX7_copy_68 (by decide) ?_
            exact z_iretP C dX7_copy_70 hr rfl ⟨by rw [aCopy_c hf ht (by omega) (by omega)], by rw [aCopy_c hf ht (by omega) (by omega)]; exact hQ, FrQ.rf⟩
        · refine z_bipush (v := (-11)) C dX7_copy_52 (by decide) ?_
          exact z_iretP C dX7_copy_54 hr rfl ⟨by rw [aCopy_0 hf ht (by omega)], by rw [aCopy_0 hf ht (by omega)]; exact hQ, FrQ.rf⟩
    · refine z_iconst (v := (-1)) C dX7_copy_18 (by decide) ?_
      exact z_iretP C dX7_copy_19 hr rfl ⟨by rw [aCopy_n (by rintro ⟨h1, h2⟩; contradiction)], by rw [aCopy_n (by rintro ⟨h1, h2⟩; contradiction)]; exact hQ, FrQ.rf⟩

theorem kl_X8_isSheet_215 : Cond.constantLong RX8 215 (3) ∈ wsX8_isSheet := by decide +kernel
set_option maxHeartbeats 4000000 in
set_option maxRecDepth 100000 in
theorem c_X8_isSheet {l : Launch} {Y : LY} {S : GS} {x : Int32} : CtI l yX8_isSheet wsX8_isSheet 2 Y [.int x] S (bi (inB x 0 3)) (S) := by
  refine mkI (cc := cX8_isSheet) (maxL := 1) rfl rfl (Nat.le_of_ble_eq_true rfl) ?_
  intro X hl hY C hr
  subst hl
  subst hY
  show Zj X S [some (.int x)] 0 []
  refine z_iload0 C dX8_isSheet_0 ?_
  refine z_i2l C dX8_isSheet_1 ?_
  refine z_lconst (v := 0) C dX8_isSheet_2 rfl ?_
  refine z_topl (y := (nI 0).toInt64) C (by decide) ?_
  refine z_ldc2 (v := 3) C dX8_isSheet_3 kl_X8_isSheet_215 ?_
  refine z_topl (y := (nI 3).toInt64) C (by decide) ?_
  refine z_callSI C dX8_isSheet_6 c_X8_in gX8_isSheet_X8_in md_X8_in (by decide) rfl rfl (Nat.le_of_ble_eq_true rfl) ?_
  exact z_iret C dX8_isSheet_9 hr bi_nar rfl rfl

theorem md_X8_isSheet : MD yX8_isSheet wsX8_isSheet 1 1 (some .boolean) := ⟨_, _, rfl, by decide, by decide +kernel, by decide +kernel, by decide +kernel⟩
theorem kl_X8_isLane_215 : Cond.constantLong RX8 215 (3) ∈ wsX8_isLane := by decide +kernel
set_option maxHeartbeats 4000000 in
set_option maxRecDepth 100000 in
theorem c_X8_isLane {l : Launch} {Y : LY} {S : GS} {x y : Int32} : CtI l yX8_isLane wsX8_isLane 3 Y [.int x, .int y] S (bi (inB x 0 3 ∧ inB y 0 3)) (S) := by
  refine mkI (cc := cX8_isLane) (maxL := 2) rfl rfl (Nat.le_of_ble_eq_true rfl) ?_
  intro X hl hY C hr
  subst hl
  subst hY
  show Zj X S [some (.int x), some (.int y)] 0 []
  refine z_iload0 C dX8_isLane_0 ?_
  refine z_callSI C dX8_isLane_1 c_X8_isSheet gX8_isLane_X8_isSheet md_X8_isSheet (by decide) rfl rfl (Nat.le_of_ble_eq_true rfl) ?_
  refine z_if_eqB C 23 dX8_isLane_4 (by decide) (fun c4 => ?_) (fun c4 => ?_)
  · refine z_iconstN 0 C dX8_isLane_23 ?_
    exact z_iret C dX8_isLane_24 hr bi_nar (b0 (by intro hh; first | contradiction | (obtain ⟨h1, h2⟩ := hh; contradiction) | (obtain ⟨h1, h2, h3⟩ := hh; contradiction) | (obtain ⟨h1, h2, h3, h4⟩ := hh; contradiction))) rfl
  · refine z_iload1 C dX8_isLane_7 ?_
    refine z_i2l C dX8_isLane_8 ?_
    refine z_lconst (v := 0) C dX8_isLane_9 rfl ?_
    refine z_topl (y := (nI 0).toInt64) C (by decide) ?_
    refine z_ldc2 (v := 3) C dX8_isLane_10 kl_X8_isLane_215 ?_
    refine z_topl (y := (nI 3).toInt64) C (by decide) ?_
    refine z_callSI C dX8_isLane_13 c_X8_in gX8_isLane_X8_in md_X8_in (by decide) rfl rfl (Nat.le_of_ble_eq_true rfl) ?_
    refine z_if_eqB C 23 dX8_isLane_16 (by decide) (fun c16 => ?_) (fun c16 => ?_)
    · refine z_iconstN 0 C dX8_isLane_23 ?_
      exact z_iret C dX8_isLane_24 hr bi_nar (b0 (by intro hh; first | contradiction | (obtain ⟨h1, h2⟩ := hh; contradiction) | (obtain ⟨h1, h2, h3⟩ := hh; contradiction) | (obtain ⟨h1, h2, h3, h4⟩ := hh; contradiction))) rfl
    · refine z_iconstN 1 C dX8_isLane_19 ?_
      refine z_goto C 24 dX8_isLane_20 (by decide) ?_
      exact z_iret C dX8_isLane_24 hr bi_nar (b1 (by first | assumption | (refine ⟨?_, ?_⟩ <;> assumption) | (refine ⟨?_, ?_, ?_⟩ <;> assumption))) rfl

set_option maxHeartbeats 4000000 in
set_option maxRecDepth 100000 in
theorem c_X8_lowest {l : Launch} {Y : LY} {S : GS} {ln : Nat} {v : Int64} (h3 : ln ≤ 3) : CtL l yX8_lowest wsX8_lowest 1 Y [.int (nI ln), .long v] S (lowL ln v) (S) := by
  refine mkL (cc := cX8_lowest) (maxL := 3) rfl rfl (Nat.le_of_ble_eq_true rfl) ?_
  intro X hl hY C hr
  subst hl
  subst hY
  show Zj X S [some (.int (nI ln)), some (.long v), none] 0 []
  refine z_iload0 C dX8_lowest_0 ?_
  refine z_if_neN C 11 dX8_lowest_1 (by decide) (by omega) (fun c1 => ?_) (fun c1 => ?_)
  · refine z_iload0 C dX8_lowest_11 ?_
    refine z_iconstN 1 C dX8_lowest_12 ?_
    refine z_icmp_neN C 23 dX8_lowest_13 (by decide) (by omega) (by omega) (fun c13 => ?_) (fun c13 => ?_)
    · refine z_iload0 C dX8_lowest_23 ?_
      refine z_iconstN 2 C dX8_lowest_24 ?_
      refine z_icmp_neN C 34 dX8_lowest_25 (by decide) (by omega) (by omega) (fun c25 => ?_) (fun c25 => ?_)
      · refine z_lload1 C dX8_lowest_34 ?_
        exact z_lret C dX8_lowest_35 hr (by
    unfold lowL
    first
      | rw [if_pos (by omega)]
      | rw [if_neg (by omega), if_pos (by omega)]
      | rw [if_neg (by omega), if_neg (by omega), if_pos (by omega)]
      | rw [if_neg (by omega), if_neg (by omega), if_neg (by omega)]) rfl
      · refine z_lload1 C dX8_lowest_28 ?_
        refine z_l2i C dX8_lowest_29 ?_
        refine z_i2l C dX8_lowest_30 ?_
        refine z_goto C 35 dX8_lowest_31 (by decide) ?_
        exact z_lret C dX8_lowest_35 hr (by
    unfold lowL
    first
      | rw [if_pos (by omega)]
      | rw [if_neg (by omega), if_pos (by omega)]
      | rw [if_neg (by omega), if_neg (by omega), if_pos (by omega)]
      | rw [if_neg (by omega), if_neg (by omega), if_neg (by omega)]) rfl
    · refine z_lload1 C dX8_lowest_16 ?_
      refine z_l2i C dX8_lowest_17 ?_
      refine z_i2s C dX8_lowest_18 ?_
      refine z_i2l C dX8_lowest_19 ?_
      refine z_goto C 35 dX8_lowest_20 (by decide) ?_
      exact z_lret C dX8_lowest_35 hr (by
    unfold lowL
    first
      | rw [if_pos (by omega)]
      | rw [if_neg (by omega), if_pos (by omega)]
      | rw [if_neg (by omega), if_neg (by omega), if_pos (by omega)]
      | rw [if_neg (by omega), if_neg (by omega), if_neg (by omega)]) rfl
  · refine z_lload1 C dX8_lowest_4 ?_
    refine z_l2i C dX8_lowest_5 ?_
    refine z_i2b C dX8_lowest_6 ?_
    refine z_i2l C dX8_lowest_7 ?_
    refine z_goto C 35 dX8_lowest_8 (by decide) ?_
    exact z_lret C dX8_lowest_35 hr (by
    unfold lowL
    first
      | rw [if_pos (by omega)]
      | rw [if_neg (by omega), if_pos (by omega)]
      | rw [if_neg (by omega), if_neg (by omega), if_pos (by omega)]
      | rw [if_neg (by omega), if_neg (by omega), if_neg (by omega)]) rfl

set_option maxRecDepth 20000 in
theorem fl_X8_against_20 : FL RX8 wsX8_against 20 8 5 := ⟨RX8, TX8, 15, rfl, (fun w h => List.mem_cons_of_mem _ (List.mem_append_right _ h)), by decide, by decide +kernel⟩
set_option maxRecDepth 20000 in
theorem fl_X8_against_23 : FL RX8 wsX8_against 23 8 6 := ⟨RX8, TX8, 15, rfl, (fun w h => List.mem_cons_of_mem _ (List.mem_append_right _ h)), by decide, by decide +kernel⟩
set_option maxHeartbeats 4000000 in
set_option maxRecDepth 100000 in
theorem c_X8_against {l : Launch} {Y : LY} {S : GS} {q : SQ} {j : Nat} {y i n : Int32} (hQ : QM S q) (hO : QOk q) (hj : j < 4) : CtI l yX8_against wsX8_against 1 Y [.ref (ad Y 178), .int (nI j), .int y, .int i, .int n] S (aLook q j y i n) (S) := by
  refine mkI (cc := cX8_against) (maxL := 5) rfl rfl (Nat.le_of_ble_eq_true rfl) ?_
  intro X hl hY C hr
  subst hl
  subst hY
  have hz := QM_sz hQ hO hj
  show Zj X S [some (.ref (ad (xY X) 178)), some (.int (nI j)), some (.int y), some (.int i), some (.int n)] 0 []
  refine z_aload0 C dX8_against_0 ?_
  refine z_get C dX8_against_1 fl_X8_against_20 (k_Model _) rfl ?_
  refine z_iload1 C dX8_against_4 ?_
  refine z_iald C dX8_against_5 (k_i182 _) (by omega) ?_
  refine z_if_ge C 12 dX8_against_6 (by decide) (fun c6 => ?_) (fun c6 => ?_)
  · refine z_aload0 C dX8_against_12 ?_
    refine z_get C dX8_against_13 fl_X8_against_23 (k_Model _) rfl ?_
    refine z_iload1 C dX8_against_16 ?_
    refine z_iald C dX8_against_17 (k_i183 _) (by omega) ?_
    refine z_top C (hQ j hj).2.1 ?_
    refine z_iload2 C dX8_against_18 ?_
    refine z_icmp_eq C 25 dX8_against_19 (by decide) (fun c19 => ?_) (fun c19 => ?_)
    · refine z_iload3 C dX8_against_25 ?_
      refine z_if_lt C 51 dX8_against_26 (by decide) (fun c26 => ?_) (fun c26 => ?_)
      · refine z_bipush (v := (-13)) C dX8_against_51 (by decide) ?_
        refine z_goto C 57 dX8_against_53 (by decide) ?_
        exact z_iret C dX8_against_57 hr rfl (by unfold aLook; rw [if_neg (by rcases hz with z | z; exact absurd c6 z.2; exact z.1), if_pos c19, if_neg (by first | exact sp_n1 c26 | exact sp_n2 c31 | exact fun z => c48 ((sp_m (hO j hj).2.2 c26 c31).mpr z))]) rfl
      · refine z_iload4 C dX8_against_29 ?_
        refine z_if_lt C 51 dX8_against_31 (by decide) (fun c31 => ?_) (fun c31 => ?_)
        · refine z_bipush (v := (-13)) C dX8_against_51 (by decide) ?_
          refine z_goto C 57 dX8_against_53 (by decide) ?_
          exact z_iret C dX8_against_57 hr rfl (by unfold aLook; rw [if_neg (by rcases hz with z | z; exact absurd c6 z.2; exact z.1), if_pos c19, if_neg (by first | exact sp_n1 c26 | exact sp_n2 c31 | exact fun z => c48 ((sp_m (hO j hj).2.2 c26 c31).mpr z))]) rfl
        · refine z_iload3 C dX8_against_34 ?_
          refine z_i2l C dX8_against_35 ?_
          refine z_iload4 C dX8_against_36 ?_
          refine z_i2l C dX8_against_38 ?_
          refine z_ladd C dX8_against_39 ?_
          refine z_aload0 C dX8_against_40 ?_
          refine z_get C dX8_against_41 fl_X8_against_20 (k_Model _) rfl ?_
          refine z_iload1 C dX8_against_44 ?_
          refine z_iald C dX8_against_45 (k_i182 _) (by omega) ?_
          refine z_top C (show S.1 182 j = nI (q.2.2.1 j) by rcases hz with z | z; exact absurd c6 z.2; exact z.2.2) ?_
          refine z_i2l C dX8_against_46 ?_
          refine z_lcmp C dX8_against_47 ?_
          refine z_if_le C 56 dX8_against_48 (by decide) (fun c48 => ?_) (fun c48 => ?_)
          · refine z_iconstN 0 C dX8_against_56 ?_
            exact z_iret C dX8_against_57 hr rfl (by unfold aLook; rw [if_neg (by rcases hz with z | z; exact absurd c6 z.2; exact z.1), if_pos c19, if_pos ((sp_m (hO j hj).2.2 c26 c31).mp c48)]) rfl
          · refine z_bipush (v := (-13)) C dX8_against_51 (by decide) ?_
            refine z_goto C 57 dX8_against_53 (by decide) ?_
            exact z_iret C dX8_against_57 hr rfl (by unfold aLook; rw [if_neg (by rcases hz with z | z; exact absurd c6 z.2; exact z.1), if_pos c19, if_neg (by first | exact sp_n1 c26 | exact sp_n2 c31 | exact fun z => c48 ((sp_m (hO j hj).2.2 c26 c31).mpr z))]) rfl
    · refine z_bipush (v := (-12)) C dX8_against_22 (by decide) ?_
      exact z_iret C dX8_against_24 hr rfl (by unfold aLook; rw [if_neg (by rcases hz with z | z; exact absurd c6 z.2; exact z.1), if_neg c19]) rfl
  · refine z_bipush (v := (-11)) C dX8_against_9 (by decide) ?_
    exact z_iret C dX8_against_11 hr rfl (by unfold aLook; rw [if_pos (by rcases hz with z | z; exact z.1; exact absurd z.2.1 c6)]) rfl

theorem QM_drop {S : GS} {q : SQ} {j : Nat} (h : QM S q) : QM (stI S 182 j (-1)) (qDrop q j) := by
  intro k hk
  unfold qDrop
  obtain ⟨h1, h2, h3⟩ := h k hk
  by_cases c : k = j
  · subst c
    simp only [qu_me]
    exact ⟨stI_me _ _ _ _, by rw [stI_no (by decide)]; exact h2, h3⟩
  · simp only [qu_no c]
    exact ⟨by rw [stI_ni c]; exact h1, by rw [stI_no (by decide)]; exact h2, h3⟩
theorem QM_hold {S u : GS} {q : SQ} {j ln n : Nat} (hj : j < 4) (h : QM S q) (e1 : u.1 = (stI (stI S 183 j (nI ln)) 182 j (nI n)).1) (e2 : ∀ o, o ≠ 181 → u.2 o = S.2 o) (e3 : ∀ k, k < 24 → u.2 181 (24 * j + k) = 0) (e4 : ∀ k, k < 24 * j ∨ 24 * j + 24 ≤ k → u.2 181 k = S.2 181 k) : QM u (qHold q j ln n) ∧ FrQm S u := by
  refine ⟨fun k hk => ?_, fun o a b => ?_, fun i _ => ?_, fun o a _ => e2 o a⟩
  · unfold qHold
    obtain ⟨h1, h2, h3⟩ := h k hk
    rw [e1]
    by_cases c : k = j
    · subst c
      simp only [qu_me]
      exact ⟨stI_me _ _ _ _, by rw [stI_no (by decide), stI_me], e3⟩
    · simp only [qu_no c]
      refine ⟨by rw [stI_ni c, stI_no (by decide)]; exact h1, by rw [stI_no (by decide), stI_ni c]; exact h2, fun i hi => ?_⟩
      rw [e4 _ (by omega)]
      exact h3 i hi
  · rw [e1, stI_no (by omega), stI_no (by omega)]
  · rw [e1, stI_no (by omega), stI_no (by omega)]

set_option maxRecDepth 20000 in
theorem fl_X8_drop_20 : FL RX8 wsX8_drop 20 8 5 := ⟨RX8, TX8, 15, rfl, (fun w h => List.mem_cons_of_mem _ (List.mem_append_right _ h)), by decide, by decide +kernel⟩
set_option maxHeartbeats 4000000 in
set_option maxRecDepth 100000 in
theorem c_X8_drop {l : Launch} {Y : LY} {S : GS} {q : SQ} (hQ : QM S q) (hO : QOk q) {x : Int32} : CtP l yX8_drop wsX8_drop 4 Y [.ref (ad Y 178), .int x] S (fun r u => r = (aDrop q x).1 ∧ QM u (aDrop q x).2 ∧ FrQm S u) := by
  refine mkP (cc := cX8_drop) (maxL := 3) rfl rfl (Nat.le_of_ble_eq_true rfl) ?_
  intro X hl hY C hr
  subst hl
  subst hY
  show Zj X S [some (.ref (ad (xY X) 178)), some (.int x), none] 0 []
  refine z_iload1 C dX8_drop_0 ?_
  refine z_callSI C dX8_drop_1 c_X8_isSheet gX8_drop_X8_isSheet md_X8_isSheet (by decide) rfl rfl (Nat.le_of_ble_eq_true rfl) ?_
  refine z_if_neB C 9 dX8_drop_4 (by decide) (fun c4 => ?_) (fun c4 => ?_)
  · obtain ⟨j, -, hj3, rfl⟩ := inB_of (by decide) c4 (by decide)
    have hj : j < 4 := by omega
    have hz := QM_sz hQ hO hj
    refine z_aload0 C dX8_drop_9 ?_
    refine z_get C dX8_drop_10 fl_X8_drop_20 (k_Model _) rfl ?_
    refine z_iload1 C dX8_drop_13 ?_
    refine z_iald C dX8_drop_14 (k_i182 _) (by omega) ?_
    refine z_if_ge C 21 dX8_drop_15 (by decide) (fun c15 => ?_) (fun c15 => ?_)
    · refine z_aload0 C dX8_drop_21 ?_
      refine z_get C dX8_drop_22 fl_X8_drop_20 (k_Model _) rfl ?_
      refine z_iload1 C dX8_drop_25 ?_
      refine z_iald C dX8_drop_26 (k_i182 _) (by omega) ?_
      refine z_top C (show S.1 182 j = nI (q.2.2.1 j) by rcases hz with z | z; exact absurd c15 z.2; exact z.2.2) ?_
      refine z_istore2 C dX8_drop_27 nl_i ?_
      refine z_aload0 C dX8_drop_28 ?_
      refine z_get C dX8_drop_29 fl_X8_drop_20 (k_Model _) rfl ?_
      refine z_iload1 C dX8_drop_32 ?_
      refine z_iconst (v := (-1)) C dX8_drop_33 (by decide) ?_
      refine z_iast C dX8_drop_34 (k_i182 _) (by omega) ?_
      refine z_iload2 C dX8_drop_35 ?_
      exact z_iretP C dX8_drop_36 hr rfl ⟨by rw [aDrop_y hj3 (by rcases hz with z | z; exact absurd c15 z.2; exact z.1)], by rw [aDrop_y hj3 (by rcases hz with z | z; exact absurd c15 z.2; exact z.1)]; exact QM_drop hQ, FrQm.I (by omega)⟩
    · refine z_bipush (v := (-11)) C dX8_drop_18 (by decide) ?_
      exact z_iretP C dX8_drop_20 hr rfl ⟨by rw [aDrop_0 hj3 (by rcases hz with z | z; exact z.1; exact absurd z.2.1 c15)], by rw [aDrop_0 hj3 (by rcases hz with z | z; exact z.1; exact absurd z.2.1 c15)]; exact hQ, FrQm.rf⟩
  · refine z_iconst (v := (-1)) C dX8_drop_7 (by decide) ?_
    exact z_iretP C dX8_drop_8 hr rfl ⟨by rw [aDrop_n c4], by rw [aDrop_n c4]; exact hQ, FrQm.rf⟩

theorem md_X8_isLane : MD yX8_isLane wsX8_isLane 2 2 (some .boolean) := ⟨_, _, rfl, by decide, by decide +kernel, by decide +kernel, by decide +kernel⟩
theorem md_X8_against : MD yX8_against wsX8_against 4 5 (some .int) := ⟨_, _, rfl, by decide, by decide +kernel, by decide +kernel, by decide +kernel⟩
set_option maxRecDepth 20000 in
theorem fl_X8_item_16 : FL RX8 wsX8_item 16 8 4 := ⟨RX8, TX8, 15, rfl, (fun w h => List.mem_cons_of_mem _ (List.mem_append_right _ h)), by decide, by decide +kernel⟩
theorem md_X8_lowest : MD yX8_lowest wsX8_lowest 2 3 (some .long) := ⟨_, _, rfl, by decide, by decide +kernel, by decide +kernel, by decide +kernel⟩
set_option maxHeartbeats 4000000 in
set_option maxRecDepth 100000 in
theorem c_X8_item {l : Launch} {Y : LY} {S : GS} {q : SQ} (hQ : QM S q) (hO : QOk q) {x y z : Int32} {v : Int64} : CtP l yX8_item wsX8_item 4 Y [.ref (ad Y 178), .int x, .int y, .int z, .long v] S (fun r u => r = (aItem q x y z v).1 ∧ QM u (aItem q x y z v).2 ∧ FrQm S u) := by
  refine mkP (cc := cX8_item) (maxL := 7) rfl rfl (Nat.le_of_ble_eq_true rfl) ?_
  intro X hl hY C hr
  subst hl
  subst hY
  show Zj X S [some (.ref (ad (xY X) 178)), some (.int x), some (.int y), some (.int z), some (.long v), none, none] 0 []
  refine z_iload1 C dX8_item_0 ?_
  refine z_iload2 C dX8_item_1 ?_
  refine z_callSI C dX8_item_2 c_X8_isLane gX8_item_X8_isLane md_X8_isLane (by decide) rfl rfl (Nat.le_of_ble_eq_true rfl) ?_
  refine z_if_neB C 10 dX8_item_5 (by decide) (fun c5 => ?_) (fun c5 => ?_)
  · obtain ⟨j, -, hj3, rfl⟩ := inB_of (by decide) c5.1 (by decide)
    have hj : j < 4 := by omega
    refine z_aload0 C dX8_item_10 ?_
    refine z_iload1 C dX8_item_11 ?_
    refine z_iload2 C dX8_item_12 ?_
    refine z_iload3 C dX8_item_13 ?_
    refine z_iconstN 1 C dX8_item_14 ?_
    refine z_callVI C dX8_item_15 (c_X8_against hQ hO hj) gX8_item_X8_against md_X8_against rfl (by decide) (k_Model _) rfl rfl rfl (Nat.le_of_ble_eq_true rfl) ?_
    refine z_istore6 C dX8_item_18 nl_n ?_
    refine z_iload6 C dX8_item_20 ?_
    refine z_if_ge C 28 dX8_item_22 (by decide) (fun c22 => ?_) (fun c22 => ?_)
    · obtain ⟨-, ey, i, n1, rfl, e1, h1, h2⟩ := aLook_i hO hj c22
      subst ey
      have e2 : 1 = n1 ∨ 24 < n1 := by by_cases z : n1 ≤ 24; exact Or.inl ((nI_eq (by decide) (by omega)).mp e1); exact Or.inr (by omega)
      have hi : i < 24 := by omega
      have hl3 := (hO j hj).2.1
      refine z_aload0 C dX8_item_28 ?_
      refine z_get C dX8_item_29 fl_X8_item_16 (k_Model _) rfl ?_
      refine z_bipush (v := nI 24) C dX8_item_32 (by decide) ?_
      refine z_iload1 C dX8_item_34 ?_
      refine z_imulN C dX8_item_35 ?_
      refine z_iload3 C dX8_item_36 ?_
      refine z_iaddN C dX8_item_37 ?_
      refine z_iload2 C dX8_item_38 ?_
      refine z_lload4 C dX8_item_39 ?_
      refine z_callSL C dX8_item_41 (c_X8_lowest (by omega)) gX8_item_X8_lowest md_X8_lowest (by decide) rfl rfl (Nat.le_of_ble_eq_true rfl) ?_
      refine z_last C dX8_item_44 (k_l181 _) (by omega) ?_
      refine z_iconstN 1 C dX8_item_45 ?_
      exact z_iretP C dX8_item_46 hr rfl ⟨by rw [aItem_y hj3 hi c5.2 c22], by rw [aItem_y hj3 hi c5.2 c22]; exact QM_put hi hQ, FrQm.L (Or.inl rfl)⟩
    · refine z_iload6 C dX8_item_25 ?_
      exact z_iretP C dX8_item_27 hr rfl ⟨by rw [aItem_l hj3 c5.2 c22], by rw [aItem_l hj3 c5.2 c22]; exact hQ, FrQm.rf⟩
  · refine z_iconst (v := (-1)) C dX8_item_8 (by decide) ?_
    exact z_iretP C dX8_item_9 hr rfl ⟨by rw [aItem_n c5], by rw [aItem_n c5]; exact hQ, FrQm.rf⟩

set_option maxRecDepth 20000 in
theorem fl_X8_sheet_16 : FL RX8 wsX8_sheet 16 8 4 := ⟨RX8, TX8, 15, rfl, (fun w h => List.mem_cons_of_mem _ (List.mem_append_right _ h)), by decide, by decide +kernel⟩
set_option maxHeartbeats 4000000 in
set_option maxRecDepth 100000 in
theorem lp_X8_sheet {X : CX} {S1 : GS} {j ln N : Nat} (hj : j < 4) (C : Cx X cX8_sheet RX8 wsX8_sheet 4) : ∀ (n : Nat) (i : Nat) (T : GS), i + n = 24 → (T.1 = S1.1 ∧ (∀ o, o ≠ 181 → T.2 o = S1.2 o) ∧ (∀ k, k < i → T.2 181 (24 * j + k) = 0) ∧ (∀ k, k < 24 * j ∨ 24 * j + 24 ≤ k → T.2 181 k = S1.2 181 k)) → (∀ U : GS, U.1 = S1.1 → (∀ o, o ≠ 181 → U.2 o = S1.2 o) → (∀ k, k < 24 → U.2 181 (24 * j + k) = 0) → (∀ k, k < 24 * j ∨ 24 * j + 24 ≤ k → U.2 181 k = S1.2 181 k) → Zj X U [some (.ref (ad (xY X) 178)), some (.int (nI (j))), some (.int (nI (ln))), some (.int (nI (N))), some (.int (nI (24)))] 66 []) → Zj X T [some (.ref (ad (xY X) 178)), some (.int (nI (j))), some (.int (nI (ln))), some (.int (nI (N))), some (.int (nI (i)))] 40 [] := by
  intro n
  induction n with
  | zero =>
    intro i T hi hI kk
    obtain rfl : i = 24 := by omega
    refine z_iload4 C dX8_sheet_40 ?_
    refine z_bipush (v := nI 24) C dX8_sheet_42 (by decide) ?_
    refine z_icmp_geN C 66 dX8_sheet_44 (by decide) (by omega) (by omega) (fun c44 => ?_) (fun c44 => ?_)
    · exact kk T hI.1 hI.2.1 hI.2.2.1 hI.2.2.2
    · exact absurd c44 (by omega)
  | succ n ih =>
    intro i T hi hI kk
    refine z_iload4 C dX8_sheet_40 ?_
    refine z_bipush (v := nI 24) C dX8_sheet_42 (by decide) ?_
    refine z_icmp_geN C 66 dX8_sheet_44 (by decide) (by omega) (by omega) (fun c44 => ?_) (fun c44 => ?_)
    · exact absurd c44 (by omega)
    · refine z_aload0 C dX8_sheet_47 ?_
      refine z_get C dX8_sheet_48 fl_X8_sheet_16 (k_Model _) rfl ?_
      refine z_bipush (v := nI 24) C dX8_sheet_51 (by decide) ?_
      refine z_iload1 C dX8_sheet_53 ?_
      refine z_imulN C dX8_sheet_54 ?_
      refine z_iload4 C dX8_sheet_55 ?_
      refine z_iaddN C dX8_sheet_57 ?_
      refine z_lconst (v := 0) C dX8_sheet_58 rfl ?_
      refine z_last C dX8_sheet_59 (k_l181 _) (by omega) ?_
      refine z_iinc4 C dX8_sheet_60 (inc1 _) nl_i ?_
      refine z_goto C 40 dX8_sheet_63 (by decide) ?_
      refine ih (i + 1) _ (by omega) ⟨hI.1, fun o h => (stL_no h).trans (hI.2.1 o h), fun k hk => ?_, fun k hk => ?_⟩ kk
      · rw [stL_me]
        by_cases c : k = i
        · subst c
          exact pk_uLs
        · rw [pk_uLn (by omega)]
          exact hI.2.2.1 k (by omega)
      · rw [stL_me, pk_uLn (by omega)]
        exact hI.2.2.2 k hk

set_option maxRecDepth 20000 in
theorem fl_X8_sheet_23 : FL RX8 wsX8_sheet 23 8 6 := ⟨RX8, TX8, 15, rfl, (fun w h => List.mem_cons_of_mem _ (List.mem_append_right _ h)), by decide, by decide +kernel⟩
set_option maxRecDepth 20000 in
theorem fl_X8_sheet_20 : FL RX8 wsX8_sheet 20 8 5 := ⟨RX8, TX8, 15, rfl, (fun w h => List.mem_cons_of_mem _ (List.mem_append_right _ h)), by decide, by decide +kernel⟩
set_option maxHeartbeats 4000000 in
set_option maxRecDepth 100000 in
theorem c_X8_sheet {l : Launch} {Y : LY} {S : GS} {q : SQ} (hQ : QM S q) (hO : QOk q) {x y z : Int32} : CtP l yX8_sheet wsX8_sheet 4 Y [.ref (ad Y 178), .int x, .int y, .int z] S (fun r u => r = (aSheet q x y z).1 ∧ QM u (aSheet q x y z).2 ∧ FrQm S u) := by
  refine mkP (cc := cX8_sheet) (maxL := 5) rfl rfl (Nat.le_of_ble_eq_true rfl) ?_
  intro X hl hY C hr
  subst hl
  subst hY
  show Zj X S [some (.ref (ad (xY X) 178)), some (.int x), some (.int y), some (.int z), none] 0 []
  refine z_iload1 C dX8_sheet_0 ?_
  refine z_iload2 C dX8_sheet_1 ?_
  refine z_callSI C dX8_sheet_2 c_X8_isLane gX8_sheet_X8_isLane md_X8_isLane (by decide) rfl rfl (Nat.le_of_ble_eq_true rfl) ?_
  refine z_if_eqB C 14 dX8_sheet_5 (by decide) (fun c5 => ?_) (fun c5 => ?_)
  · refine z_iconst (v := (-1)) C dX8_sheet_14 (by decide) ?_
    exact z_iretP C dX8_sheet_15 hr rfl ⟨by rw [aSheet_n (by rintro ⟨h1, h2⟩; contradiction)], by rw [aSheet_n (by rintro ⟨h1, h2⟩; contradiction)]; exact hQ, FrQm.rf⟩
  · refine z_iload3 C dX8_sheet_8 ?_
    refine z_bipush (v := nI 24) C dX8_sheet_9 (by decide) ?_
    refine z_icmp_le C 16 dX8_sheet_11 (by decide) (fun c11 => ?_) (fun c11 => ?_)
    · refine z_iload3 C dX8_sheet_16 ?_
      refine z_if_ge C 23 dX8_sheet_17 (by decide) (fun c17 => ?_) (fun c17 => ?_)
      · obtain ⟨j, -, hj3, rfl⟩ := inB_of (by decide) c5.1 (by decide)
        obtain ⟨ln, -, hl3, rfl⟩ := inB_of (by decide) c5.2 (by decide)
        have hj : j < 4 := by omega
        obtain ⟨n, hn, rfl⟩ := nI_of24 c17 c11
        refine z_aload0 C dX8_sheet_23 ?_
        refine z_get C dX8_sheet_24 fl_X8_sheet_23 (k_Model _) rfl ?_
        refine z_iload1 C dX8_sheet_27 ?_
        refine z_iload2 C dX8_sheet_28 ?_
        refine z_iast C dX8_sheet_29 (k_i183 _) (by omega) ?_
        refine z_aload0 C dX8_sheet_30 ?_
        refine z_get C dX8_sheet_31 fl_X8_sheet_20 (k_Model _) rfl ?_
        refine z_iload1 C dX8_sheet_34 ?_
        refine z_iload3 C dX8_sheet_35 ?_
        refine z_iast C dX8_sheet_36 (k_i182 _) (by omega) ?_
        refine z_iconstN 0 C dX8_sheet_37 ?_
        refine z_istore4 C dX8_sheet_38 nl_i ?_
        refine lp_X8_sheet hj C 24 0 _ (by omega) ⟨rfl, fun _ _ => rfl, fun k hk => absurd hk (by omega), fun _ _ => rfl⟩ (fun U u1 u2 u3 u4 => ?_)
        obtain ⟨w1, w2⟩ := QM_hold hj hQ u1 u2 u3 u4
        refine z_iload3 C dX8_sheet_66 ?_
        exact z_iretP C dX8_sheet_67 hr rfl ⟨by rw [aSheet_y hj3 hl3 hn], by rw [aSheet_y hj3 hl3 hn]; exact w1, w2⟩
      · refine z_bipush (v := (-14)) C dX8_sheet_20 (by decide) ?_
        exact z_iretP C dX8_sheet_22 hr rfl ⟨by rw [aSheet_s c5 c11 c17], by rw [aSheet_s c5 c11 c17]; exact hQ, FrQm.rf⟩
    · refine z_iconst (v := (-1)) C dX8_sheet_14 (by decide) ?_
      exact z_iretP C dX8_sheet_15 hr rfl ⟨by rw [aSheet_n (by rintro ⟨h1, h2⟩; contradiction)], by rw [aSheet_n (by rintro ⟨h1, h2⟩; contradiction)]; exact hQ, FrQm.rf⟩
