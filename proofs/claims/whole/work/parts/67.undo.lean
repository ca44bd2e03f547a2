set_option maxRecDepth 20000 in
theorem fl_X7_undo_19 : FL RX7 wsX7_undo 19 7 1 := ⟨RX7, TX7, 12, rfl, (fun w h => List.mem_cons_of_mem _ (List.mem_append_left _ (List.mem_append_left _ (List.mem_append_right _ h)))), by decide, by decide +kernel⟩
set_option maxRecDepth 20000 in
theorem fl_X7_undo_166 : FL RX7 wsX7_undo 166 0 2 := ⟨RX0, TX0, 3, rfl, (fun w h => List.mem_cons_of_mem _ (List.mem_append_left _ (List.mem_append_right _ h))), by decide, by decide +kernel⟩
set_option maxRecDepth 20000 in
theorem fl_X7_undo_10 : FL RX7 wsX7_undo 10 7 0 := ⟨RX7, TX7, 12, rfl, (fun w h => List.mem_cons_of_mem _ (List.mem_append_left _ (List.mem_append_left _ (List.mem_append_right _ h)))), by decide, by decide +kernel⟩
theorem md_X0_takeBack : MD yX0_takeBack wsX0_takeBack 1 2 none := ⟨_, _, rfl, by decide, by decide +kernel, by decide +kernel, by decide +kernel⟩
set_option maxHeartbeats 4000000 in
set_option maxRecDepth 100000 in
theorem c_X7_undo {l : Launch} {Y : LY} {S : GS} {b : B3} (hI : IC S b) (hO : OkB b) : CtP l yX7_undo wsX7_undo 5 Y [.ref (ad Y 0)] S (fun r u => r = (aUndo b).1 ∧ IC u (aUndo b).2 ∧ Fr clN S u) := by
  refine mkP (cc := cX7_undo) (maxL := 1) rfl rfl (Nat.le_of_ble_eq_true rfl) ?_
  intro X hl hY C hr
  subst hl
  subst hY
  obtain ⟨hC, hk8, od, hod, k1, k2, k3⟩ := id hI
  obtain ⟨ok1, ok2, ok3, ok4, ok5⟩ := id hO
  obtain ⟨w1, w2⟩ := IC_keep hod hk8 k1 k2 k3 hC ok1
  have hM : S.1 26 0 = nI (b.1 0 0) := hC.1 0 (by decide)
  have hK : S.1 26 1 = nI (b.1 0 1) := hC.1 1 (by decide)
  have o1 := ok1.1
  have o2 := ok1.2.1
  show Zj X S [some (.ref (ad (xY X) 0))] 0 []
  refine z_aload0 C dX7_undo_0 ?_
  refine z_get C dX7_undo_1 fl_X7_undo_19 (k_EM _) rfl ?_
  refine z_get C dX7_undo_4 fl_X7_undo_166 (k_Known _) rfl ?_
  first | refine z_top C k2 ?_ | refine z_top C hl2 ?_
  refine z_iconstN 1 C dX7_undo_7 ?_
  refine z_icmp_geN C 14 dX7_undo_8 (by decide) (by omega) (by omega) (fun c8 => ?_) (fun c8 => ?_)
  · obtain ⟨n, hn⟩ : ∃ n, b.2.2 = n + 1 := ⟨b.2.2 - 1, by omega⟩
    have hl : S.1 22 2 = nI (n + 1) := by rw [k2, hn]
    have hl2 : (cTb S od n).1 22 2 = nI n := by
      unfold cTb
      rw [cBec_fr.1 22 (by omega), stI_me]
    have hkr := cKr_in od n
    have hdis : dis 26 (cKr od n) := Or.inr (by omega)
    have hq : HC (stI S 22 2 (nI n)) (cKr od n) (b.2.1 n) := HC_of (k3 n (by omega)) (fun o q1 q2 => stI_no (by omega))
    have fu : Fr (fun o => o = 22 ∨ (26 ≤ o ∧ o < 34)) S (cTb S od n) := (Fr.I (Or.inl rfl)).tr (cBec_fr.mono (fun o q => Or.inr (by omega)))
    have hic : IC (cTb S od n) (b.2.1 n, b.2.1, n) := by
      refine ⟨HC_bec hdis hq (ok2 n (by omega)).1, by show n ≤ 8; omega, od, hod, ?_, hl2, fun j (hj : j < n) => HC_fr (k3 j (by omega)) fu (fun o q1 q2 q3 => by omega)⟩
      unfold cTb
      rw [cBec_fr.1 22 (by omega), stI_ni (by decide)]
      exact k1
    refine z_aload0 C dX7_undo_14 ?_
    refine z_get C dX7_undo_15 fl_X7_undo_19 (k_EM _) rfl ?_
    refine z_aload0 C dX7_undo_18 ?_
    refine z_get C dX7_undo_19 fl_X7_undo_10 (k_EM _) rfl ?_
    refine z_callVV C dX7_undo_22 (c_X0_takeBack hod (by omega) k1 hl) gX7_undo_X0_takeBack md_X0_takeBack rfl (by decide) (k_Known _) rfl rfl rfl (Nat.le_of_ble_eq_true rfl) ?_
    refine z_aload0 C dX7_undo_25 ?_
    refine z_get C dX7_undo_26 fl_X7_undo_19 (k_EM _) rfl ?_
    refine z_get C dX7_undo_29 fl_X7_undo_166 (k_Known _) rfl ?_
    first | refine z_top C k2 ?_ | refine z_top C hl2 ?_
    exact z_iretP C dX7_undo_32 hr rfl ⟨by rw [aUndo_s hn], by rw [aUndo_s hn]; exact hic, fu.mono (fun o q => by omega)⟩
  · refine z_bipush (v := (-4)) C dX7_undo_11 (by decide) ?_
    exact z_iretP C dX7_undo_13 hr rfl ⟨by rw [aUndo_0 (by omega)], by rw [aUndo_0 (by omega)]; exact hI, Fr.rf⟩

set_option maxRecDepth 20000 in
theorem fl_X8_undo_7 : FL RX8 wsX8_undo 7 8 0 := ⟨RX8, TX8, 15, rfl, (fun w h => List.mem_cons_of_mem _ (List.mem_append_right _ h)), by decide, by decide +kernel⟩
set_option maxHeartbeats 4000000 in
set_option maxRecDepth 100000 in
theorem c_X8_undo {l : Launch} {Y : LY} {S : GS} {b : B3} (hI : IM S b) (hO : OkB b) : CtP l yX8_undo wsX8_undo 4 Y [.ref (ad Y 178)] S (fun r u => r = (aUndo b).1 ∧ IM u (aUndo b).2 ∧ FrN S u) := by
  refine mkP (cc := cX8_undo) (maxL := 1) rfl rfl (Nat.le_of_ble_eq_true rfl) ?_
  intro X hl hY C hr
  subst hl
  subst hY
  obtain ⟨ok1, ok2, ok3, ok4, ok5⟩ := id hO
  show Zj X S [some (.ref (ad (xY X) 178))] 0 []
  refine z_aload0 C dX8_undo_0 ?_
  refine z_get C dX8_undo_1 fl_X8_undo_7 (k_Model _) rfl ?_
  refine z_bipush (v := nI 44) C dX8_undo_4 (by decide) ?_
  refine z_iald C dX8_undo_6 (k_i179 _) (by omega) ?_
  refine z_top C hI.2.2.1 ?_
  refine z_if_neN C 13 dX8_undo_7 (by decide) (by omega) (fun c7 => ?_) (fun c7 => ?_)
  · obtain ⟨n, hn⟩ : ∃ n, b.2.2 = n + 1 := ⟨b.2.2 - 1, by omega⟩
    have hl : S.1 179 44 = nI (n + 1) := by have q := hI.2.2.1; rw [hn] at q; exact q
    have ra : (stI S 179 44 (nI n)).1 179 44 = nI n := stI_me _ _ _ _
    have rb : (mBr (stI S 179 44 (nI n)) (45 + 31 * n) 2 31).1 179 44 = nI n := by rw [mBr_far (by omega), stI_me]
    have hok := ok2 n (by omega)
    have hs := hI.2.2.2 n (by omega)
    have him : IM (mBr (stI S 179 44 (nI n)) (45 + 31 * n) 2 31) (b.2.1 n, b.2.1, n) := by
      refine ⟨HW_back hs hI.1 hok.1 hok.2.1 (fun i hi => ?_) (fun i hi => ?_), by show n ≤ 8; omega, rb, fun j (hj : j < n) => HS_of (hI.2.2.2 j (by omega)) (ok2 j (by omega)).1 (fun i hi => ?_)⟩
      · rw [mBr_in (by omega) hi, stI_ni (by omega)]
        try (congr 1; omega)
      · rw [mBr_far (by omega), stI_ni (by omega)]
      · rw [mBr_far (by omega), stI_ni (by omega)]
    have hfr : FrN S (mBr (stI S 179 44 (nI n)) (45 + 31 * n) 2 31) := FrN.of (Fr.M.tr mBr_fr) (fun i q1 q2 => by rw [mBr_far (by omega), stI_ni (by omega)])
    refine z_aload0 C dX8_undo_13 ?_
    refine z_get C dX8_undo_14 fl_X8_undo_7 (k_Model _) rfl ?_
    refine z_bipush (v := nI 44) C dX8_undo_17 (by decide) ?_
    refine z_dup2 C dX8_undo_19 rfl rfl ?_
    refine z_iald C dX8_undo_20 (k_i179 _) (by omega) ?_
    refine z_top C hl ?_
    refine z_iconstN 1 C dX8_undo_21 ?_
    refine z_isubN C dX8_undo_22 (by omega) ?_
    refine z_iast C dX8_undo_23 (k_i179 _) (by omega) ?_
    refine z_aload0 C dX8_undo_24 ?_
    refine z_bipush (v := nI 45) C dX8_undo_25 (by decide) ?_
    refine z_bipush (v := nI 31) C dX8_undo_27 (by decide) ?_
    refine z_aload0 C dX8_undo_29 ?_
    refine z_get C dX8_undo_30 fl_X8_undo_7 (k_Model _) rfl ?_
    refine z_bipush (v := nI 44) C dX8_undo_33 (by decide) ?_
    refine z_iald C dX8_undo_35 (k_i179 _) (by omega) ?_
    refine z_top C ra ?_
    refine z_imulN C dX8_undo_36 ?_
    refine z_iaddN C dX8_undo_37 ?_
    refine z_iconstN 2 C dX8_undo_38 ?_
    refine z_bipush (v := nI 31) C dX8_undo_39 (by decide) ?_
    refine z_callVV C dX8_undo_41 (c_X8_bring (by omega) (by omega)) gX8_undo_X8_bring md_X8_bring rfl (by decide) (k_Model _) rfl rfl rfl (Nat.le_of_ble_eq_true rfl) ?_
    refine z_aload0 C dX8_undo_44 ?_
    refine z_get C dX8_undo_45 fl_X8_undo_7 (k_Model _) rfl ?_
    refine z_bipush (v := nI 44) C dX8_undo_48 (by decide) ?_
    refine z_iald C dX8_undo_50 (k_i179 _) (by omega) ?_
    refine z_top C rb ?_
    exact z_iretP C dX8_undo_51 hr rfl ⟨by rw [aUndo_s hn], by rw [aUndo_s hn]; exact him, hfr⟩
  · refine z_bipush (v := (-4)) C dX8_undo_10 (by decide) ?_
    exact z_iretP C dX8_undo_12 hr rfl ⟨by rw [aUndo_0 (by omega)], by rw [aUndo_0 (by omega)]; exact hI, FrN.rf⟩

set_option maxRecDepth 20000 in
theorem fl_X7_seed_10 : FL RX7 wsX7_seed 10 7 0 := ⟨RX7, TX7, 12, rfl, (fun w h => List.mem_cons_of_mem _ (List.mem_append_left _ (List.mem_append_right _ h))), by decide, by decide +kernel⟩
set_option maxRecDepth 20000 in
theorem fl_X7_seed_140 : FL RX7 wsX7_seed 140 2 4 := ⟨RX2, TX2, 12, rfl, (fun w h => List.mem_cons_of_mem _ (List.mem_append_right _ h)), by decide, by decide +kernel⟩
theorem fp_X7_seed_140 : FP RX7 wsX7_seed 140 2 4 .int := ⟨fl_X7_seed_140, RX2, TX2, 12, tyX2, rfl, tyX2_ok, nmX2, rfl, by decide +kernel⟩
set_option maxHeartbeats 4000000 in
set_option maxRecDepth 100000 in
theorem c_X7_seed {l : Launch} {Y : LY} {S : GS} {b : B3} (hI : IC S b) (hO : OkB b) {x : Int32} : CtP l yX7_seed wsX7_seed 3 Y [.ref (ad Y 0), .int x] S (fun r u => r = (aSeed b x).1 ∧ IC u (aSeed b x).2 ∧ Fr clN S u) := by
  refine mkP (cc := cX7_seed) (maxL := 3) rfl rfl (Nat.le_of_ble_eq_true rfl) ?_
  intro X hl hY C hr
  subst hl
  subst hY
  obtain ⟨hC, hk8, od, hod, k1, k2, k3⟩ := id hI
  obtain ⟨ok1, ok2, ok3, ok4, ok5⟩ := id hO
  obtain ⟨w1, w2⟩ := IC_keep hod hk8 k1 k2 k3 hC ok1
  have hM : S.1 26 0 = nI (b.1 0 0) := hC.1 0 (by decide)
  have hK : S.1 26 1 = nI (b.1 0 1) := hC.1 1 (by decide)
  have o1 := ok1.1
  have o2 := ok1.2.1
  show Zj X S [some (.ref (ad (xY X) 0)), some (.int x), none] 0 []
  refine z_iload1 C dX7_seed_0 ?_
  refine z_if_ge C 6 dX7_seed_1 (by decide) (fun c1 => ?_) (fun c1 => ?_)
  · obtain ⟨n, hn, rfl⟩ := nI_of (x := x) (fun z => by rw [Int32.lt_iff_toInt_lt] at z; rw [Int32.le_iff_toInt_le] at c1; omega)
    refine z_aload0 C dX7_seed_6 ?_
    refine z_get C dX7_seed_7 fl_X7_seed_10 (k_EM _) rfl ?_
    refine z_get C dX7_seed_10 fl_X7_seed_140 (k_Rock _ isR_now) rfl ?_
    refine z_istore2 C dX7_seed_13 nl_i ?_
    refine z_aload0 C dX7_seed_14 ?_
    refine z_get C dX7_seed_15 fl_X7_seed_10 (k_EM _) rfl ?_
    refine z_iload1 C dX7_seed_18 ?_
    refine z_put C dX7_seed_19 fp_X7_seed_140 (k_Rock _ isR_now) rfl rfl (Nat.le_of_ble_eq_true rfl) rfl ?_
    refine z_iload2 C dX7_seed_22 ?_
    exact z_iretP C dX7_seed_23 hr rfl ⟨by rw [aSeed_y hn]; exact hC.1 4 (by decide), by rw [aSeed_y hn]; exact ⟨HC_set (f := 0) (by decide) rfl (fun _ => by decide) hC, HK_fr hI.2 (Fr.I (P := fun o => o = 26) rfl) (by omega) (fun o q1 q2 q3 => by omega)⟩, Fr.I (by omega)⟩
  · refine z_iconst (v := (-1)) C dX7_seed_4 (by decide) ?_
    exact z_iretP C dX7_seed_5 hr rfl ⟨by rw [aSeed_n (by rw [Int32.lt_iff_toInt_lt]; rw [Int32.le_iff_toInt_le] at c1; omega)], by rw [aSeed_n (by rw [Int32.lt_iff_toInt_lt]; rw [Int32.le_iff_toInt_le] at c1; omega)]; exact hI, Fr.rf⟩

set_option maxRecDepth 20000 in
theorem fl_X8_seed_7 : FL RX8 wsX8_seed 7 8 0 := ⟨RX8, TX8, 15, rfl, (fun w h => List.mem_cons_of_mem _ (List.mem_append_right _ h)), by decide, by decide +kernel⟩
set_option maxHeartbeats 4000000 in
set_option maxRecDepth 100000 in
theorem c_X8_seed {l : Launch} {Y : LY} {S : GS} {b : B3} (hI : IM S b) (hO : OkB b) {x : Int32} : CtP l yX8_seed wsX8_seed 3 Y [.ref (ad Y 178), .int x] S (fun r u => r = (aSeed b x).1 ∧ IM u (aSeed b x).2 ∧ FrN S u) := by
  refine mkP (cc := cX8_seed) (maxL := 3) rfl rfl (Nat.le_of_ble_eq_true rfl) ?_
  intro X hl hY C hr
  subst hl
  subst hY
  show Zj X S [some (.ref (ad (xY X) 178)), some (.int x), none] 0 []
  refine z_iload1 C dX8_seed_0 ?_
  refine z_if_ge C 6 dX8_seed_1 (by decide) (fun c1 => ?_) (fun c1 => ?_)
  · obtain ⟨n, hn, rfl⟩ := nI_of (x := x) (fun z => by rw [Int32.lt_iff_toInt_lt] at z; rw [Int32.le_iff_toInt_le] at c1; omega)
    refine z_aload0 C dX8_seed_6 ?_
    refine z_get C dX8_seed_7 fl_X8_seed_7 (k_Model _) rfl ?_
    refine z_iconstN 3 C dX8_seed_10 ?_
    refine z_iald C dX8_seed_11 (k_i179 _) (by omega) ?_
    refine z_istore2 C dX8_seed_12 nl_i ?_
    refine z_aload0 C dX8_seed_13 ?_
    refine z_get C dX8_seed_14 fl_X8_seed_7 (k_Model _) rfl ?_
    refine z_iconstN 3 C dX8_seed_17 ?_
    refine z_iload1 C dX8_seed_18 ?_
    refine z_iast C dX8_seed_19 (k_i179 _) (by omega) ?_
    refine z_iload2 C dX8_seed_20 ?_
    exact z_iretP C dX8_seed_21 hr rfl ⟨by rw [aSeed_y hn]; exact hI.1.1.2.2.2.1, by rw [aSeed_y hn]; exact ⟨HW_stI (f := 0) (i := 4) hO.1 (Or.inl ⟨rfl, by decide⟩) rfl rfl (fun _ => by decide) hI.1, HU_of hI.2 hO.2.1 (fun i q1 q2 => stI_ni (by omega))⟩, FrN.of Fr.M (fun i q1 q2 => stI_ni (by omega))⟩
  · refine z_iconst (v := (-1)) C dX8_seed_4 (by decide) ?_
    exact z_iretP C dX8_seed_5 hr rfl ⟨by rw [aSeed_n (by rw [Int32.lt_iff_toInt_lt]; rw [Int32.le_iff_toInt_le] at c1; omega)], by rw [aSeed_n (by rw [Int32.lt_iff_toInt_lt]; rw [Int32.le_iff_toInt_le] at c1; omega)]; exact hI, FrN.rf⟩
