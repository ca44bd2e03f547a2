set_option maxRecDepth 20000 in
theorem fl_X7_mark_10 : FL RX7 wsX7_mark 10 7 0 := ⟨RX7, TX7, 12, rfl, (fun w h => List.mem_cons_of_mem _ (List.mem_append_left _ (List.mem_append_left _ (List.mem_append_right _ h)))), by decide, by decide +kernel⟩
set_option maxRecDepth 20000 in
theorem fl_X7_mark_75 : FL RX7 wsX7_mark 75 2 0 := ⟨RX2, TX2, 12, rfl, (fun w h => List.mem_cons_of_mem _ (List.mem_append_left _ (List.mem_append_right _ h))), by decide, by decide +kernel⟩
set_option maxRecDepth 20000 in
theorem fl_X7_mark_19 : FL RX7 wsX7_mark 19 7 1 := ⟨RX7, TX7, 12, rfl, (fun w h => List.mem_cons_of_mem _ (List.mem_append_left _ (List.mem_append_left _ (List.mem_append_right _ h)))), by decide, by decide +kernel⟩
theorem md_X0_forget : MD yX0_forget wsX0_forget 0 1 none := ⟨_, _, rfl, by decide, by decide +kernel, by decide +kernel, by decide +kernel⟩
theorem md_X2_addMark : MD yX2_addMark wsX2_addMark 3 5 (some .int) := ⟨_, _, rfl, by decide, by decide +kernel, by decide +kernel, by decide +kernel⟩
set_option maxHeartbeats 4000000 in
set_option maxRecDepth 100000 in
theorem c_X7_mark {l : Launch} {Y : LY} {S : GS} {b : B3} (hI : IC S b) (hO : OkB b) {x y z : Int32} : CtP l yX7_mark wsX7_mark 4 Y [.ref (ad Y 0), .int x, .int y, .int z] S (fun r u => r = (aMark b x y z).1 ∧ IC u (aMark b x y z).2 ∧ Fr clN S u) := by
  refine mkP (cc := cX7_mark) (maxL := 4) rfl rfl (Nat.le_of_ble_eq_true rfl) ?_
  intro X hl hY C hr
  subst hl
  subst hY
  obtain ⟨hC, hk8, od, hod, k1, k2, k3⟩ := id hI
  obtain ⟨ok1, ok2, ok3, ok4, ok5⟩ := id hO
  obtain ⟨w1, w2⟩ := IC_keep hod hk8 k1 k2 k3 hC ok1
  have hM : S.1 26 0 = nI (b.1 0 0) := hC.1 0 (by decide)
  have hK : S.1 26 1 = nI (b.1 0 1) := hC.1 1 (by decide)
  have o1 := ok1.1
  have o2 := ok1.2.1
  have f1 : Fr (fun o => o = 22) S (stI S 22 2 (nI 0)) := ⟨fun o q => stI_no q, rfl⟩
  have hC2 : HC (stI S 22 2 (nI 0)) 26 b.1 := HC_fr hC f1 (fun o q1 q2 q3 => by omega)
  have hK2 : HK (stI S 22 2 (nI 0)) 22 50 b.2.1 0 := ⟨by omega, od, hod, by rw [stI_ni (by decide)]; exact k1, stI_me _ _ _ _, fun j hj => by omega⟩
  have hM2 : (stI S 22 2 (nI 0)).1 26 0 = nI (b.1 0 0) := hC2.1 0 (by decide)
  have hKk2 : (stI S 22 2 (nI 0)).1 26 1 = nI (b.1 0 1) := hC2.1 1 (by decide)
  show Zj X S [some (.ref (ad (xY X) 0)), some (.int x), some (.int y), some (.int z)] 0 []
  refine z_iload1 C dX7_mark_0 ?_
  refine z_iconstN 0 C dX7_mark_1 ?_
  refine z_bipush (v := nI 60) C dX7_mark_2 (by decide) ?_
  refine z_callSI C dX7_mark_4 c_X7_within gX7_mark_X7_within md_X7_within (by decide) rfl rfl (Nat.le_of_ble_eq_true rfl) ?_
  refine z_if_eqB C 30 dX7_mark_7 (by decide) (fun c7 => ?_) (fun c7 => ?_)
  · refine z_iconst (v := (-1)) C dX7_mark_30 (by decide) ?_
    exact z_iretP C dX7_mark_31 hr rfl ⟨by rw [aMark_n (by rintro ⟨h1, h2, h3⟩; contradiction)], by rw [aMark_n (by rintro ⟨h1, h2, h3⟩; contradiction)]; exact hI, Fr.rf⟩
  · refine z_iload2 C dX7_mark_10 ?_
    refine z_iconstN 1 C dX7_mark_11 ?_
    refine z_bipush (v := nI 9) C dX7_mark_12 (by decide) ?_
    refine z_callSI C dX7_mark_14 c_X7_within gX7_mark_X7_within md_X7_within (by decide) rfl rfl (Nat.le_of_ble_eq_true rfl) ?_
    refine z_if_eqB C 30 dX7_mark_17 (by decide) (fun c17 => ?_) (fun c17 => ?_)
    · refine z_iconst (v := (-1)) C dX7_mark_30 (by decide) ?_
      exact z_iretP C dX7_mark_31 hr rfl ⟨by rw [aMark_n (by rintro ⟨h1, h2, h3⟩; contradiction)], by rw [aMark_n (by rintro ⟨h1, h2, h3⟩; contradiction)]; exact hI, Fr.rf⟩
    · refine z_iload3 C dX7_mark_20 ?_
      refine z_iconstN 0 C dX7_mark_21 ?_
      refine z_bipush (v := nI 60) C dX7_mark_22 (by decide) ?_
      refine z_callSI C dX7_mark_24 c_X7_within gX7_mark_X7_within md_X7_within (by decide) rfl rfl (Nat.le_of_ble_eq_true rfl) ?_
      refine z_if_neB C 32 dX7_mark_27 (by decide) (fun c27 => ?_) (fun c27 => ?_)
      · have hpp : mrkP x y z := ⟨c7, c17, c27⟩
        refine z_aload0 C dX7_mark_32 ?_
        refine z_get C dX7_mark_33 fl_X7_mark_10 (k_EM _) rfl ?_
        refine z_get C dX7_mark_36 fl_X7_mark_75 (k_Rock _ isR_now) rfl ?_
        refine z_top C hM ?_
        refine z_bipush (v := nI 6) C dX7_mark_39 (by decide) ?_
        refine z_icmp_ltN C 47 dX7_mark_41 (by decide) (by omega) (by omega) (fun c41 => ?_) (fun c41 => ?_)
        · obtain ⟨x, -, hx, rfl⟩ := inB_of (by decide) c7 (by decide)
          obtain ⟨y, hy1, hy, rfl⟩ := inB_of (by decide) c17 (by decide)
          obtain ⟨z, -, hz, rfl⟩ := inB_of (by decide) c27 (by decide)
          refine z_aload0 C dX7_mark_47 ?_
          refine z_get C dX7_mark_48 fl_X7_mark_19 (k_EM _) rfl ?_
          refine z_callVV C dX7_mark_51 c_X0_forget gX7_mark_X0_forget md_X0_forget rfl (by decide) (k_Known _) rfl rfl rfl (Nat.le_of_ble_eq_true rfl) ?_
          refine z_aload0 C dX7_mark_54 ?_
          refine z_get C dX7_mark_55 fl_X7_mark_10 (k_EM _) rfl ?_
          refine z_iload1 C dX7_mark_58 ?_
          refine z_iload2 C dX7_mark_59 ?_
          refine z_iload3 C dX7_mark_60 ?_
          refine z_callVI C dX7_mark_61 (c_X2_addMark isR_now (by omega) hM2) gX7_mark_X2_addMark md_X2_addMark rfl (by decide) (k_Rock _ isR_now) rfl rfl rfl (Nat.le_of_ble_eq_true rfl) ?_
          exact z_iretP C dX7_mark_64 hr rfl ⟨by rw [aMark_y hpp hx hy hz (by omega)]; try rfl, by rw [aMark_y hpp hx hy hz (by omega)]; exact ⟨HC_AM hC2, HK_fr hK2 cAM_fr (by omega) (fun o q1 q2 q3 => by omega)⟩, (f1.mono (fun o q => by omega)).tr (cAM_fr.mono (fun o q => by omega))⟩
        · refine z_bipush (v := (-3)) C dX7_mark_44 (by decide) ?_
          exact z_iretP C dX7_mark_46 hr rfl ⟨by rw [aMark_f hpp (by omega)], by rw [aMark_f hpp (by omega)]; exact hI, Fr.rf⟩
      · refine z_iconst (v := (-1)) C dX7_mark_30 (by decide) ?_
        exact z_iretP C dX7_mark_31 hr rfl ⟨by rw [aMark_n (by rintro ⟨h1, h2, h3⟩; contradiction)], by rw [aMark_n (by rintro ⟨h1, h2, h3⟩; contradiction)]; exact hI, Fr.rf⟩

set_option maxRecDepth 20000 in
theorem fl_X7_monk_10 : FL RX7 wsX7_monk 10 7 0 := ⟨RX7, TX7, 12, rfl, (fun w h => List.mem_cons_of_mem _ (List.mem_append_left _ (List.mem_append_left _ (List.mem_append_right _ h)))), by decide, by decide +kernel⟩
set_option maxRecDepth 20000 in
theorem fl_X7_monk_86 : FL RX7 wsX7_monk 86 2 1 := ⟨RX2, TX2, 12, rfl, (fun w h => List.mem_cons_of_mem _ (List.mem_append_left _ (List.mem_append_right _ h))), by decide, by decide +kernel⟩
set_option maxRecDepth 20000 in
theorem fl_X7_monk_19 : FL RX7 wsX7_monk 19 7 1 := ⟨RX7, TX7, 12, rfl, (fun w h => List.mem_cons_of_mem _ (List.mem_append_left _ (List.mem_append_left _ (List.mem_append_right _ h)))), by decide, by decide +kernel⟩
theorem md_X2_addMonk : MD yX2_addMonk wsX2_addMonk 3 5 (some .int) := ⟨_, _, rfl, by decide, by decide +kernel, by decide +kernel, by decide +kernel⟩
set_option maxHeartbeats 4000000 in
set_option maxRecDepth 100000 in
theorem c_X7_monk {l : Launch} {Y : LY} {S : GS} {b : B3} (hI : IC S b) (hO : OkB b) {x y : Int32} : CtP l yX7_monk wsX7_monk 4 Y [.ref (ad Y 0), .int x, .int y] S (fun r u => r = (aMonk b x y).1 ∧ IC u (aMonk b x y).2 ∧ Fr clN S u) := by
  refine mkP (cc := cX7_monk) (maxL := 3) rfl rfl (Nat.le_of_ble_eq_true rfl) ?_
  intro X hl hY C hr
  subst hl
  subst hY
  obtain ⟨hC, hk8, od, hod, k1, k2, k3⟩ := id hI
  obtain ⟨ok1, ok2, ok3, ok4, ok5⟩ := id hO
  obtain ⟨w1, w2⟩ := IC_keep hod hk8 k1 k2 k3 hC ok1
  have hM : S.1 26 0 = nI (b.1 0 0) := hC.1 0 (by decide)
  have hK : S.1 26 1 = nI (b.1 0 1) := hC.1 1 (by decide)
  have o1 := ok1.1
  have o2 := ok1.2.1
  have f1 : Fr (fun o => o = 22) S (stI S 22 2 (nI 0)) := ⟨fun o q => stI_no q, rfl⟩
  have hC2 : HC (stI S 22 2 (nI 0)) 26 b.1 := HC_fr hC f1 (fun o q1 q2 q3 => by omega)
  have hK2 : HK (stI S 22 2 (nI 0)) 22 50 b.2.1 0 := ⟨by omega, od, hod, by rw [stI_ni (by decide)]; exact k1, stI_me _ _ _ _, fun j hj => by omega⟩
  have hM2 : (stI S 22 2 (nI 0)).1 26 0 = nI (b.1 0 0) := hC2.1 0 (by decide)
  have hKk2 : (stI S 22 2 (nI 0)).1 26 1 = nI (b.1 0 1) := hC2.1 1 (by decide)
  show Zj X S [some (.ref (ad (xY X) 0)), some (.int x), some (.int y)] 0 []
  refine z_iload1 C dX7_monk_0 ?_
  refine z_iconstN 0 C dX7_monk_1 ?_
  refine z_iconstN 4 C dX7_monk_2 ?_
  refine z_callSI C dX7_monk_3 c_X7_within gX7_monk_X7_within md_X7_within (by decide) rfl rfl (Nat.le_of_ble_eq_true rfl) ?_
  refine z_if_eqB C 19 dX7_monk_6 (by decide) (fun c6 => ?_) (fun c6 => ?_)
  · refine z_iconst (v := (-1)) C dX7_monk_19 (by decide) ?_
    exact z_iretP C dX7_monk_20 hr rfl ⟨by rw [aMonk_n (by rintro ⟨h1, h2⟩; contradiction)], by rw [aMonk_n (by rintro ⟨h1, h2⟩; contradiction)]; exact hI, Fr.rf⟩
  · refine z_iload2 C dX7_monk_9 ?_
    refine z_iconstN 0 C dX7_monk_10 ?_
    refine z_bipush (v := nI 99) C dX7_monk_11 (by decide) ?_
    refine z_callSI C dX7_monk_13 c_X7_within gX7_monk_X7_within md_X7_within (by decide) rfl rfl (Nat.le_of_ble_eq_true rfl) ?_
    refine z_if_neB C 21 dX7_monk_16 (by decide) (fun c16 => ?_) (fun c16 => ?_)
    · have hpp : inB x 0 4 ∧ inB y 0 99 := ⟨c6, c16⟩
      refine z_aload0 C dX7_monk_21 ?_
      refine z_get C dX7_monk_22 fl_X7_monk_10 (k_EM _) rfl ?_
      refine z_get C dX7_monk_25 fl_X7_monk_86 (k_Rock _ isR_now) rfl ?_
      refine z_top C hK ?_
      refine z_iconstN 5 C dX7_monk_28 ?_
      refine z_icmp_ltN C 35 dX7_monk_29 (by decide) (by omega) (by omega) (fun c29 => ?_) (fun c29 => ?_)
      · obtain ⟨x, -, hx, rfl⟩ := inB_of (by decide) c6 (by decide)
        obtain ⟨y, hy1, hy, rfl⟩ := inB_of (by decide) c16 (by decide)
        refine z_aload0 C dX7_monk_35 ?_
        refine z_get C dX7_monk_36 fl_X7_monk_19 (k_EM _) rfl ?_
        refine z_callVV C dX7_monk_39 c_X0_forget gX7_monk_X0_forget md_X0_forget rfl (by decide) (k_Known _) rfl rfl rfl (Nat.le_of_ble_eq_true rfl) ?_
        refine z_aload0 C dX7_monk_42 ?_
        refine z_get C dX7_monk_43 fl_X7_monk_10 (k_EM _) rfl ?_
        refine z_iload1 C dX7_monk_46 ?_
        refine z_iload2 C dX7_monk_47 ?_
        refine z_bipush (v := (-4)) C dX7_monk_48 (by decide) ?_
        refine z_callVI C dX7_monk_50 (c_X2_addMonk isR_now (by omega) hKk2) gX7_monk_X2_addMonk md_X2_addMonk rfl (by decide) (k_Rock _ isR_now) rfl rfl rfl (Nat.le_of_ble_eq_true rfl) ?_
        exact z_iretP C dX7_monk_53 hr rfl ⟨by rw [aMonk_y hpp hx hy (by omega)]; try rfl, by rw [aMonk_y hpp hx hy (by omega)]; exact ⟨HC_AK (z := 0) hC2, HK_fr hK2 cAK_fr (by omega) (fun o q1 q2 q3 => by omega)⟩, (f1.mono (fun o q => by omega)).tr (cAK_fr.mono (fun o q => by omega))⟩
      · refine z_bipush (v := (-3)) C dX7_monk_32 (by decide) ?_
        exact z_iretP C dX7_monk_34 hr rfl ⟨by rw [aMonk_f hpp (by omega)], by rw [aMonk_f hpp (by omega)]; exact hI, Fr.rf⟩
    · refine z_iconst (v := (-1)) C dX7_monk_19 (by decide) ?_
      exact z_iretP C dX7_monk_20 hr rfl ⟨by rw [aMonk_n (by rintro ⟨h1, h2⟩; contradiction)], by rw [aMonk_n (by rintro ⟨h1, h2⟩; contradiction)]; exact hI, Fr.rf⟩

set_option maxRecDepth 20000 in
theorem fl_X8_addsMark_7 : FL RX8 wsX8_addsMark 7 8 0 := ⟨RX8, TX8, 15, rfl, (fun w h => List.mem_cons_of_mem _ (List.mem_append_right _ h)), by decide, by decide +kernel⟩
set_option maxHeartbeats 4000000 in
set_option maxRecDepth 100000 in
theorem c_X8_addsMark {l : Launch} {Y : LY} {S : GS} {r n : Nat} {x y z : Int32} (hr0 : r ≤ 630) (hn : n < 6) (hM : S.1 179 (r + 0) = nI n) : CtV l yX8_addsMark wsX8_addsMark 1 Y [.ref (ad Y 178), .int (nI r), .int x, .int y, .int z] S (mAM S r n x y z) := by
  refine mkV (cc := cX8_addsMark) (maxL := 6) rfl rfl (Nat.le_of_ble_eq_true rfl) ?_
  intro X hl hY C hr
  subst hl
  subst hY
  show Zj X S [some (.ref (ad (xY X) 178)), some (.int (nI r)), some (.int x), some (.int y), some (.int z), none] 0 []
  refine z_aload0 C dX8_addsMark_0 ?_
  refine z_get C dX8_addsMark_1 fl_X8_addsMark_7 (k_Model _) rfl ?_
  refine z_iload1 C dX8_addsMark_4 ?_
  refine z_iconstN 0 C dX8_addsMark_5 ?_
  refine z_iaddN C dX8_addsMark_6 ?_
  refine z_iald C dX8_addsMark_7 (k_i179 _) (by omega) ?_
  refine z_top C hM ?_
  refine z_istore5 C dX8_addsMark_8 nl_i ?_
  refine z_aload0 C dX8_addsMark_10 ?_
  refine z_get C dX8_addsMark_11 fl_X8_addsMark_7 (k_Model _) rfl ?_
  refine z_iload1 C dX8_addsMark_14 ?_
  refine z_iconstN 5 C dX8_addsMark_15 ?_
  refine z_iaddN C dX8_addsMark_16 ?_
  refine z_iload5 C dX8_addsMark_17 ?_
  refine z_iaddN C dX8_addsMark_19 ?_
  refine z_iload2 C dX8_addsMark_20 ?_
  refine z_iast C dX8_addsMark_21 (k_i179 _) (by omega) ?_
  refine z_aload0 C dX8_addsMark_22 ?_
  refine z_get C dX8_addsMark_23 fl_X8_addsMark_7 (k_Model _) rfl ?_
  refine z_iload1 C dX8_addsMark_26 ?_
  refine z_bipush (v := nI 33) C dX8_addsMark_27 (by decide) ?_
  refine z_iaddN C dX8_addsMark_29 ?_
  refine z_iload5 C dX8_addsMark_30 ?_
  refine z_iaddN C dX8_addsMark_32 ?_
  refine z_iload3 C dX8_addsMark_33 ?_
  refine z_iast C dX8_addsMark_34 (k_i179 _) (by omega) ?_
  refine z_aload0 C dX8_addsMark_35 ?_
  refine z_get C dX8_addsMark_36 fl_X8_addsMark_7 (k_Model _) rfl ?_
  refine z_iload1 C dX8_addsMark_39 ?_
  refine z_bipush (v := nI 11) C dX8_addsMark_40 (by decide) ?_
  refine z_iaddN C dX8_addsMark_42 ?_
  refine z_iload5 C dX8_addsMark_43 ?_
  refine z_iaddN C dX8_addsMark_45 ?_
  refine z_iload4 C dX8_addsMark_46 ?_
  refine z_iast C dX8_addsMark_48 (k_i179 _) (by omega) ?_
  refine z_aload0 C dX8_addsMark_49 ?_
  refine z_get C dX8_addsMark_50 fl_X8_addsMark_7 (k_Model _) rfl ?_
  refine z_iload1 C dX8_addsMark_53 ?_
  refine z_bipush (v := nI 17) C dX8_addsMark_54 (by decide) ?_
  refine z_iaddN C dX8_addsMark_56 ?_
  refine z_iload5 C dX8_addsMark_57 ?_
  refine z_iaddN C dX8_addsMark_59 ?_
  refine z_iconstN 0 C dX8_addsMark_60 ?_
  refine z_iast C dX8_addsMark_61 (k_i179 _) (by omega) ?_
  refine z_aload0 C dX8_addsMark_62 ?_
  refine z_get C dX8_addsMark_63 fl_X8_addsMark_7 (k_Model _) rfl ?_
  refine z_iload1 C dX8_addsMark_66 ?_
  refine z_iconstN 0 C dX8_addsMark_67 ?_
  refine z_iaddN C dX8_addsMark_68 ?_
  refine z_dup2 C dX8_addsMark_69 rfl rfl ?_
  refine z_iald C dX8_addsMark_70 (k_i179 _) (by omega) ?_
  refine z_top C (show _ = nI n by rw [stI_ni (by omega), stI_ni (by omega), stI_ni (by omega), stI_ni (by omega)]; exact hM) ?_
  refine z_iconstN 1 C dX8_addsMark_71 ?_
  refine z_iaddN C dX8_addsMark_72 ?_
  refine z_iast C dX8_addsMark_73 (k_i179 _) (by omega) ?_
  exact z_vret C dX8_addsMark_74 hr rfl

set_option maxRecDepth 20000 in
theorem fl_X8_addsMonk_7 : FL RX8 wsX8_addsMonk 7 8 0 := ⟨RX8, TX8, 15, rfl, (fun w h => List.mem_cons_of_mem _ (List.mem_append_right _ h)), by decide, by decide +kernel⟩
set_option maxHeartbeats 4000000 in
set_option maxRecDepth 100000 in
theorem c_X8_addsMonk {l : Launch} {Y : LY} {S : GS} {r n : Nat} {x y z : Int32} (hr0 : r ≤ 630) (hn : n < 5) (hK : S.1 179 (r + 1) = nI n) : CtV l yX8_addsMonk wsX8_addsMonk 1 Y [.ref (ad Y 178), .int (nI r), .int x, .int y, .int z] S (mAK S r n x y z) := by
  refine mkV (cc := cX8_addsMonk) (maxL := 6) rfl rfl (Nat.le_of_ble_eq_true rfl) ?_
  intro X hl hY C hr
  subst hl
  subst hY
  show Zj X S [some (.ref (ad (xY X) 178)), some (.int (nI r)), some (.int x), some (.int y), some (.int z), none] 0 []
  refine z_aload0 C dX8_addsMonk_0 ?_
  refine z_get C dX8_addsMonk_1 fl_X8_addsMonk_7 (k_Model _) rfl ?_
  refine z_iload1 C dX8_addsMonk_4 ?_
  refine z_iconstN 1 C dX8_addsMonk_5 ?_
  refine z_iaddN C dX8_addsMonk_6 ?_
  refine z_iald C dX8_addsMonk_7 (k_i179 _) (by omega) ?_
  refine z_top C hK ?_
  refine z_istore5 C dX8_addsMonk_8 nl_i ?_
  refine z_aload0 C dX8_addsMonk_10 ?_
  refine z_get C dX8_addsMonk_11 fl_X8_addsMonk_7 (k_Model _) rfl ?_
  refine z_iload1 C dX8_addsMonk_14 ?_
  refine z_bipush (v := nI 39) C dX8_addsMonk_15 (by decide) ?_
  refine z_iaddN C dX8_addsMonk_17 ?_
  refine z_iload5 C dX8_addsMonk_18 ?_
  refine z_iaddN C dX8_addsMonk_20 ?_
  refine z_iload2 C dX8_addsMonk_21 ?_
  refine z_iast C dX8_addsMonk_22 (k_i179 _) (by omega) ?_
  refine z_aload0 C dX8_addsMonk_23 ?_
  refine z_get C dX8_addsMonk_24 fl_X8_addsMonk_7 (k_Model _) rfl ?_
  refine z_iload1 C dX8_addsMonk_27 ?_
  refine z_bipush (v := nI 23) C dX8_addsMonk_28 (by decide) ?_
  refine z_iaddN C dX8_addsMonk_30 ?_
  refine z_iload5 C dX8_addsMonk_31 ?_
  refine z_iaddN C dX8_addsMonk_33 ?_
  refine z_iload3 C dX8_addsMonk_34 ?_
  refine z_iast C dX8_addsMonk_35 (k_i179 _) (by omega) ?_
  refine z_aload0 C dX8_addsMonk_36 ?_
  refine z_get C dX8_addsMonk_37 fl_X8_addsMonk_7 (k_Model _) rfl ?_
  refine z_iload1 C dX8_addsMonk_40 ?_
  refine z_bipush (v := nI 28) C dX8_addsMonk_41 (by decide) ?_
  refine z_iaddN C dX8_addsMonk_43 ?_
  refine z_iload5 C dX8_addsMonk_44 ?_
  refine z_iaddN C dX8_addsMonk_46 ?_
  refine z_iload4 C dX8_addsMonk_47 ?_
  refine z_iast C dX8_addsMonk_49 (k_i179 _) (by omega) ?_
  refine z_aload0 C dX8_addsMonk_50 ?_
  refine z_get C dX8_addsMonk_51 fl_X8_addsMonk_7 (k_Model _) rfl ?_
  refine z_iload1 C dX8_addsMonk_54 ?_
  refine z_iconstN 1 C dX8_addsMonk_55 ?_
  refine z_iaddN C dX8_addsMonk_56 ?_
  refine z_dup2 C dX8_addsMonk_57 rfl rfl ?_
  refine z_iald C dX8_addsMonk_58 (k_i179 _) (by omega) ?_
  refine z_top C (show _ = nI n by rw [stI_ni (by omega), stI_ni (by omega), stI_ni (by omega)]; exact hK) ?_
  refine z_iconstN 1 C dX8_addsMonk_59 ?_
  refine z_iaddN C dX8_addsMonk_60 ?_
  refine z_iast C dX8_addsMonk_61 (k_i179 _) (by omega) ?_
  exact z_vret C dX8_addsMonk_62 hr rfl

theorem kl_X8_mark_48 : Cond.constantLong RX8 48 (60) ∈ wsX8_mark := by decide +kernel
theorem kl_X8_mark_50 : Cond.constantLong RX8 50 (9) ∈ wsX8_mark := by decide +kernel
set_option maxRecDepth 20000 in
theorem fl_X8_mark_7 : FL RX8 wsX8_mark 7 8 0 := ⟨RX8, TX8, 15, rfl, (fun w h => List.mem_cons_of_mem _ (List.mem_append_right _ h)), by decide, by decide +kernel⟩
theorem md_X8_addsMark : MD yX8_addsMark wsX8_addsMark 4 6 none := ⟨_, _, rfl, by decide, by decide +kernel, by decide +kernel, by decide +kernel⟩
set_option maxHeartbeats 4000000 in
set_option maxRecDepth 100000 in
theorem c_X8_mark {l : Launch} {Y : LY} {S : GS} {b : B3} (hI : IM S b) (hO : OkB b) {x y z : Int32} : CtP l yX8_mark wsX8_mark 3 Y [.ref (ad Y 178), .int x, .int y, .int z] S (fun r u => r = (aMark b x y z).1 ∧ IM u (aMark b x y z).2 ∧ FrN S u) := by
  refine mkP (cc := cX8_mark) (maxL := 4) rfl rfl (Nat.le_of_ble_eq_true rfl) ?_
  intro X hl hY C hr
  subst hl
  subst hY
  obtain ⟨ok1, ok2, ok3, ok4, ok5⟩ := id hO
  obtain ⟨w1, w2, w3⟩ := IM_minds hI hO
  have p2 := OkB_push hO
  have hM : S.1 179 0 = nI (b.1 0 0) := hI.1.1.1
  have hK : S.1 179 1 = nI (b.1 0 1) := hI.1.1.2.1
  have ho := ok1
  have o1 := ok1.1
  have o2 := ok1.2.1
  show Zj X S [some (.ref (ad (xY X) 178)), some (.int x), some (.int y), some (.int z)] 0 []
  refine z_iload1 C dX8_mark_0 ?_
  refine z_i2l C dX8_mark_1 ?_
  refine z_lconst (v := 0) C dX8_mark_2 rfl ?_
  refine z_topl (y := (nI 0).toInt64) C (by decide) ?_
  refine z_ldc2 (v := 60) C dX8_mark_3 kl_X8_mark_48 ?_
  refine z_topl (y := (nI 60).toInt64) C (by decide) ?_
  refine z_callSI C dX8_mark_6 c_X8_in gX8_mark_X8_in md_X8_in (by decide) rfl rfl (Nat.le_of_ble_eq_true rfl) ?_
  refine z_if_eqB C 36 dX8_mark_9 (by decide) (fun c9 => ?_) (fun c9 => ?_)
  · refine z_iconst (v := (-1)) C dX8_mark_36 (by decide) ?_
    exact z_iretP C dX8_mark_37 hr rfl ⟨by rw [aMark_n (by rintro ⟨h1, h2, h3⟩; contradiction)], by rw [aMark_n (by rintro ⟨h1, h2, h3⟩; contradiction)]; exact hI, FrN.rf⟩
  · refine z_iload2 C dX8_mark_12 ?_
    refine z_i2l C dX8_mark_13 ?_
    refine z_lconst (v := 1) C dX8_mark_14 rfl ?_
    refine z_topl (y := (nI 1).toInt64) C (by decide) ?_
    refine z_ldc2 (v := 9) C dX8_mark_15 kl_X8_mark_50 ?_
    refine z_topl (y := (nI 9).toInt64) C (by decide) ?_
    refine z_callSI C dX8_mark_18 c_X8_in gX8_mark_X8_in md_X8_in (by decide) rfl rfl (Nat.le_of_ble_eq_true rfl) ?_
    refine z_if_eqB C 36 dX8_mark_21 (by decide) (fun c21 => ?_) (fun c21 => ?_)
    · refine z_iconst (v := (-1)) C dX8_mark_36 (by decide) ?_
      exact z_iretP C dX8_mark_37 hr rfl ⟨by rw [aMark_n (by rintro ⟨h1, h2, h3⟩; contradiction)], by rw [aMark_n (by rintro ⟨h1, h2, h3⟩; contradiction)]; exact hI, FrN.rf⟩
    · refine z_iload3 C dX8_mark_24 ?_
      refine z_i2l C dX8_mark_25 ?_
      refine z_lconst (v := 0) C dX8_mark_26 rfl ?_
      refine z_topl (y := (nI 0).toInt64) C (by decide) ?_
      refine z_ldc2 (v := 60) C dX8_mark_27 kl_X8_mark_48 ?_
      refine z_topl (y := (nI 60).toInt64) C (by decide) ?_
      refine z_callSI C dX8_mark_30 c_X8_in gX8_mark_X8_in md_X8_in (by decide) rfl rfl (Nat.le_of_ble_eq_true rfl) ?_
      refine z_if_neB C 38 dX8_mark_33 (by decide) (fun c33 => ?_) (fun c33 => ?_)
      · have hpp : mrkP x y z := ⟨c9, c21, c33⟩
        refine z_aload0 C dX8_mark_38 ?_
        refine z_get C dX8_mark_39 fl_X8_mark_7 (k_Model _) rfl ?_
        refine z_iconstN 0 C dX8_mark_42 ?_
        refine z_iald C dX8_mark_43 (k_i179 _) (by omega) ?_
        refine z_top C hM ?_
        refine z_bipush (v := nI 6) C dX8_mark_44 (by decide) ?_
        refine z_icmp_neN C 52 dX8_mark_46 (by decide) (by omega) (by omega) (fun c46 => ?_) (fun c46 => ?_)
        · obtain ⟨x, -, hx, rfl⟩ := inB_of (by decide) c9 (by decide)
          obtain ⟨y, hy1, hy, rfl⟩ := inB_of (by decide) c21 (by decide)
          obtain ⟨z, -, hz, rfl⟩ := inB_of (by decide) c33 (by decide)
          refine z_aload0 C dX8_mark_52 ?_
          refine z_iconstN 0 C dX8_mark_53 ?_
          refine z_iload1 C dX8_mark_54 ?_
          refine z_iload2 C dX8_mark_55 ?_
          refine z_iload3 C dX8_mark_56 ?_
          refine z_callVV C dX8_mark_57 (c_X8_addsMark (r := 0) (by decide) (by omega) hM) gX8_mark_X8_addsMark md_X8_addsMark rfl (by decide) (k_Model _) rfl rfl rfl (Nat.le_of_ble_eq_true rfl) ?_
          refine z_aload0 C dX8_mark_60 ?_
          refine z_get C dX8_mark_61 fl_X8_mark_7 (k_Model _) rfl ?_
          refine z_bipush (v := nI 44) C dX8_mark_64 (by decide) ?_
          refine z_iconstN 0 C dX8_mark_66 ?_
          refine z_iast C dX8_mark_67 (k_i179 _) (by omega) ?_
          refine z_aload0 C dX8_mark_68 ?_
          refine z_get C dX8_mark_69 fl_X8_mark_7 (k_Model _) rfl ?_
          refine z_iconstN 0 C dX8_mark_72 ?_
          refine z_iald C dX8_mark_73 (k_i179 _) (by omega) ?_
          refine z_top C (show _ = nI (b.1 0 0 + 1) by rw [stI_ni (by decide)]; exact stI_me _ _ _ _) ?_
          refine z_iconstN 1 C dX8_mark_74 ?_
          refine z_isubN C dX8_mark_75 (by omega) ?_
          exact z_iretP C dX8_mark_76 hr rfl ⟨by rw [aMark_y hpp hx hy hz (by omega)]; try rfl, by rw [aMark_y hpp hx hy hz (by omega)]; exact ⟨HW_of (HW_AM ok1 (by omega) hI.1) (Ok_AM ok1 (by omega) hx hy1 hy hz) (fun i q1 q2 => stI_ni (by omega)), by show 0 ≤ 8; omega, stI_me _ _ _ _, fun j (hj : j < 0) => by omega⟩, FrN.of (mAM_fr.tr Fr.M) (fun i q1 q2 => by rw [stI_ni (by omega)]; exact mAM_far (by omega) (by omega))⟩
        · refine z_bipush (v := (-3)) C dX8_mark_49 (by decide) ?_
          exact z_iretP C dX8_mark_51 hr rfl ⟨by rw [aMark_f hpp (by omega)], by rw [aMark_f hpp (by omega)]; exact hI, FrN.rf⟩
      · refine z_iconst (v := (-1)) C dX8_mark_36 (by decide) ?_
        exact z_iretP C dX8_mark_37 hr rfl ⟨by rw [aMark_n (by rintro ⟨h1, h2, h3⟩; contradiction)], by rw [aMark_n (by rintro ⟨h1, h2, h3⟩; contradiction)]; exact hI, FrN.rf⟩

theorem kl_X8_monk_56 : Cond.constantLong RX8 56 (4) ∈ wsX8_monk := by decide +kernel
theorem kl_X8_monk_58 : Cond.constantLong RX8 58 (99) ∈ wsX8_monk := by decide +kernel
set_option maxRecDepth 20000 in
theorem fl_X8_monk_7 : FL RX8 wsX8_monk 7 8 0 := ⟨RX8, TX8, 15, rfl, (fun w h => List.mem_cons_of_mem _ (List.mem_append_right _ h)), by decide, by decide +kernel⟩
theorem md_X8_addsMonk : MD yX8_addsMonk wsX8_addsMonk 4 6 none := ⟨_, _, rfl, by decide, by decide +kernel, by decide +kernel, by decide +kernel⟩
set_option maxHeartbeats 4000000 in
set_option maxRecDepth 100000 in
theorem c_X8_monk {l : Launch} {Y : LY} {S : GS} {b : B3} (hI : IM S b) (hO : OkB b) {x y : Int32} : CtP l yX8_monk wsX8_monk 3 Y [.ref (ad Y 178), .int x, .int y] S (fun r u => r = (aMonk b x y).1 ∧ IM u (aMonk b x y).2 ∧ FrN S u) := by
  refine mkP (cc := cX8_monk) (maxL := 3) rfl rfl (Nat.le_of_ble_eq_true rfl) ?_
  intro X hl hY C hr
  subst hl
  subst hY
  obtain ⟨ok1, ok2, ok3, ok4, ok5⟩ := id hO
  obtain ⟨w1, w2, w3⟩ := IM_minds hI hO
  have p2 := OkB_push hO
  have hM : S.1 179 0 = nI (b.1 0 0) := hI.1.1.1
  have hK : S.1 179 1 = nI (b.1 0 1) := hI.1.1.2.1
  have ho := ok1
  have o1 := ok1.1
  have o2 := ok1.2.1
  show Zj X S [some (.ref (ad (xY X) 178)), some (.int x), some (.int y)] 0 []
  refine z_iload1 C dX8_monk_0 ?_
  refine z_i2l C dX8_monk_1 ?_
  refine z_lconst (v := 0) C dX8_monk_2 rfl ?_
  refine z_topl (y := (nI 0).toInt64) C (by decide) ?_
  refine z_ldc2 (v := 4) C dX8_monk_3 kl_X8_monk_56 ?_
  refine z_topl (y := (nI 4).toInt64) C (by decide) ?_
  refine z_callSI C dX8_monk_6 c_X8_in gX8_monk_X8_in md_X8_in (by decide) rfl rfl (Nat.le_of_ble_eq_true rfl) ?_
  refine z_if_eqB C 24 dX8_monk_9 (by decide) (fun c9 => ?_) (fun c9 => ?_)
  · refine z_iconst (v := (-1)) C dX8_monk_24 (by decide) ?_
    exact z_iretP C dX8_monk_25 hr rfl ⟨by rw [aMonk_n (by rintro ⟨h1, h2⟩; contradiction)], by rw [aMonk_n (by rintro ⟨h1, h2⟩; contradiction)]; exact hI, FrN.rf⟩
  · refine z_iload2 C dX8_monk_12 ?_
    refine z_i2l C dX8_monk_13 ?_
    refine z_lconst (v := 0) C dX8_monk_14 rfl ?_
    refine z_topl (y := (nI 0).toInt64) C (by decide) ?_
    refine z_ldc2 (v := 99) C dX8_monk_15 kl_X8_monk_58 ?_
    refine z_topl (y := (nI 99).toInt64) C (by decide) ?_
    refine z_callSI C dX8_monk_18 c_X8_in gX8_monk_X8_in md_X8_in (by decide) rfl rfl (Nat.le_of_ble_eq_true rfl) ?_
    refine z_if_neB C 26 dX8_monk_21 (by decide) (fun c21 => ?_) (fun c21 => ?_)
    · have hpp : inB x 0 4 ∧ inB y 0 99 := ⟨c9, c21⟩
      refine z_aload0 C dX8_monk_26 ?_
      refine z_get C dX8_monk_27 fl_X8_monk_7 (k_Model _) rfl ?_
      refine z_iconstN 1 C dX8_monk_30 ?_
      refine z_iald C dX8_monk_31 (k_i179 _) (by omega) ?_
      refine z_top C hK ?_
      refine z_iconstN 5 C dX8_monk_32 ?_
      refine z_icmp_neN C 39 dX8_monk_33 (by decide) (by omega) (by omega) (fun c33 => ?_) (fun c33 => ?_)
      · obtain ⟨x, -, hx, rfl⟩ := inB_of (by decide) c9 (by decide)
        obtain ⟨y, hy1, hy, rfl⟩ := inB_of (by decide) c21 (by decide)
        refine z_aload0 C dX8_monk_39 ?_
        refine z_iconstN 0 C dX8_monk_40 ?_
        refine z_iload1 C dX8_monk_41 ?_
        refine z_iload2 C dX8_monk_42 ?_
        refine z_bipush (v := (-4)) C dX8_monk_43 (by decide) ?_
        refine z_callVV C dX8_monk_45 (c_X8_addsMonk (r := 0) (by decide) (by omega) hK) gX8_monk_X8_addsMonk md_X8_addsMonk rfl (by decide) (k_Model _) rfl rfl rfl (Nat.le_of_ble_eq_true rfl) ?_
        refine z_aload0 C dX8_monk_48 ?_
        refine z_get C dX8_monk_49 fl_X8_monk_7 (k_Model _) rfl ?_
        refine z_bipush (v := nI 44) C dX8_monk_52 (by decide) ?_
        refine z_iconstN 0 C dX8_monk_54 ?_
        refine z_iast C dX8_monk_55 (k_i179 _) (by omega) ?_
        refine z_aload0 C dX8_monk_56 ?_
        refine z_get C dX8_monk_57 fl_X8_monk_7 (k_Model _) rfl ?_
        refine z_iconstN 1 C dX8_monk_60 ?_
        refine z_iald C dX8_monk_61 (k_i179 _) (by omega) ?_
        refine z_top C (show _ = nI (b.1 0 1 + 1) by rw [stI_ni (by decide)]; exact stI_me _ _ _ _) ?_
        refine z_iconstN 1 C dX8_monk_62 ?_
        refine z_isubN C dX8_monk_63 (by omega) ?_
        exact z_iretP C dX8_monk_64 hr rfl ⟨by rw [aMonk_y hpp hx hy (by omega)]; try rfl, by rw [aMonk_y hpp hx hy (by omega)]; exact ⟨HW_of (HW_AK (z := 0) ok1 (by omega) hI.1) (Ok_AK ok1 (by omega) hx hy (Nat.zero_le _)) (fun i q1 q2 => stI_ni (by omega)), by show 0 ≤ 8; omega, stI_me _ _ _ _, fun j (hj : j < 0) => by omega⟩, FrN.of (mAK_fr.tr Fr.M) (fun i q1 q2 => by rw [stI_ni (by omega)]; exact mAK_far (by omega) (by omega))⟩
      · refine z_bipush (v := (-3)) C dX8_monk_36 (by decide) ?_
        exact z_iretP C dX8_monk_38 hr rfl ⟨by rw [aMonk_f hpp (by omega)], by rw [aMonk_f hpp (by omega)]; exact hI, FrN.rf⟩
    · refine z_iconst (v := (-1)) C dX8_monk_24 (by decide) ?_
      exact z_iretP C dX8_monk_25 hr rfl ⟨by rw [aMonk_n (by rintro ⟨h1, h2⟩; contradiction)], by rw [aMonk_n (by rintro ⟨h1, h2⟩; contradiction)]; exact hI, FrN.rf⟩
