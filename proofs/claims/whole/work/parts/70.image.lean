def sumV (V : VR) (f n : Nat) : Int32 := foldN (fun i v => v + nI (V f i)) n 0 (nI 0)
def aCount (b : B3) (y : Int32) : Int32 := if y = nI 0 then nI (b.1 0 0) else if y = nI 1 then nI (b.1 0 1) else if y = nI 2 then nI (b.1 0 2) else if y = nI 3 then nI (b.1 0 3) else if y = nI 4 then goneV b.1 else if y = nI 5 then tornV b.1 else if y = nI 6 then sumV b.1 1 (b.1 0 0) else if y = nI 7 then sumV b.1 6 (b.1 0 1) else if y = nI 8 then nI b.2.2 else -1
theorem sumV_c1 {S : GS} {b : Nat} {V : VR} (h : HC S b V) : foldN (fun i v => v + S.1 (b + 1) i) (V 0 0) 0 (nI 0) = sumV V 1 (V 0 0) := foldN_congr _ _ _ (fun j v _ h2 => by rw [(h.2.1 j (by omega)).1])
theorem sumV_c6 {S : GS} {b : Nat} {V : VR} (h : HC S b V) : foldN (fun i v => v + S.1 (b + 6) i) (V 0 1) 0 (nI 0) = sumV V 6 (V 0 1) := foldN_congr _ _ _ (fun j v _ h2 => by rw [(h.2.2 j (by omega)).2.1])
theorem sumV_m1 {S : GS} {V : VR} (h : HW (S.1 179) 0 V) : foldN (fun i v => v + S.1 179 (5 + i)) (V 0 0) 0 (nI 0) = sumV V 1 (V 0 0) := foldN_congr _ _ _ (fun j v _ h2 => by have q := (h.2.1 j (by omega)).1; rw [Nat.zero_add] at q; rw [q])
theorem sumV_m6 {S : GS} {V : VR} (h : HW (S.1 179) 0 V) : foldN (fun i v => v + S.1 179 (23 + i)) (V 0 1) 0 (nI 0) = sumV V 6 (V 0 1) := foldN_congr _ _ _ (fun j v _ h2 => by have q := (h.2.2 j (by omega)).2.1; rw [Nat.zero_add] at q; rw [q])

set_option maxRecDepth 20000 in
theorem fl_X7_count_10 : FL RX7 wsX7_count 10 7 0 := ⟨RX7, TX7, 12, rfl, (fun w h => List.mem_cons_of_mem _ (List.mem_append_left _ (List.mem_append_left _ (List.mem_append_right _ h)))), by decide, by decide +kernel⟩
set_option maxRecDepth 20000 in
theorem fl_X7_count_75 : FL RX7 wsX7_count 75 2 0 := ⟨RX2, TX2, 12, rfl, (fun w h => List.mem_cons_of_mem _ (List.mem_append_left _ (List.mem_append_right _ h))), by decide, by decide +kernel⟩
set_option maxRecDepth 20000 in
theorem fl_X7_count_86 : FL RX7 wsX7_count 86 2 1 := ⟨RX2, TX2, 12, rfl, (fun w h => List.mem_cons_of_mem _ (List.mem_append_left _ (List.mem_append_right _ h))), by decide, by decide +kernel⟩
set_option maxRecDepth 20000 in
theorem fl_X7_count_147 : FL RX7 wsX7_count 147 2 2 := ⟨RX2, TX2, 12, rfl, (fun w h => List.mem_cons_of_mem _ (List.mem_append_left _ (List.mem_append_right _ h))), by decide, by decide +kernel⟩
set_option maxRecDepth 20000 in
theorem fl_X7_count_150 : FL RX7 wsX7_count 150 2 3 := ⟨RX2, TX2, 12, rfl, (fun w h => List.mem_cons_of_mem _ (List.mem_append_left _ (List.mem_append_right _ h))), by decide, by decide +kernel⟩
theorem md_X2_darkTogether : MD yX2_darkTogether wsX2_darkTogether 0 3 (some .int) := ⟨_, _, rfl, by decide, by decide +kernel, by decide +kernel, by decide +kernel⟩
theorem md_X2_sizeTogether : MD yX2_sizeTogether wsX2_sizeTogether 0 3 (some .int) := ⟨_, _, rfl, by decide, by decide +kernel, by decide +kernel, by decide +kernel⟩
set_option maxRecDepth 20000 in
theorem fl_X7_count_19 : FL RX7 wsX7_count 19 7 1 := ⟨RX7, TX7, 12, rfl, (fun w h => List.mem_cons_of_mem _ (List.mem_append_left _ (List.mem_append_left _ (List.mem_append_right _ h)))), by decide, by decide +kernel⟩
set_option maxRecDepth 20000 in
theorem fl_X7_count_166 : FL RX7 wsX7_count 166 0 2 := ⟨RX0, TX0, 3, rfl, (fun w h => List.mem_cons_of_mem _ (List.mem_append_right _ h)), by decide, by decide +kernel⟩
set_option maxHeartbeats 4000000 in
set_option maxRecDepth 100000 in
theorem c_X7_count {l : Launch} {Y : LY} {S : GS} {b : B3} (hI : IC S b) (hO : OkB b) {y : Int32} : CtP l yX7_count wsX7_count 5 Y [.ref (ad Y 0), .int y] S (fun r u => r = aCount b y ∧ Fr scr S u) := by
  refine mkP (cc := cX7_count) (maxL := 2) rfl rfl (Nat.le_of_ble_eq_true rfl) ?_
  intro X hl hY C hr
  subst hl
  subst hY
  obtain ⟨hC, hk8, od, hod, k1, k2, k3⟩ := id hI
  obtain ⟨ok1, ok2, ok3, ok4, ok5⟩ := id hO
  obtain ⟨w1, w2⟩ := IC_keep hod hk8 k1 k2 k3 hC ok1
  have hM : S.1 26 0 = nI (b.1 0 0) := hC.1 0 (by decide)
  have hK : S.1 26 1 = nI (b.1 0 1) := hC.1 1 (by decide)
  have p1 := ok1.1
  have o2 := ok1.2.1
  show Zj X S [some (.ref (ad (xY X) 0)), some (.int y)] 0 []
  refine z_iload1 C dX7_count_0 ?_
  refine z_name (fun x1 e1 => ?_)
  rcases sw_0_9 x1 with rfl | rfl | rfl | rfl | rfl | rfl | rfl | rfl | rfl | o1
  · refine z_tabIn (off := 51) C 52 dX7_count_1 (by decide) (by decide) (by decide) (by decide) ?_
    refine z_aload0 C dX7_count_52 ?_
    refine z_get C dX7_count_53 fl_X7_count_10 (k_EM _) rfl ?_
    refine z_get C dX7_count_56 fl_X7_count_75 (k_Rock _ isR_now) rfl ?_
    exact z_iretP C dX7_count_59 hr rfl ⟨by subst e1; unfold aCount; rw [if_pos rfl]; exact hM, Fr.rf⟩
  · refine z_tabIn (off := 59) C 60 dX7_count_1 (by decide) (by decide) (by decide) (by decide) ?_
    refine z_aload0 C dX7_count_60 ?_
    refine z_get C dX7_count_61 fl_X7_count_10 (k_EM _) rfl ?_
    refine z_get C dX7_count_64 fl_X7_count_86 (k_Rock _ isR_now) rfl ?_
    exact z_iretP C dX7_count_67 hr rfl ⟨by subst e1; unfold aCount; rw [if_neg (by decide), if_pos rfl]; exact hK, Fr.rf⟩
  · refine z_tabIn (off := 67) C 68 dX7_count_1 (by decide) (by decide) (by decide) (by decide) ?_
    refine z_aload0 C dX7_count_68 ?_
    refine z_get C dX7_count_69 fl_X7_count_10 (k_EM _) rfl ?_
    refine z_get C dX7_count_72 fl_X7_count_147 (k_Rock _ isR_now) rfl ?_
    exact z_iretP C dX7_count_75 hr rfl ⟨by subst e1; unfold aCount; rw [if_neg (by decide), if_neg (by decide), if_pos rfl]; exact hC.1 2 (by decide), Fr.rf⟩
  · refine z_tabIn (off := 75) C 76 dX7_count_1 (by decide) (by decide) (by decide) (by decide) ?_
    refine z_aload0 C dX7_count_76 ?_
    refine z_get C dX7_count_77 fl_X7_count_10 (k_EM _) rfl ?_
    refine z_get C dX7_count_80 fl_X7_count_150 (k_Rock _ isR_now) rfl ?_
    exact z_iretP C dX7_count_83 hr rfl ⟨by subst e1; unfold aCount; rw [if_neg (by decide), if_neg (by decide), if_neg (by decide), if_pos rfl]; exact hC.1 3 (by decide), Fr.rf⟩
  · refine z_tabIn (off := 83) C 84 dX7_count_1 (by decide) (by decide) (by decide) (by decide) ?_
    refine z_aload0 C dX7_count_84 ?_
    refine z_get C dX7_count_85 fl_X7_count_10 (k_EM _) rfl ?_
    refine z_callVI C dX7_count_88 (c_X2_goneSet isR_now p1 hM) gX7_count_X2_goneSet md_X2_goneSet rfl (by decide) (k_Rock _ isR_now) rfl rfl rfl (Nat.le_of_ble_eq_true rfl) ?_
    exact z_iretP C dX7_count_91 hr rfl ⟨by subst e1; unfold aCount; rw [if_neg (by decide), if_neg (by decide), if_neg (by decide), if_neg (by decide), if_pos rfl]; exact goneV_c hC ok1, Fr.rf⟩
  · refine z_tabIn (off := 91) C 92 dX7_count_1 (by decide) (by decide) (by decide) (by decide) ?_
    refine z_aload0 C dX7_count_92 ?_
    refine z_get C dX7_count_93 fl_X7_count_10 (k_EM _) rfl ?_
    refine z_callVI C dX7_count_96 (c_X2_tornSet isR_now p1 hM) gX7_count_X2_tornSet md_X2_tornSet rfl (by decide) (k_Rock _ isR_now) rfl rfl rfl (Nat.le_of_ble_eq_true rfl) ?_
    exact z_iretP C dX7_count_99 hr rfl ⟨by subst e1; unfold aCount; rw [if_neg (by decide), if_neg (by decide), if_neg (by decide), if_neg (by decide), if_neg (by decide), if_pos rfl]; exact tornV_c hC ok1, Fr.rf⟩
  · refine z_tabIn (off := 99) C 100 dX7_count_1 (by decide) (by decide) (by decide) (by decide) ?_
    refine z_aload0 C dX7_count_100 ?_
    refine z_get C dX7_count_101 fl_X7_count_10 (k_EM _) rfl ?_
    refine z_callVI C dX7_count_104 (c_X2_darkTogether isR_now p1 hM) gX7_count_X2_darkTogether md_X2_darkTogether rfl (by decide) (k_Rock _ isR_now) rfl rfl rfl (Nat.le_of_ble_eq_true rfl) ?_
    exact z_iretP C dX7_count_107 hr rfl ⟨by subst e1; unfold aCount; rw [if_neg (by decide), if_neg (by decide), if_neg (by decide), if_neg (by decide), if_neg (by decide), if_neg (by decide), if_pos rfl]; exact sumV_c1 hC, Fr.rf⟩
  · refine z_tabIn (off := 107) C 108 dX7_count_1 (by decide) (by decide) (by decide) (by decide) ?_
    refine z_aload0 C dX7_count_108 ?_
    refine z_get C dX7_count_109 fl_X7_count_10 (k_EM _) rfl ?_
    refine z_callVI C dX7_count_112 (c_X2_sizeTogether isR_now o2 hK) gX7_count_X2_sizeTogether md_X2_sizeTogether rfl (by decide) (k_Rock _ isR_now) rfl rfl rfl (Nat.le_of_ble_eq_true rfl) ?_
    exact z_iretP C dX7_count_115 hr rfl ⟨by subst e1; unfold aCount; rw [if_neg (by decide), if_neg (by decide), if_neg (by decide), if_neg (by decide), if_neg (by decide), if_neg (by decide), if_neg (by decide), if_pos rfl]; exact sumV_c6 hC, Fr.rf⟩
  · refine z_tabIn (off := 115) C 116 dX7_count_1 (by decide) (by decide) (by decide) (by decide) ?_
    refine z_aload0 C dX7_count_116 ?_
    refine z_get C dX7_count_117 fl_X7_count_19 (k_EM _) rfl ?_
    refine z_get C dX7_count_120 fl_X7_count_166 (k_Known _) rfl ?_
    exact z_iretP C dX7_count_123 hr rfl ⟨by subst e1; unfold aCount; rw [if_neg (by decide), if_neg (by decide), if_neg (by decide), if_neg (by decide), if_neg (by decide), if_neg (by decide), if_neg (by decide), if_neg (by decide), if_pos rfl]; exact k2, Fr.rf⟩
  · refine z_tabOut C 124 dX7_count_1 o1 (by decide) ?_
    refine z_iconst (v := (-1)) C dX7_count_124 (by decide) ?_
    exact z_iretP C dX7_count_125 hr rfl ⟨by unfold aCount; rw [if_neg (sw_ne (n := 8) (by rw [← e1]; exact o1) (show 0 ≤ 8 by decide) (by decide)), if_neg (sw_ne (n := 8) (by rw [← e1]; exact o1) (show 1 ≤ 8 by decide) (by decide)), if_neg (sw_ne (n := 8) (by rw [← e1]; exact o1) (show 2 ≤ 8 by decide) (by decide)), if_neg (sw_ne (n := 8) (by rw [← e1]; exact o1) (show 3 ≤ 8 by decide) (by decide)), if_neg (sw_ne (n := 8) (by rw [← e1]; exact o1) (show 4 ≤ 8 by decide) (by decide)), if_neg (sw_ne (n := 8) (by rw [← e1]; exact o1) (show 5 ≤ 8 by decide) (by decide)), if_neg (sw_ne (n := 8) (by rw [← e1]; exact o1) (show 6 ≤ 8 by decide) (by decide)), if_neg (sw_ne (n := 8) (by rw [← e1]; exact o1) (show 7 ≤ 8 by decide) (by decide)), if_neg (sw_ne (n := 8) (by rw [← e1]; exact o1) (show 8 ≤ 8 by decide) (by decide))], Fr.rf⟩

set_option maxRecDepth 20000 in
theorem fl_X8_count_7 : FL RX8 wsX8_count 7 8 0 := ⟨RX8, TX8, 15, rfl, (fun w h => List.mem_cons_of_mem _ (List.mem_append_right _ h)), by decide, by decide +kernel⟩
theorem md_X8_sumOf : MD yX8_sumOf wsX8_sumOf 2 5 (some .int) := ⟨_, _, rfl, by decide, by decide +kernel, by decide +kernel, by decide +kernel⟩
set_option maxHeartbeats 4000000 in
set_option maxRecDepth 100000 in
theorem c_X8_count {l : Launch} {Y : LY} {S : GS} {b : B3} (hI : IM S b) (hO : OkB b) {y : Int32} : CtP l yX8_count wsX8_count 4 Y [.ref (ad Y 178), .int y] S (fun r u => r = aCount b y ∧ FrM S u) := by
  refine mkP (cc := cX8_count) (maxL := 2) rfl rfl (Nat.le_of_ble_eq_true rfl) ?_
  intro X hl hY C hr
  subst hl
  subst hY
  obtain ⟨ok1, ok2, ok3, ok4, ok5⟩ := id hO
  have hM : S.1 179 0 = nI (b.1 0 0) := hI.1.1.1
  have hK : S.1 179 1 = nI (b.1 0 1) := hI.1.1.2.1
  have p1 := ok1.1
  have o2 := ok1.2.1
  show Zj X S [some (.ref (ad (xY X) 178)), some (.int y)] 0 []
  refine z_iload1 C dX8_count_0 ?_
  refine z_name (fun x1 e1 => ?_)
  rcases sw_0_9 x1 with rfl | rfl | rfl | rfl | rfl | rfl | rfl | rfl | rfl | o1
  · refine z_tabIn (off := 51) C 52 dX8_count_1 (by decide) (by decide) (by decide) (by decide) ?_
    refine z_aload0 C dX8_count_52 ?_
    refine z_get C dX8_count_53 fl_X8_count_7 (k_Model _) rfl ?_
    refine z_iconstN 0 C dX8_count_56 ?_
    refine z_iald C dX8_count_57 (k_i179 _) (by omega) ?_
    exact z_iretP C dX8_count_58 hr rfl ⟨by subst e1; unfold aCount; rw [if_pos rfl]; exact hM, FrM.rf⟩
  · refine z_tabIn (off := 58) C 59 dX8_count_1 (by decide) (by decide) (by decide) (by decide) ?_
    refine z_aload0 C dX8_count_59 ?_
    refine z_get C dX8_count_60 fl_X8_count_7 (k_Model _) rfl ?_
    refine z_iconstN 1 C dX8_count_63 ?_
    refine z_iald C dX8_count_64 (k_i179 _) (by omega) ?_
    exact z_iretP C dX8_count_65 hr rfl ⟨by subst e1; unfold aCount; rw [if_neg (by decide), if_pos rfl]; exact hK, FrM.rf⟩
  · refine z_tabIn (off := 65) C 66 dX8_count_1 (by decide) (by decide) (by decide) (by decide) ?_
    refine z_aload0 C dX8_count_66 ?_
    refine z_get C dX8_count_67 fl_X8_count_7 (k_Model _) rfl ?_
    refine z_iconstN 2 C dX8_count_70 ?_
    refine z_iald C dX8_count_71 (k_i179 _) (by omega) ?_
    exact z_iretP C dX8_count_72 hr rfl ⟨by subst e1; unfold aCount; rw [if_neg (by decide), if_neg (by decide), if_pos rfl]; exact hI.1.1.2.2.1, FrM.rf⟩
  · refine z_tabIn (off := 72) C 73 dX8_count_1 (by decide) (by decide) (by decide) (by decide) ?_
    refine z_aload0 C dX8_count_73 ?_
    refine z_get C dX8_count_74 fl_X8_count_7 (k_Model _) rfl ?_
    refine z_iconstN 4 C dX8_count_77 ?_
    refine z_iald C dX8_count_78 (k_i179 _) (by omega) ?_
    exact z_iretP C dX8_count_79 hr rfl ⟨by subst e1; unfold aCount; rw [if_neg (by decide), if_neg (by decide), if_neg (by decide), if_pos rfl]; exact hI.1.1.2.2.2.2, FrM.rf⟩
  · refine z_tabIn (off := 79) C 80 dX8_count_1 (by decide) (by decide) (by decide) (by decide) ?_
    refine z_aload0 C dX8_count_80 ?_
    refine z_iconstN 0 C dX8_count_81 ?_
    refine z_callVI C dX8_count_82 (c_X8_goneOnes (by decide) p1 hM) gX8_count_X8_goneOnes md_X8_goneOnes rfl (by decide) (k_Model _) rfl rfl rfl (Nat.le_of_ble_eq_true rfl) ?_
    exact z_iretP C dX8_count_85 hr rfl ⟨by subst e1; unfold aCount; rw [if_neg (by decide), if_neg (by decide), if_neg (by decide), if_neg (by decide), if_pos rfl]; exact goneV_m hI.1 ok1, FrM.rf⟩
  · refine z_tabIn (off := 85) C 86 dX8_count_1 (by decide) (by decide) (by decide) (by decide) ?_
    refine z_aload0 C dX8_count_86 ?_
    refine z_iconstN 0 C dX8_count_87 ?_
    refine z_callVI C dX8_count_88 (c_X8_tornOnes (by decide) p1 hM) gX8_count_X8_tornOnes md_X8_tornOnes rfl (by decide) (k_Model _) rfl rfl rfl (Nat.le_of_ble_eq_true rfl) ?_
    exact z_iretP C dX8_count_91 hr rfl ⟨by subst e1; unfold aCount; rw [if_neg (by decide), if_neg (by decide), if_neg (by decide), if_neg (by decide), if_neg (by decide), if_pos rfl]; exact tornV_m hI.1 ok1, FrM.rf⟩
  · refine z_tabIn (off := 91) C 92 dX8_count_1 (by decide) (by decide) (by decide) (by decide) ?_
    refine z_aload0 C dX8_count_92 ?_
    refine z_iconstN 5 C dX8_count_93 ?_
    refine z_aload0 C dX8_count_94 ?_
    refine z_get C dX8_count_95 fl_X8_count_7 (k_Model _) rfl ?_
    refine z_iconstN 0 C dX8_count_98 ?_
    refine z_iald C dX8_count_99 (k_i179 _) (by omega) ?_
    refine z_top C hM ?_
    refine z_callVI C dX8_count_100 (c_X8_sumOf (by omega)) gX8_count_X8_sumOf md_X8_sumOf rfl (by decide) (k_Model _) rfl rfl rfl (Nat.le_of_ble_eq_true rfl) ?_
    exact z_iretP C dX8_count_103 hr rfl ⟨by subst e1; unfold aCount; rw [if_neg (by decide), if_neg (by decide), if_neg (by decide), if_neg (by decide), if_neg (by decide), if_neg (by decide), if_pos rfl]; exact sumV_m1 hI.1, FrM.rf⟩
  · refine z_tabIn (off := 103) C 104 dX8_count_1 (by decide) (by decide) (by decide) (by decide) ?_
    refine z_aload0 C dX8_count_104 ?_
    refine z_bipush (v := nI 23) C dX8_count_105 (by decide) ?_
    refine z_aload0 C dX8_count_107 ?_
    refine z_get C dX8_count_108 fl_X8_count_7 (k_Model _) rfl ?_
    refine z_iconstN 1 C dX8_count_111 ?_
    refine z_iald C dX8_count_112 (k_i179 _) (by omega) ?_
    refine z_top C hK ?_
    refine z_callVI C dX8_count_113 (c_X8_sumOf (by omega)) gX8_count_X8_sumOf md_X8_sumOf rfl (by decide) (k_Model _) rfl rfl rfl (Nat.le_of_ble_eq_true rfl) ?_
    exact z_iretP C dX8_count_116 hr rfl ⟨by subst e1; unfold aCount; rw [if_neg (by decide), if_neg (by decide), if_neg (by decide), if_neg (by decide), if_neg (by decide), if_neg (by decide), if_neg (by decide), if_pos rfl]; exact sumV_m6 hI.1, FrM.rf⟩
  · refine z_tabIn (off := 116) C 117 dX8_count_1 (by decide) (by decide) (by decide) (by decide) ?_
    refine z_aload0 C dX8_count_117 ?_
    refine z_get C dX8_count_118 fl_X8_count_7 (k_Model _) rfl ?_
    refine z_bipush (v := nI 44) C dX8_count_121 (by decide) ?_
    refine z_iald C dX8_count_123 (k_i179 _) (by omega) ?_
    exact z_iretP C dX8_count_124 hr rfl ⟨by subst e1; unfold aCount; rw [if_neg (by decide), if_neg (by decide), if_neg (by decide), if_neg (by decide), if_neg (by decide), if_neg (by decide), if_neg (by decide), if_neg (by decide), if_pos rfl]; exact hI.2.2.1, FrM.rf⟩
  · refine z_tabOut C 125 dX8_count_1 o1 (by decide) ?_
    refine z_iconst (v := (-1)) C dX8_count_125 (by decide) ?_
    exact z_iretP C dX8_count_126 hr rfl ⟨by unfold aCount; rw [if_neg (sw_ne (n := 8) (by rw [← e1]; exact o1) (show 0 ≤ 8 by decide) (by decide)), if_neg (sw_ne (n := 8) (by rw [← e1]; exact o1) (show 1 ≤ 8 by decide) (by decide)), if_neg (sw_ne (n := 8) (by rw [← e1]; exact o1) (show 2 ≤ 8 by decide) (by decide)), if_neg (sw_ne (n := 8) (by rw [← e1]; exact o1) (show 3 ≤ 8 by decide) (by decide)), if_neg (sw_ne (n := 8) (by rw [← e1]; exact o1) (show 4 ≤ 8 by decide) (by decide)), if_neg (sw_ne (n := 8) (by rw [← e1]; exact o1) (show 5 ≤ 8 by decide) (by decide)), if_neg (sw_ne (n := 8) (by rw [← e1]; exact o1) (show 6 ≤ 8 by decide) (by decide)), if_neg (sw_ne (n := 8) (by rw [← e1]; exact o1) (show 7 ≤ 8 by decide) (by decide)), if_neg (sw_ne (n := 8) (by rw [← e1]; exact o1) (show 8 ≤ 8 by decide) (by decide))], FrM.rf⟩

theorem Fr.K {S : GS} {k i : Nat} {v : Int32} : Fr (fun o => o = k) S (stI S k i v) := ⟨fun o q => stI_no q, rfl⟩
theorem HK_copy {rb ob kb kc : Nat} (hd : rb + 64 ≤ ob ∨ ob + 64 ≤ rb) (hk1 : ¬ (rb ≤ kb ∧ kb < rb + 64)) {T : GS} {U : Nat → VR} {nu : Nat} (h : HK T kb ob U nu) (hu : ∀ j, j < nu → Ok (U j)) (hc1 : T.1 kb 1 = T.1 kc 1) (hc2 : T.1 kb 2 = T.1 kc 2) (hk2 : ¬ (rb ≤ kc ∧ kc < rb + 64)) : HK (foldN (fun j T => cBec T (rb + 8 * j) (ob + 8 * j)) 8 0 T) kc rb U nu ∧ HK (foldN (fun j T => cBec T (rb + 8 * j) (ob + 8 * j)) 8 0 T) kb ob U nu := by
  have key : ∀ (n i : Nat) (T : GS), i + n = 8 → (Fr (fun o => rb + 8 * i ≤ o ∧ o < rb + 64) T (foldN (fun j T => cBec T (rb + 8 * j) (ob + 8 * j)) n i T)) ∧ ∀ j V, i ≤ j → j < 8 → Ok V → HC T (ob + 8 * j) V → HC (foldN (fun j T => cBec T (rb + 8 * j) (ob + 8 * j)) n i T) (rb + 8 * j) V := by
    intro n
    induction n with
    | zero => intro i T _; exact ⟨Fr.rf, fun j V h1 h2 => by omega⟩
    | succ n ih =>
      intro i T hi
      obtain ⟨a1, a2⟩ := ih (i + 1) (cBec T (rb + 8 * i) (ob + 8 * i)) (by omega)
      refine ⟨(cBec_fr.mono (fun o q => by omega)).tr (a1.mono (fun o q => by omega)), fun j V h1 h2 ho hv => ?_⟩
      by_cases c : j = i
      · subst c
        exact HC_fr (HC_bec (by unfold dis; omega) hv ho) a1 (fun o q1 q2 q3 => by omega)
      · exact a2 j V (by omega) h2 ho (HC_fr hv cBec_fr (fun o q1 q2 q3 => by omega))
  obtain ⟨a1, a2⟩ := key 8 0 T (by decide)
  obtain ⟨h8, od, h1, h2, h3, h4⟩ := h
  refine ⟨⟨h8, od, h1, ?_, ?_, fun j hj => a2 _ _ (Nat.zero_le _) (Nat.mod_lt _ (by decide)) (hu j hj) (h4 j hj)⟩, ⟨h8, od, h1, ?_, ?_, fun j hj => HC_fr (h4 j hj) a1 (fun o q1 q2 q3 => by omega)⟩⟩
  · rw [a1.1 kc (by omega), ← hc1, h2]
  · rw [a1.1 kc (by omega), ← hc2, h3]
  · rw [a1.1 kb (by omega), h2]
  · rw [a1.1 kb (by omega), h3]
theorem cKb24_fr {S : GS} : Fr (fun o => o = 24 ∨ (114 ≤ o ∧ o < 178)) S (cKb24 S) := by
  unfold cKb24
  have : ∀ (n i : Nat) (T : GS), i + n = 8 → Fr (fun o => o = 24 ∨ (114 ≤ o ∧ o < 178)) T (foldN (fun j T => cBec T (114 + 8 * j) (50 + 8 * j)) n i T) := by
    intro n
    induction n with
    | zero => intro i T _; exact Fr.rf
    | succ n ih => intro i T hi; exact (cBec_fr.mono (fun o q => Or.inr (by omega))).tr (ih (i + 1) _ (by omega))
  exact ((Fr.I (Or.inl rfl)).tr (Fr.I (Or.inl rfl))).tr (this 8 0 _ (by decide))
theorem cKb22_fr {S : GS} : Fr (fun o => o = 22 ∨ (50 ≤ o ∧ o < 114)) S (cKb22 S) := by
  unfold cKb22
  have : ∀ (n i : Nat) (T : GS), i + n = 8 → Fr (fun o => o = 22 ∨ (50 ≤ o ∧ o < 114)) T (foldN (fun j T => cBec T (50 + 8 * j) (114 + 8 * j)) n i T) := by
    intro n
    induction n with
    | zero => intro i T _; exact Fr.rf
    | succ n ih => intro i T hi; exact (cBec_fr.mono (fun o q => Or.inr (by omega))).tr (ih (i + 1) _ (by omega))
  exact ((Fr.I (Or.inl rfl)).tr (Fr.I (Or.inl rfl))).tr (this 8 0 _ (by decide))
def ICi (S : GS) (b : B3) : Prop := HC S 34 b.1 ∧ HK S 24 114 b.2.1 b.2.2
def IMi (S : GS) (b : B3) : Prop := HW (S.1 179) 293 b.1 ∧ HU (S.1 179) 293 b.2.1 b.2.2
abbrev clI (o : Nat) : Prop := o = 0 ∨ o = 24 ∨ (34 ≤ o ∧ o < 42) ∨ (114 ≤ o ∧ o < 178)
theorem IC_image {S : GS} {b : B3} (hI : IC S b) (hO : OkB b) : IC (cKb24 (cBec S 34 26)) b ∧ ICi (cKb24 (cBec S 34 26)) b := by
  have d : dis 34 26 := Or.inl (by decide)
  have h1 := HC_bec d hI.1 hO.1
  have h2 := HC_keep d hI.1
  have h3 : HK (cBec S 34 26) 22 50 b.2.1 b.2.2 := HK_fr hI.2 cBec_fr (by omega) (fun o q1 q2 q3 => by omega)
  have h4 : HK (stI (stI (cBec S 34 26) 24 1 ((cBec S 34 26).1 22 1)) 24 2 ((stI (cBec S 34 26) 24 1 ((cBec S 34 26).1 22 1)).1 22 2)) 22 50 b.2.1 b.2.2 := HK_fr h3 (Fr.K.tr Fr.K) (by omega) (fun o q1 q2 q3 => by omega)
  obtain ⟨a1, a2⟩ := HK_copy (rb := 114) (ob := 50) (kb := 22) (kc := 24) (by omega) (by omega) h4 (OkU_ok hO.2.1) (by rw [stI_no (by decide), stI_no (by decide), stI_ni (by decide), stI_me]) (by rw [stI_no (by decide), stI_no (by decide), stI_me]) (by omega)
  exact ⟨⟨HC_fr h2 cKb24_fr (fun o q1 q2 q3 => by omega), a2⟩, ⟨HC_fr h1 cKb24_fr (fun o q1 q2 q3 => by omega), a1⟩⟩
theorem IC_restore {S : GS} {b : B3} (hI : ICi S b) (hO : OkB b) : IC (cKb22 (cBec S 26 34)) b ∧ ICi (cKb22 (cBec S 26 34)) b := by
  have d : dis 26 34 := Or.inr (by decide)
  have h1 := HC_bec d hI.1 hO.1
  have h2 := HC_keep d hI.1
  have h3 : HK (cBec S 26 34) 24 114 b.2.1 b.2.2 := HK_fr hI.2 cBec_fr (by omega) (fun o q1 q2 q3 => by omega)
  have h4 : HK (stI (stI (cBec S 26 34) 22 1 ((cBec S 26 34).1 24 1)) 22 2 ((stI (cBec S 26 34) 22 1 ((cBec S 26 34).1 24 1)).1 24 2)) 24 114 b.2.1 b.2.2 := HK_fr h3 (Fr.K.tr Fr.K) (by omega) (fun o q1 q2 q3 => by omega)
  obtain ⟨a1, a2⟩ := HK_copy (rb := 50) (ob := 114) (kb := 24) (kc := 22) (by omega) (by omega) h4 (OkU_ok hO.2.1) (by rw [stI_no (by decide), stI_no (by decide), stI_ni (by decide), stI_me]) (by rw [stI_no (by decide), stI_no (by decide), stI_me]) (by omega)
  exact ⟨⟨HC_fr h1 cKb22_fr (fun o q1 q2 q3 => by omega), a1⟩, ⟨HC_fr h2 cKb22_fr (fun o q1 q2 q3 => by omega), a2⟩⟩

set_option maxRecDepth 20000 in
theorem fl_X7_image_23 : FL RX7 wsX7_image 23 7 2 := ⟨RX7, TX7, 12, rfl, (fun w h => List.mem_cons_of_mem _ (List.mem_append_left _ (List.mem_append_left _ (List.mem_append_right _ h)))), by decide, by decide +kernel⟩
set_option maxRecDepth 20000 in
theorem fl_X7_image_10 : FL RX7 wsX7_image 10 7 0 := ⟨RX7, TX7, 12, rfl, (fun w h => List.mem_cons_of_mem _ (List.mem_append_left _ (List.mem_append_left _ (List.mem_append_right _ h)))), by decide, by decide +kernel⟩
set_option maxRecDepth 20000 in
theorem fl_X7_image_26 : FL RX7 wsX7_image 26 7 3 := ⟨RX7, TX7, 12, rfl, (fun w h => List.mem_cons_of_mem _ (List.mem_append_left _ (List.mem_append_left _ (List.mem_append_right _ h)))), by decide, by decide +kernel⟩
set_option maxRecDepth 20000 in
theorem fl_X7_image_19 : FL RX7 wsX7_image 19 7 1 := ⟨RX7, TX7, 12, rfl, (fun w h => List.mem_cons_of_mem _ (List.mem_append_left _ (List.mem_append_left _ (List.mem_append_right _ h)))), by decide, by decide +kernel⟩
theorem md_X0_become : MD yX0_become wsX0_become 1 3 none := ⟨_, _, rfl, by decide, by decide +kernel, by decide +kernel, by decide +kernel⟩
set_option maxRecDepth 20000 in
theorem fl_X7_image_252 : FL RX7 wsX7_image 252 7 4 := ⟨RX7, TX7, 12, rfl, (fun w h => List.mem_cons_of_mem _ (List.mem_append_left _ (List.mem_append_left _ (List.mem_append_right _ h)))), by decide, by decide +kernel⟩
theorem fp_X7_image_252 : FP RX7 wsX7_image 252 7 4 .boolean := ⟨fl_X7_image_252, RX7, TX7, 12, tyX7, rfl, tyX7_ok, nmX7, rfl, by decide +kernel⟩
set_option maxHeartbeats 4000000 in
set_option maxRecDepth 100000 in
theorem c_X7_image {l : Launch} {Y : LY} {S : GS} {b : B3} (hI : IC S b) (hO : OkB b) : CtP l yX7_image wsX7_image 4 Y [.ref (ad Y 0)] S (fun r u => r = nI 1 ∧ IC u b ∧ ICi u b ∧ u.1 0 4 = nI 1 ∧ Fr clI S u) := by
  refine mkP (cc := cX7_image) (maxL := 1) rfl rfl (Nat.le_of_ble_eq_true rfl) ?_
  intro X hl hY C hr
  subst hl
  subst hY
  show Zj X S [some (.ref (ad (xY X) 0))] 0 []
  refine z_aload0 C dX7_image_0 ?_
  refine z_get C dX7_image_1 fl_X7_image_23 (k_EM _) rfl ?_
  refine z_aload0 C dX7_image_4 ?_
  refine z_get C dX7_image_5 fl_X7_image_10 (k_EM _) rfl ?_
  refine z_callVV C dX7_image_8 (c_X2_become isR_img isR_now) gX7_image_X2_become md_X2_become rfl (by decide) (k_Rock _ isR_img) rfl rfl rfl (Nat.le_of_ble_eq_true rfl) ?_
  refine z_aload0 C dX7_image_11 ?_
  refine z_get C dX7_image_12 fl_X7_image_26 (k_EM _) rfl ?_
  refine z_aload0 C dX7_image_15 ?_
  refine z_get C dX7_image_16 fl_X7_image_19 (k_EM _) rfl ?_
  refine z_callVV C dX7_image_19 c_X0_become_24 gX7_image_X0_become md_X0_become rfl (by decide) (k_Known2 _) rfl rfl rfl (Nat.le_of_ble_eq_true rfl) ?_
  refine z_aload0 C dX7_image_22 ?_
  refine z_iconstN 1 C dX7_image_23 ?_
  refine z_put C dX7_image_24 fp_X7_image_252 (k_EM _) rfl rfl (Nat.le_of_ble_eq_true rfl) rfl ?_
  refine z_iconstN 1 C dX7_image_27 ?_
  exact z_iretP C dX7_image_28 hr rfl (by
    obtain ⟨q1, q2⟩ := IC_image hI hO
    have f : ∀ T : GS, Fr (fun o => o = 0) T (stI T 0 4 (nI 1)) := fun T => ⟨fun o q => stI_no q, rfl⟩
    refine ⟨rfl, ⟨HC_fr q1.1 (f _) (fun o z1 z2 z3 => by omega), HK_fr q1.2 (f _) (by omega) (fun o z1 z2 z3 => by omega)⟩, ⟨HC_fr q2.1 (f _) (fun o z1 z2 z3 => by omega), HK_fr q2.2 (f _) (by omega) (fun o z1 z2 z3 => by omega)⟩, stI_me _ _ _ _, ?_⟩
    exact ((cBec_fr.mono (fun o q => by omega)).tr (cKb24_fr.mono (fun o q => by omega))).tr ((f _).mono (fun o q => by omega)))

set_option maxRecDepth 20000 in
theorem fl_X7_restore_252 : FL RX7 wsX7_restore 252 7 4 := ⟨RX7, TX7, 12, rfl, (fun w h => List.mem_cons_of_mem _ (List.mem_append_left _ (List.mem_append_left _ (List.mem_append_right _ h)))), by decide, by decide +kernel⟩
set_option maxRecDepth 20000 in
theorem fl_X7_restore_10 : FL RX7 wsX7_restore 10 7 0 := ⟨RX7, TX7, 12, rfl, (fun w h => List.mem_cons_of_mem _ (List.mem_append_left _ (List.mem_append_left _ (List.mem_append_right _ h)))), by decide, by decide +kernel⟩
set_option maxRecDepth 20000 in
theorem fl_X7_restore_23 : FL RX7 wsX7_restore 23 7 2 := ⟨RX7, TX7, 12, rfl, (fun w h => List.mem_cons_of_mem _ (List.mem_append_left _ (List.mem_append_left _ (List.mem_append_right _ h)))), by decide, by decide +kernel⟩
set_option maxRecDepth 20000 in
theorem fl_X7_restore_19 : FL RX7 wsX7_restore 19 7 1 := ⟨RX7, TX7, 12, rfl, (fun w h => List.mem_cons_of_mem _ (List.mem_append_left _ (List.mem_append_left _ (List.mem_append_right _ h)))), by decide, by decide +kernel⟩
set_option maxRecDepth 20000 in
theorem fl_X7_restore_26 : FL RX7 wsX7_restore 26 7 3 := ⟨RX7, TX7, 12, rfl, (fun w h => List.mem_cons_of_mem _ (List.mem_append_left _ (List.mem_append_left _ (List.mem_append_right _ h)))), by decide, by decide +kernel⟩
set_option maxHeartbeats 4000000 in
set_option maxRecDepth 100000 in
theorem c_X7_restore {l : Launch} {Y : LY} {S : GS} {b : B3} {im : Nat} (hm : im ≤ 1) (h0 : S.1 0 4 = nI im) (hI : im = 1 → ICi S b ∧ OkB b) : CtP l yX7_restore wsX7_restore 4 Y [.ref (ad Y 0)] S (fun r u => (im = 0 ∧ r = -4 ∧ u = S) ∨ (im = 1 ∧ r = nI 1 ∧ IC u b ∧ ICi u b ∧ Fr clN S u)) := by
  refine mkP (cc := cX7_restore) (maxL := 1) rfl rfl (Nat.le_of_ble_eq_true rfl) ?_
  intro X hl hY C hr
  subst hl
  subst hY
  show Zj X S [some (.ref (ad (xY X) 0))] 0 []
  refine z_aload0 C dX7_restore_0 ?_
  refine z_get C dX7_restore_1 fl_X7_restore_252 (k_EM _) rfl ?_
  refine z_top C h0 ?_
  refine z_if_neN C 10 dX7_restore_4 (by decide) (by omega) (fun c4 => ?_) (fun c4 => ?_)
  · refine z_aload0 C dX7_restore_10 ?_
    refine z_get C dX7_restore_11 fl_X7_restore_10 (k_EM _) rfl ?_
    refine z_aload0 C dX7_restore_14 ?_
    refine z_get C dX7_restore_15 fl_X7_restore_23 (k_EM _) rfl ?_
    refine z_callVV C dX7_restore_18 (c_X2_become isR_now isR_img) gX7_restore_X2_become md_X2_become rfl (by decide) (k_Rock _ isR_now) rfl rfl rfl (Nat.le_of_ble_eq_true rfl) ?_
    refine z_aload0 C dX7_restore_21 ?_
    refine z_get C dX7_restore_22 fl_X7_restore_19 (k_EM _) rfl ?_
    refine z_aload0 C dX7_restore_25 ?_
    refine z_get C dX7_restore_26 fl_X7_restore_26 (k_EM _) rfl ?_
    refine z_callVV C dX7_restore_29 c_X0_become_22 gX7_restore_X0_become md_X0_become rfl (by decide) (k_Known _) rfl rfl rfl (Nat.le_of_ble_eq_true rfl) ?_
    refine z_iconstN 1 C dX7_restore_32 ?_
    exact z_iretP C dX7_restore_33 hr rfl (Or.inr (by obtain ⟨z1, z2⟩ := hI (by omega); obtain ⟨q1, q2⟩ := IC_restore z1 z2; exact ⟨by omega, rfl, q1, q2, (cBec_fr.mono (fun o q => by omega)).tr (cKb22_fr.mono (fun o q => by omega))⟩))
  · refine z_bipush (v := (-4)) C dX7_restore_7 (by decide) ?_
    exact z_iretP C dX7_restore_9 hr rfl (Or.inl ⟨c4, rfl, rfl⟩)

theorem IM_image {S : GS} {b : B3} (hI : IM S b) (hO : OkB b) : IM (mBr S 0 293 293) b ∧ IMi (mBr S 0 293 293) b := by
  have lo : ∀ i, i < 293 → (mBr S 0 293 293).1 179 i = S.1 179 i := fun i hi => mBr_far (by omega)
  have up : ∀ k, k < 293 → (mBr S 0 293 293).1 179 (293 + k) = S.1 179 k := fun k hk => by rw [mBr_in (by omega) hk, Nat.zero_add]
  refine ⟨⟨HW_of hI.1 hO.1 (fun i _ h2 => lo i (by omega)), HU_of hI.2 hO.2.1 (fun i _ h2 => lo i (by omega))⟩, ?_, ?_⟩
  · rw [HW_iff]
    intro f i hi
    have q := HW_iff.mp hI.1 f i hi
    have m44 : mo f i < 44 := by
      have a1 := hO.1.1
      have a2 := hO.1.2.1
      unfold inV at hi
      unfold mo
      repeat' split
      all_goals omega
    rw [up _ (by omega)]
    rw [Nat.zero_add] at q
    exact q
  · obtain ⟨h8, h1, h2⟩ := hI.2
    refine ⟨h8, ?_, fun j hj => HS_of (h2 j hj) (hO.2.1 j hj).1 (fun i hi => ?_)⟩
    · rw [up 44 (by decide)]
      exact h1
    · rw [show 293 + 45 + 31 * j + i = 293 + (45 + 31 * j + i) by omega, up _ (by omega), Nat.zero_add]
theorem IM_restore {S : GS} {b : B3} (hI : IMi S b) (hO : OkB b) : IM (mBr S 293 0 293) b ∧ IMi (mBr S 293 0 293) b := by
  have hi : ∀ i, 293 ≤ i → (mBr S 293 0 293).1 179 i = S.1 179 i := fun i hi => mBr_far (by omega)
  have lo : ∀ k, k < 293 → (mBr S 293 0 293).1 179 k = S.1 179 (293 + k) := fun k hk => by have q := mBr_in (S := S) (fr := 293) (to := 0) (n := 293) (by omega) hk; rw [Nat.zero_add] at q; exact q
  refine ⟨⟨?_, ?_⟩, HW_of hI.1 hO.1 (fun i h1 h2 => hi i h1), HU_of hI.2 hO.2.1 (fun i h1 h2 => hi i (by omega))⟩
  · rw [HW_iff]
    intro f i hf
    have q := HW_iff.mp hI.1 f i hf
    have m44 : mo f i < 44 := by
      have a1 := hO.1.1
      have a2 := hO.1.2.1
      unfold inV at hf
      unfold mo
      repeat' split
      all_goals omega
    rw [Nat.zero_add, lo _ (by omega)]
    exact q
  · obtain ⟨h8, h1, h2⟩ := hI.2
    refine ⟨h8, ?_, fun j hj => HS_of (h2 j hj) (hO.2.1 j hj).1 (fun i hi => ?_)⟩
    · exact (lo 44 (by decide)).trans h1
    · rw [show 0 + 45 + 31 * j + i = 45 + 31 * j + i by omega, lo _ (by omega), show 293 + (45 + 31 * j + i) = 293 + 45 + 31 * j + i by omega]
def FrI (S T : GS) : Prop := (∀ o, o ≠ 179 → o ≠ 178 → T.1 o = S.1 o) ∧ (∀ i, i ≠ 1 → T.1 178 i = S.1 178 i) ∧ T.2 = S.2
