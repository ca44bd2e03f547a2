def cR1 (S : GS) (b k m : Nat) : GS := stI S (b + 1) m (mx0 (S.1 (b + 1) m - pal (S.1 (b + 5) k) (S.1 (b + 6) k)))
def cR2 (S : GS) (b k m : Nat) : GS := stI (cR1 S b k m) (b + 6) k (mx0 (S.1 (b + 6) k - wer ((cR1 S b k m).1 (b + 5) k) ((cR1 S b k m).1 (b + 2) m)))
def cR3 (S : GS) (b k m : Nat) : GS := stI (cR2 S b k m) (b + 4) m (mn20 ((cR2 S b k m).1 (b + 4) m + wol ((cR2 S b k m).1 (b + 5) k)))
def cR4 (S : GS) (b k m : Nat) : GS := stI (cR3 S b k m) b 3 ((cR3 S b k m).1 b 3 + (S.1 (b + 6) k - (cR3 S b k m).1 (b + 6) k))
def cRub (S : GS) (b k m : Nat) : GS := if (cR4 S b k m).1 (b + 1) m = 0 ∧ ¬ rT (cR4 S b k m) b m then stI (stI (cR4 S b k m) (b + 1) m ((cR4 S b k m).1 (b + 3) m)) (b + 3) m (nI 0) else cR4 S b k m

set_option maxRecDepth 20000 in
theorem fl_X2_rubOnce_31 : FL RX2 wsX2_rubOnce 31 2 10 := ⟨RX2, TX2, 12, rfl, (fun w h => List.mem_cons_of_mem _ (List.mem_append_right _ h)), by decide, by decide +kernel⟩
set_option maxRecDepth 20000 in
theorem fl_X2_rubOnce_15 : FL RX2 wsX2_rubOnce 15 2 5 := ⟨RX2, TX2, 12, rfl, (fun w h => List.mem_cons_of_mem _ (List.mem_append_right _ h)), by decide, by decide +kernel⟩
set_option maxRecDepth 20000 in
theorem fl_X2_rubOnce_28 : FL RX2 wsX2_rubOnce 28 2 9 := ⟨RX2, TX2, 12, rfl, (fun w h => List.mem_cons_of_mem _ (List.mem_append_right _ h)), by decide, by decide +kernel⟩
theorem md_X2_paleness : MD yX2_paleness wsX2_paleness 2 2 (some .int) := ⟨_, _, rfl, by decide, by decide +kernel, by decide +kernel, by decide +kernel⟩
theorem mm_X2_rubOnce_69 : Cond.methodLink RX2 69 Lib.Math.max.name ∈ wsX2_rubOnce ∧ Cond.static Lib.Math.max.name ∈ wsX2_rubOnce ∧ Cond.initialized "java/lang/Math" ∈ wsX2_rubOnce ∧ Cond.code Lib.Math.max.name Lib.Math.max.code 2 (some .int) ∈ wsX2_rubOnce := by decide +kernel
set_option maxRecDepth 20000 in
theorem fl_X2_rubOnce_19 : FL RX2 wsX2_rubOnce 19 2 6 := ⟨RX2, TX2, 12, rfl, (fun w h => List.mem_cons_of_mem _ (List.mem_append_right _ h)), by decide, by decide +kernel⟩
theorem md_X2_wear : MD yX2_wear wsX2_wear 2 2 (some .int) := ⟨_, _, rfl, by decide, by decide +kernel, by decide +kernel, by decide +kernel⟩
set_option maxRecDepth 20000 in
theorem fl_X2_rubOnce_25 : FL RX2 wsX2_rubOnce 25 2 8 := ⟨RX2, TX2, 12, rfl, (fun w h => List.mem_cons_of_mem _ (List.mem_append_right _ h)), by decide, by decide +kernel⟩
theorem md_X2_woolOf : MD yX2_woolOf wsX2_woolOf 1 1 (some .int) := ⟨_, _, rfl, by decide, by decide +kernel, by decide +kernel, by decide +kernel⟩
theorem mm_X2_rubOnce_81 : Cond.methodLink RX2 81 Lib.Math.min.name ∈ wsX2_rubOnce ∧ Cond.static Lib.Math.min.name ∈ wsX2_rubOnce ∧ Cond.initialized "java/lang/Math" ∈ wsX2_rubOnce ∧ Cond.code Lib.Math.min.name Lib.Math.min.code 2 (some .int) ∈ wsX2_rubOnce := by decide +kernel
set_option maxRecDepth 20000 in
theorem fl_X2_rubOnce_46 : FL RX2 wsX2_rubOnce 46 2 3 := ⟨RX2, TX2, 12, rfl, (fun w h => List.mem_cons_of_mem _ (List.mem_append_right _ h)), by decide, by decide +kernel⟩
theorem fp_X2_rubOnce_46 : FP RX2 wsX2_rubOnce 46 2 3 .int := ⟨fl_X2_rubOnce_46, RX2, TX2, 12, tyX2, rfl, tyX2_ok, nmX2, rfl, by decide +kernel⟩
set_option maxRecDepth 20000 in
theorem fl_X2_rubOnce_22 : FL RX2 wsX2_rubOnce 22 2 7 := ⟨RX2, TX2, 12, rfl, (fun w h => List.mem_cons_of_mem _ (List.mem_append_right _ h)), by decide, by decide +kernel⟩
set_option maxHeartbeats 4000000 in
set_option maxRecDepth 100000 in
theorem c_X2_rubOnce {l : Launch} {Y : LY} {S : GS} {b k m : Nat} (hb : isR b) (hk : k < 5) (hm : m < 6) : CtV l yX2_rubOnce wsX2_rubOnce 2 Y [.ref (ad Y b), .int (nI k), .int (nI m)] S (cRub S b k m) := by
  refine mkV (cc := cX2_rubOnce) (maxL := 4) rfl rfl (Nat.le_of_ble_eq_true rfl) ?_
  intro X hl hY C hr
  subst hl
  subst hY
  show Zj X S [some (.ref (ad (xY X) b)), some (.int (nI k)), some (.int (nI m)), none] 0 []
  refine z_aload0 C dX2_rubOnce_0 ?_
  refine z_get C dX2_rubOnce_1 fl_X2_rubOnce_31 (k_Rock _ hb) rfl ?_
  refine z_iload1 C dX2_rubOnce_4 ?_
  refine z_iald C dX2_rubOnce_5 (k_size _ hb) (by omega) ?_
  refine z_istore3 C dX2_rubOnce_6 nl_i ?_
  refine z_aload0 C dX2_rubOnce_7 ?_
  refine z_get C dX2_rubOnce_8 fl_X2_rubOnce_15 (k_Rock _ hb) rfl ?_
  refine z_iload2 C dX2_rubOnce_11 ?_
  refine z_iconstN 0 C dX2_rubOnce_12 ?_
  refine z_aload0 C dX2_rubOnce_13 ?_
  refine z_get C dX2_rubOnce_14 fl_X2_rubOnce_15 (k_Rock _ hb) rfl ?_
  refine z_iload2 C dX2_rubOnce_17 ?_
  refine z_iald C dX2_rubOnce_18 (k_dark _ hb) (by omega) ?_
  refine z_aload0 C dX2_rubOnce_19 ?_
  refine z_get C dX2_rubOnce_20 fl_X2_rubOnce_28 (k_Rock _ hb) rfl ?_
  refine z_iload1 C dX2_rubOnce_23 ?_
  refine z_iald C dX2_rubOnce_24 (k_kind _ hb) (by omega) ?_
  refine z_iload3 C dX2_rubOnce_25 ?_
  refine z_callSI C dX2_rubOnce_26 c_X2_paleness gX2_rubOnce_X2_paleness md_X2_paleness (by decide) rfl rfl (Nat.le_of_ble_eq_true rfl) ?_
  refine z_isub C dX2_rubOnce_29 ?_
  refine z_mmax C dX2_rubOnce_30 mm_X2_rubOnce_69.1 mm_X2_rubOnce_69.2.1 mm_X2_rubOnce_69.2.2.1 mm_X2_rubOnce_69.2.2.2 (by decide) (Nat.le_of_ble_eq_true rfl) ?_
  refine z_iast C dX2_rubOnce_33 (k_dark _ hb) (by omega) ?_
  refine z_aload0 C dX2_rubOnce_34 ?_
  refine z_get C dX2_rubOnce_35 fl_X2_rubOnce_31 (k_Rock _ hb) rfl ?_
  refine z_iload1 C dX2_rubOnce_38 ?_
  refine z_iconstN 0 C dX2_rubOnce_39 ?_
  refine z_iload3 C dX2_rubOnce_40 ?_
  refine z_aload0 C dX2_rubOnce_41 ?_
  refine z_get C dX2_rubOnce_42 fl_X2_rubOnce_28 (k_Rock _ hb) rfl ?_
  refine z_iload1 C dX2_rubOnce_45 ?_
  refine z_iald C dX2_rubOnce_46 (k_kind _ hb) (by omega) ?_
  refine z_aload0 C dX2_rubOnce_47 ?_
  refine z_get C dX2_rubOnce_48 fl_X2_rubOnce_19 (k_Rock _ hb) rfl ?_
  refine z_iload2 C dX2_rubOnce_51 ?_
  refine z_iald C dX2_rubOnce_52 (k_hard _ hb) (by omega) ?_
  refine z_callSI C dX2_rubOnce_53 c_X2_wear gX2_rubOnce_X2_wear md_X2_wear (by decide) rfl rfl (Nat.le_of_ble_eq_true rfl) ?_
  refine z_isub C dX2_rubOnce_56 ?_
  refine z_mmax C dX2_rubOnce_57 mm_X2_rubOnce_69.1 mm_X2_rubOnce_69.2.1 mm_X2_rubOnce_69.2.2.1 mm_X2_rubOnce_69.2.2.2 (by decide) (Nat.le_of_ble_eq_true rfl) ?_
  refine z_iast C dX2_rubOnce_60 (k_size _ hb) (by omega) ?_
  refine z_aload0 C dX2_rubOnce_61 ?_
  refine z_get C dX2_rubOnce_62 fl_X2_rubOnce_25 (k_Rock _ hb) rfl ?_
  refine z_iload2 C dX2_rubOnce_65 ?_
  refine z_bipush (v := nI 20) C dX2_rubOnce_66 (by decide) ?_
  refine z_aload0 C dX2_rubOnce_68 ?_
  refine z_get C dX2_rubOnce_69 fl_X2_rubOnce_25 (k_Rock _ hb) rfl ?_
  refine z_iload2 C dX2_rubOnce_72 ?_
  refine z_iald C dX2_rubOnce_73 (k_wool _ hb) (by omega) ?_
  refine z_aload0 C dX2_rubOnce_74 ?_
  refine z_get C dX2_rubOnce_75 fl_X2_rubOnce_28 (k_Rock _ hb) rfl ?_
  refine z_iload1 C dX2_rubOnce_78 ?_
  refine z_iald C dX2_rubOnce_79 (k_kind _ hb) (by omega) ?_
  refine z_callSI C dX2_rubOnce_80 c_X2_woolOf gX2_rubOnce_X2_woolOf md_X2_woolOf (by decide) rfl rfl (Nat.le_of_ble_eq_true rfl) ?_
  refine z_iadd C dX2_rubOnce_83 ?_
  refine z_mmin C dX2_rubOnce_84 mm_X2_rubOnce_81.1 mm_X2_rubOnce_81.2.1 mm_X2_rubOnce_81.2.2.1 mm_X2_rubOnce_81.2.2.2 (by decide) (Nat.le_of_ble_eq_true rfl) ?_
  refine z_iast C dX2_rubOnce_87 (k_wool _ hb) (by omega) ?_
  refine z_aload0 C dX2_rubOnce_88 ?_
  refine z_dup C dX2_rubOnce_89 rfl ?_
  refine z_get C dX2_rubOnce_90 fl_X2_rubOnce_46 (k_Rock _ hb) rfl ?_
  refine z_iload3 C dX2_rubOnce_93 ?_
  refine z_aload0 C dX2_rubOnce_94 ?_
  refine z_get C dX2_rubOnce_95 fl_X2_rubOnce_31 (k_Rock _ hb) rfl ?_
  refine z_iload1 C dX2_rubOnce_98 ?_
  refine z_iald C dX2_rubOnce_99 (k_size _ hb) (by omega) ?_
  refine z_isub C dX2_rubOnce_100 ?_
  refine z_iadd C dX2_rubOnce_101 ?_
  refine z_put C dX2_rubOnce_102 fp_X2_rubOnce_46 (k_Rock _ hb) rfl rfl (Nat.le_of_ble_eq_true rfl) rfl ?_
  refine z_aload0 C dX2_rubOnce_105 ?_
  refine z_get C dX2_rubOnce_106 fl_X2_rubOnce_15 (k_Rock _ hb) rfl ?_
  refine z_iload2 C dX2_rubOnce_109 ?_
  refine z_iald C dX2_rubOnce_110 (k_dark _ hb) (by omega) ?_
  refine z_if_ne C 141 dX2_rubOnce_111 (by decide) (fun c111 => ?_) (fun c111 => ?_)
  · exact z_vret C dX2_rubOnce_141 hr (by first | exact (if_pos ⟨c111, c119⟩).symm | exact (if_neg (fun h => c111 h.1)).symm | exact (if_neg (fun h => h.2 c119)).symm)
  · refine z_aload0 C dX2_rubOnce_114 ?_
    refine z_iload2 C dX2_rubOnce_115 ?_
    refine z_callVI C dX2_rubOnce_116 (c_X2_isTorn hb (by omega)) gX2_rubOnce_X2_isTorn md_X2_isTorn rfl (by decide) (k_Rock _ hb) rfl rfl rfl (Nat.le_of_ble_eq_true rfl) ?_
    refine z_if_neB C 141 dX2_rubOnce_119 (by decide) (fun c119 => ?_) (fun c119 => ?_)
    · exact z_vret C dX2_rubOnce_141 hr (by first | exact (if_pos ⟨c111, c119⟩).symm | exact (if_neg (fun h => c111 h.1)).symm | exact (if_neg (fun h => h.2 c119)).symm)
    · refine z_aload0 C dX2_rubOnce_122 ?_
      refine z_get C dX2_rubOnce_123 fl_X2_rubOnce_15 (k_Rock _ hb) rfl ?_
      refine z_iload2 C dX2_rubOnce_126 ?_
      refine z_aload0 C dX2_rubOnce_127 ?_
      refine z_get C dX2_rubOnce_128 fl_X2_rubOnce_22 (k_Rock _ hb) rfl ?_
      refine z_iload2 C dX2_rubOnce_131 ?_
      refine z_iald C dX2_rubOnce_132 (k_under _ hb) (by omega) ?_
      refine z_iast C dX2_rubOnce_133 (k_dark _ hb) (by omega) ?_
      refine z_aload0 C dX2_rubOnce_134 ?_
      refine z_get C dX2_rubOnce_135 fl_X2_rubOnce_22 (k_Rock _ hb) rfl ?_
      refine z_iload2 C dX2_rubOnce_138 ?_
      refine z_iconstN 0 C dX2_rubOnce_139 ?_
      refine z_iast C dX2_rubOnce_140 (k_under _ hb) (by omega) ?_
      exact z_vret C dX2_rubOnce_141 hr (by first | exact (if_pos ⟨c111, c119⟩).symm | exact (if_neg (fun h => c111 h.1)).symm | exact (if_neg (fun h => h.2 c119)).symm)
