theorem sI_nI {s m : Nat} (hs : s < 2 ^ 31) (hm : m < 2 ^ 31) : sI s = nI m ↔ s = m + 1 := by
  unfold sI
  by_cases c : s = 0
  · rw [if_pos c]
    constructor
    · intro q
      exact absurd (show nI m < 0 by rw [← q]; decide) (nI_pos hm)
    · intro q
      omega
  · rw [if_neg c, nI_eq (by omega) hm]
    omega
theorem crewV_c {S : GS} {b m : Nat} {V : VR} (h : HC S b V) (ho : Ok V) (hm : m < V 0 0) : foldN (fun i v => if S.1 (b + 7) i = nI m then v ||| nI 1 <<< (nI i &&& 31) else v) (V 0 1) 0 (nI 0) = crewV V m := by
  have a1 := ho.1
  refine foldN_congr _ _ _ (fun j v _ h2 => ?_)
  have o3 := (ho.2.2.2 j (by omega)).2.2
  have hi : S.1 (b + 7) j = nI m ↔ V 7 j = m + 1 := by rw [(h.2.2 j (by omega)).2.2, sI_nI (by omega) (by omega)]
  by_cases c : V 7 j = m + 1
  · rw [if_pos c, if_pos (hi.mpr c)]
  · rw [if_neg c, if_neg (fun z => c (hi.mp z))]
theorem crewV_m {S : GS} {m : Nat} {V : VR} (h : HW (S.1 179) 0 V) (ho : Ok V) (hm : m < V 0 0) : foldN (fun i v => v ||| (if S.1 179 (28 + i) = nI m then nI 1 <<< (nI i &&& 31) else nI 0)) (V 0 1) 0 (nI 0) = crewV V m := by
  have a1 := ho.1
  refine foldN_congr _ _ _ (fun j v _ h2 => ?_)
  have o3 := (ho.2.2.2 j (by omega)).2.2
  have e := (h.2.2 j (by omega)).2.2
  rw [Nat.zero_add] at e
  have hi : S.1 179 (28 + j) = nI m ↔ V 7 j = m + 1 := by rw [e, sI_nI (by omega) (by omega)]
  by_cases c : V 7 j = m + 1
  · rw [if_pos c, if_pos (hi.mpr c)]
  · rw [if_neg c, if_neg (fun z => c (hi.mp z)), or_z]
theorem aOf_y {V : VR} {m : Nat} {y : Int32} (hm : m < V 0 0) (h6 : V 0 0 ≤ 6) : aOf V (nI m) y = if y = nI 0 then nI (V 1 m) else if y = nI 1 then nI (V 2 m) else if y = nI 2 then nI (V 3 m) else if y = nI 3 then nI (V 4 m) else if y = nI 4 then bi (vG V m) else if y = nI 5 then bi (vT V m) else if y = nI 6 then crewV V m else -1 := by
  unfold aOf
  rw [if_pos (inR_nI hm (by omega)), nI_clamp (by omega)]
theorem aOf_n {V : VR} {x y : Int32} (h : ¬ inR x (V 0 0)) : aOf V x y = -1 := if_neg h
theorem aAt_y {V : VR} {k : Nat} {y : Int32} (hk : k < V 0 1) (h6 : V 0 1 ≤ 5) : aAt V (nI k) y = if y = nI 0 then nI (V 5 k) else if y = nI 1 then nI (V 6 k) else if y = nI 2 then sI (V 7 k) else -1 := by
  unfold aAt
  rw [if_pos (inR_nI hk (by omega)), nI_clamp (by omega)]
theorem aAt_n {V : VR} {x y : Int32} (h : ¬ inR x (V 0 1)) : aAt V x y = -1 := if_neg h
theorem sw_ne {y : Int32} {n j : Nat} (h : y.toInt < 0 ∨ (n : Int) < y.toInt) (hj : j ≤ n) (hn : n < 1000) : ¬ y = nI j := by
  rintro rfl
  rw [nI_toInt (by omega)] at h
  omega

set_option maxRecDepth 20000 in
theorem fl_X7_of_10 : FL RX7 wsX7_of 10 7 0 := ⟨RX7, TX7, 12, rfl, (fun w h => List.mem_cons_of_mem _ (List.mem_append_left _ (List.mem_append_right _ h))), by decide, by decide +kernel⟩
set_option maxRecDepth 20000 in
theorem fl_X7_of_96 : FL RX7 wsX7_of 96 2 5 := ⟨RX2, TX2, 12, rfl, (fun w h => List.mem_cons_of_mem _ (List.mem_append_right _ h)), by decide, by decide +kernel⟩
set_option maxRecDepth 20000 in
theorem fl_X7_of_99 : FL RX7 wsX7_of 99 2 6 := ⟨RX2, TX2, 12, rfl, (fun w h => List.mem_cons_of_mem _ (List.mem_append_right _ h)), by decide, by decide +kernel⟩
set_option maxRecDepth 20000 in
theorem fl_X7_of_102 : FL RX7 wsX7_of 102 2 7 := ⟨RX2, TX2, 12, rfl, (fun w h => List.mem_cons_of_mem _ (List.mem_append_right _ h)), by decide, by decide +kernel⟩
set_option maxRecDepth 20000 in
theorem fl_X7_of_105 : FL RX7 wsX7_of 105 2 8 := ⟨RX2, TX2, 12, rfl, (fun w h => List.mem_cons_of_mem _ (List.mem_append_right _ h)), by decide, by decide +kernel⟩
theorem md_X2_crewOf : MD yX2_crewOf wsX2_crewOf 1 4 (some .int) := ⟨_, _, rfl, by decide, by decide +kernel, by decide +kernel, by decide +kernel⟩
set_option maxHeartbeats 4000000 in
set_option maxRecDepth 100000 in
theorem c_X7_of {l : Launch} {Y : LY} {S : GS} {V : VR} (h : HC S 26 V) (ho : Ok V) {x y : Int32} : CtP l yX7_of wsX7_of 4 Y [.ref (ad Y 0), .int x, .int y] S (fun r u => r = aOf V x y ∧ Fr scr S u) := by
  refine mkP (cc := cX7_of) (maxL := 3) rfl rfl (Nat.le_of_ble_eq_true rfl) ?_
  intro X hl hY C hr
  subst hl
  subst hY
  have hM : S.1 26 0 = nI (V 0 0) := h.1 0 (by decide)
  have hK : S.1 26 1 = nI (V 0 1) := h.1 1 (by decide)
  have o1 := ho.1
  have o2 := ho.2.1
  show Zj X S [some (.ref (ad (xY X) 0)), some (.int x), some (.int y)] 0 []
  refine z_aload0 C dX7_of_0 ?_
  refine z_iload1 C dX7_of_1 ?_
  refine z_callVI C dX7_of_2 (c_X7_hasMark hM) gX7_of_X7_hasMark md_X7_hasMark rfl (by decide) (k_EM _) rfl rfl rfl (Nat.le_of_ble_eq_true rfl) ?_
  refine z_if_neB C 10 dX7_of_5 (by decide) (fun c5 => ?_) (fun c5 => ?_)
  · obtain ⟨m, hm, rfl⟩ := inR_of (by omega) c5
    refine z_iload2 C dX7_of_10 ?_
    refine z_name (fun x11 e11 => ?_)
    rcases sw_0_7 x11 with rfl | rfl | rfl | rfl | rfl | rfl | rfl | o11
    · refine z_tabIn (off := 41) C 52 dX7_of_11 (by decide) (by decide) (by decide) (by decide) ?_
      refine z_aload0 C dX7_of_52 ?_
      refine z_get C dX7_of_53 fl_X7_of_10 (k_EM _) rfl ?_
      refine z_get C dX7_of_56 fl_X7_of_96 (k_Rock _ isR_now) rfl ?_
      refine z_iload1 C dX7_of_59 ?_
      refine z_iald C dX7_of_60 (k_dark _ isR_now) (by omega) ?_
      exact z_iretP C dX7_of_61 hr rfl ⟨by subst e11; rw [aOf_y hm o1, if_pos rfl]; exact (h.2.1 m hm).1, Fr.rf⟩
    · refine z_tabIn (off := 51) C 62 dX7_of_11 (by decide) (by decide) (by decide) (by decide) ?_
      refine z_aload0 C dX7_of_62 ?_
      refine z_get C dX7_of_63 fl_X7_of_10 (k_EM _) rfl ?_
      refine z_get C dX7_of_66 fl_X7_of_99 (k_Rock _ isR_now) rfl ?_
      refine z_iload1 C dX7_of_69 ?_
      refine z_iald C dX7_of_70 (k_hard _ isR_now) (by omega) ?_
      exact z_iretP C dX7_of_71 hr rfl ⟨by subst e11; rw [aOf_y hm o1, if_neg (by decide), if_pos rfl]; exact (h.2.1 m hm).2.1, Fr.rf⟩
    · refine z_tabIn (off := 61) C 72 dX7_of_11 (by decide) (by decide) (by decide) (by decide) ?_
      refine z_aload0 C dX7_of_72 ?_
      refine z_get C dX7_of_73 fl_X7_of_10 (k_EM _) rfl ?_
      refine z_get C dX7_of_76 fl_X7_of_102 (k_Rock _ isR_now) rfl ?_
      refine z_iload1 C dX7_of_79 ?_
      refine z_iald C dX7_of_80 (k_under _ isR_now) (by omega) ?_
      exact z_iretP C dX7_of_81 hr rfl ⟨by subst e11; rw [aOf_y hm o1, if_neg (by decide), if_neg (by decide), if_pos rfl]; exact (h.2.1 m hm).2.2.1, Fr.rf⟩
    · refine z_tabIn (off := 71) C 82 dX7_of_11 (by decide) (by decide) (by decide) (by decide) ?_
      refine z_aload0 C dX7_of_82 ?_
      refine z_get C dX7_of_83 fl_X7_of_10 (k_EM _) rfl ?_
      refine z_get C dX7_of_86 fl_X7_of_105 (k_Rock _ isR_now) rfl ?_
      refine z_iload1 C dX7_of_89 ?_
      refine z_iald C dX7_of_90 (k_wool _ isR_now) (by omega) ?_
      exact z_iretP C dX7_of_91 hr rfl ⟨by subst e11; rw [aOf_y hm o1, if_neg (by decide), if_neg (by decide), if_neg (by decide), if_pos rfl]; exact (h.2.1 m hm).2.2.2, Fr.rf⟩
    · refine z_tabIn (off := 81) C 92 dX7_of_11 (by decide) (by decide) (by decide) (by decide) ?_
      refine z_aload0 C dX7_of_92 ?_
      refine z_get C dX7_of_93 fl_X7_of_10 (k_EM _) rfl ?_
      refine z_iload1 C dX7_of_96 ?_
      refine z_callVI C dX7_of_97 (c_X2_isGone isR_now (by omega)) gX7_of_X2_isGone md_X2_isGone rfl (by decide) (k_Rock _ isR_now) rfl rfl rfl (Nat.le_of_ble_eq_true rfl) ?_
      refine z_if_eqB C 107 dX7_of_100 (by decide) (fun c100 => ?_) (fun c100 => ?_)
      · refine z_iconstN 0 C dX7_of_107 ?_
        exact z_iretP C dX7_of_108 hr rfl ⟨by subst e11; rw [aOf_y hm o1, if_neg (by decide), if_neg (by decide), if_neg (by decide), if_neg (by decide), if_pos rfl]; exact b0 (fun z => c100 ((rG_iff h ho hm).mpr z)), Fr.rf⟩
      · refine z_iconstN 1 C dX7_of_103 ?_
        refine z_goto C 108 dX7_of_104 (by decide) ?_
        exact z_iretP C dX7_of_108 hr rfl ⟨by subst e11; rw [aOf_y hm o1, if_neg (by decide), if_neg (by decide), if_neg (by decide), if_neg (by decide), if_pos rfl]; exact b1 ((rG_iff h ho hm).mp c100), Fr.rf⟩
    · refine z_tabIn (off := 98) C 109 dX7_of_11 (by decide) (by decide) (by decide) (by decide) ?_
      refine z_aload0 C dX7_of_109 ?_
      refine z_get C dX7_of_110 fl_X7_of_10 (k_EM _) rfl ?_
      refine z_iload1 C dX7_of_113 ?_
      refine z_callVI C dX7_of_114 (c_X2_isTorn isR_now (by omega)) gX7_of_X2_isTorn md_X2_isTorn rfl (by decide) (k_Rock _ isR_now) rfl rfl rfl (Nat.le_of_ble_eq_true rfl) ?_
      refine z_if_eqB C 124 dX7_of_117 (by decide) (fun c117 => ?_) (fun c117 => ?_)
      · refine z_iconstN 0 C dX7_of_124 ?_
        exact z_iretP C dX7_of_125 hr rfl ⟨by subst e11; rw [aOf_y hm o1, if_neg (by decide), if_neg (by decide), if_neg (by decide), if_neg (by decide), if_neg (by decide), if_pos rfl]; exact b0 (fun z => c117 ((rT_iff h ho hm).mpr z)), Fr.rf⟩
      · refine z_iconstN 1 C dX7_of_120 ?_
        refine z_goto C 125 dX7_of_121 (by decide) ?_
        exact z_iretP C dX7_of_125 hr rfl ⟨by subst e11; rw [aOf_y hm o1, if_neg (by decide), if_neg (by decide), if_neg (by decide), if_neg (by decide), if_neg (by decide), if_pos rfl]; exact b1 ((rT_iff h ho hm).mp c117), Fr.rf⟩
    · refine z_tabIn (off := 115) C 126 dX7_of_11 (by decide) (by decide) (by decide) (by decide) ?_
      refine z_aload0 C dX7_of_126 ?_
      refine z_get C dX7_of_127 fl_X7_of_10 (k_EM _) rfl ?_
      refine z_iload1 C dX7_of_130 ?_
      refine z_callVI C dX7_of_131 (c_X2_crewOf isR_now o2 hK) gX7_of_X2_crewOf md_X2_crewOf rfl (by decide) (k_Rock _ isR_now) rfl rfl rfl (Nat.le_of_ble_eq_true rfl) ?_
      exact z_iretP C dX7_of_134 hr rfl ⟨by subst e11; rw [aOf_y hm o1, if_neg (by decide), if_neg (by decide), if_neg (by decide), if_neg (by decide), if_neg (by decide), if_neg (by decide), if_pos rfl]; exact crewV_c h ho hm, Fr.rf⟩
    · refine z_tabOut C 135 dX7_of_11 o11 (by decide) ?_
      refine z_iconst (v := (-1)) C dX7_of_135 (by decide) ?_
      exact z_iretP C dX7_of_136 hr rfl ⟨by rw [aOf_y hm o1, if_neg (sw_ne (n := 6) (by rw [← e11]; exact o11) (show 0 ≤ 6 by decide) (by decide)), if_neg (sw_ne (n := 6) (by rw [← e11]; exact o11) (show 1 ≤ 6 by decide) (by decide)), if_neg (sw_ne (n := 6) (by rw [← e11]; exact o11) (show 2 ≤ 6 by decide) (by decide)), if_neg (sw_ne (n := 6) (by rw [← e11]; exact o11) (show 3 ≤ 6 by decide) (by decide)), if_neg (sw_ne (n := 6) (by rw [← e11]; exact o11) (show 4 ≤ 6 by decide) (by decide)), if_neg (sw_ne (n := 6) (by rw [← e11]; exact o11) (show 5 ≤ 6 by decide) (by decide)), if_neg (sw_ne (n := 6) (by rw [← e11]; exact o11) (show 6 ≤ 6 by decide) (by decide))], Fr.rf⟩
  · refine z_iconst (v := (-1)) C dX7_of_8 (by decide) ?_
    exact z_iretP C dX7_of_9 hr rfl ⟨by rw [aOf_n c5], Fr.rf⟩

set_option maxRecDepth 20000 in
theorem fl_X8_of_7 : FL RX8 wsX8_of 7 8 0 := ⟨RX8, TX8, 15, rfl, (fun w h => List.mem_cons_of_mem _ (List.mem_append_right _ h)), by decide, by decide +kernel⟩
theorem md_X8_sentTo : MD yX8_sentTo wsX8_sentTo 1 4 (some .int) := ⟨_, _, rfl, by decide, by decide +kernel, by decide +kernel, by decide +kernel⟩
set_option maxHeartbeats 4000000 in
set_option maxRecDepth 100000 in
theorem c_X8_of {l : Launch} {Y : LY} {S : GS} {V : VR} (h : HW (S.1 179) 0 V) (ho : Ok V) {x y : Int32} : CtP l yX8_of wsX8_of 4 Y [.ref (ad Y 178), .int x, .int y] S (fun r u => r = aOf V x y ∧ FrM S u) := by
  refine mkP (cc := cX8_of) (maxL := 3) rfl rfl (Nat.le_of_ble_eq_true rfl) ?_
  intro X hl hY C hr
  subst hl
  subst hY
  have hM : S.1 179 0 = nI (V 0 0) := h.1.1
  have hK : S.1 179 1 = nI (V 0 1) := h.1.2.1
  have o1 := ho.1
  have o2 := ho.2.1
  show Zj X S [some (.ref (ad (xY X) 178)), some (.int x), some (.int y)] 0 []
  refine z_aload0 C dX8_of_0 ?_
  refine z_iload1 C dX8_of_1 ?_
  refine z_callVI C dX8_of_2 (c_X8_isMark2 ho.1 hM) gX8_of_X8_isMark md_X8_isMark rfl (by decide) (k_Model _) rfl rfl rfl (Nat.le_of_ble_eq_true rfl) ?_
  refine z_if_neB C 10 dX8_of_5 (by decide) (fun c5 => ?_) (fun c5 => ?_)
  · obtain ⟨m, hm, rfl⟩ := inR_of (by omega) c5
    refine z_iload2 C dX8_of_10 ?_
    refine z_name (fun x11 e11 => ?_)
    rcases sw_0_7 x11 with rfl | rfl | rfl | rfl | rfl | rfl | rfl | o11
    · refine z_tabIn (off := 41) C 52 dX8_of_11 (by decide) (by decide) (by decide) (by decide) ?_
      refine z_aload0 C dX8_of_52 ?_
      refine z_get C dX8_of_53 fl_X8_of_7 (k_Model _) rfl ?_
      refine z_iconstN 5 C dX8_of_56 ?_
      refine z_iload1 C dX8_of_57 ?_
      refine z_iaddN C dX8_of_58 ?_
      refine z_iald C dX8_of_59 (k_i179 _) (by omega) ?_
      exact z_iretP C dX8_of_60 hr rfl ⟨by subst e11; rw [aOf_y hm o1, if_pos rfl]; exact (by have q := (h.2.1 m hm).1; rw [Nat.zero_add] at q; exact q), FrM.rf⟩
    · refine z_tabIn (off := 50) C 61 dX8_of_11 (by decide) (by decide) (by decide) (by decide) ?_
      refine z_aload0 C dX8_of_61 ?_
      refine z_get C dX8_of_62 fl_X8_of_7 (k_Model _) rfl ?_
      refine z_bipush (v := nI 33) C dX8_of_65 (by decide) ?_
      refine z_iload1 C dX8_of_67 ?_
      refine z_iaddN C dX8_of_68 ?_
      refine z_iald C dX8_of_69 (k_i179 _) (by omega) ?_
      exact z_iretP C dX8_of_70 hr rfl ⟨by subst e11; rw [aOf_y hm o1, if_neg (by decide), if_pos rfl]; exact (by have q := (h.2.1 m hm).2.1; rw [Nat.zero_add] at q; exact q), FrM.rf⟩
    · refine z_tabIn (off := 60) C 71 dX8_of_11 (by decide) (by decide) (by decide) (by decide) ?_
      refine z_aload0 C dX8_of_71 ?_
      refine z_get C dX8_of_72 fl_X8_of_7 (k_Model _) rfl ?_
      refine z_bipush (v := nI 11) C dX8_of_75 (by decide) ?_
      refine z_iload1 C dX8_of_77 ?_
      refine z_iaddN C dX8_of_78 ?_
      refine z_iald C dX8_of_79 (k_i179 _) (by omega) ?_
      exact z_iretP C dX8_of_80 hr rfl ⟨by subst e11; rw [aOf_y hm o1, if_neg (by decide), if_neg (by decide), if_pos rfl]; exact (by have q := (h.2.1 m hm).2.2.1; rw [Nat.zero_add] at q; exact q), FrM.rf⟩
    · refine z_tabIn (off := 70) C 81 dX8_of_11 (by decide) (by decide) (by decide) (by decide) ?_
      refine z_aload0 C dX8_of_81 ?_
      refine z_get C dX8_of_82 fl_X8_of_7 (k_Model _) rfl ?_
      refine z_bipush (v := nI 17) C dX8_of_85 (by decide) ?_
      refine z_iload1 C dX8_of_87 ?_
      refine z_iaddN C dX8_of_88 ?_
      refine z_iald C dX8_of_89 (k_i179 _) (by omega) ?_
      exact z_iretP C dX8_of_90 hr rfl ⟨by subst e11; rw [aOf_y hm o1, if_neg (by decide), if_neg (by decide), if_neg (by decide), if_pos rfl]; exact (by have q := (h.2.1 m hm).2.2.2; rw [Nat.zero_add] at q; exact q), FrM.rf⟩
    · refine z_tabIn (off := 80) C 91 dX8_of_11 (by decide) (by decide) (by decide) (by decide) ?_
      refine z_aload0 C dX8_of_91 ?_
      refine z_iconstN 0 C dX8_of_92 ?_
      refine z_iload1 C dX8_of_93 ?_
      refine z_callVI C dX8_of_94 (c_X8_isGone (by omega) (by omega)) gX8_of_X8_isGone md_X8_isGone rfl (by decide) (k_Model _) rfl rfl rfl (Nat.le_of_ble_eq_true rfl) ?_
      refine z_if_eqB C 104 dX8_of_97 (by decide) (fun c97 => ?_) (fun c97 => ?_)
      · refine z_iconstN 0 C dX8_of_104 ?_
        exact z_iretP C dX8_of_105 hr rfl ⟨by subst e11; rw [aOf_y hm o1, if_neg (by decide), if_neg (by decide), if_neg (by decide), if_neg (by decide), if_pos rfl]; exact b0 (fun z => c97 ((mG_iff h ho hm).mpr z)), FrM.rf⟩
      · refine z_iconstN 1 C dX8_of_100 ?_
        refine z_goto C 105 dX8_of_101 (by decide) ?_
        exact z_iretP C dX8_of_105 hr rfl ⟨by subst e11; rw [aOf_y hm o1, if_neg (by decide), if_neg (by decide), if_neg (by decide), if_neg (by decide), if_pos rfl]; exact b1 ((mG_iff h ho hm).mp c97), FrM.rf⟩
    · refine z_tabIn (off := 95) C 106 dX8_of_11 (by decide) (by decide) (by decide) (by decide) ?_
      refine z_aload0 C dX8_of_106 ?_
      refine z_iconstN 0 C dX8_of_107 ?_
      refine z_iload1 C dX8_of_108 ?_
      refine z_callVI C dX8_of_109 (c_X8_isTorn (by omega) (by omega)) gX8_of_X8_isTorn md_X8_isTorn rfl (by decide) (k_Model _) rfl rfl rfl (Nat.le_of_ble_eq_true rfl) ?_
      refine z_if_eqB C 119 dX8_of_112 (by decide) (fun c112 => ?_) (fun c112 => ?_)
      · refine z_iconstN 0 C dX8_of_119 ?_
        exact z_iretP C dX8_of_120 hr rfl ⟨by subst e11; rw [aOf_y hm o1, if_neg (by decide), if_neg (by decide), if_neg (by decide), if_neg (by decide), if_neg (by decide), if_pos rfl]; exact b0 (fun z => c112 ((mT_iff h ho hm).mpr z)), FrM.rf⟩
      · refine z_iconstN 1 C dX8_of_115 ?_
        refine z_goto C 120 dX8_of_116 (by decide) ?_
        exact z_iretP C dX8_of_120 hr rfl ⟨by subst e11; rw [aOf_y hm o1, if_neg (by decide), if_neg (by decide), if_neg (by decide), if_neg (by decide), if_neg (by decide), if_pos rfl]; exact b1 ((mT_iff h ho hm).mp c112), FrM.rf⟩
    · refine z_tabIn (off := 110) C 121 dX8_of_11 (by decide) (by decide) (by decide) (by decide) ?_
      refine z_aload0 C dX8_of_121 ?_
      refine z_iload1 C dX8_of_122 ?_
      refine z_callVI C dX8_of_123 (c_X8_sentTo (by omega) hK) gX8_of_X8_sentTo md_X8_sentTo rfl (by decide) (k_Model _) rfl rfl rfl (Nat.le_of_ble_eq_true rfl) ?_
      exact z_iretP C dX8_of_126 hr rfl ⟨by subst e11; rw [aOf_y hm o1, if_neg (by decide), if_neg (by decide), if_neg (by decide), if_neg (by decide), if_neg (by decide), if_neg (by decide), if_pos rfl]; exact crewV_m h ho hm, FrM.rf⟩
    · refine z_tabOut C 127 dX8_of_11 o11 (by decide) ?_
      refine z_iconst (v := (-1)) C dX8_of_127 (by decide) ?_
      exact z_iretP C dX8_of_128 hr rfl ⟨by rw [aOf_y hm o1, if_neg (sw_ne (n := 6) (by rw [← e11]; exact o11) (show 0 ≤ 6 by decide) (by decide)), if_neg (sw_ne (n := 6) (by rw [← e11]; exact o11) (show 1 ≤ 6 by decide) (by decide)), if_neg (sw_ne (n := 6) (by rw [← e11]; exact o11) (show 2 ≤ 6 by decide) (by decide)), if_neg (sw_ne (n := 6) (by rw [← e11]; exact o11) (show 3 ≤ 6 by decide) (by decide)), if_neg (sw_ne (n := 6) (by rw [← e11]; exact o11) (show 4 ≤ 6 by decide) (by decide)), if_neg (sw_ne (n := 6) (by rw [← e11]; exact o11) (show 5 ≤ 6 by decide) (by decide)), if_neg (sw_ne (n := 6) (by rw [← e11]; exact o11) (show 6 ≤ 6 by decide) (by decide))], FrM.rf⟩
  · refine z_iconst (v := (-1)) C dX8_of_8 (by decide) ?_
    exact z_iretP C dX8_of_9 hr rfl ⟨by rw [aOf_n c5], FrM.rf⟩

set_option maxRecDepth 20000 in
theorem fl_X7_at_10 : FL RX7 wsX7_at 10 7 0 := ⟨RX7, TX7, 12, rfl, (fun w h => List.mem_cons_of_mem _ (List.mem_append_left _ (List.mem_append_right _ h))), by decide, by decide +kernel⟩
set_option maxRecDepth 20000 in
theorem fl_X7_at_121 : FL RX7 wsX7_at 121 2 9 := ⟨RX2, TX2, 12, rfl, (fun w h => List.mem_cons_of_mem _ (List.mem_append_right _ h)), by decide, by decide +kernel⟩
set_option maxRecDepth 20000 in
theorem fl_X7_at_124 : FL RX7 wsX7_at 124 2 10 := ⟨RX2, TX2, 12, rfl, (fun w h => List.mem_cons_of_mem _ (List.mem_append_right _ h)), by decide, by decide +kernel⟩
set_option maxRecDepth 20000 in
theorem fl_X7_at_127 : FL RX7 wsX7_at 127 2 11 := ⟨RX2, TX2, 12, rfl, (fun w h => List.mem_cons_of_mem _ (List.mem_append_right _ h)), by decide, by decide +kernel⟩
set_option maxHeartbeats 4000000 in
set_option maxRecDepth 100000 in
theorem c_X7_at {l : Launch} {Y : LY} {S : GS} {V : VR} (h : HC S 26 V) (ho : Ok V) {x y : Int32} : CtP l yX7_at wsX7_at 4 Y [.ref (ad Y 0), .int x, .int y] S (fun r u => r = aAt V x y ∧ Fr scr S u) := by
  refine mkP (cc := cX7_at) (maxL := 3) rfl rfl (Nat.le_of_ble_eq_true rfl) ?_
  intro X hl hY C hr
  subst hl
  subst hY
  have hM : S.1 26 0 = nI (V 0 0) := h.1 0 (by decide)
  have hK : S.1 26 1 = nI (V 0 1) := h.1 1 (by decide)
  have o1 := ho.1
  have o2 := ho.2.1
  show Zj X S [some (.ref (ad (xY X) 0)), some (.int x), some (.int y)] 0 []
  refine z_aload0 C dX7_at_0 ?_
  refine z_iload1 C dX7_at_1 ?_
  refine z_callVI C dX7_at_2 (c_X7_hasMonk hK) gX7_at_X7_hasMonk md_X7_hasMonk rfl (by decide) (k_EM _) rfl rfl rfl (Nat.le_of_ble_eq_true rfl) ?_
  refine z_if_neB C 10 dX7_at_5 (by decide) (fun c5 => ?_) (fun c5 => ?_)
  · obtain ⟨k, hk, rfl⟩ := inR_of (by omega) c5
    refine z_iload2 C dX7_at_10 ?_
    refine z_name (fun x11 e11 => ?_)
    rcases sw_0_3 x11 with rfl | rfl | rfl | o11
    · refine z_tabIn (off := 25) C 36 dX7_at_11 (by decide) (by decide) (by decide) (by decide) ?_
      refine z_aload0 C dX7_at_36 ?_
      refine z_get C dX7_at_37 fl_X7_at_10 (k_EM _) rfl ?_
      refine z_get C dX7_at_40 fl_X7_at_121 (k_Rock _ isR_now) rfl ?_
      refine z_iload1 C dX7_at_43 ?_
      refine z_iald C dX7_at_44 (k_kind _ isR_now) (by omega) ?_
      exact z_iretP C dX7_at_45 hr rfl ⟨by subst e11; rw [aAt_y hk o2, if_pos rfl]; exact (h.2.2 k hk).1, Fr.rf⟩
    · refine z_tabIn (off := 35) C 46 dX7_at_11 (by decide) (by decide) (by decide) (by decide) ?_
      refine z_aload0 C dX7_at_46 ?_
      refine z_get C dX7_at_47 fl_X7_at_10 (k_EM _) rfl ?_
      refine z_get C dX7_at_50 fl_X7_at_124 (k_Rock _ isR_now) rfl ?_
      refine z_iload1 C dX7_at_53 ?_
      refine z_iald C dX7_at_54 (k_size _ isR_now) (by omega) ?_
      exact z_iretP C dX7_at_55 hr rfl ⟨by subst e11; rw [aAt_y hk o2, if_neg (by decide), if_pos rfl]; exact (h.2.2 k hk).2.1, Fr.rf⟩
    · refine z_tabIn (off := 45) C 56 dX7_at_11 (by decide) (by decide) (by decide) (by decide) ?_
      refine z_aload0 C dX7_at_56 ?_
      refine z_get C dX7_at_57 fl_X7_at_10 (k_EM _) rfl ?_
      refine z_get C dX7_at_60 fl_X7_at_127 (k_Rock _ isR_now) rfl ?_
      refine z_iload1 C dX7_at_63 ?_
      refine z_iald C dX7_at_64 (k_sent _ isR_now) (by omega) ?_
      exact z_iretP C dX7_at_65 hr rfl ⟨by subst e11; rw [aAt_y hk o2, if_neg (by decide), if_neg (by decide), if_pos rfl]; exact (h.2.2 k hk).2.2, Fr.rf⟩
    · refine z_tabOut C 66 dX7_at_11 o11 (by decide) ?_
      refine z_iconst (v := (-1)) C dX7_at_66 (by decide) ?_
      exact z_iretP C dX7_at_67 hr rfl ⟨by rw [aAt_y hk o2, if_neg (sw_ne (n := 2) (by rw [← e11]; exact o11) (show 0 ≤ 2 by decide) (by decide)), if_neg (sw_ne (n := 2) (by rw [← e11]; exact o11) (show 1 ≤ 2 by decide) (by decide)), if_neg (sw_ne (n := 2) (by rw [← e11]; exact o11) (show 2 ≤ 2 by decide) (by decide))], Fr.rf⟩
  · refine z_iconst (v := (-1)) C dX7_at_8 (by decide) ?_
    exact z_iretP C dX7_at_9 hr rfl ⟨by rw [aAt_n c5], Fr.rf⟩

set_option maxRecDepth 20000 in
theorem fl_X8_at_7 : FL RX8 wsX8_at 7 8 0 := ⟨RX8, TX8, 15, rfl, (fun w h => List.mem_cons_of_mem _ (List.mem_append_right _ h)), by decide, by decide +kernel⟩
set_option maxHeartbeats 4000000 in
set_option maxRecDepth 100000 in
theorem c_X8_at {l : Launch} {Y : LY} {S : GS} {V : VR} (h : HW (S.1 179) 0 V) (ho : Ok V) {x y : Int32} : CtP l yX8_at wsX8_at 4 Y [.ref (ad Y 178), .int x, .int y] S (fun r u => r = aAt V x y ∧ FrM S u) := by
  refine mkP (cc := cX8_at) (maxL := 3) rfl rfl (Nat.le_of_ble_eq_true rfl) ?_
  intro X hl hY C hr
  subst hl
  subst hY
  have hM : S.1 179 0 = nI (V 0 0) := h.1.1
  have hK : S.1 179 1 = nI (V 0 1) := h.1.2.1
  have o1 := ho.1
  have o2 := ho.2.1
  show Zj X S [some (.ref (ad (xY X) 178)), some (.int x), some (.int y)] 0 []
  refine z_aload0 C dX8_at_0 ?_
  refine z_iload1 C dX8_at_1 ?_
  refine z_callVI C dX8_at_2 (c_X8_isMonk2 ho.2.1 hK) gX8_at_X8_isMonk md_X8_isMonk rfl (by decide) (k_Model _) rfl rfl rfl (Nat.le_of_ble_eq_true rfl) ?_
  refine z_if_neB C 10 dX8_at_5 (by decide) (fun c5 => ?_) (fun c5 => ?_)
  · obtain ⟨k, hk, rfl⟩ := inR_of (by omega) c5
    refine z_iload2 C dX8_at_10 ?_
    refine z_if_ne C 26 dX8_at_11 (by decide) (fun c11 => ?_) (fun c11 => ?_)
    · refine z_iload2 C dX8_at_26 ?_
      refine z_iconstN 1 C dX8_at_27 ?_
      refine z_icmp_ne C 43 dX8_at_28 (by decide) (fun c28 => ?_) (fun c28 => ?_)
      · refine z_iload2 C dX8_at_43 ?_
        refine z_iconstN 2 C dX8_at_44 ?_
        refine z_icmp_ne C 60 dX8_at_45 (by decide) (fun c45 => ?_) (fun c45 => ?_)
        · refine z_iconst (v := (-1)) C dX8_at_60 (by decide) ?_
          exact z_iretP C dX8_at_61 hr rfl ⟨by rw [aAt_y hk o2, nI0]; first | (rw [if_pos c11]; exact (by have q := (h.2.2 k hk).1; rw [Nat.zero_add] at q; exact q)) | (rw [if_neg c11, if_pos c28]; exact (by have q := (h.2.2 k hk).2.1; rw [Nat.zero_add] at q; exact q)) | (rw [if_neg c11, if_neg c28, if_pos c45]; exact (by have q := (h.2.2 k hk).2.2; rw [Nat.zero_add] at q; exact q)) | (rw [if_neg c11, if_neg c28, if_neg c45]), FrM.rf⟩
        · refine z_aload0 C dX8_at_48 ?_
          refine z_get C dX8_at_49 fl_X8_at_7 (k_Model _) rfl ?_
          refine z_bipush (v := nI 28) C dX8_at_52 (by decide) ?_
          refine z_iload1 C dX8_at_54 ?_
          refine z_iaddN C dX8_at_55 ?_
          refine z_iald C dX8_at_56 (k_i179 _) (by omega) ?_
          refine z_goto C 61 dX8_at_57 (by decide) ?_
          exact z_iretP C dX8_at_61 hr rfl ⟨by rw [aAt_y hk o2, nI0]; first | (rw [if_pos c11]; exact (by have q := (h.2.2 k hk).1; rw [Nat.zero_add] at q; exact q)) | (rw [if_neg c11, if_pos c28]; exact (by have q := (h.2.2 k hk).2.1; rw [Nat.zero_add] at q; exact q)) | (rw [if_neg c11, if_neg c28, if_pos c45]; exact (by have q := (h.2.2 k hk).2.2; rw [Nat.zero_add] at q; exact q)) | (rw [if_neg c11, if_neg c28, if_neg c45]), FrM.rf⟩
      · refine z_aload0 C dX8_at_31 ?_
        refine z_get C dX8_at_32 fl_X8_at_7 (k_Model _) rfl ?_
        refine z_bipush (v := nI 23) C dX8_at_35 (by decide) ?_
        refine z_iload1 C dX8_at_37 ?_
        refine z_iaddN C dX8_at_38 ?_
        refine z_iald C dX8_at_39 (k_i179 _) (by omega) ?_
        refine z_goto C 61 dX8_at_40 (by decide) ?_
        exact z_iretP C dX8_at_61 hr rfl ⟨by rw [aAt_y hk o2, nI0]; first | (rw [if_pos c11]; exact (by have q := (h.2.2 k hk).1; rw [Nat.zero_add] at q; exact q)) | (rw [if_neg c11, if_pos c28]; exact (by have q := (h.2.2 k hk).2.1; rw [Nat.zero_add] at q; exact q)) | (rw [if_neg c11, if_neg c28, if_pos c45]; exact (by have q := (h.2.2 k hk).2.2; rw [Nat.zero_add] at q; exact q)) | (rw [if_neg c11, if_neg c28, if_neg c45]), FrM.rf⟩
    · refine z_aload0 C dX8_at_14 ?_
      refine z_get C dX8_at_15 fl_X8_at_7 (k_Model _) rfl ?_
      refine z_bipush (v := nI 39) C dX8_at_18 (by decide) ?_
      refine z_iload1 C dX8_at_20 ?_
      refine z_iaddN C dX8_at_21 ?_
      refine z_iald C dX8_at_22 (k_i179 _) (by omega) ?_
      refine z_goto C 61 dX8_at_23 (by decide) ?_
      exact z_iretP C dX8_at_61 hr rfl ⟨by rw [aAt_y hk o2, nI0]; first | (rw [if_pos c11]; exact (by have q := (h.2.2 k hk).1; rw [Nat.zero_add] at q; exact q)) | (rw [if_neg c11, if_pos c28]; exact (by have q := (h.2.2 k hk).2.1; rw [Nat.zero_add] at q; exact q)) | (rw [if_neg c11, if_neg c28, if_pos c45]; exact (by have q := (h.2.2 k hk).2.2; rw [Nat.zero_add] at q; exact q)) | (rw [if_neg c11, if_neg c28, if_neg c45]), FrM.rf⟩
  · refine z_iconst (v := (-1)) C dX8_at_8 (by decide) ?_
    exact z_iretP C dX8_at_9 hr rfl ⟨by rw [aAt_n c5], FrM.rf⟩
