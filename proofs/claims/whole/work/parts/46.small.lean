set_option maxRecDepth 20000 in
theorem fl_X7_small_42 : FL RX7 wsX7_small 42 7 7 := ⟨RX7, TX7, 12, rfl, (fun w h => List.mem_cons_of_mem _ (List.mem_append_left _ (List.mem_append_right _ h))), by decide, by decide +kernel⟩
set_option maxRecDepth 20000 in
theorem fl_X7_small_124 : FL RX7 wsX7_small 124 2 10 := ⟨RX2, TX2, 12, rfl, (fun w h => List.mem_cons_of_mem _ (List.mem_append_right _ h)), by decide, by decide +kernel⟩
set_option maxRecDepth 20000 in
theorem fl_X7_small_10 : FL RX7 wsX7_small 10 7 0 := ⟨RX7, TX7, 12, rfl, (fun w h => List.mem_cons_of_mem _ (List.mem_append_left _ (List.mem_append_right _ h))), by decide, by decide +kernel⟩
theorem md_X2_markAsIn : MD yX2_markAsIn wsX2_markAsIn 2 3 none := ⟨_, _, rfl, by decide, by decide +kernel, by decide +kernel, by decide +kernel⟩
set_option maxHeartbeats 4000000 in
set_option maxRecDepth 100000 in
theorem lp_X7_small {X : CX} {S : GS} {V : VR} {k m : Nat} (hk : k < V 0 1) (hm : m < V 0 0) (h5 : V 0 1 ≤ 5) (h6 : V 0 0 ≤ 6) (hr : RtP X .int (fun r u => r = aSmall V (nI k) (nI m) ∧ Fr scr S u)) (C : Cx X cX7_small RX7 wsX7_small 5) : ∀ (n : Nat) (i : Nat) (T : GS) (U : VR), i + n = 100 → HC T 42 U → Ok U → Ex U V k → HC T 26 V → Ok V → Fr scr S T → sml k m 100 0 V = sml k m n i V → Zj X T [some (.ref (ad (xY X) 0)), some (.int (nI (k))), some (.int (nI (m))), some (.int (nI (i)))] 31 [] := by
  intro n
  induction n with
  | zero =>
    intro i T U hi h ho hu hn hov hf hg
    refine z_iload3 C dX7_small_31 ?_
    refine z_bipush (v := nI 99) C dX7_small_32 (by decide) ?_
    refine z_icmp_gtN C 90 dX7_small_34 (by decide) (by omega) (by omega) (fun c34 => ?_) (fun c34 => ?_)
    · refine z_bipush (v := (-4)) C dX7_small_90 (by decide) ?_
      exact z_iretP C dX7_small_92 hr rfl ⟨by rw [aSmall_y hk hm h5 h6, hg]; rfl, hf⟩
    · exact absurd c34 (by omega)
  | succ n ih =>
    intro i T U hi h ho hu hn hov hf hg
    have u0 : U 0 0 = V 0 0 := hu 0 0 (by omega) (by omega)
    have u1 : U 0 1 = V 0 1 := hu 0 1 (by omega) (by omega)
    have hw : HC (stI T 48 k (nI i)) 42 (vs U 6 k i) := HC_size h
    have hwo : Ok (vs U 6 k i) := Ok_size ho (by omega)
    obtain ⟨q1, q2, q3, q4⟩ := HC_RT (k := k) (m := m) 60 _ _ hw hwo (by rw [vs_no (by omega), u1]; exact hk) (by rw [vs_no (by omega), u0]; exact hm)
    have q5 : rG (cRT 42 k m 60 (stI T 48 k (nI i))) 42 m ↔ vG (vRT k m 60 (vs V 6 k i)) m := by
      rw [rG_iff q1 q2 (by rw [q4 0 (by decide), vs_no (by omega), u0]; exact hm)]
      have e3 := E3_RT (k := k) (m := m) 60 _ _ (Ex_E3 (s := i) hu)
      unfold vG
      rw [e3 1 m (by omega), e3 3 m (by omega)]
    have hn2 : HC (cRT 42 k m 60 (stI T 48 k (nI i))) 26 V := HC_fr (HC_of hn (fun o h1 h2 => stI_no (by omega))) (cRT_fr 60 _) (fun o h1 h2 h3 => by omega)
    have q6 : Fr scr S (cRT 42 k m 60 (stI T 48 k (nI i))) := hf.tr (fr_tr ((Fr.I ⟨by omega, by omega⟩).tr (cRT_fr 60 _)))
    refine z_iload3 C dX7_small_31 ?_
    refine z_bipush (v := nI 99) C dX7_small_32 (by decide) ?_
    refine z_icmp_gtN C 90 dX7_small_34 (by decide) (by omega) (by omega) (fun c34 => ?_) (fun c34 => ?_)
    · exact absurd c34 (by omega)
    · refine z_aload0 C dX7_small_37 ?_
      refine z_get C dX7_small_38 fl_X7_small_42 (k_EM _) rfl ?_
      refine z_get C dX7_small_41 fl_X7_small_124 (k_Rock _ isR_trial) rfl ?_
      refine z_iload1 C dX7_small_44 ?_
      refine z_iload3 C dX7_small_45 ?_
      refine z_iast C dX7_small_46 (k_size _ isR_trial) (by omega) ?_
      refine z_aload0 C dX7_small_47 ?_
      refine z_get C dX7_small_48 fl_X7_small_42 (k_EM _) rfl ?_
      refine z_iload1 C dX7_small_51 ?_
      refine z_iload2 C dX7_small_52 ?_
      refine z_bipush (v := nI 60) C dX7_small_53 (by decide) ?_
      refine z_callVI C dX7_small_55 (c_X2_rubTimes isR_trial (by omega) (by omega) (by decide)) gX7_small_X2_rubTimes md_X2_rubTimes rfl (by decide) (k_Rock _ isR_trial) rfl rfl rfl (Nat.le_of_ble_eq_true rfl) ?_
      refine z_pop C dX7_small_58 rfl ?_
      refine z_aload0 C dX7_small_59 ?_
      refine z_get C dX7_small_60 fl_X7_small_42 (k_EM _) rfl ?_
      refine z_iload2 C dX7_small_63 ?_
      refine z_callVI C dX7_small_64 (c_X2_isGone isR_trial (by omega)) gX7_small_X2_isGone md_X2_isGone rfl (by decide) (k_Rock _ isR_trial) rfl rfl rfl (Nat.le_of_ble_eq_true rfl) ?_
      refine z_if_eqB C 72 dX7_small_67 (by decide) (fun c67 => ?_) (fun c67 => ?_)
      · refine z_aload0 C dX7_small_72 ?_
        refine z_get C dX7_small_73 fl_X7_small_42 (k_EM _) rfl ?_
        refine z_aload0 C dX7_small_76 ?_
        refine z_get C dX7_small_77 fl_X7_small_10 (k_EM _) rfl ?_
        refine z_iload2 C dX7_small_80 ?_
        refine z_callVV C dX7_small_81 (c_X2_markAsIn isR_trial isR_now (by omega)) gX7_small_X2_markAsIn md_X2_markAsIn rfl (by decide) (k_Rock _ isR_trial) rfl rfl rfl (Nat.le_of_ble_eq_true rfl) ?_
        refine z_iinc3 C dX7_small_84 (inc1 _) nl_i ?_
        refine z_goto C 31 dX7_small_87 (by decide) ?_
        refine ih (i + 1) _ _ (by omega) (HC_MI dis_tn q1 hn2 hm) ?_ (Ex_MI hu) (HC_fr hn2 cMI_fr (fun o h1 h2 h3 => by omega)) hov (q6.tr (fr_tr cMI_fr)) (hg.trans (sml_n (fun z => c67 (q5.mpr z))))
        refine Ok_Ex hov (Ex_MI hu) ?_
        unfold vMI
        rw [if_neg (fun z => by omega)]
        exact (q2.2.2.2 k (by rw [q4 1 (by decide), vs_no (by omega), u1]; exact hk)).2.1
      · refine z_iload3 C dX7_small_70 ?_
        exact z_iretP C dX7_small_71 hr rfl ⟨by rw [aSmall_y hk hm h5 h6, hg, sml_y (q5.mp c67)], q6⟩

set_option maxHeartbeats 4000000 in
set_option maxRecDepth 100000 in
theorem c_X7_small {l : Launch} {Y : LY} {S : GS} {V : VR} (h : HC S 26 V) (ho : Ok V) {x y : Int32} : CtP l yX7_small wsX7_small 5 Y [.ref (ad Y 0), .int x, .int y] S (fun r u => r = aSmall V x y ∧ Fr scr S u) := by
  refine mkP (cc := cX7_small) (maxL := 4) rfl rfl (Nat.le_of_ble_eq_true rfl) ?_
  intro X hl hY C hr
  subst hl
  subst hY
  have hM : S.1 26 0 = nI (V 0 0) := h.1 0 (by decide)
  have hK : S.1 26 1 = nI (V 0 1) := h.1 1 (by decide)
  have o1 := ho.1
  have o2 := ho.2.1
  show Zj X S [some (.ref (ad (xY X) 0)), some (.int x), some (.int y), none] 0 []
  refine z_aload0 C dX7_small_0 ?_
  refine z_iload1 C dX7_small_1 ?_
  refine z_callVI C dX7_small_2 (c_X7_hasMonk hK) gX7_small_X7_hasMonk md_X7_hasMonk rfl (by decide) (k_EM _) rfl rfl rfl (Nat.le_of_ble_eq_true rfl) ?_
  refine z_if_eqB C 16 dX7_small_5 (by decide) (fun c5 => ?_) (fun c5 => ?_)
  · refine z_iconst (v := (-1)) C dX7_small_16 (by decide) ?_
    exact z_iretP C dX7_small_17 hr rfl ⟨by rw [aSmall_n (by rintro ⟨h1, h2⟩; contradiction)], Fr.rf⟩
  · refine z_aload0 C dX7_small_8 ?_
    refine z_iload2 C dX7_small_9 ?_
    refine z_callVI C dX7_small_10 (c_X7_hasMark hM) gX7_small_X7_hasMark md_X7_hasMark rfl (by decide) (k_EM _) rfl rfl rfl (Nat.le_of_ble_eq_true rfl) ?_
    refine z_if_neB C 18 dX7_small_13 (by decide) (fun c13 => ?_) (fun c13 => ?_)
    · obtain ⟨k, hk, rfl⟩ := inR_of (by omega) c5
      obtain ⟨m, hm, rfl⟩ := inR_of (by omega) c13
      refine z_aload0 C dX7_small_18 ?_
      refine z_get C dX7_small_19 fl_X7_small_42 (k_EM _) rfl ?_
      refine z_aload0 C dX7_small_22 ?_
      refine z_get C dX7_small_23 fl_X7_small_10 (k_EM _) rfl ?_
      refine z_callVV C dX7_small_26 (c_X2_become isR_trial isR_now) gX7_small_X2_become md_X2_become rfl (by decide) (k_Rock _ isR_trial) rfl rfl rfl (Nat.le_of_ble_eq_true rfl) ?_
      refine z_iconstN 0 C dX7_small_29 ?_
      refine z_istore3 C dX7_small_30 nl_i ?_
      exact lp_X7_small hk hm o2 o1 hr C 100 0 _ V (by decide) (HC_bec dis_tn h ho) ho (fun _ _ _ _ => rfl) (HC_keep dis_tn h) ho (fr_tr cBec_fr) rfl
    · refine z_iconst (v := (-1)) C dX7_small_16 (by decide) ?_
      exact z_iretP C dX7_small_17 hr rfl ⟨by rw [aSmall_n (by rintro ⟨h1, h2⟩; contradiction)], Fr.rf⟩

set_option maxHeartbeats 4000000 in
set_option maxRecDepth 100000 in
theorem lw_X8_small {X : CX} {k m s : Nat} (C : Cx X cX8_small RX8 wsX8_small 5) : ∀ (n : Nat) (T : GS) (U : VR), HW (T.1 179) 586 U → Ok U → k < U 0 1 → m < U 0 0 → 20 ≤ U 4 m + n → Zj X (mRT 586 k m n T) [some (.ref (ad (xY X) 178)), some (.int (nI (k))), some (.int (nI (m))), some (.int (nI (s)))] 65 [] → Zj X T [some (.ref (ad (xY X) 178)), some (.int (nI (k))), some (.int (nI (m))), some (.int (nI (s)))] 41 [] := by
  intro n
  induction n with
  | zero =>
    intro T U h ho hk hm hw kk
    have o1 := ho.1
    have o2 := ho.2.1
    refine z_aload0 C dX8_small_41 ?_
    refine z_sipush (v := nI 586) C dX8_small_42 (by decide) ?_
    refine z_iload1 C dX8_small_45 ?_
    refine z_iload2 C dX8_small_46 ?_
    refine z_callVI C dX8_small_47 (c_X8_canRub (by omega) (by omega) (by omega)) gX8_small_X8_canRub md_X8_canRub rfl (by decide) (k_Model _) rfl rfl rfl (Nat.le_of_ble_eq_true rfl) ?_
    refine z_if_eqB C 65 dX8_small_50 (by decide) (fun c50 => ?_) (fun c50 => ?_)
    · exact kk
    · exact absurd ((mC_iff h ho hk hm).mp c50).2.2 (fun z => z (by show 20 ≤ U 4 m; omega))
  | succ n ih =>
    intro T U h ho hk hm hw kk
    have o1 := ho.1
    have o2 := ho.2.1
    have hi := mC_iff h ho hk hm
    refine z_aload0 C dX8_small_41 ?_
    refine z_sipush (v := nI 586) C dX8_small_42 (by decide) ?_
    refine z_iload1 C dX8_small_45 ?_
    refine z_iload2 C dX8_small_46 ?_
    refine z_callVI C dX8_small_47 (c_X8_canRub (by omega) (by omega) (by omega)) gX8_small_X8_canRub md_X8_canRub rfl (by decide) (k_Model _) rfl rfl rfl (Nat.le_of_ble_eq_true rfl) ?_
    refine z_if_eqB C 65 dX8_small_50 (by decide) (fun c50 => ?_) (fun c50 => ?_)
    · simp only [mRT, if_neg c50] at kk
      exact kk
    · refine z_aload0 C dX8_small_53 ?_
      refine z_sipush (v := nI 586) C dX8_small_54 (by decide) ?_
      refine z_iload1 C dX8_small_57 ?_
      refine z_iload2 C dX8_small_58 ?_
      refine z_callVV C dX8_small_59 (c_X8_rubs (by omega) (by omega) (by omega)) gX8_small_X8_rubs md_X8_rubs rfl (by decide) (k_Model _) rfl rfl rfl (Nat.le_of_ble_eq_true rfl) ?_
      refine z_goto C 41 dX8_small_62 (by decide) ?_
      simp only [mRT, if_pos c50] at kk
      refine ih _ _ (HW_rub h ho hk hm) (Ok_rub ho hk hm) (by rw [vRub_hd (by decide)]; exact hk) (by rw [vRub_hd (by decide)]; exact hm) ?_ kk
      have e4 : vRub U k m 4 m = rbW U k m := by simp [vRub]
      have w1 := wolN_in (U 5 k)
      rw [e4]
      unfold rbW
      omega

set_option maxRecDepth 20000 in
theorem fl_X8_small_7 : FL RX8 wsX8_small 7 8 0 := ⟨RX8, TX8, 15, rfl, (fun w h => List.mem_cons_of_mem _ (List.mem_append_right _ h)), by decide, by decide +kernel⟩
set_option maxHeartbeats 4000000 in
set_option maxRecDepth 100000 in
theorem lp_X8_small {X : CX} {S : GS} {V : VR} {k m : Nat} (hk : k < V 0 1) (hm : m < V 0 0) (h5 : V 0 1 ≤ 5) (h6 : V 0 0 ≤ 6) (h : HW (S.1 179) 0 V) (ho : Ok V) (hr : RtP X .int (fun r u => r = aSmall V (nI k) (nI m) ∧ FrM S u)) (C : Cx X cX8_small RX8 wsX8_small 5) : ∀ (n : Nat) (i : Nat) (T : GS), i + n = 100 → FrM S T → sml k m 100 0 V = sml k m n i V → Zj X T [some (.ref (ad (xY X) 178)), some (.int (nI (k))), some (.int (nI (m))), some (.int (nI (i)))] 20 [] := by
  intro n
  induction n with
  | zero =>
    intro i T hi hf hg
    refine z_iload3 C dX8_small_20 ?_
    refine z_bipush (v := nI 100) C dX8_small_21 (by decide) ?_
    refine z_icmp_geN C 84 dX8_small_23 (by decide) (by omega) (by omega) (fun c23 => ?_) (fun c23 => ?_)
    · refine z_bipush (v := (-4)) C dX8_small_84 (by decide) ?_
      exact z_iretP C dX8_small_86 hr rfl ⟨by rw [aSmall_y hk hm h5 h6, hg]; rfl, hf⟩
    · exact absurd c23 (by omega)
  | succ n ih =>
    intro i T hi hf hg
    have h0 := HW_low h ho hf
    have hw : HW ((stI (mTr T) 179 (586 + 23 + k) (nI i)).1 179) 586 (vs V 6 k i) := HW_size (by omega) (HW_tr h0 ho) ho
    have hwo : Ok (vs V 6 k i) := Ok_size ho (by omega)
    have hk' : k < vs V 6 k i 0 1 := by rw [vs_no (by omega)]; exact hk
    have hm' : m < vs V 6 k i 0 0 := by rw [vs_no (by omega)]; exact hm
    obtain ⟨q1, q2, q3⟩ := HW_RT (k := k) (m := m) 60 _ _ hw hwo hk' hm'
    have q5 := mG_iff q1 q2 (m := m) (by rw [vRT_hd (by decide)]; exact hm')
    have q6 : FrM S (mRT 586 k m 60 (stI (mTr T) 179 (586 + 23 + k) (nI i))) := (hf.tr mTr_fr).tr ((FrM.of Fr.M (fun i hi => stI_ni (by omega))).tr (mRT_M (by omega) (by omega) 60 _))
    refine z_iload3 C dX8_small_20 ?_
    refine z_bipush (v := nI 100) C dX8_small_21 (by decide) ?_
    refine z_icmp_geN C 84 dX8_small_23 (by decide) (by omega) (by omega) (fun c23 => ?_) (fun c23 => ?_)
    · exact absurd c23 (by omega)
    · refine z_aload0 C dX8_small_26 ?_
      refine z_callVV C dX8_small_27 c_X8_tries gX8_small_X8_tries md_X8_tries rfl (by decide) (k_Model _) rfl rfl rfl (Nat.le_of_ble_eq_true rfl) ?_
      refine z_aload0 C dX8_small_30 ?_
      refine z_get C dX8_small_31 fl_X8_small_7 (k_Model _) rfl ?_
      refine z_sipush (v := nI 609) C dX8_small_34 (by decide) ?_
      refine z_iload1 C dX8_small_37 ?_
      refine z_iaddN C dX8_small_38 ?_
      refine z_iload3 C dX8_small_39 ?_
      refine z_iast C dX8_small_40 (k_i179 _) (by omega) ?_
      rw [show 609 + k = 586 + 23 + k by omega]
      refine lw_X8_small C 60 _ _ hw hwo hk' hm' (by omega) ?_
      refine z_aload0 C dX8_small_65 ?_
      refine z_sipush (v := nI 586) C dX8_small_66 (by decide) ?_
      refine z_iload2 C dX8_small_69 ?_
      refine z_callVI C dX8_small_70 (c_X8_isGone (by omega) (by omega)) gX8_small_X8_isGone md_X8_isGone rfl (by decide) (k_Model _) rfl rfl rfl (Nat.le_of_ble_eq_true rfl) ?_
      refine z_if_eqB C 78 dX8_small_73 (by decide) (fun c73 => ?_) (fun c73 => ?_)
      · refine z_iinc3 C dX8_small_78 (inc1 _) nl_i ?_
        refine z_goto C 20 dX8_small_81 (by decide) ?_
        exact ih (i + 1) _ (by omega) q6 (hg.trans (sml_n (fun z => c73 (q5.mpr z))))
      · refine z_iload3 C dX8_small_76 ?_
        exact z_iretP C dX8_small_77 hr rfl ⟨by rw [aSmall_y hk hm h5 h6, hg, sml_y (q5.mp c73)], q6⟩

set_option maxHeartbeats 4000000 in
set_option maxRecDepth 100000 in
theorem c_X8_small {l : Launch} {Y : LY} {S : GS} {V : VR} (h : HW (S.1 179) 0 V) (ho : Ok V) {x y : Int32} : CtP l yX8_small wsX8_small 5 Y [.ref (ad Y 178), .int x, .int y] S (fun r u => r = aSmall V x y ∧ FrM S u) := by
  refine mkP (cc := cX8_small) (maxL := 4) rfl rfl (Nat.le_of_ble_eq_true rfl) ?_
  intro X hl hY C hr
  subst hl
  subst hY
  have hM : S.1 179 0 = nI (V 0 0) := h.1.1
  have hK : S.1 179 1 = nI (V 0 1) := h.1.2.1
  have o1 := ho.1
  have o2 := ho.2.1
  show Zj X S [some (.ref (ad (xY X) 178)), some (.int x), some (.int y), none] 0 []
  refine z_aload0 C dX8_small_0 ?_
  refine z_iload1 C dX8_small_1 ?_
  refine z_callVI C dX8_small_2 (c_X8_isMonk2 ho.2.1 hK) gX8_small_X8_isMonk md_X8_isMonk rfl (by decide) (k_Model _) rfl rfl rfl (Nat.le_of_ble_eq_true rfl) ?_
  refine z_if_eqB C 16 dX8_small_5 (by decide) (fun c5 => ?_) (fun c5 => ?_)
  · refine z_iconst (v := (-1)) C dX8_small_16 (by decide) ?_
    exact z_iretP C dX8_small_17 hr rfl ⟨by rw [aSmall_n (by rintro ⟨h1, h2⟩; contradiction)], FrM.rf⟩
  · refine z_aload0 C dX8_small_8 ?_
    refine z_iload2 C dX8_small_9 ?_
    refine z_callVI C dX8_small_10 (c_X8_isMark2 ho.1 hM) gX8_small_X8_isMark md_X8_isMark rfl (by decide) (k_Model _) rfl rfl rfl (Nat.le_of_ble_eq_true rfl) ?_
    refine z_if_neB C 18 dX8_small_13 (by decide) (fun c13 => ?_) (fun c13 => ?_)
    · obtain ⟨k, hk, rfl⟩ := inR_of (by omega) c5
      obtain ⟨m, hm, rfl⟩ := inR_of (by omega) c13
      refine z_iconstN 0 C dX8_small_18 ?_
      refine z_istore3 C dX8_small_19 nl_i ?_
      exact lp_X8_small hk hm o2 o1 h ho hr C 100 0 _ (by decide) FrM.rf rfl
    · refine z_iconst (v := (-1)) C dX8_small_16 (by decide) ?_
      exact z_iretP C dX8_small_17 hr rfl ⟨by rw [aSmall_n (by rintro ⟨h1, h2⟩; contradiction)], FrM.rf⟩
