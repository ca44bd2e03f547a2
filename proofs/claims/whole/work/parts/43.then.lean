theorem aThen_y {V : VR} {n : Nat} {y : Int32} (hn : n ≤ 60) (hy : inB y 0 2) : aThen V (nI n) y = if y = nI 0 then goneV (vDays V n) else if y = nI 1 then tornV (vDays V n) else nI (vDays V n 0 3) := by
  unfold aThen
  rw [if_pos ⟨inB_nI (by omega) hn (by decide), hy⟩, nI_clamp (by omega)]
theorem aThen_n {V : VR} {x y : Int32} (h : ¬ (inB x 0 60 ∧ inB y 0 2)) : aThen V x y = -1 := if_neg h

set_option maxRecDepth 20000 in
theorem fl_X7_then_42 : FL RX7 wsX7_then 42 7 7 := ⟨RX7, TX7, 12, rfl, (fun w h => List.mem_cons_of_mem _ (List.mem_append_left _ (List.mem_append_right _ h))), by decide, by decide +kernel⟩
theorem md_X2_goneSet : MD yX2_goneSet wsX2_goneSet 0 3 (some .int) := ⟨_, _, rfl, by decide, by decide +kernel, by decide +kernel, by decide +kernel⟩
theorem md_X2_tornSet : MD yX2_tornSet wsX2_tornSet 0 3 (some .int) := ⟨_, _, rfl, by decide, by decide +kernel, by decide +kernel, by decide +kernel⟩
set_option maxRecDepth 20000 in
theorem fl_X7_then_150 : FL RX7 wsX7_then 150 2 3 := ⟨RX2, TX2, 12, rfl, (fun w h => List.mem_cons_of_mem _ (List.mem_append_right _ h)), by decide, by decide +kernel⟩
set_option maxHeartbeats 4000000 in
set_option maxRecDepth 100000 in
theorem c_X7_then {l : Launch} {Y : LY} {S : GS} {V : VR} (h : HC S 26 V) (ho : Ok V) {x y : Int32} : CtP l yX7_then wsX7_then 6 Y [.ref (ad Y 0), .int x, .int y] S (fun r u => r = aThen V x y ∧ Fr scr S u) := by
  refine mkP (cc := cX7_then) (maxL := 3) rfl rfl (Nat.le_of_ble_eq_true rfl) ?_
  intro X hl hY C hr
  subst hl
  subst hY
  have hM : S.1 26 0 = nI (V 0 0) := h.1 0 (by decide)
  have hK : S.1 26 1 = nI (V 0 1) := h.1 1 (by decide)
  have o1 := ho.1
  have o2 := ho.2.1
  show Zj X S [some (.ref (ad (xY X) 0)), some (.int x), some (.int y)] 0 []
  refine z_iload1 C dX7_then_0 ?_
  refine z_iconstN 0 C dX7_then_1 ?_
  refine z_bipush (v := nI 60) C dX7_then_2 (by decide) ?_
  refine z_callSI C dX7_then_4 c_X7_within gX7_then_X7_within md_X7_within (by decide) rfl rfl (Nat.le_of_ble_eq_true rfl) ?_
  refine z_if_eqB C 19 dX7_then_7 (by decide) (fun c7 => ?_) (fun c7 => ?_)
  · refine z_iconst (v := (-1)) C dX7_then_19 (by decide) ?_
    exact z_iretP C dX7_then_20 hr rfl ⟨by rw [aThen_n (by rintro ⟨h1, h2⟩; contradiction)], Fr.rf⟩
  · refine z_iload2 C dX7_then_10 ?_
    refine z_iconstN 0 C dX7_then_11 ?_
    refine z_iconstN 2 C dX7_then_12 ?_
    refine z_callSI C dX7_then_13 c_X7_within gX7_then_X7_within md_X7_within (by decide) rfl rfl (Nat.le_of_ble_eq_true rfl) ?_
    refine z_if_neB C 21 dX7_then_16 (by decide) (fun c16 => ?_) (fun c16 => ?_)
    · obtain ⟨n, -, hn, rfl⟩ := inB_of (by decide) c7 (by decide)
      obtain ⟨q1, q2, q3⟩ := HC_Ft h ho n
      have hq : (cFt S n (V 0 1)).1 42 0 = nI (vDays V n 0 0) := q1.1 0 (by decide)
      have hq0 := q2.1
      refine z_aload0 C dX7_then_21 ?_
      refine z_iload1 C dX7_then_22 ?_
      refine z_callVV C dX7_then_23 (c_X7_foretell h ho (by omega)) gX7_then_X7_foretell md_X7_foretell rfl (by decide) (k_EM _) rfl rfl rfl (Nat.le_of_ble_eq_true rfl) ?_
      refine z_iload2 C dX7_then_26 ?_
      refine z_name (fun x27 e27 => ?_)
      rcases sw_0_1 x27 with rfl | rfl | o27
      · refine z_look (off := 25) C 52 dX7_then_27 (by decide) (by decide) (by decide) ?_
        refine z_aload0 C dX7_then_52 ?_
        refine z_get C dX7_then_53 fl_X7_then_42 (k_EM _) rfl ?_
        refine z_callVI C dX7_then_56 (c_X2_goneSet isR_trial hq0 hq) gX7_then_X2_goneSet md_X2_goneSet rfl (by decide) (k_Rock _ isR_trial) rfl rfl rfl (Nat.le_of_ble_eq_true rfl) ?_
        exact z_iretP C dX7_then_59 hr rfl ⟨by subst e27; rw [aThen_y hn c16, if_pos rfl]; exact goneV_c q1 q2, fr_tr cFt_fr⟩
      · refine z_look (off := 33) C 60 dX7_then_27 (by decide) (by decide) (by decide) ?_
        refine z_aload0 C dX7_then_60 ?_
        refine z_get C dX7_then_61 fl_X7_then_42 (k_EM _) rfl ?_
        refine z_callVI C dX7_then_64 (c_X2_tornSet isR_trial hq0 hq) gX7_then_X2_tornSet md_X2_tornSet rfl (by decide) (k_Rock _ isR_trial) rfl rfl rfl (Nat.le_of_ble_eq_true rfl) ?_
        exact z_iretP C dX7_then_67 hr rfl ⟨by subst e27; rw [aThen_y hn c16, if_neg (by decide), if_pos rfl]; exact tornV_c q1 q2, fr_tr cFt_fr⟩
      · refine z_look (off := 41) C 68 dX7_then_27 (by decide) (by simp [Op.lookupswitch.offset, Ne.symm o27.1, Ne.symm o27.2, o27.1, o27.2]) (by decide) ?_
        refine z_aload0 C dX7_then_68 ?_
        refine z_get C dX7_then_69 fl_X7_then_42 (k_EM _) rfl ?_
        refine z_get C dX7_then_72 fl_X7_then_150 (k_Rock _ isR_trial) rfl ?_
        exact z_iretP C dX7_then_75 hr rfl ⟨by rw [aThen_y hn c16, if_neg (fun z => o27.1 (by rw [e27, z]; rfl)), if_neg (fun z => o27.2 (by rw [e27, z]; rfl))]; exact q1.1 3 (by decide), fr_tr cFt_fr⟩
    · refine z_iconst (v := (-1)) C dX7_then_19 (by decide) ?_
      exact z_iretP C dX7_then_20 hr rfl ⟨by rw [aThen_n (by rintro ⟨h1, h2⟩; contradiction)], Fr.rf⟩

theorem kl_X8_then_48 : Cond.constantLong RX8 48 (60) ∈ wsX8_then := by decide +kernel
theorem kl_X8_then_187 : Cond.constantLong RX8 187 (2) ∈ wsX8_then := by decide +kernel
set_option maxRecDepth 20000 in
theorem fl_X8_then_7 : FL RX8 wsX8_then 7 8 0 := ⟨RX8, TX8, 15, rfl, (fun w h => List.mem_cons_of_mem _ (List.mem_append_right _ h)), by decide, by decide +kernel⟩
theorem md_X8_tornOnes : MD yX8_tornOnes wsX8_tornOnes 1 4 (some .int) := ⟨_, _, rfl, by decide, by decide +kernel, by decide +kernel, by decide +kernel⟩
theorem md_X8_goneOnes : MD yX8_goneOnes wsX8_goneOnes 1 4 (some .int) := ⟨_, _, rfl, by decide, by decide +kernel, by decide +kernel, by decide +kernel⟩
set_option maxHeartbeats 4000000 in
set_option maxRecDepth 100000 in
theorem c_X8_then {l : Launch} {Y : LY} {S : GS} {V : VR} (h : HW (S.1 179) 0 V) (ho : Ok V) {x y : Int32} : CtP l yX8_then wsX8_then 5 Y [.ref (ad Y 178), .int x, .int y] S (fun r u => r = aThen V x y ∧ FrM S u) := by
  refine mkP (cc := cX8_then) (maxL := 3) rfl rfl (Nat.le_of_ble_eq_true rfl) ?_
  intro X hl hY C hr
  subst hl
  subst hY
  have hM : S.1 179 0 = nI (V 0 0) := h.1.1
  have hK : S.1 179 1 = nI (V 0 1) := h.1.2.1
  have o1 := ho.1
  have o2 := ho.2.1
  show Zj X S [some (.ref (ad (xY X) 178)), some (.int x), some (.int y)] 0 []
  refine z_iload1 C dX8_then_0 ?_
  refine z_i2l C dX8_then_1 ?_
  refine z_lconst (v := 0) C dX8_then_2 rfl ?_
  refine z_topl (y := (nI 0).toInt64) C (by decide) ?_
  refine z_ldc2 (v := 60) C dX8_then_3 kl_X8_then_48 ?_
  refine z_topl (y := (nI 60).toInt64) C (by decide) ?_
  refine z_callSI C dX8_then_6 c_X8_in gX8_then_X8_in md_X8_in (by decide) rfl rfl (Nat.le_of_ble_eq_true rfl) ?_
  refine z_if_eqB C 24 dX8_then_9 (by decide) (fun c9 => ?_) (fun c9 => ?_)
  · refine z_iconst (v := (-1)) C dX8_then_24 (by decide) ?_
    exact z_iretP C dX8_then_25 hr rfl ⟨by rw [aThen_n (by rintro ⟨h1, h2⟩; contradiction)], FrM.rf⟩
  · refine z_iload2 C dX8_then_12 ?_
    refine z_i2l C dX8_then_13 ?_
    refine z_lconst (v := 0) C dX8_then_14 rfl ?_
    refine z_topl (y := (nI 0).toInt64) C (by decide) ?_
    refine z_ldc2 (v := 2) C dX8_then_15 kl_X8_then_187 ?_
    refine z_topl (y := (nI 2).toInt64) C (by decide) ?_
    refine z_callSI C dX8_then_18 c_X8_in gX8_then_X8_in md_X8_in (by decide) rfl rfl (Nat.le_of_ble_eq_true rfl) ?_
    refine z_if_neB C 26 dX8_then_21 (by decide) (fun c21 => ?_) (fun c21 => ?_)
    · obtain ⟨n, -, hn, rfl⟩ := inB_of (by decide) c9 (by decide)
      obtain ⟨q1, q2, q3⟩ := HW_Go h ho n
      refine z_aload0 C dX8_then_26 ?_
      refine z_callVV C dX8_then_27 c_X8_tries gX8_then_X8_tries md_X8_tries rfl (by decide) (k_Model _) rfl rfl rfl (Nat.le_of_ble_eq_true rfl) ?_
      refine z_aload0 C dX8_then_30 ?_
      refine z_iload1 C dX8_then_31 ?_
      refine z_callVV C dX8_then_32 (c_X8_goesOn (HW_tr h ho) ho (by omega)) gX8_then_X8_goesOn md_X8_goesOn rfl (by decide) (k_Model _) rfl rfl rfl (Nat.le_of_ble_eq_true rfl) ?_
      refine z_iload2 C dX8_then_35 ?_
      refine z_if_ne C 49 dX8_then_36 (by decide) (fun c36 => ?_) (fun c36 => ?_)
      · refine z_iload2 C dX8_then_49 ?_
        refine z_iconstN 1 C dX8_then_50 ?_
        refine z_icmp_ne C 64 dX8_then_51 (by decide) (fun c51 => ?_) (fun c51 => ?_)
        · refine z_aload0 C dX8_then_64 ?_
          refine z_get C dX8_then_65 fl_X8_then_7 (k_Model _) rfl ?_
          refine z_sipush (v := nI 590) C dX8_then_68 (by decide) ?_
          refine z_iald C dX8_then_71 (k_i179 _) (by omega) ?_
          exact z_iretP C dX8_then_72 hr rfl ⟨by rw [aThen_y hn c21, nI0]; first | (rw [if_pos c36]; exact goneV_m q1 q2) | (rw [if_neg c36, if_pos c51]; exact tornV_m q1 q2) | (rw [if_neg c36, if_neg c51]; exact q1.1.2.2.2.2), q3⟩
        · refine z_aload0 C dX8_then_54 ?_
          refine z_sipush (v := nI 586) C dX8_then_55 (by decide) ?_
          refine z_callVI C dX8_then_58 (c_X8_tornOnes (by decide) q2.1 q1.1.1) gX8_then_X8_tornOnes md_X8_tornOnes rfl (by decide) (k_Model _) rfl rfl rfl (Nat.le_of_ble_eq_true rfl) ?_
          refine z_goto C 72 dX8_then_61 (by decide) ?_
          exact z_iretP C dX8_then_72 hr rfl ⟨by rw [aThen_y hn c21, nI0]; first | (rw [if_pos c36]; exact goneV_m q1 q2) | (rw [if_neg c36, if_pos c51]; exact tornV_m q1 q2) | (rw [if_neg c36, if_neg c51]; exact q1.1.2.2.2.2), q3⟩
      · refine z_aload0 C dX8_then_39 ?_
        refine z_sipush (v := nI 586) C dX8_then_40 (by decide) ?_
        refine z_callVI C dX8_then_43 (c_X8_goneOnes (by decide) q2.1 q1.1.1) gX8_then_X8_goneOnes md_X8_goneOnes rfl (by decide) (k_Model _) rfl rfl rfl (Nat.le_of_ble_eq_true rfl) ?_
        refine z_goto C 72 dX8_then_46 (by decide) ?_
        exact z_iretP C dX8_then_72 hr rfl ⟨by rw [aThen_y hn c21, nI0]; first | (rw [if_pos c36]; exact goneV_m q1 q2) | (rw [if_neg c36, if_pos c51]; exact tornV_m q1 q2) | (rw [if_neg c36, if_neg c51]; exact q1.1.2.2.2.2), q3⟩
    · refine z_iconst (v := (-1)) C dX8_then_24 (by decide) ?_
      exact z_iretP C dX8_then_25 hr rfl ⟨by rw [aThen_n (by rintro ⟨h1, h2⟩; contradiction)], FrM.rf⟩

def gl (m : Nat) : Nat → Nat → VR → Int32
  | 0, _, _ => -4
  | n + 1, i, U => if vG U m then nI i else gl m n (i + 1) (vPD U (nI 0))
theorem gl_n {m n i : Nat} {U : VR} (h : ¬ vG U m) : gl m (n + 1) i U = gl m n (i + 1) (vPD U (nI 0)) := if_neg h
def aGone (V : VR) (x : Int32) : Int32 := if inR x (V 0 0) then gl x.toNatClampNeg 61 0 V else -1
theorem aGone_y {V : VR} {m : Nat} (hm : m < V 0 0) (h6 : V 0 0 ≤ 6) : aGone V (nI m) = gl m 61 0 V := by
  unfold aGone
  rw [if_pos (inR_nI hm (by omega)), nI_clamp (by omega)]
theorem aGone_n {V : VR} {x : Int32} (h : ¬ inR x (V 0 0)) : aGone V x = -1 := if_neg h
theorem Ok_PD {V : VR} {ill : Int32} (ho : Ok V) : Ok (vPD V ill) := by
  unfold vPD
  refine Ok_day ?_
  have : ∀ (n i : Nat) (V : VR), Ok V → i + n ≤ V 0 1 → Ok (foldN (vP1 ill) n i V) := by
    intro n
    induction n with
    | zero => intro i V h _; exact h
    | succ n ih =>
      intro i V ho hi
      have o2 := ho.2.2.2 i (by omega)
      have key : Ok (vP1 ill i V) := by
        unfold vP1
        split
        · rename_i c
          exact Ok_rub ho (by omega) (by omega)
        · exact ho
      exact ih (i + 1) _ key (by rw [vP1_hd (by decide)]; omega)
  exact this (V 0 1) 0 V ho (by omega)

set_option maxRecDepth 20000 in
theorem fl_X7_gone_42 : FL RX7 wsX7_gone 42 7 7 := ⟨RX7, TX7, 12, rfl, (fun w h => List.mem_cons_of_mem _ (List.mem_append_left _ (List.mem_append_right _ h))), by decide, by decide +kernel⟩
set_option maxHeartbeats 4000000 in
set_option maxRecDepth 100000 in
theorem lp_X7_gone {X : CX} {S : GS} {V : VR} {m : Nat} (hm : m < V 0 0) (h6 : V 0 0 ≤ 6) (hr : RtP X .int (fun r u => r = aGone V (nI m) ∧ Fr scr S u)) (C : Cx X cX7_gone RX7 wsX7_gone 6) : ∀ (n : Nat) (i : Nat) (T : GS) (U : VR), i + n = 61 → HC T 42 U → Ok U → U 0 0 = V 0 0 → Fr scr S T → gl m 61 0 V = gl m n i U → Zj X T [some (.ref (ad (xY X) 0)), some (.int (nI (m))), some (.int (nI (i)))] 23 [] := by
  intro n
  induction n with
  | zero =>
    intro i T U hi h ho hu hf hg
    refine z_iload2 C dX7_gone_23 ?_
    refine z_bipush (v := nI 60) C dX7_gone_24 (by decide) ?_
    refine z_icmp_gtN C 56 dX7_gone_26 (by decide) (by omega) (by omega) (fun c26 => ?_) (fun c26 => ?_)
    · refine z_bipush (v := (-4)) C dX7_gone_56 (by decide) ?_
      exact z_iretP C dX7_gone_58 hr rfl ⟨by rw [aGone_y hm h6, hg]; rfl, hf⟩
    · exact absurd c26 (by omega)
  | succ n ih =>
    intro i T U hi h ho hu hf hg
    have o1 := ho.1
    refine z_iload2 C dX7_gone_23 ?_
    refine z_bipush (v := nI 60) C dX7_gone_24 (by decide) ?_
    refine z_icmp_gtN C 56 dX7_gone_26 (by decide) (by omega) (by omega) (fun c26 => ?_) (fun c26 => ?_)
    · exact absurd c26 (by omega)
    · refine z_aload0 C dX7_gone_29 ?_
      refine z_get C dX7_gone_30 fl_X7_gone_42 (k_EM _) rfl ?_
      refine z_iload1 C dX7_gone_33 ?_
      refine z_callVI C dX7_gone_34 (c_X2_isGone isR_trial (by omega)) gX7_gone_X2_isGone md_X2_isGone rfl (by decide) (k_Rock _ isR_trial) rfl rfl rfl (Nat.le_of_ble_eq_true rfl) ?_
      refine z_if_eqB C 42 dX7_gone_37 (by decide) (fun c37 => ?_) (fun c37 => ?_)
      · refine z_aload0 C dX7_gone_42 ?_
        refine z_get C dX7_gone_43 fl_X7_gone_42 (k_EM _) rfl ?_
        refine z_iconstN 0 C dX7_gone_46 ?_
        refine z_callVV C dX7_gone_47 (c_X2_passDay isR_trial ho.2.1 (h.1 1 (by decide)) (HC_sOk h ho)) gX7_gone_X2_passDay md_X2_passDay rfl (by decide) (k_Rock _ isR_trial) rfl rfl rfl (Nat.le_of_ble_eq_true rfl) ?_
        refine z_iinc2 C dX7_gone_50 (inc1 _) nl_i ?_
        refine z_goto C 23 dX7_gone_53 (by decide) ?_
        refine ih (i + 1) _ _ (by omega) (HC_PD h ho).1 (HC_PD h ho).2 (by rw [vPD_hd (by decide) (by decide)]; exact hu) (hf.tr (fr_tr cPD_fr)) ?_
        exact hg.trans (gl_n (fun z => c37 ((rG_iff h ho (by omega)).mpr z)))
      · refine z_iload2 C dX7_gone_40 ?_
        exact z_iretP C dX7_gone_41 hr rfl ⟨by rw [aGone_y hm h6, hg]; unfold gl; rw [if_pos ((rG_iff h ho (by omega)).mp c37)], hf⟩

set_option maxRecDepth 20000 in
theorem fl_X7_gone_10 : FL RX7 wsX7_gone 10 7 0 := ⟨RX7, TX7, 12, rfl, (fun w h => List.mem_cons_of_mem _ (List.mem_append_left _ (List.mem_append_right _ h))), by decide, by decide +kernel⟩
set_option maxHeartbeats 4000000 in
set_option maxRecDepth 100000 in
theorem c_X7_gone {l : Launch} {Y : LY} {S : GS} {V : VR} (h : HC S 26 V) (ho : Ok V) {x : Int32} : CtP l yX7_gone wsX7_gone 6 Y [.ref (ad Y 0), .int x] S (fun r u => r = aGone V x ∧ Fr scr S u) := by
  refine mkP (cc := cX7_gone) (maxL := 3) rfl rfl (Nat.le_of_ble_eq_true rfl) ?_
  intro X hl hY C hr
  subst hl
  subst hY
  have hM : S.1 26 0 = nI (V 0 0) := h.1 0 (by decide)
  have hK : S.1 26 1 = nI (V 0 1) := h.1 1 (by decide)
  have o1 := ho.1
  have o2 := ho.2.1
  show Zj X S [some (.ref (ad (xY X) 0)), some (.int x), none] 0 []
  refine z_aload0 C dX7_gone_0 ?_
  refine z_iload1 C dX7_gone_1 ?_
  refine z_callVI C dX7_gone_2 (c_X7_hasMark hM) gX7_gone_X7_hasMark md_X7_hasMark rfl (by decide) (k_EM _) rfl rfl rfl (Nat.le_of_ble_eq_true rfl) ?_
  refine z_if_neB C 10 dX7_gone_5 (by decide) (fun c5 => ?_) (fun c5 => ?_)
  · obtain ⟨m, hm, rfl⟩ := inR_of (by omega) c5
    refine z_aload0 C dX7_gone_10 ?_
    refine z_get C dX7_gone_11 fl_X7_gone_42 (k_EM _) rfl ?_
    refine z_aload0 C dX7_gone_14 ?_
    refine z_get C dX7_gone_15 fl_X7_gone_10 (k_EM _) rfl ?_
    refine z_callVV C dX7_gone_18 (c_X2_become isR_trial isR_now) gX7_gone_X2_become md_X2_become rfl (by decide) (k_Rock _ isR_trial) rfl rfl rfl (Nat.le_of_ble_eq_true rfl) ?_
    refine z_iconstN 0 C dX7_gone_21 ?_
    refine z_istore2 C dX7_gone_22 nl_i ?_
    exact lp_X7_gone hm o1 hr C 61 0 _ V (by decide) (HC_bec dis_tn h ho) ho rfl (fr_tr cBec_fr) rfl
  · refine z_iconst (v := (-1)) C dX7_gone_8 (by decide) ?_
    exact z_iretP C dX7_gone_9 hr rfl ⟨by rw [aGone_n c5], Fr.rf⟩

set_option maxHeartbeats 4000000 in
set_option maxRecDepth 100000 in
theorem lp_X8_gone {X : CX} {S : GS} {V : VR} {m : Nat} (hm : m < V 0 0) (h6 : V 0 0 ≤ 6) (hr : RtP X .int (fun r u => r = aGone V (nI m) ∧ FrM S u)) (C : Cx X cX8_gone RX8 wsX8_gone 5) : ∀ (n : Nat) (i : Nat) (T : GS) (U : VR), i + n = 61 → HW (T.1 179) 586 U → Ok U → U 0 0 = V 0 0 → FrM S T → gl m 61 0 V = gl m n i U → Zj X T [some (.ref (ad (xY X) 178)), some (.int (nI (m))), some (.int (nI (i)))] 16 [] := by
  intro n
  induction n with
  | zero =>
    intro i T U hi h ho hu hf hg
    refine z_iload2 C dX8_gone_16 ?_
    refine z_bipush (v := nI 60) C dX8_gone_17 (by decide) ?_
    refine z_icmp_gtN C 49 dX8_gone_19 (by decide) (by omega) (by omega) (fun c19 => ?_) (fun c19 => ?_)
    · refine z_bipush (v := (-4)) C dX8_gone_49 (by decide) ?_
      exact z_iretP C dX8_gone_51 hr rfl ⟨by rw [aGone_y hm h6, hg]; rfl, hf⟩
    · exact absurd c19 (by omega)
  | succ n ih =>
    intro i T U hi h ho hu hf hg
    have o1 := ho.1
    refine z_iload2 C dX8_gone_16 ?_
    refine z_bipush (v := nI 60) C dX8_gone_17 (by decide) ?_
    refine z_icmp_gtN C 49 dX8_gone_19 (by decide) (by omega) (by omega) (fun c19 => ?_) (fun c19 => ?_)
    · exact absurd c19 (by omega)
    · refine z_aload0 C dX8_gone_22 ?_
      refine z_sipush (v := nI 586) C dX8_gone_23 (by decide) ?_
      refine z_iload1 C dX8_gone_26 ?_
      refine z_callVI C dX8_gone_27 (c_X8_isGone (by decide) (by omega)) gX8_gone_X8_isGone md_X8_isGone rfl (by decide) (k_Model _) rfl rfl rfl (Nat.le_of_ble_eq_true rfl) ?_
      refine z_if_eqB C 35 dX8_gone_30 (by decide) (fun c30 => ?_) (fun c30 => ?_)
      · refine z_aload0 C dX8_gone_35 ?_
        refine z_sipush (v := nI 586) C dX8_gone_36 (by decide) ?_
        refine z_iconstN 0 C dX8_gone_39 ?_
        refine z_callVV C dX8_gone_40 (c_X8_passes (by decide) ho.2.1 h.1.2.1 (HW_mOk h ho)) gX8_gone_X8_passes md_X8_passes rfl (by decide) (k_Model _) rfl rfl rfl (Nat.le_of_ble_eq_true rfl) ?_
        refine z_iinc2 C dX8_gone_43 (inc1 _) nl_i ?_
        refine z_goto C 16 dX8_gone_46 (by decide) ?_
        refine ih (i + 1) _ _ (by omega) (HW_PS h ho) (Ok_PD ho) (by rw [vPD_hd (by decide) (by decide)]; exact hu) (hf.tr (FrM.of mPs_fr (fun i hi => mPs_far (HW_mOk h ho) ho.2.1 (by omega)))) ?_
        exact hg.trans (gl_n (fun z => c30 ((mG_iff h ho (by omega)).mpr z)))
      · refine z_iload2 C dX8_gone_33 ?_
        exact z_iretP C dX8_gone_34 hr rfl ⟨by rw [aGone_y hm h6, hg]; unfold gl; rw [if_pos ((mG_iff h ho (by omega)).mp c30)], hf⟩

set_option maxHeartbeats 4000000 in
set_option maxRecDepth 100000 in
theorem c_X8_gone {l : Launch} {Y : LY} {S : GS} {V : VR} (h : HW (S.1 179) 0 V) (ho : Ok V) {x : Int32} : CtP l yX8_gone wsX8_gone 5 Y [.ref (ad Y 178), .int x] S (fun r u => r = aGone V x ∧ FrM S u) := by
  refine mkP (cc := cX8_gone) (maxL := 3) rfl rfl (Nat.le_of_ble_eq_true rfl) ?_
  intro X hl hY C hr
  subst hl
  subst hY
  have hM : S.1 179 0 = nI (V 0 0) := h.1.1
  have hK : S.1 179 1 = nI (V 0 1) := h.1.2.1
  have o1 := ho.1
  have o2 := ho.2.1
  show Zj X S [some (.ref (ad (xY X) 178)), some (.int x), none] 0 []
  refine z_aload0 C dX8_gone_0 ?_
  refine z_iload1 C dX8_gone_1 ?_
  refine z_callVI C dX8_gone_2 (c_X8_isMark2 ho.1 hM) gX8_gone_X8_isMark md_X8_isMark rfl (by decide) (k_Model _) rfl rfl rfl (Nat.le_of_ble_eq_true rfl) ?_
  refine z_if_neB C 10 dX8_gone_5 (by decide) (fun c5 => ?_) (fun c5 => ?_)
  · obtain ⟨m, hm, rfl⟩ := inR_of (by omega) c5
    refine z_aload0 C dX8_gone_10 ?_
    refine z_callVV C dX8_gone_11 c_X8_tries gX8_gone_X8_tries md_X8_tries rfl (by decide) (k_Model _) rfl rfl rfl (Nat.le_of_ble_eq_true rfl) ?_
    refine z_iconstN 0 C dX8_gone_14 ?_
    refine z_istore2 C dX8_gone_15 nl_i ?_
    exact lp_X8_gone hm o1 hr C 61 0 _ V (by decide) (HW_tr h ho) ho rfl mTr_fr rfl
  · refine z_iconst (v := (-1)) C dX8_gone_8 (by decide) ?_
    exact z_iretP C dX8_gone_9 hr rfl ⟨by rw [aGone_n c5], FrM.rf⟩
