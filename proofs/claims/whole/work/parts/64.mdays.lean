theorem HU_of {w w' : Nat → Int32} {r : Nat} {U : Nat → VR} {nu : Nat} {V : VR} (h : HU w r U nu) (hu : OkU U nu V) (e : ∀ i, r + 44 ≤ i → i < r + 293 → w' i = w i) : HU w' r U nu := by
  obtain ⟨h8, h1, h2⟩ := h
  refine ⟨h8, by rw [e _ (by omega) (by omega)]; exact h1, fun j hj => HS_of (h2 j hj) (hu j hj).1 (fun i hi => e _ (by omega) (by omega))⟩
theorem HU_ok {w w' : Nat → Int32} {r : Nat} {U : Nat → VR} {nu : Nat} (h : HU w r U nu) (hu : ∀ j, j < nu → Ok (U j)) (e : ∀ i, r + 44 ≤ i → i < r + 293 → w' i = w i) : HU w' r U nu := by
  obtain ⟨h8, h1, h2⟩ := h
  refine ⟨h8, by rw [e _ (by omega) (by omega)]; exact h1, fun j hj => HS_of (h2 j hj) (hu j hj) (fun i hi => e _ (by omega) (by omega))⟩
theorem OkU_ok {U : Nat → VR} {nu : Nat} {V : VR} (h : OkU U nu V) : ∀ j, j < nu → Ok (U j) := fun j hj => (h j hj).1
theorem IM_minds {S : GS} {b : B3} (h : IM S b) (hO : OkB b) : HW ((mMi S b.2.2).1 179) 0 b.1 ∧ HU ((mMi S b.2.2).1 179) 0 (pushU b.2.1 b.2.2 b.1) (pushN b.2.2) ∧ FrN S (mMi S b.2.2) := ⟨HW_of h.1 hO.1 (fun i _ h2 => mMi_lo hO.2.2.2.2 (Or.inl h2)), HU_minds h.2 hO.2.1 h.1 hO.1, FrN.of mMi_fr (fun i h1 h2 => mMi_lo hO.2.2.2.2 (Or.inr h1))⟩
theorem OkB_push {b : B3} (hO : OkB b) : ∀ j, j < pushN b.2.2 → Ok (pushU b.2.1 b.2.2 b.1 j) := fun j hj => (OkU_push hO.2.2.2.2 hO.2.1 hO.1 hO.2.2.1 hO.2.2.2.1 SF.rf j hj).1

theorem md_X8_minds : MD yX8_minds wsX8_minds 0 1 none := ⟨_, _, rfl, by decide, by decide +kernel, by decide +kernel, by decide +kernel⟩
set_option maxHeartbeats 4000000 in
set_option maxRecDepth 100000 in
theorem lp_X8_days {X : CX} {S : GS} {b : B3} {N : Nat} (h1 : 1 ≤ N) (h2 : N ≤ 40) (h3 : ¬ 9999 < b.1 0 2 + N) (hr : RtP X .int (fun r u => r = (aDays id b (nI N)).1 ∧ IM u (aDays id b (nI N)).2 ∧ FrN S u)) (C : Cx X cX8_days RX8 wsX8_days 5) : ∀ (n : Nat) (i : Nat) (T : GS) (c : B3), i + n = N → IM T c → OkB c → c.1 0 2 + n ≤ 9999 → FrN S T → bDays id N b = foldN (fun _ c => bDay id c) n i c → Zj X T [some (.ref (ad (xY X) 178)), some (.int (nI (N))), some (.int (nI (i)))] 33 [] := by
  intro n
  induction n with
  | zero =>
    intro i T c hi hI hO hd hf hg
    obtain ⟨ok1, ok2, ok3, ok4, ok5⟩ := id hO
    have hg : bDays id N b = c := hg
    refine z_iload2 C dX8_days_33 ?_
    refine z_iload1 C dX8_days_34 ?_
    refine z_icmp_geN C 54 dX8_days_35 (by decide) (by omega) (by omega) (fun c35 => ?_) (fun c35 => ?_)
    · refine z_aload0 C dX8_days_54 ?_
      refine z_iconstN 0 C dX8_days_55 ?_
      refine z_callVI C dX8_days_56 (c_X8_goneOnes (by decide) ok1.1 hI.1.1.1) gX8_days_X8_goneOnes md_X8_goneOnes rfl (by decide) (k_Model _) rfl rfl rfl (Nat.le_of_ble_eq_true rfl) ?_
      exact z_iretP C dX8_days_59 hr rfl ⟨by rw [aDays_y h1 h2 h3, hg]; exact goneV_m hI.1 ok1, by rw [aDays_y h1 h2 h3, hg]; exact hI, hf⟩
    · exact absurd c35 (by omega)
  | succ n ih =>
    intro i T c hi hI hO hd hf hg
    obtain ⟨ok1, ok2, ok3, ok4, ok5⟩ := id hO
    obtain ⟨w1, w2, w3⟩ := IM_minds hI hO
    have p2 := OkB_push hO
    have o1 := ok1.1
    have o2 := ok1.2.1
    refine z_iload2 C dX8_days_33 ?_
    refine z_iload1 C dX8_days_34 ?_
    refine z_icmp_geN C 54 dX8_days_35 (by decide) (by omega) (by omega) (fun c35 => ?_) (fun c35 => ?_)
    · exact absurd c35 (by omega)
    · refine z_aload0 C dX8_days_38 ?_
      refine z_callVV C dX8_days_39 (c_X8_minds ok5 hI.2.2.1) gX8_days_X8_minds md_X8_minds rfl (by decide) (k_Model _) rfl rfl rfl (Nat.le_of_ble_eq_true rfl) ?_
      refine z_aload0 C dX8_days_42 ?_
      refine z_iconstN 0 C dX8_days_43 ?_
      refine z_iconstN 0 C dX8_days_44 ?_
      refine z_callVV C dX8_days_45 (c_X8_passes (by decide) ok1.2.1 w1.1.2.1 (HW_mOk w1 ok1)) gX8_days_X8_passes md_X8_passes rfl (by decide) (k_Model _) rfl rfl rfl (Nat.le_of_ble_eq_true rfl) ?_
      refine z_iinc2 C dX8_days_48 (inc1 _) nl_i ?_
      refine z_goto C 33 dX8_days_51 (by decide) ?_
      exact ih (i + 1) _ _ (by omega) ⟨HW_PS w1 ok1, HU_ok w2 p2 (fun i q1 q2 => mPs_far (HW_mOk w1 ok1) ok1.2.1 (by omega))⟩ (OkB_day gOk_id hO (by omega)) (by rw [bDay_day gOk_id]; omega) ((hf.tr w3).tr (FrN.of mPs_fr (fun i q1 q2 => mPs_far (HW_mOk w1 ok1) ok1.2.1 (by omega)))) hg

theorem kl_X8_days_164 : Cond.constantLong RX8 164 (40) ∈ wsX8_days := by decide +kernel
set_option maxRecDepth 20000 in
theorem fl_X8_days_7 : FL RX8 wsX8_days 7 8 0 := ⟨RX8, TX8, 15, rfl, (fun w h => List.mem_cons_of_mem _ (List.mem_append_right _ h)), by decide, by decide +kernel⟩
set_option maxHeartbeats 4000000 in
set_option maxRecDepth 100000 in
theorem c_X8_days {l : Launch} {Y : LY} {S : GS} {b : B3} {x : Int32} (hI : IM S b) (hO : OkB b) : CtP l yX8_days wsX8_days 5 Y [.ref (ad Y 178), .int x] S (fun r u => r = (aDays id b x).1 ∧ IM u (aDays id b x).2 ∧ FrN S u) := by
  refine mkP (cc := cX8_days) (maxL := 3) rfl rfl (Nat.le_of_ble_eq_true rfl) ?_
  intro X hl hY C hr
  subst hl
  subst hY
  show Zj X S [some (.ref (ad (xY X) 178)), some (.int x), none] 0 []
  refine z_iload1 C dX8_days_0 ?_
  refine z_i2l C dX8_days_1 ?_
  refine z_lconst (v := 1) C dX8_days_2 rfl ?_
  refine z_topl (y := (nI 1).toInt64) C (by decide) ?_
  refine z_ldc2 (v := 40) C dX8_days_3 kl_X8_days_164 ?_
  refine z_topl (y := (nI 40).toInt64) C (by decide) ?_
  refine z_callSI C dX8_days_6 c_X8_in gX8_days_X8_in md_X8_in (by decide) rfl rfl (Nat.le_of_ble_eq_true rfl) ?_
  refine z_if_neB C 14 dX8_days_9 (by decide) (fun c9 => ?_) (fun c9 => ?_)
  · obtain ⟨N, h1, h2, rfl⟩ := inB_of (by decide) c9 (by decide)
    have hday : S.1 179 2 = nI (b.1 0 2) := hI.1.1.2.2.1
    have hd9 := hO.2.2.1
    refine z_aload0 C dX8_days_14 ?_
    refine z_get C dX8_days_15 fl_X8_days_7 (k_Model _) rfl ?_
    refine z_iconstN 2 C dX8_days_18 ?_
    refine z_iald C dX8_days_19 (k_i179 _) (by omega) ?_
    refine z_top C hday ?_
    refine z_iload1 C dX8_days_20 ?_
    refine z_iaddN C dX8_days_21 ?_
    refine z_sipush (v := nI 9999) C dX8_days_22 (by decide) ?_
    refine z_icmp_leN C 31 dX8_days_25 (by decide) (by omega) (by omega) (fun c25 => ?_) (fun c25 => ?_)
    · refine z_iconstN 0 C dX8_days_31 ?_
      refine z_istore2 C dX8_days_32 nl_i ?_
      exact lp_X8_days h1 h2 (by omega) hr C N 0 _ b (by omega) hI hO (by omega) FrN.rf rfl
    · refine z_bipush (v := (-3)) C dX8_days_28 (by decide) ?_
      exact z_iretP C dX8_days_30 hr rfl ⟨by rw [aDays_f h1 h2 (by omega)], by rw [aDays_f h1 h2 (by omega)]; exact hI, FrN.rf⟩
  · refine z_iconst (v := (-1)) C dX8_days_12 (by decide) ?_
    exact z_iretP C dX8_days_13 hr rfl ⟨by rw [aDays_n c9], by rw [aDays_n c9]; exact hI, FrN.rf⟩

set_option maxRecDepth 20000 in
theorem fl_X8_drift_7 : FL RX8 wsX8_drift 7 8 0 := ⟨RX8, TX8, 15, rfl, (fun w h => List.mem_cons_of_mem _ (List.mem_append_right _ h)), by decide, by decide +kernel⟩
theorem kl_X8_drift_173 : Cond.constantLong RX8 173 (1103515245) ∈ wsX8_drift := by decide +kernel
theorem kl_X8_drift_175 : Cond.constantLong RX8 175 (12345) ∈ wsX8_drift := by decide +kernel
theorem kl_X8_drift_177 : Cond.constantLong RX8 177 (2147483648) ∈ wsX8_drift := by decide +kernel
theorem kc_X8_drift_179 : Cond.constant RX8 179 (65536) ∈ wsX8_drift := by decide +kernel
set_option maxHeartbeats 4000000 in
set_option maxRecDepth 100000 in
theorem lp_X8_drift {X : CX} {S : GS} {b : B3} {N : Nat} (h1 : 1 ≤ N) (h2 : N ≤ 40) (h3 : ¬ 9999 < b.1 0 2 + N) (hr : RtP X .int (fun r u => r = (aDays vDr b (nI N)).1 ∧ IM u (aDays vDr b (nI N)).2 ∧ FrN S u)) (C : Cx X cX8_drift RX8 wsX8_drift 5) : ∀ (n : Nat) (i : Nat) (T : GS) (c : B3), i + n = N → IM T c → OkB c → c.1 0 2 + n ≤ 9999 → FrN S T → bDays vDr N b = foldN (fun _ c => bDay vDr c) n i c → Zj X T [some (.ref (ad (xY X) 178)), some (.int (nI (N))), some (.int (nI (i)))] 33 [] := by
  intro n
  induction n with
  | zero =>
    intro i T c hi hI hO hd hf hg
    obtain ⟨ok1, ok2, ok3, ok4, ok5⟩ := id hO
    have hg : bDays vDr N b = c := hg
    refine z_iload2 C dX8_drift_33 ?_
    refine z_iload1 C dX8_drift_34 ?_
    refine z_icmp_geN C 139 dX8_drift_35 (by decide) (by omega) (by omega) (fun c35 => ?_) (fun c35 => ?_)
    · refine z_aload0 C dX8_drift_139 ?_
      refine z_iconstN 0 C dX8_drift_140 ?_
      refine z_callVI C dX8_drift_141 (c_X8_goneOnes (by decide) ok1.1 hI.1.1.1) gX8_drift_X8_goneOnes md_X8_goneOnes rfl (by decide) (k_Model _) rfl rfl rfl (Nat.le_of_ble_eq_true rfl) ?_
      exact z_iretP C dX8_drift_144 hr rfl ⟨by rw [aDays_y h1 h2 h3, hg]; exact goneV_m hI.1 ok1, by rw [aDays_y h1 h2 h3, hg]; exact hI, hf⟩
    · exact absurd c35 (by omega)
  | succ n ih =>
    intro i T c hi hI hO hd hf hg
    obtain ⟨ok1, ok2, ok3, ok4, ok5⟩ := id hO
    obtain ⟨w1, w2, w3⟩ := IM_minds hI hO
    have p2 := OkB_push hO
    have o1 := ok1.1
    have o2 := ok1.2.1
    have hd0 : dN (c.1 0 4) < 2147483648 := by unfold dN; omega
    have v1 : HW ((stI (mMi T c.2.2) 179 3 (nI (dN (c.1 0 4)))).1 179) 0 (vs c.1 0 4 (dN (c.1 0 4))) := HW_stI ok1 (Or.inl ⟨rfl, by decide⟩) rfl rfl (fun _ => by decide) w1
    have v1o : Ok (vs c.1 0 4 (dN (c.1 0 4))) := vs_ok ok1 (Or.inl ⟨rfl, by decide⟩)
    have r1 : (stI (mMi T c.2.2) 179 3 (nI (dN (c.1 0 4)))).1 179 1 = nI (c.1 0 1) := by rw [stI_ni (by decide)]; exact w1.1.2.1
    have r0 : (stI (mMi T c.2.2) 179 3 (nI (dN (c.1 0 4)))).1 179 0 = nI (c.1 0 0) := by rw [stI_ni (by decide)]; exact w1.1.1
    have r3 : (stI (mMi T c.2.2) 179 3 (nI (dN (c.1 0 4)))).1 179 3 = nI (dN (c.1 0 4)) := stI_me _ _ _ _
    have x1 : ∀ (W : GS) (v : VR), HW (W.1 179) 0 v → v = vDr c.1 → Fr om T W → (∀ i, 44 ≤ i → i < 586 → W.1 179 i = (mMi T c.2.2).1 179 i) → HU ((mPs W 0 (nI 0) (vDr c.1 0 1)).1 179) 0 (pushU c.2.1 c.2.2 c.1) (pushN c.2.2) ∧ HW ((mPs W 0 (nI 0) (vDr c.1 0 1)).1 179) 0 (vPD (vDr c.1) (nI 0)) ∧ FrN S (mPs W 0 (nI 0) (vDr c.1 0 1)) := by
      rintro W v hw rfl fw ew
      have go := Ok_dr ok1
      have far : ∀ i, 28 ≤ i → (mPs W 0 (nI 0) (vDr c.1 0 1)).1 179 i = W.1 179 i := fun i hi => mPs_far (HW_mOk hw go) go.2.1 (by omega)
      refine ⟨HU_ok w2 p2 (fun i q1 q2 => by rw [far i (by omega), ew i (by omega) (by omega)]), HW_PS hw go, (hf.tr (FrN.of fw (fun i q1 q2 => ?_))).tr (FrN.of mPs_fr (fun i q1 q2 => far i (by omega)))⟩
      rw [ew i (by omega) q2]
      exact mMi_lo ok5 (Or.inr q1)
    have hnk : vDr c.1 0 1 = c.1 0 1 := vDr_hd (by decide)
    refine z_iload2 C dX8_drift_33 ?_
    refine z_iload1 C dX8_drift_34 ?_
    refine z_icmp_geN C 139 dX8_drift_35 (by decide) (by omega) (by omega) (fun c35 => ?_) (fun c35 => ?_)
    · exact absurd c35 (by omega)
    · refine z_aload0 C dX8_drift_38 ?_
      refine z_callVV C dX8_drift_39 (c_X8_minds ok5 hI.2.2.1) gX8_drift_X8_minds md_X8_minds rfl (by decide) (k_Model _) rfl rfl rfl (Nat.le_of_ble_eq_true rfl) ?_
      refine z_aload0 C dX8_drift_42 ?_
      refine z_get C dX8_drift_43 fl_X8_drift_7 (k_Model _) rfl ?_
      refine z_iconstN 3 C dX8_drift_46 ?_
      refine z_aload0 C dX8_drift_47 ?_
      refine z_get C dX8_drift_48 fl_X8_drift_7 (k_Model _) rfl ?_
      refine z_iconstN 3 C dX8_drift_51 ?_
      refine z_iald C dX8_drift_52 (k_i179 _) (by omega) ?_
      refine z_top C w1.1.2.2.2.1 ?_
      refine z_i2l C dX8_drift_53 ?_
      refine z_topl C (nI_l (by omega)) ?_
      refine z_ldc2 (v := 1103515245) C dX8_drift_54 kl_X8_drift_173 ?_
      refine z_topl (y := lN 1103515245) C (by decide) ?_
      refine z_lmul C dX8_drift_57 ?_
      refine z_topl C (lN_mul _ _) ?_
      refine z_ldc2 (v := 12345) C dX8_drift_58 kl_X8_drift_175 ?_
      refine z_topl (y := lN 12345) C (by decide) ?_
      refine z_ladd C dX8_drift_61 ?_
      refine z_topl C (lN_add _ _) ?_
      refine z_ldc2 (v := 2147483648) C dX8_drift_62 kl_X8_drift_177 ?_
      refine z_topl (y := lN 2147483648) C (by decide) ?_
      refine z_lrem C dX8_drift_65 (by decide) ?_
      refine z_topl C (pk_lRem (by omega) (by decide) (by decide)) ?_
      refine z_l2i C dX8_drift_66 ?_
      refine z_top (y := nI (dN (c.1 0 4))) C (lN_i _) ?_
      refine z_iast C dX8_drift_67 (k_i179 _) (by omega) ?_
      refine z_aload0 C dX8_drift_68 ?_
      refine z_get C dX8_drift_69 fl_X8_drift_7 (k_Model _) rfl ?_
      refine z_iconstN 1 C dX8_drift_72 ?_
      refine z_iald C dX8_drift_73 (k_i179 _) (by omega) ?_
      refine z_top C r1 ?_
      refine z_if_leN C 127 dX8_drift_74 (by decide) (by omega) (fun c74 => ?_) (fun c74 => ?_)
      · have hve : vs c.1 0 4 (dN (c.1 0 4)) = vDr c.1 := (if_neg (by omega)).symm
        have hwz := v1
        rw [hve] at hwz
        refine z_aload0 C dX8_drift_127 ?_
        refine z_iconstN 0 C dX8_drift_128 ?_
        refine z_iconstN 0 C dX8_drift_129 ?_
        refine z_callVV C dX8_drift_130 (c_X8_passes (nk := vDr c.1 0 1) (by decide) (Ok_dr ok1).2.1 hwz.1.2.1 (HW_mOk hwz (Ok_dr ok1))) gX8_drift_X8_passes md_X8_passes rfl (by decide) (k_Model _) rfl rfl rfl (Nat.le_of_ble_eq_true rfl) ?_
        refine z_iinc2 C dX8_drift_133 (inc1 _) nl_i ?_
        refine z_goto C 33 dX8_drift_136 (by decide) ?_
        obtain ⟨y1, y2, y3⟩ := x1 _ _ v1 hve (mMi_fr.tr Fr.M) (fun i q1 q2 => stI_ni (by omega))
        exact ih (i + 1) _ _ (by omega) ⟨y2, y1⟩ (OkB_day gOk_dr hO (by omega)) (by rw [bDay_day gOk_dr]; omega) y3 hg
      · refine z_aload0 C dX8_drift_77 ?_
        refine z_get C dX8_drift_78 fl_X8_drift_7 (k_Model _) rfl ?_
        refine z_iconstN 0 C dX8_drift_81 ?_
        refine z_iald C dX8_drift_82 (k_i179 _) (by omega) ?_
        refine z_top C r0 ?_
        refine z_if_leN C 127 dX8_drift_83 (by decide) (by omega) (fun c83 => ?_) (fun c83 => ?_)
        · have hve : vs c.1 0 4 (dN (c.1 0 4)) = vDr c.1 := (if_neg (by omega)).symm
          have hwz := v1
          rw [hve] at hwz
          refine z_aload0 C dX8_drift_127 ?_
          refine z_iconstN 0 C dX8_drift_128 ?_
          refine z_iconstN 0 C dX8_drift_129 ?_
          refine z_callVV C dX8_drift_130 (c_X8_passes (nk := vDr c.1 0 1) (by decide) (Ok_dr ok1).2.1 hwz.1.2.1 (HW_mOk hwz (Ok_dr ok1))) gX8_drift_X8_passes md_X8_passes rfl (by decide) (k_Model _) rfl rfl rfl (Nat.le_of_ble_eq_true rfl) ?_
          refine z_iinc2 C dX8_drift_133 (inc1 _) nl_i ?_
          refine z_goto C 33 dX8_drift_136 (by decide) ?_
          obtain ⟨y1, y2, y3⟩ := x1 _ _ v1 hve (mMi_fr.tr Fr.M) (fun i q1 q2 => stI_ni (by omega))
          exact ih (i + 1) _ _ (by omega) ⟨y2, y1⟩ (OkB_day gOk_dr hO (by omega)) (by rw [bDay_day gOk_dr]; omega) y3 hg
        · refine z_aload0 C dX8_drift_86 ?_
          refine z_get C dX8_drift_87 fl_X8_drift_7 (k_Model _) rfl ?_
          refine z_bipush (v := nI 28) C dX8_drift_90 (by decide) ?_
          refine z_aload0 C dX8_drift_92 ?_
          refine z_get C dX8_drift_93 fl_X8_drift_7 (k_Model _) rfl ?_
          refine z_iconstN 3 C dX8_drift_96 ?_
          refine z_iald C dX8_drift_97 (k_i179 _) (by omega) ?_
          refine z_top C r3 ?_
          refine z_ldc (v := 65536) C dX8_drift_98 kc_X8_drift_179 ?_
          refine z_top (y := nI 65536) C (by decide) ?_
          refine z_idivN C dX8_drift_100 (by omega) (by decide) (by decide) ?_
          refine z_aload0 C dX8_drift_101 ?_
          refine z_get C dX8_drift_102 fl_X8_drift_7 (k_Model _) rfl ?_
          refine z_iconstN 1 C dX8_drift_105 ?_
          refine z_iald C dX8_drift_106 (k_i179 _) (by omega) ?_
          refine z_top C r1 ?_
          refine z_iremN C dX8_drift_107 (by omega) (by omega) (by omega) ?_
          refine z_iaddN C dX8_drift_108 ?_
          refine z_aload0 C dX8_drift_109 ?_
          refine z_get C dX8_drift_110 fl_X8_drift_7 (k_Model _) rfl ?_
          refine z_iconstN 3 C dX8_drift_113 ?_
          refine z_iald C dX8_drift_114 (k_i179 _) (by omega) ?_
          refine z_top C r3 ?_
          refine z_sipush (v := nI 128) C dX8_drift_115 (by decide) ?_
          refine z_idivN C dX8_drift_118 (by omega) (by decide) (by decide) ?_
          refine z_aload0 C dX8_drift_119 ?_
          refine z_get C dX8_drift_120 fl_X8_drift_7 (k_Model _) rfl ?_
          refine z_iconstN 0 C dX8_drift_123 ?_
          refine z_iald C dX8_drift_124 (k_i179 _) (by omega) ?_
          refine z_top C r0 ?_
          refine z_iremN C dX8_drift_125 (by omega) (by omega) (by omega) ?_
          refine z_iast C dX8_drift_126 (k_i179 _) (by have := Nat.mod_lt (dN (c.1 0 4) / 65536) c74; omega) ?_
          have hve : vs (vs c.1 0 4 (dN (c.1 0 4))) 7 (dN (c.1 0 4) / 65536 % c.1 0 1) (dN (c.1 0 4) / 128 % c.1 0 0 + 1) = vDr c.1 := (if_pos ⟨c74, c83⟩).symm
          have hwx := HW_stI (i := dN (c.1 0 4) / 65536 % c.1 0 1) (x := nI (dN (c.1 0 4) / 128 % c.1 0 0)) (p := 28 + dN (c.1 0 4) / 65536 % c.1 0 1) (f := 7) (v := dN (c.1 0 4) / 128 % c.1 0 0 + 1) v1o (Or.inr (Or.inr ⟨⟨by decide, by decide⟩, by rw [vs_no (by omega)]; exact Nat.mod_lt _ c74⟩)) (by rw [Nat.zero_add]; rfl) (by rw [if_pos rfl, sI_s]) (fun z => by omega) v1
          have hwz := hwx
          rw [hve] at hwz
          have hk5 := Nat.mod_lt (dN (c.1 0 4) / 65536) c74
          refine z_aload0 C dX8_drift_127 ?_
          refine z_iconstN 0 C dX8_drift_128 ?_
          refine z_iconstN 0 C dX8_drift_129 ?_
          refine z_callVV C dX8_drift_130 (c_X8_passes (nk := vDr c.1 0 1) (by decide) (Ok_dr ok1).2.1 hwz.1.2.1 (HW_mOk hwz (Ok_dr ok1))) gX8_drift_X8_passes md_X8_passes rfl (by decide) (k_Model _) rfl rfl rfl (Nat.le_of_ble_eq_true rfl) ?_
          refine z_iinc2 C dX8_drift_133 (inc1 _) nl_i ?_
          refine z_goto C 33 dX8_drift_136 (by decide) ?_
          obtain ⟨y1, y2, y3⟩ := x1 _ _ hwx hve ((mMi_fr.tr Fr.M).tr Fr.M) (fun i q1 q2 => by rw [stI_ni (by omega)]; exact stI_ni (by omega))
          exact ih (i + 1) _ _ (by omega) ⟨y2, y1⟩ (OkB_day gOk_dr hO (by omega)) (by rw [bDay_day gOk_dr]; omega) y3 hg

theorem kl_X8_drift_164 : Cond.constantLong RX8 164 (40) ∈ wsX8_drift := by decide +kernel
set_option maxHeartbeats 4000000 in
set_option maxRecDepth 100000 in
theorem c_X8_drift {l : Launch} {Y : LY} {S : GS} {b : B3} {x : Int32} (hI : IM S b) (hO : OkB b) : CtP l yX8_drift wsX8_drift 5 Y [.ref (ad Y 178), .int x] S (fun r u => r = (aDays vDr b x).1 ∧ IM u (aDays vDr b x).2 ∧ FrN S u) := by
  refine mkP (cc := cX8_drift) (maxL := 3) rfl rfl (Nat.le_of_ble_eq_true rfl) ?_
  intro X hl hY C hr
  subst hl
  subst hY
  show Zj X S [some (.ref (ad (xY X) 178)), some (.int x), none] 0 []
  refine z_iload1 C dX8_drift_0 ?_
  refine z_i2l C dX8_drift_1 ?_
  refine z_lconst (v := 1) C dX8_drift_2 rfl ?_
  refine z_topl (y := (nI 1).toInt64) C (by decide) ?_
  refine z_ldc2 (v := 40) C dX8_drift_3 kl_X8_drift_164 ?_
  refine z_topl (y := (nI 40).toInt64) C (by decide) ?_
  refine z_callSI C dX8_drift_6 c_X8_in gX8_drift_X8_in md_X8_in (by decide) rfl rfl (Nat.le_of_ble_eq_true rfl) ?_
  refine z_if_neB C 14 dX8_drift_9 (by decide) (fun c9 => ?_) (fun c9 => ?_)
  · obtain ⟨N, h1, h2, rfl⟩ := inB_of (by decide) c9 (by decide)
    have hday : S.1 179 2 = nI (b.1 0 2) := hI.1.1.2.2.1
    have hd9 := hO.2.2.1
    refine z_aload0 C dX8_drift_14 ?_
    refine z_get C dX8_drift_15 fl_X8_drift_7 (k_Model _) rfl ?_
    refine z_iconstN 2 C dX8_drift_18 ?_
    refine z_iald C dX8_drift_19 (k_i179 _) (by omega) ?_
    refine z_top C hday ?_
    refine z_iload1 C dX8_drift_20 ?_
    refine z_iaddN C dX8_drift_21 ?_
    refine z_sipush (v := nI 9999) C dX8_drift_22 (by decide) ?_
    refine z_icmp_leN C 31 dX8_drift_25 (by decide) (by omega) (by omega) (fun c25 => ?_) (fun c25 => ?_)
    · refine z_iconstN 0 C dX8_drift_31 ?_
      refine z_istore2 C dX8_drift_32 nl_i ?_
      exact lp_X8_drift h1 h2 (by omega) hr C N 0 _ b (by omega) hI hO (by omega) FrN.rf rfl
    · refine z_bipush (v := (-3)) C dX8_drift_28 (by decide) ?_
      exact z_iretP C dX8_drift_30 hr rfl ⟨by rw [aDays_f h1 h2 (by omega)], by rw [aDays_f h1 h2 (by omega)]; exact hI, FrN.rf⟩
  · refine z_iconst (v := (-1)) C dX8_drift_12 (by decide) ?_
    exact z_iretP C dX8_drift_13 hr rfl ⟨by rw [aDays_n c9], by rw [aDays_n c9]; exact hI, FrN.rf⟩
