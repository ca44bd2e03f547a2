set_option maxRecDepth 20000 in
theorem fl_X8_takesNumber_89 : FL RX8 wsX8_takesNumber 89 8 7 := ⟨RX8, TX8, 15, rfl, (fun w h => List.mem_cons_of_mem _ (List.mem_append_right _ h)), by decide, by decide +kernel⟩
set_option maxRecDepth 20000 in
theorem fl_X8_takesNumber_100 : FL RX8 wsX8_takesNumber 100 8 8 := ⟨RX8, TX8, 15, rfl, (fun w h => List.mem_cons_of_mem _ (List.mem_append_right _ h)), by decide, by decide +kernel⟩
theorem fp_X8_takesNumber_100 : FP RX8 wsX8_takesNumber 100 8 8 .int := ⟨fl_X8_takesNumber_100, RX8, TX8, 15, tyX8, rfl, tyX8_ok, nmX8, rfl, by decide +kernel⟩
theorem md_X8_isFigure : MD yX8_isFigure wsX8_isFigure 1 2 (some .boolean) := ⟨_, _, rfl, by decide, by decide +kernel, by decide +kernel, by decide +kernel⟩
theorem fp_X8_takesNumber_89 : FP RX8 wsX8_takesNumber 89 8 7 .int := ⟨fl_X8_takesNumber_89, RX8, TX8, 15, tyX8, rfl, tyX8_ok, nmX8, rfl, by decide +kernel⟩
set_option maxRecDepth 20000 in
theorem fl_X8_takesNumber_13 : FL RX8 wsX8_takesNumber 13 8 2 := ⟨RX8, TX8, 15, rfl, (fun w h => List.mem_cons_of_mem _ (List.mem_append_right _ h)), by decide, by decide +kernel⟩
set_option maxHeartbeats 4000000 in
set_option maxRecDepth 100000 in
theorem c_X8_takesNumber {l : Launch} {Y : LY} {S : GS} {tx : Nat → Nat} {N p : Nat} (hx : TxOk tx N) (hP : TM S tx N p) {hi : Nat} (hh : hi < 1000) : CtP l yX8_takesNumber wsX8_takesNumber 3 Y [.ref (ad Y 178), .int (nI hi)] S (fun r u => (∃ v q, numS tx N hi p = .ok (v, q) ∧ r = nI 1 ∧ u.1 178 8 = nI v ∧ TM u tx N q ∧ FrT S u) ∨ (∃ q, numS tx N hi p = .error q ∧ r = nI 0 ∧ TM u tx N q ∧ FrT S u)) := by
  refine mkP (cc := cX8_takesNumber) (maxL := 3) rfl rfl (Nat.le_of_ble_eq_true rfl) ?_
  intro X hl hY C hr
  subst hl
  subst hY
  have x90 := hx.1
  have pN := hP.2.2.2
  show Zj X S [some (.ref (ad (xY X) 178)), some (.int (nI hi)), none] 0 []
  refine z_aload0 C dX8_takesNumber_0 ?_
  refine z_callVP C dX8_takesNumber_1 (c_X8_peek hx hP) gX8_takesNumber_X8_peek md_X8_peek rfl (by decide) (k_Model _) rfl rfl rfl (Nat.le_of_ble_eq_true rfl) ?_
  rintro _ T ⟨rfl, hP, hf⟩
  obtain ⟨sk1, sk2, sk3⟩ := sk_in (tx := tx) pN
  have lk1 := lkn_le (q := sk tx N p) hx
  refine z_pop C dX8_takesNumber_4 rfl ?_
  refine z_aload0 C dX8_takesNumber_5 ?_
  refine z_get C dX8_takesNumber_6 fl_X8_takesNumber_89 (k_Model _) rfl ?_
  refine z_top C hP.2.1 ?_
  refine z_istore2 C dX8_takesNumber_9 nl_i ?_
  refine z_aload0 C dX8_takesNumber_10 ?_
  refine z_iconstN 0 C dX8_takesNumber_11 ?_
  refine z_put C dX8_takesNumber_12 fp_X8_takesNumber_100 (k_Model _) rfl rfl (Nat.le_of_ble_eq_true rfl) rfl ?_
  refine z_genS (P := fun T => TM T tx N (sk tx N p) ∧ T.1 178 8 = nI 0 ∧ FrT S T) ⟨TM_n hP, stI_me _ _ _ _, hf.tr FrT.n⟩ (fun T0 hT0 => ?_)
  obtain ⟨hP, h8, hf⟩ := hT0
  refine z_aload0 C dX8_takesNumber_15 ?_
  refine z_get C dX8_takesNumber_16 fl_X8_takesNumber_89 (k_Model _) rfl ?_
  refine z_top C hP.2.1 ?_
  refine z_iload2 C dX8_takesNumber_19 ?_
  refine z_isubN C dX8_takesNumber_20 (by omega) ?_
  refine z_iconstN 2 C dX8_takesNumber_21 ?_
  refine z_icmp_geN C 73 dX8_takesNumber_22 (by decide) (by omega) (by omega) (fun c22 => ?_) (fun c22 => ?_)
  · exact absurd c22 (by omega)
  · have pN2 := hP.2.2.2
    refine z_aload0 C dX8_takesNumber_25 ?_
    refine z_aload0 C dX8_takesNumber_26 ?_
    refine z_get C dX8_takesNumber_27 fl_X8_takesNumber_89 (k_Model _) rfl ?_
    refine z_top C hP.2.1 ?_
    refine z_callVI C dX8_takesNumber_30 (c_X8_isFigure hx hP hP.2.2.2) gX8_takesNumber_X8_isFigure md_X8_isFigure rfl (by decide) (k_Model _) rfl rfl rfl (Nat.le_of_ble_eq_true rfl) ?_
    refine z_if_eqB C 73 dX8_takesNumber_33 (by decide) (fun c33 => ?_) (fun c33 => ?_)
    · refine z_aload0 C dX8_takesNumber_73 ?_
      refine z_get C dX8_takesNumber_74 fl_X8_takesNumber_89 (k_Model _) rfl ?_
      refine z_top C hP.2.1 ?_
      refine z_iload2 C dX8_takesNumber_77 ?_
      refine z_icmp_eqN C 89 dX8_takesNumber_78 (by decide) (by omega) (by omega) (fun c78 => ?_) (fun c78 => ?_)
      · refine z_aload0 C dX8_takesNumber_89 ?_
        refine z_iload2 C dX8_takesNumber_90 ?_
        refine z_put C dX8_takesNumber_91 fp_X8_takesNumber_89 (k_Model _) rfl rfl (Nat.le_of_ble_eq_true rfl) rfl ?_
        refine z_iconstN 0 C dX8_takesNumber_94 ?_
        exact z_iretP C dX8_takesNumber_95 hr rfl (Or.inr ⟨_, numS_e (numL_n c33), rfl, TM_put hP (by omega), hf.tr FrT.p⟩)
      · exact absurd c78 (by omega)
    · have d0 := c33
      have g0 := hx.2 _ c33.1
      refine z_aload0 C dX8_takesNumber_36 ?_
      refine z_bipush (v := nI 10) C dX8_takesNumber_37 (by decide) ?_
      refine z_aload0 C dX8_takesNumber_39 ?_
      refine z_get C dX8_takesNumber_40 fl_X8_takesNumber_100 (k_Model _) rfl ?_
      refine z_top C h8 ?_
      refine z_imulN C dX8_takesNumber_43 ?_
      refine z_aload0 C dX8_takesNumber_44 ?_
      refine z_get C dX8_takesNumber_45 fl_X8_takesNumber_13 (k_Model _) rfl ?_
      refine z_aload0 C dX8_takesNumber_48 ?_
      refine z_get C dX8_takesNumber_49 fl_X8_takesNumber_89 (k_Model _) rfl ?_
      refine z_top C hP.2.1 ?_
      refine z_iald C dX8_takesNumber_52 (k_i180 _) (by omega) ?_
      refine z_top C (hP.2.2.1 _ c33.1) ?_
      refine z_iaddN C dX8_takesNumber_53 ?_
      refine z_bipush (v := nI 48) C dX8_takesNumber_54 (by decide) ?_
      refine z_isubN C dX8_takesNumber_56 (by omega) ?_
      refine z_put C dX8_takesNumber_57 fp_X8_takesNumber_100 (k_Model _) rfl rfl (Nat.le_of_ble_eq_true rfl) rfl ?_
      refine z_genS (P := fun T => TM T tx N (sk tx N p) ∧ T.1 178 8 = nI (tx (sk tx N p) - 48) ∧ FrT S T) ⟨TM_n hP, by rw [stI_me]; congr 1; omega, hf.tr FrT.n⟩ (fun T4 hT4 => ?_)
      obtain ⟨hP, h8, hf⟩ := hT4
      refine z_aload0 C dX8_takesNumber_60 ?_
      refine z_dup C dX8_takesNumber_61 rfl ?_
      refine z_get C dX8_takesNumber_62 fl_X8_takesNumber_89 (k_Model _) rfl ?_
      refine z_top C hP.2.1 ?_
      refine z_iconstN 1 C dX8_takesNumber_65 ?_
      refine z_iaddN C dX8_takesNumber_66 ?_
      refine z_put C dX8_takesNumber_67 fp_X8_takesNumber_89 (k_Model _) rfl rfl (Nat.le_of_ble_eq_true rfl) rfl ?_
      refine z_goto C 15 dX8_takesNumber_70 (by decide) ?_
      refine z_genS (P := fun T => TM T tx N (sk tx N p + 1) ∧ T.1 178 8 = nI (tx (sk tx N p) - 48) ∧ FrT S T) ⟨TM_put hP (by omega), by rw [stI_ni (by decide)]; exact h8, hf.tr FrT.p⟩ (fun T1 hT1 => ?_)
      obtain ⟨hP, h8, hf⟩ := hT1
      refine z_aload0 C dX8_takesNumber_15 ?_
      refine z_get C dX8_takesNumber_16 fl_X8_takesNumber_89 (k_Model _) rfl ?_
      refine z_top C hP.2.1 ?_
      refine z_iload2 C dX8_takesNumber_19 ?_
      refine z_isubN C dX8_takesNumber_20 (by omega) ?_
      refine z_iconstN 2 C dX8_takesNumber_21 ?_
      refine z_icmp_geN C 73 dX8_takesNumber_22 (by decide) (by omega) (by omega) (fun c22 => ?_) (fun c22 => ?_)
      · exact absurd c22 (by omega)
      · have pN2 := hP.2.2.2
        refine z_aload0 C dX8_takesNumber_25 ?_
        refine z_aload0 C dX8_takesNumber_26 ?_
        refine z_get C dX8_takesNumber_27 fl_X8_takesNumber_89 (k_Model _) rfl ?_
        refine z_top C hP.2.1 ?_
        refine z_callVI C dX8_takesNumber_30 (c_X8_isFigure hx hP hP.2.2.2) gX8_takesNumber_X8_isFigure md_X8_isFigure rfl (by decide) (k_Model _) rfl rfl rfl (Nat.le_of_ble_eq_true rfl) ?_
        refine z_if_eqB C 73 dX8_takesNumber_33 (by decide) (fun c33 => ?_) (fun c33 => ?_)
        · have eV := numV_n (tx := tx) c33
          refine z_aload0 C dX8_takesNumber_73 ?_
          refine z_get C dX8_takesNumber_74 fl_X8_takesNumber_89 (k_Model _) rfl ?_
          refine z_top C hP.2.1 ?_
          refine z_iload2 C dX8_takesNumber_77 ?_
          refine z_icmp_eqN C 89 dX8_takesNumber_78 (by decide) (by omega) (by omega) (fun c78 => ?_) (fun c78 => ?_)
          · exact absurd c78 (by omega)
          · refine z_aload0 C dX8_takesNumber_81 ?_
            refine z_get C dX8_takesNumber_82 fl_X8_takesNumber_100 (k_Model _) rfl ?_
            refine z_top C h8 ?_
            refine z_iload1 C dX8_takesNumber_85 ?_
            refine z_icmp_leN C 96 dX8_takesNumber_86 (by decide) (by omega) (by omega) (fun c86 => ?_) (fun c86 => ?_)
            · refine z_aload0 C dX8_takesNumber_96 ?_
              refine z_aload0 C dX8_takesNumber_97 ?_
              refine z_get C dX8_takesNumber_98 fl_X8_takesNumber_89 (k_Model _) rfl ?_
              refine z_top C hP.2.1 ?_
              refine z_callVI C dX8_takesNumber_101 (c_X8_isFigure hx hP hP.2.2.2) gX8_takesNumber_X8_isFigure md_X8_isFigure rfl (by decide) (k_Model _) rfl rfl rfl (Nat.le_of_ble_eq_true rfl) ?_
              refine z_if_neB C 111 dX8_takesNumber_104 (by decide) (fun c104 => ?_) (fun c104 => ?_)
              · refine z_iconstN 0 C dX8_takesNumber_111 ?_
                exact z_iretP C dX8_takesNumber_112 hr rfl (Or.inr ⟨_, numS_d (numL_y d0 eV c86) c104, rfl, hP, hf⟩)
              · refine z_iconstN 1 C dX8_takesNumber_107 ?_
                refine z_goto C 112 dX8_takesNumber_108 (by decide) ?_
                exact z_iretP C dX8_takesNumber_112 hr rfl (Or.inl ⟨_, _, numS_y (numL_y d0 eV c86) c104, rfl, h8, hP, hf⟩)
            · refine z_aload0 C dX8_takesNumber_89 ?_
              refine z_iload2 C dX8_takesNumber_90 ?_
              refine z_put C dX8_takesNumber_91 fp_X8_takesNumber_89 (k_Model _) rfl rfl (Nat.le_of_ble_eq_true rfl) rfl ?_
              refine z_iconstN 0 C dX8_takesNumber_94 ?_
              exact z_iretP C dX8_takesNumber_95 hr rfl (Or.inr ⟨_, numS_e (numL_b d0 eV (by omega)), rfl, TM_put hP (by omega), hf.tr FrT.p⟩)
        · have d1 := c33
          have g1 := hx.2 _ c33.1
          refine z_aload0 C dX8_takesNumber_36 ?_
          refine z_bipush (v := nI 10) C dX8_takesNumber_37 (by decide) ?_
          refine z_aload0 C dX8_takesNumber_39 ?_
          refine z_get C dX8_takesNumber_40 fl_X8_takesNumber_100 (k_Model _) rfl ?_
          refine z_top C h8 ?_
          refine z_imulN C dX8_takesNumber_43 ?_
          refine z_aload0 C dX8_takesNumber_44 ?_
          refine z_get C dX8_takesNumber_45 fl_X8_takesNumber_13 (k_Model _) rfl ?_
          refine z_aload0 C dX8_takesNumber_48 ?_
          refine z_get C dX8_takesNumber_49 fl_X8_takesNumber_89 (k_Model _) rfl ?_
          refine z_top C hP.2.1 ?_
          refine z_iald C dX8_takesNumber_52 (k_i180 _) (by omega) ?_
          refine z_top C (hP.2.2.1 _ c33.1) ?_
          refine z_iaddN C dX8_takesNumber_53 ?_
          refine z_bipush (v := nI 48) C dX8_takesNumber_54 (by decide) ?_
          refine z_isubN C dX8_takesNumber_56 (by omega) ?_
          refine z_put C dX8_takesNumber_57 fp_X8_takesNumber_100 (k_Model _) rfl rfl (Nat.le_of_ble_eq_true rfl) rfl ?_
          refine z_genS (P := fun T => TM T tx N (sk tx N p + 1) ∧ T.1 178 8 = nI (10 * (tx (sk tx N p) - 48) + tx (sk tx N p + 1) - 48) ∧ FrT S T) ⟨TM_n hP, stI_me _ _ _ _, hf.tr FrT.n⟩ (fun T4 hT4 => ?_)
          obtain ⟨hP, h8, hf⟩ := hT4
          refine z_aload0 C dX8_takesNumber_60 ?_
          refine z_dup C dX8_takesNumber_61 rfl ?_
          refine z_get C dX8_takesNumber_62 fl_X8_takesNumber_89 (k_Model _) rfl ?_
          refine z_top C hP.2.1 ?_
          refine z_iconstN 1 C dX8_takesNumber_65 ?_
          refine z_iaddN C dX8_takesNumber_66 ?_
          refine z_put C dX8_takesNumber_67 fp_X8_takesNumber_89 (k_Model _) rfl rfl (Nat.le_of_ble_eq_true rfl) rfl ?_
          refine z_goto C 15 dX8_takesNumber_70 (by decide) ?_
          refine z_genS (P := fun T => TM T tx N (sk tx N p + 2) ∧ T.1 178 8 = nI (10 * (tx (sk tx N p) - 48) + tx (sk tx N p + 1) - 48) ∧ FrT S T) ⟨TM_put hP (by omega), by rw [stI_ni (by decide)]; exact h8, hf.tr FrT.p⟩ (fun T2 hT2 => ?_)
          obtain ⟨hP, h8, hf⟩ := hT2
          refine z_aload0 C dX8_takesNumber_15 ?_
          refine z_get C dX8_takesNumber_16 fl_X8_takesNumber_89 (k_Model _) rfl ?_
          refine z_top C hP.2.1 ?_
          refine z_iload2 C dX8_takesNumber_19 ?_
          refine z_isubN C dX8_takesNumber_20 (by omega) ?_
          refine z_iconstN 2 C dX8_takesNumber_21 ?_
          refine z_icmp_geN C 73 dX8_takesNumber_22 (by decide) (by omega) (by omega) (fun c22 => ?_) (fun c22 => ?_)
          · have eV := numV_y (tx := tx) d1
            refine z_aload0 C dX8_takesNumber_73 ?_
            refine z_get C dX8_takesNumber_74 fl_X8_takesNumber_89 (k_Model _) rfl ?_
            refine z_top C hP.2.1 ?_
            refine z_iload2 C dX8_takesNumber_77 ?_
            refine z_icmp_eqN C 89 dX8_takesNumber_78 (by decide) (by omega) (by omega) (fun c78 => ?_) (fun c78 => ?_)
            · exact absurd c78 (by omega)
            · refine z_aload0 C dX8_takesNumber_81 ?_
              refine z_get C dX8_takesNumber_82 fl_X8_takesNumber_100 (k_Model _) rfl ?_
              refine z_top C h8 ?_
              refine z_iload1 C dX8_takesNumber_85 ?_
              refine z_icmp_leN C 96 dX8_takesNumber_86 (by decide) (by omega) (by omega) (fun c86 => ?_) (fun c86 => ?_)
              · refine z_aload0 C dX8_takesNumber_96 ?_
                refine z_aload0 C dX8_takesNumber_97 ?_
                refine z_get C dX8_takesNumber_98 fl_X8_takesNumber_89 (k_Model _) rfl ?_
                refine z_top C hP.2.1 ?_
                refine z_callVI C dX8_takesNumber_101 (c_X8_isFigure hx hP hP.2.2.2) gX8_takesNumber_X8_isFigure md_X8_isFigure rfl (by decide) (k_Model _) rfl rfl rfl (Nat.le_of_ble_eq_true rfl) ?_
                refine z_if_neB C 111 dX8_takesNumber_104 (by decide) (fun c104 => ?_) (fun c104 => ?_)
                · refine z_iconstN 0 C dX8_takesNumber_111 ?_
                  exact z_iretP C dX8_takesNumber_112 hr rfl (Or.inr ⟨_, numS_d (numL_y d0 eV c86) c104, rfl, hP, hf⟩)
                · refine z_iconstN 1 C dX8_takesNumber_107 ?_
                  refine z_goto C 112 dX8_takesNumber_108 (by decide) ?_
                  exact z_iretP C dX8_takesNumber_112 hr rfl (Or.inl ⟨_, _, numS_y (numL_y d0 eV c86) c104, rfl, h8, hP, hf⟩)
              · refine z_aload0 C dX8_takesNumber_89 ?_
                refine z_iload2 C dX8_takesNumber_90 ?_
                refine z_put C dX8_takesNumber_91 fp_X8_takesNumber_89 (k_Model _) rfl rfl (Nat.le_of_ble_eq_true rfl) rfl ?_
                refine z_iconstN 0 C dX8_takesNumber_94 ?_
                exact z_iretP C dX8_takesNumber_95 hr rfl (Or.inr ⟨_, numS_e (numL_b d0 eV (by omega)), rfl, TM_put hP (by omega), hf.tr FrT.p⟩)
          · exact absurd c22 (by omega)

theorem md_X8_takesNumber : MD yX8_takesNumber wsX8_takesNumber 1 3 (some .boolean) := ⟨_, _, rfl, by decide, by decide +kernel, by decide +kernel, by decide +kernel⟩
set_option maxRecDepth 20000 in
theorem fl_X8_takesMark_100 : FL RX8 wsX8_takesMark 100 8 8 := ⟨RX8, TX8, 15, rfl, (fun w h => List.mem_cons_of_mem _ (List.mem_append_right _ h)), by decide, by decide +kernel⟩
theorem md_X8_takes : MD yX8_takes wsX8_takes 1 2 (some .boolean) := ⟨_, _, rfl, by decide, by decide +kernel, by decide +kernel, by decide +kernel⟩
theorem md_X8_takesDigit : MD yX8_takesDigit wsX8_takesDigit 2 4 (some .boolean) := ⟨_, _, rfl, by decide, by decide +kernel, by decide +kernel, by decide +kernel⟩
set_option maxHeartbeats 4000000 in
set_option maxRecDepth 100000 in
theorem c_X8_takesMark {l : Launch} {Y : LY} {S : GS} {tx : Nat → Nat} {N p : Nat} (hx : TxOk tx N) (hP : TM S tx N p) {W : VR} {dd : Nat} (hW : HW (S.1 179) 630 (vs W 0 4 dd)) (hO : Ok W) (h6 : W 0 0 < 6) : CtP l yX8_takesMark wsX8_takesMark 4 Y [.ref (ad Y 178)] S (fun r u => (∃ W1 q, maP tx N p W = .ok (W1, q) ∧ r = nI 1 ∧ TM u tx N q ∧ HW (u.1 179) 630 (vs W1 0 4 dd) ∧ FrR S u) ∨ (∃ q, maP tx N p W = .error q ∧ r = nI 0 ∧ TM u tx N q ∧ FrR S u)) := by
  refine mkP (cc := cX8_takesMark) (maxL := 4) rfl rfl (Nat.le_of_ble_eq_true rfl) ?_
  intro X hl hY C hr
  subst hl
  subst hY
  have x90 := hx.1
  have pN := hP.2.2.2
  show Zj X S [some (.ref (ad (xY X) 178)), none, none, none] 0 []
  refine z_aload0 C dX8_takesMark_0 ?_
  refine z_bipush (v := nI 60) C dX8_takesMark_1 (by decide) ?_
  refine z_callVP C dX8_takesMark_3 (c_X8_takesNumber hx hP (by decide)) gX8_takesMark_X8_takesNumber md_X8_takesNumber rfl (by decide) (k_Model _) rfl rfl rfl (Nat.le_of_ble_eq_true rfl) ?_
  rintro r0 T1 hE
  rcases hE with ⟨x, p1, e1, rfl, h8, hP, hf⟩ | ⟨q, e1, rfl, hP, hf⟩
  · refine z_if_neT C 11 dX8_takesMark_6 (by decide) (by decide) ?_
    refine z_aload0 C dX8_takesMark_11 ?_
    refine z_get C dX8_takesMark_12 fl_X8_takesMark_100 (k_Model _) rfl ?_
    refine z_top C h8 ?_
    refine z_istore1 C dX8_takesMark_15 nl_r ?_
    refine z_aload0 C dX8_takesMark_16 ?_
    refine z_bipush (v := nI 46) C dX8_takesMark_17 (by decide) ?_
    refine z_callVP C dX8_takesMark_19 (c_X8_takes hx hP (by decide) (by decide)) gX8_takesMark_X8_takes md_X8_takes rfl (by decide) (k_Model _) rfl rfl rfl (Nat.le_of_ble_eq_true rfl) ?_
    rintro _ T2 ⟨rfl, hP, hf2⟩
    have hf := hf.tr hf2
    refine z_if_eqB C 35 dX8_takesMark_22 (by decide) (fun c22 => ?_) (fun c22 => ?_)
    · refine z_iconstN 0 C dX8_takesMark_35 ?_
      rw [tkN_n c22] at hP
      exact z_iretP C dX8_takesMark_36 hr rfl (Or.inr ⟨_, ma1 e1 c22, rfl, hP, hf.r⟩)
    · rw [tkN_y c22] at hP
      refine z_aload0 C dX8_takesMark_25 ?_
      refine z_iconstN 1 C dX8_takesMark_26 ?_
      refine z_bipush (v := nI 9) C dX8_takesMark_27 (by decide) ?_
      refine z_callVP C dX8_takesMark_29 (c_X8_takesDigit hx hP (by decide) (by decide)) gX8_takesMark_X8_takesDigit md_X8_takesDigit rfl (by decide) (k_Model _) rfl rfl rfl (Nat.le_of_ble_eq_true rfl) ?_
      rintro r0 T3 hE
      rcases hE with ⟨y, p2, e2, rfl, h8, hP, hf3⟩ | ⟨q, e2, rfl, hP, hf3⟩
      · have hf := hf.tr hf3
        refine z_if_neT C 37 dX8_takesMark_32 (by decide) (by decide) ?_
        refine z_aload0 C dX8_takesMark_37 ?_
        refine z_get C dX8_takesMark_38 fl_X8_takesMark_100 (k_Model _) rfl ?_
        refine z_top C h8 ?_
        refine z_istore2 C dX8_takesMark_41 nl_i ?_
        refine z_iconstN 0 C dX8_takesMark_42 ?_
        refine z_istore3 C dX8_takesMark_43 nl_i ?_
        refine z_aload0 C dX8_takesMark_44 ?_
        refine z_bipush (v := nI 47) C dX8_takesMark_45 (by decide) ?_
        refine z_callVP C dX8_takesMark_47 (c_X8_takes hx hP (by decide) (by decide)) gX8_takesMark_X8_takes md_X8_takes rfl (by decide) (k_Model _) rfl rfl rfl (Nat.le_of_ble_eq_true rfl) ?_
        rintro _ T4 ⟨rfl, hP, hf4⟩
        have hf := hf.tr hf4
        refine z_if_eqB C 69 dX8_takesMark_50 (by decide) (fun c50 => ?_) (fun c50 => ?_)
        · have hWc := HW_T hW hf
          have hM := hWc.1.1
          rw [vs_00] at hM
          rw [tkN_n c50] at hP
          refine z_aload0 C dX8_takesMark_69 ?_
          refine z_sipush (v := nI 630) C dX8_takesMark_70 (by decide) ?_
          refine z_iload1 C dX8_takesMark_73 ?_
          refine z_iload2 C dX8_takesMark_74 ?_
          refine z_iload3 C dX8_takesMark_75 ?_
          refine z_callVV C dX8_takesMark_76 (c_X8_addsMark (r := 630) (by decide) h6 hM) gX8_takesMark_X8_addsMark md_X8_addsMark rfl (by decide) (k_Model _) rfl rfl rfl (Nat.le_of_ble_eq_true rfl) ?_
          refine z_iconstN 1 C dX8_takesMark_79 ?_
          exact z_iretP C dX8_takesMark_80 hr rfl (Or.inl ⟨_, _, ma3 e1 c22 e2 c50, rfl, TM_om hP mAM_fr, HW_AMd hO h6 hWc, hf.r.tr mAM_R⟩)
        · rw [tkN_y c50] at hP
          refine z_aload0 C dX8_takesMark_53 ?_
          refine z_bipush (v := nI 60) C dX8_takesMark_54 (by decide) ?_
          refine z_callVP C dX8_takesMark_56 (c_X8_takesNumber hx hP (by decide)) gX8_takesMark_X8_takesNumber md_X8_takesNumber rfl (by decide) (k_Model _) rfl rfl rfl (Nat.le_of_ble_eq_true rfl) ?_
          rintro r0 T5 hE
          rcases hE with ⟨z, p3, e3, rfl, h8, hP, hf5⟩ | ⟨q, e3, rfl, hP, hf5⟩
          · have hf := hf.tr hf5
            refine z_if_neT C 64 dX8_takesMark_59 (by decide) (by decide) ?_
            refine z_aload0 C dX8_takesMark_64 ?_
            refine z_get C dX8_takesMark_65 fl_X8_takesMark_100 (k_Model _) rfl ?_
            refine z_top C h8 ?_
            refine z_istore3 C dX8_takesMark_68 nl_i ?_
            have hWc := HW_T hW hf
            have hM := hWc.1.1
            rw [vs_00] at hM
            refine z_aload0 C dX8_takesMark_69 ?_
            refine z_sipush (v := nI 630) C dX8_takesMark_70 (by decide) ?_
            refine z_iload1 C dX8_takesMark_73 ?_
            refine z_iload2 C dX8_takesMark_74 ?_
            refine z_iload3 C dX8_takesMark_75 ?_
            refine z_callVV C dX8_takesMark_76 (c_X8_addsMark (r := 630) (by decide) h6 hM) gX8_takesMark_X8_addsMark md_X8_addsMark rfl (by decide) (k_Model _) rfl rfl rfl (Nat.le_of_ble_eq_true rfl) ?_
            refine z_iconstN 1 C dX8_takesMark_79 ?_
            exact z_iretP C dX8_takesMark_80 hr rfl (Or.inl ⟨_, _, ma5 e1 c22 e2 c50 e3, rfl, TM_om hP mAM_fr, HW_AMd hO h6 hWc, hf.r.tr mAM_R⟩)
          · have hf := hf.tr hf5
            refine z_if_neF C 64 dX8_takesMark_59 (by decide) (by decide) ?_
            refine z_iconstN 0 C dX8_takesMark_62 ?_
            exact z_iretP C dX8_takesMark_63 hr rfl (Or.inr ⟨_, ma4 e1 c22 e2 c50 e3, rfl, hP, hf.r⟩)
      · have hf := hf.tr hf3
        refine z_if_neF C 37 dX8_takesMark_32 (by decide) (by decide) ?_
        refine z_iconstN 0 C dX8_takesMark_35 ?_
        exact z_iretP C dX8_takesMark_36 hr rfl (Or.inr ⟨_, ma2 e1 c22 e2, rfl, hP, hf.r⟩)
  · refine z_if_neF C 11 dX8_takesMark_6 (by decide) (by decide) ?_
    refine z_iconstN 0 C dX8_takesMark_9 ?_
    exact z_iretP C dX8_takesMark_10 hr rfl (Or.inr ⟨_, ma0 e1, rfl, hP, hf.r⟩)

set_option maxHeartbeats 4000000 in
set_option maxRecDepth 100000 in
theorem c_X8_kindOf {l : Launch} {Y : LY} {S : GS} {c : Nat} (hc : c ≤ 126) : CtI l yX8_kindOf wsX8_kindOf 1 Y [.int (nI c)] S (kdI c) (S) := by
  refine mkI (cc := cX8_kindOf) (maxL := 1) rfl rfl (Nat.le_of_ble_eq_true rfl) ?_
  intro X hl hY C hr
  subst hl
  subst hY
  show Zj X S [some (.int (nI c))] 0 []
  refine z_iload0 C dX8_kindOf_0 ?_
  refine z_bipush (v := nI 112) C dX8_kindOf_1 (by decide) ?_
  refine z_icmp_neN C 10 dX8_kindOf_3 (by decide) (by omega) (by omega) (fun c3 => ?_) (fun c3 => ?_)
  · refine z_iload0 C dX8_kindOf_10 ?_
    refine z_bipush (v := nI 110) C dX8_kindOf_11 (by decide) ?_
    refine z_icmp_neN C 20 dX8_kindOf_13 (by decide) (by omega) (by omega) (fun c13 => ?_) (fun c13 => ?_)
    · refine z_iload0 C dX8_kindOf_20 ?_
      refine z_bipush (v := nI 115) C dX8_kindOf_21 (by decide) ?_
      refine z_icmp_neN C 30 dX8_kindOf_23 (by decide) (by omega) (by omega) (fun c23 => ?_) (fun c23 => ?_)
      · refine z_iload0 C dX8_kindOf_30 ?_
        refine z_bipush (v := nI 116) C dX8_kindOf_31 (by decide) ?_
        refine z_icmp_neN C 40 dX8_kindOf_33 (by decide) (by omega) (by omega) (fun c33 => ?_) (fun c33 => ?_)
        · refine z_iload0 C dX8_kindOf_40 ?_
          refine z_bipush (v := nI 97) C dX8_kindOf_41 (by decide) ?_
          refine z_icmp_neN C 50 dX8_kindOf_43 (by decide) (by omega) (by omega) (fun c43 => ?_) (fun c43 => ?_)
          · refine z_iconst (v := (-1)) C dX8_kindOf_50 (by decide) ?_
            exact z_iret C dX8_kindOf_51 hr rfl (by unfold kdI; rw [if_neg c3, if_neg c13, if_neg c23, if_neg c33, if_neg c43]) rfl
          · refine z_iconstN 4 C dX8_kindOf_46 ?_
            refine z_goto C 51 dX8_kindOf_47 (by decide) ?_
            exact z_iret C dX8_kindOf_51 hr rfl (by unfold kdI; rw [if_neg c3, if_neg c13, if_neg c23, if_neg c33, if_pos c43]) rfl
        · refine z_iconstN 3 C dX8_kindOf_36 ?_
          refine z_goto C 51 dX8_kindOf_37 (by decide) ?_
          exact z_iret C dX8_kindOf_51 hr rfl (by unfold kdI; rw [if_neg c3, if_neg c13, if_neg c23, if_pos c33]) rfl
      · refine z_iconstN 2 C dX8_kindOf_26 ?_
        refine z_goto C 51 dX8_kindOf_27 (by decide) ?_
        exact z_iret C dX8_kindOf_51 hr rfl (by unfold kdI; rw [if_neg c3, if_neg c13, if_pos c23]) rfl
    · refine z_iconstN 1 C dX8_kindOf_16 ?_
      refine z_goto C 51 dX8_kindOf_17 (by decide) ?_
      exact z_iret C dX8_kindOf_51 hr rfl (by unfold kdI; rw [if_neg c3, if_pos c13]) rfl
  · refine z_iconstN 0 C dX8_kindOf_6 ?_
    refine z_goto C 51 dX8_kindOf_7 (by decide) ?_
    exact z_iret C dX8_kindOf_51 hr rfl (by unfold kdI; rw [if_pos c3]) rfl

theorem md_X8_kindOf : MD yX8_kindOf wsX8_kindOf 1 1 (some .int) := ⟨_, _, rfl, by decide, by decide +kernel, by decide +kernel, by decide +kernel⟩
set_option maxRecDepth 20000 in
theorem fl_X8_takesMonk_89 : FL RX8 wsX8_takesMonk 89 8 7 := ⟨RX8, TX8, 15, rfl, (fun w h => List.mem_cons_of_mem _ (List.mem_append_right _ h)), by decide, by decide +kernel⟩
theorem fp_X8_takesMonk_89 : FP RX8 wsX8_takesMonk 89 8 7 .int := ⟨fl_X8_takesMonk_89, RX8, TX8, 15, tyX8, rfl, tyX8_ok, nmX8, rfl, by decide +kernel⟩
set_option maxRecDepth 20000 in
theorem fl_X8_takesMonk_100 : FL RX8 wsX8_takesMonk 100 8 8 := ⟨RX8, TX8, 15, rfl, (fun w h => List.mem_cons_of_mem _ (List.mem_append_right _ h)), by decide, by decide +kernel⟩
set_option maxRecDepth 20000 in
theorem fl_X8_takesMonk_7 : FL RX8 wsX8_takesMonk 7 8 0 := ⟨RX8, TX8, 15, rfl, (fun w h => List.mem_cons_of_mem _ (List.mem_append_right _ h)), by decide, by decide +kernel⟩
set_option maxHeartbeats 4000000 in
set_option maxRecDepth 100000 in
theorem c_X8_takesMonk {l : Launch} {Y : LY} {S : GS} {tx : Nat → Nat} {N p : Nat} (hx : TxOk tx N) (hP : TM S tx N p) {W : VR} {dd : Nat} (hW : HW (S.1 179) 630 (vs W 0 4 dd)) (hO : Ok W) (h0 : 0 < W 0 0) (h5 : W 0 1 < 5) : CtP l yX8_takesMonk wsX8_takesMonk 4 Y [.ref (ad Y 178)] S (fun r u => (∃ W1 q, moP tx N p W = .ok (W1, q) ∧ r = nI 1 ∧ TM u tx N q ∧ HW (u.1 179) 630 (vs W1 0 4 dd) ∧ FrR S u) ∨ (∃ q, moP tx N p W = .error q ∧ r = nI 0 ∧ TM u tx N q ∧ FrR S u)) := by
  refine mkP (cc := cX8_takesMonk) (maxL := 4) rfl rfl (Nat.le_of_ble_eq_true rfl) ?_
  intro X hl hY C hr
  subst hl
  subst hY
  have x90 := hx.1
  have pN := hP.2.2.2
  show Zj X S [some (.ref (ad (xY X) 178)), none, none, none] 0 []
  refine z_aload0 C dX8_takesMonk_0 ?_
  refine z_callVP C dX8_takesMonk_1 (c_X8_peek hx hP) gX8_takesMonk_X8_peek md_X8_peek rfl (by decide) (k_Model _) rfl rfl rfl (Nat.le_of_ble_eq_true rfl) ?_
  rintro _ T ⟨rfl, hP, hf⟩
  obtain ⟨sk1, sk2, sk3⟩ := sk_in (tx := tx) pN
  have lk1 := lkn_le (q := sk tx N p) hx
  refine z_callSI C dX8_takesMonk_4 (c_X8_kindOf lk1) gX8_takesMonk_X8_kindOf md_X8_kindOf (by decide) rfl rfl (Nat.le_of_ble_eq_true rfl) ?_
  refine z_top C (kdI_N _) ?_
  refine z_istore1 C dX8_takesMonk_7 nl_r ?_
  refine z_iload1 C dX8_takesMonk_8 ?_
  refine z_if_ge C 14 dX8_takesMonk_9 (by decide) (fun c9 => ?_) (fun c9 => ?_)
  · have hkd := kd_lk.mp ((mI_pos (by have := kdN_le (lkn tx N (sk tx N p)); omega)).mp c9)
    obtain ⟨kd, ekd⟩ : ∃ kd, kdN (tx (sk tx N p)) = kd + 1 := ⟨kdN (tx (sk tx N p)) - 1, by have := hkd.2; omega⟩
    rw [lkn_y hkd.1, ekd, mI_s]
    refine z_aload0 C dX8_takesMonk_14 ?_
    refine z_dup C dX8_takesMonk_15 rfl ?_
    refine z_get C dX8_takesMonk_16 fl_X8_takesMonk_89 (k_Model _) rfl ?_
    refine z_top C hP.2.1 ?_
    refine z_iconstN 1 C dX8_takesMonk_19 ?_
    refine z_iaddN C dX8_takesMonk_20 ?_
    refine z_put C dX8_takesMonk_21 fp_X8_takesMonk_89 (k_Model _) rfl rfl (Nat.le_of_ble_eq_true rfl) rfl ?_
    refine z_genS (P := fun T => TM T tx N (sk tx N p + 1) ∧ FrT S T) ⟨TM_put hP (by have := hkd.1; omega), hf.tr FrT.p⟩ (fun T3 hT3 => ?_)
    obtain ⟨hP, hf⟩ := hT3
    refine z_aload0 C dX8_takesMonk_24 ?_
    refine z_bipush (v := nI 99) C dX8_takesMonk_25 (by decide) ?_
    refine z_callVP C dX8_takesMonk_27 (c_X8_takesNumber hx hP (by decide)) gX8_takesMonk_X8_takesNumber md_X8_takesNumber rfl (by decide) (k_Model _) rfl rfl rfl (Nat.le_of_ble_eq_true rfl) ?_
    rintro r0 T4 hE
    rcases hE with ⟨x, p1, e1, rfl, h8, hP, hf4⟩ | ⟨q, e1, rfl, hP, hf4⟩
    · have hf := hf.tr hf4
      refine z_if_neT C 35 dX8_takesMonk_30 (by decide) (by decide) ?_
      refine z_aload0 C dX8_takesMonk_35 ?_
      refine z_get C dX8_takesMonk_36 fl_X8_takesMonk_100 (k_Model _) rfl ?_
      refine z_top C h8 ?_
      refine z_istore2 C dX8_takesMonk_39 nl_i ?_
      refine z_bipush (v := (-4)) C dX8_takesMonk_40 (by decide) ?_
      refine z_istore3 C dX8_takesMonk_42 nl_i ?_
      refine z_aload0 C dX8_takesMonk_43 ?_
      refine z_bipush (v := nI 62) C dX8_takesMonk_44 (by decide) ?_
      refine z_callVP C dX8_takesMonk_46 (c_X8_takes hx hP (by decide) (by decide)) gX8_takesMonk_X8_takes md_X8_takes rfl (by decide) (k_Model _) rfl rfl rfl (Nat.le_of_ble_eq_true rfl) ?_
      rintro _ T5 ⟨rfl, hP, hf5⟩
      have hf := hf.tr hf5
      refine z_if_eqB C 77 dX8_takesMonk_49 (by decide) (fun c49 => ?_) (fun c49 => ?_)
      · have hWc := HW_T hW hf
        have hKm := hWc.1.2.1
        rw [vs_01] at hKm
        rw [tkN_n c49] at hP
        refine z_aload0 C dX8_takesMonk_77 ?_
        refine z_sipush (v := nI 630) C dX8_takesMonk_78 (by decide) ?_
        refine z_iload1 C dX8_takesMonk_81 ?_
        refine z_iload2 C dX8_takesMonk_82 ?_
        refine z_iload3 C dX8_takesMonk_83 ?_
        refine z_callVV C dX8_takesMonk_84 (c_X8_addsMonk (r := 630) (by decide) h5 hKm) gX8_takesMonk_X8_addsMonk md_X8_addsMonk rfl (by decide) (k_Model _) rfl rfl rfl (Nat.le_of_ble_eq_true rfl) ?_
        refine z_iconstN 1 C dX8_takesMonk_87 ?_
        have hA := HW_AKd (x := kd) (y := x) (z := 0) hO h5 hWc
        rw [sI_0] at hA
        exact z_iretP C dX8_takesMonk_88 hr rfl (Or.inl ⟨_, _, mo2 hkd ekd e1 c49, rfl, TM_om hP mAK_fr, hA, hf.r.tr mAK_R⟩)
      · rw [tkN_y c49] at hP
        have hM := (HW_T hW hf).1.1
        rw [vs_00] at hM
        have oW := hO.1
        refine z_aload0 C dX8_takesMonk_52 ?_
        refine z_iconstN 0 C dX8_takesMonk_53 ?_
        refine z_aload0 C dX8_takesMonk_54 ?_
        refine z_get C dX8_takesMonk_55 fl_X8_takesMonk_7 (k_Model _) rfl ?_
        refine z_sipush (v := nI 630) C dX8_takesMonk_58 (by decide) ?_
        refine z_iald C dX8_takesMonk_61 (k_i179 _) (by omega) ?_
        refine z_top C hM ?_
        refine z_iconstN 1 C dX8_takesMonk_62 ?_
        refine z_isubN C dX8_takesMonk_63 (by omega) ?_
        refine z_callVP C dX8_takesMonk_64 (c_X8_takesDigit hx hP (by decide) (by omega)) gX8_takesMonk_X8_takesDigit md_X8_takesDigit rfl (by decide) (k_Model _) rfl rfl rfl (Nat.le_of_ble_eq_true rfl) ?_
        rintro r0 T6 hE
        rcases hE with ⟨y, p2, e2, rfl, h8, hP, hf6⟩ | ⟨q, e2, rfl, hP, hf6⟩
        · have hf := hf.tr hf6
          refine z_if_neT C 72 dX8_takesMonk_67 (by decide) (by decide) ?_
          refine z_aload0 C dX8_takesMonk_72 ?_
          refine z_get C dX8_takesMonk_73 fl_X8_takesMonk_100 (k_Model _) rfl ?_
          refine z_top C h8 ?_
          refine z_istore3 C dX8_takesMonk_76 nl_i ?_
          have hWc := HW_T hW hf
          have hKm := hWc.1.2.1
          rw [vs_01] at hKm
          refine z_aload0 C dX8_takesMonk_77 ?_
          refine z_sipush (v := nI 630) C dX8_takesMonk_78 (by decide) ?_
          refine z_iload1 C dX8_takesMonk_81 ?_
          refine z_iload2 C dX8_takesMonk_82 ?_
          refine z_iload3 C dX8_takesMonk_83 ?_
          refine z_callVV C dX8_takesMonk_84 (c_X8_addsMonk (r := 630) (by decide) h5 hKm) gX8_takesMonk_X8_addsMonk md_X8_addsMonk rfl (by decide) (k_Model _) rfl rfl rfl (Nat.le_of_ble_eq_true rfl) ?_
          refine z_iconstN 1 C dX8_takesMonk_87 ?_
          have hA := HW_AKd (x := kd) (y := x) (z := y + 1) hO h5 hWc
          rw [sI_s] at hA
          exact z_iretP C dX8_takesMonk_88 hr rfl (Or.inl ⟨_, _, mo4 hkd ekd e1 c49 e2, rfl, TM_om hP mAK_fr, hA, hf.r.tr mAK_R⟩)
        · have hf := hf.tr hf6
          refine z_if_neF C 72 dX8_takesMonk_67 (by decide) (by decide) ?_
          refine z_iconstN 0 C dX8_takesMonk_70 ?_
          exact z_iretP C dX8_takesMonk_71 hr rfl (Or.inr ⟨_, mo3 hkd e1 c49 e2, rfl, hP, hf.r⟩)
    · have hf := hf.tr hf4
      refine z_if_neF C 35 dX8_takesMonk_30 (by decide) (by decide) ?_
      refine z_iconstN 0 C dX8_takesMonk_33 ?_
      exact z_iretP C dX8_takesMonk_34 hr rfl (Or.inr ⟨_, mo1 hkd e1, rfl, hP, hf.r⟩)
  · refine z_iconstN 0 C dX8_takesMonk_12 ?_
    exact z_iretP C dX8_takesMonk_13 hr rfl (Or.inr ⟨_, mo0 (fun z => c9 ((mI_pos (by have := kdN_le (lkn tx N (sk tx N p)); omega)).mpr (kd_lk.mpr z))), rfl, hP, hf.r⟩)
