theorem dgi {tx : Nat → Nat} {n q lo hi : Nat} (hx : TxOk tx n) (hl : lo < 1000) (hh : hi < 1000) : (¬ lkC tx n q - nI 48 < nI lo ∧ lkC tx n q - nI 48 ≤ nI hi) ↔ (q < n ∧ 48 + lo ≤ tx q ∧ tx q ≤ 48 + hi) := by
  rw [Int32.lt_iff_toInt_lt, Int32.le_iff_toInt_le, nI_toInt (by omega), nI_toInt (by omega)]
  by_cases h : q < n
  · have := hx.2 q h
    rw [lkC_y h, pk_sub_toInt (by omega) (by decide)]
    omega
  · rw [lkC_n h]
    have : (-1 - nI 48 : Int32).toInt = -49 := rfl
    omega
theorem dgv {tx : Nat → Nat} {n q : Nat} (h : q < n) (h2 : 48 ≤ tx q) : lkC tx n q - nI 48 = nI (tx q - 48) := by rw [lkC_y h, pk_sub h2]
theorem inB_d {c : Nat} (h : c < 1000) : inB (nI c) 48 57 ↔ 48 ≤ c ∧ c ≤ 57 := by
  unfold inB
  rw [nI_leI (by omega) (by omega), nI_leI (by omega) (by omega)]

set_option maxRecDepth 20000 in
theorem fl_X6_readDigit_24 : FL RX6 wsX6_readDigit 24 6 2 := ⟨RX6, TX6, 4, rfl, (fun w h => List.mem_cons_of_mem _ (List.mem_append_right _ h)), by decide, by decide +kernel⟩
theorem fp_X6_readDigit_24 : FP RX6 wsX6_readDigit 24 6 2 .int := ⟨fl_X6_readDigit_24, RX6, TX6, 4, tyX6, rfl, tyX6_ok, nmX6, rfl, by decide +kernel⟩
set_option maxHeartbeats 4000000 in
set_option maxRecDepth 100000 in
theorem c_X6_readDigit {l : Launch} {Y : LY} {S : GS} {tx : Nat → Nat} {N p : Nat} (hx : TxOk tx N) (hP : TP S tx N p) {lo hi : Nat} (hl : lo < 1000) (hh : hi < 1000) : CtP l yX6_readDigit wsX6_readDigit 2 Y [.ref (ad Y 11), .int (nI lo), .int (nI hi)] S (fun r u => (∃ v q, dig tx N lo hi p = .ok (v, q) ∧ r = nI v ∧ TP u tx N q ∧ Fr F11 S u) ∨ (∃ q, dig tx N lo hi p = .error q ∧ r = -1 ∧ u.1 11 3 = nI q ∧ Fr F11 S u)) := by
  refine mkP (cc := cX6_readDigit) (maxL := 4) rfl rfl (Nat.le_of_ble_eq_true rfl) ?_
  intro X hl hY C hr
  subst hl
  subst hY
  have x90 := hx.1
  have pN := hP.2.2.2
  show Zj X S [some (.ref (ad (xY X) 11)), some (.int (nI lo)), some (.int (nI hi)), none] 0 []
  refine z_aload0 C dX6_readDigit_0 ?_
  refine z_callVP C dX6_readDigit_1 (c_X6_look hx hP) gX6_readDigit_X6_look md_X6_look rfl (by decide) (k_Tape _) rfl rfl rfl (Nat.le_of_ble_eq_true rfl) ?_
  rintro _ T ⟨rfl, hP, hf⟩
  obtain ⟨sk1, sk2, sk3⟩ := sk_in (tx := tx) pN
  refine z_bipush (v := nI 48) C dX6_readDigit_4 (by decide) ?_
  refine z_isub C dX6_readDigit_6 ?_
  refine z_istore3 C dX6_readDigit_7 nl_i ?_
  have hd := dgi (q := sk tx N p) hx hl hh
  refine z_iload3 C dX6_readDigit_8 ?_
  refine z_iload1 C dX6_readDigit_9 ?_
  refine z_icmp_lt C 18 dX6_readDigit_10 (by decide) (fun c10 => ?_) (fun c10 => ?_)
  · refine z_aload0 C dX6_readDigit_18 ?_
    refine z_aload0 C dX6_readDigit_19 ?_
    refine z_get C dX6_readDigit_20 fl_X6_readDigit_24 (k_Tape _) rfl ?_
    refine z_top C hP.2.1 ?_
    refine z_callVI C dX6_readDigit_23 c_X6_failAt gX6_readDigit_X6_failAt md_X6_failAt rfl (by decide) (k_Tape _) rfl rfl rfl (Nat.le_of_ble_eq_true rfl) ?_
    refine z_pop C dX6_readDigit_26 rfl ?_
    refine z_iconst (v := (-1)) C dX6_readDigit_27 (by decide) ?_
    exact z_iretP C dX6_readDigit_28 hr rfl (Or.inr ⟨_, dig_n (fun z => (hd.mpr z).1 c10), rfl, stI_me _ _ _ _, hf.tr Fr.I11⟩)
  · refine z_iload3 C dX6_readDigit_13 ?_
    refine z_iload2 C dX6_readDigit_14 ?_
    refine z_icmp_le C 29 dX6_readDigit_15 (by decide) (fun c15 => ?_) (fun c15 => ?_)
    · have hq := hd.mp ⟨c10, c15⟩
      refine z_aload0 C dX6_readDigit_29 ?_
      refine z_dup C dX6_readDigit_30 rfl ?_
      refine z_get C dX6_readDigit_31 fl_X6_readDigit_24 (k_Tape _) rfl ?_
      refine z_top C hP.2.1 ?_
      refine z_iconstN 1 C dX6_readDigit_34 ?_
      refine z_iaddN C dX6_readDigit_35 ?_
      refine z_put C dX6_readDigit_36 fp_X6_readDigit_24 (k_Tape _) rfl rfl (Nat.le_of_ble_eq_true rfl) rfl ?_
      refine z_iload3 C dX6_readDigit_39 ?_
      exact z_iretP C dX6_readDigit_40 hr rfl (Or.inl ⟨_, _, dig_y hq, dgv hq.1 (by omega), TP_put hP (by omega), hf.tr Fr.I11⟩)
    · refine z_aload0 C dX6_readDigit_18 ?_
      refine z_aload0 C dX6_readDigit_19 ?_
      refine z_get C dX6_readDigit_20 fl_X6_readDigit_24 (k_Tape _) rfl ?_
      refine z_top C hP.2.1 ?_
      refine z_callVI C dX6_readDigit_23 c_X6_failAt gX6_readDigit_X6_failAt md_X6_failAt rfl (by decide) (k_Tape _) rfl rfl rfl (Nat.le_of_ble_eq_true rfl) ?_
      refine z_pop C dX6_readDigit_26 rfl ?_
      refine z_iconst (v := (-1)) C dX6_readDigit_27 (by decide) ?_
      exact z_iretP C dX6_readDigit_28 hr rfl (Or.inr ⟨_, dig_n (fun z => c15 (hd.mpr z).2), rfl, stI_me _ _ _ _, hf.tr Fr.I11⟩)

theorem md_X6_isDigit : MD yX6_isDigit wsX6_isDigit 1 1 (some .boolean) := ⟨_, _, rfl, by decide, by decide +kernel, by decide +kernel, by decide +kernel⟩
set_option maxRecDepth 20000 in
theorem fl_X6_readNumber_24 : FL RX6 wsX6_readNumber 24 6 2 := ⟨RX6, TX6, 4, rfl, (fun w h => List.mem_cons_of_mem _ (List.mem_append_right _ h)), by decide, by decide +kernel⟩
set_option maxRecDepth 20000 in
theorem fl_X6_readNumber_9 : FL RX6 wsX6_readNumber 9 6 0 := ⟨RX6, TX6, 4, rfl, (fun w h => List.mem_cons_of_mem _ (List.mem_append_right _ h)), by decide, by decide +kernel⟩
theorem fp_X6_readNumber_24 : FP RX6 wsX6_readNumber 24 6 2 .int := ⟨fl_X6_readNumber_24, RX6, TX6, 4, tyX6, rfl, tyX6_ok, nmX6, rfl, by decide +kernel⟩
set_option maxRecDepth 20000 in
theorem fl_X6_readNumber_15 : FL RX6 wsX6_readNumber 15 6 1 := ⟨RX6, TX6, 4, rfl, (fun w h => List.mem_cons_of_mem _ (List.mem_append_right _ h)), by decide, by decide +kernel⟩
set_option maxHeartbeats 4000000 in
set_option maxRecDepth 100000 in
theorem c_X6_readNumber {l : Launch} {Y : LY} {S : GS} {tx : Nat → Nat} {N p : Nat} (hx : TxOk tx N) (hP : TP S tx N p) {hi : Nat} (hh : hi < 1000) : CtP l yX6_readNumber wsX6_readNumber 2 Y [.ref (ad Y 11), .int (nI hi)] S (fun r u => (∃ v q, numL tx N hi p = .ok (v, q) ∧ r = nI v ∧ TP u tx N q ∧ Fr F11 S u) ∨ (∃ q, numL tx N hi p = .error q ∧ r = -1 ∧ u.1 11 3 = nI q ∧ Fr F11 S u)) := by
  refine mkP (cc := cX6_readNumber) (maxL := 4) rfl rfl (Nat.le_of_ble_eq_true rfl) ?_
  intro X hl hY C hr
  subst hl
  subst hY
  have x90 := hx.1
  have pN := hP.2.2.2
  show Zj X S [some (.ref (ad (xY X) 11)), some (.int (nI hi)), none, none] 0 []
  refine z_aload0 C dX6_readNumber_0 ?_
  refine z_callVP C dX6_readNumber_1 (c_X6_look hx hP) gX6_readNumber_X6_look md_X6_look rfl (by decide) (k_Tape _) rfl rfl rfl (Nat.le_of_ble_eq_true rfl) ?_
  rintro _ T ⟨rfl, hP, hf⟩
  obtain ⟨sk1, sk2, sk3⟩ := sk_in (tx := tx) pN
  refine z_callSI C dX6_readNumber_4 c_X6_isDigit gX6_readNumber_X6_isDigit md_X6_isDigit (by decide) rfl rfl (Nat.le_of_ble_eq_true rfl) ?_
  refine z_if_neB C 21 dX6_readNumber_7 (by decide) (fun c7 => ?_) (fun c7 => ?_)
  · have hd := (lkC_d hx).mp c7
    have lq := hx.2 _ hd.1
    refine z_aload0 C dX6_readNumber_21 ?_
    refine z_get C dX6_readNumber_22 fl_X6_readNumber_24 (k_Tape _) rfl ?_
    refine z_top C hP.2.1 ?_
    refine z_istore2 C dX6_readNumber_25 nl_i ?_
    refine z_aload0 C dX6_readNumber_26 ?_
    refine z_get C dX6_readNumber_27 fl_X6_readNumber_9 (k_Tape _) rfl ?_
    refine z_aload0 C dX6_readNumber_30 ?_
    refine z_get C dX6_readNumber_31 fl_X6_readNumber_24 (k_Tape _) rfl ?_
    refine z_top C hP.2.1 ?_
    refine z_iald C dX6_readNumber_34 (k_i12 _) (by omega) ?_
    refine z_top C (hP.2.2.1 _ hd.1) ?_
    refine z_bipush (v := nI 48) C dX6_readNumber_35 (by decide) ?_
    refine z_isubN C dX6_readNumber_37 (by omega) ?_
    refine z_istore3 C dX6_readNumber_38 nl_i ?_
    refine z_aload0 C dX6_readNumber_39 ?_
    refine z_dup C dX6_readNumber_40 rfl ?_
    refine z_get C dX6_readNumber_41 fl_X6_readNumber_24 (k_Tape _) rfl ?_
    refine z_top C hP.2.1 ?_
    refine z_iconstN 1 C dX6_readNumber_44 ?_
    refine z_iaddN C dX6_readNumber_45 ?_
    refine z_put C dX6_readNumber_46 fp_X6_readNumber_24 (k_Tape _) rfl rfl (Nat.le_of_ble_eq_true rfl) rfl ?_
    refine z_genS (P := fun T => TP T tx N (sk tx N p + 1) ∧ Fr F11 S T) ⟨TP_put hP (by omega), hf.tr Fr.I11⟩ (fun T3 hT3 => ?_)
    obtain ⟨hP, hf⟩ := hT3
    refine z_aload0 C dX6_readNumber_49 ?_
    refine z_get C dX6_readNumber_50 fl_X6_readNumber_24 (k_Tape _) rfl ?_
    refine z_top C hP.2.1 ?_
    refine z_aload0 C dX6_readNumber_53 ?_
    refine z_get C dX6_readNumber_54 fl_X6_readNumber_15 (k_Tape _) rfl ?_
    refine z_top C hP.1 ?_
    refine z_icmp_geN C 103 dX6_readNumber_57 (by decide) (by omega) (by omega) (fun c57 => ?_) (fun c57 => ?_)
    · have eV := numV_n (tx := tx) (n := N) (q := sk tx N p) (fun z => by have := z.1; omega)
      refine z_iload3 C dX6_readNumber_103 ?_
      refine z_iload1 C dX6_readNumber_104 ?_
      refine z_icmp_leN C 116 dX6_readNumber_105 (by decide) (by omega) (by omega) (fun c105 => ?_) (fun c105 => ?_)
      · refine z_iload3 C dX6_readNumber_116 ?_
        exact z_iretP C dX6_readNumber_117 hr rfl (Or.inl ⟨_, _, numL_y hd eV c105, rfl, hP, hf⟩)
      · refine z_aload0 C dX6_readNumber_108 ?_
        refine z_iload2 C dX6_readNumber_109 ?_
        refine z_callVI C dX6_readNumber_110 c_X6_failAt gX6_readNumber_X6_failAt md_X6_failAt rfl (by decide) (k_Tape _) rfl rfl rfl (Nat.le_of_ble_eq_true rfl) ?_
        refine z_pop C dX6_readNumber_113 rfl ?_
        refine z_iconst (v := (-1)) C dX6_readNumber_114 (by decide) ?_
        exact z_iretP C dX6_readNumber_115 hr rfl (Or.inr ⟨_, numL_b hd eV (by omega), rfl, stI_me _ _ _ _, hf.tr Fr.I11⟩)
    · have lq2 := hx.2 (sk tx N p + 1) (by omega)
      refine z_aload0 C dX6_readNumber_60 ?_
      refine z_get C dX6_readNumber_61 fl_X6_readNumber_9 (k_Tape _) rfl ?_
      refine z_aload0 C dX6_readNumber_64 ?_
      refine z_get C dX6_readNumber_65 fl_X6_readNumber_24 (k_Tape _) rfl ?_
      refine z_top C hP.2.1 ?_
      refine z_iald C dX6_readNumber_68 (k_i12 _) (by omega) ?_
      refine z_top C (hP.2.2.1 _ (by omega)) ?_
      refine z_callSI C dX6_readNumber_69 c_X6_isDigit gX6_readNumber_X6_isDigit md_X6_isDigit (by decide) rfl rfl (Nat.le_of_ble_eq_true rfl) ?_
      refine z_if_eqB C 103 dX6_readNumber_72 (by decide) (fun c72 => ?_) (fun c72 => ?_)
      · have eV := numV_n (tx := tx) (n := N) (q := sk tx N p) (fun z => c72 ((inB_d (by omega)).mpr z.2))
        refine z_iload3 C dX6_readNumber_103 ?_
        refine z_iload1 C dX6_readNumber_104 ?_
        refine z_icmp_leN C 116 dX6_readNumber_105 (by decide) (by omega) (by omega) (fun c105 => ?_) (fun c105 => ?_)
        · refine z_iload3 C dX6_readNumber_116 ?_
          exact z_iretP C dX6_readNumber_117 hr rfl (Or.inl ⟨_, _, numL_y hd eV c105, rfl, hP, hf⟩)
        · refine z_aload0 C dX6_readNumber_108 ?_
          refine z_iload2 C dX6_readNumber_109 ?_
          refine z_callVI C dX6_readNumber_110 c_X6_failAt gX6_readNumber_X6_failAt md_X6_failAt rfl (by decide) (k_Tape _) rfl rfl rfl (Nat.le_of_ble_eq_true rfl) ?_
          refine z_pop C dX6_readNumber_113 rfl ?_
          refine z_iconst (v := (-1)) C dX6_readNumber_114 (by decide) ?_
          exact z_iretP C dX6_readNumber_115 hr rfl (Or.inr ⟨_, numL_b hd eV (by omega), rfl, stI_me _ _ _ _, hf.tr Fr.I11⟩)
      · have dq2 := (inB_d (by omega)).mp c72
        refine z_bipush (v := nI 10) C dX6_readNumber_75 (by decide) ?_
        refine z_iload3 C dX6_readNumber_77 ?_
        refine z_imulN C dX6_readNumber_78 ?_
        refine z_aload0 C dX6_readNumber_79 ?_
        refine z_get C dX6_readNumber_80 fl_X6_readNumber_9 (k_Tape _) rfl ?_
        refine z_aload0 C dX6_readNumber_83 ?_
        refine z_get C dX6_readNumber_84 fl_X6_readNumber_24 (k_Tape _) rfl ?_
        refine z_top C hP.2.1 ?_
        refine z_iald C dX6_readNumber_87 (k_i12 _) (by omega) ?_
        refine z_top C (hP.2.2.1 _ (by omega)) ?_
        refine z_iaddN C dX6_readNumber_88 ?_
        refine z_bipush (v := nI 48) C dX6_readNumber_89 (by decide) ?_
        refine z_isubN C dX6_readNumber_91 (by omega) ?_
        refine z_istore3 C dX6_readNumber_92 nl_i ?_
        refine z_aload0 C dX6_readNumber_93 ?_
        refine z_dup C dX6_readNumber_94 rfl ?_
        refine z_get C dX6_readNumber_95 fl_X6_readNumber_24 (k_Tape _) rfl ?_
        refine z_top C hP.2.1 ?_
        refine z_iconstN 1 C dX6_readNumber_98 ?_
        refine z_iaddN C dX6_readNumber_99 ?_
        refine z_put C dX6_readNumber_100 fp_X6_readNumber_24 (k_Tape _) rfl rfl (Nat.le_of_ble_eq_true rfl) rfl ?_
        have eV := numV_y (tx := tx) (n := N) (q := sk tx N p) ⟨by omega, (inB_d (by omega)).mp c72⟩
        refine z_genS (P := fun T => TP T tx N (sk tx N p + 2) ∧ Fr F11 S T) ⟨TP_put hP (by omega), hf.tr Fr.I11⟩ (fun T4 hT4 => ?_)
        obtain ⟨hP, hf⟩ := hT4
        refine z_iload3 C dX6_readNumber_103 ?_
        refine z_iload1 C dX6_readNumber_104 ?_
        refine z_icmp_leN C 116 dX6_readNumber_105 (by decide) (by omega) (by omega) (fun c105 => ?_) (fun c105 => ?_)
        · refine z_iload3 C dX6_readNumber_116 ?_
          exact z_iretP C dX6_readNumber_117 hr rfl (Or.inl ⟨_, _, numL_y hd eV c105, rfl, hP, hf⟩)
        · refine z_aload0 C dX6_readNumber_108 ?_
          refine z_iload2 C dX6_readNumber_109 ?_
          refine z_callVI C dX6_readNumber_110 c_X6_failAt gX6_readNumber_X6_failAt md_X6_failAt rfl (by decide) (k_Tape _) rfl rfl rfl (Nat.le_of_ble_eq_true rfl) ?_
          refine z_pop C dX6_readNumber_113 rfl ?_
          refine z_iconst (v := (-1)) C dX6_readNumber_114 (by decide) ?_
          exact z_iretP C dX6_readNumber_115 hr rfl (Or.inr ⟨_, numL_b hd eV (by omega), rfl, stI_me _ _ _ _, hf.tr Fr.I11⟩)
  · refine z_aload0 C dX6_readNumber_10 ?_
    refine z_aload0 C dX6_readNumber_11 ?_
    refine z_get C dX6_readNumber_12 fl_X6_readNumber_24 (k_Tape _) rfl ?_
    refine z_top C hP.2.1 ?_
    refine z_callVI C dX6_readNumber_15 c_X6_failAt gX6_readNumber_X6_failAt md_X6_failAt rfl (by decide) (k_Tape _) rfl rfl rfl (Nat.le_of_ble_eq_true rfl) ?_
    refine z_pop C dX6_readNumber_18 rfl ?_
    refine z_iconst (v := (-1)) C dX6_readNumber_19 (by decide) ?_
    exact z_iretP C dX6_readNumber_20 hr rfl (Or.inr ⟨_, numL_n (fun z => c7 ((lkC_d hx).mpr z)), rfl, stI_me _ _ _ _, hf.tr Fr.I11⟩)
