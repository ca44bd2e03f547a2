theorem mo0 {tx : Nat → Nat} {n p : Nat} {W : VR} (h : ¬ (sk tx n p < n ∧ kdN (tx (sk tx n p)) ≠ 0)) : moP tx n p W = .error (sk tx n p) := if_neg h
theorem mo1 {tx : Nat → Nat} {n p q : Nat} {W : VR} (h : sk tx n p < n ∧ kdN (tx (sk tx n p)) ≠ 0) (s1 : numS tx n 99 (sk tx n p + 1) = .error q) : moP tx n p W = .error q := by unfold moP; rw [if_pos h, s1]
theorem mo2 {tx : Nat → Nat} {n p x p1 kd : Nat} {W : VR} (h : sk tx n p < n ∧ kdN (tx (sk tx n p)) ≠ 0) (hk : kdN (tx (sk tx n p)) = kd + 1) (s1 : numS tx n 99 (sk tx n p + 1) = .ok (x, p1)) (h3 : ¬ tkP tx n 62 p1) : moP tx n p W = .ok (vAK W kd x 0, sk tx n p1) := by unfold moP; rw [if_pos h, s1]; dsimp only; rw [if_neg h3, hk, Nat.add_sub_cancel]
theorem mo3 {tx : Nat → Nat} {n p x p1 q : Nat} {W : VR} (h : sk tx n p < n ∧ kdN (tx (sk tx n p)) ≠ 0) (s1 : numS tx n 99 (sk tx n p + 1) = .ok (x, p1)) (h3 : tkP tx n 62 p1) (e2 : dig tx n 0 (W 0 0 - 1) (sk tx n p1 + 1) = .error q) : moP tx n p W = .error q := by unfold moP; rw [if_pos h, s1]; dsimp only; rw [if_pos h3, e2]
theorem mo4 {tx : Nat → Nat} {n p x p1 y p2 kd : Nat} {W : VR} (h : sk tx n p < n ∧ kdN (tx (sk tx n p)) ≠ 0) (hk : kdN (tx (sk tx n p)) = kd + 1) (s1 : numS tx n 99 (sk tx n p + 1) = .ok (x, p1)) (h3 : tkP tx n 62 p1) (e2 : dig tx n 0 (W 0 0 - 1) (sk tx n p1 + 1) = .ok (y, p2)) : moP tx n p W = .ok (vAK W kd x (y + 1), p2) := by unfold moP; rw [if_pos h, s1]; dsimp only; rw [if_pos h3, e2]; dsimp only; rw [hk, Nat.add_sub_cancel]
theorem lkC_m {tx : Nat → Nat} {n q : Nat} (hx : TxOk tx n) : lkC tx n q = -1 ↔ ¬ q < n := by
  by_cases h : q < n
  · have := hx.2 q h
    rw [lkC_y h]
    refine ⟨fun z => ?_, fun z => absurd h z⟩
    have e : (nI (tx q)).toInt = (-1 : Int32).toInt := by rw [z]
    rw [nI_toInt (by omega)] at e
    have : (-1 : Int32).toInt = -1 := rfl
    omega
  · rw [lkC_n h]
    exact ⟨fun _ => h, fun _ => rfl⟩
theorem t_ic128 : ∀ c : Fin 128, ((nI c.1).toUInt32 % 65536).toInt32 = nI c.1 := by decide +kernel
theorem mI_pos {t : Nat} (h : t < 1000) : 0 ≤ mI t ↔ t ≠ 0 := by
  cases t with
  | zero => exact ⟨fun z => absurd z (by decide), fun z => absurd rfl z⟩
  | succ t => rw [mI_s]; exact ⟨fun _ => by omega, fun _ => nI_pos' (by omega)⟩

theorem md_J0_indexOf_0f7a4 : MD yJ0_indexOf_0f7a4 wsJ0_indexOf_0f7a4 1 2 (some .int) := ⟨_, _, rfl, by decide, by decide +kernel, by decide +kernel, by decide +kernel⟩
set_option maxRecDepth 20000 in
theorem fl_X6_readMonk_24 : FL RX6 wsX6_readMonk 24 6 2 := ⟨RX6, TX6, 4, rfl, (fun w h => List.mem_cons_of_mem _ (List.mem_append_left _ (List.mem_append_right _ h))), by decide, by decide +kernel⟩
theorem fp_X6_readMonk_24 : FP RX6 wsX6_readMonk 24 6 2 .int := ⟨fl_X6_readMonk_24, RX6, TX6, 4, tyX6, rfl, tyX6_ok, nmX6, rfl, by decide +kernel⟩
set_option maxRecDepth 20000 in
theorem fl_X6_readMonk_77 : FL RX6 wsX6_readMonk 77 2 0 := ⟨RX2, TX2, 12, rfl, (fun w h => List.mem_cons_of_mem _ (List.mem_append_right _ h)), by decide, by decide +kernel⟩
set_option maxHeartbeats 4000000 in
set_option maxRecDepth 100000 in
theorem c_X6_readMonk {l : Launch} {Y : LY} {a b : Nat} {S : GS} {tx : Nat → Nat} {N p : Nat} (hx : TxOk tx N) (hP : TP S tx N p) {W : VR} {dd : Nat} (hW : HC S 42 (vs W 0 4 dd)) (hO : Ok W) (h0 : 0 < W 0 0) (h5 : W 0 1 < 5) : CtK l yX6_readMonk wsX6_readMonk 5 Y a b [.ref (ad Y 11), .ref (ad Y 42)] S (fun r u => (∃ W1 q, moP tx N p W = .ok (W1, q) ∧ r = nI 1 ∧ TP u tx N q ∧ HC u 42 (vs W1 0 4 dd) ∧ Fr F12 S u) ∨ (∃ q, moP tx N p W = .error q ∧ Fr F12 S u ∧ ((r = nI 0 ∧ u.1 11 3 = nI q) ∨ (r = nI 1 ∧ TP u tx N q ∧ dgt tx N q)))) := by
  refine mkK (cc := cX6_readMonk) (maxL := 6) rfl rfl (Nat.le_of_ble_eq_true rfl) ?_
  intro X hl hY C hr hk
  subst hl
  subst hY
  have x90 := hx.1
  have pN := hP.2.2.2
  show Zj X S [some (.ref (ad (xY X) 11)), some (.ref (ad (xY X) 42)), none, none, none, none] 0 []
  refine z_aload0 C dX6_readMonk_0 ?_
  refine z_callVP C dX6_readMonk_1 (c_X6_look hx hP) gX6_readMonk_X6_look md_X6_look rfl (by decide) (k_Tape _) rfl rfl rfl (Nat.le_of_ble_eq_true rfl) ?_
  rintro _ T ⟨rfl, hP, hf⟩
  obtain ⟨sk1, sk2, sk3⟩ := sk_in (tx := tx) pN
  refine z_istore2 C dX6_readMonk_4 nl_r ?_
  refine z_iload2 C dX6_readMonk_5 ?_
  refine z_iconst (v := (-1)) C dX6_readMonk_6 (by decide) ?_
  refine z_icmp_ne C 14 dX6_readMonk_7 (by decide) (fun c7 => ?_) (fun c7 => ?_)
  · have hq : sk tx N p < N := Decidable.byContradiction (fun z => c7 ((lkC_m hx).mpr z))
    have lq := hx.2 _ hq
    refine z_ldcS C hk dX6_readMonk_14 ?_
    refine z_iload2 C dX6_readMonk_16 ?_
    refine z_top C (lkC_y hq) ?_
    refine z_i2c C dX6_readMonk_17 ?_
    refine z_top C (t_ic128 ⟨tx (sk tx N p), by omega⟩) ?_
    refine z_callVK C hk dX6_readMonk_18 (c_J0_indexOf_0f7a4 (c := tx (sk tx N p)) (by omega)) gX6_readMonk_J0_indexOf_0f7a4 md_J0_indexOf_0f7a4 rfl (by decide) rfl rfl (Nat.le_of_ble_eq_true rfl) ?_
    rintro _ _ ⟨rfl, rfl⟩
    refine z_top C (kdI_N _) ?_
    refine z_istore3 C dX6_readMonk_21 nl_i ?_
    refine z_iload3 C dX6_readMonk_22 ?_
    refine z_if_ge C 35 dX6_readMonk_23 (by decide) (fun c23 => ?_) (fun c23 => ?_)
    · have hkd : sk tx N p < N ∧ kdN (tx (sk tx N p)) ≠ 0 := ⟨hq, (mI_pos (by have := kdN_le (tx (sk tx N p)); omega)).mp c23⟩
      obtain ⟨kd, ekd⟩ : ∃ kd, kdN (tx (sk tx N p)) = kd + 1 := ⟨kdN (tx (sk tx N p)) - 1, by have := hkd.2; omega⟩
      have kd5 := kdN_le (tx (sk tx N p))
      rw [ekd, mI_s]
      refine z_aload0 C dX6_readMonk_35 ?_
      refine z_dup C dX6_readMonk_36 rfl ?_
      refine z_get C dX6_readMonk_37 fl_X6_readMonk_24 (k_Tape _) rfl ?_
      refine z_top C hP.2.1 ?_
      refine z_iconstN 1 C dX6_readMonk_40 ?_
      refine z_iaddN C dX6_readMonk_41 ?_
      refine z_put C dX6_readMonk_42 fp_X6_readMonk_24 (k_Tape _) rfl rfl (Nat.le_of_ble_eq_true rfl) rfl ?_
      refine z_genS (P := fun T => TP T tx N (sk tx N p + 1) ∧ Fr F11 S T) ⟨TP_put hP (by omega), hf.tr Fr.I11⟩ (fun T3 hT3 => ?_)
      obtain ⟨hP, hf⟩ := hT3
      refine z_aload0 C dX6_readMonk_45 ?_
      refine z_bipush (v := nI 99) C dX6_readMonk_46 (by decide) ?_
      refine z_callVP C dX6_readMonk_48 (c_X6_readNumber hx hP (by decide)) gX6_readMonk_X6_readNumber md_X6_readNumber rfl (by decide) (k_Tape _) rfl rfl rfl (Nat.le_of_ble_eq_true rfl) ?_
      rintro r0 T4 hE
      rcases hE with ⟨x, p1, e1, rfl, hP, hf3⟩ | ⟨q, e1, rfl, hx3, hf3⟩
      · have xl := numL_le e1
        refine z_istore4 C dX6_readMonk_51 nl_i ?_
        refine z_iload4 C dX6_readMonk_53 ?_
        refine z_if_geN C 60 dX6_readMonk_55 (by decide) (by omega) ?_
        refine z_bipush (v := (-4)) C dX6_readMonk_60 (by decide) ?_
        refine z_istore5 C dX6_readMonk_62 nl_i ?_
        refine z_aload0 C dX6_readMonk_64 ?_
        refine z_bipush (v := nI 62) C dX6_readMonk_65 (by decide) ?_
        refine z_callVP C dX6_readMonk_67 (c_X6_accept hx hP (by decide)) gX6_readMonk_X6_accept md_X6_accept rfl (by decide) (k_Tape _) rfl rfl rfl (Nat.le_of_ble_eq_true rfl) ?_
        rintro _ T5 ⟨rfl, hP, hf4⟩
        have hf4 := (hf.tr hf3).tr hf4
        refine z_if_eqB C 93 dX6_readMonk_70 (by decide) (fun c70 => ?_) (fun c70 => ?_)
        · rw [tkN_n c70] at hP
          have hWc := HC_11 hW hf4
          have hKm := hWc.1 1 (by decide)
          rw [vs_01] at hKm
          refine z_aload1 C dX6_readMonk_93 ?_
          refine z_iload3 C dX6_readMonk_94 ?_
          refine z_iload4 C dX6_readMonk_95 ?_
          refine z_iload5 C dX6_readMonk_97 ?_
          refine z_callVI C dX6_readMonk_99 (c_X2_addMonk isR_trial h5 hKm) gX6_readMonk_X2_addMonk md_X2_addMonk rfl (by decide) (k_Rock _ isR_trial) rfl rfl rfl (Nat.le_of_ble_eq_true rfl) ?_
          refine z_pop C dX6_readMonk_102 rfl ?_
          refine z_iconstN 1 C dX6_readMonk_103 ?_
          have hA := HC_AKd (x := kd) (y := x) (z := 0) hWc
          rw [sI_0] at hA
          by_cases hd : dgt tx N p1
          · rw [sk_d hd] at hP
            exact z_iretP C dX6_readMonk_104 hr rfl (Or.inr ⟨_, mo1 hkd (numS_d e1 hd), hf4.t12.tr (rk12 cAK_fr), Or.inr ⟨rfl, TP_rk hP cAK_fr, hd⟩⟩)
          · exact z_iretP C dX6_readMonk_104 hr rfl (Or.inl ⟨_, _, mo2 hkd ekd (numS_y e1 hd) c70, rfl, TP_rk hP cAK_fr, hA, hf4.t12.tr (rk12 cAK_fr)⟩)
        · rw [tkN_y c70] at hP
          have s1 := numS_y e1 (fun z => tk_d z (by decide) c70)
          have hM := (HC_11 hW hf4).1 0 (by decide)
          rw [vs_00] at hM
          have oW := hO.1
          refine z_aload0 C dX6_readMonk_73 ?_
          refine z_iconstN 0 C dX6_readMonk_74 ?_
          refine z_aload1 C dX6_readMonk_75 ?_
          refine z_get C dX6_readMonk_76 fl_X6_readMonk_77 (k_Rock _ isR_trial) rfl ?_
          refine z_top C hM ?_
          refine z_iconstN 1 C dX6_readMonk_79 ?_
          refine z_isubN C dX6_readMonk_80 (by omega) ?_
          refine z_callVP C dX6_readMonk_81 (c_X6_readDigit hx hP (by decide) (by omega)) gX6_readMonk_X6_readDigit md_X6_readDigit rfl (by decide) (k_Tape _) rfl rfl rfl (Nat.le_of_ble_eq_true rfl) ?_
          rintro r0 T6 hE
          rcases hE with ⟨y, p2, e2, rfl, hP, hf5⟩ | ⟨q, e2, rfl, hx3, hf5⟩
          · have yl := dig_in e2
            refine z_istore5 C dX6_readMonk_84 nl_i ?_
            refine z_iload5 C dX6_readMonk_86 ?_
            refine z_if_geN C 93 dX6_readMonk_88 (by decide) (by omega) ?_
            have hWc := HC_11 hW (hf4.tr hf5)
            have hKm := hWc.1 1 (by decide)
            rw [vs_01] at hKm
            refine z_aload1 C dX6_readMonk_93 ?_
            refine z_iload3 C dX6_readMonk_94 ?_
            refine z_iload4 C dX6_readMonk_95 ?_
            refine z_iload5 C dX6_readMonk_97 ?_
            refine z_callVI C dX6_readMonk_99 (c_X2_addMonk isR_trial h5 hKm) gX6_readMonk_X2_addMonk md_X2_addMonk rfl (by decide) (k_Rock _ isR_trial) rfl rfl rfl (Nat.le_of_ble_eq_true rfl) ?_
            refine z_pop C dX6_readMonk_102 rfl ?_
            refine z_iconstN 1 C dX6_readMonk_103 ?_
            have hA := HC_AKd (x := kd) (y := x) (z := y + 1) hWc
            rw [sI_s] at hA
            exact z_iretP C dX6_readMonk_104 hr rfl (Or.inl ⟨_, _, mo4 hkd ekd s1 c70 e2, rfl, TP_rk hP cAK_fr, hA, (hf4.tr hf5).t12.tr (rk12 cAK_fr)⟩)
          · refine z_istore5 C dX6_readMonk_84 nl_i ?_
            refine z_iload5 C dX6_readMonk_86 ?_
            refine z_if_ge C 93 dX6_readMonk_88 (by decide) (fun c88 => ?_) (fun c88 => ?_)
            · exact absurd c88 (by decide)
            · refine z_iconstN 0 C dX6_readMonk_91 ?_
              exact z_iretP C dX6_readMonk_92 hr rfl (Or.inr ⟨_, mo3 hkd s1 c70 e2, (hf4.tr hf5).t12, Or.inl ⟨rfl, hx3⟩⟩)
      · refine z_istore4 C dX6_readMonk_51 nl_i ?_
        refine z_iload4 C dX6_readMonk_53 ?_
        refine z_if_ge C 60 dX6_readMonk_55 (by decide) (fun c55 => ?_) (fun c55 => ?_)
        · exact absurd c55 (by decide)
        · refine z_iconstN 0 C dX6_readMonk_58 ?_
          exact z_iretP C dX6_readMonk_59 hr rfl (Or.inr ⟨_, mo1 hkd (numS_e e1), (hf.tr hf3).t12, Or.inl ⟨rfl, hx3⟩⟩)
    · refine z_aload0 C dX6_readMonk_26 ?_
      refine z_aload0 C dX6_readMonk_27 ?_
      refine z_get C dX6_readMonk_28 fl_X6_readMonk_24 (k_Tape _) rfl ?_
      refine z_top C hP.2.1 ?_
      refine z_callVI C dX6_readMonk_31 c_X6_failAt gX6_readMonk_X6_failAt md_X6_failAt rfl (by decide) (k_Tape _) rfl rfl rfl (Nat.le_of_ble_eq_true rfl) ?_
      exact z_iretP C dX6_readMonk_34 hr rfl (Or.inr ⟨_, mo0 (fun z => c23 ((mI_pos (by have := kdN_le (tx (sk tx N p)); omega)).mpr z.2)), (hf.tr Fr.I11).t12, Or.inl ⟨rfl, stI_me _ _ _ _⟩⟩)
  · refine z_iconst (v := (-1)) C dX6_readMonk_10 (by decide) ?_
    refine z_goto C 21 dX6_readMonk_11 (by decide) ?_
    refine z_istore3 C dX6_readMonk_21 nl_i ?_
    refine z_iload3 C dX6_readMonk_22 ?_
    refine z_if_ge C 35 dX6_readMonk_23 (by decide) (fun c23 => ?_) (fun c23 => ?_)
    · exact absurd c23 (by decide)
    · refine z_aload0 C dX6_readMonk_26 ?_
      refine z_aload0 C dX6_readMonk_27 ?_
      refine z_get C dX6_readMonk_28 fl_X6_readMonk_24 (k_Tape _) rfl ?_
      refine z_top C hP.2.1 ?_
      refine z_callVI C dX6_readMonk_31 c_X6_failAt gX6_readMonk_X6_failAt md_X6_failAt rfl (by decide) (k_Tape _) rfl rfl rfl (Nat.le_of_ble_eq_true rfl) ?_
      exact z_iretP C dX6_readMonk_34 hr rfl (Or.inr ⟨_, mo0 (fun z => (lkC_m hx).mp c7 z.1), (hf.tr Fr.I11).t12, Or.inl ⟨rfl, stI_me _ _ _ _⟩⟩)

theorem md_X6_readMonk : MD yX6_readMonk wsX6_readMonk 1 6 (some .boolean) := ⟨_, _, rfl, by decide, by decide +kernel, by decide +kernel, by decide +kernel⟩
set_option maxHeartbeats 4000000 in
set_option maxRecDepth 100000 in
theorem lp_X6_readMonks {X : CX} {S : GS} {tx : Nat → Nat} {N p0 : Nat} {W0 : VR} {dd : Nat} {a b : Nat} (hk : kX X a b) (hx : TxOk tx N) (hr : RtP X .boolean (fun r u => (∃ W1 q, ksP tx N 5 p0 W0 = .ok (W1, q) ∧ r = nI 1 ∧ TP u tx N q ∧ HC u 42 (vs W1 0 4 dd) ∧ Fr F12 S u) ∨ (∃ q, ksP tx N 5 p0 W0 = .error q ∧ Fr F12 S u ∧ ((r = nI 0 ∧ u.1 11 3 = nI q) ∨ (r = nI 1 ∧ TP u tx N q ∧ dgt tx N q))))) (C : Cx X cX6_readMonks RX6 wsX6_readMonks 6) : ∀ (n : Nat) (i : Nat) (T : GS) (p : Nat) (W : VR), i + n = 5 → TP T tx N p → HC T 42 (vs W 0 4 dd) → Ok W → W 0 1 = i → 0 < W 0 0 → Fr F12 S T → ksP tx N 5 p0 W0 = ksP tx N n p W → Zj X T [some (.ref (ad (xY X) 11)), some (.ref (ad (xY X) 42)), some (.int (nI (1))), some (.int (nI (i)))] 4 [] := by
  intro n
  induction n with
  | zero =>
    intro i T p W hi hP hW hO hi0 h00 hf hg
    obtain rfl : i = 5 := by omega
    refine z_iload3 C dX6_readMonks_4 ?_
    refine z_iconstN 5 C dX6_readMonks_5 ?_
    refine z_icmp_geN C 49 dX6_readMonks_6 (by decide) (by omega) (by omega) (fun c6 => ?_) (fun c6 => ?_)
    · refine z_iconstN 1 C dX6_readMonks_49 ?_
      exact z_iretP C dX6_readMonks_50 hr rfl (Or.inl ⟨_, _, hg, rfl, hP, hW, hf⟩)
    · exact absurd c6 (by omega)
  | succ n ih =>
    intro i T p W hi hP hW hO hi0 h00 hf hg
    have x90 := hx.1
    have pN := hP.2.2.2
    refine z_iload3 C dX6_readMonks_4 ?_
    refine z_iconstN 5 C dX6_readMonks_5 ?_
    refine z_icmp_geN C 49 dX6_readMonks_6 (by decide) (by omega) (by omega) (fun c6 => ?_) (fun c6 => ?_)
    · exact absurd c6 (by omega)
    · refine z_iload2 C dX6_readMonks_9 ?_
      refine z_if_eqF C 49 dX6_readMonks_10 (by decide) (by decide) ?_
      refine z_aload0 C dX6_readMonks_13 ?_
      refine z_aload1 C dX6_readMonks_14 ?_
      refine z_callVPK C hk dX6_readMonks_15 (c_X6_readMonk hx hP hW hO h00 (by omega)) gX6_readMonks_X6_readMonk md_X6_readMonk rfl (by decide) (k_Tape _) rfl rfl rfl (Nat.le_of_ble_eq_true rfl) ?_
      rintro r0 T1 hE
      rcases hE with ⟨W1, q, e1, rfl, hP, hW, hf1⟩ | ⟨q, e1, hf1, ⟨rfl, hx3⟩ | ⟨rfl, hP, hd⟩⟩
      · obtain ⟨w1, w2, w3⟩ := moP_ok e1 hO h00 (by omega)
        have hf := hf.tr hf1
        refine z_if_neT C 23 dX6_readMonks_18 (by decide) (by decide) ?_
        refine z_iload3 C dX6_readMonks_23 ?_
        refine z_iconstN 4 C dX6_readMonks_24 ?_
        refine z_icmp_geN C 41 dX6_readMonks_25 (by decide) (by omega) (by omega) (fun c25 => ?_) (fun c25 => ?_)
        · refine z_iconstN 0 C dX6_readMonks_41 ?_
          refine z_istore2 C dX6_readMonks_42 nl_r ?_
          refine z_iinc3 C dX6_readMonks_43 (inc1 _) nl_i ?_
          refine z_goto C 4 dX6_readMonks_46 (by decide) ?_
          obtain rfl : n = 0 := by omega
          refine z_iload3 C dX6_readMonks_4 ?_
          refine z_iconstN 5 C dX6_readMonks_5 ?_
          refine z_icmp_geN C 49 dX6_readMonks_6 (by decide) (by omega) (by omega) (fun c6 => ?_) (fun c6 => ?_)
          · refine z_iconstN 1 C dX6_readMonks_49 ?_
            exact z_iretP C dX6_readMonks_50 hr rfl (Or.inl ⟨_, _, hg.trans (ks_0 e1), rfl, hP, hW, hf⟩)
          · refine z_iload2 C dX6_readMonks_9 ?_
            refine z_if_eqT C 49 dX6_readMonks_10 (by decide) (by decide) ?_
            refine z_iconstN 1 C dX6_readMonks_49 ?_
            exact z_iretP C dX6_readMonks_50 hr rfl (Or.inl ⟨_, _, hg.trans (ks_0 e1), rfl, hP, hW, hf⟩)
        · refine z_aload0 C dX6_readMonks_28 ?_
          refine z_bipush (v := nI 44) C dX6_readMonks_29 (by decide) ?_
          refine z_callVP C dX6_readMonks_31 (c_X6_accept hx hP (by decide)) gX6_readMonks_X6_accept md_X6_accept rfl (by decide) (k_Tape _) rfl rfl rfl (Nat.le_of_ble_eq_true rfl) ?_
          rintro _ T2 ⟨rfl, hP, hf2⟩
          refine z_if_eqB C 41 dX6_readMonks_34 (by decide) (fun c34 => ?_) (fun c34 => ?_)
          · refine z_iconstN 0 C dX6_readMonks_41 ?_
            refine z_istore2 C dX6_readMonks_42 nl_r ?_
            refine z_iinc3 C dX6_readMonks_43 (inc1 _) nl_i ?_
            refine z_goto C 4 dX6_readMonks_46 (by decide) ?_
            rw [tkN_n c34] at hP
            refine z_iload3 C dX6_readMonks_4 ?_
            refine z_iconstN 5 C dX6_readMonks_5 ?_
            refine z_icmp_geN C 49 dX6_readMonks_6 (by decide) (by omega) (by omega) (fun c6 => ?_) (fun c6 => ?_)
            · refine z_iconstN 1 C dX6_readMonks_49 ?_
              exact z_iretP C dX6_readMonks_50 hr rfl (Or.inl ⟨_, _, hg.trans (ks_n e1 (by omega) c34), rfl, hP, HC_11 hW hf2, hf.tr hf2.t12⟩)
            · refine z_iload2 C dX6_readMonks_9 ?_
              refine z_if_eqT C 49 dX6_readMonks_10 (by decide) (by decide) ?_
              refine z_iconstN 1 C dX6_readMonks_49 ?_
              exact z_iretP C dX6_readMonks_50 hr rfl (Or.inl ⟨_, _, hg.trans (ks_n e1 (by omega) c34), rfl, hP, HC_11 hW hf2, hf.tr hf2.t12⟩)
          · refine z_iconstN 1 C dX6_readMonks_37 ?_
            refine z_goto C 42 dX6_readMonks_38 (by decide) ?_
            refine z_istore2 C dX6_readMonks_42 nl_r ?_
            refine z_iinc3 C dX6_readMonks_43 (inc1 _) nl_i ?_
            refine z_goto C 4 dX6_readMonks_46 (by decide) ?_
            rw [tkN_y c34] at hP
            exact ih (i + 1) _ _ _ (by omega) hP (HC_11 hW hf2) w1 (by omega) (by omega) (hf.tr hf2.t12) (hg.trans (ks_y e1 (by omega) c34))
      · have hf := hf.tr hf1
        refine z_if_neF C 23 dX6_readMonks_18 (by decide) (by decide) ?_
        refine z_iconstN 0 C dX6_readMonks_21 ?_
        exact z_iretP C dX6_readMonks_22 hr rfl (Or.inr ⟨_, hg.trans (ks_e e1), hf, Or.inl ⟨rfl, hx3⟩⟩)
      · have hf := hf.tr hf1
        refine z_if_neT C 23 dX6_readMonks_18 (by decide) (by decide) ?_
        refine z_iload3 C dX6_readMonks_23 ?_
        refine z_iconstN 4 C dX6_readMonks_24 ?_
        refine z_icmp_geN C 41 dX6_readMonks_25 (by decide) (by omega) (by omega) (fun c25 => ?_) (fun c25 => ?_)
        · refine z_iconstN 0 C dX6_readMonks_41 ?_
          refine z_istore2 C dX6_readMonks_42 nl_r ?_
          refine z_iinc3 C dX6_readMonks_43 (inc1 _) nl_i ?_
          refine z_goto C 4 dX6_readMonks_46 (by decide) ?_
          refine z_iload3 C dX6_readMonks_4 ?_
          refine z_iconstN 5 C dX6_readMonks_5 ?_
          refine z_icmp_geN C 49 dX6_readMonks_6 (by decide) (by omega) (by omega) (fun c6 => ?_) (fun c6 => ?_)
          · refine z_iconstN 1 C dX6_readMonks_49 ?_
            exact z_iretP C dX6_readMonks_50 hr rfl (Or.inr ⟨_, hg.trans (ks_e e1), hf, Or.inr ⟨rfl, hP, hd⟩⟩)
          · refine z_iload2 C dX6_readMonks_9 ?_
            refine z_if_eqT C 49 dX6_readMonks_10 (by decide) (by decide) ?_
            refine z_iconstN 1 C dX6_readMonks_49 ?_
            exact z_iretP C dX6_readMonks_50 hr rfl (Or.inr ⟨_, hg.trans (ks_e e1), hf, Or.inr ⟨rfl, hP, hd⟩⟩)
        · refine z_aload0 C dX6_readMonks_28 ?_
          refine z_bipush (v := nI 44) C dX6_readMonks_29 (by decide) ?_
          refine z_callVP C dX6_readMonks_31 (c_X6_accept hx hP (by decide)) gX6_readMonks_X6_accept md_X6_accept rfl (by decide) (k_Tape _) rfl rfl rfl (Nat.le_of_ble_eq_true rfl) ?_
          rintro _ T2 ⟨rfl, hP, hf2⟩
          refine z_if_eqB C 41 dX6_readMonks_34 (by decide) (fun c34 => ?_) (fun c34 => ?_)
          · refine z_iconstN 0 C dX6_readMonks_41 ?_
            refine z_istore2 C dX6_readMonks_42 nl_r ?_
            refine z_iinc3 C dX6_readMonks_43 (inc1 _) nl_i ?_
            refine z_goto C 4 dX6_readMonks_46 (by decide) ?_
            rw [tkN_n c34, sk_d hd] at hP
            refine z_iload3 C dX6_readMonks_4 ?_
            refine z_iconstN 5 C dX6_readMonks_5 ?_
            refine z_icmp_geN C 49 dX6_readMonks_6 (by decide) (by omega) (by omega) (fun c6 => ?_) (fun c6 => ?_)
            · refine z_iconstN 1 C dX6_readMonks_49 ?_
              exact z_iretP C dX6_readMonks_50 hr rfl (Or.inr ⟨_, hg.trans (ks_e e1), hf.tr hf2.t12, Or.inr ⟨rfl, hP, hd⟩⟩)
            · refine z_iload2 C dX6_readMonks_9 ?_
              refine z_if_eqT C 49 dX6_readMonks_10 (by decide) (by decide) ?_
              refine z_iconstN 1 C dX6_readMonks_49 ?_
              exact z_iretP C dX6_readMonks_50 hr rfl (Or.inr ⟨_, hg.trans (ks_e e1), hf.tr hf2.t12, Or.inr ⟨rfl, hP, hd⟩⟩)
          · refine z_iconstN 1 C dX6_readMonks_37 ?_
            refine z_goto C 42 dX6_readMonks_38 (by decide) ?_
            refine z_istore2 C dX6_readMonks_42 nl_r ?_
            refine z_iinc3 C dX6_readMonks_43 (inc1 _) nl_i ?_
            refine z_goto C 4 dX6_readMonks_46 (by decide) ?_
            exact absurd c34 (tk_d hd (by decide))

set_option maxHeartbeats 4000000 in
set_option maxRecDepth 100000 in
theorem c_X6_readMonks {l : Launch} {Y : LY} {a b : Nat} {S : GS} {tx : Nat → Nat} {N p : Nat} (hx : TxOk tx N) (hP : TP S tx N p) {W : VR} {dd : Nat} (hW : HC S 42 (vs W 0 4 dd)) (hO : Ok W) (h0 : W 0 1 = 0) (h00 : 0 < W 0 0) : CtK l yX6_readMonks wsX6_readMonks 6 Y a b [.ref (ad Y 11), .ref (ad Y 42)] S (fun r u => (∃ W1 q, ksP tx N 5 p W = .ok (W1, q) ∧ r = nI 1 ∧ TP u tx N q ∧ HC u 42 (vs W1 0 4 dd) ∧ Fr F12 S u) ∨ (∃ q, ksP tx N 5 p W = .error q ∧ Fr F12 S u ∧ ((r = nI 0 ∧ u.1 11 3 = nI q) ∨ (r = nI 1 ∧ TP u tx N q ∧ dgt tx N q)))) := by
  refine mkK (cc := cX6_readMonks) (maxL := 4) rfl rfl (Nat.le_of_ble_eq_true rfl) ?_
  intro X hl hY C hr hk
  subst hl
  subst hY
  show Zj X S [some (.ref (ad (xY X) 11)), some (.ref (ad (xY X) 42)), none, none] 0 []
  refine z_iconstN 1 C dX6_readMonks_0 ?_
  refine z_istore2 C dX6_readMonks_1 nl_r ?_
  refine z_iconstN 0 C dX6_readMonks_2 ?_
  refine z_istore3 C dX6_readMonks_3 nl_i ?_
  exact lp_X6_readMonks hk hx hr C 5 0 S p W (by decide) hP hW hO h0 h00 Fr.rf rfl
