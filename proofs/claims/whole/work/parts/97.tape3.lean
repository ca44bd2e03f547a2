theorem ma0 {tx : Nat → Nat} {n p q : Nat} {W : VR} (s1 : numS tx n 60 p = .error q) : maP tx n p W = .error q := by unfold maP; rw [s1]
theorem ma1 {tx : Nat → Nat} {n p x p1 : Nat} {W : VR} (s1 : numS tx n 60 p = .ok (x, p1)) (h : ¬ tkP tx n 46 p1) : maP tx n p W = .error (sk tx n p1) := by unfold maP; rw [s1]; exact if_neg h
theorem ma2 {tx : Nat → Nat} {n p x p1 q : Nat} {W : VR} (s1 : numS tx n 60 p = .ok (x, p1)) (h : tkP tx n 46 p1) (e2 : dig tx n 1 9 (sk tx n p1 + 1) = .error q) : maP tx n p W = .error q := by unfold maP; rw [s1]; dsimp only; rw [if_pos h, e2]
theorem ma3 {tx : Nat → Nat} {n p x p1 y p2 : Nat} {W : VR} (s1 : numS tx n 60 p = .ok (x, p1)) (h : tkP tx n 46 p1) (e2 : dig tx n 1 9 (sk tx n p1 + 1) = .ok (y, p2)) (h3 : ¬ tkP tx n 47 p2) : maP tx n p W = .ok (vAM W x y 0, sk tx n p2) := by unfold maP; rw [s1]; dsimp only; rw [if_pos h, e2]; exact if_neg h3
theorem ma4 {tx : Nat → Nat} {n p x p1 y p2 q : Nat} {W : VR} (s1 : numS tx n 60 p = .ok (x, p1)) (h : tkP tx n 46 p1) (e2 : dig tx n 1 9 (sk tx n p1 + 1) = .ok (y, p2)) (h3 : tkP tx n 47 p2) (s3 : numS tx n 60 (sk tx n p2 + 1) = .error q) : maP tx n p W = .error q := by unfold maP; rw [s1]; dsimp only; rw [if_pos h, e2]; dsimp only; rw [if_pos h3, s3]
theorem ma5 {tx : Nat → Nat} {n p x p1 y p2 z p3 : Nat} {W : VR} (s1 : numS tx n 60 p = .ok (x, p1)) (h : tkP tx n 46 p1) (e2 : dig tx n 1 9 (sk tx n p1 + 1) = .ok (y, p2)) (h3 : tkP tx n 47 p2) (s3 : numS tx n 60 (sk tx n p2 + 1) = .ok (z, p3)) : maP tx n p W = .ok (vAM W x y z, p3) := by unfold maP; rw [s1]; dsimp only; rw [if_pos h, e2]; dsimp only; rw [if_pos h3, s3]
theorem ma1L {tx : Nat → Nat} {n p x p1 : Nat} {W : VR} (e1 : numL tx n 60 p = .ok (x, p1)) (h : ¬ tkP tx n 46 p1) : maP tx n p W = .error (sk tx n p1) := by
  by_cases hd : dgt tx n p1
  · rw [sk_d hd]
    exact ma0 (numS_d e1 hd)
  · exact ma1 (numS_y e1 hd) h
theorem vs_00 {W : VR} {d : Nat} : vs W 0 4 d 0 0 = W 0 0 := vs_no (by omega)
theorem vs_01 {W : VR} {d : Nat} : vs W 0 4 d 0 1 = W 0 1 := vs_no (by omega)
theorem HC_AMd {S : GS} {b x y z d : Nat} {W : VR} (h : HC S b (vs W 0 4 d)) : HC (cAM S b (W 0 0) (nI x) (nI y) (nI z)) b (vs (vAM W x y z) 0 4 d) := by
  have q := HC_AM (x := x) (y := y) (z := z) h
  rw [vAM_vs, vs_00] at q
  exact q
theorem HC_AKd {S : GS} {b x y z d : Nat} {W : VR} (h : HC S b (vs W 0 4 d)) : HC (cAK S b (W 0 1) (nI x) (nI y) (sI z)) b (vs (vAK W x y z) 0 4 d) := by
  have q := HC_AK (x := x) (y := y) (z := z) h
  rw [vAK_vs, vs_01] at q
  exact q
theorem HC_11 {S T : GS} {W : VR} (h : HC S 42 W) (f : Fr F11 S T) : HC T 42 W := HC_fr h f (fun o h1 h2 h3 => by have : o = 11 := h3; omega)
theorem rk12 {S T : GS} (h : Fr (rk 42) S T) : Fr F12 S T := h.mono (fun o q => Or.inr ⟨q.1, by have := q.2; omega⟩)

theorem md_X6_readNumber : MD yX6_readNumber wsX6_readNumber 1 4 (some .int) := ⟨_, _, rfl, by decide, by decide +kernel, by decide +kernel, by decide +kernel⟩
theorem md_X6_expect : MD yX6_expect wsX6_expect 1 2 (some .boolean) := ⟨_, _, rfl, by decide, by decide +kernel, by decide +kernel, by decide +kernel⟩
theorem md_X6_readDigit : MD yX6_readDigit wsX6_readDigit 2 4 (some .int) := ⟨_, _, rfl, by decide, by decide +kernel, by decide +kernel, by decide +kernel⟩
set_option maxHeartbeats 4000000 in
set_option maxRecDepth 100000 in
theorem c_X6_readMark {l : Launch} {Y : LY} {S : GS} {tx : Nat → Nat} {N p : Nat} (hx : TxOk tx N) (hP : TP S tx N p) {W : VR} {dd : Nat} (hW : HC S 42 (vs W 0 4 dd)) (hO : Ok W) (h6 : W 0 0 < 6) : CtP l yX6_readMark wsX6_readMark 4 Y [.ref (ad Y 11), .ref (ad Y 42)] S (fun r u => (∃ W1 q, maP tx N p W = .ok (W1, q) ∧ r = nI 1 ∧ TP u tx N q ∧ HC u 42 (vs W1 0 4 dd) ∧ Fr F12 S u) ∨ (∃ q, maP tx N p W = .error q ∧ Fr F12 S u ∧ ((r = nI 0 ∧ u.1 11 3 = nI q) ∨ (r = nI 1 ∧ TP u tx N q ∧ dgt tx N q)))) := by
  refine mkP (cc := cX6_readMark) (maxL := 5) rfl rfl (Nat.le_of_ble_eq_true rfl) ?_
  intro X hl hY C hr
  subst hl
  subst hY
  have x90 := hx.1
  have pN := hP.2.2.2
  show Zj X S [some (.ref (ad (xY X) 11)), some (.ref (ad (xY X) 42)), none, none, none] 0 []
  refine z_aload0 C dX6_readMark_0 ?_
  refine z_bipush (v := nI 60) C dX6_readMark_1 (by decide) ?_
  refine z_callVP C dX6_readMark_3 (c_X6_readNumber hx hP (by decide)) gX6_readMark_X6_readNumber md_X6_readNumber rfl (by decide) (k_Tape _) rfl rfl rfl (Nat.le_of_ble_eq_true rfl) ?_
  rintro r0 T1 hE
  rcases hE with ⟨x, p1, e1, rfl, hP, hf⟩ | ⟨q, e1, rfl, hx3, hf⟩
  · have xl := numL_le e1
    refine z_istore2 C dX6_readMark_6 nl_r ?_
    refine z_iload2 C dX6_readMark_7 ?_
    refine z_if_ltN C 20 dX6_readMark_8 (by decide) (by omega) ?_
    refine z_aload0 C dX6_readMark_11 ?_
    refine z_bipush (v := nI 46) C dX6_readMark_12 (by decide) ?_
    refine z_callVP C dX6_readMark_14 (c_X6_expect hx hP (by decide)) gX6_readMark_X6_expect md_X6_expect rfl (by decide) (k_Tape _) rfl rfl rfl (Nat.le_of_ble_eq_true rfl) ?_
    rintro _ T2 ⟨rfl, hP, hf2, hx2⟩
    refine z_if_neB C 22 dX6_readMark_17 (by decide) (fun c17 => ?_) (fun c17 => ?_)
    · rw [tkN_y c17] at hP
      have s1 := numS_y e1 (fun z => tk_d z (by decide) c17)
      refine z_aload0 C dX6_readMark_22 ?_
      refine z_iconstN 1 C dX6_readMark_23 ?_
      refine z_bipush (v := nI 9) C dX6_readMark_24 (by decide) ?_
      refine z_callVP C dX6_readMark_26 (c_X6_readDigit hx hP (by decide) (by decide)) gX6_readMark_X6_readDigit md_X6_readDigit rfl (by decide) (k_Tape _) rfl rfl rfl (Nat.le_of_ble_eq_true rfl) ?_
      rintro r0 T3 hE
      rcases hE with ⟨y, p2, e2, rfl, hP, hf3⟩ | ⟨q, e2, rfl, hx3, hf3⟩
      · have yl := dig_in e2
        refine z_istore3 C dX6_readMark_29 nl_i ?_
        refine z_iload3 C dX6_readMark_30 ?_
        refine z_if_geN C 36 dX6_readMark_31 (by decide) (by omega) ?_
        refine z_aload0 C dX6_readMark_36 ?_
        refine z_bipush (v := nI 47) C dX6_readMark_37 (by decide) ?_
        refine z_callVP C dX6_readMark_39 (c_X6_accept hx hP (by decide)) gX6_readMark_X6_accept md_X6_accept rfl (by decide) (k_Tape _) rfl rfl rfl (Nat.le_of_ble_eq_true rfl) ?_
        rintro _ T4 ⟨rfl, hP, hf4⟩
        have hf4 := ((hf.tr hf2).tr hf3).tr hf4
        refine z_if_eqB C 54 dX6_readMark_42 (by decide) (fun c42 => ?_) (fun c42 => ?_)
        · rw [tkN_n c42] at hP
          refine z_iconstN 0 C dX6_readMark_54 ?_
          refine z_istore4 C dX6_readMark_55 nl_i ?_
          refine z_iload4 C dX6_readMark_57 ?_
          refine z_if_geN C 64 dX6_readMark_59 (by decide) (by omega) ?_
          have hWc := HC_11 hW hf4
          have hM := hWc.1 0 (by decide)
          rw [vs_00] at hM
          refine z_aload1 C dX6_readMark_64 ?_
          refine z_iload2 C dX6_readMark_65 ?_
          refine z_iload3 C dX6_readMark_66 ?_
          refine z_iload4 C dX6_readMark_67 ?_
          refine z_callVI C dX6_readMark_69 (c_X2_addMark isR_trial h6 hM) gX6_readMark_X2_addMark md_X2_addMark rfl (by decide) (k_Rock _ isR_trial) rfl rfl rfl (Nat.le_of_ble_eq_true rfl) ?_
          refine z_pop C dX6_readMark_72 rfl ?_
          refine z_iconstN 1 C dX6_readMark_73 ?_
          exact z_iretP C dX6_readMark_74 hr rfl (Or.inl ⟨_, _, ma3 s1 c17 e2 c42, rfl, TP_rk hP cAM_fr, HC_AMd hWc, hf4.t12.tr (rk12 cAM_fr)⟩)
        · rw [tkN_y c42] at hP
          refine z_aload0 C dX6_readMark_45 ?_
          refine z_bipush (v := nI 60) C dX6_readMark_46 (by decide) ?_
          refine z_callVP C dX6_readMark_48 (c_X6_readNumber hx hP (by decide)) gX6_readMark_X6_readNumber md_X6_readNumber rfl (by decide) (k_Tape _) rfl rfl rfl (Nat.le_of_ble_eq_true rfl) ?_
          rintro r0 T5 hE
          rcases hE with ⟨z, p3, e3, rfl, hP, hf5⟩ | ⟨q, e3, rfl, hx3, hf5⟩
          · have zl := numL_le e3
            refine z_goto C 55 dX6_readMark_51 (by decide) ?_
            refine z_istore4 C dX6_readMark_55 nl_i ?_
            refine z_iload4 C dX6_readMark_57 ?_
            refine z_if_geN C 64 dX6_readMark_59 (by decide) (by omega) ?_
            have hWc := HC_11 hW (hf4.tr hf5)
            have hM := hWc.1 0 (by decide)
            rw [vs_00] at hM
            refine z_aload1 C dX6_readMark_64 ?_
            refine z_iload2 C dX6_readMark_65 ?_
            refine z_iload3 C dX6_readMark_66 ?_
            refine z_iload4 C dX6_readMark_67 ?_
            refine z_callVI C dX6_readMark_69 (c_X2_addMark isR_trial h6 hM) gX6_readMark_X2_addMark md_X2_addMark rfl (by decide) (k_Rock _ isR_trial) rfl rfl rfl (Nat.le_of_ble_eq_true rfl) ?_
            refine z_pop C dX6_readMark_72 rfl ?_
            refine z_iconstN 1 C dX6_readMark_73 ?_
            by_cases hd : dgt tx N p3
            · exact z_iretP C dX6_readMark_74 hr rfl (Or.inr ⟨_, ma4 s1 c17 e2 c42 (numS_d e3 hd), (hf4.tr hf5).t12.tr (rk12 cAM_fr), Or.inr ⟨rfl, TP_rk hP cAM_fr, hd⟩⟩)
            · exact z_iretP C dX6_readMark_74 hr rfl (Or.inl ⟨_, _, ma5 s1 c17 e2 c42 (numS_y e3 hd), rfl, TP_rk hP cAM_fr, HC_AMd hWc, (hf4.tr hf5).t12.tr (rk12 cAM_fr)⟩)
          · refine z_goto C 55 dX6_readMark_51 (by decide) ?_
            refine z_istore4 C dX6_readMark_55 nl_i ?_
            refine z_iload4 C dX6_readMark_57 ?_
            refine z_if_ge C 64 dX6_readMark_59 (by decide) (fun c59 => ?_) (fun c59 => ?_)
            · exact absurd c59 (by decide)
            · refine z_iconstN 0 C dX6_readMark_62 ?_
              exact z_iretP C dX6_readMark_63 hr rfl (Or.inr ⟨_, ma4 s1 c17 e2 c42 (numS_e e3), (hf4.tr hf5).t12, Or.inl ⟨rfl, hx3⟩⟩)
      · refine z_istore3 C dX6_readMark_29 nl_i ?_
        refine z_iload3 C dX6_readMark_30 ?_
        refine z_if_ge C 36 dX6_readMark_31 (by decide) (fun c31 => ?_) (fun c31 => ?_)
        · exact absurd c31 (by decide)
        · refine z_iconstN 0 C dX6_readMark_34 ?_
          exact z_iretP C dX6_readMark_35 hr rfl (Or.inr ⟨_, ma2 s1 c17 e2, ((hf.tr hf2).tr hf3).t12, Or.inl ⟨rfl, hx3⟩⟩)
    · refine z_iconstN 0 C dX6_readMark_20 ?_
      exact z_iretP C dX6_readMark_21 hr rfl (Or.inr ⟨_, ma1L e1 c17, (hf.tr hf2).t12, Or.inl ⟨rfl, hx2 c17⟩⟩)
  · refine z_istore2 C dX6_readMark_6 nl_r ?_
    refine z_iload2 C dX6_readMark_7 ?_
    refine z_if_lt C 20 dX6_readMark_8 (by decide) (fun c8 => ?_) (fun c8 => ?_)
    · refine z_iconstN 0 C dX6_readMark_20 ?_
      exact z_iretP C dX6_readMark_21 hr rfl (Or.inr ⟨_, ma0 (numS_e e1), hf.t12, Or.inl ⟨rfl, hx3⟩⟩)
    · exact absurd (by decide) c8
