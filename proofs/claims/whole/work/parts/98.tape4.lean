theorem ms_e {tx : Nat → Nat} {n f p q : Nat} {W : VR} (e1 : maP tx n p W = .error q) : msP tx n (f + 1) p W = .error q := by rw [msP, e1]
theorem ms_0 {tx : Nat → Nat} {n p q : Nat} {W W1 : VR} (e1 : maP tx n p W = .ok (W1, q)) : msP tx n (0 + 1) p W = .ok (W1, q) := by rw [msP, e1]; rfl
theorem ms_n {tx : Nat → Nat} {n f p q : Nat} {W W1 : VR} (e1 : maP tx n p W = .ok (W1, q)) (hf : f ≠ 0) (h : ¬ tkP tx n 44 q) : msP tx n (f + 1) p W = .ok (W1, sk tx n q) := by rw [msP, e1]; dsimp only; rw [if_neg hf, if_neg h]
theorem ms_y {tx : Nat → Nat} {n f p q : Nat} {W W1 : VR} (e1 : maP tx n p W = .ok (W1, q)) (hf : f ≠ 0) (h : tkP tx n 44 q) : msP tx n (f + 1) p W = msP tx n f (sk tx n q + 1) W1 := by rw [msP, e1]; dsimp only; rw [if_neg hf, if_pos h]
theorem ks_e {tx : Nat → Nat} {n f p q : Nat} {W : VR} (e1 : moP tx n p W = .error q) : ksP tx n (f + 1) p W = .error q := by rw [ksP, e1]
theorem ks_0 {tx : Nat → Nat} {n p q : Nat} {W W1 : VR} (e1 : moP tx n p W = .ok (W1, q)) : ksP tx n (0 + 1) p W = .ok (W1, q) := by rw [ksP, e1]; rfl
theorem ks_n {tx : Nat → Nat} {n f p q : Nat} {W W1 : VR} (e1 : moP tx n p W = .ok (W1, q)) (hf : f ≠ 0) (h : ¬ tkP tx n 44 q) : ksP tx n (f + 1) p W = .ok (W1, sk tx n q) := by rw [ksP, e1]; dsimp only; rw [if_neg hf, if_neg h]
theorem ks_y {tx : Nat → Nat} {n f p q : Nat} {W W1 : VR} (e1 : moP tx n p W = .ok (W1, q)) (hf : f ≠ 0) (h : tkP tx n 44 q) : ksP tx n (f + 1) p W = ksP tx n f (sk tx n q + 1) W1 := by rw [ksP, e1]; dsimp only; rw [if_neg hf, if_pos h]
theorem msP_ok {tx : Nat → Nat} {n : Nat} : ∀ (f p q : Nat) (W W1 : VR), msP tx n f p W = .ok (W1, q) → Ok W → W 0 0 + f ≤ 6 → Ok W1 ∧ W 0 0 ≤ W1 0 0 ∧ (0 < f → 0 < W1 0 0) ∧ W1 0 1 = W 0 1 := by
  intro f
  induction f with
  | zero =>
    intro p q W W1 h ho h6
    rw [msP, Except.ok.injEq, Prod.mk.injEq] at h
    rw [← h.1]
    exact ⟨ho, Nat.le_refl _, fun z => absurd z (by decide), rfl⟩
  | succ f ih =>
    intro p q W W1 h ho h6
    cases e : maP tx n p W with
    | error z => rw [ms_e e] at h; cases h
    | ok x =>
      obtain ⟨W2, p2⟩ := x
      obtain ⟨a1, a2, a3⟩ := maP_ok e ho (by omega)
      rw [msP, e] at h
      dsimp only at h
      split at h
      · rw [Except.ok.injEq, Prod.mk.injEq] at h
        rw [← h.1]
        exact ⟨a1, by omega, fun _ => by omega, a3⟩
      · split at h
        · obtain ⟨b1, b2, b3, b4⟩ := ih _ _ _ _ h a1 (by omega)
          exact ⟨b1, by omega, fun _ => by omega, b4.trans a3⟩
        · rw [Except.ok.injEq, Prod.mk.injEq] at h
          rw [← h.1]
          exact ⟨a1, by omega, fun _ => by omega, a3⟩
theorem ksP_ok {tx : Nat → Nat} {n : Nat} : ∀ (f p q : Nat) (W W1 : VR), ksP tx n f p W = .ok (W1, q) → Ok W → 0 < W 0 0 → W 0 1 + f ≤ 5 → Ok W1 ∧ W1 0 0 = W 0 0 := by
  intro f
  induction f with
  | zero =>
    intro p q W W1 h ho h0 h6
    rw [ksP, Except.ok.injEq, Prod.mk.injEq] at h
    rw [← h.1]
    exact ⟨ho, rfl⟩
  | succ f ih =>
    intro p q W W1 h ho h0 h6
    cases e : moP tx n p W with
    | error z => rw [ks_e e] at h; cases h
    | ok x =>
      obtain ⟨W2, p2⟩ := x
      obtain ⟨a1, a2, a3⟩ := moP_ok e ho h0 (by omega)
      rw [ksP, e] at h
      dsimp only at h
      split at h
      · rw [Except.ok.injEq, Prod.mk.injEq] at h
        rw [← h.1]
        exact ⟨a1, a3⟩
      · split at h
        · obtain ⟨b1, b2⟩ := ih _ _ _ _ h a1 (by omega) (by omega)
          exact ⟨b1, b2.trans a3⟩
        · rw [Except.ok.injEq, Prod.mk.injEq] at h
          rw [← h.1]
          exact ⟨a1, a3⟩

theorem md_X6_readMark : MD yX6_readMark wsX6_readMark 1 5 (some .boolean) := ⟨_, _, rfl, by decide, by decide +kernel, by decide +kernel, by decide +kernel⟩
set_option maxHeartbeats 4000000 in
set_option maxRecDepth 100000 in
theorem lp_X6_readMarks {X : CX} {S : GS} {tx : Nat → Nat} {N p0 : Nat} {W0 : VR} {dd : Nat} (hx : TxOk tx N) (hr : RtP X .boolean (fun r u => (∃ W1 q, msP tx N 6 p0 W0 = .ok (W1, q) ∧ r = nI 1 ∧ TP u tx N q ∧ HC u 42 (vs W1 0 4 dd) ∧ Fr F12 S u) ∨ (∃ q, msP tx N 6 p0 W0 = .error q ∧ Fr F12 S u ∧ ((r = nI 0 ∧ u.1 11 3 = nI q) ∨ (r = nI 1 ∧ TP u tx N q ∧ dgt tx N q))))) (C : Cx X cX6_readMarks RX6 wsX6_readMarks 5) : ∀ (n : Nat) (i : Nat) (T : GS) (p : Nat) (W : VR), i + n = 6 → TP T tx N p → HC T 42 (vs W 0 4 dd) → Ok W → W 0 0 = i → Fr F12 S T → msP tx N 6 p0 W0 = msP tx N n p W → Zj X T [some (.ref (ad (xY X) 11)), some (.ref (ad (xY X) 42)), some (.int (nI (1))), some (.int (nI (i)))] 4 [] := by
  intro n
  induction n with
  | zero =>
    intro i T p W hi hP hW hO hi0 hf hg
    obtain rfl : i = 6 := by omega
    refine z_iload3 C dX6_readMarks_4 ?_
    refine z_bipush (v := nI 6) C dX6_readMarks_5 (by decide) ?_
    refine z_icmp_geN C 50 dX6_readMarks_7 (by decide) (by omega) (by omega) (fun c7 => ?_) (fun c7 => ?_)
    · refine z_iconstN 1 C dX6_readMarks_50 ?_
      exact z_iretP C dX6_readMarks_51 hr rfl (Or.inl ⟨_, _, hg, rfl, hP, hW, hf⟩)
    · exact absurd c7 (by omega)
  | succ n ih =>
    intro i T p W hi hP hW hO hi0 hf hg
    have x90 := hx.1
    have pN := hP.2.2.2
    refine z_iload3 C dX6_readMarks_4 ?_
    refine z_bipush (v := nI 6) C dX6_readMarks_5 (by decide) ?_
    refine z_icmp_geN C 50 dX6_readMarks_7 (by decide) (by omega) (by omega) (fun c7 => ?_) (fun c7 => ?_)
    · exact absurd c7 (by omega)
    · refine z_iload2 C dX6_readMarks_10 ?_
      refine z_if_eqF C 50 dX6_readMarks_11 (by decide) (by decide) ?_
      refine z_aload0 C dX6_readMarks_14 ?_
      refine z_aload1 C dX6_readMarks_15 ?_
      refine z_callVP C dX6_readMarks_16 (c_X6_readMark hx hP hW hO (by omega)) gX6_readMarks_X6_readMark md_X6_readMark rfl (by decide) (k_Tape _) rfl rfl rfl (Nat.le_of_ble_eq_true rfl) ?_
      rintro r0 T1 hE
      rcases hE with ⟨W1, q, e1, rfl, hP, hW, hf1⟩ | ⟨q, e1, hf1, ⟨rfl, hx3⟩ | ⟨rfl, hP, hd⟩⟩
      · obtain ⟨w1, w2, w3⟩ := maP_ok e1 hO (by omega)
        have hf := hf.tr hf1
        refine z_if_neT C 24 dX6_readMarks_19 (by decide) (by decide) ?_
        refine z_iload3 C dX6_readMarks_24 ?_
        refine z_iconstN 5 C dX6_readMarks_25 ?_
        refine z_icmp_geN C 42 dX6_readMarks_26 (by decide) (by omega) (by omega) (fun c26 => ?_) (fun c26 => ?_)
        · refine z_iconstN 0 C dX6_readMarks_42 ?_
          refine z_istore2 C dX6_readMarks_43 nl_r ?_
          refine z_iinc3 C dX6_readMarks_44 (inc1 _) nl_i ?_
          refine z_goto C 4 dX6_readMarks_47 (by decide) ?_
          obtain rfl : n = 0 := by omega
          refine z_iload3 C dX6_readMarks_4 ?_
          refine z_bipush (v := nI 6) C dX6_readMarks_5 (by decide) ?_
          refine z_icmp_geN C 50 dX6_readMarks_7 (by decide) (by omega) (by omega) (fun c7 => ?_) (fun c7 => ?_)
          · refine z_iconstN 1 C dX6_readMarks_50 ?_
            exact z_iretP C dX6_readMarks_51 hr rfl (Or.inl ⟨_, _, hg.trans (ms_0 e1), rfl, hP, hW, hf⟩)
          · refine z_iload2 C dX6_readMarks_10 ?_
            refine z_if_eqT C 50 dX6_readMarks_11 (by decide) (by decide) ?_
            refine z_iconstN 1 C dX6_readMarks_50 ?_
            exact z_iretP C dX6_readMarks_51 hr rfl (Or.inl ⟨_, _, hg.trans (ms_0 e1), rfl, hP, hW, hf⟩)
        · refine z_aload0 C dX6_readMarks_29 ?_
          refine z_bipush (v := nI 44) C dX6_readMarks_30 (by decide) ?_
          refine z_callVP C dX6_readMarks_32 (c_X6_accept hx hP (by decide)) gX6_readMarks_X6_accept md_X6_accept rfl (by decide) (k_Tape _) rfl rfl rfl (Nat.le_of_ble_eq_true rfl) ?_
          rintro _ T2 ⟨rfl, hP, hf2⟩
          refine z_if_eqB C 42 dX6_readMarks_35 (by decide) (fun c35 => ?_) (fun c35 => ?_)
          · refine z_iconstN 0 C dX6_readMarks_42 ?_
            refine z_istore2 C dX6_readMarks_43 nl_r ?_
            refine z_iinc3 C dX6_readMarks_44 (inc1 _) nl_i ?_
            refine z_goto C 4 dX6_readMarks_47 (by decide) ?_
            rw [tkN_n c35] at hP
            refine z_iload3 C dX6_readMarks_4 ?_
            refine z_bipush (v := nI 6) C dX6_readMarks_5 (by decide) ?_
            refine z_icmp_geN C 50 dX6_readMarks_7 (by decide) (by omega) (by omega) (fun c7 => ?_) (fun c7 => ?_)
            · refine z_iconstN 1 C dX6_readMarks_50 ?_
              exact z_iretP C dX6_readMarks_51 hr rfl (Or.inl ⟨_, _, hg.trans (ms_n e1 (by omega) c35), rfl, hP, HC_11 hW hf2, hf.tr hf2.t12⟩)
            · refine z_iload2 C dX6_readMarks_10 ?_
              refine z_if_eqT C 50 dX6_readMarks_11 (by decide) (by decide) ?_
              refine z_iconstN 1 C dX6_readMarks_50 ?_
              exact z_iretP C dX6_readMarks_51 hr rfl (Or.inl ⟨_, _, hg.trans (ms_n e1 (by omega) c35), rfl, hP, HC_11 hW hf2, hf.tr hf2.t12⟩)
          · refine z_iconstN 1 C dX6_readMarks_38 ?_
            refine z_goto C 43 dX6_readMarks_39 (by decide) ?_
            refine z_istore2 C dX6_readMarks_43 nl_r ?_
            refine z_iinc3 C dX6_readMarks_44 (inc1 _) nl_i ?_
            refine z_goto C 4 dX6_readMarks_47 (by decide) ?_
            rw [tkN_y c35] at hP
            exact ih (i + 1) _ _ _ (by omega) hP (HC_11 hW hf2) w1 (by omega) (hf.tr hf2.t12) (hg.trans (ms_y e1 (by omega) c35))
      · have hf := hf.tr hf1
        refine z_if_neF C 24 dX6_readMarks_19 (by decide) (by decide) ?_
        refine z_iconstN 0 C dX6_readMarks_22 ?_
        exact z_iretP C dX6_readMarks_23 hr rfl (Or.inr ⟨_, hg.trans (ms_e e1), hf, Or.inl ⟨rfl, hx3⟩⟩)
      · have hf := hf.tr hf1
        refine z_if_neT C 24 dX6_readMarks_19 (by decide) (by decide) ?_
        refine z_iload3 C dX6_readMarks_24 ?_
        refine z_iconstN 5 C dX6_readMarks_25 ?_
        refine z_icmp_geN C 42 dX6_readMarks_26 (by decide) (by omega) (by omega) (fun c26 => ?_) (fun c26 => ?_)
        · refine z_iconstN 0 C dX6_readMarks_42 ?_
          refine z_istore2 C dX6_readMarks_43 nl_r ?_
          refine z_iinc3 C dX6_readMarks_44 (inc1 _) nl_i ?_
          refine z_goto C 4 dX6_readMarks_47 (by decide) ?_
          refine z_iload3 C dX6_readMarks_4 ?_
          refine z_bipush (v := nI 6) C dX6_readMarks_5 (by decide) ?_
          refine z_icmp_geN C 50 dX6_readMarks_7 (by decide) (by omega) (by omega) (fun c7 => ?_) (fun c7 => ?_)
          · refine z_iconstN 1 C dX6_readMarks_50 ?_
            exact z_iretP C dX6_readMarks_51 hr rfl (Or.inr ⟨_, hg.trans (ms_e e1), hf, Or.inr ⟨rfl, hP, hd⟩⟩)
          · refine z_iload2 C dX6_readMarks_10 ?_
            refine z_if_eqT C 50 dX6_readMarks_11 (by decide) (by decide) ?_
            refine z_iconstN 1 C dX6_readMarks_50 ?_
            exact z_iretP C dX6_readMarks_51 hr rfl (Or.inr ⟨_, hg.trans (ms_e e1), hf, Or.inr ⟨rfl, hP, hd⟩⟩)
        · refine z_aload0 C dX6_readMarks_29 ?_
          refine z_bipush (v := nI 44) C dX6_readMarks_30 (by decide) ?_
          refine z_callVP C dX6_readMarks_32 (c_X6_accept hx hP (by decide)) gX6_readMarks_X6_accept md_X6_accept rfl (by decide) (k_Tape _) rfl rfl rfl (Nat.le_of_ble_eq_true rfl) ?_
          rintro _ T2 ⟨rfl, hP, hf2⟩
          refine z_if_eqB C 42 dX6_readMarks_35 (by decide) (fun c35 => ?_) (fun c35 => ?_)
          · refine z_iconstN 0 C dX6_readMarks_42 ?_
            refine z_istore2 C dX6_readMarks_43 nl_r ?_
            refine z_iinc3 C dX6_readMarks_44 (inc1 _) nl_i ?_
            refine z_goto C 4 dX6_readMarks_47 (by decide) ?_
            rw [tkN_n c35, sk_d hd] at hP
            refine z_iload3 C dX6_readMarks_4 ?_
            refine z_bipush (v := nI 6) C dX6_readMarks_5 (by decide) ?_
            refine z_icmp_geN C 50 dX6_readMarks_7 (by decide) (by omega) (by omega) (fun c7 => ?_) (fun c7 => ?_)
            · refine z_iconstN 1 C dX6_readMarks_50 ?_
              exact z_iretP C dX6_readMarks_51 hr rfl (Or.inr ⟨_, hg.trans (ms_e e1), hf.tr hf2.t12, Or.inr ⟨rfl, hP, hd⟩⟩)
            · refine z_iload2 C dX6_readMarks_10 ?_
              refine z_if_eqT C 50 dX6_readMarks_11 (by decide) (by decide) ?_
              refine z_iconstN 1 C dX6_readMarks_50 ?_
              exact z_iretP C dX6_readMarks_51 hr rfl (Or.inr ⟨_, hg.trans (ms_e e1), hf.tr hf2.t12, Or.inr ⟨rfl, hP, hd⟩⟩)
          · refine z_iconstN 1 C dX6_readMarks_38 ?_
            refine z_goto C 43 dX6_readMarks_39 (by decide) ?_
            refine z_istore2 C dX6_readMarks_43 nl_r ?_
            refine z_iinc3 C dX6_readMarks_44 (inc1 _) nl_i ?_
            refine z_goto C 4 dX6_readMarks_47 (by decide) ?_
            exact absurd c35 (tk_d hd (by decide))

set_option maxHeartbeats 4000000 in
set_option maxRecDepth 100000 in
theorem c_X6_readMarks {l : Launch} {Y : LY} {S : GS} {tx : Nat → Nat} {N p : Nat} (hx : TxOk tx N) (hP : TP S tx N p) {W : VR} {dd : Nat} (hW : HC S 42 (vs W 0 4 dd)) (hO : Ok W) (h0 : W 0 0 = 0) : CtP l yX6_readMarks wsX6_readMarks 5 Y [.ref (ad Y 11), .ref (ad Y 42)] S (fun r u => (∃ W1 q, msP tx N 6 p W = .ok (W1, q) ∧ r = nI 1 ∧ TP u tx N q ∧ HC u 42 (vs W1 0 4 dd) ∧ Fr F12 S u) ∨ (∃ q, msP tx N 6 p W = .error q ∧ Fr F12 S u ∧ ((r = nI 0 ∧ u.1 11 3 = nI q) ∨ (r = nI 1 ∧ TP u tx N q ∧ dgt tx N q)))) := by
  refine mkP (cc := cX6_readMarks) (maxL := 4) rfl rfl (Nat.le_of_ble_eq_true rfl) ?_
  intro X hl hY C hr
  subst hl
  subst hY
  show Zj X S [some (.ref (ad (xY X) 11)), some (.ref (ad (xY X) 42)), none, none] 0 []
  refine z_iconstN 1 C dX6_readMarks_0 ?_
  refine z_istore2 C dX6_readMarks_1 nl_r ?_
  refine z_iconstN 0 C dX6_readMarks_2 ?_
  refine z_istore3 C dX6_readMarks_3 nl_i ?_
  exact lp_X6_readMarks hx hr C 6 0 S p W (by decide) hP hW hO h0 Fr.rf rfl
