set_option maxHeartbeats 4000000 in
set_option maxRecDepth 100000 in
theorem fin_takesRock {X : CX} {S : GS} {tx : Nat → Nat} {N : Nat} {dd : Nat} (hx : TxOk tx N) (hr : RtP X .boolean (fun r u => (∃ W1 q, rkP tx N vz = .ok (W1, q) ∧ r = nI 1 ∧ TM u tx N q ∧ HW (u.1 179) 630 (vs W1 0 4 dd) ∧ FrR S u) ∨ (∃ q, rkP tx N vz = .error q ∧ r = nI 0 ∧ TM u tx N q ∧ FrR S u))) (C : Cx X cX8_takesRock RX8 wsX8_takesRock 5) {T : GS} {p : Nat} {W : VR} (hP : TM T tx N p) (hW : HW (T.1 179) 630 (vs W 0 4 dd)) (hf0 : FrR S T) (hg : rkP tx N vz = fnP tx N p W) : Zj X T [some (.ref (ad (xY X) 178))] 70 [] := by
  have x90 := hx.1
  have pN := hP.2.2.2
  refine z_aload0 C dX8_takesRock_70 ?_
  refine z_callVP C dX8_takesRock_71 (c_X8_peek hx hP) gX8_takesRock_X8_peek md_X8_peek rfl (by decide) (k_Model _) rfl rfl rfl (Nat.le_of_ble_eq_true rfl) ?_
  rintro _ T ⟨rfl, hP, hf⟩
  obtain ⟨sk1, sk2, sk3⟩ := sk_in (tx := tx) pN
  have lk1 := lkn_le (q := sk tx N p) hx
  refine z_if_neN C 81 dX8_takesRock_74 (by decide) (by omega) (fun c74 => ?_) (fun c74 => ?_)
  · refine z_iconstN 0 C dX8_takesRock_81 ?_
    exact z_iretP C dX8_takesRock_82 hr rfl (Or.inr ⟨_, hg.trans (fnP_y (Decidable.byContradiction (fun z => absurd ((lkn_0 hx).mpr z) (by omega)))), rfl, hP, hf0.tr hf.r⟩)
  · refine z_iconstN 1 C dX8_takesRock_77 ?_
    refine z_goto C 82 dX8_takesRock_78 (by decide) ?_
    exact z_iretP C dX8_takesRock_82 hr rfl (Or.inl ⟨_, _, hg.trans (fnP_n ((lkn_0 hx).mp c74)), rfl, hP, HW_T hW hf, hf0.tr hf.r⟩)

theorem md_X8_takesMark : MD yX8_takesMark wsX8_takesMark 0 4 (some .boolean) := ⟨_, _, rfl, by decide, by decide +kernel, by decide +kernel, by decide +kernel⟩
set_option maxRecDepth 20000 in
theorem fl_X8_takesRock_7 : FL RX8 wsX8_takesRock 7 8 0 := ⟨RX8, TX8, 15, rfl, (fun w h => List.mem_cons_of_mem _ (List.mem_append_right _ h)), by decide, by decide +kernel⟩
set_option maxHeartbeats 4000000 in
set_option maxRecDepth 100000 in
theorem lp_takesRock1 {X : CX} {S : GS} {tx : Nat → Nat} {N : Nat} {dd : Nat} (hx : TxOk tx N) (hr : RtP X .boolean (fun r u => (∃ W1 q, rkP tx N vz = .ok (W1, q) ∧ r = nI 1 ∧ TM u tx N q ∧ HW (u.1 179) 630 (vs W1 0 4 dd) ∧ FrR S u) ∨ (∃ q, rkP tx N vz = .error q ∧ r = nI 0 ∧ TM u tx N q ∧ FrR S u))) (C : Cx X cX8_takesRock RX8 wsX8_takesRock 5) : ∀ (n : Nat) (p : Nat) (T : GS) (W : VR), TM T tx N p → HW (T.1 179) 630 (vs W 0 4 dd) → Ok W → W 0 0 + (n + 1) = 6 → FrR S T → msP tx N 6 0 vz = msP tx N (n + 1) p W → (∀ (T : GS) (W1 : VR) (q : Nat), msP tx N 6 0 vz = .ok (W1, q) → TM T tx N q → HW (T.1 179) 630 (vs W1 0 4 dd) → FrR S T → Ok W1 → Zj X T [some (.ref (ad (xY X) 178))] 31 []) → Zj X T [some (.ref (ad (xY X) 178))] 0 [] := by
  intro n
  induction n with
  | zero =>
    intro p T W hP hW hO hi hf hg kk
    have x90 := hx.1
    have pN := hP.2.2.2
    refine z_aload0 C dX8_takesRock_0 ?_
    refine z_callVP C dX8_takesRock_1 (c_X8_takesMark hx hP hW hO (by omega)) gX8_takesRock_X8_takesMark md_X8_takesMark rfl (by decide) (k_Model _) rfl rfl rfl (Nat.le_of_ble_eq_true rfl) ?_
    rintro r0 T1 hE
    rcases hE with ⟨W1, p1, e1, rfl, hP, hW, hf1⟩ | ⟨q, e1, rfl, hP, hf1⟩
    · have hf := hf.tr hf1
      obtain ⟨w1, w2, w3⟩ := maP_ok e1 hO (by omega)
      refine z_if_neT C 9 dX8_takesRock_4 (by decide) (by decide) ?_
      refine z_aload0 C dX8_takesRock_9 ?_
      refine z_get C dX8_takesRock_10 fl_X8_takesRock_7 (k_Model _) rfl ?_
      refine z_sipush (v := nI 630) C dX8_takesRock_13 (by decide) ?_
      refine z_iald C dX8_takesRock_16 (k_i179 _) (by omega) ?_
      refine z_top C (show T1.1 179 630 = nI (W1 0 0) from (hW.1.1).trans (congrArg nI vs_00)) ?_
      refine z_bipush (v := nI 6) C dX8_takesRock_17 (by decide) ?_
      refine z_icmp_geN C 31 dX8_takesRock_19 (by decide) (by omega) (by omega) (fun c19 => ?_) (fun c19 => ?_)
      · exact kk _ W1 _ (hg.trans (ms_0 e1)) hP hW hf w1
      · exact absurd c19 (by omega)
    · have hf := hf.tr hf1
      refine z_if_neF C 9 dX8_takesRock_4 (by decide) (by decide) ?_
      refine z_iconstN 0 C dX8_takesRock_7 ?_
      exact z_iretP C dX8_takesRock_8 hr rfl (Or.inr ⟨_, rk0 (hg.trans (ms_e e1)), rfl, hP, hf⟩)
  | succ n ih =>
    intro p T W hP hW hO hi hf hg kk
    have x90 := hx.1
    have pN := hP.2.2.2
    refine z_aload0 C dX8_takesRock_0 ?_
    refine z_callVP C dX8_takesRock_1 (c_X8_takesMark hx hP hW hO (by omega)) gX8_takesRock_X8_takesMark md_X8_takesMark rfl (by decide) (k_Model _) rfl rfl rfl (Nat.le_of_ble_eq_true rfl) ?_
    rintro r0 T1 hE
    rcases hE with ⟨W1, p1, e1, rfl, hP, hW, hf1⟩ | ⟨q, e1, rfl, hP, hf1⟩
    · have hf := hf.tr hf1
      obtain ⟨w1, w2, w3⟩ := maP_ok e1 hO (by omega)
      refine z_if_neT C 9 dX8_takesRock_4 (by decide) (by decide) ?_
      refine z_aload0 C dX8_takesRock_9 ?_
      refine z_get C dX8_takesRock_10 fl_X8_takesRock_7 (k_Model _) rfl ?_
      refine z_sipush (v := nI 630) C dX8_takesRock_13 (by decide) ?_
      refine z_iald C dX8_takesRock_16 (k_i179 _) (by omega) ?_
      refine z_top C (show T1.1 179 630 = nI (W1 0 0) from (hW.1.1).trans (congrArg nI vs_00)) ?_
      refine z_bipush (v := nI 6) C dX8_takesRock_17 (by decide) ?_
      refine z_icmp_geN C 31 dX8_takesRock_19 (by decide) (by omega) (by omega) (fun c19 => ?_) (fun c19 => ?_)
      · exact absurd c19 (by omega)
      · refine z_aload0 C dX8_takesRock_22 ?_
        refine z_bipush (v := nI 44) C dX8_takesRock_23 (by decide) ?_
        refine z_callVP C dX8_takesRock_25 (c_X8_takes hx hP (by decide) (by decide)) gX8_takesRock_X8_takes md_X8_takes rfl (by decide) (k_Model _) rfl rfl rfl (Nat.le_of_ble_eq_true rfl) ?_
        rintro _ T2 ⟨rfl, hP, hf2⟩
        refine z_if_neB C 0 dX8_takesRock_28 (by decide) (fun c28 => ?_) (fun c28 => ?_)
        · rw [tkN_y c28] at hP
          exact ih _ _ W1 hP (HW_T hW hf2) w1 (by omega) (hf.tr hf2.r) (hg.trans (ms_y e1 (by omega) c28)) kk
        · rw [tkN_n c28] at hP
          exact kk _ W1 _ (hg.trans (ms_n e1 (by omega) c28)) hP (HW_T hW hf2) (hf.tr hf2.r) w1
    · have hf := hf.tr hf1
      refine z_if_neF C 9 dX8_takesRock_4 (by decide) (by decide) ?_
      refine z_iconstN 0 C dX8_takesRock_7 ?_
      exact z_iretP C dX8_takesRock_8 hr rfl (Or.inr ⟨_, rk0 (hg.trans (ms_e e1)), rfl, hP, hf⟩)

theorem md_X8_takesMonk : MD yX8_takesMonk wsX8_takesMonk 0 4 (some .boolean) := ⟨_, _, rfl, by decide, by decide +kernel, by decide +kernel, by decide +kernel⟩
set_option maxHeartbeats 4000000 in
set_option maxRecDepth 100000 in
theorem lp_takesRock2 {X : CX} {S : GS} {tx : Nat → Nat} {N : Nat} {dd : Nat} (hx : TxOk tx N) (hr : RtP X .boolean (fun r u => (∃ W1 q, rkP tx N vz = .ok (W1, q) ∧ r = nI 1 ∧ TM u tx N q ∧ HW (u.1 179) 630 (vs W1 0 4 dd) ∧ FrR S u) ∨ (∃ q, rkP tx N vz = .error q ∧ r = nI 0 ∧ TM u tx N q ∧ FrR S u))) {W0 : VR} {p0 : Nat} (e0 : msP tx N 6 0 vz = .ok (W0, p0)) (t0 : tkP tx N 59 p0) (C : Cx X cX8_takesRock RX8 wsX8_takesRock 5) : ∀ (n : Nat) (p : Nat) (T : GS) (W : VR), TM T tx N p → HW (T.1 179) 630 (vs W 0 4 dd) → Ok W → W 0 1 + (n + 1) = 5 → 0 < W 0 0 → FrR S T → ksP tx N 5 (sk tx N p0 + 1) W0 = ksP tx N (n + 1) p W → (∀ (T : GS) (W1 : VR) (q : Nat), ksP tx N 5 (sk tx N p0 + 1) W0 = .ok (W1, q) → TM T tx N q → HW (T.1 179) 630 (vs W1 0 4 dd) → FrR S T → Ok W1 → Zj X T [some (.ref (ad (xY X) 178))] 70 []) → Zj X T [some (.ref (ad (xY X) 178))] 40 [] := by
  intro n
  induction n with
  | zero =>
    intro p T W hP hW hO hi h00 hf hg kk
    have x90 := hx.1
    have pN := hP.2.2.2
    refine z_aload0 C dX8_takesRock_40 ?_
    refine z_callVP C dX8_takesRock_41 (c_X8_takesMonk hx hP hW hO h00 (by omega)) gX8_takesRock_X8_takesMonk md_X8_takesMonk rfl (by decide) (k_Model _) rfl rfl rfl (Nat.le_of_ble_eq_true rfl) ?_
    rintro r0 T1 hE
    rcases hE with ⟨W1, p1, e1, rfl, hP, hW, hf1⟩ | ⟨q, e1, rfl, hP, hf1⟩
    · have hf := hf.tr hf1
      obtain ⟨w1, w2, w3⟩ := moP_ok e1 hO h00 (by omega)
      refine z_if_neT C 49 dX8_takesRock_44 (by decide) (by decide) ?_
      refine z_aload0 C dX8_takesRock_49 ?_
      refine z_get C dX8_takesRock_50 fl_X8_takesRock_7 (k_Model _) rfl ?_
      refine z_sipush (v := nI 631) C dX8_takesRock_53 (by decide) ?_
      refine z_iald C dX8_takesRock_56 (k_i179 _) (by omega) ?_
      refine z_top C (show T1.1 179 631 = nI (W1 0 1) from (hW.1.2.1).trans (congrArg nI vs_01)) ?_
      refine z_iconstN 5 C dX8_takesRock_57 ?_
      refine z_icmp_geN C 70 dX8_takesRock_58 (by decide) (by omega) (by omega) (fun c58 => ?_) (fun c58 => ?_)
      · exact kk _ W1 _ (hg.trans (ks_0 e1)) hP hW hf w1
      · exact absurd c58 (by omega)
    · have hf := hf.tr hf1
      refine z_if_neF C 49 dX8_takesRock_44 (by decide) (by decide) ?_
      refine z_iconstN 0 C dX8_takesRock_47 ?_
      exact z_iretP C dX8_takesRock_48 hr rfl (Or.inr ⟨_, rk1 e0 t0 (hg.trans (ks_e e1)), rfl, hP, hf⟩)
  | succ n ih =>
    intro p T W hP hW hO hi h00 hf hg kk
    have x90 := hx.1
    have pN := hP.2.2.2
    refine z_aload0 C dX8_takesRock_40 ?_
    refine z_callVP C dX8_takesRock_41 (c_X8_takesMonk hx hP hW hO h00 (by omega)) gX8_takesRock_X8_takesMonk md_X8_takesMonk rfl (by decide) (k_Model _) rfl rfl rfl (Nat.le_of_ble_eq_true rfl) ?_
    rintro r0 T1 hE
    rcases hE with ⟨W1, p1, e1, rfl, hP, hW, hf1⟩ | ⟨q, e1, rfl, hP, hf1⟩
    · have hf := hf.tr hf1
      obtain ⟨w1, w2, w3⟩ := moP_ok e1 hO h00 (by omega)
      refine z_if_neT C 49 dX8_takesRock_44 (by decide) (by decide) ?_
      refine z_aload0 C dX8_takesRock_49 ?_
      refine z_get C dX8_takesRock_50 fl_X8_takesRock_7 (k_Model _) rfl ?_
      refine z_sipush (v := nI 631) C dX8_takesRock_53 (by decide) ?_
      refine z_iald C dX8_takesRock_56 (k_i179 _) (by omega) ?_
      refine z_top C (show T1.1 179 631 = nI (W1 0 1) from (hW.1.2.1).trans (congrArg nI vs_01)) ?_
      refine z_iconstN 5 C dX8_takesRock_57 ?_
      refine z_icmp_geN C 70 dX8_takesRock_58 (by decide) (by omega) (by omega) (fun c58 => ?_) (fun c58 => ?_)
      · exact absurd c58 (by omega)
      · refine z_aload0 C dX8_takesRock_61 ?_
        refine z_bipush (v := nI 44) C dX8_takesRock_62 (by decide) ?_
        refine z_callVP C dX8_takesRock_64 (c_X8_takes hx hP (by decide) (by decide)) gX8_takesRock_X8_takes md_X8_takes rfl (by decide) (k_Model _) rfl rfl rfl (Nat.le_of_ble_eq_true rfl) ?_
        rintro _ T2 ⟨rfl, hP, hf2⟩
        refine z_if_neB C 40 dX8_takesRock_67 (by decide) (fun c67 => ?_) (fun c67 => ?_)
        · rw [tkN_y c67] at hP
          exact ih _ _ W1 hP (HW_T hW hf2) w1 (by omega) (by omega) (hf.tr hf2.r) (hg.trans (ks_y e1 (by omega) c67)) kk
        · rw [tkN_n c67] at hP
          exact kk _ W1 _ (hg.trans (ks_n e1 (by omega) c67)) hP (HW_T hW hf2) (hf.tr hf2.r) w1
    · have hf := hf.tr hf1
      refine z_if_neF C 49 dX8_takesRock_44 (by decide) (by decide) ?_
      refine z_iconstN 0 C dX8_takesRock_47 ?_
      exact z_iretP C dX8_takesRock_48 hr rfl (Or.inr ⟨_, rk1 e0 t0 (hg.trans (ks_e e1)), rfl, hP, hf⟩)

set_option maxHeartbeats 4000000 in
set_option maxRecDepth 100000 in
theorem c_X8_takesRock {l : Launch} {Y : LY} {S : GS} {tx : Nat → Nat} {N : Nat} (hx : TxOk tx N) (hP : TM S tx N 0) {dd : Nat} (hW : HW (S.1 179) 630 (vs vz 0 4 dd)) : CtP l yX8_takesRock wsX8_takesRock 5 Y [.ref (ad Y 178)] S (fun r u => (∃ W1 q, rkP tx N vz = .ok (W1, q) ∧ r = nI 1 ∧ TM u tx N q ∧ HW (u.1 179) 630 (vs W1 0 4 dd) ∧ FrR S u) ∨ (∃ q, rkP tx N vz = .error q ∧ r = nI 0 ∧ TM u tx N q ∧ FrR S u)) := by
  refine mkP (cc := cX8_takesRock) (maxL := 1) rfl rfl (Nat.le_of_ble_eq_true rfl) ?_
  intro X hl hY C hr
  subst hl
  subst hY
  show Zj X S [some (.ref (ad (xY X) 178))] 0 []
  refine lp_takesRock1 hx hr C 5 0 S vz hP hW vz_ok rfl FrR.rf rfl ?_
  intro T1 W1 p1 e1 hP hW hf w1
  refine z_aload0 C dX8_takesRock_31 ?_
  refine z_bipush (v := nI 59) C dX8_takesRock_32 (by decide) ?_
  refine z_callVP C dX8_takesRock_34 (c_X8_takes hx hP (by decide) (by decide)) gX8_takesRock_X8_takes md_X8_takes rfl (by decide) (k_Model _) rfl rfl rfl (Nat.le_of_ble_eq_true rfl) ?_
  rintro _ T2 ⟨rfl, hP, hf2⟩
  refine z_if_eqB C 70 dX8_takesRock_37 (by decide) (fun c37 => ?_) (fun c37 => ?_)
  · rw [tkN_n c37] at hP
    exact fin_takesRock hx hr C hP (HW_T hW hf2) (hf.tr hf2.r) (rk3 e1 c37)
  · rw [tkN_y c37] at hP
    obtain ⟨w1, w2, w3, w4⟩ := msP_ok 6 0 p1 vz W1 e1 vz_ok (by decide)
    refine lp_takesRock2 hx hr e1 c37 C 4 _ _ W1 hP (HW_T hW hf2) w1 (by rw [w4]; rfl) (w3 (by decide)) (hf.tr hf2.r) rfl ?_
    intro T3 W2 p2 e2 hP hW hf w5
    exact fin_takesRock hx hr C hP hW hf (rk2 e1 c37 e2)

def FrX (S T : GS) : Prop := (∀ o, o ≠ 178 → o ≠ 180 → T.1 o = S.1 o) ∧ (∀ i, i ≠ 3 → T.1 178 i = S.1 178 i) ∧ T.2 = S.2
theorem FrX.rf {S : GS} : FrX S S := ⟨fun _ _ _ => rfl, fun _ _ => rfl, rfl⟩
theorem FrX.put {S : GS} {j : Nat} {v w : Int32} : FrX S (stI (stI S 180 j v) 178 3 w) := ⟨fun o a b => by rw [stI_no a, stI_no b], fun i a => by rw [stI_ni a, stI_no (by decide)], rfl⟩
theorem XM_put {S : GS} {t : TX} {x : Nat} (h : XM S t) : XM (stI (stI S 180 t.2 (nI x)) 178 3 (nI (t.2 + 1))) (qu t.1 t.2 x, t.2 + 1) := ⟨stI_me _ _ _ _, by
  rw [stI_no (by decide)]
  show ∀ i, i < t.2 + 1 → (stI S 180 t.2 (nI x)).1 180 i = _
  have e : (stI S 180 t.2 (nI x)).1 180 = upd (S.1 180) t.2 (nI x) := stA_me
  rw [e]
  exact tx_put h.2⟩

theorem kl_X8_type_81 : Cond.constantLong RX8 81 (32) ∈ wsX8_type := by decide +kernel
theorem kl_X8_type_83 : Cond.constantLong RX8 83 (126) ∈ wsX8_type := by decide +kernel
set_option maxRecDepth 20000 in
theorem fl_X8_type_85 : FL RX8 wsX8_type 85 8 3 := ⟨RX8, TX8, 15, rfl, (fun w h => List.mem_cons_of_mem _ (List.mem_append_right _ h)), by decide, by decide +kernel⟩
set_option maxRecDepth 20000 in
theorem fl_X8_type_13 : FL RX8 wsX8_type 13 8 2 := ⟨RX8, TX8, 15, rfl, (fun w h => List.mem_cons_of_mem _ (List.mem_append_right _ h)), by decide, by decide +kernel⟩
theorem fp_X8_type_85 : FP RX8 wsX8_type 85 8 3 .int := ⟨fl_X8_type_85, RX8, TX8, 15, tyX8, rfl, tyX8_ok, nmX8, rfl, by decide +kernel⟩
set_option maxHeartbeats 4000000 in
set_option maxRecDepth 100000 in
theorem c_X8_type {l : Launch} {Y : LY} {S : GS} {t : TX} (hX : XM S t) (hx : TxOk t.1 t.2) {x : Int32} : CtP l yX8_type wsX8_type 3 Y [.ref (ad Y 178), .int x] S (fun r u => r = (aType t x).1 ∧ XM u (aType t x).2 ∧ FrX S u) := by
  refine mkP (cc := cX8_type) (maxL := 2) rfl rfl (Nat.le_of_ble_eq_true rfl) ?_
  intro X hl hY C hr
  subst hl
  subst hY
  have x90 := hx.1
  show Zj X S [some (.ref (ad (xY X) 178)), some (.int x)] 0 []
  refine z_iload1 C dX8_type_0 ?_
  refine z_i2l C dX8_type_1 ?_
  refine z_ldc2 (v := 32) C dX8_type_2 kl_X8_type_81 ?_
  refine z_topl (y := (nI 32).toInt64) C (by decide) ?_
  refine z_ldc2 (v := 126) C dX8_type_5 kl_X8_type_83 ?_
  refine z_topl (y := (nI 126).toInt64) C (by decide) ?_
  refine z_callSI C dX8_type_8 c_X8_in gX8_type_X8_in md_X8_in (by decide) rfl rfl (Nat.le_of_ble_eq_true rfl) ?_
  refine z_if_neB C 16 dX8_type_11 (by decide) (fun c11 => ?_) (fun c11 => ?_)
  · refine z_aload0 C dX8_type_16 ?_
    refine z_get C dX8_type_17 fl_X8_type_85 (k_Model _) rfl ?_
    first | refine z_top C hX.1 ?_ | refine z_top C (show _ = nI t.2 by rw [stI_no (by decide)]; exact hX.1) ?_ | refine z_top C (stI_me _ _ _ _) ?_
    refine z_bipush (v := nI 90) C dX8_type_20 (by decide) ?_
    refine z_icmp_neN C 28 dX8_type_22 (by decide) (by omega) (by omega) (fun c22 => ?_) (fun c22 => ?_)
    · obtain ⟨x, hx1, hx2, rfl⟩ := inB_of (by decide) c11 (by decide)
      refine z_aload0 C dX8_type_28 ?_
      refine z_get C dX8_type_29 fl_X8_type_13 (k_Model _) rfl ?_
      refine z_aload0 C dX8_type_32 ?_
      refine z_get C dX8_type_33 fl_X8_type_85 (k_Model _) rfl ?_
      first | refine z_top C hX.1 ?_ | refine z_top C (show _ = nI t.2 by rw [stI_no (by decide)]; exact hX.1) ?_ | refine z_top C (stI_me _ _ _ _) ?_
      refine z_iload1 C dX8_type_36 ?_
      refine z_iast C dX8_type_37 (k_i180 _) (by omega) ?_
      refine z_aload0 C dX8_type_38 ?_
      refine z_dup C dX8_type_39 rfl ?_
      refine z_get C dX8_type_40 fl_X8_type_85 (k_Model _) rfl ?_
      first | refine z_top C hX.1 ?_ | refine z_top C (show _ = nI t.2 by rw [stI_no (by decide)]; exact hX.1) ?_ | refine z_top C (stI_me _ _ _ _) ?_
      refine z_iconstN 1 C dX8_type_43 ?_
      refine z_iaddN C dX8_type_44 ?_
      refine z_put C dX8_type_45 fp_X8_type_85 (k_Model _) rfl rfl (Nat.le_of_ble_eq_true rfl) rfl ?_
      refine z_aload0 C dX8_type_48 ?_
      refine z_get C dX8_type_49 fl_X8_type_85 (k_Model _) rfl ?_
      first | refine z_top C hX.1 ?_ | refine z_top C (show _ = nI t.2 by rw [stI_no (by decide)]; exact hX.1) ?_ | refine z_top C (stI_me _ _ _ _) ?_
      exact z_iretP C dX8_type_52 hr rfl ⟨by rw [aType_y c11 hx2 (by omega)], by rw [aType_y c11 hx2 (by omega)]; exact XM_put hX, FrX.put⟩
    · refine z_bipush (v := (-3)) C dX8_type_25 (by decide) ?_
      exact z_iretP C dX8_type_27 hr rfl ⟨by rw [aType_f c11 (by omega)], by rw [aType_f c11 (by omega)]; exact hX, FrX.rf⟩
  · refine z_iconst (v := (-1)) C dX8_type_14 (by decide) ?_
    exact z_iretP C dX8_type_15 hr rfl ⟨by rw [aType_n c11], by rw [aType_n c11]; exact hX, FrX.rf⟩

def FrK (S T : GS) : Prop := (∀ o, o ≠ 178 → o ≠ 179 → T.1 o = S.1 o) ∧ (∀ i, i ≠ 3 → i ≠ 7 → i ≠ 8 → T.1 178 i = S.1 178 i) ∧ (∀ i, 293 ≤ i → i < 586 → T.1 179 i = S.1 179 i) ∧ T.2 = S.2
theorem FrR.k {S T : GS} (h : FrR S T) : FrK S T := ⟨h.1, fun i _ a b => h.2.1 i a b, fun i _ a => h.2.2.1 i (by omega), h.2.2.2⟩
theorem FrK.tr {S T U : GS} (h : FrK S T) (h2 : FrK T U) : FrK S U := ⟨fun o a b => (h2.1 o a b).trans (h.1 o a b), fun i a b c => (h2.2.1 i a b c).trans (h.2.1 i a b c), fun i a b => (h2.2.2.1 i a b).trans (h.2.2.1 i a b), h2.2.2.2.trans h.2.2.2⟩
theorem FrK.t {S : GS} {v : Int32} : FrK S (stI S 178 3 v) := ⟨fun o a b => stI_no a, fun i a b c => stI_ni a, fun i _ _ => by rw [stI_no (by decide)], rfl⟩
theorem FrK.of {S T : GS} (h : Fr om S T) (h2 : ∀ i, 293 ≤ i → i < 586 → T.1 179 i = S.1 179 i) : FrK S T := ⟨fun o _ b => h.1 o b, fun i _ _ _ => by rw [h.1 178 (by decide)], h2, h.2⟩
theorem IM_lo {S T : GS} {b : B3} (h : IM S b) (hO : OkB b) (f : ∀ i, i < 293 → T.1 179 i = S.1 179 i) : IM T b := ⟨HW_of h.1 hO.1 (fun i _ a => f i (by omega)), HU_of h.2 hO.2.1 (fun i _ a => f i (by omega))⟩
def Z44 (S T : GS) (i : Nat) : Prop := (∀ j, j < i → T.1 179 (630 + j) = nI 0) ∧ (∀ j, j < 630 → T.1 179 j = S.1 179 j) ∧ (∀ o, o ≠ 179 → T.1 o = S.1 o) ∧ T.2 = S.2
theorem Z44_0 {S : GS} : Z44 S S 0 := ⟨fun j h => absurd h (Nat.not_lt_zero _), fun _ _ => rfl, fun _ _ => rfl, rfl⟩
theorem Z44_s {S T : GS} {i : Nat} (h : Z44 S T i) : Z44 S (stI T 179 (630 + i) (nI 0)) (i + 1) := by
  refine ⟨fun j hj => ?_, fun j hj => ?_, fun o ho => ?_, h.2.2.2⟩
  · by_cases c : j = i
    · subst c
      exact stI_me _ _ _ _
    · rw [stI_ni (by omega)]
      exact h.1 j (by omega)
  · rw [stI_ni (by omega)]
    exact h.2.1 j hj
  · rw [stI_no ho]
    exact h.2.2.1 o ho
theorem HW_0 {S T : GS} {d : Nat} (h : Z44 S T 44) (h3 : S.1 179 3 = nI d) : HW ((stI T 179 633 (T.1 179 3)).1 179) 630 (vs vz 0 4 d) := by
  have e0 : vs vz 0 4 d 0 0 = 0 := vs_00
  have e1 : vs vz 0 4 d 0 1 = 0 := vs_01
  refine ⟨⟨?_, ?_, ?_, ?_, ?_⟩, fun m hm => absurd hm (by rw [e0]; omega), fun k hk => absurd hk (by rw [e1]; omega)⟩
  · rw [stI_ni (by decide), vs_no (by omega)]; exact h.1 0 (by decide)
  · rw [stI_ni (by decide), vs_no (by omega)]; exact h.1 1 (by decide)
  · rw [stI_ni (by decide), vs_no (by omega)]; exact h.1 2 (by decide)
  · rw [vs_me, ← h3, ← h.2.1 3 (by decide)]; exact stI_me _ _ _ _
  · rw [stI_ni (by decide), vs_no (by omega)]; exact h.1 4 (by decide)
theorem Z44_R {S T : GS} {v w : Int32} {j : Nat} (h : Z44 S T 44) (hj : 630 ≤ j) : FrR S (stI (stI T 179 j v) 178 7 w) := ⟨fun o a b => by rw [stI_no a, stI_no b]; exact h.2.2.1 o b, fun i a b => by rw [stI_ni a, stI_no (by decide), h.2.2.1 178 (by decide)], fun i a => by rw [stI_no (by decide), stI_ni (by omega)]; exact h.2.1 i a, h.2.2.2⟩
theorem TM_0 {S T : GS} {t : TX} {v : Int32} {j : Nat} (h : Z44 S T 44) (hX : XM S t) : TM (stI (stI T 179 j v) 178 7 (nI 0)) t.1 t.2 0 := ⟨by rw [stI_ni (by decide), stI_no (by decide), h.2.2.1 178 (by decide)]; exact hX.1, stI_me _ _ _ _, fun i hi => by rw [stI_no (by decide), stI_no (by decide), h.2.2.1 180 (by decide)]; exact hX.2 i hi, Nat.zero_le _⟩

set_option maxRecDepth 20000 in
theorem fl_X8_rock_7 : FL RX8 wsX8_rock 7 8 0 := ⟨RX8, TX8, 15, rfl, (fun w h => List.mem_cons_of_mem _ (List.mem_append_right _ h)), by decide, by decide +kernel⟩
set_option maxHeartbeats 4000000 in
set_option maxRecDepth 100000 in
theorem lp_X8_rock {X : CX} {S : GS} (C : Cx X cX8_rock RX8 wsX8_rock 6) : ∀ (n : Nat) (i : Nat) (T : GS) , i + n = 44 → Z44 S T i → (∀ T, Z44 S T 44 → Zj X T [some (.ref (ad (xY X) 178)), some (.int (nI (44)))] 25 []) → Zj X T [some (.ref (ad (xY X) 178)), some (.int (nI (i)))] 2 [] := by
  intro n
  induction n with
  | zero =>
    intro i T hi hZ kk
    obtain rfl : i = 44 := by omega
    refine z_iload1 C dX8_rock_2 ?_
    refine z_bipush (v := nI 44) C dX8_rock_3 (by decide) ?_
    refine z_icmp_geN C 25 dX8_rock_5 (by decide) (by omega) (by omega) (fun c5 => ?_) (fun c5 => ?_)
    · exact kk T hZ
    · exact absurd c5 (by omega)
  | succ n ih =>
    intro i T hi hZ kk
    refine z_iload1 C dX8_rock_2 ?_
    refine z_bipush (v := nI 44) C dX8_rock_3 (by decide) ?_
    refine z_icmp_geN C 25 dX8_rock_5 (by decide) (by omega) (by omega) (fun c5 => ?_) (fun c5 => ?_)
    · exact absurd c5 (by omega)
    · refine z_aload0 C dX8_rock_8 ?_
      refine z_get C dX8_rock_9 fl_X8_rock_7 (k_Model _) rfl ?_
      refine z_sipush (v := nI 630) C dX8_rock_12 (by decide) ?_
      refine z_iload1 C dX8_rock_15 ?_
      refine z_iaddN C dX8_rock_16 ?_
      refine z_iconstN 0 C dX8_rock_17 ?_
      refine z_iast C dX8_rock_18 (k_i179 _) (by omega) ?_
      refine z_iinc1 C dX8_rock_19 (inc1 _) nl_r ?_
      refine z_goto C 2 dX8_rock_22 (by decide) ?_
      exact ih (i + 1) _ (by omega) (Z44_s hZ) kk

set_option maxRecDepth 20000 in
theorem fl_X8_rock_89 : FL RX8 wsX8_rock 89 8 7 := ⟨RX8, TX8, 15, rfl, (fun w h => List.mem_cons_of_mem _ (List.mem_append_right _ h)), by decide, by decide +kernel⟩
theorem fp_X8_rock_89 : FP RX8 wsX8_rock 89 8 7 .int := ⟨fl_X8_rock_89, RX8, TX8, 15, tyX8, rfl, tyX8_ok, nmX8, rfl, by decide +kernel⟩
theorem md_X8_takesRock : MD yX8_takesRock wsX8_takesRock 0 1 (some .boolean) := ⟨_, _, rfl, by decide, by decide +kernel, by decide +kernel, by decide +kernel⟩
set_option maxRecDepth 20000 in
theorem fl_X8_rock_85 : FL RX8 wsX8_rock 85 8 3 := ⟨RX8, TX8, 15, rfl, (fun w h => List.mem_cons_of_mem _ (List.mem_append_right _ h)), by decide, by decide +kernel⟩
theorem fp_X8_rock_85 : FP RX8 wsX8_rock 85 8 3 .int := ⟨fl_X8_rock_85, RX8, TX8, 15, tyX8, rfl, tyX8_ok, nmX8, rfl, by decide +kernel⟩
set_option maxHeartbeats 4000000 in
set_option maxRecDepth 100000 in
theorem c_X8_rock {l : Launch} {Y : LY} {S : GS} {b : B3} (hI : IM S b) (hO : OkB b) {t : TX} (hX : XM S t) (hx : TxOk t.1 t.2) : CtP l yX8_rock wsX8_rock 6 Y [.ref (ad Y 178)] S (fun r u => r = (aRock b t).1 ∧ IM u (aRock b t).2 ∧ u.1 178 3 = nI 0 ∧ FrK S u) := by
  refine mkP (cc := cX8_rock) (maxL := 2) rfl rfl (Nat.le_of_ble_eq_true rfl) ?_
  intro X hl hY C hr
  subst hl
  subst hY
  have x90 := hx.1
  show Zj X S [some (.ref (ad (xY X) 178)), none] 0 []
  refine z_iconstN 0 C dX8_rock_0 ?_
  refine z_istore1 C dX8_rock_1 nl_r ?_
  refine lp_X8_rock C 44 0 S (by decide) Z44_0 ?_
  intro T0 hZ
  refine z_aload0 C dX8_rock_25 ?_
  refine z_get C dX8_rock_26 fl_X8_rock_7 (k_Model _) rfl ?_
  refine z_sipush (v := nI 633) C dX8_rock_29 (by decide) ?_
  refine z_aload0 C dX8_rock_32 ?_
  refine z_get C dX8_rock_33 fl_X8_rock_7 (k_Model _) rfl ?_
  refine z_iconstN 3 C dX8_rock_36 ?_
  refine z_iald C dX8_rock_37 (k_i179 _) (by omega) ?_
  refine z_iast C dX8_rock_38 (k_i179 _) (by omega) ?_
  refine z_aload0 C dX8_rock_39 ?_
  refine z_iconstN 0 C dX8_rock_40 ?_
  refine z_put C dX8_rock_41 fp_X8_rock_89 (k_Model _) rfl rfl (Nat.le_of_ble_eq_true rfl) rfl ?_
  refine z_genS (P := fun T => TM T t.1 t.2 0 ∧ HW (T.1 179) 630 (vs vz 0 4 (b.1 0 4)) ∧ FrR S T) ⟨TM_0 hZ hX, by rw [stI_no (by decide)]; exact HW_0 hZ hI.1.1.2.2.2.1, Z44_R hZ (by decide)⟩ (fun T1 hT1 => ?_)
  obtain ⟨hP, hW, hf⟩ := hT1
  refine z_aload0 C dX8_rock_44 ?_
  refine z_callVP C dX8_rock_45 (c_X8_takesRock hx hP hW) gX8_rock_X8_takesRock md_X8_takesRock rfl (by decide) (k_Model _) rfl rfl rfl (Nat.le_of_ble_eq_true rfl) ?_
  rintro r0 T2 hE
  rcases hE with ⟨W1, q, e1, rfl, hP, hW, hf2⟩ | ⟨q, e1, rfl, hP, hf2⟩
  · have hf := hf.tr hf2
    refine z_istore1 C dX8_rock_48 nl_r ?_
    refine z_iload1 C dX8_rock_49 ?_
    refine z_if_neT C 58 dX8_rock_50 (by decide) (by decide) ?_
    refine z_aload0 C dX8_rock_58 ?_
    refine z_iconstN 0 C dX8_rock_59 ?_
    refine z_put C dX8_rock_60 fp_X8_rock_85 (k_Model _) rfl rfl (Nat.le_of_ble_eq_true rfl) rfl ?_
    refine z_genS (P := fun T => HW (T.1 179) 630 (vs W1 0 4 (b.1 0 4)) ∧ T.1 178 3 = nI 0 ∧ FrK S T) ⟨by rw [stI_no (by decide)]; exact hW, stI_me _ _ _ _, hf.k.tr FrK.t⟩ (fun T4 hT4 => ?_)
    obtain ⟨hW, h3, hfk⟩ := hT4
    have okW : Ok (vs W1 0 4 (b.1 0 4)) := vs_ok (rkP_ok e1 vz_ok rfl rfl) (Or.inl ⟨rfl, by decide⟩)
    refine z_iload1 C dX8_rock_63 ?_
    refine z_if_neT C 75 dX8_rock_64 (by decide) (by decide) ?_
    refine z_aload0 C dX8_rock_75 ?_
    refine z_sipush (v := nI 630) C dX8_rock_76 (by decide) ?_
    refine z_iconstN 0 C dX8_rock_79 ?_
    refine z_bipush (v := nI 44) C dX8_rock_80 (by decide) ?_
    refine z_callVV C dX8_rock_82 (c_X8_bring (by decide) (by decide)) gX8_rock_X8_bring md_X8_bring rfl (by decide) (k_Model _) rfl rfl rfl (Nat.le_of_ble_eq_true rfl) ?_
    refine z_aload0 C dX8_rock_85 ?_
    refine z_get C dX8_rock_86 fl_X8_rock_7 (k_Model _) rfl ?_
    refine z_bipush (v := nI 44) C dX8_rock_89 (by decide) ?_
    refine z_iconstN 0 C dX8_rock_91 ?_
    refine z_iast C dX8_rock_92 (k_i179 _) (by omega) ?_
    refine z_genS (P := fun T => IM T (vs W1 0 4 (b.1 0 4), b.2.1, 0) ∧ T.1 178 3 = nI 0 ∧ FrK S T) ⟨⟨HW_of (HW_bring (Or.inr (by decide)) hW okW) okW (fun i _ a => stI_ni (by omega)), Nat.zero_le _, stI_me _ _ _ _, fun j (hj : j < 0) => by omega⟩, by rw [stI_no (by decide), mBr_fr.1 178 (by decide)]; exact h3, hfk.tr (FrK.of (mBr_fr.tr Fr.M) (fun i a c => by rw [stI_ni (by omega), mBr_far (by omega)]))⟩ (fun T5 hT5 => ?_)
    obtain ⟨hI2, h3, hfk⟩ := hT5
    refine z_aload0 C dX8_rock_93 ?_
    refine z_get C dX8_rock_94 fl_X8_rock_7 (k_Model _) rfl ?_
    refine z_iconstN 0 C dX8_rock_97 ?_
    refine z_iald C dX8_rock_98 (k_i179 _) (by omega) ?_
    refine z_top C (show T5.1 179 0 = nI (W1 0 0) from hI2.1.1.1.trans (congrArg nI (vs_00 (W := W1) (d := b.1 0 4)))) ?_
    exact z_iretP C dX8_rock_99 hr rfl ⟨by rw [aRock_y e1], by rw [aRock_y e1]; exact hI2, h3, hfk⟩
  · have hf := hf.tr hf2
    have q90 := (rkP_g.1 q e1).1
    refine z_istore1 C dX8_rock_48 nl_r ?_
    refine z_iload1 C dX8_rock_49 ?_
    refine z_if_neF C 58 dX8_rock_50 (by decide) (by decide) ?_
    refine z_aload0 C dX8_rock_53 ?_
    refine z_callVP C dX8_rock_54 (c_X8_peek hx hP) gX8_rock_X8_peek md_X8_peek rfl (by decide) (k_Model _) rfl rfl rfl (Nat.le_of_ble_eq_true rfl) ?_
    rintro _ T3 ⟨rfl, hP, hf3⟩
    rw [(rkP_g.1 q e1).2] at hP
    have hf := hf.tr hf3.r
    refine z_pop C dX8_rock_57 rfl ?_
    refine z_aload0 C dX8_rock_58 ?_
    refine z_iconstN 0 C dX8_rock_59 ?_
    refine z_put C dX8_rock_60 fp_X8_rock_85 (k_Model _) rfl rfl (Nat.le_of_ble_eq_true rfl) rfl ?_
    refine z_genS (P := fun T => T.1 178 7 = nI q ∧ T.1 178 3 = nI 0 ∧ IM T b ∧ FrK S T) ⟨by rw [stI_ni (by decide)]; exact hP.2.1, stI_me _ _ _ _, IM_lo hI hO (fun i a => by rw [stI_no (by decide)]; exact hf.2.2.1 i (by omega)), hf.k.tr FrK.t⟩ (fun T4 hT4 => ?_)
    obtain ⟨h7, h3, hI2, hfk⟩ := hT4
    refine z_iload1 C dX8_rock_63 ?_
    refine z_if_neF C 75 dX8_rock_64 (by decide) (by decide) ?_
    refine z_bipush (v := (-20)) C dX8_rock_67 (by decide) ?_
    refine z_aload0 C dX8_rock_69 ?_
    refine z_get C dX8_rock_70 fl_X8_rock_89 (k_Model _) rfl ?_
    refine z_top C h7 ?_
    refine z_isub C dX8_rock_73 ?_
    exact z_iretP C dX8_rock_74 hr rfl ⟨by rw [aRock_e e1], by rw [aRock_e e1]; exact hI2, h3, hfk⟩
