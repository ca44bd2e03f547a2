theorem z_callSP {X : CX} {S : GS} {lv : List (Option Value)} {pc : Nat} {st : List Value} {cc : ByteArray} {own : String} {Ts : List Cond} {d : Nat} (C : Cx X cc own Ts d) {y : MethodName} {ws : List Cond} {d1 n maxL index : Nat} {ret : Option FieldType} {As st0 : List Value} {post : Int32 → GS → Prop} (hdg : decode cc pc = .ok (.invokestatic index, 3)) (hM : CtP (xl X) y ws d1 (xY X) As S post) (hg : GoodIn Ts (va_wsS own index y ws)) (hm : MD y ws n maxL ret) (hd : d1 < d) (hn : As.length = n) (hst : st0 = As.reverse ++ st) (hw : (st.map fun v => v.category).sum ≤ 8) (k : ∀ r S0, post r S0 → Zj X S0 lv (pc + 3) (.int r :: st)) : Zj X S lv pc st0 := fun H locs ls hP hS hl => by
  obtain ⟨hx, hb, hml, hown, hts, hK, hA, hf, hlo, hk1, hk2⟩ := id C
  obtain ⟨bytes, ws', e1, e2, e3, e4, e5⟩ := hm
  subst hst
  have hA1 : ∀ q, AY (xY X) q → xA X q := by
    rintro q ⟨o', h1, h2⟩
    rw [h2]
    exact hA o' h1
  refine va_calli (va_runS (As := As) (rest := st) ⟨hx, hb, hml, hown, hts⟩ hM (va_cwS n hts hg e1 rfl rfl ⟨e3, e4, e5⟩ ⟨by show 2 * d1 + 1 ≤ _; omega, by show 8 + (maxL + 11) + 100 * d1 ≤ _; omega⟩) ⟨blind_of, fun U hU hW => ⟨rfl, by rw [hU]; exact hP, va_K.moved hW.alike hK.1, hK.2⟩⟩ rfl hn hl.1.1 rfl (lv_room hw) hdg ⟨hk1, hk2⟩) hS (fun q _ h => hA1 q h) hA1 (fun r u t H1 locs1 ht hvm hw1 hB hz1 hk1 hS1 => ?_)
  exact k r u hw1 H1 locs1 ls (by rw [← ht]; exact hB.1) hS1 hl
theorem vCk_n {m a k : Nat} {U : VR} (h : ¬ (a.testBit k = true ∧ vC U k m)) : vCk m a k U = U := if_neg h
theorem vCk_y {m a k : Nat} {U : VR} (h : a.testBit k = true ∧ vC U k m) : vCk m a k U = vRub U k m := if_pos h
theorem t_b01 : ∀ a : Fin 32, ∀ k : Fin 5, (nI a.1 >>> (nI k.1 &&& 31) &&& nI 1 = 0) ↔ ¬ a.1.testBit k.1 = true := by decide +kernel
theorem b01 {a k : Nat} (ha : a < 32) (hk : k < 5) : (nI a >>> (nI k &&& 31) &&& nI 1 = 0) ↔ ¬ a.testBit k = true := t_b01 ⟨a, ha⟩ ⟨k, hk⟩

theorem nar01 {w : Nat} (h : w ≤ 1) : narrow .boolean (.int (nI w)) = .int (nI w) := by
  rcases (show w = 0 ∨ w = 1 by omega) with rfl | rfl <;> rfl

set_option maxRecDepth 20000 in
theorem fl_X2_crewRubs_40 : FL RX2 wsX2_crewRubs 40 2 1 := ⟨RX2, TX2, 12, rfl, (fun w h => List.mem_cons_of_mem _ (List.mem_append_right _ h)), by decide, by decide +kernel⟩
set_option maxHeartbeats 4000000 in
set_option maxRecDepth 100000 in
theorem lp_X2_crewRubs {X : CX} {S : GS} {V : VR} {m a : Nat} (ho : Ok V) (hm : m < V 0 0) (ha : a < 32) (hr : RtP X .boolean (fun r u => ∃ w : Nat, w ≤ 1 ∧ r = nI w ∧ (w = 0 → vCw m a V = V) ∧ HC u 42 (vCw m a V) ∧ Fr (rk 42) S u)) (C : Cx X cX2_crewRubs RX2 wsX2_crewRubs 4) : ∀ (n : Nat) (k w : Nat) (T : GS) (U : VR), k + n = V 0 1 → HC T 42 U → Ok U → U 0 1 = V 0 1 → U 0 0 = V 0 0 → w ≤ 1 → (w = 0 → U = V) → Fr (rk 42) S T → vCw m a V = foldN (vCk m a) n k U → Zj X T [some (.ref (ad (xY X) 42)), some (.int (nI (a))), some (.int (nI (m))), some (.int (nI (w))), some (.int (nI (k)))] 5 [] := by
  intro n
  induction n with
  | zero =>
    intro k w T U hk h hou hu1 hu0 hw1 hw hf hg
    have o2 := ho.2.1
    have hK : T.1 42 1 = nI (V 0 1) := (h.1 1 (by decide)).trans (by rw [hu1])
    have hg : vCw m a V = U := hg
    refine z_iload4 C dX2_crewRubs_5 ?_
    refine z_aload0 C dX2_crewRubs_7 ?_
    refine z_get C dX2_crewRubs_8 fl_X2_crewRubs_40 (k_Rock _ isR_trial) rfl ?_
    refine z_top C hK ?_
    refine z_icmp_geN C 48 dX2_crewRubs_11 (by decide) (by omega) (by omega) (fun c11 => ?_) (fun c11 => ?_)
    · refine z_iload3 C dX2_crewRubs_48 ?_
      exact z_iretP C dX2_crewRubs_49 hr (nar01 hw1) ⟨w, hw1, rfl, fun z => hg.trans (hw z), by rw [hg]; exact h, hf⟩
    · exact absurd c11 (by omega)
  | succ n ih =>
    intro k w T U hk h hou hu1 hu0 hw1 hw hf hg
    have o1 := ho.1
    have o2 := ho.2.1
    have hK : T.1 42 1 = nI (V 0 1) := (h.1 1 (by decide)).trans (by rw [hu1])
    have hb := b01 (a := a) (k := k) ha (by omega)
    have hc := rC_iff (k := k) (m := m) h hou (by omega) (by omega)
    simp only [foldN] at hg
    refine z_iload4 C dX2_crewRubs_5 ?_
    refine z_aload0 C dX2_crewRubs_7 ?_
    refine z_get C dX2_crewRubs_8 fl_X2_crewRubs_40 (k_Rock _ isR_trial) rfl ?_
    refine z_top C hK ?_
    refine z_icmp_geN C 48 dX2_crewRubs_11 (by decide) (by omega) (by omega) (fun c11 => ?_) (fun c11 => ?_)
    · exact absurd c11 (by omega)
    · refine z_iload1 C dX2_crewRubs_14 ?_
      refine z_iload4 C dX2_crewRubs_15 ?_
      refine z_ishr C dX2_crewRubs_17 ?_
      refine z_iconstN 1 C dX2_crewRubs_18 ?_
      refine z_iand C dX2_crewRubs_19 ?_
      refine z_if_eq C 42 dX2_crewRubs_20 (by decide) (fun c20 => ?_) (fun c20 => ?_)
      · refine z_iinc4 C dX2_crewRubs_42 (inc1 _) nl_i ?_
        refine z_goto C 5 dX2_crewRubs_45 (by decide) ?_
        rw [vCk_n (fun z => hb.mp c20 z.1)] at hg
        exact ih (k + 1) w T U (by omega) h hou hu1 hu0 hw1 hw hf hg
      · refine z_aload0 C dX2_crewRubs_23 ?_
        refine z_iload4 C dX2_crewRubs_24 ?_
        refine z_iload2 C dX2_crewRubs_26 ?_
        refine z_callVI C dX2_crewRubs_27 (c_X2_canRub isR_trial (by omega) (by omega)) gX2_crewRubs_X2_canRub md_X2_canRub rfl (by decide) (k_Rock _ isR_trial) rfl rfl rfl (Nat.le_of_ble_eq_true rfl) ?_
        refine z_if_eqB C 42 dX2_crewRubs_30 (by decide) (fun c30 => ?_) (fun c30 => ?_)
        · refine z_iinc4 C dX2_crewRubs_42 (inc1 _) nl_i ?_
          refine z_goto C 5 dX2_crewRubs_45 (by decide) ?_
          rw [vCk_n (fun z => c30 (hc.mpr z.2))] at hg
          exact ih (k + 1) w T U (by omega) h hou hu1 hu0 hw1 hw hf hg
        · refine z_aload0 C dX2_crewRubs_33 ?_
          refine z_iload4 C dX2_crewRubs_34 ?_
          refine z_iload2 C dX2_crewRubs_36 ?_
          refine z_callVV C dX2_crewRubs_37 (c_X2_rubOnce isR_trial (by omega) (by omega)) gX2_crewRubs_X2_rubOnce md_X2_rubOnce rfl (by decide) (k_Rock _ isR_trial) rfl rfl rfl (Nat.le_of_ble_eq_true rfl) ?_
          refine z_iconstN 1 C dX2_crewRubs_40 ?_
          refine z_istore3 C dX2_crewRubs_41 nl_i ?_
          refine z_iinc4 C dX2_crewRubs_42 (inc1 _) nl_i ?_
          refine z_goto C 5 dX2_crewRubs_45 (by decide) ?_
          rw [vCk_y ⟨Classical.byContradiction (fun z => c20 (hb.mpr z)), hc.mp c30⟩] at hg
          exact ih (k + 1) 1 _ _ (by omega) (HC_rub h hou (by omega) (by omega)) (Ok_rub hou (by omega) (by omega)) (by rw [vRub_hd (by decide)]; exact hu1) (by rw [vRub_hd (by decide)]; exact hu0) (by omega) (fun z => absurd z (by decide)) (hf.tr cRub_fr) hg

set_option maxHeartbeats 4000000 in
set_option maxRecDepth 100000 in
theorem c_X2_crewRubs {l : Launch} {Y : LY} {S : GS} {V : VR} {m a : Nat} (ho : Ok V) (hm : m < V 0 0) (ha : a < 32) (h : HC S 42 V) : CtP l yX2_crewRubs wsX2_crewRubs 4 Y [.ref (ad Y 42), .int (nI a), .int (nI m)] S (fun r u => ∃ w : Nat, w ≤ 1 ∧ r = nI w ∧ (w = 0 → vCw m a V = V) ∧ HC u 42 (vCw m a V) ∧ Fr (rk 42) S u) := by
  refine mkP (cc := cX2_crewRubs) (maxL := 5) rfl rfl (Nat.le_of_ble_eq_true rfl) ?_
  intro X hl hY C hr
  subst hl
  subst hY
  show Zj X S [some (.ref (ad (xY X) 42)), some (.int (nI a)), some (.int (nI m)), none, none] 0 []
  refine z_iconstN 0 C dX2_crewRubs_0 ?_
  refine z_istore3 C dX2_crewRubs_1 nl_i ?_
  refine z_iconstN 0 C dX2_crewRubs_2 ?_
  refine z_istore4 C dX2_crewRubs_3 nl_i ?_
  exact lp_X2_crewRubs ho hm ha hr C (V 0 1) 0 0 S V (by omega) h ho rfl rfl (by omega) (fun _ => rfl) Fr.rf rfl

theorem md_X2_crewRubs : MD yX2_crewRubs wsX2_crewRubs 2 5 (some .boolean) := ⟨_, _, rfl, by decide, by decide +kernel, by decide +kernel, by decide +kernel⟩
set_option maxHeartbeats 4000000 in
set_option maxRecDepth 100000 in
theorem ld_X4_fates {X : CX} {S : GS} {V : VR} {m a N f : Nat} (hm : m < V 0 0) (ha : a < 32) (hN : N ≤ 30) (C : Cx X cX4_fatesOf RX4 wsX4_fatesOf 5) : ∀ (n : Nat) (i w : Nat) (T : GS) (U : VR), i + n = N → HC T 42 U → Ok U → U 0 1 = V 0 1 → U 0 0 = V 0 0 → w ≤ 1 → (w = 0 → vCw m a U = U) → Fr (rk 42) S T → (∀ T' w' i', HC T' 42 (foldN (fun _ U => vCw m a U) n i U) → Fr (rk 42) S T' → Zj X T' [some (.ref (ad (xY X) 26)), some (.ref (ad (xY X) 42)), some (.int (nI (m))), some (.int (nI (N))), some (.int (nI (2 ^ V 0 1))), some (.int (nI (f))), some (.int (nI (a))), some (.int (nI (w'))), some (.int (nI (i')))] 58 []) → Zj X T [some (.ref (ad (xY X) 26)), some (.ref (ad (xY X) 42)), some (.int (nI (m))), some (.int (nI (N))), some (.int (nI (2 ^ V 0 1))), some (.int (nI (f))), some (.int (nI (a))), some (.int (nI (w))), some (.int (nI (i)))] 32 [] := by
  intro n
  induction n with
  | zero =>
    intro i w T U hi h ho hu1 hu0 hw1 hw hf kk
    obtain rfl : i = N := by omega
    refine z_iload8 C dX4_fatesOf_32 ?_
    refine z_iload3 C dX4_fatesOf_34 ?_
    refine z_icmp_geN C 58 dX4_fatesOf_35 (by decide) (by omega) (by omega) (fun c35 => ?_) (fun c35 => ?_)
    · exact kk T w _ h hf
    · exact absurd c35 (by omega)
  | succ n ih =>
    intro i w T U hi h ho hu1 hu0 hw1 hw hf kk
    obtain ⟨v1, v2⟩ := vCw_in (m := m) (a := a) ho (by omega)
    refine z_iload8 C dX4_fatesOf_32 ?_
    refine z_iload3 C dX4_fatesOf_34 ?_
    refine z_icmp_geN C 58 dX4_fatesOf_35 (by decide) (by omega) (by omega) (fun c35 => ?_) (fun c35 => ?_)
    · exact absurd c35 (by omega)
    · refine z_iload7 C dX4_fatesOf_38 ?_
      refine z_if_eqN C 58 dX4_fatesOf_40 (by decide) (by omega) (fun c40 => ?_) (fun c40 => ?_)
      · refine kk T w i ?_ hf
        rw [foldN_fix (f := fun _ U => vCw m a U) (fun _ => hw c40)]
        exact h
      · refine z_aload1 C dX4_fatesOf_43 ?_
        refine z_iload6 C dX4_fatesOf_44 ?_
        refine z_iload2 C dX4_fatesOf_46 ?_
        refine z_callVP C dX4_fatesOf_47 (c_X2_crewRubs ho (show m < U 0 0 by omega) ha h) gX4_fatesOf_X2_crewRubs md_X2_crewRubs rfl (by decide) (k_Rock _ isR_trial) rfl rfl rfl (Nat.le_of_ble_eq_true rfl) ?_
        intro r0 S0 hS0
        obtain ⟨w2, hw2, rfl, hz2, h2, hf2⟩ := hS0
        refine z_istore7 C dX4_fatesOf_50 nl_i ?_
        refine z_iinc8 C dX4_fatesOf_52 (inc1 _) nl_i ?_
        refine z_goto C 32 dX4_fatesOf_55 (by decide) ?_
        refine ih (i + 1) w2 S0 _ (by omega) h2 v1 (by rw [v2 1 (by decide)]; exact hu1) (by rw [v2 0 (by decide)]; exact hu0) hw2 (fun z => by rw [hz2 z]; exact hz2 z) (hf.tr hf2) kk

theorem vCn_in {m a : Nat} {V : VR} (ho : Ok V) (hm : m < V 0 0) (n : Nat) : Ok (vCn m a n V) ∧ vCn m a n V 0 0 = V 0 0 := by
  have : ∀ (n i : Nat) (U : VR), Ok U → m < U 0 0 → Ok (foldN (fun _ U => vCw m a U) n i U) ∧ foldN (fun _ U => vCw m a U) n i U 0 0 = U 0 0 := by
    intro n
    induction n with
    | zero => intro i U h _; exact ⟨h, rfl⟩
    | succ n ih =>
      intro i U h hm
      obtain ⟨v1, v2⟩ := vCw_in (m := m) (a := a) h hm
      obtain ⟨a1, a2⟩ := ih (i + 1) (vCw m a U) v1 (by rw [v2 0 (by decide)]; exact hm)
      exact ⟨a1, a2.trans (v2 0 (by decide))⟩
  exact this n 0 V ho hm
theorem bset_s {P : Nat → Bool} {a : Nat} (h : P a = true) : bset P (a + 1) = bset P a + 2 ^ a := by rw [bset, if_pos h]
theorem bset_sn {P : Nat → Bool} {a : Nat} (h : ¬ P a = true) : bset P (a + 1) = bset P a := by rw [bset, if_neg h, Nat.add_zero]

set_option maxHeartbeats 4000000 in
set_option maxRecDepth 100000 in
theorem lp_X4_fates {X : CX} {S : GS} {V : VR} {m N : Nat} (ho : Ok V) (hm : m < V 0 0) (hN : N ≤ 30) (hn : ∀ T, Fr (rk 42) S T → HC T 26 V) (hr : RtP X .int (fun r u => r = nI (bset (fate V N m) (2 ^ V 0 1)) ∧ Fr (rk 42) S u)) (C : Cx X cX4_fatesOf RX4 wsX4_fatesOf 5) : ∀ (n : Nat) (a : Nat) (T : GS) (x7 x8 : Option Value), a + n = 2 ^ V 0 1 → nl x7 → HC T 26 V → Fr (rk 42) S T → Zj X T [some (.ref (ad (xY X) 26)), some (.ref (ad (xY X) 42)), some (.int (nI (m))), some (.int (nI (N))), some (.int (nI (2 ^ V 0 1))), some (.int (nI (bset (fate V N m) a))), some (.int (nI (a))), x7, x8] 14 [] := by
  intro n
  induction n with
  | zero =>
    intro a T x7 x8 ha hx h hf
    have o2 := ho.2.1
    have n32 : 2 ^ V 0 1 ≤ 32 := Nat.le_trans (Nat.pow_le_pow_right (by decide) o2) (by decide)
    obtain rfl : a = 2 ^ V 0 1 := by omega
    refine z_iload6 C dX4_fatesOf_14 ?_
    refine z_iload4 C dX4_fatesOf_16 ?_
    refine z_icmp_geN C 81 dX4_fatesOf_18 (by decide) (by omega) (by omega) (fun c18 => ?_) (fun c18 => ?_)
    · refine z_iload5 C dX4_fatesOf_81 ?_
      exact z_iretP C dX4_fatesOf_83 hr rfl ⟨rfl, hf⟩
    · exact absurd c18 (by omega)
  | succ n ih =>
    intro a T x7 x8 ha hx h hf
    have o1 := ho.1
    have o2 := ho.2.1
    have n32 : 2 ^ V 0 1 ≤ 32 := Nat.le_trans (Nat.pow_le_pow_right (by decide) o2) (by decide)
    obtain ⟨v1, v2⟩ := vCn_in (a := a) ho hm N
    refine z_iload6 C dX4_fatesOf_14 ?_
    refine z_iload4 C dX4_fatesOf_16 ?_
    refine z_icmp_geN C 81 dX4_fatesOf_18 (by decide) (by omega) (by omega) (fun c18 => ?_) (fun c18 => ?_)
    · exact absurd c18 (by omega)
    · refine z_aload1 C dX4_fatesOf_21 ?_
      refine z_aload0 C dX4_fatesOf_22 ?_
      refine z_callVV C dX4_fatesOf_23 (c_X2_become isR_trial isR_now) gX4_fatesOf_X2_become md_X2_become rfl (by decide) (k_Rock _ isR_trial) rfl rfl rfl (Nat.le_of_ble_eq_true rfl) ?_
      refine z_iconstN 1 C dX4_fatesOf_26 ?_
      refine z_istore7 C dX4_fatesOf_27 nl_i ?_
      refine z_iconstN 0 C dX4_fatesOf_29 ?_
      refine z_istore8 C dX4_fatesOf_30 nl_i ?_
      refine ld_X4_fates hm (by omega) hN C N 0 1 _ V (by omega) (HC_bec dis_tn h ho) ho rfl rfl (by omega) (fun z => absurd z (by decide)) (hf.tr cBec_fr) (fun T2 w2 i2 hU hf2 => ?_)
      refine z_aload1 C dX4_fatesOf_58 ?_
      refine z_iload2 C dX4_fatesOf_59 ?_
      refine z_callVI C dX4_fatesOf_60 (c_X2_isGone isR_trial (by omega)) gX4_fatesOf_X2_isGone md_X2_isGone rfl (by decide) (k_Rock _ isR_trial) rfl rfl rfl (Nat.le_of_ble_eq_true rfl) ?_
      refine z_if_eqB C 75 dX4_fatesOf_63 (by decide) (fun c63 => ?_) (fun c63 => ?_)
      · refine z_iinc6 C dX4_fatesOf_75 (inc1 _) nl_i ?_
        refine z_goto C 14 dX4_fatesOf_78 (by decide) ?_
        rw [← bset_sn (P := fate V N m) (fun z => c63 ((rG_iff (V := vCn m a N V) hU v1 (by rw [v2]; exact hm)).mpr (of_decide_eq_true z)))]
        exact ih (a + 1) _ _ _ (by omega) nl_i (hn T2 hf2) hf2
      · refine z_iload5 C dX4_fatesOf_66 ?_
        refine z_iconstN 1 C dX4_fatesOf_68 ?_
        refine z_iload6 C dX4_fatesOf_69 ?_
        refine z_ishl C dX4_fatesOf_71 ?_
        refine z_ior C dX4_fatesOf_72 ?_
        refine z_top (y := nI (bset (fate V N m) (a + 1))) C (by rw [or_pow (bset_lt _ _) (by omega), bset_s (decide_eq_true ((rG_iff (V := vCn m a N V) hU v1 (by rw [v2]; exact hm)).mp c63))]) ?_
        refine z_istore5 C dX4_fatesOf_73 nl_i ?_
        refine z_iinc6 C dX4_fatesOf_75 (inc1 _) nl_i ?_
        refine z_goto C 14 dX4_fatesOf_78 (by decide) ?_
        exact ih (a + 1) _ _ _ (by omega) nl_i (hn T2 hf2) hf2

set_option maxRecDepth 20000 in
theorem fl_X4_fatesOf_40 : FL RX4 wsX4_fatesOf 40 2 1 := ⟨RX2, TX2, 12, rfl, (fun w h => List.mem_cons_of_mem _ (List.mem_append_right _ h)), by decide, by decide +kernel⟩
set_option maxHeartbeats 4000000 in
set_option maxRecDepth 100000 in
theorem c_X4_fatesOf {l : Launch} {Y : LY} {S : GS} {V : VR} {m N : Nat} (h : HC S 26 V) (ho : Ok V) (hm : m < V 0 0) (hN : N ≤ 30) : CtP l yX4_fatesOf wsX4_fatesOf 5 Y [.ref (ad Y 26), .ref (ad Y 42), .int (nI m), .int (nI N)] S (fun r u => r = nI (bset (fate V N m) (2 ^ V 0 1)) ∧ Fr (rk 42) S u) := by
  refine mkP (cc := cX4_fatesOf) (maxL := 9) rfl rfl (Nat.le_of_ble_eq_true rfl) ?_
  intro X hl hY C hr
  subst hl
  subst hY
  show Zj X S [some (.ref (ad (xY X) 26)), some (.ref (ad (xY X) 42)), some (.int (nI m)), some (.int (nI N)), none, none, none, none, none] 0 []
  refine z_iconstN 1 C dX4_fatesOf_0 ?_
  refine z_aload0 C dX4_fatesOf_1 ?_
  refine z_get C dX4_fatesOf_2 fl_X4_fatesOf_40 (k_Rock _ isR_now) rfl ?_
  refine z_top C (h.1 1 (by decide)) ?_
  refine z_ishl C dX4_fatesOf_5 ?_
  refine z_top C (shl1 (show V 0 1 < 6 by have := ho.2.1; omega)) ?_
  refine z_istore4 C dX4_fatesOf_6 nl_i ?_
  refine z_iconstN 0 C dX4_fatesOf_8 ?_
  refine z_istore5 C dX4_fatesOf_9 nl_i ?_
  refine z_iconstN 0 C dX4_fatesOf_11 ?_
  refine z_istore6 C dX4_fatesOf_12 nl_i ?_
  exact lp_X4_fates ho hm hN (fun T hf => HC_fr h hf (fun o h1 h2 h3 => by have := h3.1; omega)) hr C (2 ^ V 0 1) 0 _ _ _ (by omega) nl_n h Fr.rf
