abbrev prsP (V : VR) (x y z : Int32) : Prop := inR x (V 0 1) ∧ inR y (V 0 0) ∧ inB z 1 60
def aPress (b : B3) (x y z : Int32) : Int32 × B3 := if prsP b.1 x y z then (if vC b.1 x.toNatClampNeg y.toNatClampNeg then (nI (vRN x.toNatClampNeg y.toNatClampNeg z.toNatClampNeg b.1), bPush b (vRT x.toNatClampNeg y.toNatClampNeg z.toNatClampNeg b.1)) else (-2, b)) else (-1, b)
theorem aPress_n {b : B3} {x y z : Int32} (h : ¬ prsP b.1 x y z) : aPress b x y z = (-1, b) := if_neg h
theorem aPress_s {b : B3} {k m n : Nat} (h : prsP b.1 (nI k) (nI m) (nI n)) (hk : k < 5) (hm : m < 6) (hn : n ≤ 60) (hc : ¬ vC b.1 k m) : aPress b (nI k) (nI m) (nI n) = (-2, b) := by
  unfold aPress
  rw [if_pos h, nI_clamp (by omega), nI_clamp (by omega), nI_clamp (by omega), if_neg hc]
theorem aPress_y {b : B3} {k m n : Nat} (h : prsP b.1 (nI k) (nI m) (nI n)) (hk : k < 5) (hm : m < 6) (hn : n ≤ 60) (hc : vC b.1 k m) : aPress b (nI k) (nI m) (nI n) = (nI (vRN k m n b.1), bPush b (vRT k m n b.1)) := by
  unfold aPress
  rw [if_pos h, nI_clamp (by omega), nI_clamp (by omega), nI_clamp (by omega), if_pos hc]
theorem SF_RT {V : VR} {k m n : Nat} : SF V (vRT k m n V) := ⟨(vRT_hd (by decide) n V).symm, (vRT_hd (by decide) n V).symm, fun i _ => (vRT_far (by omega) (by omega) (by omega) (by omega) (by omega) n V).symm, fun i _ => (vRT_far (by omega) (by omega) (by omega) (by omega) (by omega) n V).symm⟩
def aInk (b : B3) (x y : Int32) : Int32 × B3 := if inR x (b.1 0 0) ∧ inB y 1 60 then (if vT b.1 x.toNatClampNeg then (-2, b) else (nI (min 60 (b.1 1 x.toNatClampNeg + y.toNatClampNeg)), bPush b (vs b.1 1 x.toNatClampNeg (min 60 (b.1 1 x.toNatClampNeg + y.toNatClampNeg))))) else (-1, b)
theorem aInk_n {b : B3} {x y : Int32} (h : ¬ (inR x (b.1 0 0) ∧ inB y 1 60)) : aInk b x y = (-1, b) := if_neg h
theorem aInk_s {b : B3} {m n : Nat} (h : inR (nI m) (b.1 0 0) ∧ inB (nI n) 1 60) (hm : m < 6) (hn : n ≤ 60) (hc : vT b.1 m) : aInk b (nI m) (nI n) = (-2, b) := by
  unfold aInk
  rw [if_pos h, nI_clamp (by omega), nI_clamp (by omega), if_pos hc]
theorem aInk_y {b : B3} {m n : Nat} (h : inR (nI m) (b.1 0 0) ∧ inB (nI n) 1 60) (hm : m < 6) (hn : n ≤ 60) (hc : ¬ vT b.1 m) : aInk b (nI m) (nI n) = (nI (min 60 (b.1 1 m + n)), bPush b (vs b.1 1 m (min 60 (b.1 1 m + n)))) := by
  unfold aInk
  rw [if_pos h, nI_clamp (by omega), nI_clamp (by omega), if_neg hc]
theorem mn60 {a : Nat} (h : a < 2 ^ 30) : (if nI a < nI 60 then nI a else nI 60) = nI (min 60 a) := by
  by_cases c : a < 60
  · rw [if_pos (nI_lt c (by decide)), show min 60 a = a by omega]
  · rw [if_neg (nI_nlt (by omega) (by omega)), show min 60 a = 60 by omega]
def aUndo (b : B3) : Int32 × B3 := if b.2.2 = 0 then (-4, b) else (nI (b.2.2 - 1), (b.2.1 (b.2.2 - 1), b.2.1, b.2.2 - 1))
theorem aUndo_0 {b : B3} (h : b.2.2 = 0) : aUndo b = (-4, b) := if_pos h
theorem aUndo_s {b : B3} {n : Nat} (h : b.2.2 = n + 1) : aUndo b = (nI n, (b.2.1 n, b.2.1, n)) := by
  unfold aUndo
  rw [if_neg (by omega), h]
  rfl
def aSeed (b : B3) (x : Int32) : Int32 × B3 := if x < 0 then (-1, b) else (nI (b.1 0 4), (vs b.1 0 4 x.toNatClampNeg, b.2))
theorem aSeed_n {b : B3} {x : Int32} (h : x < 0) : aSeed b x = (-1, b) := if_pos h
theorem aSeed_y {b : B3} {n : Nat} (h : n < 2 ^ 31) : aSeed b (nI n) = (nI (b.1 0 4), (vs b.1 0 4 n, b.2)) := by
  unfold aSeed
  rw [if_neg (nI_pos h), nI_clamp h]

set_option maxRecDepth 20000 in
theorem fl_X7_press_10 : FL RX7 wsX7_press 10 7 0 := ⟨RX7, TX7, 12, rfl, (fun w h => List.mem_cons_of_mem _ (List.mem_append_left _ (List.mem_append_left _ (List.mem_append_right _ h)))), by decide, by decide +kernel⟩
set_option maxRecDepth 20000 in
theorem fl_X7_press_19 : FL RX7 wsX7_press 19 7 1 := ⟨RX7, TX7, 12, rfl, (fun w h => List.mem_cons_of_mem _ (List.mem_append_left _ (List.mem_append_left _ (List.mem_append_right _ h)))), by decide, by decide +kernel⟩
set_option maxHeartbeats 4000000 in
set_option maxRecDepth 100000 in
theorem c_X7_press {l : Launch} {Y : LY} {S : GS} {b : B3} (hI : IC S b) (hO : OkB b) {x y z : Int32} : CtP l yX7_press wsX7_press 6 Y [.ref (ad Y 0), .int x, .int y, .int z] S (fun r u => r = (aPress b x y z).1 ∧ IC u (aPress b x y z).2 ∧ Fr clN S u) := by
  refine mkP (cc := cX7_press) (maxL := 4) rfl rfl (Nat.le_of_ble_eq_true rfl) ?_
  intro X hl hY C hr
  subst hl
  subst hY
  obtain ⟨hC, hk8, od, hod, k1, k2, k3⟩ := id hI
  obtain ⟨ok1, ok2, ok3, ok4, ok5⟩ := id hO
  obtain ⟨w1, w2⟩ := IC_keep hod hk8 k1 k2 k3 hC ok1
  have hM : S.1 26 0 = nI (b.1 0 0) := hC.1 0 (by decide)
  have hK : S.1 26 1 = nI (b.1 0 1) := hC.1 1 (by decide)
  have o1 := ok1.1
  have o2 := ok1.2.1
  show Zj X S [some (.ref (ad (xY X) 0)), some (.int x), some (.int y), some (.int z)] 0 []
  refine z_aload0 C dX7_press_0 ?_
  refine z_iload1 C dX7_press_1 ?_
  refine z_callVI C dX7_press_2 (c_X7_hasMonk hK) gX7_press_X7_hasMonk md_X7_hasMonk rfl (by decide) (k_EM _) rfl rfl rfl (Nat.le_of_ble_eq_true rfl) ?_
  refine z_if_eqB C 26 dX7_press_5 (by decide) (fun c5 => ?_) (fun c5 => ?_)
  · refine z_iconst (v := (-1)) C dX7_press_26 (by decide) ?_
    exact z_iretP C dX7_press_27 hr rfl ⟨by rw [aPress_n (by rintro ⟨h1, h2, h3⟩; contradiction)], by rw [aPress_n (by rintro ⟨h1, h2, h3⟩; contradiction)]; exact hI, Fr.rf⟩
  · refine z_aload0 C dX7_press_8 ?_
    refine z_iload2 C dX7_press_9 ?_
    refine z_callVI C dX7_press_10 (c_X7_hasMark hM) gX7_press_X7_hasMark md_X7_hasMark rfl (by decide) (k_EM _) rfl rfl rfl (Nat.le_of_ble_eq_true rfl) ?_
    refine z_if_eqB C 26 dX7_press_13 (by decide) (fun c13 => ?_) (fun c13 => ?_)
    · refine z_iconst (v := (-1)) C dX7_press_26 (by decide) ?_
      exact z_iretP C dX7_press_27 hr rfl ⟨by rw [aPress_n (by rintro ⟨h1, h2, h3⟩; contradiction)], by rw [aPress_n (by rintro ⟨h1, h2, h3⟩; contradiction)]; exact hI, Fr.rf⟩
    · refine z_iload3 C dX7_press_16 ?_
      refine z_iconstN 1 C dX7_press_17 ?_
      refine z_bipush (v := nI 60) C dX7_press_18 (by decide) ?_
      refine z_callSI C dX7_press_20 c_X7_within gX7_press_X7_within md_X7_within (by decide) rfl rfl (Nat.le_of_ble_eq_true rfl) ?_
      refine z_if_neB C 28 dX7_press_23 (by decide) (fun c23 => ?_) (fun c23 => ?_)
      · obtain ⟨k, hk, rfl⟩ := inR_of (by omega) c5
        obtain ⟨m, hm, rfl⟩ := inR_of (by omega) c13
        obtain ⟨n, -, hn, rfl⟩ := inB_of (by decide) c23 (by decide)
        have hpp : prsP b.1 (nI k) (nI m) (nI n) := ⟨c5, c13, c23⟩
        have hci := rC_iff hC ok1 hk hm
        obtain ⟨q1, q2, q3, q4⟩ := HC_RT (k := k) (m := m) n _ _ w1 ok1 hk hm
        refine z_aload0 C dX7_press_28 ?_
        refine z_get C dX7_press_29 fl_X7_press_10 (k_EM _) rfl ?_
        refine z_iload1 C dX7_press_32 ?_
        refine z_iload2 C dX7_press_33 ?_
        refine z_callVI C dX7_press_34 (c_X2_canRub isR_now (by omega) (by omega)) gX7_press_X2_canRub md_X2_canRub rfl (by decide) (k_Rock _ isR_now) rfl rfl rfl (Nat.le_of_ble_eq_true rfl) ?_
        refine z_if_neB C 43 dX7_press_37 (by decide) (fun c37 => ?_) (fun c37 => ?_)
        · refine z_aload0 C dX7_press_43 ?_
          refine z_get C dX7_press_44 fl_X7_press_19 (k_EM _) rfl ?_
          refine z_aload0 C dX7_press_47 ?_
          refine z_get C dX7_press_48 fl_X7_press_10 (k_EM _) rfl ?_
          refine z_callVV C dX7_press_51 (c_X0_keep hod hk8 k1 k2) gX7_press_X0_keep md_X0_keep rfl (by decide) (k_Known _) rfl rfl rfl (Nat.le_of_ble_eq_true rfl) ?_
          refine z_aload0 C dX7_press_54 ?_
          refine z_get C dX7_press_55 fl_X7_press_10 (k_EM _) rfl ?_
          refine z_iload1 C dX7_press_58 ?_
          refine z_iload2 C dX7_press_59 ?_
          refine z_iload3 C dX7_press_60 ?_
          refine z_callVI C dX7_press_61 (c_X2_rubTimes isR_now (by omega) (by omega) (by omega)) gX7_press_X2_rubTimes md_X2_rubTimes rfl (by decide) (k_Rock _ isR_now) rfl rfl rfl (Nat.le_of_ble_eq_true rfl) ?_
          exact z_iretP C dX7_press_64 hr rfl ⟨by rw [aPress_y hpp (by omega) (by omega) hn (hci.mp c37)]; exact (by rw [q3]), by rw [aPress_y hpp (by omega) (by omega) hn (hci.mp c37)]; exact ⟨q1, HK_fr w2 (cRT_fr n _) (by omega) (fun o q1 q2 q3 => by omega)⟩, (cKp_fr.mono (fun o q => by omega)).tr ((cRT_fr n _).mono (fun o q => by omega))⟩
        · refine z_bipush (v := (-2)) C dX7_press_40 (by decide) ?_
          exact z_iretP C dX7_press_42 hr rfl ⟨by rw [aPress_s hpp (by omega) (by omega) hn (fun z => c37 (hci.mpr z))], by rw [aPress_s hpp (by omega) (by omega) hn (fun z => c37 (hci.mpr z))]; exact hI, Fr.rf⟩
      · refine z_iconst (v := (-1)) C dX7_press_26 (by decide) ?_
        exact z_iretP C dX7_press_27 hr rfl ⟨by rw [aPress_n (by rintro ⟨h1, h2, h3⟩; contradiction)], by rw [aPress_n (by rintro ⟨h1, h2, h3⟩; contradiction)]; exact hI, Fr.rf⟩

set_option maxHeartbeats 4000000 in
set_option maxRecDepth 100000 in
theorem lp_X8_press {X : CX} {k m N : Nat} (hk : k < 5) (hm : m < 6) (hN : N ≤ 60) (C : Cx X cX8_press RX8 wsX8_press 4) : ∀ (n : Nat) (i : Nat) (T : GS), i + n = N → Zj X (mRT 0 k m n T) [some (.ref (ad (xY X) 178)), some (.int (nI (k))), some (.int (nI (m))), some (.int (nI (N))), some (.int (nI (i + mRN 0 k m n T)))] 79 [] → Zj X T [some (.ref (ad (xY X) 178)), some (.int (nI (k))), some (.int (nI (m))), some (.int (nI (N))), some (.int (nI (i)))] 50 [] := by
  intro n
  induction n with
  | zero =>
    intro i T hi kk
    refine z_iload4 C dX8_press_50 ?_
    refine z_iload3 C dX8_press_52 ?_
    refine z_icmp_geN C 79 dX8_press_53 (by decide) (by omega) (by omega) (fun c53 => ?_) (fun c53 => ?_)
    · exact kk
    · exact absurd c53 (by omega)
  | succ n ih =>
    intro i T hi kk
    refine z_iload4 C dX8_press_50 ?_
    refine z_iload3 C dX8_press_52 ?_
    refine z_icmp_geN C 79 dX8_press_53 (by decide) (by omega) (by omega) (fun c53 => ?_) (fun c53 => ?_)
    · exact absurd c53 (by omega)
    · refine z_aload0 C dX8_press_56 ?_
      refine z_iconstN 0 C dX8_press_57 ?_
      refine z_iload1 C dX8_press_58 ?_
      refine z_iload2 C dX8_press_59 ?_
      refine z_callVI C dX8_press_60 (c_X8_canRub (by omega) (by omega) (by omega)) gX8_press_X8_canRub md_X8_canRub rfl (by decide) (k_Model _) rfl rfl rfl (Nat.le_of_ble_eq_true rfl) ?_
      refine z_if_eqB C 79 dX8_press_63 (by decide) (fun c63 => ?_) (fun c63 => ?_)
      · simp only [mRT, mRN, if_neg c63] at kk
        exact kk
      · refine z_aload0 C dX8_press_66 ?_
        refine z_iconstN 0 C dX8_press_67 ?_
        refine z_iload1 C dX8_press_68 ?_
        refine z_iload2 C dX8_press_69 ?_
        refine z_callVV C dX8_press_70 (c_X8_rubs (by omega) (by omega) (by omega)) gX8_press_X8_rubs md_X8_rubs rfl (by decide) (k_Model _) rfl rfl rfl (Nat.le_of_ble_eq_true rfl) ?_
        refine z_iinc4 C dX8_press_73 (inc1 _) nl_i ?_
        refine z_goto C 50 dX8_press_76 (by decide) ?_
        simp only [mRT, mRN, if_pos c63] at kk
        exact ih (i + 1) _ (by omega) (by rw [show i + 1 + mRN 0 k m n (mRub T 0 k m) = i + (mRN 0 k m n (mRub T 0 k m) + 1) by omega]; exact kk)

theorem kl_X8_press_48 : Cond.constantLong RX8 48 (60) ∈ wsX8_press := by decide +kernel
set_option maxHeartbeats 4000000 in
set_option maxRecDepth 100000 in
theorem c_X8_press {l : Launch} {Y : LY} {S : GS} {b : B3} (hI : IM S b) (hO : OkB b) {x y z : Int32} : CtP l yX8_press wsX8_press 4 Y [.ref (ad Y 178), .int x, .int y, .int z] S (fun r u => r = (aPress b x y z).1 ∧ IM u (aPress b x y z).2 ∧ FrN S u) := by
  refine mkP (cc := cX8_press) (maxL := 5) rfl rfl (Nat.le_of_ble_eq_true rfl) ?_
  intro X hl hY C hr
  subst hl
  subst hY
  obtain ⟨ok1, ok2, ok3, ok4, ok5⟩ := id hO
  obtain ⟨w1, w2, w3⟩ := IM_minds hI hO
  have p2 := OkB_push hO
  have hM : S.1 179 0 = nI (b.1 0 0) := hI.1.1.1
  have hK : S.1 179 1 = nI (b.1 0 1) := hI.1.1.2.1
  have ho := ok1
  have o1 := ok1.1
  have o2 := ok1.2.1
  show Zj X S [some (.ref (ad (xY X) 178)), some (.int x), some (.int y), some (.int z), none] 0 []
  refine z_aload0 C dX8_press_0 ?_
  refine z_iload1 C dX8_press_1 ?_
  refine z_callVI C dX8_press_2 (c_X8_isMonk2 ho.2.1 hK) gX8_press_X8_isMonk md_X8_isMonk rfl (by decide) (k_Model _) rfl rfl rfl (Nat.le_of_ble_eq_true rfl) ?_
  refine z_if_eqB C 28 dX8_press_5 (by decide) (fun c5 => ?_) (fun c5 => ?_)
  · refine z_iconst (v := (-1)) C dX8_press_28 (by decide) ?_
    exact z_iretP C dX8_press_29 hr rfl ⟨by rw [aPress_n (by rintro ⟨h1, h2, h3⟩; contradiction)], by rw [aPress_n (by rintro ⟨h1, h2, h3⟩; contradiction)]; exact hI, FrN.rf⟩
  · refine z_aload0 C dX8_press_8 ?_
    refine z_iload2 C dX8_press_9 ?_
    refine z_callVI C dX8_press_10 (c_X8_isMark2 ho.1 hM) gX8_press_X8_isMark md_X8_isMark rfl (by decide) (k_Model _) rfl rfl rfl (Nat.le_of_ble_eq_true rfl) ?_
    refine z_if_eqB C 28 dX8_press_13 (by decide) (fun c13 => ?_) (fun c13 => ?_)
    · refine z_iconst (v := (-1)) C dX8_press_28 (by decide) ?_
      exact z_iretP C dX8_press_29 hr rfl ⟨by rw [aPress_n (by rintro ⟨h1, h2, h3⟩; contradiction)], by rw [aPress_n (by rintro ⟨h1, h2, h3⟩; contradiction)]; exact hI, FrN.rf⟩
    · refine z_iload3 C dX8_press_16 ?_
      refine z_i2l C dX8_press_17 ?_
      refine z_lconst (v := 1) C dX8_press_18 rfl ?_
      refine z_topl (y := (nI 1).toInt64) C (by decide) ?_
      refine z_ldc2 (v := 60) C dX8_press_19 kl_X8_press_48 ?_
      refine z_topl (y := (nI 60).toInt64) C (by decide) ?_
      refine z_callSI C dX8_press_22 c_X8_in gX8_press_X8_in md_X8_in (by decide) rfl rfl (Nat.le_of_ble_eq_true rfl) ?_
      refine z_if_neB C 30 dX8_press_25 (by decide) (fun c25 => ?_) (fun c25 => ?_)
      · obtain ⟨k, hk, rfl⟩ := inR_of (by omega) c5
        obtain ⟨m, hm, rfl⟩ := inR_of (by omega) c13
        obtain ⟨n, -, hn, rfl⟩ := inB_of (by decide) c25 (by decide)
        have hpp : prsP b.1 (nI k) (nI m) (nI n) := ⟨c5, c13, c25⟩
        have hci := mC_iff hI.1 ok1 hk hm
        obtain ⟨q1, q2, q3⟩ := HW_RT (k := k) (m := m) n _ _ w1 ok1 hk hm
        refine z_aload0 C dX8_press_30 ?_
        refine z_iconstN 0 C dX8_press_31 ?_
        refine z_iload1 C dX8_press_32 ?_
        refine z_iload2 C dX8_press_33 ?_
        refine z_callVI C dX8_press_34 (c_X8_canRub (by omega) (by omega) (by omega)) gX8_press_X8_canRub md_X8_canRub rfl (by decide) (k_Model _) rfl rfl rfl (Nat.le_of_ble_eq_true rfl) ?_
        refine z_if_neB C 43 dX8_press_37 (by decide) (fun c37 => ?_) (fun c37 => ?_)
        · refine z_aload0 C dX8_press_43 ?_
          refine z_callVV C dX8_press_44 (c_X8_minds ok5 hI.2.2.1) gX8_press_X8_minds md_X8_minds rfl (by decide) (k_Model _) rfl rfl rfl (Nat.le_of_ble_eq_true rfl) ?_
          refine z_iconstN 0 C dX8_press_47 ?_
          refine z_istore4 C dX8_press_48 nl_i ?_
          refine lp_X8_press (by omega) (by omega) hn C n 0 _ (by omega) ?_
          rw [Nat.zero_add]
          refine z_iload4 C dX8_press_79 ?_
          exact z_iretP C dX8_press_81 hr rfl ⟨by rw [aPress_y hpp (by omega) (by omega) hn (hci.mp c37)]; exact (by rw [q3]), by rw [aPress_y hpp (by omega) (by omega) hn (hci.mp c37)]; exact ⟨q1, HU_ok w2 p2 (fun i z1 z2 => mRT_far (by omega) (by omega) (by omega) n _)⟩, w3.tr (FrN.of (mRT_fr n _) (fun i z1 z2 => mRT_far (by omega) (by omega) (by omega) n _))⟩
        · refine z_bipush (v := (-2)) C dX8_press_40 (by decide) ?_
          exact z_iretP C dX8_press_42 hr rfl ⟨by rw [aPress_s hpp (by omega) (by omega) hn (fun z => c37 (hci.mpr z))], by rw [aPress_s hpp (by omega) (by omega) hn (fun z => c37 (hci.mpr z))]; exact hI, FrN.rf⟩
      · refine z_iconst (v := (-1)) C dX8_press_28 (by decide) ?_
        exact z_iretP C dX8_press_29 hr rfl ⟨by rw [aPress_n (by rintro ⟨h1, h2, h3⟩; contradiction)], by rw [aPress_n (by rintro ⟨h1, h2, h3⟩; contradiction)]; exact hI, FrN.rf⟩

set_option maxRecDepth 20000 in
theorem fl_X7_ink_10 : FL RX7 wsX7_ink 10 7 0 := ⟨RX7, TX7, 12, rfl, (fun w h => List.mem_cons_of_mem _ (List.mem_append_left _ (List.mem_append_left _ (List.mem_append_right _ h)))), by decide, by decide +kernel⟩
set_option maxRecDepth 20000 in
theorem fl_X7_ink_19 : FL RX7 wsX7_ink 19 7 1 := ⟨RX7, TX7, 12, rfl, (fun w h => List.mem_cons_of_mem _ (List.mem_append_left _ (List.mem_append_left _ (List.mem_append_right _ h)))), by decide, by decide +kernel⟩
set_option maxRecDepth 20000 in
theorem fl_X7_ink_96 : FL RX7 wsX7_ink 96 2 5 := ⟨RX2, TX2, 12, rfl, (fun w h => List.mem_cons_of_mem _ (List.mem_append_left _ (List.mem_append_right _ h))), by decide, by decide +kernel⟩
theorem mm_X7_ink_181 : Cond.methodLink RX7 181 Lib.Math.min.name ∈ wsX7_ink ∧ Cond.static Lib.Math.min.name ∈ wsX7_ink ∧ Cond.initialized "java/lang/Math" ∈ wsX7_ink ∧ Cond.code Lib.Math.min.name Lib.Math.min.code 2 (some .int) ∈ wsX7_ink := by decide +kernel
set_option maxHeartbeats 4000000 in
set_option maxRecDepth 100000 in
theorem c_X7_ink {l : Launch} {Y : LY} {S : GS} {b : B3} (hI : IC S b) (hO : OkB b) {x y : Int32} : CtP l yX7_ink wsX7_ink 6 Y [.ref (ad Y 0), .int x, .int y] S (fun r u => r = (aInk b x y).1 ∧ IC u (aInk b x y).2 ∧ Fr clN S u) := by
  refine mkP (cc := cX7_ink) (maxL := 3) rfl rfl (Nat.le_of_ble_eq_true rfl) ?_
  intro X hl hY C hr
  subst hl
  subst hY
  obtain ⟨hC, hk8, od, hod, k1, k2, k3⟩ := id hI
  obtain ⟨ok1, ok2, ok3, ok4, ok5⟩ := id hO
  obtain ⟨w1, w2⟩ := IC_keep hod hk8 k1 k2 k3 hC ok1
  have hM : S.1 26 0 = nI (b.1 0 0) := hC.1 0 (by decide)
  have hK : S.1 26 1 = nI (b.1 0 1) := hC.1 1 (by decide)
  have o1 := ok1.1
  have o2 := ok1.2.1
  show Zj X S [some (.ref (ad (xY X) 0)), some (.int x), some (.int y)] 0 []
  refine z_aload0 C dX7_ink_0 ?_
  refine z_iload1 C dX7_ink_1 ?_
  refine z_callVI C dX7_ink_2 (c_X7_hasMark hM) gX7_ink_X7_hasMark md_X7_hasMark rfl (by decide) (k_EM _) rfl rfl rfl (Nat.le_of_ble_eq_true rfl) ?_
  refine z_if_eqB C 18 dX7_ink_5 (by decide) (fun c5 => ?_) (fun c5 => ?_)
  · refine z_iconst (v := (-1)) C dX7_ink_18 (by decide) ?_
    exact z_iretP C dX7_ink_19 hr rfl ⟨by rw [aInk_n (by rintro ⟨h1, h2⟩; contradiction)], by rw [aInk_n (by rintro ⟨h1, h2⟩; contradiction)]; exact hI, Fr.rf⟩
  · refine z_iload2 C dX7_ink_8 ?_
    refine z_iconstN 1 C dX7_ink_9 ?_
    refine z_bipush (v := nI 60) C dX7_ink_10 (by decide) ?_
    refine z_callSI C dX7_ink_12 c_X7_within gX7_ink_X7_within md_X7_within (by decide) rfl rfl (Nat.le_of_ble_eq_true rfl) ?_
    refine z_if_neB C 20 dX7_ink_15 (by decide) (fun c15 => ?_) (fun c15 => ?_)
    · obtain ⟨m, hm, rfl⟩ := inR_of (by omega) c5
      obtain ⟨n, -, hn, rfl⟩ := inB_of (by decide) c15 (by decide)
      have hpp : inR (nI m) (b.1 0 0) ∧ inB (nI n) 1 60 := ⟨c5, c15⟩
      have hdk := (ok1.2.2.1 m hm).1
      have hci := rT_iff hC ok1 hm
      refine z_aload0 C dX7_ink_20 ?_
      refine z_get C dX7_ink_21 fl_X7_ink_10 (k_EM _) rfl ?_
      refine z_iload1 C dX7_ink_24 ?_
      refine z_callVI C dX7_ink_25 (c_X2_isTorn isR_now (by omega)) gX7_ink_X2_isTorn md_X2_isTorn rfl (by decide) (k_Rock _ isR_now) rfl rfl rfl (Nat.le_of_ble_eq_true rfl) ?_
      refine z_if_eqB C 34 dX7_ink_28 (by decide) (fun c28 => ?_) (fun c28 => ?_)
      · refine z_aload0 C dX7_ink_34 ?_
        refine z_get C dX7_ink_35 fl_X7_ink_19 (k_EM _) rfl ?_
        refine z_aload0 C dX7_ink_38 ?_
        refine z_get C dX7_ink_39 fl_X7_ink_10 (k_EM _) rfl ?_
        refine z_callVV C dX7_ink_42 (c_X0_keep hod hk8 k1 k2) gX7_ink_X0_keep md_X0_keep rfl (by decide) (k_Known _) rfl rfl rfl (Nat.le_of_ble_eq_true rfl) ?_
        refine z_aload0 C dX7_ink_45 ?_
        refine z_get C dX7_ink_46 fl_X7_ink_10 (k_EM _) rfl ?_
        refine z_get C dX7_ink_49 fl_X7_ink_96 (k_Rock _ isR_now) rfl ?_
        refine z_iload1 C dX7_ink_52 ?_
        refine z_bipush (v := nI 60) C dX7_ink_53 (by decide) ?_
        refine z_aload0 C dX7_ink_55 ?_
        refine z_get C dX7_ink_56 fl_X7_ink_10 (k_EM _) rfl ?_
        refine z_get C dX7_ink_59 fl_X7_ink_96 (k_Rock _ isR_now) rfl ?_
        refine z_iload1 C dX7_ink_62 ?_
        refine z_iald C dX7_ink_63 (k_dark _ isR_now) (by omega) ?_
        refine z_top C (w1.2.1 m hm).1 ?_
        refine z_iload2 C dX7_ink_64 ?_
        refine z_iaddN C dX7_ink_65 ?_
        refine z_mmin C dX7_ink_66 mm_X7_ink_181.1 mm_X7_ink_181.2.1 mm_X7_ink_181.2.2.1 mm_X7_ink_181.2.2.2 (by decide) (Nat.le_of_ble_eq_true rfl) ?_
        refine z_top C (mn60 (by omega)) ?_
        refine z_iast C dX7_ink_69 (k_dark _ isR_now) (by omega) ?_
        refine z_aload0 C dX7_ink_70 ?_
        refine z_get C dX7_ink_71 fl_X7_ink_10 (k_EM _) rfl ?_
        refine z_get C dX7_ink_74 fl_X7_ink_96 (k_Rock _ isR_now) rfl ?_
        refine z_iload1 C dX7_ink_77 ?_
        refine z_iald C dX7_ink_78 (k_dark _ isR_now) (by omega) ?_
        exact z_iretP C dX7_ink_79 hr rfl ⟨by rw [aInk_y hpp (by omega) hn (fun z => c28 (hci.mpr z))]; exact stI_me _ _ _ _, by rw [aInk_y hpp (by omega) hn (fun z => c28 (hci.mpr z))]; exact ⟨HC_set (f := 1) (by decide) rfl (fun z => by omega) w1, HK_fr w2 (Fr.I (P := fun o => o = 27) rfl) (by omega) (fun o q1 q2 q3 => by omega)⟩, (cKp_fr.mono (fun o q => by omega)).tr (Fr.I (by omega))⟩
      · refine z_bipush (v := (-2)) C dX7_ink_31 (by decide) ?_
        exact z_iretP C dX7_ink_33 hr rfl ⟨by rw [aInk_s hpp (by omega) hn (hci.mp c28)], by rw [aInk_s hpp (by omega) hn (hci.mp c28)]; exact hI, Fr.rf⟩
    · refine z_iconst (v := (-1)) C dX7_ink_18 (by decide) ?_
      exact z_iretP C dX7_ink_19 hr rfl ⟨by rw [aInk_n (by rintro ⟨h1, h2⟩; contradiction)], by rw [aInk_n (by rintro ⟨h1, h2⟩; contradiction)]; exact hI, Fr.rf⟩

theorem kl_X8_ink_48 : Cond.constantLong RX8 48 (60) ∈ wsX8_ink := by decide +kernel
set_option maxRecDepth 20000 in
theorem fl_X8_ink_7 : FL RX8 wsX8_ink 7 8 0 := ⟨RX8, TX8, 15, rfl, (fun w h => List.mem_cons_of_mem _ (List.mem_append_right _ h)), by decide, by decide +kernel⟩
set_option maxHeartbeats 4000000 in
set_option maxRecDepth 100000 in
theorem c_X8_ink {l : Launch} {Y : LY} {S : GS} {b : B3} (hI : IM S b) (hO : OkB b) {x y : Int32} : CtP l yX8_ink wsX8_ink 4 Y [.ref (ad Y 178), .int x, .int y] S (fun r u => r = (aInk b x y).1 ∧ IM u (aInk b x y).2 ∧ FrN S u) := by
  refine mkP (cc := cX8_ink) (maxL := 3) rfl rfl (Nat.le_of_ble_eq_true rfl) ?_
  intro X hl hY C hr
  subst hl
  subst hY
  obtain ⟨ok1, ok2, ok3, ok4, ok5⟩ := id hO
  obtain ⟨w1, w2, w3⟩ := IM_minds hI hO
  have p2 := OkB_push hO
  have hM : S.1 179 0 = nI (b.1 0 0) := hI.1.1.1
  have hK : S.1 179 1 = nI (b.1 0 1) := hI.1.1.2.1
  have ho := ok1
  have o1 := ok1.1
  have o2 := ok1.2.1
  show Zj X S [some (.ref (ad (xY X) 178)), some (.int x), some (.int y)] 0 []
  refine z_aload0 C dX8_ink_0 ?_
  refine z_iload1 C dX8_ink_1 ?_
  refine z_callVI C dX8_ink_2 (c_X8_isMark2 ho.1 hM) gX8_ink_X8_isMark md_X8_isMark rfl (by decide) (k_Model _) rfl rfl rfl (Nat.le_of_ble_eq_true rfl) ?_
  refine z_if_eqB C 20 dX8_ink_5 (by decide) (fun c5 => ?_) (fun c5 => ?_)
  · refine z_iconst (v := (-1)) C dX8_ink_20 (by decide) ?_
    exact z_iretP C dX8_ink_21 hr rfl ⟨by rw [aInk_n (by rintro ⟨h1, h2⟩; contradiction)], by rw [aInk_n (by rintro ⟨h1, h2⟩; contradiction)]; exact hI, FrN.rf⟩
  · refine z_iload2 C dX8_ink_8 ?_
    refine z_i2l C dX8_ink_9 ?_
    refine z_lconst (v := 1) C dX8_ink_10 rfl ?_
    refine z_topl (y := (nI 1).toInt64) C (by decide) ?_
    refine z_ldc2 (v := 60) C dX8_ink_11 kl_X8_ink_48 ?_
    refine z_topl (y := (nI 60).toInt64) C (by decide) ?_
    refine z_callSI C dX8_ink_14 c_X8_in gX8_ink_X8_in md_X8_in (by decide) rfl rfl (Nat.le_of_ble_eq_true rfl) ?_
    refine z_if_neB C 22 dX8_ink_17 (by decide) (fun c17 => ?_) (fun c17 => ?_)
    · obtain ⟨m, hm, rfl⟩ := inR_of (by omega) c5
      obtain ⟨n, -, hn, rfl⟩ := inB_of (by decide) c17 (by decide)
      have hpp : inR (nI m) (b.1 0 0) ∧ inB (nI n) 1 60 := ⟨c5, c17⟩
      have hdk := (ok1.2.2.1 m hm).1
      have hci := mT_iff hI.1 ok1 hm
      have hdw : (mMi S b.2.2).1 179 (5 + m) = nI (b.1 1 m) := by have q := (w1.2.1 m hm).1; rw [Nat.zero_add] at q; exact q
      refine z_aload0 C dX8_ink_22 ?_
      refine z_iconstN 0 C dX8_ink_23 ?_
      refine z_iload1 C dX8_ink_24 ?_
      refine z_callVI C dX8_ink_25 (c_X8_isTorn (by omega) (by omega)) gX8_ink_X8_isTorn md_X8_isTorn rfl (by decide) (k_Model _) rfl rfl rfl (Nat.le_of_ble_eq_true rfl) ?_
      refine z_if_eqB C 34 dX8_ink_28 (by decide) (fun c28 => ?_) (fun c28 => ?_)
      · refine z_aload0 C dX8_ink_34 ?_
        refine z_callVV C dX8_ink_35 (c_X8_minds ok5 hI.2.2.1) gX8_ink_X8_minds md_X8_minds rfl (by decide) (k_Model _) rfl rfl rfl (Nat.le_of_ble_eq_true rfl) ?_
        refine z_aload0 C dX8_ink_38 ?_
        refine z_get C dX8_ink_39 fl_X8_ink_7 (k_Model _) rfl ?_
        refine z_iconstN 5 C dX8_ink_42 ?_
        refine z_iload1 C dX8_ink_43 ?_
        refine z_iaddN C dX8_ink_44 ?_
        refine z_aload0 C dX8_ink_45 ?_
        refine z_get C dX8_ink_46 fl_X8_ink_7 (k_Model _) rfl ?_
        refine z_iconstN 5 C dX8_ink_49 ?_
        refine z_iload1 C dX8_ink_50 ?_
        refine z_iaddN C dX8_ink_51 ?_
        refine z_iald C dX8_ink_52 (k_i179 _) (by omega) ?_
        refine z_top C hdw ?_
        refine z_iload2 C dX8_ink_53 ?_
        refine z_iaddN C dX8_ink_54 ?_
        refine z_bipush (v := nI 60) C dX8_ink_55 (by decide) ?_
        refine z_icmp_leN C 65 dX8_ink_57 (by decide) (by omega) (by omega) (fun c57 => ?_) (fun c57 => ?_)
        · refine z_aload0 C dX8_ink_65 ?_
          refine z_get C dX8_ink_66 fl_X8_ink_7 (k_Model _) rfl ?_
          refine z_iconstN 5 C dX8_ink_69 ?_
          refine z_iload1 C dX8_ink_70 ?_
          refine z_iaddN C dX8_ink_71 ?_
          refine z_iald C dX8_ink_72 (k_i179 _) (by omega) ?_
          refine z_top C hdw ?_
          refine z_iload2 C dX8_ink_73 ?_
          refine z_iaddN C dX8_ink_74 ?_
          refine z_top (y := nI (min 60 (b.1 1 m + n))) C (by congr 1; omega) ?_
          refine z_iast C dX8_ink_75 (k_i179 _) (by omega) ?_
          refine z_aload0 C dX8_ink_76 ?_
          refine z_get C dX8_ink_77 fl_X8_ink_7 (k_Model _) rfl ?_
          refine z_iconstN 5 C dX8_ink_80 ?_
          refine z_iload1 C dX8_ink_81 ?_
          refine z_iaddN C dX8_ink_82 ?_
          refine z_iald C dX8_ink_83 (k_i179 _) (by omega) ?_
          exact z_iretP C dX8_ink_84 hr rfl ⟨by rw [aInk_y hpp (by omega) hn (fun z => c28 (hci.mpr z))]; exact stI_me _ _ _ _, by rw [aInk_y hpp (by omega) hn (fun z => c28 (hci.mpr z))]; exact ⟨HW_stI (f := 1) ok1 (Or.inr (Or.inl ⟨⟨by decide, by decide⟩, hm⟩)) (by rw [Nat.zero_add]; rfl) rfl (fun z => by omega) w1, HU_ok w2 p2 (fun i q1 q2 => stI_ni (by omega))⟩, w3.tr (FrN.of Fr.M (fun i q1 q2 => stI_ni (by omega)))⟩
        · refine z_bipush (v := nI 60) C dX8_ink_60 (by decide) ?_
          refine z_goto C 75 dX8_ink_62 (by decide) ?_
          refine z_top (y := nI (min 60 (b.1 1 m + n))) C (by congr 1; omega) ?_
          refine z_iast C dX8_ink_75 (k_i179 _) (by omega) ?_
          refine z_aload0 C dX8_ink_76 ?_
          refine z_get C dX8_ink_77 fl_X8_ink_7 (k_Model _) rfl ?_
          refine z_iconstN 5 C dX8_ink_80 ?_
          refine z_iload1 C dX8_ink_81 ?_
          refine z_iaddN C dX8_ink_82 ?_
          refine z_iald C dX8_ink_83 (k_i179 _) (by omega) ?_
          exact z_iretP C dX8_ink_84 hr rfl ⟨by rw [aInk_y hpp (by omega) hn (fun z => c28 (hci.mpr z))]; exact stI_me _ _ _ _, by rw [aInk_y hpp (by omega) hn (fun z => c28 (hci.mpr z))]; exact ⟨HW_stI (f := 1) ok1 (Or.inr (Or.inl ⟨⟨by decide, by decide⟩, hm⟩)) (by rw [Nat.zero_add]; rfl) rfl (fun z => by omega) w1, HU_ok w2 p2 (fun i q1 q2 => stI_ni (by omega))⟩, w3.tr (FrN.of Fr.M (fun i q1 q2 => stI_ni (by omega)))⟩
      · refine z_bipush (v := (-2)) C dX8_ink_31 (by decide) ?_
        exact z_iretP C dX8_ink_33 hr rfl ⟨by rw [aInk_s hpp (by omega) hn (hci.mp c28)], by rw [aInk_s hpp (by omega) hn (hci.mp c28)]; exact hI, FrN.rf⟩
    · refine z_iconst (v := (-1)) C dX8_ink_20 (by decide) ?_
      exact z_iretP C dX8_ink_21 hr rfl ⟨by rw [aInk_n (by rintro ⟨h1, h2⟩; contradiction)], by rw [aInk_n (by rintro ⟨h1, h2⟩; contradiction)]; exact hI, FrN.rf⟩
