theorem RepP_0 {s : PS4} {x3 : Int32} {c4 c5 : Nat} (h : RepP s x3 c4 c5) : x3 = -4 ↔ s.1 = 0 := by
  rcases h with ⟨h1, h2, h3, h4⟩ | ⟨h1, h2, h3, h4, h5, h6, h7⟩
  · exact ⟨fun _ => h1, fun _ => h2⟩
  · refine ⟨fun z => ?_, fun z => by omega⟩
    exact absurd (show nI s.2.2.2 < 0 by rw [← h2, z]; decide) (nI_pos (by omega))
theorem RepP_1 {s : PS4} {x3 : Int32} {c4 c5 : Nat} (h : RepP s x3 c4 c5) (h0 : ¬ s.1 = 0) : x3 = nI s.2.2.2 ∧ c4 = s.2.1 ∧ c5 = s.2.2.1 := by
  rcases h with ⟨h1, h2, h3, h4⟩ | ⟨h1, h2, h3, h4, h5, h6, h7⟩
  · exact absurd h1 h0
  · exact ⟨h2, h3, h4⟩
theorem prM_y {V : VR} {m q : Nat} {s : PS4} (h : (q / 10 < V 0 1 ∧ q % 10 < V 0 1) ∧ ¬ q / 10 = q % 10) : prM V m q s = prA V m (q / 10) (q % 10) 61 0 s := if_pos h
theorem prM_n {V : VR} {m q : Nat} {s : PS4} (h : ¬ ((q / 10 < V 0 1 ∧ q % 10 < V 0 1) ∧ ¬ q / 10 = q % 10)) : prM V m q s = s := if_neg h

set_option maxHeartbeats 4000000 in
set_option maxRecDepth 100000 in
theorem lo_X8_pair {X : CX} {S : GS} {V : VR} {y : Int32} {m : Nat} (h : HW (S.1 179) 0 V) (ho : Ok V) (hm : m < V 0 0) (hy : inB y 0 2) (hr : RtP X .int (fun r u => r = aPair V (nI m) y ∧ FrM S u)) (C : Cx X cX8_pair RX8 wsX8_pair 5) : ∀ (n : Nat) (q : Nat) (T : GS) (s : PS4) (x3 : Int32) (c4 c5 : Nat) (x7 x8 x9 x10 x11 x12 x13 : Option Value), q + n = 45 → FrM S T → RepP s x3 c4 c5 → prAll V m = foldN (prM V m) n q s → Zj X T [some (.ref (ad (xY X) 178)), some (.int (nI (m))), some (.int (y)), some (.int (x3)), some (.int (nI (c4))), some (.int (nI (c5))), some (.int (nI (q))), x7, x8, x9, x10, x11, x12, x13] 36 [] := by
  intro n
  induction n with
  | zero =>
    intro q T s x3 c4 c5 x7 x8 x9 x10 x11 x12 x13 hq hf hp hg
    have o1 := ho.1
    refine z_iload6 C dX8_pair_36 ?_
    refine z_bipush (v := nI 45) C dX8_pair_38 (by decide) ?_
    refine z_icmp_geN C 319 dX8_pair_40 (by decide) (by omega) (by omega) (fun c40 => ?_) (fun c40 => ?_)
    · refine z_iload3 C dX8_pair_319 ?_
      refine z_bipush (v := (-4)) C dX8_pair_320 (by decide) ?_
      refine z_icmp_ne C 330 dX8_pair_322 (by decide) (fun c322 => ?_) (fun c322 => ?_)
      · refine z_iload2 C dX8_pair_330 ?_
        refine z_if_ne C 339 dX8_pair_331 (by decide) (fun c331 => ?_) (fun c331 => ?_)
        · refine z_iload2 C dX8_pair_339 ?_
          refine z_iconstN 1 C dX8_pair_340 ?_
          refine z_icmp_ne C 348 dX8_pair_341 (by decide) (fun c341 => ?_) (fun c341 => ?_)
          · refine z_iload5 C dX8_pair_348 ?_
            exact z_iretP C dX8_pair_350 hr rfl ⟨by
        have z0 := RepP_0 hp
        have hg : prAll V m = s := hg
        rw [aPair_y hm o1 hy, nI0, hg]
        first
        | rw [if_pos (z0.mp c322)]
        | (obtain ⟨z1, z2, z3⟩ := RepP_1 hp (fun z => c322 (z0.mpr z))
           rw [if_neg (fun z => c322 (z0.mpr z))]
           first
           | rw [if_pos c331, z2]
           | rw [if_neg c331, if_pos c341, z1]
           | rw [if_neg c331, if_neg c341, z3]), hf⟩
          · refine z_iload3 C dX8_pair_344 ?_
            refine z_goto C 350 dX8_pair_345 (by decide) ?_
            exact z_iretP C dX8_pair_350 hr rfl ⟨by
        have z0 := RepP_0 hp
        have hg : prAll V m = s := hg
        rw [aPair_y hm o1 hy, nI0, hg]
        first
        | rw [if_pos (z0.mp c322)]
        | (obtain ⟨z1, z2, z3⟩ := RepP_1 hp (fun z => c322 (z0.mpr z))
           rw [if_neg (fun z => c322 (z0.mpr z))]
           first
           | rw [if_pos c331, z2]
           | rw [if_neg c331, if_pos c341, z1]
           | rw [if_neg c331, if_neg c341, z3]), hf⟩
        · refine z_iload4 C dX8_pair_334 ?_
          refine z_goto C 350 dX8_pair_336 (by decide) ?_
          exact z_iretP C dX8_pair_350 hr rfl ⟨by
        have z0 := RepP_0 hp
        have hg : prAll V m = s := hg
        rw [aPair_y hm o1 hy, nI0, hg]
        first
        | rw [if_pos (z0.mp c322)]
        | (obtain ⟨z1, z2, z3⟩ := RepP_1 hp (fun z => c322 (z0.mpr z))
           rw [if_neg (fun z => c322 (z0.mpr z))]
           first
           | rw [if_pos c331, z2]
           | rw [if_neg c331, if_pos c341, z1]
           | rw [if_neg c331, if_neg c341, z3]), hf⟩
      · refine z_bipush (v := (-4)) C dX8_pair_325 (by decide) ?_
        refine z_goto C 350 dX8_pair_327 (by decide) ?_
        exact z_iretP C dX8_pair_350 hr rfl ⟨by
        have z0 := RepP_0 hp
        have hg : prAll V m = s := hg
        rw [aPair_y hm o1 hy, nI0, hg]
        first
        | rw [if_pos (z0.mp c322)]
        | (obtain ⟨z1, z2, z3⟩ := RepP_1 hp (fun z => c322 (z0.mpr z))
           rw [if_neg (fun z => c322 (z0.mpr z))]
           first
           | rw [if_pos c331, z2]
           | rw [if_neg c331, if_pos c341, z1]
           | rw [if_neg c331, if_neg c341, z3]), hf⟩
    · exact absurd c40 (by omega)
  | succ n ih =>
    intro q T s x3 c4 c5 x7 x8 x9 x10 x11 x12 x13 hq hf hp hg
    have o1 := ho.1
    have o2 := ho.2.1
    have hK : T.1 179 1 = nI (V 0 1) := (HW_low h ho hf).1.2.1
    refine z_iload6 C dX8_pair_36 ?_
    refine z_bipush (v := nI 45) C dX8_pair_38 (by decide) ?_
    refine z_icmp_geN C 319 dX8_pair_40 (by decide) (by omega) (by omega) (fun c40 => ?_) (fun c40 => ?_)
    · exact absurd c40 (by omega)
    · refine z_iload6 C dX8_pair_43 ?_
      refine z_bipush (v := nI 10) C dX8_pair_45 (by decide) ?_
      refine z_idivN C dX8_pair_47 (by omega) (by decide) (by decide) ?_
      refine z_istore7 C dX8_pair_48 nl_i ?_
      refine z_iload6 C dX8_pair_50 ?_
      refine z_bipush (v := nI 10) C dX8_pair_52 (by decide) ?_
      refine z_iremN C dX8_pair_54 (by omega) (by decide) (by decide) ?_
      refine z_istore8 C dX8_pair_55 nl_i ?_
      refine z_iload7 C dX8_pair_57 ?_
      refine z_aload0 C dX8_pair_59 ?_
      refine z_get C dX8_pair_60 fl_X8_pair_7 (k_Model _) rfl ?_
      refine z_iconstN 1 C dX8_pair_63 ?_
      refine z_iald C dX8_pair_64 (k_i179 _) (by omega) ?_
      refine z_top C hK ?_
      refine z_icmp_geN C 90 dX8_pair_65 (by decide) (by omega) (by omega) (fun c65 => ?_) (fun c65 => ?_)
      · refine z_iconstN 0 C dX8_pair_90 ?_
        refine z_istore9 C dX8_pair_91 nl_i ?_
        refine z_iconstN 0 C dX8_pair_93 ?_
        refine z_istore10 C dX8_pair_94 nl_i ?_
        refine z_iload10 C dX8_pair_96 ?_
        refine z_bipush (v := nI 60) C dX8_pair_98 (by decide) ?_
        refine z_icmp_gt C 313 dX8_pair_100 (by decide) (fun c100 => absurd c100 (by decide)) (fun c100 => ?_)
        refine z_iload9 C dX8_pair_103 ?_
        refine z_if_eqT C 313 dX8_pair_105 (by decide) (by decide) ?_
        refine z_iinc6 C dX8_pair_313 (inc1 _) nl_i ?_
        refine z_goto C 36 dX8_pair_316 (by decide) ?_
        first
        | exact ih (q + 1) _ _ _ _ _ _ _ _ _ _ _ _ (by omega) hf1 hp1 (by rw [← prM_y ⟨⟨c65, c76⟩, c83⟩]; exact hg)
        | exact ih (q + 1) _ _ _ _ _ _ _ _ _ _ _ _ (by omega) hf hp (by rw [← prM_n (V := V) (m := m) (q := q) (s := s) (by omega)]; exact hg)
      · refine z_iload8 C dX8_pair_68 ?_
        refine z_aload0 C dX8_pair_70 ?_
        refine z_get C dX8_pair_71 fl_X8_pair_7 (k_Model _) rfl ?_
        refine z_iconstN 1 C dX8_pair_74 ?_
        refine z_iald C dX8_pair_75 (k_i179 _) (by omega) ?_
        refine z_top C hK ?_
        refine z_icmp_geN C 90 dX8_pair_76 (by decide) (by omega) (by omega) (fun c76 => ?_) (fun c76 => ?_)
        · refine z_iconstN 0 C dX8_pair_90 ?_
          refine z_istore9 C dX8_pair_91 nl_i ?_
          refine z_iconstN 0 C dX8_pair_93 ?_
          refine z_istore10 C dX8_pair_94 nl_i ?_
          refine z_iload10 C dX8_pair_96 ?_
          refine z_bipush (v := nI 60) C dX8_pair_98 (by decide) ?_
          refine z_icmp_gt C 313 dX8_pair_100 (by decide) (fun c100 => absurd c100 (by decide)) (fun c100 => ?_)
          refine z_iload9 C dX8_pair_103 ?_
          refine z_if_eqT C 313 dX8_pair_105 (by decide) (by decide) ?_
          refine z_iinc6 C dX8_pair_313 (inc1 _) nl_i ?_
          refine z_goto C 36 dX8_pair_316 (by decide) ?_
          first
          | exact ih (q + 1) _ _ _ _ _ _ _ _ _ _ _ _ (by omega) hf1 hp1 (by rw [← prM_y ⟨⟨c65, c76⟩, c83⟩]; exact hg)
          | exact ih (q + 1) _ _ _ _ _ _ _ _ _ _ _ _ (by omega) hf hp (by rw [← prM_n (V := V) (m := m) (q := q) (s := s) (by omega)]; exact hg)
        · refine z_iload7 C dX8_pair_79 ?_
          refine z_iload8 C dX8_pair_81 ?_
          refine z_icmp_eqN C 90 dX8_pair_83 (by decide) (by omega) (by omega) (fun c83 => ?_) (fun c83 => ?_)
          · refine z_iconstN 0 C dX8_pair_90 ?_
            refine z_istore9 C dX8_pair_91 nl_i ?_
            refine z_iconstN 0 C dX8_pair_93 ?_
            refine z_istore10 C dX8_pair_94 nl_i ?_
            refine z_iload10 C dX8_pair_96 ?_
            refine z_bipush (v := nI 60) C dX8_pair_98 (by decide) ?_
            refine z_icmp_gt C 313 dX8_pair_100 (by decide) (fun c100 => absurd c100 (by decide)) (fun c100 => ?_)
            refine z_iload9 C dX8_pair_103 ?_
            refine z_if_eqT C 313 dX8_pair_105 (by decide) (by decide) ?_
            refine z_iinc6 C dX8_pair_313 (inc1 _) nl_i ?_
            refine z_goto C 36 dX8_pair_316 (by decide) ?_
            first
            | exact ih (q + 1) _ _ _ _ _ _ _ _ _ _ _ _ (by omega) hf1 hp1 (by rw [← prM_y ⟨⟨c65, c76⟩, c83⟩]; exact hg)
            | exact ih (q + 1) _ _ _ _ _ _ _ _ _ _ _ _ (by omega) hf hp (by rw [← prM_n (V := V) (m := m) (q := q) (s := s) (by omega)]; exact hg)
          · refine z_iconstN 1 C dX8_pair_86 ?_
            refine z_goto C 91 dX8_pair_87 (by decide) ?_
            refine z_istore9 C dX8_pair_91 nl_i ?_
            refine z_iconstN 0 C dX8_pair_93 ?_
            refine z_istore10 C dX8_pair_94 nl_i ?_
            refine la_X8_pair h ho hm c65 c76 c83 (q := q) (by omega) C 61 0 T s x3 c4 c5 _ _ _ (by decide) hf hp (fun T1 x3 c4 c5 x9 x10 x11 x12 x13 hf1 hp1 => ?_)
            refine z_iinc6 C dX8_pair_313 (inc1 _) nl_i ?_
            refine z_goto C 36 dX8_pair_316 (by decide) ?_
            first
            | exact ih (q + 1) _ _ _ _ _ _ _ _ _ _ _ _ (by omega) hf1 hp1 (by rw [← prM_y ⟨⟨c65, c76⟩, c83⟩]; exact hg)
            | exact ih (q + 1) _ _ _ _ _ _ _ _ _ _ _ _ (by omega) hf hp (by rw [← prM_n (V := V) (m := m) (q := q) (s := s) (by omega)]; exact hg)

theorem kl_X8_pair_187 : Cond.constantLong RX8 187 (2) ∈ wsX8_pair := by decide +kernel
theorem kc_X8_pair_206 : Cond.constant RX8 206 (1000000) ∈ wsX8_pair := by decide +kernel
set_option maxHeartbeats 4000000 in
set_option maxRecDepth 100000 in
theorem c_X8_pair {l : Launch} {Y : LY} {S : GS} {V : VR} (h : HW (S.1 179) 0 V) (ho : Ok V) {x y : Int32} : CtP l yX8_pair wsX8_pair 5 Y [.ref (ad Y 178), .int x, .int y] S (fun r u => r = aPair V x y ∧ FrM S u) := by
  refine mkP (cc := cX8_pair) (maxL := 14) rfl rfl (Nat.le_of_ble_eq_true rfl) ?_
  intro X hl hY C hr
  subst hl
  subst hY
  have hM : S.1 179 0 = nI (V 0 0) := h.1.1
  have hK : S.1 179 1 = nI (V 0 1) := h.1.2.1
  have o1 := ho.1
  have o2 := ho.2.1
  show Zj X S [some (.ref (ad (xY X) 178)), some (.int x), some (.int y), none, none, none, none, none, none, none, none, none, none, none] 0 []
  refine z_aload0 C dX8_pair_0 ?_
  refine z_iload1 C dX8_pair_1 ?_
  refine z_callVI C dX8_pair_2 (c_X8_isMark2 ho.1 hM) gX8_pair_X8_isMark md_X8_isMark rfl (by decide) (k_Model _) rfl rfl rfl (Nat.le_of_ble_eq_true rfl) ?_
  refine z_if_eqB C 20 dX8_pair_5 (by decide) (fun c5 => ?_) (fun c5 => ?_)
  · refine z_iconst (v := (-1)) C dX8_pair_20 (by decide) ?_
    exact z_iretP C dX8_pair_21 hr rfl ⟨by rw [aPair_n (by rintro ⟨h1, h2⟩; contradiction)], FrM.rf⟩
  · refine z_iload2 C dX8_pair_8 ?_
    refine z_i2l C dX8_pair_9 ?_
    refine z_lconst (v := 0) C dX8_pair_10 rfl ?_
    refine z_topl (y := (nI 0).toInt64) C (by decide) ?_
    refine z_ldc2 (v := 2) C dX8_pair_11 kl_X8_pair_187 ?_
    refine z_topl (y := (nI 2).toInt64) C (by decide) ?_
    refine z_callSI C dX8_pair_14 c_X8_in gX8_pair_X8_in md_X8_in (by decide) rfl rfl (Nat.le_of_ble_eq_true rfl) ?_
    refine z_if_neB C 22 dX8_pair_17 (by decide) (fun c17 => ?_) (fun c17 => ?_)
    · obtain ⟨m, hm, rfl⟩ := inR_of (by omega) c5
      refine z_bipush (v := (-4)) C dX8_pair_22 (by decide) ?_
      refine z_istore3 C dX8_pair_24 nl_i ?_
      refine z_ldc (v := 1000000) C dX8_pair_25 kc_X8_pair_206 ?_
      refine z_top (y := nI 1000000) C (by decide) ?_
      refine z_istore4 C dX8_pair_27 nl_i ?_
      refine z_ldc (v := 1000000) C dX8_pair_29 kc_X8_pair_206 ?_
      refine z_top (y := nI 1000000) C (by decide) ?_
      refine z_istore5 C dX8_pair_31 nl_i ?_
      refine z_iconstN 0 C dX8_pair_33 ?_
      refine z_istore6 C dX8_pair_34 nl_i ?_
      exact lo_X8_pair h ho hm c17 hr C 45 0 _ (0, 0, 0, 0) _ _ _ _ _ _ _ _ _ _ (by decide) FrM.rf (Or.inl ⟨rfl, rfl, rfl, rfl⟩) (prAll_m o2).symm
    · refine z_iconst (v := (-1)) C dX8_pair_20 (by decide) ?_
      exact z_iretP C dX8_pair_21 hr rfl ⟨by rw [aPair_n (by rintro ⟨h1, h2⟩; contradiction)], FrM.rf⟩
