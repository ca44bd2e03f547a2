theorem md_X2_clear : MD yX2_clear wsX2_clear 0 1 none := ⟨_, _, rfl, by decide, by decide +kernel, by decide +kernel, by decide +kernel⟩
set_option maxRecDepth 20000 in
theorem fl_X6_readRock_24 : FL RX6 wsX6_readRock 24 6 2 := ⟨RX6, TX6, 4, rfl, (fun w h => List.mem_cons_of_mem _ (List.mem_append_left _ (List.mem_append_right _ h))), by decide, by decide +kernel⟩
theorem fp_X6_readRock_24 : FP RX6 wsX6_readRock 24 6 2 .int := ⟨fl_X6_readRock_24, RX6, TX6, 4, tyX6, rfl, tyX6_ok, nmX6, rfl, by decide +kernel⟩
set_option maxRecDepth 20000 in
theorem fl_X6_readRock_27 : FL RX6 wsX6_readRock 27 6 3 := ⟨RX6, TX6, 4, rfl, (fun w h => List.mem_cons_of_mem _ (List.mem_append_left _ (List.mem_append_right _ h))), by decide, by decide +kernel⟩
theorem fp_X6_readRock_27 : FP RX6 wsX6_readRock 27 6 3 .int := ⟨fl_X6_readRock_27, RX6, TX6, 4, tyX6, rfl, tyX6_ok, nmX6, rfl, by decide +kernel⟩
theorem md_X6_readMarks : MD yX6_readMarks wsX6_readMarks 1 4 (some .boolean) := ⟨_, _, rfl, by decide, by decide +kernel, by decide +kernel, by decide +kernel⟩
theorem md_X6_readMonks : MD yX6_readMonks wsX6_readMonks 1 4 (some .boolean) := ⟨_, _, rfl, by decide, by decide +kernel, by decide +kernel, by decide +kernel⟩
set_option maxHeartbeats 4000000 in
set_option maxRecDepth 100000 in
theorem c_X6_readRock {l : Launch} {Y : LY} {a b : Nat} {S : GS} {tx : Nat → Nat} {N : Nat} (hx : TxOk tx N) (h1 : S.1 11 1 = nI N) (h2 : ∀ i, i < N → S.1 12 i = nI (tx i)) {dd : Nat} (hdd : S.1 42 4 = nI dd) : CtK l yX6_readRock wsX6_readRock 7 Y a b [.ref (ad Y 11), .ref (ad Y 42)] S (fun r u => (∃ W1 q, rkP tx N vz = .ok (W1, q) ∧ r = -1 ∧ HC u 42 (vs W1 0 4 dd) ∧ Fr F12 S u) ∨ (∃ q, rkP tx N vz = .error q ∧ r = nI q ∧ Fr F12 S u)) := by
  refine mkK (cc := cX6_readRock) (maxL := 2) rfl rfl (Nat.le_of_ble_eq_true rfl) ?_
  intro X hl hY C hr hk
  subst hl
  subst hY
  have x90 := hx.1
  show Zj X S [some (.ref (ad (xY X) 11)), some (.ref (ad (xY X) 42))] 0 []
  refine z_aload1 C dX6_readRock_0 ?_
  refine z_callVV C dX6_readRock_1 (c_X2_clear isR_trial) gX6_readRock_X2_clear md_X2_clear rfl (by decide) (k_Rock _ isR_trial) rfl rfl rfl (Nat.le_of_ble_eq_true rfl) ?_
  refine z_aload0 C dX6_readRock_4 ?_
  refine z_iconstN 0 C dX6_readRock_5 ?_
  refine z_put C dX6_readRock_6 fp_X6_readRock_24 (k_Tape _) rfl rfl (Nat.le_of_ble_eq_true rfl) rfl ?_
  refine z_aload0 C dX6_readRock_9 ?_
  refine z_iconst (v := (-1)) C dX6_readRock_10 (by decide) ?_
  refine z_put C dX6_readRock_11 fp_X6_readRock_27 (k_Tape _) rfl rfl (Nat.le_of_ble_eq_true rfl) rfl ?_
  refine z_genS (P := fun T => TP T tx N 0 ∧ HC T 42 (vs vz 0 4 dd) ∧ Fr F12 S T) ⟨TP_f (TP_0 (by rw [cCl_fr.1 11 (by omega)]; exact h1) (by rw [cCl_fr.1 12 (by omega)]; exact h2)), HC_of (HC_cl hdd) (fun o q1 q2 => by rw [stI_no (by omega), stI_no (by omega)]), ((rk12 cCl_fr).tr (Fr.I (Or.inl rfl))).tr (Fr.I (Or.inl rfl))⟩ (fun T0 hT0 => ?_)
  obtain ⟨hP, hW, hf⟩ := hT0
  refine z_aload0 C dX6_readRock_14 ?_
  refine z_aload1 C dX6_readRock_15 ?_
  refine z_callVP C dX6_readRock_16 (c_X6_readMarks hx hP hW vz_ok rfl) gX6_readRock_X6_readMarks md_X6_readMarks rfl (by decide) (k_Tape _) rfl rfl rfl (Nat.le_of_ble_eq_true rfl) ?_
  rintro r0 T1 hE
  rcases hE with ⟨W1, p1, e1, rfl, hP, hW, hf1⟩ | ⟨q, e1, hf1, ⟨rfl, hx3⟩ | ⟨rfl, hP, hd⟩⟩
  · have hf := hf.tr hf1
    obtain ⟨w1, w2, w3, w4⟩ := msP_ok 6 0 p1 vz W1 e1 vz_ok (by decide)
    refine z_if_neT C 27 dX6_readRock_19 (by decide) (by decide) ?_
    refine z_aload0 C dX6_readRock_27 ?_
    refine z_bipush (v := nI 59) C dX6_readRock_28 (by decide) ?_
    refine z_callVP C dX6_readRock_30 (c_X6_accept hx hP (by decide)) gX6_readRock_X6_accept md_X6_accept rfl (by decide) (k_Tape _) rfl rfl rfl (Nat.le_of_ble_eq_true rfl) ?_
    rintro _ T2 ⟨rfl, hP, hf2⟩
    refine z_if_eqB C 49 dX6_readRock_33 (by decide) (fun c33 => ?_) (fun c33 => ?_)
    · rw [tkN_n c33] at hP
      have hW := HC_11 hW hf2
      have hf := hf.tr hf2.t12
      refine z_aload0 C dX6_readRock_49 ?_
      refine z_callVP C dX6_readRock_50 (c_X6_look hx hP) gX6_readRock_X6_look md_X6_look rfl (by decide) (k_Tape _) rfl rfl rfl (Nat.le_of_ble_eq_true rfl) ?_
      rintro _ T5 ⟨rfl, hP, hf5⟩
      refine z_iconst (v := (-1)) C dX6_readRock_53 (by decide) ?_
      refine z_icmp_ne C 61 dX6_readRock_54 (by decide) (fun c54 => ?_) (fun c54 => ?_)
      · refine z_aload0 C dX6_readRock_61 ?_
        refine z_get C dX6_readRock_62 fl_X6_readRock_24 (k_Tape _) rfl ?_
        refine z_top C hP.2.1 ?_
        exact z_iretP C dX6_readRock_65 hr rfl (Or.inr ⟨_, (rk3 e1 c33).trans (fnP_y (Decidable.byContradiction (fun z => c54 ((lkC_m hx).mpr z)))), rfl, hf.tr hf5.t12⟩)
      · refine z_iconst (v := (-1)) C dX6_readRock_57 (by decide) ?_
        refine z_goto C 65 dX6_readRock_58 (by decide) ?_
        exact z_iretP C dX6_readRock_65 hr rfl (Or.inl ⟨_, _, (rk3 e1 c33).trans (fnP_n ((lkC_m hx).mp c54)), rfl, HC_11 hW hf5, hf.tr hf5.t12⟩)
    · rw [tkN_y c33] at hP
      have hW := HC_11 hW hf2
      have hf := hf.tr hf2.t12
      refine z_aload0 C dX6_readRock_36 ?_
      refine z_aload1 C dX6_readRock_37 ?_
      refine z_callVPK C hk dX6_readRock_38 (c_X6_readMonks hx hP hW w1 w4 (w3 (by decide))) gX6_readRock_X6_readMonks md_X6_readMonks rfl (by decide) (k_Tape _) rfl rfl rfl (Nat.le_of_ble_eq_true rfl) ?_
      rintro r0 T3 hE
      rcases hE with ⟨W2, p2, e2, rfl, hP, hW, hf1⟩ | ⟨q, e2, hf1, ⟨rfl, hx3⟩ | ⟨rfl, hP, hd⟩⟩
      · have hf := hf.tr hf1
        
        refine z_if_neT C 49 dX6_readRock_41 (by decide) (by decide) ?_
        refine z_aload0 C dX6_readRock_49 ?_
        refine z_callVP C dX6_readRock_50 (c_X6_look hx hP) gX6_readRock_X6_look md_X6_look rfl (by decide) (k_Tape _) rfl rfl rfl (Nat.le_of_ble_eq_true rfl) ?_
        rintro _ T5 ⟨rfl, hP, hf5⟩
        refine z_iconst (v := (-1)) C dX6_readRock_53 (by decide) ?_
        refine z_icmp_ne C 61 dX6_readRock_54 (by decide) (fun c54 => ?_) (fun c54 => ?_)
        · refine z_aload0 C dX6_readRock_61 ?_
          refine z_get C dX6_readRock_62 fl_X6_readRock_24 (k_Tape _) rfl ?_
          refine z_top C hP.2.1 ?_
          exact z_iretP C dX6_readRock_65 hr rfl (Or.inr ⟨_, (rk2 e1 c33 e2).trans (fnP_y (Decidable.byContradiction (fun z => c54 ((lkC_m hx).mpr z)))), rfl, hf.tr hf5.t12⟩)
        · refine z_iconst (v := (-1)) C dX6_readRock_57 (by decide) ?_
          refine z_goto C 65 dX6_readRock_58 (by decide) ?_
          exact z_iretP C dX6_readRock_65 hr rfl (Or.inl ⟨_, _, (rk2 e1 c33 e2).trans (fnP_n ((lkC_m hx).mp c54)), rfl, HC_11 hW hf5, hf.tr hf5.t12⟩)
      · have hf := hf.tr hf1
        refine z_if_neF C 49 dX6_readRock_41 (by decide) (by decide) ?_
        refine z_aload0 C dX6_readRock_44 ?_
        refine z_get C dX6_readRock_45 fl_X6_readRock_27 (k_Tape _) rfl ?_
        exact z_iretP C dX6_readRock_48 hr rfl (Or.inr ⟨q, rk1 e1 c33 e2, hx3, hf⟩)
      · have hf := hf.tr hf1
        refine z_if_neT C 49 dX6_readRock_41 (by decide) (by decide) ?_
        refine z_aload0 C dX6_readRock_49 ?_
        refine z_callVP C dX6_readRock_50 (c_X6_look hx hP) gX6_readRock_X6_look md_X6_look rfl (by decide) (k_Tape _) rfl rfl rfl (Nat.le_of_ble_eq_true rfl) ?_
        rintro _ T5 ⟨rfl, hP, hf5⟩
        refine z_iconst (v := (-1)) C dX6_readRock_53 (by decide) ?_
        refine z_icmp_ne C 61 dX6_readRock_54 (by decide) (fun c54 => ?_) (fun c54 => ?_)
        · refine z_aload0 C dX6_readRock_61 ?_
          refine z_get C dX6_readRock_62 fl_X6_readRock_24 (k_Tape _) rfl ?_
          refine z_top C hP.2.1 ?_
          exact z_iretP C dX6_readRock_65 hr rfl (Or.inr ⟨q, rk1 e1 c33 e2, by rw [sk_d hd], hf.tr hf5.t12⟩)
        · refine z_iconst (v := (-1)) C dX6_readRock_57 (by decide) ?_
          refine z_goto C 65 dX6_readRock_58 (by decide) ?_
          exact absurd (by rw [sk_d hd]; exact hd.1) ((lkC_m hx).mp c54)
  · have hf := hf.tr hf1
    refine z_if_neF C 27 dX6_readRock_19 (by decide) (by decide) ?_
    refine z_aload0 C dX6_readRock_22 ?_
    refine z_get C dX6_readRock_23 fl_X6_readRock_27 (k_Tape _) rfl ?_
    exact z_iretP C dX6_readRock_26 hr rfl (Or.inr ⟨q, rk0 e1, hx3, hf⟩)
  · have hf := hf.tr hf1
    refine z_if_neT C 27 dX6_readRock_19 (by decide) (by decide) ?_
    refine z_aload0 C dX6_readRock_27 ?_
    refine z_bipush (v := nI 59) C dX6_readRock_28 (by decide) ?_
    refine z_callVP C dX6_readRock_30 (c_X6_accept hx hP (by decide)) gX6_readRock_X6_accept md_X6_accept rfl (by decide) (k_Tape _) rfl rfl rfl (Nat.le_of_ble_eq_true rfl) ?_
    rintro _ T2 ⟨rfl, hP, hf2⟩
    refine z_if_eqB C 49 dX6_readRock_33 (by decide) (fun c33 => ?_) (fun c33 => ?_)
    · rw [tkN_n c33, sk_d hd] at hP
      have hf := hf.tr hf2.t12
      refine z_aload0 C dX6_readRock_49 ?_
      refine z_callVP C dX6_readRock_50 (c_X6_look hx hP) gX6_readRock_X6_look md_X6_look rfl (by decide) (k_Tape _) rfl rfl rfl (Nat.le_of_ble_eq_true rfl) ?_
      rintro _ T5 ⟨rfl, hP, hf5⟩
      refine z_iconst (v := (-1)) C dX6_readRock_53 (by decide) ?_
      refine z_icmp_ne C 61 dX6_readRock_54 (by decide) (fun c54 => ?_) (fun c54 => ?_)
      · refine z_aload0 C dX6_readRock_61 ?_
        refine z_get C dX6_readRock_62 fl_X6_readRock_24 (k_Tape _) rfl ?_
        refine z_top C hP.2.1 ?_
        exact z_iretP C dX6_readRock_65 hr rfl (Or.inr ⟨q, rk0 e1, by rw [sk_d hd], hf.tr hf5.t12⟩)
      · refine z_iconst (v := (-1)) C dX6_readRock_57 (by decide) ?_
        refine z_goto C 65 dX6_readRock_58 (by decide) ?_
        exact absurd (by rw [sk_d hd]; exact hd.1) ((lkC_m hx).mp c54)
    · exact absurd c33 (tk_d hd (by decide))

set_option maxRecDepth 20000 in
theorem fl_X6_put_9 : FL RX6 wsX6_put 9 6 0 := ⟨RX6, TX6, 4, rfl, (fun w h => List.mem_cons_of_mem _ (List.mem_append_right _ h)), by decide, by decide +kernel⟩
set_option maxRecDepth 20000 in
theorem fl_X6_put_15 : FL RX6 wsX6_put 15 6 1 := ⟨RX6, TX6, 4, rfl, (fun w h => List.mem_cons_of_mem _ (List.mem_append_right _ h)), by decide, by decide +kernel⟩
theorem fp_X6_put_15 : FP RX6 wsX6_put 15 6 1 .int := ⟨fl_X6_put_15, RX6, TX6, 4, tyX6, rfl, tyX6_ok, nmX6, rfl, by decide +kernel⟩
set_option maxHeartbeats 4000000 in
set_option maxRecDepth 100000 in
theorem c_X6_put {l : Launch} {Y : LY} {S : GS} {n : Nat} (hn : n < 90) (h1 : S.1 11 1 = nI n) {x : Int32} : CtI l yX6_put wsX6_put 1 Y [.ref (ad Y 11), .int x] S (nI (n + 1)) (stI (stI S 12 n x) 11 1 (nI (n + 1))) := by
  refine mkI (cc := cX6_put) (maxL := 2) rfl rfl (Nat.le_of_ble_eq_true rfl) ?_
  intro X hl hY C hr
  subst hl
  subst hY
  show Zj X S [some (.ref (ad (xY X) 11)), some (.int x)] 0 []
  refine z_aload0 C dX6_put_0 ?_
  refine z_get C dX6_put_1 fl_X6_put_9 (k_Tape _) rfl ?_
  refine z_aload0 C dX6_put_4 ?_
  refine z_get C dX6_put_5 fl_X6_put_15 (k_Tape _) rfl ?_
  first | refine z_top C h1 ?_ | refine z_top C (show _ = nI n by rw [stI_no (by decide)]; exact h1) ?_ | refine z_top C (stI_me _ _ _ _) ?_
  refine z_iload1 C dX6_put_8 ?_
  refine z_iast C dX6_put_9 (k_i12 _) (by omega) ?_
  refine z_aload0 C dX6_put_10 ?_
  refine z_dup C dX6_put_11 rfl ?_
  refine z_get C dX6_put_12 fl_X6_put_15 (k_Tape _) rfl ?_
  first | refine z_top C h1 ?_ | refine z_top C (show _ = nI n by rw [stI_no (by decide)]; exact h1) ?_ | refine z_top C (stI_me _ _ _ _) ?_
  refine z_iconstN 1 C dX6_put_15 ?_
  refine z_iaddN C dX6_put_16 ?_
  refine z_put C dX6_put_17 fp_X6_put_15 (k_Tape _) rfl rfl (Nat.le_of_ble_eq_true rfl) rfl ?_
  refine z_aload0 C dX6_put_20 ?_
  refine z_get C dX6_put_21 fl_X6_put_15 (k_Tape _) rfl ?_
  first | refine z_top C h1 ?_ | refine z_top C (show _ = nI n by rw [stI_no (by decide)]; exact h1) ?_ | refine z_top C (stI_me _ _ _ _) ?_
  exact z_iret C dX6_put_24 hr rfl rfl rfl

abbrev TX : Type := (Nat → Nat) × Nat
def XC (S : GS) (t : TX) : Prop := S.1 11 1 = nI t.2 ∧ ∀ i, i < t.2 → S.1 12 i = nI (t.1 i)
def XM (S : GS) (t : TX) : Prop := S.1 178 3 = nI t.2 ∧ ∀ i, i < t.2 → S.1 180 i = nI (t.1 i)
def aType (t : TX) (x : Int32) : Int32 × TX := if inB x 32 126 then (if t.2 < 90 then (nI (t.2 + 1), (qu t.1 t.2 x.toNatClampNeg, t.2 + 1)) else (-3, t)) else (-1, t)
theorem aType_n {t : TX} {x : Int32} (h : ¬ inB x 32 126) : aType t x = (-1, t) := if_neg h
theorem aType_f {t : TX} {x : Int32} (h : inB x 32 126) (h2 : ¬ t.2 < 90) : aType t x = (-3, t) := by
  unfold aType
  rw [if_pos h, if_neg h2]
theorem aType_y {t : TX} {x : Nat} (h : inB (nI x) 32 126) (hx : x ≤ 126) (h2 : t.2 < 90) : aType t (nI x) = (nI (t.2 + 1), (qu t.1 t.2 x, t.2 + 1)) := by
  unfold aType
  rw [if_pos h, if_pos h2, nI_clamp (by omega)]
theorem aType_ok {t : TX} {x : Int32} (h : TxOk t.1 t.2) : TxOk (aType t x).2.1 (aType t x).2.2 := by
  by_cases c : inB x 32 126
  · by_cases d : t.2 < 90
    · obtain ⟨j, j1, j2, rfl⟩ := inB_of (by decide) c (by decide)
      rw [aType_y c j2 d]
      refine ⟨by show t.2 + 1 ≤ 90; omega, fun i (hi : i < t.2 + 1) => ?_⟩
      show 32 ≤ qu t.1 t.2 j i ∧ qu t.1 t.2 j i ≤ 126
      unfold qu
      split
      · exact ⟨j1, j2⟩
      · exact h.2 i (by omega)
    · rw [aType_f c d]; exact h
  · rw [aType_n c]; exact h
theorem tx_put {g : Nat → Int32} {t : TX} {x : Nat} (h : ∀ i, i < t.2 → g i = nI (t.1 i)) : ∀ i, i < t.2 + 1 → upd g t.2 (nI x) i = nI (qu t.1 t.2 x i) := by
  intro i hi
  unfold qu
  by_cases c : i = t.2
  · subst c
    rw [if_pos rfl, pk_us]
  · rw [if_neg c, pk_un c]
    exact h i (by omega)
theorem XC_put {S : GS} {t : TX} {x : Nat} (h : XC S t) : XC (stI (stI S 12 t.2 (nI x)) 11 1 (nI (t.2 + 1))) (qu t.1 t.2 x, t.2 + 1) := ⟨stI_me _ _ _ _, by
  rw [stI_no (by decide)]
  show ∀ i, i < t.2 + 1 → (stI S 12 t.2 (nI x)).1 12 i = _
  have e : (stI S 12 t.2 (nI x)).1 12 = upd (S.1 12) t.2 (nI x) := stA_me
  rw [e]
  exact tx_put h.2⟩
abbrev F13 (o : Nat) : Prop := o = 11 ∨ o = 12

set_option maxRecDepth 20000 in
theorem fl_X7_type_32 : FL RX7 wsX7_type 32 7 5 := ⟨RX7, TX7, 12, rfl, (fun w h => List.mem_cons_of_mem _ (List.mem_append_left _ (List.mem_append_right _ h))), by decide, by decide +kernel⟩
set_option maxRecDepth 20000 in
theorem fl_X7_type_130 : FL RX7 wsX7_type 130 6 1 := ⟨RX6, TX6, 4, rfl, (fun w h => List.mem_cons_of_mem _ (List.mem_append_right _ h)), by decide, by decide +kernel⟩
theorem md_X6_put : MD yX6_put wsX6_put 1 2 (some .int) := ⟨_, _, rfl, by decide, by decide +kernel, by decide +kernel, by decide +kernel⟩
set_option maxHeartbeats 4000000 in
set_option maxRecDepth 100000 in
theorem c_X7_type {l : Launch} {Y : LY} {S : GS} {t : TX} (hX : XC S t) (hx : TxOk t.1 t.2) {x : Int32} : CtP l yX7_type wsX7_type 3 Y [.ref (ad Y 0), .int x] S (fun r u => r = (aType t x).1 ∧ XC u (aType t x).2 ∧ Fr F13 S u) := by
  refine mkP (cc := cX7_type) (maxL := 2) rfl rfl (Nat.le_of_ble_eq_true rfl) ?_
  intro X hl hY C hr
  subst hl
  subst hY
  have x90 := hx.1
  show Zj X S [some (.ref (ad (xY X) 0)), some (.int x)] 0 []
  refine z_iload1 C dX7_type_0 ?_
  refine z_bipush (v := nI 32) C dX7_type_1 (by decide) ?_
  refine z_bipush (v := nI 126) C dX7_type_3 (by decide) ?_
  refine z_callSI C dX7_type_5 c_X7_within gX7_type_X7_within md_X7_within (by decide) rfl rfl (Nat.le_of_ble_eq_true rfl) ?_
  refine z_if_neB C 13 dX7_type_8 (by decide) (fun c8 => ?_) (fun c8 => ?_)
  · refine z_aload0 C dX7_type_13 ?_
    refine z_get C dX7_type_14 fl_X7_type_32 (k_EM _) rfl ?_
    refine z_get C dX7_type_17 fl_X7_type_130 (k_Tape _) rfl ?_
    refine z_top C hX.1 ?_
    refine z_bipush (v := nI 90) C dX7_type_20 (by decide) ?_
    refine z_icmp_ltN C 28 dX7_type_22 (by decide) (by omega) (by omega) (fun c22 => ?_) (fun c22 => ?_)
    · obtain ⟨x, hx1, hx2, rfl⟩ := inB_of (by decide) c8 (by decide)
      refine z_aload0 C dX7_type_28 ?_
      refine z_get C dX7_type_29 fl_X7_type_32 (k_EM _) rfl ?_
      refine z_iload1 C dX7_type_32 ?_
      refine z_callVI C dX7_type_33 (c_X6_put (by omega) hX.1) gX7_type_X6_put md_X6_put rfl (by decide) (k_Tape _) rfl rfl rfl (Nat.le_of_ble_eq_true rfl) ?_
      exact z_iretP C dX7_type_36 hr rfl ⟨by rw [aType_y c8 hx2 (by omega)], by rw [aType_y c8 hx2 (by omega)]; exact XC_put hX, (Fr.I (Or.inr rfl)).tr (Fr.I (Or.inl rfl))⟩
    · refine z_bipush (v := (-3)) C dX7_type_25 (by decide) ?_
      exact z_iretP C dX7_type_27 hr rfl ⟨by rw [aType_f c8 (by omega)], by rw [aType_f c8 (by omega)]; exact hX, Fr.rf⟩
  · refine z_iconst (v := (-1)) C dX7_type_11 (by decide) ?_
    exact z_iretP C dX7_type_12 hr rfl ⟨by rw [aType_n c8], by rw [aType_n c8]; exact hX, Fr.rf⟩

def aRock (b : B3) (t : TX) : Int32 × B3 := match rkP t.1 t.2 vz with
  | .error q => (-20 - nI q, b)
  | .ok (W, _) => (nI (W 0 0), (vs W 0 4 (b.1 0 4), b.2.1, 0))
theorem aRock_e {b : B3} {t : TX} {q : Nat} (h : rkP t.1 t.2 vz = .error q) : aRock b t = (-20 - nI q, b) := by unfold aRock; rw [h]
theorem aRock_y {b : B3} {t : TX} {q : Nat} {W : VR} (h : rkP t.1 t.2 vz = .ok (W, q)) : aRock b t = (nI (W 0 0), (vs W 0 4 (b.1 0 4), b.2.1, 0)) := by unfold aRock; rw [h]
theorem aRock_ok {b : B3} {t : TX} (hO : OkB b) : OkB (aRock b t).2 := by
  cases e : rkP t.1 t.2 vz with
  | error q => rw [aRock_e e]; exact hO
  | ok x =>
    obtain ⟨W, q⟩ := x
    rw [aRock_y e]
    refine ⟨vs_ok (rkP_ok e vz_ok rfl rfl) (Or.inl ⟨rfl, by decide⟩), fun j (hj : j < 0) => by omega, ?_, ?_, Nat.zero_le _⟩
    · show vs W 0 4 (b.1 0 4) 0 2 ≤ 9999
      rw [vs_no (by omega), (rkP_g.2 _ _ e).2]
      exact Nat.zero_le _
    · show vs W 0 4 (b.1 0 4) 0 4 < 2 ^ 31
      rw [vs_me]
      exact hO.2.2.2.1
abbrev clR (o : Nat) : Prop := clN o ∨ o = 11
theorem F12R {S T : GS} (h : Fr F12 S T) : Fr clR S T := h.mono (fun o q => by
  rcases q with q | q
  · exact Or.inr q
  · exact Or.inl (by omega))
theorem stI_11 {S : GS} {o i : Nat} {v : Int32} (h : o ≠ 11) : (stI S o i v).1 11 1 = S.1 11 1 := by rw [stI_no (Ne.symm h)]

set_option maxRecDepth 20000 in
theorem fl_X7_rock_32 : FL RX7 wsX7_rock 32 7 5 := ⟨RX7, TX7, 12, rfl, (fun w h => List.mem_cons_of_mem _ (List.mem_append_left _ (List.mem_append_left _ (List.mem_append_left _ (List.mem_append_right _ h))))), by decide, by decide +kernel⟩
set_option maxRecDepth 20000 in
theorem fl_X7_rock_42 : FL RX7 wsX7_rock 42 7 7 := ⟨RX7, TX7, 12, rfl, (fun w h => List.mem_cons_of_mem _ (List.mem_append_left _ (List.mem_append_left _ (List.mem_append_left _ (List.mem_append_right _ h))))), by decide, by decide +kernel⟩
theorem md_X6_readRock : MD yX6_readRock wsX6_readRock 1 2 (some .int) := ⟨_, _, rfl, by decide, by decide +kernel, by decide +kernel, by decide +kernel⟩
set_option maxRecDepth 20000 in
theorem fl_X7_rock_130 : FL RX7 wsX7_rock 130 6 1 := ⟨RX6, TX6, 4, rfl, (fun w h => List.mem_cons_of_mem _ (List.mem_append_left _ (List.mem_append_left _ (List.mem_append_right _ h)))), by decide, by decide +kernel⟩
theorem fp_X7_rock_130 : FP RX7 wsX7_rock 130 6 1 .int := ⟨fl_X7_rock_130, RX6, TX6, 4, tyX6, rfl, tyX6_ok, nmX6, rfl, by decide +kernel⟩
set_option maxRecDepth 20000 in
theorem fl_X7_rock_10 : FL RX7 wsX7_rock 10 7 0 := ⟨RX7, TX7, 12, rfl, (fun w h => List.mem_cons_of_mem _ (List.mem_append_left _ (List.mem_append_left _ (List.mem_append_left _ (List.mem_append_right _ h))))), by decide, by decide +kernel⟩
set_option maxRecDepth 20000 in
theorem fl_X7_rock_140 : FL RX7 wsX7_rock 140 2 4 := ⟨RX2, TX2, 12, rfl, (fun w h => List.mem_cons_of_mem _ (List.mem_append_left _ (List.mem_append_right _ h))), by decide, by decide +kernel⟩
theorem fp_X7_rock_140 : FP RX7 wsX7_rock 140 2 4 .int := ⟨fl_X7_rock_140, RX2, TX2, 12, tyX2, rfl, tyX2_ok, nmX2, rfl, by decide +kernel⟩
set_option maxRecDepth 20000 in
theorem fl_X7_rock_19 : FL RX7 wsX7_rock 19 7 1 := ⟨RX7, TX7, 12, rfl, (fun w h => List.mem_cons_of_mem _ (List.mem_append_left _ (List.mem_append_left _ (List.mem_append_left _ (List.mem_append_right _ h))))), by decide, by decide +kernel⟩
set_option maxRecDepth 20000 in
theorem fl_X7_rock_75 : FL RX7 wsX7_rock 75 2 0 := ⟨RX2, TX2, 12, rfl, (fun w h => List.mem_cons_of_mem _ (List.mem_append_left _ (List.mem_append_right _ h))), by decide, by decide +kernel⟩
set_option maxHeartbeats 4000000 in
set_option maxRecDepth 100000 in
theorem c_X7_rock {l : Launch} {Y : LY} {a a2 : Nat} {S : GS} {b : B3} (hI : IC S b) (hO : OkB b) {t : TX} (hX : XC S t) (hx : TxOk t.1 t.2) : CtK l yX7_rock wsX7_rock 8 Y a a2 [.ref (ad Y 0)] S (fun r u => r = (aRock b t).1 ∧ IC u (aRock b t).2 ∧ u.1 11 1 = nI 0 ∧ Fr clR S u) := by
  refine mkK (cc := cX7_rock) (maxL := 2) rfl rfl (Nat.le_of_ble_eq_true rfl) ?_
  intro X hl hY C hr hk
  subst hl
  subst hY
  have x90 := hx.1
  obtain ⟨dd, hdd⟩ := nI_ex (S.1 42 4)
  show Zj X S [some (.ref (ad (xY X) 0)), none] 0 []
  refine z_aload0 C dX7_rock_0 ?_
  refine z_get C dX7_rock_1 fl_X7_rock_32 (k_EM _) rfl ?_
  refine z_aload0 C dX7_rock_4 ?_
  refine z_get C dX7_rock_5 fl_X7_rock_42 (k_EM _) rfl ?_
  refine z_callVPK C hk dX7_rock_8 (c_X6_readRock hx hX.1 hX.2 hdd) gX7_rock_X6_readRock md_X6_readRock rfl (by decide) (k_Tape _) rfl rfl rfl (Nat.le_of_ble_eq_true rfl) ?_
  rintro r0 T1 hE
  rcases hE with ⟨W1, q, e1, rfl, hWp, hf⟩ | ⟨q, e1, rfl, hf⟩
  · refine z_istore1 C dX7_rock_11 nl_r ?_
    refine z_aload0 C dX7_rock_12 ?_
    refine z_get C dX7_rock_13 fl_X7_rock_32 (k_EM _) rfl ?_
    refine z_iconstN 0 C dX7_rock_16 ?_
    refine z_put C dX7_rock_17 fp_X7_rock_130 (k_Tape _) rfl rfl (Nat.le_of_ble_eq_true rfl) rfl ?_
    have hf2 := hf.tr (Fr.I (i := 1) (v := nI 0) (P := F12) (o := 11) (Or.inl rfl))
    refine z_genS (P := fun T => HC T 26 b.1 ∧ HC T 42 (vs W1 0 4 dd) ∧ T.1 22 = S.1 22 ∧ T.1 11 1 = nI 0 ∧ Fr clR S T) ⟨HC_fr hI.1 hf2 (fun o q1 q2 q3 => by omega), HC_of hWp (fun o q1 q2 => stI_no (by omega)), hf2.1 22 (by omega), stI_me _ _ _ _, F12R hf2⟩ (fun T2 hT2 => ?_)
    obtain ⟨hC, hWp, h22, h11, hfr⟩ := hT2
    have hDr : T2.1 26 4 = nI (b.1 0 4) := hC.1 4 (by decide)
    refine z_iload1 C dX7_rock_20 ?_
    refine z_if_lt C 29 dX7_rock_21 (by decide) (fun c21 => ?_) (fun c21 => ?_)
    · refine z_aload0 C dX7_rock_29 ?_
      refine z_get C dX7_rock_30 fl_X7_rock_42 (k_EM _) rfl ?_
      refine z_aload0 C dX7_rock_33 ?_
      refine z_get C dX7_rock_34 fl_X7_rock_10 (k_EM _) rfl ?_
      refine z_get C dX7_rock_37 fl_X7_rock_140 (k_Rock _ isR_now) rfl ?_
      refine z_top C hDr ?_
      refine z_put C dX7_rock_40 fp_X7_rock_140 (k_Rock _ isR_trial) rfl rfl (Nat.le_of_ble_eq_true rfl) rfl ?_
      have hT42 := HC_set (f := 0) (i := 4) (v := b.1 0 4) (by decide) rfl (fun _ => by decide) hWp
      rw [vs_vs] at hT42
      refine z_genS (P := fun T => HC T 42 (vs W1 0 4 (b.1 0 4)) ∧ T.1 22 = S.1 22 ∧ T.1 11 1 = nI 0 ∧ Fr clR S T) ⟨hT42, by rw [stI_no (by decide)]; exact h22, by rw [stI_11 (by decide)]; exact h11, hfr.tr (Fr.I (Or.inl (by omega)))⟩ (fun T3 hT3 => ?_)
      obtain ⟨hT42, h22, h11, hfr⟩ := hT3
      have okW : Ok (vs W1 0 4 (b.1 0 4)) := vs_ok (rkP_ok e1 vz_ok rfl rfl) (Or.inl ⟨rfl, by decide⟩)
      refine z_aload0 C dX7_rock_43 ?_
      refine z_get C dX7_rock_44 fl_X7_rock_10 (k_EM _) rfl ?_
      refine z_aload0 C dX7_rock_47 ?_
      refine z_get C dX7_rock_48 fl_X7_rock_42 (k_EM _) rfl ?_
      refine z_callVV C dX7_rock_51 (c_X2_become isR_now isR_trial) gX7_rock_X2_become md_X2_become rfl (by decide) (k_Rock _ isR_now) rfl rfl rfl (Nat.le_of_ble_eq_true rfl) ?_
      refine z_aload0 C dX7_rock_54 ?_
      refine z_get C dX7_rock_55 fl_X7_rock_19 (k_EM _) rfl ?_
      refine z_callVV C dX7_rock_58 c_X0_forget gX7_rock_X0_forget md_X0_forget rfl (by decide) (k_Known _) rfl rfl rfl (Nat.le_of_ble_eq_true rfl) ?_
      obtain ⟨hC0, hk8, od, hod, k1, k2, k3⟩ := hI
      refine z_genS (P := fun T => IC T (vs W1 0 4 (b.1 0 4), b.2.1, 0) ∧ T.1 11 1 = nI 0 ∧ Fr clR S T) ⟨⟨HC_of (HC_bec (Or.inr (by decide)) hT42 okW) (fun o q1 q2 => stI_no (by omega)), Nat.zero_le _, od, hod, by rw [stI_ni (by decide), cBec_fr.1 22 (by omega), h22]; exact k1, stI_me _ _ _ _, fun j (hj : j < 0) => by omega⟩, by rw [stI_11 (by decide), cBec_fr.1 11 (by omega)]; exact h11, (hfr.tr (cBec_fr.mono (fun o q => Or.inl (by omega)))).tr (Fr.I (Or.inl (by omega)))⟩ (fun T4 hT4 => ?_)
      obtain ⟨hI2, h11, hfr⟩ := hT4
      refine z_aload0 C dX7_rock_61 ?_
      refine z_get C dX7_rock_62 fl_X7_rock_10 (k_EM _) rfl ?_
      refine z_get C dX7_rock_65 fl_X7_rock_75 (k_Rock _ isR_now) rfl ?_
      refine z_top C (hI2.1.1 0 (by decide)) ?_
      exact z_iretP C dX7_rock_68 hr rfl ⟨by rw [aRock_y e1]; exact congrArg nI (vs_00 (W := W1) (d := b.1 0 4)), by rw [aRock_y e1]; exact hI2, h11, hfr⟩
    · exact absurd (by decide) c21
  · have q90 := (rkP_g.1 q e1).1
    refine z_istore1 C dX7_rock_11 nl_r ?_
    refine z_aload0 C dX7_rock_12 ?_
    refine z_get C dX7_rock_13 fl_X7_rock_32 (k_EM _) rfl ?_
    refine z_iconstN 0 C dX7_rock_16 ?_
    refine z_put C dX7_rock_17 fp_X7_rock_130 (k_Tape _) rfl rfl (Nat.le_of_ble_eq_true rfl) rfl ?_
    have hf2 := hf.tr (Fr.I (i := 1) (v := nI 0) (P := F12) (o := 11) (Or.inl rfl))
    refine z_genS (P := fun T => IC T b ∧ T.1 11 1 = nI 0 ∧ Fr clR S T) ⟨⟨HC_fr hI.1 hf2 (fun o q1 q2 q3 => by omega), HK_fr hI.2 hf2 (by omega) (fun o q1 q2 q3 => by omega)⟩, stI_me _ _ _ _, F12R hf2⟩ (fun T2 hT2 => ?_)
    obtain ⟨hI2, h11, hfr⟩ := hT2
    refine z_iload1 C dX7_rock_20 ?_
    refine z_if_ltN C 29 dX7_rock_21 (by decide) (by omega) ?_
    refine z_bipush (v := (-20)) C dX7_rock_24 (by decide) ?_
    refine z_iload1 C dX7_rock_26 ?_
    refine z_isub C dX7_rock_27 ?_
    exact z_iretP C dX7_rock_28 hr rfl ⟨by rw [aRock_e e1], by rw [aRock_e e1]; exact hI2, h11, hfr⟩
