theorem andn {a b : Nat} (ha : a < 32) (hb : b < 32) : nI a &&& (nI b ^^^ (-1)) = nI (a - (a &&& b)) := t_andn ⟨a, ha⟩ ⟨b, hb⟩
theorem shl1 {k : Nat} (h : k < 6) : nI 1 <<< (nI k &&& 31) = nI (2 ^ k) := t_shl ⟨k, h⟩
theorem popc_le (s : Nat) : popc s ≤ 6 := by
  unfold popc
  omega

theorem kc_J6_bitCount_0f7a4_265 : Cond.constant RJ6 265 (1431655765) ∈ wsJ6_bitCount_0f7a4 := by decide +kernel
theorem kc_J6_bitCount_0f7a4_266 : Cond.constant RJ6 266 (858993459) ∈ wsJ6_bitCount_0f7a4 := by decide +kernel
theorem kc_J6_bitCount_0f7a4_267 : Cond.constant RJ6 267 (252645135) ∈ wsJ6_bitCount_0f7a4 := by decide +kernel
set_option maxHeartbeats 4000000 in
set_option maxRecDepth 100000 in
theorem c_J6_bitCount_0f7a4 {l : Launch} {Y : LY} {S : GS} {s : Nat} (hs : s < 64) : CtI l yJ6_bitCount_0f7a4 wsJ6_bitCount_0f7a4 1 Y [.int (nI s)] S (nI (popc s)) (S) := by
  refine mkI (cc := cJ6_bitCount_0f7a4) (maxL := 1) rfl rfl (Nat.le_of_ble_eq_true rfl) ?_
  intro X hl hY C hr
  subst hl
  subst hY
  show Zj X S [some (.int (nI s))] 0 []
  refine z_iload0 C dJ6_bitCount_0f7a4_0 ?_
  refine z_iload0 C dJ6_bitCount_0f7a4_1 ?_
  refine z_iconstN 1 C dJ6_bitCount_0f7a4_2 ?_
  refine z_iushr C dJ6_bitCount_0f7a4_3 ?_
  refine z_ldcw (v := 1431655765) C dJ6_bitCount_0f7a4_4 kc_J6_bitCount_0f7a4_265 ?_
  refine z_top (y := nI 1431655765) C (by decide) ?_
  refine z_iand C dJ6_bitCount_0f7a4_7 ?_
  refine z_isub C dJ6_bitCount_0f7a4_8 ?_
  refine z_istore0 C dJ6_bitCount_0f7a4_9 ?_
  refine z_iload0 C dJ6_bitCount_0f7a4_10 ?_
  refine z_ldcw (v := 858993459) C dJ6_bitCount_0f7a4_11 kc_J6_bitCount_0f7a4_266 ?_
  refine z_top (y := nI 858993459) C (by decide) ?_
  refine z_iand C dJ6_bitCount_0f7a4_14 ?_
  refine z_iload0 C dJ6_bitCount_0f7a4_15 ?_
  refine z_iconstN 2 C dJ6_bitCount_0f7a4_16 ?_
  refine z_iushr C dJ6_bitCount_0f7a4_17 ?_
  refine z_ldcw (v := 858993459) C dJ6_bitCount_0f7a4_18 kc_J6_bitCount_0f7a4_266 ?_
  refine z_top (y := nI 858993459) C (by decide) ?_
  refine z_iand C dJ6_bitCount_0f7a4_21 ?_
  refine z_iadd C dJ6_bitCount_0f7a4_22 ?_
  refine z_istore0 C dJ6_bitCount_0f7a4_23 ?_
  refine z_iload0 C dJ6_bitCount_0f7a4_24 ?_
  refine z_iload0 C dJ6_bitCount_0f7a4_25 ?_
  refine z_iconstN 4 C dJ6_bitCount_0f7a4_26 ?_
  refine z_iushr C dJ6_bitCount_0f7a4_27 ?_
  refine z_iadd C dJ6_bitCount_0f7a4_28 ?_
  refine z_ldcw (v := 252645135) C dJ6_bitCount_0f7a4_29 kc_J6_bitCount_0f7a4_267 ?_
  refine z_top (y := nI 252645135) C (by decide) ?_
  refine z_iand C dJ6_bitCount_0f7a4_32 ?_
  refine z_istore0 C dJ6_bitCount_0f7a4_33 ?_
  refine z_iload0 C dJ6_bitCount_0f7a4_34 ?_
  refine z_iload0 C dJ6_bitCount_0f7a4_35 ?_
  refine z_bipush (v := nI 8) C dJ6_bitCount_0f7a4_36 (by decide) ?_
  refine z_iushr C dJ6_bitCount_0f7a4_38 ?_
  refine z_iadd C dJ6_bitCount_0f7a4_39 ?_
  refine z_istore0 C dJ6_bitCount_0f7a4_40 ?_
  refine z_iload0 C dJ6_bitCount_0f7a4_41 ?_
  refine z_iload0 C dJ6_bitCount_0f7a4_42 ?_
  refine z_bipush (v := nI 16) C dJ6_bitCount_0f7a4_43 (by decide) ?_
  refine z_iushr C dJ6_bitCount_0f7a4_45 ?_
  refine z_iadd C dJ6_bitCount_0f7a4_46 ?_
  refine z_istore0 C dJ6_bitCount_0f7a4_47 ?_
  refine z_iload0 C dJ6_bitCount_0f7a4_48 ?_
  refine z_bipush (v := nI 63) C dJ6_bitCount_0f7a4_49 (by decide) ?_
  refine z_iand C dJ6_bitCount_0f7a4_51 ?_
  exact z_iret C dJ6_bitCount_0f7a4_52 hr rfl (t_bc ⟨s, hs⟩) rfl

set_option maxHeartbeats 4000000 in
set_option maxRecDepth 100000 in
theorem lp_X7_power {X : CX} {a e : Nat} (he : e < 1000) (C : Cx X cX7_power RX7 wsX7_power 1) : ∀ (n : Nat) (S : GS) (i v : Nat), i + n = e → Zj X S [some (.int (nI (a))), some (.int (nI (e))), some (.int (nI (v * a ^ n))), some (.int (nI (e)))] 19 [] → Zj X S [some (.int (nI (a))), some (.int (nI (e))), some (.int (nI (v))), some (.int (nI (i)))] 4 [] := by
  intro n
  induction n with
  | zero =>
    intro S i v hi kk
    obtain rfl : i = e := by omega
    rw [Nat.pow_zero, Nat.mul_one] at kk
    refine z_iload3 C dX7_power_4 ?_
    refine z_iload1 C dX7_power_5 ?_
    refine z_icmp_geN C 19 dX7_power_6 (by decide) (by omega) (by omega) (fun c6 => ?_) (fun c6 => ?_)
    · exact kk
    · exact absurd c6 (by omega)
  | succ n ih =>
    intro S i v hi kk
    refine z_iload3 C dX7_power_4 ?_
    refine z_iload1 C dX7_power_5 ?_
    refine z_icmp_geN C 19 dX7_power_6 (by decide) (by omega) (by omega) (fun c6 => ?_) (fun c6 => ?_)
    · exact absurd c6 (by omega)
    · refine z_iload2 C dX7_power_9 ?_
      refine z_iload0 C dX7_power_10 ?_
      refine z_imulN C dX7_power_11 ?_
      refine z_istore2 C dX7_power_12 nl_i ?_
      refine z_iinc3 C dX7_power_13 (inc1 _) nl_i ?_
      refine z_goto C 4 dX7_power_16 (by decide) ?_
      exact ih S (i + 1) _ (by omega) (by rw [Nat.mul_assoc, Nat.mul_comm a (a ^ n), ← Nat.pow_succ]; exact kk)

set_option maxHeartbeats 4000000 in
set_option maxRecDepth 100000 in
theorem c_X7_power {l : Launch} {Y : LY} {S : GS} {a e : Nat} (he : e < 1000) : CtI l yX7_power wsX7_power 1 Y [.int (nI a), .int (nI e)] S (nI (a ^ e)) (S) := by
  refine mkI (cc := cX7_power) (maxL := 4) rfl rfl (Nat.le_of_ble_eq_true rfl) ?_
  intro X hl hY C hr
  subst hl
  subst hY
  show Zj X S [some (.int (nI a)), some (.int (nI e)), none, none] 0 []
  refine z_iconstN 1 C dX7_power_0 ?_
  refine z_istore2 C dX7_power_1 nl_i ?_
  refine z_iconstN 0 C dX7_power_2 ?_
  refine z_istore3 C dX7_power_3 nl_i ?_
  refine lp_X7_power he C e S 0 1 (by omega) ?_
  rw [Nat.one_mul]
  refine z_iload2 C dX7_power_19 ?_
  exact z_iret C dX7_power_20 hr rfl rfl rfl

set_option maxHeartbeats 4000000 in
set_option maxRecDepth 100000 in
theorem lp_X7_gcd {X : CX} {x y : Nat} (C : Cx X cX7_commonDivisor RX7 wsX7_commonDivisor 1) : ∀ (n : Nat) (S : GS) (i a b : Nat) (d : Option Value), i + n = 64 → a < 2 ^ 31 → b < 2 ^ 31 → (∀ b' i' d', Zj X S [some (.int (nI (x))), some (.int (nI (y))), some (.int (nI (eu n a b))), some (.int (nI (b'))), some (.int (nI (i'))), d'] 34 []) → Zj X S [some (.int (nI (x))), some (.int (nI (y))), some (.int (nI (a))), some (.int (nI (b))), some (.int (nI (i))), d] 7 [] := by
  intro n
  induction n with
  | zero =>
    intro S i a b d hi ha hb kk
    obtain rfl : i = 64 := by omega
    refine z_iload4 C dX7_commonDivisor_7 ?_
    refine z_bipush (v := nI 64) C dX7_commonDivisor_9 (by decide) ?_
    refine z_icmp_geN C 34 dX7_commonDivisor_11 (by decide) (by omega) (by omega) (fun c11 => ?_) (fun c11 => ?_)
    · exact kk _ _ _
    · exact absurd c11 (by omega)
  | succ n ih =>
    intro S i a b d hi ha hb kk
    refine z_iload4 C dX7_commonDivisor_7 ?_
    refine z_bipush (v := nI 64) C dX7_commonDivisor_9 (by decide) ?_
    refine z_icmp_geN C 34 dX7_commonDivisor_11 (by decide) (by omega) (by omega) (fun c11 => ?_) (fun c11 => ?_)
    · exact absurd c11 (by omega)
    · refine z_iload3 C dX7_commonDivisor_14 ?_
      refine z_if_eqN C 34 dX7_commonDivisor_15 (by decide) (by omega) (fun c15 => ?_) (fun c15 => ?_)
      · have e : eu (n + 1) a b = a := by rw [eu, if_pos c15]
        have k2 := kk b i d
        rw [e] at k2
        exact k2
      · refine z_iload2 C dX7_commonDivisor_18 ?_
        refine z_iload3 C dX7_commonDivisor_19 ?_
        refine z_iremN C dX7_commonDivisor_20 ha (by omega) hb ?_
        refine z_istore5 C dX7_commonDivisor_21 nl_i ?_
        refine z_iload3 C dX7_commonDivisor_23 ?_
        refine z_istore2 C dX7_commonDivisor_24 nl_i ?_
        refine z_iload5 C dX7_commonDivisor_25 ?_
        refine z_istore3 C dX7_commonDivisor_27 nl_i ?_
        refine z_iinc4 C dX7_commonDivisor_28 (inc1 _) nl_i ?_
        refine z_goto C 7 dX7_commonDivisor_31 (by decide) ?_
        exact ih S (i + 1) _ _ _ (by omega) hb (Nat.lt_trans (Nat.mod_lt _ (by omega)) hb) (fun b2 i2 d2 => by have k2 := kk b2 i2 d2; rw [eu, if_neg (by omega)] at k2; exact k2)

set_option maxHeartbeats 4000000 in
set_option maxRecDepth 100000 in
theorem c_X7_commonDivisor {l : Launch} {Y : LY} {S : GS} {a b : Nat} (ha : a < 2 ^ 31) (hb : b < 2 ^ 20) : CtI l yX7_commonDivisor wsX7_commonDivisor 1 Y [.int (nI a), .int (nI b)] S (nI (Nat.gcd a b)) (S) := by
  refine mkI (cc := cX7_commonDivisor) (maxL := 6) rfl rfl (Nat.le_of_ble_eq_true rfl) ?_
  intro X hl hY C hr
  subst hl
  subst hY
  show Zj X S [some (.int (nI a)), some (.int (nI b)), none, none, none, none] 0 []
  refine z_iload0 C dX7_commonDivisor_0 ?_
  refine z_istore2 C dX7_commonDivisor_1 nl_i ?_
  refine z_iload1 C dX7_commonDivisor_2 ?_
  refine z_istore3 C dX7_commonDivisor_3 nl_i ?_
  refine z_iconstN 0 C dX7_commonDivisor_4 ?_
  refine z_istore4 C dX7_commonDivisor_5 nl_i ?_
  refine lp_X7_gcd C 64 S 0 a b none (by omega) ha (Nat.lt_trans hb (by decide)) (fun b2 i2 d2 => ?_)
  rw [eu_gcd 20 a b 64 hb (by decide)]
  refine z_iload2 C dX7_commonDivisor_34 ?_
  exact z_iret C dX7_commonDivisor_35 hr rfl rfl rfl

set_option maxRecDepth 20000 in
theorem fl_X7_chanceOf_10 : FL RX7 wsX7_chanceOf 10 7 0 := ⟨RX7, TX7, 12, rfl, (fun w h => List.mem_cons_of_mem _ (List.mem_append_left _ (List.mem_append_right _ h))), by decide, by decide +kernel⟩
theorem md_X2_sentSet : MD yX2_sentSet wsX2_sentSet 0 3 (some .int) := ⟨_, _, rfl, by decide, by decide +kernel, by decide +kernel, by decide +kernel⟩
set_option maxRecDepth 20000 in
theorem fl_X7_chanceOf_42 : FL RX7 wsX7_chanceOf 42 7 7 := ⟨RX7, TX7, 12, rfl, (fun w h => List.mem_cons_of_mem _ (List.mem_append_left _ (List.mem_append_right _ h))), by decide, by decide +kernel⟩
theorem md_J6_bitCount_0f7a4 : MD yJ6_bitCount_0f7a4 wsJ6_bitCount_0f7a4 1 1 (some .int) := ⟨_, _, rfl, by decide, by decide +kernel, by decide +kernel, by decide +kernel⟩
theorem md_X7_power : MD yX7_power wsX7_power 2 4 (some .int) := ⟨_, _, rfl, by decide, by decide +kernel, by decide +kernel, by decide +kernel⟩
set_option maxHeartbeats 4000000 in
set_option maxRecDepth 100000 in
theorem c_X7_chanceOf {l : Launch} {Y : LY} {S : GS} {V : VR} (h : HC S 26 V) (ho : Ok V) {m c a : Nat} (hm : m ≤ 6) (hc : c ≤ 10) (ha : a < 2 ^ V 0 1) : CtP l yX7_chanceOf wsX7_chanceOf 5 Y [.ref (ad Y 0), .int (nI a), .int (nI m), .int (nI c)] S (fun r u => r = nI (chN V m c a) ∧ Fr scr S u) := by
  refine mkP (cc := cX7_chanceOf) (maxL := 5) rfl rfl (Nat.le_of_ble_eq_true rfl) ?_
  intro X hl hY C hr
  subst hl
  subst hY
  have hM : S.1 26 0 = nI (V 0 0) := h.1 0 (by decide)
  have hK : S.1 26 1 = nI (V 0 1) := h.1 1 (by decide)
  have o1 := ho.1
  have o2 := ho.2.1
  have a32 : a < 32 := Nat.lt_of_lt_of_le ha (Nat.le_trans (Nat.pow_le_pow_right (by decide) o2) (by decide))
  have b32 : bset (sentP V) (V 0 1) < 32 := bset_32 o2
  obtain ⟨w1, w2⟩ := HC_PD (ill := nI a) (HC_bec dis_tn h ho) ho
  have wf : Fr scr S (cPD (cBec S 42 26) 42 (nI a) (V 0 1)) := fr_tr (cBec_fr.tr cPD_fr)
  show Zj X S [some (.ref (ad (xY X) 0)), some (.int (nI a)), some (.int (nI m)), some (.int (nI c)), none] 0 []
  refine z_aload0 C dX7_chanceOf_0 ?_
  refine z_get C dX7_chanceOf_1 fl_X7_chanceOf_10 (k_EM _) rfl ?_
  refine z_callVI C dX7_chanceOf_4 (c_X2_sentSet isR_now o2 hK) gX7_chanceOf_X2_sentSet md_X2_sentSet rfl (by decide) (k_Rock _ isR_now) rfl rfl rfl (Nat.le_of_ble_eq_true rfl) ?_
  refine z_top C (sentV_c h ho) ?_
  refine z_istore4 C dX7_chanceOf_7 nl_i ?_
  refine z_iload1 C dX7_chanceOf_9 ?_
  refine z_iload4 C dX7_chanceOf_10 ?_
  refine z_iconst (v := (-1)) C dX7_chanceOf_12 (by decide) ?_
  refine z_ixor C dX7_chanceOf_13 ?_
  refine z_iand C dX7_chanceOf_14 ?_
  refine z_top C (andn a32 b32) ?_
  refine z_if_eqN C 20 dX7_chanceOf_15 (by decide) (by omega) (fun c15 => ?_) (fun c15 => ?_)
  · refine z_aload0 C dX7_chanceOf_20 ?_
    refine z_get C dX7_chanceOf_21 fl_X7_chanceOf_42 (k_EM _) rfl ?_
    refine z_aload0 C dX7_chanceOf_24 ?_
    refine z_get C dX7_chanceOf_25 fl_X7_chanceOf_10 (k_EM _) rfl ?_
    refine z_callVV C dX7_chanceOf_28 (c_X2_become isR_trial isR_now) gX7_chanceOf_X2_become md_X2_become rfl (by decide) (k_Rock _ isR_trial) rfl rfl rfl (Nat.le_of_ble_eq_true rfl) ?_
    refine z_aload0 C dX7_chanceOf_31 ?_
    refine z_get C dX7_chanceOf_32 fl_X7_chanceOf_42 (k_EM _) rfl ?_
    refine z_iload1 C dX7_chanceOf_35 ?_
    refine z_callVV C dX7_chanceOf_36 (c_X2_passDay isR_trial o2 ((HC_bec dis_tn h ho).1 1 (by decide)) (HC_sOk (HC_bec dis_tn h ho) ho)) gX7_chanceOf_X2_passDay md_X2_passDay rfl (by decide) (k_Rock _ isR_trial) rfl rfl rfl (Nat.le_of_ble_eq_true rfl) ?_
    refine z_aload0 C dX7_chanceOf_39 ?_
    refine z_get C dX7_chanceOf_40 fl_X7_chanceOf_42 (k_EM _) rfl ?_
    refine z_callVI C dX7_chanceOf_43 (c_X2_goneSet isR_trial w2.1 (w1.1 0 (by decide))) gX7_chanceOf_X2_goneSet md_X2_goneSet rfl (by decide) (k_Rock _ isR_trial) rfl rfl rfl (Nat.le_of_ble_eq_true rfl) ?_
    refine z_top C ((goneV_c w1 w2).trans (goneV_gN w2)) ?_
    refine z_callSI C dX7_chanceOf_46 (c_J6_bitCount_0f7a4 (gN_lt w2)) gX7_chanceOf_J6_bitCount_0f7a4 md_J6_bitCount_0f7a4 (by decide) rfl rfl (Nat.le_of_ble_eq_true rfl) ?_
    refine z_iload2 C dX7_chanceOf_49 ?_
    refine z_icmp_geN C 55 dX7_chanceOf_50 (by decide) (by have := popc_le (gN (vPD V (nI a))); omega) (by omega) (fun c50 => ?_) (fun c50 => ?_)
    · refine z_iload3 C dX7_chanceOf_55 ?_
      refine z_iload1 C dX7_chanceOf_56 ?_
      refine z_callSI C dX7_chanceOf_57 (c_J6_bitCount_0f7a4 (by omega)) gX7_chanceOf_J6_bitCount_0f7a4 md_J6_bitCount_0f7a4 (by decide) rfl rfl (Nat.le_of_ble_eq_true rfl) ?_
      refine z_callSI C dX7_chanceOf_60 (c_X7_power (by have := popc_le a; omega)) gX7_chanceOf_X7_power md_X7_power (by decide) rfl rfl (Nat.le_of_ble_eq_true rfl) ?_
      refine z_bipush (v := nI 10) C dX7_chanceOf_63 (by decide) ?_
      refine z_iload3 C dX7_chanceOf_65 ?_
      refine z_isubN C dX7_chanceOf_66 hc ?_
      refine z_iload4 C dX7_chanceOf_67 ?_
      refine z_iload1 C dX7_chanceOf_69 ?_
      refine z_iconst (v := (-1)) C dX7_chanceOf_70 (by decide) ?_
      refine z_ixor C dX7_chanceOf_71 ?_
      refine z_iand C dX7_chanceOf_72 ?_
      refine z_top C (andn b32 a32) ?_
      refine z_callSI C dX7_chanceOf_73 (c_J6_bitCount_0f7a4 (Nat.lt_of_le_of_lt (Nat.sub_le _ _) (by omega))) gX7_chanceOf_J6_bitCount_0f7a4 md_J6_bitCount_0f7a4 (by decide) rfl rfl (Nat.le_of_ble_eq_true rfl) ?_
      refine z_callSI C dX7_chanceOf_76 (c_X7_power (by have := popc_le (bset (sentP V) (V 0 1) - (bset (sentP V) (V 0 1) &&& a)); omega)) gX7_chanceOf_X7_power md_X7_power (by decide) rfl rfl (Nat.le_of_ble_eq_true rfl) ?_
      refine z_imulN C dX7_chanceOf_79 ?_
      exact z_iretP C dX7_chanceOf_80 hr rfl ⟨by unfold chN; rw [if_neg (by omega), wV_c o2 ha, if_pos (by omega)], wf⟩
    · refine z_iconstN 0 C dX7_chanceOf_53 ?_
      exact z_iretP C dX7_chanceOf_54 hr rfl ⟨by unfold chN; rw [if_pos (by omega)], wf⟩
  · refine z_iconstN 0 C dX7_chanceOf_18 ?_
    exact z_iretP C dX7_chanceOf_19 hr rfl ⟨by unfold chN; split; rfl; rw [wV_c o2 ha, if_neg (by omega)], Fr.rf⟩

theorem mx1 {g : Nat} (h : 0 < g) (h2 : g < 2 ^ 31) : (if nI 1 < nI g then nI g else nI 1) = nI g := by
  by_cases c : g = 1
  · subst c
    rfl
  · rw [if_pos (nI_lt (by omega) h2)]

set_option maxRecDepth 20000 in
theorem fl_X7_slip_10 : FL RX7 wsX7_slip 10 7 0 := ⟨RX7, TX7, 12, rfl, (fun w h => List.mem_cons_of_mem _ (List.mem_append_left _ (List.mem_append_right _ h))), by decide, by decide +kernel⟩
theorem md_X7_commonDivisor : MD yX7_commonDivisor wsX7_commonDivisor 2 6 (some .int) := ⟨_, _, rfl, by decide, by decide +kernel, by decide +kernel, by decide +kernel⟩
theorem mm_X7_slip_246 : Cond.methodLink RX7 246 Lib.Math.max.name ∈ wsX7_slip ∧ Cond.static Lib.Math.max.name ∈ wsX7_slip ∧ Cond.initialized "java/lang/Math" ∈ wsX7_slip ∧ Cond.code Lib.Math.max.name Lib.Math.max.code 2 (some .int) ∈ wsX7_slip := by decide +kernel
theorem md_X7_chanceOf : MD yX7_chanceOf wsX7_chanceOf 3 5 (some .int) := ⟨_, _, rfl, by decide, by decide +kernel, by decide +kernel, by decide +kernel⟩
set_option maxHeartbeats 4000000 in
set_option maxRecDepth 100000 in
theorem lp_X7_slip {X : CX} {S : GS} {V : VR} {m c : Nat} {z : Int32} (hm : m ≤ 6) (hc : c ≤ 10) (hz : inB z 0 1) (ho : Ok V) (hr : RtP X .int (fun r u => r = aSlip V (nI m) (nI c) z ∧ Fr scr S u)) (C : Cx X cX7_slip RX7 wsX7_slip 6) : ∀ (n : Nat) (a u : Nat) (T : GS), a + n = 2 ^ V 0 1 → HC T 26 V → Fr scr S T → upN V m c = upF V m c n a u → Zj X T [some (.ref (ad (xY X) 0)), some (.int (nI (m))), some (.int (nI (c))), some (.int (z)), some (.int (nI (u))), some (.int (nI (2 ^ V 0 1))), some (.int (nI (a))), none] 48 [] := by
  intro n
  induction n with
  | zero =>
    intro a u T ha h hf hg
    have o1 := ho.1
    have o2 := ho.2.1
    have n32 : 2 ^ V 0 1 ≤ 32 := Nat.le_trans (Nat.pow_le_pow_right (by decide) o2) (by decide)
    have hK : T.1 26 1 = nI (V 0 1) := h.1 1 (by decide)
    have hu : upN V m c = u := hg
    subst hu
    have hul := upN_lt (m := m) o2 hc
    have hdn := dnN_in o2
    have hgp : 0 < Nat.gcd (upN V m c) (dnN V) := Nat.gcd_pos_of_pos_right _ hdn.1
    have hgl : Nat.gcd (upN V m c) (dnN V) ≤ dnN V := Nat.le_of_dvd hdn.1 (Nat.gcd_dvd_right _ _)
    refine z_iload6 C dX7_slip_48 ?_
    refine z_iload5 C dX7_slip_50 ?_
    refine z_icmp_geN C 74 dX7_slip_52 (by decide) (by omega) (by omega) (fun c52 => ?_) (fun c52 => ?_)
    · refine z_bipush (v := nI 10) C dX7_slip_74 (by decide) ?_
      refine z_aload0 C dX7_slip_76 ?_
      refine z_get C dX7_slip_77 fl_X7_slip_10 (k_EM _) rfl ?_
      refine z_callVI C dX7_slip_80 (c_X2_sentSet isR_now o2 hK) gX7_slip_X2_sentSet md_X2_sentSet rfl (by decide) (k_Rock _ isR_now) rfl rfl rfl (Nat.le_of_ble_eq_true rfl) ?_
      refine z_top C (sentV_c h ho) ?_
      refine z_callSI C dX7_slip_83 (c_J6_bitCount_0f7a4 (by have := bset_32 (P := sentP V) o2; omega)) gX7_slip_J6_bitCount_0f7a4 md_J6_bitCount_0f7a4 (by decide) rfl rfl (Nat.le_of_ble_eq_true rfl) ?_
      refine z_callSI C dX7_slip_86 (c_X7_power (by have := popc_le (bset (sentP V) (V 0 1)); omega)) gX7_slip_X7_power md_X7_power (by decide) rfl rfl (Nat.le_of_ble_eq_true rfl) ?_
      refine z_top (y := nI (dnN V)) C (by rw [popc_bset _ (by omega)]; rfl) ?_
      refine z_istore6 C dX7_slip_89 nl_i ?_
      refine z_iconstN 1 C dX7_slip_91 ?_
      refine z_iload4 C dX7_slip_92 ?_
      refine z_iload6 C dX7_slip_94 ?_
      refine z_callSI C dX7_slip_96 (c_X7_commonDivisor (by omega) (Nat.lt_of_le_of_lt hdn.2 (by decide))) gX7_slip_X7_commonDivisor md_X7_commonDivisor (by decide) rfl rfl (Nat.le_of_ble_eq_true rfl) ?_
      refine z_mmax C dX7_slip_99 mm_X7_slip_246.1 mm_X7_slip_246.2.1 mm_X7_slip_246.2.2.1 mm_X7_slip_246.2.2.2 (by decide) (Nat.le_of_ble_eq_true rfl) ?_
      refine z_top (y := nI (Nat.gcd (upN V m c) (dnN V))) C (mx1 hgp (by omega)) ?_
      refine z_istore7 C dX7_slip_102 nl_i ?_
      refine z_iload3 C dX7_slip_104 ?_
      refine z_if_ne C 116 dX7_slip_105 (by decide) (fun c105 => ?_) (fun c105 => ?_)
      · refine z_iload6 C dX7_slip_116 ?_
        refine z_iload7 C dX7_slip_118 ?_
        refine z_idivN C dX7_slip_120 (by omega) hgp (by omega) ?_
        exact z_iretP C dX7_slip_121 hr rfl ⟨by rw [aSlip_y hm hc hz, if_neg c105], hf⟩
      · refine z_iload4 C dX7_slip_108 ?_
        refine z_iload7 C dX7_slip_110 ?_
        refine z_idivN C dX7_slip_112 (by omega) hgp (by omega) ?_
        refine z_goto C 121 dX7_slip_113 (by decide) ?_
        exact z_iretP C dX7_slip_121 hr rfl ⟨by rw [aSlip_y hm hc hz, if_pos c105], hf⟩
    · exact absurd c52 (by omega)
  | succ n ih =>
    intro a u T ha h hf hg
    have o1 := ho.1
    have o2 := ho.2.1
    have n32 : 2 ^ V 0 1 ≤ 32 := Nat.le_trans (Nat.pow_le_pow_right (by decide) o2) (by decide)
    have hK : T.1 26 1 = nI (V 0 1) := h.1 1 (by decide)
    refine z_iload6 C dX7_slip_48 ?_
    refine z_iload5 C dX7_slip_50 ?_
    refine z_icmp_geN C 74 dX7_slip_52 (by decide) (by omega) (by omega) (fun c52 => ?_) (fun c52 => ?_)
    · exact absurd c52 (by omega)
    · refine z_iload4 C dX7_slip_55 ?_
      refine z_aload0 C dX7_slip_57 ?_
      refine z_iload6 C dX7_slip_58 ?_
      refine z_iload1 C dX7_slip_60 ?_
      refine z_iload2 C dX7_slip_61 ?_
      refine z_callVP C dX7_slip_62 (c_X7_chanceOf h ho hm hc (by omega)) gX7_slip_X7_chanceOf md_X7_chanceOf rfl (by decide) (k_EM _) rfl rfl rfl (Nat.le_of_ble_eq_true rfl) ?_
      intro r0 S0 hS0
      obtain ⟨rfl, hf0⟩ := hS0
      refine z_iaddN C dX7_slip_65 ?_
      refine z_istore4 C dX7_slip_66 nl_i ?_
      refine z_iinc6 C dX7_slip_68 (inc1 _) nl_i ?_
      refine z_goto C 48 dX7_slip_71 (by decide) ?_
      exact ih (a + 1) _ _ (by omega) (HC_fr h hf0 (fun o h1 h2 h3 => by omega)) (hf.tr hf0) hg

set_option maxRecDepth 20000 in
theorem fl_X7_slip_86 : FL RX7 wsX7_slip 86 2 1 := ⟨RX2, TX2, 12, rfl, (fun w h => List.mem_cons_of_mem _ (List.mem_append_right _ h)), by decide, by decide +kernel⟩
set_option maxHeartbeats 4000000 in
set_option maxRecDepth 100000 in
theorem c_X7_slip {l : Launch} {Y : LY} {S : GS} {V : VR} (h : HC S 26 V) (ho : Ok V) {x y z : Int32} : CtP l yX7_slip wsX7_slip 6 Y [.ref (ad Y 0), .int x, .int y, .int z] S (fun r u => r = aSlip V x y z ∧ Fr scr S u) := by
  refine mkP (cc := cX7_slip) (maxL := 8) rfl rfl (Nat.le_of_ble_eq_true rfl) ?_
  intro X hl hY C hr
  subst hl
  subst hY
  have hM : S.1 26 0 = nI (V 0 0) := h.1 0 (by decide)
  have hK : S.1 26 1 = nI (V 0 1) := h.1 1 (by decide)
  have o1 := ho.1
  have o2 := ho.2.1
  show Zj X S [some (.ref (ad (xY X) 0)), some (.int x), some (.int y), some (.int z), none, none, none, none] 0 []
  refine z_iload1 C dX7_slip_0 ?_
  refine z_iconstN 0 C dX7_slip_1 ?_
  refine z_bipush (v := nI 6) C dX7_slip_2 (by decide) ?_
  refine z_callSI C dX7_slip_4 c_X7_within gX7_slip_X7_within md_X7_within (by decide) rfl rfl (Nat.le_of_ble_eq_true rfl) ?_
  refine z_if_eqB C 29 dX7_slip_7 (by decide) (fun c7 => ?_) (fun c7 => ?_)
  · refine z_iconst (v := (-1)) C dX7_slip_29 (by decide) ?_
    exact z_iretP C dX7_slip_30 hr rfl ⟨by rw [aSlip_n (by rintro ⟨h1, h2, h3⟩; contradiction)], Fr.rf⟩
  · refine z_iload2 C dX7_slip_10 ?_
    refine z_iconstN 0 C dX7_slip_11 ?_
    refine z_bipush (v := nI 10) C dX7_slip_12 (by decide) ?_
    refine z_callSI C dX7_slip_14 c_X7_within gX7_slip_X7_within md_X7_within (by decide) rfl rfl (Nat.le_of_ble_eq_true rfl) ?_
    refine z_if_eqB C 29 dX7_slip_17 (by decide) (fun c17 => ?_) (fun c17 => ?_)
    · refine z_iconst (v := (-1)) C dX7_slip_29 (by decide) ?_
      exact z_iretP C dX7_slip_30 hr rfl ⟨by rw [aSlip_n (by rintro ⟨h1, h2, h3⟩; contradiction)], Fr.rf⟩
    · refine z_iload3 C dX7_slip_20 ?_
      refine z_iconstN 0 C dX7_slip_21 ?_
      refine z_iconstN 1 C dX7_slip_22 ?_
      refine z_callSI C dX7_slip_23 c_X7_within gX7_slip_X7_within md_X7_within (by decide) rfl rfl (Nat.le_of_ble_eq_true rfl) ?_
      refine z_if_neB C 31 dX7_slip_26 (by decide) (fun c26 => ?_) (fun c26 => ?_)
      · obtain ⟨m, -, hm, rfl⟩ := inB_of (by decide) c7 (by decide)
        obtain ⟨c, -, hc, rfl⟩ := inB_of (by decide) c17 (by decide)
        refine z_iconstN 0 C dX7_slip_31 ?_
        refine z_istore4 C dX7_slip_32 nl_i ?_
        refine z_iconstN 1 C dX7_slip_34 ?_
        refine z_aload0 C dX7_slip_35 ?_
        refine z_get C dX7_slip_36 fl_X7_slip_10 (k_EM _) rfl ?_
        refine z_get C dX7_slip_39 fl_X7_slip_86 (k_Rock _ isR_now) rfl ?_
        refine z_top C hK ?_
        refine z_ishl C dX7_slip_42 ?_
        refine z_top C (shl1 (show V 0 1 < 6 by omega)) ?_
        refine z_istore5 C dX7_slip_43 nl_i ?_
        refine z_iconstN 0 C dX7_slip_45 ?_
        refine z_istore6 C dX7_slip_46 nl_i ?_
        exact lp_X7_slip hm hc c26 ho hr C (2 ^ V 0 1) 0 0 _ (by omega) h Fr.rf rfl
      · refine z_iconst (v := (-1)) C dX7_slip_29 (by decide) ?_
        exact z_iretP C dX7_slip_30 hr rfl ⟨by rw [aSlip_n (by rintro ⟨h1, h2, h3⟩; contradiction)], Fr.rf⟩
