set_option maxRecDepth 20000 in
theorem fl_X0_forget_18 : FL RX0 wsX0_forget 18 0 2 := ⟨RX0, TX0, 3, rfl, (fun w h => List.mem_cons_of_mem _ (List.mem_append_right _ h)), by decide, by decide +kernel⟩
theorem fp_X0_forget_18 : FP RX0 wsX0_forget 18 0 2 .int := ⟨fl_X0_forget_18, RX0, TX0, 3, tyX0, rfl, tyX0_ok, nmX0, rfl, by decide +kernel⟩
set_option maxHeartbeats 4000000 in
set_option maxRecDepth 100000 in
theorem c_X0_forget {l : Launch} {Y : LY} {S : GS}  : CtV l yX0_forget wsX0_forget 1 Y [.ref (ad Y 22)] S (stI S 22 2 (nI 0)) := by
  refine mkV (cc := cX0_forget) (maxL := 1) rfl rfl (Nat.le_of_ble_eq_true rfl) ?_
  intro X hl hY C hr
  subst hl
  subst hY
  show Zj X S [some (.ref (ad (xY X) 22))] 0 []
  refine z_aload0 C dX0_forget_0 ?_
  refine z_iconstN 0 C dX0_forget_1 ?_
  refine z_put C dX0_forget_2 fp_X0_forget_18 (k_Known _) rfl rfl (Nat.le_of_ble_eq_true rfl) rfl ?_
  exact z_vret C dX0_forget_5 hr rfl

def cKr (od j : Nat) : Nat := 50 + 8 * ((od + j) % 8)
theorem cKr_R (od j : Nat) : isR (cKr od j) := isR_known (Nat.mod_lt _ (by decide))
theorem cKr_in (od j : Nat) : 50 ≤ cKr od j ∧ cKr od j + 8 ≤ 114 := by unfold cKr; omega
def cKp (S : GS) (od nu : Nat) : GS := if nu < 8 then stI (cBec S (cKr od nu) 26) 22 2 (nI (nu + 1)) else stI (cBec S (cKr od nu) 26) 22 1 (nI ((od + 1) % 8))
theorem cKp_y {S : GS} {od nu : Nat} (h : nu < 8) : cKp S od nu = stI (cBec S (cKr od nu) 26) 22 2 (nI (nu + 1)) := if_pos h
theorem cKp_n {S : GS} {od nu : Nat} (h : ¬ nu < 8) : cKp S od nu = stI (cBec S (cKr od nu) 26) 22 1 (nI ((od + 1) % 8)) := if_neg h
theorem cBec_22 {S : GS} {od j o : Nat} : (cBec S (cKr od j) o).1 22 = S.1 22 := cBec_fr.1 22 (fun h => by have := cKr_in od j; omega)

set_option maxRecDepth 20000 in
theorem fl_X0_keep_11 : FL RX0 wsX0_keep 11 0 0 := ⟨RX0, TX0, 3, rfl, (fun w h => List.mem_cons_of_mem _ (List.mem_append_left _ (List.mem_append_right _ h))), by decide, by decide +kernel⟩
set_option maxRecDepth 20000 in
theorem fl_X0_keep_22 : FL RX0 wsX0_keep 22 0 1 := ⟨RX0, TX0, 3, rfl, (fun w h => List.mem_cons_of_mem _ (List.mem_append_left _ (List.mem_append_right _ h))), by decide, by decide +kernel⟩
set_option maxRecDepth 20000 in
theorem fl_X0_keep_18 : FL RX0 wsX0_keep 18 0 2 := ⟨RX0, TX0, 3, rfl, (fun w h => List.mem_cons_of_mem _ (List.mem_append_left _ (List.mem_append_right _ h))), by decide, by decide +kernel⟩
theorem fp_X0_keep_22 : FP RX0 wsX0_keep 22 0 1 .int := ⟨fl_X0_keep_22, RX0, TX0, 3, tyX0, rfl, tyX0_ok, nmX0, rfl, by decide +kernel⟩
theorem fp_X0_keep_18 : FP RX0 wsX0_keep 18 0 2 .int := ⟨fl_X0_keep_18, RX0, TX0, 3, tyX0, rfl, tyX0_ok, nmX0, rfl, by decide +kernel⟩
set_option maxHeartbeats 4000000 in
set_option maxRecDepth 100000 in
theorem c_X0_keep {l : Launch} {Y : LY} {S : GS} {od nu : Nat} (ho : od < 8) (hn : nu ≤ 8) (h1 : S.1 22 1 = nI od) (h2 : S.1 22 2 = nI nu) : CtV l yX0_keep wsX0_keep 3 Y [.ref (ad Y 22), .ref (ad Y 26)] S (cKp S od nu) := by
  refine mkV (cc := cX0_keep) (maxL := 2) rfl rfl (Nat.le_of_ble_eq_true rfl) ?_
  intro X hl hY C hr
  subst hl
  subst hY
  show Zj X S [some (.ref (ad (xY X) 22)), some (.ref (ad (xY X) 26))] 0 []
  refine z_aload0 C dX0_keep_0 ?_
  refine z_get C dX0_keep_1 fl_X0_keep_11 (k_Known _) rfl ?_
  refine z_aload0 C dX0_keep_4 ?_
  refine z_get C dX0_keep_5 fl_X0_keep_22 (k_Known _) rfl ?_
  first | refine z_top C h1 ?_ | refine z_top C (show _ = nI od by rw [cBec_22]; exact h1) ?_
  refine z_aload0 C dX0_keep_8 ?_
  refine z_get C dX0_keep_9 fl_X0_keep_18 (k_Known _) rfl ?_
  first | refine z_top C h2 ?_ | refine z_top C (show _ = nI nu by rw [cBec_22]; exact h2) ?_
  refine z_iaddN C dX0_keep_12 ?_
  refine z_bipush (v := nI 8) C dX0_keep_13 (by decide) ?_
  refine z_iremN C dX0_keep_15 (by omega) (by decide) (by decide) ?_
  refine z_aald2 C dX0_keep_16 (k_r23 _) (Nat.mod_lt _ (by decide)) ?_
  refine z_aload1 C dX0_keep_17 ?_
  refine z_callVV C dX0_keep_18 (c_X2_become (cKr_R od nu) isR_now) gX0_keep_X2_become md_X2_become rfl (by decide) (k_Rock _ (isR_known (Nat.mod_lt _ (by decide)))) rfl rfl rfl (Nat.le_of_ble_eq_true rfl) ?_
  refine z_aload0 C dX0_keep_21 ?_
  refine z_get C dX0_keep_22 fl_X0_keep_18 (k_Known _) rfl ?_
  first | refine z_top C h2 ?_ | refine z_top C (show _ = nI nu by rw [cBec_22]; exact h2) ?_
  refine z_bipush (v := nI 8) C dX0_keep_25 (by decide) ?_
  refine z_icmp_geN C 43 dX0_keep_27 (by decide) (by omega) (by omega) (fun c27 => ?_) (fun c27 => ?_)
  · refine z_aload0 C dX0_keep_43 ?_
    refine z_aload0 C dX0_keep_44 ?_
    refine z_get C dX0_keep_45 fl_X0_keep_22 (k_Known _) rfl ?_
    first | refine z_top C h1 ?_ | refine z_top C (show _ = nI od by rw [cBec_22]; exact h1) ?_
    refine z_iconstN 1 C dX0_keep_48 ?_
    refine z_iaddN C dX0_keep_49 ?_
    refine z_bipush (v := nI 8) C dX0_keep_50 (by decide) ?_
    refine z_iremN C dX0_keep_52 (by omega) (by decide) (by decide) ?_
    refine z_put C dX0_keep_53 fp_X0_keep_22 (k_Known _) rfl rfl (Nat.le_of_ble_eq_true rfl) rfl ?_
    exact z_vret C dX0_keep_56 hr (by first | exact (cKp_y c27).symm | exact (cKp_n (by omega)).symm)
  · refine z_aload0 C dX0_keep_30 ?_
    refine z_dup C dX0_keep_31 rfl ?_
    refine z_get C dX0_keep_32 fl_X0_keep_18 (k_Known _) rfl ?_
    first | refine z_top C h2 ?_ | refine z_top C (show _ = nI nu by rw [cBec_22]; exact h2) ?_
    refine z_iconstN 1 C dX0_keep_35 ?_
    refine z_iaddN C dX0_keep_36 ?_
    refine z_put C dX0_keep_37 fp_X0_keep_18 (k_Known _) rfl rfl (Nat.le_of_ble_eq_true rfl) rfl ?_
    refine z_goto C 56 dX0_keep_40 (by decide) ?_
    exact z_vret C dX0_keep_56 hr (by first | exact (cKp_y c27).symm | exact (cKp_n (by omega)).symm)

def cTb (S : GS) (od nu : Nat) : GS := cBec (stI S 22 2 (nI nu)) 26 (cKr od nu)

set_option maxRecDepth 20000 in
theorem fl_X0_takeBack_18 : FL RX0 wsX0_takeBack 18 0 2 := ⟨RX0, TX0, 3, rfl, (fun w h => List.mem_cons_of_mem _ (List.mem_append_left _ (List.mem_append_right _ h))), by decide, by decide +kernel⟩
theorem fp_X0_takeBack_18 : FP RX0 wsX0_takeBack 18 0 2 .int := ⟨fl_X0_takeBack_18, RX0, TX0, 3, tyX0, rfl, tyX0_ok, nmX0, rfl, by decide +kernel⟩
set_option maxRecDepth 20000 in
theorem fl_X0_takeBack_11 : FL RX0 wsX0_takeBack 11 0 0 := ⟨RX0, TX0, 3, rfl, (fun w h => List.mem_cons_of_mem _ (List.mem_append_left _ (List.mem_append_right _ h))), by decide, by decide +kernel⟩
set_option maxRecDepth 20000 in
theorem fl_X0_takeBack_22 : FL RX0 wsX0_takeBack 22 0 1 := ⟨RX0, TX0, 3, rfl, (fun w h => List.mem_cons_of_mem _ (List.mem_append_left _ (List.mem_append_right _ h))), by decide, by decide +kernel⟩
set_option maxHeartbeats 4000000 in
set_option maxRecDepth 100000 in
theorem c_X0_takeBack {l : Launch} {Y : LY} {S : GS} {od nu : Nat} (ho : od < 8) (hn : nu < 8) (h1 : S.1 22 1 = nI od) (h2 : S.1 22 2 = nI (nu + 1)) : CtV l yX0_takeBack wsX0_takeBack 3 Y [.ref (ad Y 22), .ref (ad Y 26)] S (cTb S od nu) := by
  refine mkV (cc := cX0_takeBack) (maxL := 2) rfl rfl (Nat.le_of_ble_eq_true rfl) ?_
  intro X hl hY C hr
  subst hl
  subst hY
  show Zj X S [some (.ref (ad (xY X) 22)), some (.ref (ad (xY X) 26))] 0 []
  refine z_aload0 C dX0_takeBack_0 ?_
  refine z_get C dX0_takeBack_1 fl_X0_takeBack_18 (k_Known _) rfl ?_
  first | refine z_top C h2 ?_ | refine z_top C (stI_me _ _ _ _) ?_
  refine z_if_leN C 38 dX0_takeBack_4 (by decide) (by omega) (fun c4 => ?_) (fun c4 => ?_)
  · exact absurd c4 (by omega)
  · refine z_aload0 C dX0_takeBack_7 ?_
    refine z_dup C dX0_takeBack_8 rfl ?_
    refine z_get C dX0_takeBack_9 fl_X0_takeBack_18 (k_Known _) rfl ?_
    first | refine z_top C h2 ?_ | refine z_top C (stI_me _ _ _ _) ?_
    refine z_iconstN 1 C dX0_takeBack_12 ?_
    refine z_isubN C dX0_takeBack_13 (by omega) ?_
    refine z_put C dX0_takeBack_14 fp_X0_takeBack_18 (k_Known _) rfl rfl (Nat.le_of_ble_eq_true rfl) rfl ?_
    refine z_aload1 C dX0_takeBack_17 ?_
    refine z_aload0 C dX0_takeBack_18 ?_
    refine z_get C dX0_takeBack_19 fl_X0_takeBack_11 (k_Known _) rfl ?_
    refine z_aload0 C dX0_takeBack_22 ?_
    refine z_get C dX0_takeBack_23 fl_X0_takeBack_22 (k_Known _) rfl ?_
    refine z_top C (show _ = nI od by rw [stI_ni (by decide)]; exact h1) ?_
    refine z_aload0 C dX0_takeBack_26 ?_
    refine z_get C dX0_takeBack_27 fl_X0_takeBack_18 (k_Known _) rfl ?_
    first | refine z_top C h2 ?_ | refine z_top C (stI_me _ _ _ _) ?_
    refine z_iaddN C dX0_takeBack_30 ?_
    refine z_bipush (v := nI 8) C dX0_takeBack_31 (by decide) ?_
    refine z_iremN C dX0_takeBack_33 (by omega) (by decide) (by decide) ?_
    refine z_aald2 C dX0_takeBack_34 (k_r23 _) (Nat.mod_lt _ (by decide)) ?_
    refine z_callVV C dX0_takeBack_35 (c_X2_become isR_now (cKr_R od nu)) gX0_takeBack_X2_become md_X2_become rfl (by decide) (k_Rock _ isR_now) rfl rfl rfl (Nat.le_of_ble_eq_true rfl) ?_
    exact z_vret C dX0_takeBack_38 hr rfl

def cKb24 (S : GS) : GS := foldN (fun j T => cBec T (114 + 8 * j) (50 + 8 * j)) 8 0 (stI (stI S 24 1 (S.1 22 1)) 24 2 ((stI S 24 1 (S.1 22 1)).1 22 2))

set_option maxRecDepth 20000 in
theorem fl_X0_become_11 : FL RX0 wsX0_become 11 0 0 := ⟨RX0, TX0, 3, rfl, (fun w h => List.mem_cons_of_mem _ (List.mem_append_left _ (List.mem_append_right _ h))), by decide, by decide +kernel⟩
set_option maxHeartbeats 4000000 in
set_option maxRecDepth 100000 in
theorem lp_X0_become_24 {X : CX}  (C : Cx X cX0_become RX0 wsX0_become 3) : ∀ (n : Nat) (i : Nat) (T : GS), i + n = 8 → Zj X (foldN (fun j T => cBec T (114 + 8 * j) (50 + 8 * j)) n i T) [some (.ref (ad (xY X) 24)), some (.ref (ad (xY X) 22)), some (.int (nI (8)))] 45 [] → Zj X T [some (.ref (ad (xY X) 24)), some (.ref (ad (xY X) 22)), some (.int (nI (i)))] 18 [] := by
  intro n
  induction n with
  | zero =>
    intro i T hi kk
    obtain rfl : i = 8 := by omega
    refine z_iload2 C dX0_become_18 ?_
    refine z_bipush (v := nI 8) C dX0_become_19 (by decide) ?_
    refine z_icmp_geN C 45 dX0_become_21 (by decide) (by omega) (by omega) (fun c21 => ?_) (fun c21 => ?_)
    · exact kk
    · exact absurd c21 (by omega)
  | succ n ih =>
    intro i T hi kk
    refine z_iload2 C dX0_become_18 ?_
    refine z_bipush (v := nI 8) C dX0_become_19 (by decide) ?_
    refine z_icmp_geN C 45 dX0_become_21 (by decide) (by omega) (by omega) (fun c21 => ?_) (fun c21 => ?_)
    · exact absurd c21 (by omega)
    · refine z_aload0 C dX0_become_24 ?_
      refine z_get C dX0_become_25 fl_X0_become_11 (k_Known2 _) rfl ?_
      refine z_iload2 C dX0_become_28 ?_
      refine z_aald2 C dX0_become_29 (k_r25 _) (by omega) ?_
      refine z_aload1 C dX0_become_30 ?_
      refine z_get C dX0_become_31 fl_X0_become_11 (k_Known _) rfl ?_
      refine z_iload2 C dX0_become_34 ?_
      refine z_aald2 C dX0_become_35 (k_r23 _) (by omega) ?_
      refine z_callVV C dX0_become_36 (c_X2_become (isR_iknown (by omega)) (isR_known (by omega))) gX0_become_X2_become md_X2_become rfl (by decide) (k_Rock _ (isR_iknown (by omega))) rfl rfl rfl (Nat.le_of_ble_eq_true rfl) ?_
      refine z_iinc2 C dX0_become_39 (inc1 _) nl_r ?_
      refine z_goto C 18 dX0_become_42 (by decide) ?_
      exact ih (i + 1) _ (by omega) kk

set_option maxRecDepth 20000 in
theorem fl_X0_become_22 : FL RX0 wsX0_become 22 0 1 := ⟨RX0, TX0, 3, rfl, (fun w h => List.mem_cons_of_mem _ (List.mem_append_left _ (List.mem_append_right _ h))), by decide, by decide +kernel⟩
theorem fp_X0_become_22 : FP RX0 wsX0_become 22 0 1 .int := ⟨fl_X0_become_22, RX0, TX0, 3, tyX0, rfl, tyX0_ok, nmX0, rfl, by decide +kernel⟩
set_option maxRecDepth 20000 in
theorem fl_X0_become_18 : FL RX0 wsX0_become 18 0 2 := ⟨RX0, TX0, 3, rfl, (fun w h => List.mem_cons_of_mem _ (List.mem_append_left _ (List.mem_append_right _ h))), by decide, by decide +kernel⟩
theorem fp_X0_become_18 : FP RX0 wsX0_become 18 0 2 .int := ⟨fl_X0_become_18, RX0, TX0, 3, tyX0, rfl, tyX0_ok, nmX0, rfl, by decide +kernel⟩
set_option maxHeartbeats 4000000 in
set_option maxRecDepth 100000 in
theorem c_X0_become_24 {l : Launch} {Y : LY} {S : GS}  : CtV l yX0_become wsX0_become 3 Y [.ref (ad Y 24), .ref (ad Y 22)] S (cKb24 S) := by
  refine mkV (cc := cX0_become) (maxL := 3) rfl rfl (Nat.le_of_ble_eq_true rfl) ?_
  intro X hl hY C hr
  subst hl
  subst hY
  show Zj X S [some (.ref (ad (xY X) 24)), some (.ref (ad (xY X) 22)), none] 0 []
  refine z_aload0 C dX0_become_0 ?_
  refine z_aload1 C dX0_become_1 ?_
  refine z_get C dX0_become_2 fl_X0_become_22 (k_Known _) rfl ?_
  refine z_put C dX0_become_5 fp_X0_become_22 (k_Known2 _) rfl rfl (Nat.le_of_ble_eq_true rfl) rfl ?_
  refine z_aload0 C dX0_become_8 ?_
  refine z_aload1 C dX0_become_9 ?_
  refine z_get C dX0_become_10 fl_X0_become_18 (k_Known _) rfl ?_
  refine z_put C dX0_become_13 fp_X0_become_18 (k_Known2 _) rfl rfl (Nat.le_of_ble_eq_true rfl) rfl ?_
  refine z_iconstN 0 C dX0_become_16 ?_
  refine z_istore2 C dX0_become_17 nl_r ?_
  refine lp_X0_become_24 C 8 0 _ (by decide) ?_
  exact z_vret C dX0_become_45 hr rfl

def cKb22 (S : GS) : GS := foldN (fun j T => cBec T (50 + 8 * j) (114 + 8 * j)) 8 0 (stI (stI S 22 1 (S.1 24 1)) 22 2 ((stI S 22 1 (S.1 24 1)).1 24 2))

set_option maxHeartbeats 4000000 in
set_option maxRecDepth 100000 in
theorem lp_X0_become_22 {X : CX}  (C : Cx X cX0_become RX0 wsX0_become 3) : ∀ (n : Nat) (i : Nat) (T : GS), i + n = 8 → Zj X (foldN (fun j T => cBec T (50 + 8 * j) (114 + 8 * j)) n i T) [some (.ref (ad (xY X) 22)), some (.ref (ad (xY X) 24)), some (.int (nI (8)))] 45 [] → Zj X T [some (.ref (ad (xY X) 22)), some (.ref (ad (xY X) 24)), some (.int (nI (i)))] 18 [] := by
  intro n
  induction n with
  | zero =>
    intro i T hi kk
    obtain rfl : i = 8 := by omega
    refine z_iload2 C dX0_become_18 ?_
    refine z_bipush (v := nI 8) C dX0_become_19 (by decide) ?_
    refine z_icmp_geN C 45 dX0_become_21 (by decide) (by omega) (by omega) (fun c21 => ?_) (fun c21 => ?_)
    · exact kk
    · exact absurd c21 (by omega)
  | succ n ih =>
    intro i T hi kk
    refine z_iload2 C dX0_become_18 ?_
    refine z_bipush (v := nI 8) C dX0_become_19 (by decide) ?_
    refine z_icmp_geN C 45 dX0_become_21 (by decide) (by omega) (by omega) (fun c21 => ?_) (fun c21 => ?_)
    · exact absurd c21 (by omega)
    · refine z_aload0 C dX0_become_24 ?_
      refine z_get C dX0_become_25 fl_X0_become_11 (k_Known _) rfl ?_
      refine z_iload2 C dX0_become_28 ?_
      refine z_aald2 C dX0_become_29 (k_r23 _) (by omega) ?_
      refine z_aload1 C dX0_become_30 ?_
      refine z_get C dX0_become_31 fl_X0_become_11 (k_Known2 _) rfl ?_
      refine z_iload2 C dX0_become_34 ?_
      refine z_aald2 C dX0_become_35 (k_r25 _) (by omega) ?_
      refine z_callVV C dX0_become_36 (c_X2_become (isR_known (by omega)) (isR_iknown (by omega))) gX0_become_X2_become md_X2_become rfl (by decide) (k_Rock _ (isR_known (by omega))) rfl rfl rfl (Nat.le_of_ble_eq_true rfl) ?_
      refine z_iinc2 C dX0_become_39 (inc1 _) nl_r ?_
      refine z_goto C 18 dX0_become_42 (by decide) ?_
      exact ih (i + 1) _ (by omega) kk

set_option maxHeartbeats 4000000 in
set_option maxRecDepth 100000 in
theorem c_X0_become_22 {l : Launch} {Y : LY} {S : GS}  : CtV l yX0_become wsX0_become 3 Y [.ref (ad Y 22), .ref (ad Y 24)] S (cKb22 S) := by
  refine mkV (cc := cX0_become) (maxL := 3) rfl rfl (Nat.le_of_ble_eq_true rfl) ?_
  intro X hl hY C hr
  subst hl
  subst hY
  show Zj X S [some (.ref (ad (xY X) 22)), some (.ref (ad (xY X) 24)), none] 0 []
  refine z_aload0 C dX0_become_0 ?_
  refine z_aload1 C dX0_become_1 ?_
  refine z_get C dX0_become_2 fl_X0_become_22 (k_Known2 _) rfl ?_
  refine z_put C dX0_become_5 fp_X0_become_22 (k_Known _) rfl rfl (Nat.le_of_ble_eq_true rfl) rfl ?_
  refine z_aload0 C dX0_become_8 ?_
  refine z_aload1 C dX0_become_9 ?_
  refine z_get C dX0_become_10 fl_X0_become_18 (k_Known2 _) rfl ?_
  refine z_put C dX0_become_13 fp_X0_become_18 (k_Known _) rfl rfl (Nat.le_of_ble_eq_true rfl) rfl ?_
  refine z_iconstN 0 C dX0_become_16 ?_
  refine z_istore2 C dX0_become_17 nl_r ?_
  refine lp_X0_become_22 C 8 0 _ (by decide) ?_
  exact z_vret C dX0_become_45 hr rfl
