def mRT (r k m : Nat) : Nat → GS → GS
  | 0, S => S
  | n + 1, S => if mC S r k m then mRT r k m n (mRub S r k m) else S
def mRN (r k m : Nat) : Nat → GS → Nat
  | 0, _ => 0
  | n + 1, S => if mC S r k m then mRN r k m n (mRub S r k m) + 1 else 0
theorem mRT_fr {r k m : Nat} : ∀ (n : Nat) (S : GS), Fr om S (mRT r k m n S) := by
  intro n
  induction n with
  | zero => intro S; exact Fr.rf
  | succ n ih =>
    intro S
    unfold mRT
    split
    · exact mRub_fr.tr (ih _)
    · exact Fr.rf
theorem mRT_far {r k m i : Nat} (hk : k < 5) (hm : m < 6) (h : i < r + 4 ∨ r + 28 ≤ i) : ∀ (n : Nat) (S : GS), (mRT r k m n S).1 179 i = S.1 179 i := by
  intro n
  induction n with
  | zero => intro S; rfl
  | succ n ih =>
    intro S
    unfold mRT
    split
    · rw [ih, mRub_far (by omega) (by omega) (by omega) (by omega) (by omega)]
    · rfl
theorem mRT_M {k m : Nat} (hk : k < 5) (hm : m < 6) (n : Nat) (S : GS) : FrM S (mRT 586 k m n S) := FrM.of (mRT_fr n S) (fun i hi => mRT_far hk hm (by omega) n S)
theorem HW_RT {r k m : Nat} : ∀ (n : Nat) (S : GS) (V : VR), HW (S.1 179) r V → Ok V → k < V 0 1 → m < V 0 0 → HW ((mRT r k m n S).1 179) r (vRT k m n V) ∧ Ok (vRT k m n V) ∧ mRN r k m n S = vRN k m n V := by
  intro n
  induction n with
  | zero => intro S V h ho _ _; exact ⟨h, ho, rfl⟩
  | succ n ih =>
    intro S V h ho hk hm
    have hi := mC_iff h ho hk hm
    unfold mRT mRN vRT vRN
    by_cases c : vC V k m
    · rw [if_pos c, if_pos c, if_pos (hi.mpr c), if_pos (hi.mpr c)]
      obtain ⟨a1, a2, a3⟩ := ih (mRub S r k m) (vRub V k m) (HW_rub h ho hk hm) (Ok_rub ho hk hm) (by rw [vRub_hd (by decide)]; exact hk) (by rw [vRub_hd (by decide)]; exact hm)
      exact ⟨a1, a2, by rw [a3]⟩
    · rw [if_neg c, if_neg c, if_neg (fun z => c (hi.mp z)), if_neg (fun z => c (hi.mp z))]
      exact ⟨h, ho, rfl⟩
theorem vRT_hd {k m i : Nat} (h : i ≠ 3) : ∀ (n : Nat) (V : VR), vRT k m n V 0 i = V 0 i := by
  intro n
  induction n with
  | zero => intro V; rfl
  | succ n ih =>
    intro V
    unfold vRT
    split
    · rw [ih, vRub_hd h]
    · rfl
theorem vRT_far {k m f i : Nat} (h1 : ¬ (f = 1 ∧ i = m)) (h3 : ¬ (f = 3 ∧ i = m)) (h4 : ¬ (f = 4 ∧ i = m)) (h6 : ¬ (f = 6 ∧ i = k)) (h0 : ¬ (f = 0 ∧ i = 3)) : ∀ (n : Nat) (V : VR), vRT k m n V f i = V f i := by
  intro n
  induction n with
  | zero => intro V; rfl
  | succ n ih =>
    intro V
    unfold vRT
    split
    · rw [ih]
      unfold vRub
      rw [if_neg h1, if_neg h3, if_neg h4, if_neg h6, if_neg h0]
    · rfl
/-- twenty rubs end it: wool grows -/
theorem vRT_stop {k m : Nat} : ∀ (n : Nat) (V : VR), 20 ≤ V 4 m + n → ¬ vC (vRT k m n V) k m := by
  intro n
  induction n with
  | zero => intro V h; exact fun z => z.2.2 (by show 20 ≤ V 4 m; omega)
  | succ n ih =>
    intro V h
    unfold vRT
    split
    · refine ih _ ?_
      have : vRub V k m 4 m = rbW V k m := by simp [vRub]
      rw [this]
      have := wolN_in (V 5 k)
      unfold rbW
      omega
    · assumption
theorem vRT_more {k m : Nat} (j : Nat) : ∀ (n : Nat) (V : VR), ¬ vC (vRT k m n V) k m → vRT k m (n + j) V = vRT k m n V := by
  intro n
  induction n with
  | zero =>
    intro V h
    cases j with
    | zero => rfl
    | succ j =>
      rw [Nat.zero_add]
      exact if_neg h
  | succ n ih =>
    intro V h
    rw [show n + 1 + j = (n + j) + 1 by omega]
    unfold vRT
    unfold vRT at h
    by_cases c : vC V k m
    · rw [if_pos c] at h
      rw [if_pos c, if_pos c]
      exact ih _ h
    · rw [if_neg c, if_neg c]
def aNeeds (V : VR) (x y : Int32) : Int32 := if inR x (V 0 1) ∧ inR y (V 0 0) then (if vG (vRT x.toNatClampNeg y.toNatClampNeg 60 V) y.toNatClampNeg then nI (vRN x.toNatClampNeg y.toNatClampNeg 60 V) else -4) else -1
theorem aNeeds_y {V : VR} {k m : Nat} (hk : k < V 0 1) (hm : m < V 0 0) (h5 : V 0 1 ≤ 5) (h6 : V 0 0 ≤ 6) : aNeeds V (nI k) (nI m) = if vG (vRT k m 60 V) m then nI (vRN k m 60 V) else -4 := by
  unfold aNeeds
  rw [if_pos ⟨inR_nI hk (by omega), inR_nI hm (by omega)⟩, nI_clamp (by omega), nI_clamp (by omega)]
theorem aNeeds_n {V : VR} {x y : Int32} (h : ¬ (inR x (V 0 1) ∧ inR y (V 0 0))) : aNeeds V x y = -1 := if_neg h

set_option maxRecDepth 20000 in
theorem fl_X7_needs_42 : FL RX7 wsX7_needs 42 7 7 := ⟨RX7, TX7, 12, rfl, (fun w h => List.mem_cons_of_mem _ (List.mem_append_left _ (List.mem_append_right _ h))), by decide, by decide +kernel⟩
set_option maxRecDepth 20000 in
theorem fl_X7_needs_10 : FL RX7 wsX7_needs 10 7 0 := ⟨RX7, TX7, 12, rfl, (fun w h => List.mem_cons_of_mem _ (List.mem_append_left _ (List.mem_append_right _ h))), by decide, by decide +kernel⟩
theorem md_X2_rubTimes : MD yX2_rubTimes wsX2_rubTimes 3 5 (some .int) := ⟨_, _, rfl, by decide, by decide +kernel, by decide +kernel, by decide +kernel⟩
set_option maxHeartbeats 4000000 in
set_option maxRecDepth 100000 in
theorem c_X7_needs {l : Launch} {Y : LY} {S : GS} {V : VR} (h : HC S 26 V) (ho : Ok V) {x y : Int32} : CtP l yX7_needs wsX7_needs 5 Y [.ref (ad Y 0), .int x, .int y] S (fun r u => r = aNeeds V x y ∧ Fr scr S u) := by
  refine mkP (cc := cX7_needs) (maxL := 4) rfl rfl (Nat.le_of_ble_eq_true rfl) ?_
  intro X hl hY C hr
  subst hl
  subst hY
  have hM : S.1 26 0 = nI (V 0 0) := h.1 0 (by decide)
  have hK : S.1 26 1 = nI (V 0 1) := h.1 1 (by decide)
  have o1 := ho.1
  have o2 := ho.2.1
  show Zj X S [some (.ref (ad (xY X) 0)), some (.int x), some (.int y), none] 0 []
  refine z_aload0 C dX7_needs_0 ?_
  refine z_iload1 C dX7_needs_1 ?_
  refine z_callVI C dX7_needs_2 (c_X7_hasMonk hK) gX7_needs_X7_hasMonk md_X7_hasMonk rfl (by decide) (k_EM _) rfl rfl rfl (Nat.le_of_ble_eq_true rfl) ?_
  refine z_if_eqB C 16 dX7_needs_5 (by decide) (fun c5 => ?_) (fun c5 => ?_)
  · refine z_iconst (v := (-1)) C dX7_needs_16 (by decide) ?_
    exact z_iretP C dX7_needs_17 hr rfl ⟨by rw [aNeeds_n (by rintro ⟨h1, h2⟩; contradiction)], Fr.rf⟩
  · refine z_aload0 C dX7_needs_8 ?_
    refine z_iload2 C dX7_needs_9 ?_
    refine z_callVI C dX7_needs_10 (c_X7_hasMark hM) gX7_needs_X7_hasMark md_X7_hasMark rfl (by decide) (k_EM _) rfl rfl rfl (Nat.le_of_ble_eq_true rfl) ?_
    refine z_if_neB C 18 dX7_needs_13 (by decide) (fun c13 => ?_) (fun c13 => ?_)
    · obtain ⟨k, hk, rfl⟩ := inR_of (by omega) c5
      obtain ⟨m, hm, rfl⟩ := inR_of (by omega) c13
      obtain ⟨q1, q2, q3, q4⟩ := HC_RT (k := k) (m := m) 60 _ V (HC_bec dis_tn h ho) ho hk hm
      have q5 := rG_iff q1 q2 (m := m) (by rw [q4 0 (by decide)]; exact hm)
      refine z_aload0 C dX7_needs_18 ?_
      refine z_get C dX7_needs_19 fl_X7_needs_42 (k_EM _) rfl ?_
      refine z_aload0 C dX7_needs_22 ?_
      refine z_get C dX7_needs_23 fl_X7_needs_10 (k_EM _) rfl ?_
      refine z_callVV C dX7_needs_26 (c_X2_become isR_trial isR_now) gX7_needs_X2_become md_X2_become rfl (by decide) (k_Rock _ isR_trial) rfl rfl rfl (Nat.le_of_ble_eq_true rfl) ?_
      refine z_aload0 C dX7_needs_29 ?_
      refine z_get C dX7_needs_30 fl_X7_needs_42 (k_EM _) rfl ?_
      refine z_iload1 C dX7_needs_33 ?_
      refine z_iload2 C dX7_needs_34 ?_
      refine z_bipush (v := nI 60) C dX7_needs_35 (by decide) ?_
      refine z_callVI C dX7_needs_37 (c_X2_rubTimes isR_trial (by omega) (by omega) (by decide)) gX7_needs_X2_rubTimes md_X2_rubTimes rfl (by decide) (k_Rock _ isR_trial) rfl rfl rfl (Nat.le_of_ble_eq_true rfl) ?_
      refine z_istore3 C dX7_needs_40 nl_i ?_
      refine z_aload0 C dX7_needs_41 ?_
      refine z_get C dX7_needs_42 fl_X7_needs_42 (k_EM _) rfl ?_
      refine z_iload2 C dX7_needs_45 ?_
      refine z_callVI C dX7_needs_46 (c_X2_isGone isR_trial (by omega)) gX7_needs_X2_isGone md_X2_isGone rfl (by decide) (k_Rock _ isR_trial) rfl rfl rfl (Nat.le_of_ble_eq_true rfl) ?_
      refine z_if_eqB C 56 dX7_needs_49 (by decide) (fun c49 => ?_) (fun c49 => ?_)
      · refine z_bipush (v := (-4)) C dX7_needs_56 (by decide) ?_
        exact z_iretP C dX7_needs_58 hr rfl ⟨by rw [aNeeds_y hk hm o2 o1, if_neg (fun z => c49 (q5.mpr z))], fr_tr (cBec_fr.tr (cRT_fr 60 _))⟩
      · refine z_iload3 C dX7_needs_52 ?_
        refine z_goto C 58 dX7_needs_53 (by decide) ?_
        exact z_iretP C dX7_needs_58 hr rfl ⟨by rw [aNeeds_y hk hm o2 o1, if_pos (q5.mp c49), q3], fr_tr (cBec_fr.tr (cRT_fr 60 _))⟩
    · refine z_iconst (v := (-1)) C dX7_needs_16 (by decide) ?_
      exact z_iretP C dX7_needs_17 hr rfl ⟨by rw [aNeeds_n (by rintro ⟨h1, h2⟩; contradiction)], Fr.rf⟩

set_option maxHeartbeats 4000000 in
set_option maxRecDepth 100000 in
theorem lp_X8_needs {X : CX} {k m : Nat} (hk : k < 5) (hm : m < 6) (C : Cx X cX8_needs RX8 wsX8_needs 5) : ∀ (n : Nat) (i : Nat) (T : GS), i + n = 60 → Zj X (mRT 586 k m n T) [some (.ref (ad (xY X) 178)), some (.int (nI (k))), some (.int (nI (m))), some (.int (nI (i + mRN 586 k m n T)))] 57 [] → Zj X T [some (.ref (ad (xY X) 178)), some (.int (nI (k))), some (.int (nI (m))), some (.int (nI (i)))] 24 [] := by
  intro n
  induction n with
  | zero =>
    intro i T hi kk
    refine z_iload3 C dX8_needs_24 ?_
    refine z_bipush (v := nI 60) C dX8_needs_25 (by decide) ?_
    refine z_icmp_geN C 57 dX8_needs_27 (by decide) (by omega) (by omega) (fun c27 => ?_) (fun c27 => ?_)
    · exact kk
    · exact absurd c27 (by omega)
  | succ n ih =>
    intro i T hi kk
    refine z_iload3 C dX8_needs_24 ?_
    refine z_bipush (v := nI 60) C dX8_needs_25 (by decide) ?_
    refine z_icmp_geN C 57 dX8_needs_27 (by decide) (by omega) (by omega) (fun c27 => ?_) (fun c27 => ?_)
    · exact absurd c27 (by omega)
    · refine z_aload0 C dX8_needs_30 ?_
      refine z_sipush (v := nI 586) C dX8_needs_31 (by decide) ?_
      refine z_iload1 C dX8_needs_34 ?_
      refine z_iload2 C dX8_needs_35 ?_
      refine z_callVI C dX8_needs_36 (c_X8_canRub (by omega) (by omega) (by omega)) gX8_needs_X8_canRub md_X8_canRub rfl (by decide) (k_Model _) rfl rfl rfl (Nat.le_of_ble_eq_true rfl) ?_
      refine z_if_eqB C 57 dX8_needs_39 (by decide) (fun c39 => ?_) (fun c39 => ?_)
      · simp only [mRT, mRN, if_neg c39] at kk
        exact kk
      · refine z_aload0 C dX8_needs_42 ?_
        refine z_sipush (v := nI 586) C dX8_needs_43 (by decide) ?_
        refine z_iload1 C dX8_needs_46 ?_
        refine z_iload2 C dX8_needs_47 ?_
        refine z_callVV C dX8_needs_48 (c_X8_rubs (by omega) (by omega) (by omega)) gX8_needs_X8_rubs md_X8_rubs rfl (by decide) (k_Model _) rfl rfl rfl (Nat.le_of_ble_eq_true rfl) ?_
        refine z_iinc3 C dX8_needs_51 (inc1 _) nl_i ?_
        refine z_goto C 24 dX8_needs_54 (by decide) ?_
        simp only [mRT, mRN, if_pos c39] at kk
        exact ih (i + 1) _ (by omega) (by rw [show i + 1 + mRN 586 k m n (mRub T 586 k m) = i + (mRN 586 k m n (mRub T 586 k m) + 1) by omega]; exact kk)

set_option maxHeartbeats 4000000 in
set_option maxRecDepth 100000 in
theorem c_X8_needs {l : Launch} {Y : LY} {S : GS} {V : VR} (h : HW (S.1 179) 0 V) (ho : Ok V) {x y : Int32} : CtP l yX8_needs wsX8_needs 5 Y [.ref (ad Y 178), .int x, .int y] S (fun r u => r = aNeeds V x y ∧ FrM S u) := by
  refine mkP (cc := cX8_needs) (maxL := 4) rfl rfl (Nat.le_of_ble_eq_true rfl) ?_
  intro X hl hY C hr
  subst hl
  subst hY
  have hM : S.1 179 0 = nI (V 0 0) := h.1.1
  have hK : S.1 179 1 = nI (V 0 1) := h.1.2.1
  have o1 := ho.1
  have o2 := ho.2.1
  show Zj X S [some (.ref (ad (xY X) 178)), some (.int x), some (.int y), none] 0 []
  refine z_aload0 C dX8_needs_0 ?_
  refine z_iload1 C dX8_needs_1 ?_
  refine z_callVI C dX8_needs_2 (c_X8_isMonk2 ho.2.1 hK) gX8_needs_X8_isMonk md_X8_isMonk rfl (by decide) (k_Model _) rfl rfl rfl (Nat.le_of_ble_eq_true rfl) ?_
  refine z_if_eqB C 16 dX8_needs_5 (by decide) (fun c5 => ?_) (fun c5 => ?_)
  · refine z_iconst (v := (-1)) C dX8_needs_16 (by decide) ?_
    exact z_iretP C dX8_needs_17 hr rfl ⟨by rw [aNeeds_n (by rintro ⟨h1, h2⟩; contradiction)], FrM.rf⟩
  · refine z_aload0 C dX8_needs_8 ?_
    refine z_iload2 C dX8_needs_9 ?_
    refine z_callVI C dX8_needs_10 (c_X8_isMark2 ho.1 hM) gX8_needs_X8_isMark md_X8_isMark rfl (by decide) (k_Model _) rfl rfl rfl (Nat.le_of_ble_eq_true rfl) ?_
    refine z_if_neB C 18 dX8_needs_13 (by decide) (fun c13 => ?_) (fun c13 => ?_)
    · obtain ⟨k, hk, rfl⟩ := inR_of (by omega) c5
      obtain ⟨m, hm, rfl⟩ := inR_of (by omega) c13
      obtain ⟨q1, q2, q3⟩ := HW_RT (k := k) (m := m) 60 _ V (HW_tr h ho) ho hk hm
      have q5 := mG_iff q1 q2 (m := m) (by rw [vRT_hd (by decide)]; exact hm)
      refine z_aload0 C dX8_needs_18 ?_
      refine z_callVV C dX8_needs_19 c_X8_tries gX8_needs_X8_tries md_X8_tries rfl (by decide) (k_Model _) rfl rfl rfl (Nat.le_of_ble_eq_true rfl) ?_
      refine z_iconstN 0 C dX8_needs_22 ?_
      refine z_istore3 C dX8_needs_23 nl_i ?_
      refine lp_X8_needs (by omega) (by omega) C 60 0 _ (by decide) ?_
      rw [Nat.zero_add]
      refine z_aload0 C dX8_needs_57 ?_
      refine z_sipush (v := nI 586) C dX8_needs_58 (by decide) ?_
      refine z_iload2 C dX8_needs_61 ?_
      refine z_callVI C dX8_needs_62 (c_X8_isGone (by omega) (by omega)) gX8_needs_X8_isGone md_X8_isGone rfl (by decide) (k_Model _) rfl rfl rfl (Nat.le_of_ble_eq_true rfl) ?_
      refine z_if_eqB C 72 dX8_needs_65 (by decide) (fun c65 => ?_) (fun c65 => ?_)
      · refine z_bipush (v := (-4)) C dX8_needs_72 (by decide) ?_
        exact z_iretP C dX8_needs_74 hr rfl ⟨by rw [aNeeds_y hk hm o2 o1, if_neg (fun z => c65 (q5.mpr z))], mTr_fr.tr (mRT_M (by omega) (by omega) 60 _)⟩
      · refine z_iload3 C dX8_needs_68 ?_
        refine z_goto C 74 dX8_needs_69 (by decide) ?_
        exact z_iretP C dX8_needs_74 hr rfl ⟨by rw [aNeeds_y hk hm o2 o1, if_pos (q5.mp c65), q3], mTr_fr.tr (mRT_M (by omega) (by omega) 60 _)⟩
    · refine z_iconst (v := (-1)) C dX8_needs_16 (by decide) ?_
      exact z_iretP C dX8_needs_17 hr rfl ⟨by rw [aNeeds_n (by rintro ⟨h1, h2⟩; contradiction)], FrM.rf⟩
