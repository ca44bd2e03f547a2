theorem z_genS {X : CX} {S : GS} {lv : List (Option Value)} {pc : Nat} {st : List Value} {P : GS → Prop} (h : P S) (k : ∀ T, P T → Zj X T lv pc st) : Zj X S lv pc st := k S h

set_option maxRecDepth 20000 in
theorem fl_X8_image_211 : FL RX8 wsX8_image 211 8 1 := ⟨RX8, TX8, 15, rfl, (fun w h => List.mem_cons_of_mem _ (List.mem_append_right _ h)), by decide, by decide +kernel⟩
theorem fp_X8_image_211 : FP RX8 wsX8_image 211 8 1 .boolean := ⟨fl_X8_image_211, RX8, TX8, 15, tyX8, rfl, tyX8_ok, nmX8, rfl, by decide +kernel⟩
set_option maxHeartbeats 4000000 in
set_option maxRecDepth 100000 in
theorem c_X8_image {l : Launch} {Y : LY} {S : GS} {b : B3} (hI : IM S b) (hO : OkB b) : CtP l yX8_image wsX8_image 3 Y [.ref (ad Y 178)] S (fun r u => r = nI 1 ∧ IM u b ∧ IMi u b ∧ u.1 178 1 = nI 1 ∧ FrI S u) := by
  refine mkP (cc := cX8_image) (maxL := 1) rfl rfl (Nat.le_of_ble_eq_true rfl) ?_
  intro X hl hY C hr
  subst hl
  subst hY
  show Zj X S [some (.ref (ad (xY X) 178))] 0 []
  refine z_aload0 C dX8_image_0 ?_
  refine z_iconstN 0 C dX8_image_1 ?_
  refine z_sipush (v := nI 293) C dX8_image_2 (by decide) ?_
  refine z_sipush (v := nI 293) C dX8_image_5 (by decide) ?_
  refine z_callVV C dX8_image_8 (c_X8_bring (by omega) (by omega)) gX8_image_X8_bring md_X8_bring rfl (by decide) (k_Model _) rfl rfl rfl (Nat.le_of_ble_eq_true rfl) ?_
  refine z_genS (P := fun T => (IM T b ∧ IMi T b) ∧ Fr om S T) ⟨IM_image hI hO, mBr_fr⟩ (fun T hT => ?_)
  refine z_aload0 C dX8_image_11 ?_
  refine z_iconstN 1 C dX8_image_12 ?_
  refine z_put C dX8_image_13 fp_X8_image_211 (k_Model _) rfl rfl (Nat.le_of_ble_eq_true rfl) rfl ?_
  refine z_iconstN 1 C dX8_image_16 ?_
  exact z_iretP C dX8_image_17 hr rfl (by
    obtain ⟨⟨q1, q2⟩, f⟩ := hT
    have e : (stI T 178 1 (nI 1)).1 179 = T.1 179 := stI_no (by decide)
    unfold IM IMi
    rw [e]
    exact ⟨rfl, q1, q2, stI_me _ _ _ _, fun o z1 z2 => by rw [stI_no z2]; exact f.1 o z1, fun i z => by rw [stI_ni z]; exact congrFun (f.1 178 (by decide)) i, f.2⟩)

set_option maxRecDepth 20000 in
theorem fl_X8_restore_211 : FL RX8 wsX8_restore 211 8 1 := ⟨RX8, TX8, 15, rfl, (fun w h => List.mem_cons_of_mem _ (List.mem_append_right _ h)), by decide, by decide +kernel⟩
set_option maxHeartbeats 4000000 in
set_option maxRecDepth 100000 in
theorem c_X8_restore {l : Launch} {Y : LY} {S : GS} {b : B3} {im : Nat} (hm : im ≤ 1) (h0 : S.1 178 1 = nI im) (hI : im = 1 → IMi S b ∧ OkB b) : CtP l yX8_restore wsX8_restore 3 Y [.ref (ad Y 178)] S (fun r u => (im = 0 ∧ r = -4 ∧ u = S) ∨ (im = 1 ∧ r = nI 1 ∧ IM u b ∧ IMi u b ∧ Fr om S u)) := by
  refine mkP (cc := cX8_restore) (maxL := 1) rfl rfl (Nat.le_of_ble_eq_true rfl) ?_
  intro X hl hY C hr
  subst hl
  subst hY
  show Zj X S [some (.ref (ad (xY X) 178))] 0 []
  refine z_aload0 C dX8_restore_0 ?_
  refine z_get C dX8_restore_1 fl_X8_restore_211 (k_Model _) rfl ?_
  refine z_top C h0 ?_
  refine z_if_neN C 10 dX8_restore_4 (by decide) (by omega) (fun c4 => ?_) (fun c4 => ?_)
  · refine z_aload0 C dX8_restore_10 ?_
    refine z_sipush (v := nI 293) C dX8_restore_11 (by decide) ?_
    refine z_iconstN 0 C dX8_restore_14 ?_
    refine z_sipush (v := nI 293) C dX8_restore_15 (by decide) ?_
    refine z_callVV C dX8_restore_18 (c_X8_bring (by omega) (by omega)) gX8_restore_X8_bring md_X8_bring rfl (by decide) (k_Model _) rfl rfl rfl (Nat.le_of_ble_eq_true rfl) ?_
    refine z_iconstN 1 C dX8_restore_21 ?_
    exact z_iretP C dX8_restore_22 hr rfl (Or.inr (by obtain ⟨z1, z2⟩ := hI (by omega); obtain ⟨q1, q2⟩ := IM_restore z1 z2; exact ⟨by omega, rfl, q1, q2, mBr_fr⟩))
  · refine z_bipush (v := (-4)) C dX8_restore_7 (by decide) ?_
    exact z_iretP C dX8_restore_9 hr rfl (Or.inl ⟨c4, rfl, rfl⟩)
