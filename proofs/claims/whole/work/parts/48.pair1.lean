theorem Fr.P1 {S : GS} {i : Nat} {v : Int32} : Fr (fun o => o = 1) S (stI S 1 i v) := ⟨fun o q => stI_no q, rfl⟩

set_option maxRecDepth 20000 in
theorem fl_X1_isLess_48 : FL RX1 wsX1_isLess 48 1 1 := ⟨RX1, TX1, 4, rfl, (fun w h => List.mem_cons_of_mem _ (List.mem_append_right _ h)), by decide, by decide +kernel⟩
set_option maxRecDepth 20000 in
theorem fl_X1_isLess_49 : FL RX1 wsX1_isLess 49 1 3 := ⟨RX1, TX1, 4, rfl, (fun w h => List.mem_cons_of_mem _ (List.mem_append_right _ h)), by decide, by decide +kernel⟩
set_option maxRecDepth 20000 in
theorem fl_X1_isLess_52 : FL RX1 wsX1_isLess 52 1 2 := ⟨RX1, TX1, 4, rfl, (fun w h => List.mem_cons_of_mem _ (List.mem_append_right _ h)), by decide, by decide +kernel⟩
set_option maxHeartbeats 4000000 in
set_option maxRecDepth 100000 in
theorem c_X1_isLess {l : Launch} {Y : LY} {S : GS} {c r p c0 r0 p0 : Nat} (h1 : S.1 1 1 = nI c0) (h2 : S.1 1 3 = nI r0) (h3 : S.1 1 2 = nI p0) (g1 : c ≤ 198) (g2 : c0 ≤ 198) (g3 : r ≤ 60) (g4 : r0 ≤ 60) (g5 : p < 50) (g6 : p0 ≤ p) : CtI l yX1_isLess wsX1_isLess 1 Y [.ref (ad Y 1), .int (nI c), .int (nI r), .int (nI p)] S (bi (c < c0 ∨ (c = c0 ∧ r < r0))) (S) := by
  refine mkI (cc := cX1_isLess) (maxL := 4) rfl rfl (Nat.le_of_ble_eq_true rfl) ?_
  intro X hl hY C hr
  subst hl
  subst hY
  show Zj X S [some (.ref (ad (xY X) 1)), some (.int (nI c)), some (.int (nI r)), some (.int (nI p))] 0 []
  refine z_iload1 C dX1_isLess_0 ?_
  refine z_aload0 C dX1_isLess_1 ?_
  refine z_get C dX1_isLess_2 fl_X1_isLess_48 (k_Pair _) rfl ?_
  refine z_top C h1 ?_
  refine z_icmp_eqN C 22 dX1_isLess_5 (by decide) (by omega) (by omega) (fun c5 => ?_) (fun c5 => ?_)
  · refine z_iload2 C dX1_isLess_22 ?_
    refine z_aload0 C dX1_isLess_23 ?_
    refine z_get C dX1_isLess_24 fl_X1_isLess_49 (k_Pair _) rfl ?_
    refine z_top C h2 ?_
    refine z_icmp_eqN C 46 dX1_isLess_27 (by decide) (by omega) (by omega) (fun c27 => ?_) (fun c27 => ?_)
    · refine z_iload3 C dX1_isLess_46 ?_
      refine z_aload0 C dX1_isLess_47 ?_
      refine z_get C dX1_isLess_48 fl_X1_isLess_52 (k_Pair _) rfl ?_
      refine z_top C h3 ?_
      refine z_icmp_geN C 58 dX1_isLess_51 (by decide) (by omega) (by omega) (fun c51 => ?_) (fun c51 => ?_)
      · refine z_iconstN 0 C dX1_isLess_58 ?_
        exact z_iret C dX1_isLess_59 hr bi_nar (b0 (by omega)) rfl
      · refine z_iconstN 1 C dX1_isLess_54 ?_
        refine z_goto C 59 dX1_isLess_55 (by decide) ?_
        exact z_iret C dX1_isLess_59 hr bi_nar (b1 (by omega)) rfl
    · refine z_iload2 C dX1_isLess_30 ?_
      refine z_aload0 C dX1_isLess_31 ?_
      refine z_get C dX1_isLess_32 fl_X1_isLess_49 (k_Pair _) rfl ?_
      refine z_top C h2 ?_
      refine z_icmp_geN C 42 dX1_isLess_35 (by decide) (by omega) (by omega) (fun c35 => ?_) (fun c35 => ?_)
      · refine z_iconstN 0 C dX1_isLess_42 ?_
        refine z_goto C 59 dX1_isLess_43 (by decide) ?_
        exact z_iret C dX1_isLess_59 hr bi_nar (b0 (by omega)) rfl
      · refine z_iconstN 1 C dX1_isLess_38 ?_
        refine z_goto C 59 dX1_isLess_39 (by decide) ?_
        exact z_iret C dX1_isLess_59 hr bi_nar (b1 (by omega)) rfl
  · refine z_iload1 C dX1_isLess_8 ?_
    refine z_aload0 C dX1_isLess_9 ?_
    refine z_get C dX1_isLess_10 fl_X1_isLess_48 (k_Pair _) rfl ?_
    refine z_top C h1 ?_
    refine z_icmp_geN C 20 dX1_isLess_13 (by decide) (by omega) (by omega) (fun c13 => ?_) (fun c13 => ?_)
    · refine z_iconstN 0 C dX1_isLess_20 ?_
      exact z_iret C dX1_isLess_21 hr bi_nar (b0 (by omega)) rfl
    · refine z_iconstN 1 C dX1_isLess_16 ?_
      refine z_goto C 21 dX1_isLess_17 (by decide) ?_
      exact z_iret C dX1_isLess_21 hr bi_nar (b1 (by omega)) rfl

set_option maxRecDepth 20000 in
theorem fl_X1_weigh_9 : FL RX1 wsX1_weigh 9 1 0 := ⟨RX1, TX1, 4, rfl, (fun w h => List.mem_cons_of_mem _ (List.mem_append_right _ h)), by decide, by decide +kernel⟩
theorem fp_X1_weigh_9 : FP RX1 wsX1_weigh 9 1 0 .boolean := ⟨fl_X1_weigh_9, RX1, TX1, 4, tyX1, rfl, tyX1_ok, nmX1, rfl, by decide +kernel⟩
set_option maxRecDepth 20000 in
theorem fl_X1_weigh_48 : FL RX1 wsX1_weigh 48 1 1 := ⟨RX1, TX1, 4, rfl, (fun w h => List.mem_cons_of_mem _ (List.mem_append_right _ h)), by decide, by decide +kernel⟩
theorem fp_X1_weigh_48 : FP RX1 wsX1_weigh 48 1 1 .int := ⟨fl_X1_weigh_48, RX1, TX1, 4, tyX1, rfl, tyX1_ok, nmX1, rfl, by decide +kernel⟩
set_option maxRecDepth 20000 in
theorem fl_X1_weigh_49 : FL RX1 wsX1_weigh 49 1 3 := ⟨RX1, TX1, 4, rfl, (fun w h => List.mem_cons_of_mem _ (List.mem_append_right _ h)), by decide, by decide +kernel⟩
theorem fp_X1_weigh_49 : FP RX1 wsX1_weigh 49 1 3 .int := ⟨fl_X1_weigh_49, RX1, TX1, 4, tyX1, rfl, tyX1_ok, nmX1, rfl, by decide +kernel⟩
set_option maxRecDepth 20000 in
theorem fl_X1_weigh_52 : FL RX1 wsX1_weigh 52 1 2 := ⟨RX1, TX1, 4, rfl, (fun w h => List.mem_cons_of_mem _ (List.mem_append_right _ h)), by decide, by decide +kernel⟩
theorem fp_X1_weigh_52 : FP RX1 wsX1_weigh 52 1 2 .int := ⟨fl_X1_weigh_52, RX1, TX1, 4, tyX1, rfl, tyX1_ok, nmX1, rfl, by decide +kernel⟩
theorem md_X1_isLess : MD yX1_isLess wsX1_isLess 3 4 (some .boolean) := ⟨_, _, rfl, by decide, by decide +kernel, by decide +kernel, by decide +kernel⟩
set_option maxHeartbeats 4000000 in
set_option maxRecDepth 100000 in
theorem c_X1_weigh {l : Launch} {Y : LY} {S : GS} {c r p : Nat} {s : PS4} (h : HP S s) (g1 : c ≤ 198) (g3 : r ≤ 60) (g5 : p < 50) (hp : s.1 = 1 → s.2.2.2 ≤ p) : CtR l yX1_weigh wsX1_weigh 2 Y [.ref (ad Y 1), .int (nI c), .int (nI r), .int (nI p)] S (fun u => HP u (psW s c r p) ∧ Fr (fun o => o = 1) S u) := by
  refine mkR (cc := cX1_weigh) (maxL := 4) rfl rfl (Nat.le_of_ble_eq_true rfl) ?_
  intro X hl hY C hr
  subst hl
  subst hY
  have hs1 := h.2.1
  show Zj X S [some (.ref (ad (xY X) 1)), some (.int (nI c)), some (.int (nI r)), some (.int (nI p))] 0 []
  refine z_aload0 C dX1_weigh_0 ?_
  refine z_get C dX1_weigh_1 fl_X1_weigh_9 (k_Pair _) rfl ?_
  refine z_top C h.1 ?_
  refine z_if_eqN C 17 dX1_weigh_4 (by decide) (by omega) (fun c4 => ?_) (fun c4 => ?_)
  · refine z_aload0 C dX1_weigh_17 ?_
    refine z_iconstN 1 C dX1_weigh_18 ?_
    refine z_put C dX1_weigh_19 fp_X1_weigh_9 (k_Pair _) rfl rfl (Nat.le_of_ble_eq_true rfl) rfl ?_
    refine z_aload0 C dX1_weigh_22 ?_
    refine z_iload1 C dX1_weigh_23 ?_
    refine z_put C dX1_weigh_24 fp_X1_weigh_48 (k_Pair _) rfl rfl (Nat.le_of_ble_eq_true rfl) rfl ?_
    refine z_aload0 C dX1_weigh_27 ?_
    refine z_iload2 C dX1_weigh_28 ?_
    refine z_put C dX1_weigh_29 fp_X1_weigh_49 (k_Pair _) rfl rfl (Nat.le_of_ble_eq_true rfl) rfl ?_
    refine z_aload0 C dX1_weigh_32 ?_
    refine z_iload3 C dX1_weigh_33 ?_
    refine z_put C dX1_weigh_34 fp_X1_weigh_52 (k_Pair _) rfl rfl (Nat.le_of_ble_eq_true rfl) rfl ?_
    exact z_vretR C dX1_weigh_37 hr (by
    have hy : psB s c r → HP (stI (stI (stI (stI S 1 0 (nI 1)) 1 1 (nI c)) 1 3 (nI r)) 1 2 (nI p)) (psW s c r p) := by
      intro z
      unfold psW
      rw [if_pos z]
      refine ⟨?_, Nat.le_refl _, fun _ => ⟨?_, ?_, ?_, g1, g3⟩⟩
      · rw [stI_ni (by decide), stI_ni (by decide), stI_ni (by decide), stI_me]
      · rw [stI_ni (by decide), stI_ni (by decide), stI_me]
      · rw [stI_ni (by decide), stI_me]
      · rw [stI_me]
    have hf : Fr (fun o => o = 1) S (stI (stI (stI (stI S 1 0 (nI 1)) 1 1 (nI c)) 1 3 (nI r)) 1 2 (nI p)) := ((Fr.P1.tr Fr.P1).tr Fr.P1).tr Fr.P1
    first
    | exact ⟨hy (by unfold psB; omega), hf⟩
    | (refine ⟨?_, Fr.rf⟩
       unfold psW
       rw [if_neg (by unfold psB; omega)]
       exact h))
  · have e1 : s.1 = 1 := by have := h.2.1; omega
    have q := h.2.2 e1
    refine z_aload0 C dX1_weigh_7 ?_
    refine z_iload1 C dX1_weigh_8 ?_
    refine z_iload2 C dX1_weigh_9 ?_
    refine z_iload3 C dX1_weigh_10 ?_
    refine z_callVI C dX1_weigh_11 (c_X1_isLess q.1 q.2.1 q.2.2.1 g1 q.2.2.2.1 g3 q.2.2.2.2 g5 (hp e1)) gX1_weigh_X1_isLess md_X1_isLess rfl (by decide) (k_Pair _) rfl rfl rfl (Nat.le_of_ble_eq_true rfl) ?_
    refine z_if_eqB C 37 dX1_weigh_14 (by decide) (fun c14 => ?_) (fun c14 => ?_)
    · exact z_vretR C dX1_weigh_37 hr (by
    have hy : psB s c r → HP (stI (stI (stI (stI S 1 0 (nI 1)) 1 1 (nI c)) 1 3 (nI r)) 1 2 (nI p)) (psW s c r p) := by
      intro z
      unfold psW
      rw [if_pos z]
      refine ⟨?_, Nat.le_refl _, fun _ => ⟨?_, ?_, ?_, g1, g3⟩⟩
      · rw [stI_ni (by decide), stI_ni (by decide), stI_ni (by decide), stI_me]
      · rw [stI_ni (by decide), stI_ni (by decide), stI_me]
      · rw [stI_ni (by decide), stI_me]
      · rw [stI_me]
    have hf : Fr (fun o => o = 1) S (stI (stI (stI (stI S 1 0 (nI 1)) 1 1 (nI c)) 1 3 (nI r)) 1 2 (nI p)) := ((Fr.P1.tr Fr.P1).tr Fr.P1).tr Fr.P1
    first
    | exact ⟨hy (by unfold psB; omega), hf⟩
    | (refine ⟨?_, Fr.rf⟩
       unfold psW
       rw [if_neg (by unfold psB; omega)]
       exact h))
    · refine z_aload0 C dX1_weigh_17 ?_
      refine z_iconstN 1 C dX1_weigh_18 ?_
      refine z_put C dX1_weigh_19 fp_X1_weigh_9 (k_Pair _) rfl rfl (Nat.le_of_ble_eq_true rfl) rfl ?_
      refine z_aload0 C dX1_weigh_22 ?_
      refine z_iload1 C dX1_weigh_23 ?_
      refine z_put C dX1_weigh_24 fp_X1_weigh_48 (k_Pair _) rfl rfl (Nat.le_of_ble_eq_true rfl) rfl ?_
      refine z_aload0 C dX1_weigh_27 ?_
      refine z_iload2 C dX1_weigh_28 ?_
      refine z_put C dX1_weigh_29 fp_X1_weigh_49 (k_Pair _) rfl rfl (Nat.le_of_ble_eq_true rfl) rfl ?_
      refine z_aload0 C dX1_weigh_32 ?_
      refine z_iload3 C dX1_weigh_33 ?_
      refine z_put C dX1_weigh_34 fp_X1_weigh_52 (k_Pair _) rfl rfl (Nat.le_of_ble_eq_true rfl) rfl ?_
      exact z_vretR C dX1_weigh_37 hr (by
    have hy : psB s c r → HP (stI (stI (stI (stI S 1 0 (nI 1)) 1 1 (nI c)) 1 3 (nI r)) 1 2 (nI p)) (psW s c r p) := by
      intro z
      unfold psW
      rw [if_pos z]
      refine ⟨?_, Nat.le_refl _, fun _ => ⟨?_, ?_, ?_, g1, g3⟩⟩
      · rw [stI_ni (by decide), stI_ni (by decide), stI_ni (by decide), stI_me]
      · rw [stI_ni (by decide), stI_ni (by decide), stI_me]
      · rw [stI_ni (by decide), stI_me]
      · rw [stI_me]
    have hf : Fr (fun o => o = 1) S (stI (stI (stI (stI S 1 0 (nI 1)) 1 1 (nI c)) 1 3 (nI r)) 1 2 (nI p)) := ((Fr.P1.tr Fr.P1).tr Fr.P1).tr Fr.P1
    first
    | exact ⟨hy (by unfold psB; omega), hf⟩
    | (refine ⟨?_, Fr.rf⟩
       unfold psW
       rw [if_neg (by unfold psB; omega)]
       exact h))
