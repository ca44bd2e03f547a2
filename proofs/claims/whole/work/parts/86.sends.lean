theorem Fr.I3 {P : Nat → Prop} {S : GS} {o1 i1 o2 i2 o3 i3 : Nat} {v1 v2 v3 : Int32} (h1 : P o1) (h2 : P o2) (h3 : P o3) : Fr P S (stI (stI (stI S o1 i1 v1) o2 i2 v2) o3 i3 v3) := ((Fr.I h1).tr (Fr.I h2)).tr (Fr.I h3)

set_option maxRecDepth 20000 in
theorem fl_X4_plan_28 : FL RX4 wsX4_plan 28 2 0 := ⟨RX2, TX2, 12, rfl, (fun w h => List.mem_cons_of_mem _ (List.mem_append_right _ h)), by decide, by decide +kernel⟩
set_option maxRecDepth 20000 in
theorem fl_X4_plan_37 : FL RX4 wsX4_plan 37 4 5 := ⟨RX4, TX4, 6, rfl, (fun w h => List.mem_cons_of_mem _ (List.mem_append_left _ (List.mem_append_right _ h))), by decide, by decide +kernel⟩
theorem fp_X4_plan_37 : FP RX4 wsX4_plan 37 4 5 .int := ⟨fl_X4_plan_37, RX4, TX4, 6, tyX4, rfl, tyX4_ok, nmX4, rfl, by decide +kernel⟩
set_option maxRecDepth 20000 in
theorem fl_X4_plan_40 : FL RX4 wsX4_plan 40 2 1 := ⟨RX2, TX2, 12, rfl, (fun w h => List.mem_cons_of_mem _ (List.mem_append_right _ h)), by decide, by decide +kernel⟩
set_option maxRecDepth 20000 in
theorem fl_X4_plan_9 : FL RX4 wsX4_plan 9 4 0 := ⟨RX4, TX4, 6, rfl, (fun w h => List.mem_cons_of_mem _ (List.mem_append_left _ (List.mem_append_right _ h))), by decide, by decide +kernel⟩
theorem md_X4_fatesOf : MD yX4_fatesOf wsX4_fatesOf 4 9 (some .int) := ⟨_, _, rfl, by decide, by decide +kernel, by decide +kernel, by decide +kernel⟩
set_option maxRecDepth 20000 in
theorem fl_X4_plan_15 : FL RX4 wsX4_plan 15 4 1 := ⟨RX4, TX4, 6, rfl, (fun w h => List.mem_cons_of_mem _ (List.mem_append_left _ (List.mem_append_right _ h))), by decide, by decide +kernel⟩
set_option maxRecDepth 20000 in
theorem fl_X4_plan_24 : FL RX4 wsX4_plan 24 4 3 := ⟨RX4, TX4, 6, rfl, (fun w h => List.mem_cons_of_mem _ (List.mem_append_left _ (List.mem_append_right _ h))), by decide, by decide +kernel⟩
theorem fp_X4_plan_24 : FP RX4 wsX4_plan 24 4 3 .int := ⟨fl_X4_plan_24, RX4, TX4, 6, tyX4, rfl, tyX4_ok, nmX4, rfl, by decide +kernel⟩
set_option maxHeartbeats 4000000 in
set_option maxRecDepth 100000 in
theorem lp_X4_plan {X : CX} {S : GS} {V : VR} {N : Nat} (ho : Ok V) (h0 : 0 < V 0 0) (hN : N ≤ 30) (hr : RtR X (fun u => SD u V N (sdAll V N) (fun _ => 0) 0 ∧ Fr scr S u)) (C : Cx X cX4_plan RX4 wsX4_plan 9) : ∀ (n : Nat) (i : Nat) (T : GS), i + n = V 0 0 → HC T 26 V → Fr scr S T → (T.1 5 3 = nI (cntB (fun m => decide (bset (fate V N m) (2 ^ V 0 1) ≠ 0)) i) ∧ (∀ m, m < i → T.1 6 m = nI (bset (fate V N m) (2 ^ V 0 1)) ∧ T.1 7 m = nI 0)) → Zj X T [some (.ref (ad (xY X) 5)), some (.ref (ad (xY X) 26)), some (.ref (ad (xY X) 42)), some (.int (nI (N))), some (.int (nI (i)))] 8 [] := by
  intro n
  induction n with
  | zero =>
    intro i T hi h hf hI
    have o1 := ho.1
    have o2 := ho.2.1
    obtain rfl : i = V 0 0 := by omega
    have hM : T.1 26 0 = nI (V 0 0) := h.1 0 (by decide)
    have hD : SD (stI T 5 5 (-1)) V N (0, 0) (fun _ => 0) 0 := by
      refine ⟨⟨?_, stI_me _ _ _ _, by omega⟩, fun z => absurd z (by decide), fun m hm => ?_, fun m hm => ?_, fun k hk => absurd hk (by omega), fun _ => h0⟩
      · rw [stI_ni (by decide)]; exact hI.1
      · rw [stI_no (by decide)]; exact (hI.2 m hm).1
      · rw [stI_no (by decide)]; exact (hI.2 m hm).2
    refine z_iload4 C dX4_plan_8 ?_
    refine z_aload1 C dX4_plan_10 ?_
    refine z_get C dX4_plan_11 fl_X4_plan_28 (k_Rock _ isR_now) rfl ?_
    first | refine z_top C hM ?_ | refine z_top C (show (stI T 5 5 (-1)).1 26 0 = nI (V 0 0) by rw [stI_no (by decide)]; exact hM) ?_
    refine z_icmp_geN C 70 dX4_plan_14 (by decide) (by omega) (by omega) (fun c14 => ?_) (fun c14 => ?_)
    · refine z_aload0 C dX4_plan_70 ?_
      refine z_iconst (v := (-1)) C dX4_plan_71 (by decide) ?_
      refine z_put C dX4_plan_72 fp_X4_plan_37 (k_Send _) rfl rfl (Nat.le_of_ble_eq_true rfl) rfl ?_
      refine z_aload0 C dX4_plan_75 ?_
      refine z_aload1 C dX4_plan_76 ?_
      refine z_get C dX4_plan_77 fl_X4_plan_28 (k_Rock _ isR_now) rfl ?_
      first | refine z_top C hM ?_ | refine z_top C (show (stI T 5 5 (-1)).1 26 0 = nI (V 0 0) by rw [stI_no (by decide)]; exact hM) ?_
      refine z_aload1 C dX4_plan_80 ?_
      refine z_get C dX4_plan_81 fl_X4_plan_40 (k_Rock _ isR_now) rfl ?_
      refine z_top C (show (stI T 5 5 (-1)).1 26 1 = nI (V 0 1) by rw [stI_no (by decide)]; exact h.1 1 (by decide)) ?_
      refine z_iconstN 0 C dX4_plan_84 ?_
      refine z_callVR C dX4_plan_85 (c_X4_choose ho (V 0 1) 0 (by omega) _ _ _ hD) gX4_plan_X4_choose md_X4_choose rfl (by omega) (k_Send _) rfl rfl rfl (Nat.le_of_ble_eq_true rfl) ?_
      intro S0 hS0
      rw [cdN, Nat.zero_mul] at hS0
      exact z_vretR C dX4_plan_88 hr ⟨hS0.1, hf.tr ((Fr.I (by omega)).tr hS0.2)⟩
    · exact absurd c14 (by omega)
  | succ n ih =>
    intro i T hi h hf hI
    have o1 := ho.1
    have o2 := ho.2.1
    have hM : T.1 26 0 = nI (V 0 0) := h.1 0 (by decide)
    have b32 : bset (fate V N i) (2 ^ V 0 1) < 2 ^ 32 := Nat.lt_of_lt_of_le (bset_lt _ _) (Nat.pow_le_pow_right (by decide) (Nat.le_trans (Nat.pow_le_pow_right (by decide) o2) (by decide)))
    have bz := nI_eq032 b32
    have cl := cntB_le (fun m => decide (bset (fate V N m) (2 ^ V 0 1) ≠ 0)) i
    refine z_iload4 C dX4_plan_8 ?_
    refine z_aload1 C dX4_plan_10 ?_
    refine z_get C dX4_plan_11 fl_X4_plan_28 (k_Rock _ isR_now) rfl ?_
    refine z_top C hM ?_
    refine z_icmp_geN C 70 dX4_plan_14 (by decide) (by omega) (by omega) (fun c14 => ?_) (fun c14 => ?_)
    · exact absurd c14 (by omega)
    · refine z_aload0 C dX4_plan_17 ?_
      refine z_get C dX4_plan_18 fl_X4_plan_9 (k_Send _) rfl ?_
      refine z_iload4 C dX4_plan_21 ?_
      refine z_aload1 C dX4_plan_23 ?_
      refine z_aload2 C dX4_plan_24 ?_
      refine z_iload4 C dX4_plan_25 ?_
      refine z_iload3 C dX4_plan_27 ?_
      refine z_callSP C dX4_plan_28 (c_X4_fatesOf h ho (by omega) hN) gX4_plan_X4_fatesOf md_X4_fatesOf (by decide) rfl rfl (Nat.le_of_ble_eq_true rfl) ?_
      intro r0 S0 hS0
      obtain ⟨rfl, hf0⟩ := hS0
      have hfe : ∀ o, o < 42 → S0.1 o = T.1 o := fun o q => hf0.1 o (fun z => by have := z.1; omega)
      refine z_iast C dX4_plan_31 (k_i6 _) (by omega) ?_
      refine z_aload0 C dX4_plan_32 ?_
      refine z_get C dX4_plan_33 fl_X4_plan_15 (k_Send _) rfl ?_
      refine z_iload4 C dX4_plan_36 ?_
      refine z_iconstN 0 C dX4_plan_38 ?_
      refine z_iast C dX4_plan_39 (k_i7 _) (by omega) ?_
      refine z_aload0 C dX4_plan_40 ?_
      refine z_dup C dX4_plan_41 rfl ?_
      refine z_get C dX4_plan_42 fl_X4_plan_24 (k_Send _) rfl ?_
      refine z_top C (show (stI (stI S0 6 i (nI (bset (fate V N i) (2 ^ V 0 1)))) 7 i (nI 0)).1 5 3 = nI (cntB (fun m => decide (bset (fate V N m) (2 ^ V 0 1) ≠ 0)) i) by rw [stI_no (by decide), stI_no (by decide), hfe 5 (by decide)]; exact hI.1) ?_
      refine z_aload0 C dX4_plan_45 ?_
      refine z_get C dX4_plan_46 fl_X4_plan_9 (k_Send _) rfl ?_
      refine z_iload4 C dX4_plan_49 ?_
      refine z_iald C dX4_plan_51 (k_i6 _) (by omega) ?_
      refine z_top C (show (stI (stI S0 6 i (nI (bset (fate V N i) (2 ^ V 0 1)))) 7 i (nI 0)).1 6 i = nI (bset (fate V N i) (2 ^ V 0 1)) by rw [stI_no (by decide), stI_me]) ?_
      refine z_if_ne C 59 dX4_plan_52 (by decide) (fun c52 => ?_) (fun c52 => ?_)
      · refine z_iconstN 1 C dX4_plan_59 ?_
        refine z_iaddN C dX4_plan_60 ?_
        refine z_put C dX4_plan_61 fp_X4_plan_24 (k_Send _) rfl rfl (Nat.le_of_ble_eq_true rfl) rfl ?_
        refine z_iinc4 C dX4_plan_64 (inc1 _) nl_i ?_
        refine z_goto C 8 dX4_plan_67 (by decide) ?_
        refine ih (i + 1) _ (by omega) (HC_fr (P := scr) h ?_ (fun o h1 h2 h3 => by omega)) (hf.tr ?_) ⟨?_, fun m hm => ?_⟩
        · exact (fr_tr hf0).tr (Fr.I3 (P := scr) (o1 := 6) (o2 := 7) (o3 := 5) (by omega) (by omega) (by omega))
        · exact (fr_tr hf0).tr (Fr.I3 (P := scr) (o1 := 6) (o2 := 7) (o3 := 5) (by omega) (by omega) (by omega))
        · rw [stI_me, cntB]
          rw [if_pos (show decide (bset (fate V N i) (2 ^ V 0 1) ≠ 0) = true from decide_eq_true (fun z => c52 (bz.mpr z)))]
        · by_cases c : m = i
          · subst c
            exact ⟨by rw [stI_no (by decide), stI_no (by decide), stI_me], by rw [stI_no (by decide), stI_me]⟩
          · exact ⟨by rw [stI_no (by decide), stI_no (by decide), stI_ni c, hfe 6 (by decide)]; exact (hI.2 m (by omega)).1, by rw [stI_no (by decide), stI_ni c, stI_no (by decide), hfe 7 (by decide)]; exact (hI.2 m (by omega)).2⟩
      · refine z_iconstN 0 C dX4_plan_55 ?_
        refine z_goto C 60 dX4_plan_56 (by decide) ?_
        refine z_iaddN C dX4_plan_60 ?_
        refine z_put C dX4_plan_61 fp_X4_plan_24 (k_Send _) rfl rfl (Nat.le_of_ble_eq_true rfl) rfl ?_
        refine z_iinc4 C dX4_plan_64 (inc1 _) nl_i ?_
        refine z_goto C 8 dX4_plan_67 (by decide) ?_
        refine ih (i + 1) _ (by omega) (HC_fr (P := scr) h ?_ (fun o h1 h2 h3 => by omega)) (hf.tr ?_) ⟨?_, fun m hm => ?_⟩
        · exact (fr_tr hf0).tr (Fr.I3 (P := scr) (o1 := 6) (o2 := 7) (o3 := 5) (by omega) (by omega) (by omega))
        · exact (fr_tr hf0).tr (Fr.I3 (P := scr) (o1 := 6) (o2 := 7) (o3 := 5) (by omega) (by omega) (by omega))
        · rw [stI_me, cntB]
          rw [if_neg (show ¬ decide (bset (fate V N i) (2 ^ V 0 1) ≠ 0) = true from fun z => of_decide_eq_true z (bz.mp c52))]
        · by_cases c : m = i
          · subst c
            exact ⟨by rw [stI_no (by decide), stI_no (by decide), stI_me], by rw [stI_no (by decide), stI_me]⟩
          · exact ⟨by rw [stI_no (by decide), stI_no (by decide), stI_ni c, hfe 6 (by decide)]; exact (hI.2 m (by omega)).1, by rw [stI_no (by decide), stI_ni c, stI_no (by decide), hfe 7 (by decide)]; exact (hI.2 m (by omega)).2⟩

set_option maxHeartbeats 4000000 in
set_option maxRecDepth 100000 in
theorem c_X4_plan {l : Launch} {Y : LY} {S : GS} {V : VR} {N : Nat} (h : HC S 26 V) (ho : Ok V) (h0 : 0 < V 0 0) (hN : N ≤ 30) : CtR l yX4_plan wsX4_plan 9 Y [.ref (ad Y 5), .ref (ad Y 26), .ref (ad Y 42), .int (nI N)] S (fun u => SD u V N (sdAll V N) (fun _ => 0) 0 ∧ Fr scr S u) := by
  refine mkR (cc := cX4_plan) (maxL := 5) rfl rfl (Nat.le_of_ble_eq_true rfl) ?_
  intro X hl hY C hr
  subst hl
  subst hY
  show Zj X S [some (.ref (ad (xY X) 5)), some (.ref (ad (xY X) 26)), some (.ref (ad (xY X) 42)), some (.int (nI N)), none] 0 []
  refine z_aload0 C dX4_plan_0 ?_
  refine z_iconstN 0 C dX4_plan_1 ?_
  refine z_put C dX4_plan_2 fp_X4_plan_24 (k_Send _) rfl rfl (Nat.le_of_ble_eq_true rfl) rfl ?_
  refine z_iconstN 0 C dX4_plan_5 ?_
  refine z_istore4 C dX4_plan_6 nl_i ?_
  exact lp_X4_plan ho h0 hN hr C (V 0 0) 0 _ (by omega) (HC_fr h (Fr.I (P := scr) (by omega)) (fun o h1 h2 h3 => by omega)) (Fr.I (by omega)) ⟨stI_me _ _ _ _, fun m hm => absurd hm (by omega)⟩

theorem sdAll_in {V : VR} (h0 : 0 < V 0 0) (n : Nat) : (sdAll V n).1 ≤ V 0 0 + 1 ∧ 0 < (sdAll V n).1 := by
  obtain ⟨a, b⟩ := sdF_in (V := V) (n := n) (V 0 0 ^ V 0 1) 0 (0, 0) (by omega)
  exact ⟨a, b (Or.inl (Nat.pow_pos h0))⟩
theorem le_nlt {x y : Int32} : ¬ x ≤ y ↔ y < x := by
  rw [Int32.lt_iff_toInt_lt, Int32.le_iff_toInt_le]
  omega
theorem y_of {y : Int32} {k : Nat} (hk : k ≤ 5) (h1 : 0 ≤ y) (h2 : y < nI k) : ∃ j, j < k ∧ y = nI j := inR_of (by omega) ⟨h1, h2⟩

set_option maxRecDepth 20000 in
theorem fl_X7_sends_10 : FL RX7 wsX7_sends 10 7 0 := ⟨RX7, TX7, 12, rfl, (fun w h => List.mem_cons_of_mem _ (List.mem_append_left _ (List.mem_append_left _ (List.mem_append_right _ h)))), by decide, by decide +kernel⟩
set_option maxRecDepth 20000 in
theorem fl_X7_sends_75 : FL RX7 wsX7_sends 75 2 0 := ⟨RX2, TX2, 12, rfl, (fun w h => List.mem_cons_of_mem _ (List.mem_append_left _ (List.mem_append_right _ h))), by decide, by decide +kernel⟩
set_option maxRecDepth 20000 in
theorem fl_X7_sends_86 : FL RX7 wsX7_sends 86 2 1 := ⟨RX2, TX2, 12, rfl, (fun w h => List.mem_cons_of_mem _ (List.mem_append_left _ (List.mem_append_right _ h))), by decide, by decide +kernel⟩
set_option maxRecDepth 20000 in
theorem fl_X7_sends_48 : FL RX7 wsX7_sends 48 7 8 := ⟨RX7, TX7, 12, rfl, (fun w h => List.mem_cons_of_mem _ (List.mem_append_left _ (List.mem_append_left _ (List.mem_append_right _ h)))), by decide, by decide +kernel⟩
set_option maxRecDepth 20000 in
theorem fl_X7_sends_42 : FL RX7 wsX7_sends 42 7 7 := ⟨RX7, TX7, 12, rfl, (fun w h => List.mem_cons_of_mem _ (List.mem_append_left _ (List.mem_append_left _ (List.mem_append_right _ h)))), by decide, by decide +kernel⟩
theorem md_X4_plan : MD yX4_plan wsX4_plan 3 5 none := ⟨_, _, rfl, by decide, by decide +kernel, by decide +kernel, by decide +kernel⟩
set_option maxRecDepth 20000 in
theorem fl_X7_sends_204 : FL RX7 wsX7_sends 204 4 4 := ⟨RX4, TX4, 6, rfl, (fun w h => List.mem_cons_of_mem _ (List.mem_append_right _ h)), by decide, by decide +kernel⟩
set_option maxRecDepth 20000 in
theorem fl_X7_sends_201 : FL RX7 wsX7_sends 201 4 5 := ⟨RX4, TX4, 6, rfl, (fun w h => List.mem_cons_of_mem _ (List.mem_append_right _ h)), by decide, by decide +kernel⟩
set_option maxHeartbeats 4000000 in
set_option maxRecDepth 100000 in
theorem c_X7_sends {l : Launch} {Y : LY} {S : GS} {V : VR} (h : HC S 26 V) (ho : Ok V) {x y : Int32} : CtP l yX7_sends wsX7_sends 10 Y [.ref (ad Y 0), .int x, .int y] S (fun r u => r = aSends V x y ∧ Fr scr S u) := by
  refine mkP (cc := cX7_sends) (maxL := 3) rfl rfl (Nat.le_of_ble_eq_true rfl) ?_
  intro X hl hY C hr
  subst hl
  subst hY
  have hM : S.1 26 0 = nI (V 0 0) := h.1 0 (by decide)
  have hK : S.1 26 1 = nI (V 0 1) := h.1 1 (by decide)
  have o1 := ho.1
  have o2 := ho.2.1
  show Zj X S [some (.ref (ad (xY X) 0)), some (.int x), some (.int y)] 0 []
  refine z_iload1 C dX7_sends_0 ?_
  refine z_iconstN 0 C dX7_sends_1 ?_
  refine z_bipush (v := nI 30) C dX7_sends_2 (by decide) ?_
  refine z_callSI C dX7_sends_4 c_X7_within gX7_sends_X7_within md_X7_within (by decide) rfl rfl (Nat.le_of_ble_eq_true rfl) ?_
  refine z_if_eqB C 15 dX7_sends_7 (by decide) (fun c7 => ?_) (fun c7 => ?_)
  · refine z_iconst (v := (-1)) C dX7_sends_15 (by decide) ?_
    exact z_iretP C dX7_sends_16 hr rfl ⟨by rw [aSends_n (by rintro ⟨h1, h2⟩; contradiction)], Fr.rf⟩
  · refine z_iload2 C dX7_sends_10 ?_
    refine z_iconst (v := (-1)) C dX7_sends_11 (by decide) ?_
    refine z_icmp_ge C 17 dX7_sends_12 (by decide) (fun c12 => ?_) (fun c12 => ?_)
    · obtain ⟨n, -, hn, rfl⟩ := inB_of (by decide) c7 (by decide)
      refine z_aload0 C dX7_sends_17 ?_
      refine z_get C dX7_sends_18 fl_X7_sends_10 (k_EM _) rfl ?_
      refine z_get C dX7_sends_21 fl_X7_sends_75 (k_Rock _ isR_now) rfl ?_
      refine z_top C hM ?_
      refine z_iconstN 1 C dX7_sends_24 ?_
      refine z_icmp_geN C 39 dX7_sends_25 (by decide) (by omega) (by omega) (fun c25 => ?_) (fun c25 => ?_)
      · refine z_iload2 C dX7_sends_39 ?_
        refine z_aload0 C dX7_sends_40 ?_
        refine z_get C dX7_sends_41 fl_X7_sends_10 (k_EM _) rfl ?_
        refine z_get C dX7_sends_44 fl_X7_sends_86 (k_Rock _ isR_now) rfl ?_
        refine z_top C hK ?_
        refine z_icmp_lt C 53 dX7_sends_47 (by decide) (fun c47 => ?_) (fun c47 => ?_)
        · refine z_aload0 C dX7_sends_53 ?_
          refine z_get C dX7_sends_54 fl_X7_sends_48 (k_EM _) rfl ?_
          refine z_aload0 C dX7_sends_57 ?_
          refine z_get C dX7_sends_58 fl_X7_sends_10 (k_EM _) rfl ?_
          refine z_aload0 C dX7_sends_61 ?_
          refine z_get C dX7_sends_62 fl_X7_sends_42 (k_EM _) rfl ?_
          refine z_iload1 C dX7_sends_65 ?_
          refine z_callVR C dX7_sends_66 (c_X4_plan h ho (by omega) hn) gX7_sends_X4_plan md_X4_plan rfl (by decide) (k_Send _) rfl rfl rfl (Nat.le_of_ble_eq_true rfl) ?_
          intro S0 hS0
          obtain ⟨hD, hf0⟩ := hS0
          refine z_iload2 C dX7_sends_69 ?_
          refine z_if_ge C 83 dX7_sends_70 (by decide) (fun c70 => ?_) (fun c70 => ?_)
          · refine z_aload0 C dX7_sends_83 ?_
            refine z_get C dX7_sends_84 fl_X7_sends_48 (k_EM _) rfl ?_
            refine z_get C dX7_sends_87 fl_X7_sends_204 (k_Send _) rfl ?_
            obtain ⟨j, hj, rfl⟩ := y_of o2 c70 c47
            refine z_iload2 C dX7_sends_90 ?_
            refine z_iald C dX7_sends_91 (k_i9 _) (by omega) ?_
            exact z_iretP C dX7_sends_92 hr rfl ⟨by rw [aSends_y hn c12 (by omega) c47, if_pos c70, nI_clamp (by omega)]; exact hD.2.1 (sdAll_in (by omega) n).2 j hj, hf0⟩
          · refine z_aload0 C dX7_sends_73 ?_
            refine z_get C dX7_sends_74 fl_X7_sends_48 (k_EM _) rfl ?_
            refine z_get C dX7_sends_77 fl_X7_sends_201 (k_Send _) rfl ?_
            refine z_top C hD.1.2.1 ?_
            refine z_goto C 92 dX7_sends_80 (by decide) ?_
            exact z_iretP C dX7_sends_92 hr rfl ⟨by rw [aSends_y hn c12 (by omega) c47, if_neg c70], hf0⟩
        · refine z_bipush (v := (-4)) C dX7_sends_50 (by decide) ?_
          exact z_iretP C dX7_sends_52 hr rfl ⟨by rw [aSends_k c7 c12 (by omega) c47], Fr.rf⟩
      · refine z_iload2 C dX7_sends_28 ?_
        refine z_if_ge C 36 dX7_sends_29 (by decide) (fun c29 => ?_) (fun c29 => ?_)
        · refine z_bipush (v := (-4)) C dX7_sends_36 (by decide) ?_
          exact z_iretP C dX7_sends_38 hr rfl ⟨by rw [aSends_0 c7 c12 (by omega), if_pos c29], Fr.rf⟩
        · refine z_iconstN 0 C dX7_sends_32 ?_
          refine z_goto C 38 dX7_sends_33 (by decide) ?_
          exact z_iretP C dX7_sends_38 hr rfl ⟨by rw [aSends_0 c7 c12 (by omega), if_neg c29], Fr.rf⟩
    · refine z_iconst (v := (-1)) C dX7_sends_15 (by decide) ?_
      exact z_iretP C dX7_sends_16 hr rfl ⟨by rw [aSends_n (by rintro ⟨h1, h2⟩; contradiction)], Fr.rf⟩
