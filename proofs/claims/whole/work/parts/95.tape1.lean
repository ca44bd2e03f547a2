def TP (S : GS) (tx : Nat → Nat) (n p : Nat) : Prop := S.1 11 1 = nI n ∧ S.1 11 2 = nI p ∧ (∀ i, i < n → S.1 12 i = nI (tx i)) ∧ p ≤ n
abbrev F11 (o : Nat) : Prop := o = 11
abbrev F12 (o : Nat) : Prop := o = 11 ∨ (42 ≤ o ∧ o < 50)
theorem Fr.t12 {S T : GS} (h : Fr F11 S T) : Fr F12 S T := h.mono (fun _ q => Or.inl q)
theorem TP_put {S : GS} {tx : Nat → Nat} {n p q : Nat} (h : TP S tx n p) (hq : q ≤ n) : TP (stI S 11 2 (nI q)) tx n q := ⟨by rw [stI_ni (by decide)]; exact h.1, stI_me _ _ _ _, fun i hi => by rw [stI_no (by decide)]; exact h.2.2.1 i hi, hq⟩
theorem TP_f {S : GS} {tx : Nat → Nat} {n p : Nat} {x : Int32} (h : TP S tx n p) : TP (stI S 11 3 x) tx n p := ⟨by rw [stI_ni (by decide)]; exact h.1, by rw [stI_ni (by decide)]; exact h.2.1, fun i hi => by rw [stI_no (by decide)]; exact h.2.2.1 i hi, h.2.2.2⟩
theorem TP_rk {S T : GS} {tx : Nat → Nat} {n p : Nat} (h : TP S tx n p) (f : Fr (rk 42) S T) : TP T tx n p := by
  unfold TP
  rw [f.1 11 (fun z => by have := z.1; omega), f.1 12 (fun z => by have := z.1; omega)]
  exact h
theorem Fr.I11 {S : GS} {i : Nat} {v : Int32} : Fr F11 S (stI S 11 i v) := Fr.I rfl

set_option maxRecDepth 20000 in
theorem fl_X6_look_24 : FL RX6 wsX6_look 24 6 2 := ⟨RX6, TX6, 4, rfl, (fun w h => List.mem_cons_of_mem _ (List.mem_append_right _ h)), by decide, by decide +kernel⟩
set_option maxRecDepth 20000 in
theorem fl_X6_look_15 : FL RX6 wsX6_look 15 6 1 := ⟨RX6, TX6, 4, rfl, (fun w h => List.mem_cons_of_mem _ (List.mem_append_right _ h)), by decide, by decide +kernel⟩
set_option maxRecDepth 20000 in
theorem fl_X6_look_9 : FL RX6 wsX6_look 9 6 0 := ⟨RX6, TX6, 4, rfl, (fun w h => List.mem_cons_of_mem _ (List.mem_append_right _ h)), by decide, by decide +kernel⟩
theorem fp_X6_look_24 : FP RX6 wsX6_look 24 6 2 .int := ⟨fl_X6_look_24, RX6, TX6, 4, tyX6, rfl, tyX6_ok, nmX6, rfl, by decide +kernel⟩
set_option maxHeartbeats 4000000 in
set_option maxRecDepth 100000 in
theorem lp_X6_look {X : CX} {S : GS} {tx : Nat → Nat} {N p0 : Nat} (hx : TxOk tx N) (hr : RtP X .int (fun r u => r = lkC tx N (sk tx N p0) ∧ TP u tx N (sk tx N p0) ∧ Fr F11 S u)) (C : Cx X cX6_look RX6 wsX6_look 1) : ∀ (n : Nat) (p : Nat) (T : GS), p + n = N → TP T tx N p → Fr F11 S T → sk tx N p0 = sk tx N p → Zj X T [some (.ref (ad (xY X) 11))] 0 [] := by
  intro n
  induction n with
  | zero =>
    intro p T hp hP hf hg
    have x90 := hx.1
    obtain rfl : p = N := by omega
    have hk : sk tx p p = p := sk_n (fun z => absurd z.1 (by omega))
    refine z_aload0 C dX6_look_0 ?_
    refine z_get C dX6_look_1 fl_X6_look_24 (k_Tape _) rfl ?_
    refine z_top C hP.2.1 ?_
    refine z_aload0 C dX6_look_4 ?_
    refine z_get C dX6_look_5 fl_X6_look_15 (k_Tape _) rfl ?_
    refine z_top C hP.1 ?_
    refine z_icmp_geN C 38 dX6_look_8 (by decide) (by omega) (by omega) (fun c8 => ?_) (fun c8 => ?_)
    · refine z_aload0 C dX6_look_38 ?_
      refine z_get C dX6_look_39 fl_X6_look_24 (k_Tape _) rfl ?_
      refine z_top C hP.2.1 ?_
      refine z_aload0 C dX6_look_42 ?_
      refine z_get C dX6_look_43 fl_X6_look_15 (k_Tape _) rfl ?_
      refine z_top C hP.1 ?_
      refine z_icmp_geN C 61 dX6_look_46 (by decide) (by omega) (by omega) (fun c46 => ?_) (fun c46 => ?_)
      · refine z_iconst (v := (-1)) C dX6_look_61 (by decide) ?_
        exact z_iretP C dX6_look_62 hr rfl ⟨by rw [hg, hk, lkC_n (by omega)], by rw [hg, hk]; exact hP, hf⟩
      · exact absurd c46 (by omega)
    · exact absurd c8 (by omega)
  | succ n ih =>
    intro p T hp hP hf hg
    have x90 := hx.1
    have xp := hx.2 p (by omega)
    refine z_aload0 C dX6_look_0 ?_
    refine z_get C dX6_look_1 fl_X6_look_24 (k_Tape _) rfl ?_
    refine z_top C hP.2.1 ?_
    refine z_aload0 C dX6_look_4 ?_
    refine z_get C dX6_look_5 fl_X6_look_15 (k_Tape _) rfl ?_
    refine z_top C hP.1 ?_
    refine z_icmp_geN C 38 dX6_look_8 (by decide) (by omega) (by omega) (fun c8 => ?_) (fun c8 => ?_)
    · exact absurd c8 (by omega)
    · refine z_aload0 C dX6_look_11 ?_
      refine z_get C dX6_look_12 fl_X6_look_9 (k_Tape _) rfl ?_
      refine z_aload0 C dX6_look_15 ?_
      refine z_get C dX6_look_16 fl_X6_look_24 (k_Tape _) rfl ?_
      refine z_top C hP.2.1 ?_
      refine z_iald C dX6_look_19 (k_i12 _) (by omega) ?_
      refine z_top C (hP.2.2.1 p (by omega)) ?_
      refine z_bipush (v := nI 32) C dX6_look_20 (by decide) ?_
      refine z_icmp_neN C 38 dX6_look_22 (by decide) (by omega) (by omega) (fun c22 => ?_) (fun c22 => ?_)
      · have hk : sk tx N p = p := sk_n (fun z => c22 z.2)
        refine z_aload0 C dX6_look_38 ?_
        refine z_get C dX6_look_39 fl_X6_look_24 (k_Tape _) rfl ?_
        refine z_top C hP.2.1 ?_
        refine z_aload0 C dX6_look_42 ?_
        refine z_get C dX6_look_43 fl_X6_look_15 (k_Tape _) rfl ?_
        refine z_top C hP.1 ?_
        refine z_icmp_geN C 61 dX6_look_46 (by decide) (by omega) (by omega) (fun c46 => ?_) (fun c46 => ?_)
        · exact absurd c46 (by omega)
        · refine z_aload0 C dX6_look_49 ?_
          refine z_get C dX6_look_50 fl_X6_look_9 (k_Tape _) rfl ?_
          refine z_aload0 C dX6_look_53 ?_
          refine z_get C dX6_look_54 fl_X6_look_24 (k_Tape _) rfl ?_
          refine z_top C hP.2.1 ?_
          refine z_iald C dX6_look_57 (k_i12 _) (by omega) ?_
          refine z_top C (hP.2.2.1 p (by omega)) ?_
          refine z_goto C 62 dX6_look_58 (by decide) ?_
          exact z_iretP C dX6_look_62 hr rfl ⟨by rw [hg, hk, lkC_y (by omega)], by rw [hg, hk]; exact hP, hf⟩
      · refine z_aload0 C dX6_look_25 ?_
        refine z_dup C dX6_look_26 rfl ?_
        refine z_get C dX6_look_27 fl_X6_look_24 (k_Tape _) rfl ?_
        refine z_top C hP.2.1 ?_
        refine z_iconstN 1 C dX6_look_30 ?_
        refine z_iaddN C dX6_look_31 ?_
        refine z_put C dX6_look_32 fp_X6_look_24 (k_Tape _) rfl rfl (Nat.le_of_ble_eq_true rfl) rfl ?_
        refine z_goto C 0 dX6_look_35 (by decide) ?_
        exact ih (p + 1) _ (by omega) (TP_put hP (by omega)) (hf.tr Fr.I11) (hg.trans (sk_y ⟨by omega, c22⟩))

theorem c_X6_look {l : Launch} {Y : LY} {S : GS} {tx : Nat → Nat} {N p : Nat} (hx : TxOk tx N) (hP : TP S tx N p) : CtP l yX6_look wsX6_look 1 Y [.ref (ad Y 11)] S (fun r u => r = lkC tx N (sk tx N p) ∧ TP u tx N (sk tx N p) ∧ Fr F11 S u) := by
  refine mkP (cc := cX6_look) (maxL := 1) rfl rfl (Nat.le_of_ble_eq_true rfl) ?_
  intro X hl hY C hr
  subst hl
  subst hY
  have pN := hP.2.2.2
  exact lp_X6_look hx hr C (N - p) p S (by omega) hP Fr.rf rfl

set_option maxRecDepth 20000 in
theorem fl_X6_failAt_27 : FL RX6 wsX6_failAt 27 6 3 := ⟨RX6, TX6, 4, rfl, (fun w h => List.mem_cons_of_mem _ (List.mem_append_right _ h)), by decide, by decide +kernel⟩
theorem fp_X6_failAt_27 : FP RX6 wsX6_failAt 27 6 3 .int := ⟨fl_X6_failAt_27, RX6, TX6, 4, tyX6, rfl, tyX6_ok, nmX6, rfl, by decide +kernel⟩
set_option maxHeartbeats 4000000 in
set_option maxRecDepth 100000 in
theorem c_X6_failAt {l : Launch} {Y : LY} {S : GS} {x : Int32} : CtI l yX6_failAt wsX6_failAt 1 Y [.ref (ad Y 11), .int x] S (nI 0) (stI S 11 3 x) := by
  refine mkI (cc := cX6_failAt) (maxL := 2) rfl rfl (Nat.le_of_ble_eq_true rfl) ?_
  intro X hl hY C hr
  subst hl
  subst hY
  show Zj X S [some (.ref (ad (xY X) 11)), some (.int x)] 0 []
  refine z_aload0 C dX6_failAt_0 ?_
  refine z_iload1 C dX6_failAt_1 ?_
  refine z_put C dX6_failAt_2 fp_X6_failAt_27 (k_Tape _) rfl rfl (Nat.le_of_ble_eq_true rfl) rfl ?_
  refine z_iconstN 0 C dX6_failAt_5 ?_
  exact z_iret C dX6_failAt_6 hr rfl rfl rfl

set_option maxHeartbeats 4000000 in
set_option maxRecDepth 100000 in
theorem c_X6_isDigit {l : Launch} {Y : LY} {S : GS} {x : Int32} : CtI l yX6_isDigit wsX6_isDigit 1 Y [.int x] S (bi (inB x 48 57)) (S) := by
  refine mkI (cc := cX6_isDigit) (maxL := 1) rfl rfl (Nat.le_of_ble_eq_true rfl) ?_
  intro X hl hY C hr
  subst hl
  subst hY
  show Zj X S [some (.int x)] 0 []
  refine z_iload0 C dX6_isDigit_0 ?_
  refine z_bipush (v := nI 48) C dX6_isDigit_1 (by decide) ?_
  refine z_icmp_lt C 16 dX6_isDigit_3 (by decide) (fun c3 => ?_) (fun c3 => ?_)
  · refine z_iconstN 0 C dX6_isDigit_16 ?_
    exact z_iret C dX6_isDigit_17 hr bi_nar (b0 (fun h => by have h2 := inB_c.mpr h; first | exact h2.1 c3 | exact h2.2 c9)) rfl
  · refine z_iload0 C dX6_isDigit_6 ?_
    refine z_bipush (v := nI 57) C dX6_isDigit_7 (by decide) ?_
    refine z_icmp_gt C 16 dX6_isDigit_9 (by decide) (fun c9 => ?_) (fun c9 => ?_)
    · refine z_iconstN 0 C dX6_isDigit_16 ?_
      exact z_iret C dX6_isDigit_17 hr bi_nar (b0 (fun h => by have h2 := inB_c.mpr h; first | exact h2.1 c3 | exact h2.2 c9)) rfl
    · refine z_iconstN 1 C dX6_isDigit_12 ?_
      refine z_goto C 17 dX6_isDigit_13 (by decide) ?_
      exact z_iret C dX6_isDigit_17 hr bi_nar (b1 (inB_c.mp ⟨c3, c9⟩)) rfl

theorem md_X6_look : MD yX6_look wsX6_look 0 1 (some .int) := ⟨_, _, rfl, by decide, by decide +kernel, by decide +kernel, by decide +kernel⟩
set_option maxRecDepth 20000 in
theorem fl_X6_accept_24 : FL RX6 wsX6_accept 24 6 2 := ⟨RX6, TX6, 4, rfl, (fun w h => List.mem_cons_of_mem _ (List.mem_append_right _ h)), by decide, by decide +kernel⟩
theorem fp_X6_accept_24 : FP RX6 wsX6_accept 24 6 2 .int := ⟨fl_X6_accept_24, RX6, TX6, 4, tyX6, rfl, tyX6_ok, nmX6, rfl, by decide +kernel⟩
set_option maxHeartbeats 4000000 in
set_option maxRecDepth 100000 in
theorem c_X6_accept {l : Launch} {Y : LY} {S : GS} {tx : Nat → Nat} {N p : Nat} (hx : TxOk tx N) (hP : TP S tx N p) {c : Nat} (hc : c < 1000) : CtP l yX6_accept wsX6_accept 2 Y [.ref (ad Y 11), .int (nI c)] S (fun r u => r = bi (tkP tx N c p) ∧ TP u tx N (tkN tx N c p) ∧ Fr F11 S u) := by
  refine mkP (cc := cX6_accept) (maxL := 2) rfl rfl (Nat.le_of_ble_eq_true rfl) ?_
  intro X hl hY C hr
  subst hl
  subst hY
  have x90 := hx.1
  have pN := hP.2.2.2
  show Zj X S [some (.ref (ad (xY X) 11)), some (.int (nI c))] 0 []
  refine z_aload0 C dX6_accept_0 ?_
  refine z_callVP C dX6_accept_1 (c_X6_look hx hP) gX6_accept_X6_look md_X6_look rfl (by decide) (k_Tape _) rfl rfl rfl (Nat.le_of_ble_eq_true rfl) ?_
  rintro _ T ⟨rfl, hP, hf⟩
  obtain ⟨sk1, sk2, sk3⟩ := sk_in (tx := tx) pN
  refine z_iload1 C dX6_accept_4 ?_
  have hk := lkC_eq (q := sk tx N p) hx hc
  refine z_icmp_eq C 10 dX6_accept_5 (by decide) (fun c5 => ?_) (fun c5 => ?_)
  · refine z_aload0 C dX6_accept_10 ?_
    refine z_dup C dX6_accept_11 rfl ?_
    refine z_get C dX6_accept_12 fl_X6_accept_24 (k_Tape _) rfl ?_
    refine z_top C hP.2.1 ?_
    refine z_iconstN 1 C dX6_accept_15 ?_
    refine z_iaddN C dX6_accept_16 ?_
    refine z_put C dX6_accept_17 fp_X6_accept_24 (k_Tape _) rfl rfl (Nat.le_of_ble_eq_true rfl) rfl ?_
    refine z_iconstN 1 C dX6_accept_20 ?_
    exact z_iretP C dX6_accept_21 hr rfl ⟨(bi_1 (hk.mp c5)).symm, by rw [tkN_y (hk.mp c5)]; exact TP_put hP (by have := (hk.mp c5).1; omega), hf.tr Fr.I11⟩
  · refine z_iconstN 0 C dX6_accept_8 ?_
    exact z_iretP C dX6_accept_9 hr rfl ⟨(bi_0 (fun z => c5 (hk.mpr z))).symm, by rw [tkN_n (fun z => c5 (hk.mpr z))]; exact hP, hf⟩

theorem md_X6_accept : MD yX6_accept wsX6_accept 1 2 (some .boolean) := ⟨_, _, rfl, by decide, by decide +kernel, by decide +kernel, by decide +kernel⟩
set_option maxRecDepth 20000 in
theorem fl_X6_expect_24 : FL RX6 wsX6_expect 24 6 2 := ⟨RX6, TX6, 4, rfl, (fun w h => List.mem_cons_of_mem _ (List.mem_append_right _ h)), by decide, by decide +kernel⟩
theorem md_X6_failAt : MD yX6_failAt wsX6_failAt 1 2 (some .boolean) := ⟨_, _, rfl, by decide, by decide +kernel, by decide +kernel, by decide +kernel⟩
set_option maxHeartbeats 4000000 in
set_option maxRecDepth 100000 in
theorem c_X6_expect {l : Launch} {Y : LY} {S : GS} {tx : Nat → Nat} {N p : Nat} (hx : TxOk tx N) (hP : TP S tx N p) {c : Nat} (hc : c < 1000) : CtP l yX6_expect wsX6_expect 3 Y [.ref (ad Y 11), .int (nI c)] S (fun r u => r = bi (tkP tx N c p) ∧ TP u tx N (tkN tx N c p) ∧ Fr F11 S u ∧ (¬ tkP tx N c p → u.1 11 3 = nI (sk tx N p))) := by
  refine mkP (cc := cX6_expect) (maxL := 2) rfl rfl (Nat.le_of_ble_eq_true rfl) ?_
  intro X hl hY C hr
  subst hl
  subst hY
  have x90 := hx.1
  have pN := hP.2.2.2
  show Zj X S [some (.ref (ad (xY X) 11)), some (.int (nI c))] 0 []
  refine z_aload0 C dX6_expect_0 ?_
  refine z_iload1 C dX6_expect_1 ?_
  refine z_callVP C dX6_expect_2 (c_X6_accept hx hP hc) gX6_expect_X6_accept md_X6_accept rfl (by decide) (k_Tape _) rfl rfl rfl (Nat.le_of_ble_eq_true rfl) ?_
  rintro _ T2 ⟨rfl, hP, hf2⟩
  refine z_if_neB C 19 dX6_expect_5 (by decide) (fun c5 => ?_) (fun c5 => ?_)
  · refine z_iconstN 1 C dX6_expect_19 ?_
    refine z_goto C 24 dX6_expect_20 (by decide) ?_
    exact z_iretP C dX6_expect_24 hr rfl ⟨(bi_1 c5).symm, hP, hf2, fun z => absurd c5 z⟩
  · refine z_aload0 C dX6_expect_8 ?_
    refine z_aload0 C dX6_expect_9 ?_
    refine z_get C dX6_expect_10 fl_X6_expect_24 (k_Tape _) rfl ?_
    refine z_top C hP.2.1 ?_
    refine z_callVI C dX6_expect_13 c_X6_failAt gX6_expect_X6_failAt md_X6_failAt rfl (by decide) (k_Tape _) rfl rfl rfl (Nat.le_of_ble_eq_true rfl) ?_
    refine z_if_eqT C 23 dX6_expect_16 (by decide) (by decide) ?_
    refine z_iconstN 0 C dX6_expect_23 ?_
    exact z_iretP C dX6_expect_24 hr rfl ⟨(bi_0 c5).symm, TP_f hP, hf2.tr Fr.I11, fun z => by rw [stI_me, tkN_n z]⟩
