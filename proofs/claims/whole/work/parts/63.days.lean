set_option maxRecDepth 20000 in
theorem fl_X2_drawAndSend_9 : FL RX2 wsX2_drawAndSend 9 2 4 := ⟨RX2, TX2, 12, rfl, (fun w h => List.mem_cons_of_mem _ (List.mem_append_right _ h)), by decide, by decide +kernel⟩
theorem kc_X2_drawAndSend_92 : Cond.constant RX2 92 (1103515245) ∈ wsX2_drawAndSend := by decide +kernel
theorem kc_X2_drawAndSend_93 : Cond.constant RX2 93 (2147483647) ∈ wsX2_drawAndSend := by decide +kernel
theorem fp_X2_drawAndSend_9 : FP RX2 wsX2_drawAndSend 9 2 4 .int := ⟨fl_X2_drawAndSend_9, RX2, TX2, 12, tyX2, rfl, tyX2_ok, nmX2, rfl, by decide +kernel⟩
set_option maxRecDepth 20000 in
theorem fl_X2_drawAndSend_40 : FL RX2 wsX2_drawAndSend 40 2 1 := ⟨RX2, TX2, 12, rfl, (fun w h => List.mem_cons_of_mem _ (List.mem_append_right _ h)), by decide, by decide +kernel⟩
set_option maxRecDepth 20000 in
theorem fl_X2_drawAndSend_37 : FL RX2 wsX2_drawAndSend 37 2 0 := ⟨RX2, TX2, 12, rfl, (fun w h => List.mem_cons_of_mem _ (List.mem_append_right _ h)), by decide, by decide +kernel⟩
set_option maxRecDepth 20000 in
theorem fl_X2_drawAndSend_34 : FL RX2 wsX2_drawAndSend 34 2 11 := ⟨RX2, TX2, 12, rfl, (fun w h => List.mem_cons_of_mem _ (List.mem_append_right _ h)), by decide, by decide +kernel⟩
theorem kc_X2_drawAndSend_94 : Cond.constant RX2 94 (65536) ∈ wsX2_drawAndSend := by decide +kernel
set_option maxHeartbeats 4000000 in
set_option maxRecDepth 100000 in
theorem c_X2_drawAndSend {l : Launch} {Y : LY} {S : GS} {V : VR} (h : HC S 26 V) (ho : Ok V) : CtV l yX2_drawAndSend wsX2_drawAndSend 2 Y [.ref (ad Y 26)] S (cDS S 26 V) := by
  refine mkV (cc := cX2_drawAndSend) (maxL := 1) rfl rfl (Nat.le_of_ble_eq_true rfl) ?_
  intro X hl hY C hr
  subst hl
  subst hY
  have o1 := ho.1
  have o2 := ho.2.1
  show Zj X S [some (.ref (ad (xY X) 26))] 0 []
  refine z_aload0 C dX2_drawAndSend_0 ?_
  refine z_aload0 C dX2_drawAndSend_1 ?_
  refine z_get C dX2_drawAndSend_2 fl_X2_drawAndSend_9 (k_Rock _ isR_now) rfl ?_
  first | refine z_top C (h.1 4 (by decide)) ?_ | refine z_top C (stI_me _ _ _ _) ?_
  refine z_ldc (v := 1103515245) C dX2_drawAndSend_5 kc_X2_drawAndSend_92 ?_
  refine z_top (y := nI 1103515245) C (by decide) ?_
  refine z_imulN C dX2_drawAndSend_7 ?_
  refine z_sipush (v := nI 12345) C dX2_drawAndSend_8 (by decide) ?_
  refine z_iaddN C dX2_drawAndSend_11 ?_
  refine z_ldc (v := 2147483647) C dX2_drawAndSend_12 kc_X2_drawAndSend_93 ?_
  refine z_top (y := nI 2147483647) C (by decide) ?_
  refine z_iand C dX2_drawAndSend_14 ?_
  refine z_top (y := nI (dN (V 0 4))) C (and31 _) ?_
  refine z_put C dX2_drawAndSend_15 fp_X2_drawAndSend_9 (k_Rock _ isR_now) rfl rfl (Nat.le_of_ble_eq_true rfl) rfl ?_
  refine z_aload0 C dX2_drawAndSend_18 ?_
  refine z_get C dX2_drawAndSend_19 fl_X2_drawAndSend_40 (k_Rock _ isR_now) rfl ?_
  refine z_top C (show _ = nI (V 0 1) by rw [stI_ni (by decide)]; exact h.1 1 (by decide)) ?_
  refine z_if_leN C 62 dX2_drawAndSend_22 (by decide) (by omega) (fun c22 => ?_) (fun c22 => ?_)
  · exact z_vret C dX2_drawAndSend_62 hr (by first | exact (if_neg (by omega)).symm | exact (if_pos (by omega)).symm)
  · refine z_aload0 C dX2_drawAndSend_25 ?_
    refine z_get C dX2_drawAndSend_26 fl_X2_drawAndSend_37 (k_Rock _ isR_now) rfl ?_
    refine z_top C (show _ = nI (V 0 0) by rw [stI_ni (by decide)]; exact h.1 0 (by decide)) ?_
    refine z_if_leN C 62 dX2_drawAndSend_29 (by decide) (by omega) (fun c29 => ?_) (fun c29 => ?_)
    · exact z_vret C dX2_drawAndSend_62 hr (by first | exact (if_neg (by omega)).symm | exact (if_pos (by omega)).symm)
    · refine z_aload0 C dX2_drawAndSend_32 ?_
      refine z_get C dX2_drawAndSend_33 fl_X2_drawAndSend_34 (k_Rock _ isR_now) rfl ?_
      refine z_aload0 C dX2_drawAndSend_36 ?_
      refine z_get C dX2_drawAndSend_37 fl_X2_drawAndSend_9 (k_Rock _ isR_now) rfl ?_
      first | refine z_top C (h.1 4 (by decide)) ?_ | refine z_top C (stI_me _ _ _ _) ?_
      refine z_ldc (v := 65536) C dX2_drawAndSend_40 kc_X2_drawAndSend_94 ?_
      refine z_top (y := nI 65536) C (by decide) ?_
      refine z_idivN C dX2_drawAndSend_42 (by unfold dN; omega) (by decide) (by decide) ?_
      refine z_aload0 C dX2_drawAndSend_43 ?_
      refine z_get C dX2_drawAndSend_44 fl_X2_drawAndSend_40 (k_Rock _ isR_now) rfl ?_
      refine z_top C (show _ = nI (V 0 1) by rw [stI_ni (by decide)]; exact h.1 1 (by decide)) ?_
      refine z_iremN C dX2_drawAndSend_47 (by unfold dN; omega) (by omega) (by omega) ?_
      refine z_aload0 C dX2_drawAndSend_48 ?_
      refine z_get C dX2_drawAndSend_49 fl_X2_drawAndSend_9 (k_Rock _ isR_now) rfl ?_
      first | refine z_top C (h.1 4 (by decide)) ?_ | refine z_top C (stI_me _ _ _ _) ?_
      refine z_sipush (v := nI 128) C dX2_drawAndSend_52 (by decide) ?_
      refine z_idivN C dX2_drawAndSend_55 (by unfold dN; omega) (by decide) (by decide) ?_
      refine z_aload0 C dX2_drawAndSend_56 ?_
      refine z_get C dX2_drawAndSend_57 fl_X2_drawAndSend_37 (k_Rock _ isR_now) rfl ?_
      refine z_top C (show _ = nI (V 0 0) by rw [stI_ni (by decide)]; exact h.1 0 (by decide)) ?_
      refine z_iremN C dX2_drawAndSend_60 (by unfold dN; omega) (by omega) (by omega) ?_
      refine z_iast C dX2_drawAndSend_61 (k_sent _ isR_now) (by have := Nat.mod_lt (dN (V 0 4) / 65536) c22; omega) ?_
      exact z_vret C dX2_drawAndSend_62 hr (by first | exact (if_neg (by omega)).symm | exact (if_pos (by omega)).symm)

abbrev B3 : Type := VR × (Nat → VR) × Nat
def OkB (b : B3) : Prop := Ok b.1 ∧ OkU b.2.1 b.2.2 b.1 ∧ b.1 0 2 ≤ 9999 ∧ b.1 0 4 < 2 ^ 31 ∧ b.2.2 ≤ 8
def IC (S : GS) (b : B3) : Prop := HC S 26 b.1 ∧ HK S 22 50 b.2.1 b.2.2
def IM (S : GS) (b : B3) : Prop := HW (S.1 179) 0 b.1 ∧ HU (S.1 179) 0 b.2.1 b.2.2
abbrev clN (o : Nat) : Prop := (1 ≤ o ∧ o ≤ 10) ∨ o = 22 ∨ (26 ≤ o ∧ o < 34) ∨ (42 ≤ o ∧ o < 114)
def FrN (S T : GS) : Prop := (∀ o, o ≠ 179 → ¬ (184 ≤ o ∧ o ≤ 188) → T.1 o = S.1 o) ∧ (∀ i, 293 ≤ i → i < 586 → T.1 179 i = S.1 179 i) ∧ (∀ o, o ≠ 189 → T.2 o = S.2 o)
theorem FrN.rf {S : GS} : FrN S S := ⟨fun _ _ _ => rfl, fun _ _ _ => rfl, fun _ _ => rfl⟩
theorem FrN.tr {S T U : GS} (h : FrN S T) (h2 : FrN T U) : FrN S U := ⟨fun o a b => (h2.1 o a b).trans (h.1 o a b), fun i a b => (h2.2.1 i a b).trans (h.2.1 i a b), fun o a => (h2.2.2 o a).trans (h.2.2 o a)⟩
theorem FrN.of {S T : GS} (h : Fr om S T) (h2 : ∀ i, 293 ≤ i → i < 586 → T.1 179 i = S.1 179 i) : FrN S T := ⟨fun o a _ => h.1 o a, h2, fun o _ => by rw [h.2]⟩
theorem FrN.M {S T : GS} (h : FrM S T) : FrN S T := ⟨h.1, fun i _ b => h.2.1 i b, h.2.2⟩
def bDay (g : VR → VR) (b : B3) : B3 := (vPD (g b.1) (nI 0), pushU b.2.1 b.2.2 b.1, pushN b.2.2)
def bDays (g : VR → VR) (n : Nat) (b : B3) : B3 := foldN (fun _ b => bDay g b) n 0 b
/-- a change ahead of a day that keeps a rock sound: none, or a draw -/
def gOk (g : VR → VR) : Prop := (∀ V, Ok V → Ok (g V)) ∧ (∀ V, SF (g V) V) ∧ (∀ V, g V 0 2 = V 0 2) ∧ (∀ V, V 0 4 < 2 ^ 31 → g V 0 4 < 2 ^ 31)
theorem gOk_id : gOk id := ⟨fun _ h => h, fun _ => SF.rf, fun _ => rfl, fun _ h => h⟩
theorem gOk_dr : gOk vDr := by
  refine ⟨fun V h => Ok_dr h, fun V => ?_, fun V => vDr_hd (by decide), fun V _ => ?_⟩
  · have e : ∀ f i, f = 2 ∨ f = 5 → vDr V f i = V f i := by
      intro f i hf
      unfold vDr
      split
      · rw [vs_no (by omega), vs_no (by omega)]
      · rw [vs_no (by omega)]
    exact ⟨vDr_hd (by decide), vDr_hd (by decide), fun m _ => e 2 m (Or.inl rfl), fun k _ => e 5 k (Or.inr rfl)⟩
  · have hd : dN (V 0 4) < 2 ^ 31 := by unfold dN; omega
    unfold vDr
    split
    · rw [vs_no (by omega), vs_me]; exact hd
    · rw [vs_me]; exact hd
theorem vPD_far {V : VR} {ill : Int32} {f i : Nat} (h : f = 2 ∨ f = 5 ∨ f = 7 ∨ (f = 0 ∧ i ≠ 2 ∧ i ≠ 3)) : vPD V ill f i = V f i := by
  unfold vPD
  have e : ∀ W : VR, vDay W f i = W f i := fun W => by unfold vDay; rw [if_neg (by omega)]
  rw [e]
  have : ∀ (n j : Nat) (V : VR), foldN (vP1 ill) n j V f i = V f i := by
    intro n
    induction n with
    | zero => intro j V; rfl
    | succ n ih =>
      intro j V
      refine (ih (j + 1) _).trans ?_
      unfold vP1
      split
      · unfold vRub
        rw [if_neg (by omega), if_neg (by omega), if_neg (by omega), if_neg (by omega), if_neg (by omega)]
      · rfl
  exact this _ _ _
theorem vPD_day {V : VR} {ill : Int32} : vPD V ill 0 2 = V 0 2 + 1 := by
  unfold vPD vDay
  rw [if_pos ⟨rfl, rfl⟩]
  have : ∀ (n j : Nat) (V : VR), foldN (vP1 ill) n j V 0 2 = V 0 2 := by
    intro n
    induction n with
    | zero => intro j V; rfl
    | succ n ih => intro j V; exact (ih (j + 1) _).trans (vP1_hd (by decide))
  rw [this]
theorem SF_PD {V : VR} {ill : Int32} : SF (vPD V ill) V := ⟨vPD_far (by omega), vPD_far (by omega), fun m _ => vPD_far (by omega), fun k _ => vPD_far (by omega)⟩
theorem OkB_day {g : VR → VR} (hg : gOk g) {b : B3} (h : OkB b) (hd : b.1 0 2 + 1 ≤ 9999) : OkB (bDay g b) := by
  obtain ⟨h1, h2, h3, h4, h5⟩ := h
  have s : SF b.1 (bDay g b).1 := ((SF_PD (V := g b.1) (ill := nI 0)).tr (hg.2.1 b.1)).sy
  refine ⟨Ok_PD (hg.1 _ h1), OkU_push h5 h2 h1 h3 h4 s, ?_, ?_, (pushN_in _ h5).1⟩
  · show vPD (g b.1) (nI 0) 0 2 ≤ 9999
    rw [vPD_day, hg.2.2.1]
    exact hd
  · show vPD (g b.1) (nI 0) 0 4 < 2 ^ 31
    rw [vPD_far (by omega)]
    exact hg.2.2.2 _ h4
theorem bDay_day {g : VR → VR} (hg : gOk g) {b : B3} : (bDay g b).1 0 2 = b.1 0 2 + 1 := by
  show vPD (g b.1) (nI 0) 0 2 = _
  rw [vPD_day, hg.2.2.1]
def aDays (g : VR → VR) (b : B3) (x : Int32) : Int32 × B3 := if inB x 1 40 then (if 9999 < b.1 0 2 + x.toNatClampNeg then (-3, b) else (goneV (bDays g x.toNatClampNeg b).1, bDays g x.toNatClampNeg b)) else (-1, b)
theorem aDays_n {g : VR → VR} {b : B3} {x : Int32} (h : ¬ inB x 1 40) : aDays g b x = (-1, b) := if_neg h
theorem aDays_f {g : VR → VR} {b : B3} {n : Nat} (h1 : 1 ≤ n) (h2 : n ≤ 40) (h : 9999 < b.1 0 2 + n) : aDays g b (nI n) = (-3, b) := by
  unfold aDays
  rw [if_pos (inB_nI h1 h2 (by decide)), nI_clamp (by omega), if_pos h]
theorem aDays_y {g : VR → VR} {b : B3} {n : Nat} (h1 : 1 ≤ n) (h2 : n ≤ 40) (h : ¬ 9999 < b.1 0 2 + n) : aDays g b (nI n) = (goneV (bDays g n b).1, bDays g n b) := by
  unfold aDays
  rw [if_pos (inB_nI h1 h2 (by decide)), nI_clamp (by omega), if_neg h]
theorem IC_keep {S : GS} {b : B3} {od : Nat} (hod : od < 8) (hn : b.2.2 ≤ 8) (h1 : S.1 22 1 = nI od) (h2 : S.1 22 2 = nI b.2.2) (h3 : ∀ j, j < b.2.2 → HC S (50 + 8 * ((od + j) % 8)) (b.2.1 j)) (h : HC S 26 b.1) (ho : Ok b.1) : HC (cKp S od b.2.2) 26 b.1 ∧ HK (cKp S od b.2.2) 22 50 (pushU b.2.1 b.2.2 b.1) (pushN b.2.2) := ⟨HC_fr h cKp_fr (fun o q1 q2 q3 => by omega), HK_keep hod hn h1 h2 h3 h ho⟩
theorem HK_fr {P : Nat → Prop} {S T : GS} {kb rb : Nat} {U : Nat → VR} {nu : Nat} (h : HK S kb rb U nu) (f : Fr P S T) (h1 : ¬ P kb) (h2 : ∀ o, rb ≤ o → o < rb + 64 → ¬ P o) : HK T kb rb U nu := by
  obtain ⟨a, od, b, c, d, e⟩ := h
  refine ⟨a, od, b, by rw [f.1 kb h1]; exact c, by rw [f.1 kb h1]; exact d, fun j hj => HC_fr (e j hj) f (fun o q1 q2 => h2 o (by omega) (by omega))⟩

set_option maxRecDepth 20000 in
theorem fl_X7_liveThrough_10 : FL RX7 wsX7_liveThrough 10 7 0 := ⟨RX7, TX7, 12, rfl, (fun w h => List.mem_cons_of_mem _ (List.mem_append_left _ (List.mem_append_left _ (List.mem_append_right _ h)))), by decide, by decide +kernel⟩
set_option maxRecDepth 20000 in
theorem fl_X7_liveThrough_19 : FL RX7 wsX7_liveThrough 19 7 1 := ⟨RX7, TX7, 12, rfl, (fun w h => List.mem_cons_of_mem _ (List.mem_append_left _ (List.mem_append_left _ (List.mem_append_right _ h)))), by decide, by decide +kernel⟩
theorem md_X0_keep : MD yX0_keep wsX0_keep 1 2 none := ⟨_, _, rfl, by decide, by decide +kernel, by decide +kernel, by decide +kernel⟩
set_option maxHeartbeats 4000000 in
set_option maxRecDepth 100000 in
theorem lp_X7_live0 {X : CX} {S : GS} {b : B3} {N : Nat} (h1 : 1 ≤ N) (h2 : N ≤ 40) (h3 : ¬ 9999 < b.1 0 2 + N) (hr : RtP X .int (fun r u => r = (aDays id b (nI N)).1 ∧ IC u (aDays id b (nI N)).2 ∧ Fr clN S u)) (C : Cx X cX7_liveThrough RX7 wsX7_liveThrough 6) : ∀ (n : Nat) (i : Nat) (T : GS) (c : B3), i + n = N → IC T c → OkB c → c.1 0 2 + n ≤ 9999 → Fr clN S T → bDays id N b = foldN (fun _ c => bDay id c) n i c → Zj X T [some (.ref (ad (xY X) 0)), some (.int (nI (N))), some (.int (nI (0))), some (.int (nI (i)))] 32 [] := by
  intro n
  induction n with
  | zero =>
    intro i T c hi hI hO hd hf hg
    obtain ⟨hC, hk8, od, hod, k1, k2, k3⟩ := id hI
    obtain ⟨ok1, ok2, ok3, ok4, ok5⟩ := id hO
    have hg : bDays id N b = c := hg
    refine z_iload3 C dX7_liveThrough_32 ?_
    refine z_iload1 C dX7_liveThrough_33 ?_
    refine z_icmp_geN C 73 dX7_liveThrough_34 (by decide) (by omega) (by omega) (fun c34 => ?_) (fun c34 => ?_)
    · refine z_aload0 C dX7_liveThrough_73 ?_
      refine z_get C dX7_liveThrough_74 fl_X7_liveThrough_10 (k_EM _) rfl ?_
      refine z_callVI C dX7_liveThrough_77 (c_X2_goneSet isR_now ok1.1 (hC.1 0 (by decide))) gX7_liveThrough_X2_goneSet md_X2_goneSet rfl (by decide) (k_Rock _ isR_now) rfl rfl rfl (Nat.le_of_ble_eq_true rfl) ?_
      exact z_iretP C dX7_liveThrough_80 hr rfl ⟨by rw [aDays_y h1 h2 h3, hg]; exact goneV_c hC ok1, by rw [aDays_y h1 h2 h3, hg]; exact hI, hf⟩
    · exact absurd c34 (by omega)
  | succ n ih =>
    intro i T c hi hI hO hd hf hg
    obtain ⟨hC, hk8, od, hod, k1, k2, k3⟩ := hI
    obtain ⟨ok1, ok2, ok3, ok4, ok5⟩ := id hO
    obtain ⟨w1, w2⟩ := IC_keep hod hk8 k1 k2 k3 hC ok1
    refine z_iload3 C dX7_liveThrough_32 ?_
    refine z_iload1 C dX7_liveThrough_33 ?_
    refine z_icmp_geN C 73 dX7_liveThrough_34 (by decide) (by omega) (by omega) (fun c34 => ?_) (fun c34 => ?_)
    · exact absurd c34 (by omega)
    · refine z_aload0 C dX7_liveThrough_37 ?_
      refine z_get C dX7_liveThrough_38 fl_X7_liveThrough_19 (k_EM _) rfl ?_
      refine z_aload0 C dX7_liveThrough_41 ?_
      refine z_get C dX7_liveThrough_42 fl_X7_liveThrough_10 (k_EM _) rfl ?_
      refine z_callVV C dX7_liveThrough_45 (c_X0_keep hod hk8 k1 k2) gX7_liveThrough_X0_keep md_X0_keep rfl (by decide) (k_Known _) rfl rfl rfl (Nat.le_of_ble_eq_true rfl) ?_
      refine z_iload2 C dX7_liveThrough_48 ?_
      refine z_if_eqT C 59 dX7_liveThrough_49 (by decide) (by decide) ?_
      refine z_aload0 C dX7_liveThrough_59 ?_
      refine z_get C dX7_liveThrough_60 fl_X7_liveThrough_10 (k_EM _) rfl ?_
      refine z_iconstN 0 C dX7_liveThrough_63 ?_
      refine z_callVV C dX7_liveThrough_64 (c_X2_passDay isR_now ok1.2.1 (w1.1 1 (by decide)) (HC_sOk w1 ok1)) gX7_liveThrough_X2_passDay md_X2_passDay rfl (by decide) (k_Rock _ isR_now) rfl rfl rfl (Nat.le_of_ble_eq_true rfl) ?_
      refine z_iinc3 C dX7_liveThrough_67 (inc1 _) nl_i ?_
      refine z_goto C 32 dX7_liveThrough_70 (by decide) ?_
      exact ih (i + 1) _ _ (by omega) ⟨(HC_PD w1 ok1).1, HK_fr w2 cPD_fr (by omega) (fun o q1 q2 q3 => by omega)⟩ (OkB_day gOk_id hO (by omega)) (by rw [bDay_day gOk_id]; omega) (hf.tr ((cKp_fr.mono (fun o q => by omega)).tr (cPD_fr.mono (fun o q => by omega)))) hg

set_option maxRecDepth 20000 in
theorem fl_X7_liveThrough_147 : FL RX7 wsX7_liveThrough 147 2 2 := ⟨RX2, TX2, 12, rfl, (fun w h => List.mem_cons_of_mem _ (List.mem_append_left _ (List.mem_append_right _ h))), by decide, by decide +kernel⟩
set_option maxHeartbeats 4000000 in
set_option maxRecDepth 100000 in
theorem c_X7_live0 {l : Launch} {Y : LY} {S : GS} {b : B3} {x : Int32} (hI : IC S b) (hO : OkB b) : CtP l yX7_liveThrough wsX7_liveThrough 6 Y [.ref (ad Y 0), .int x, .int (nI 0)] S (fun r u => r = (aDays id b x).1 ∧ IC u (aDays id b x).2 ∧ Fr clN S u) := by
  refine mkP (cc := cX7_liveThrough) (maxL := 4) rfl rfl (Nat.le_of_ble_eq_true rfl) ?_
  intro X hl hY C hr
  subst hl
  subst hY
  show Zj X S [some (.ref (ad (xY X) 0)), some (.int x), some (.int (nI 0)), none] 0 []
  refine z_iload1 C dX7_liveThrough_0 ?_
  refine z_iconstN 1 C dX7_liveThrough_1 ?_
  refine z_bipush (v := nI 40) C dX7_liveThrough_2 (by decide) ?_
  refine z_callSI C dX7_liveThrough_4 c_X7_within gX7_liveThrough_X7_within md_X7_within (by decide) rfl rfl (Nat.le_of_ble_eq_true rfl) ?_
  refine z_if_neB C 12 dX7_liveThrough_7 (by decide) (fun c7 => ?_) (fun c7 => ?_)
  · obtain ⟨N, h1, h2, rfl⟩ := inB_of (by decide) c7 (by decide)
    have hday := hI.1.1 2 (by decide)
    have hd9 := hO.2.2.1
    refine z_aload0 C dX7_liveThrough_12 ?_
    refine z_get C dX7_liveThrough_13 fl_X7_liveThrough_10 (k_EM _) rfl ?_
    refine z_get C dX7_liveThrough_16 fl_X7_liveThrough_147 (k_Rock _ isR_now) rfl ?_
    refine z_top C hday ?_
    refine z_iload1 C dX7_liveThrough_19 ?_
    refine z_iaddN C dX7_liveThrough_20 ?_
    refine z_sipush (v := nI 9999) C dX7_liveThrough_21 (by decide) ?_
    refine z_icmp_leN C 30 dX7_liveThrough_24 (by decide) (by omega) (by omega) (fun c24 => ?_) (fun c24 => ?_)
    · refine z_iconstN 0 C dX7_liveThrough_30 ?_
      refine z_istore3 C dX7_liveThrough_31 nl_i ?_
      exact lp_X7_live0 h1 h2 (by omega) hr C N 0 _ b (by omega) hI hO (by omega) Fr.rf rfl
    · refine z_bipush (v := (-3)) C dX7_liveThrough_27 (by decide) ?_
      exact z_iretP C dX7_liveThrough_29 hr rfl ⟨by rw [aDays_f h1 h2 (by omega)], by rw [aDays_f h1 h2 (by omega)]; exact hI, Fr.rf⟩
  · refine z_iconst (v := (-1)) C dX7_liveThrough_10 (by decide) ?_
    exact z_iretP C dX7_liveThrough_11 hr rfl ⟨by rw [aDays_n c7], by rw [aDays_n c7]; exact hI, Fr.rf⟩

theorem md_X2_drawAndSend : MD yX2_drawAndSend wsX2_drawAndSend 0 1 none := ⟨_, _, rfl, by decide, by decide +kernel, by decide +kernel, by decide +kernel⟩
set_option maxHeartbeats 4000000 in
set_option maxRecDepth 100000 in
theorem lp_X7_live1 {X : CX} {S : GS} {b : B3} {N : Nat} (h1 : 1 ≤ N) (h2 : N ≤ 40) (h3 : ¬ 9999 < b.1 0 2 + N) (hr : RtP X .int (fun r u => r = (aDays vDr b (nI N)).1 ∧ IC u (aDays vDr b (nI N)).2 ∧ Fr clN S u)) (C : Cx X cX7_liveThrough RX7 wsX7_liveThrough 6) : ∀ (n : Nat) (i : Nat) (T : GS) (c : B3), i + n = N → IC T c → OkB c → c.1 0 2 + n ≤ 9999 → Fr clN S T → bDays vDr N b = foldN (fun _ c => bDay vDr c) n i c → Zj X T [some (.ref (ad (xY X) 0)), some (.int (nI (N))), some (.int (nI (1))), some (.int (nI (i)))] 32 [] := by
  intro n
  induction n with
  | zero =>
    intro i T c hi hI hO hd hf hg
    obtain ⟨hC, hk8, od, hod, k1, k2, k3⟩ := id hI
    obtain ⟨ok1, ok2, ok3, ok4, ok5⟩ := id hO
    have hg : bDays vDr N b = c := hg
    refine z_iload3 C dX7_liveThrough_32 ?_
    refine z_iload1 C dX7_liveThrough_33 ?_
    refine z_icmp_geN C 73 dX7_liveThrough_34 (by decide) (by omega) (by omega) (fun c34 => ?_) (fun c34 => ?_)
    · refine z_aload0 C dX7_liveThrough_73 ?_
      refine z_get C dX7_liveThrough_74 fl_X7_liveThrough_10 (k_EM _) rfl ?_
      refine z_callVI C dX7_liveThrough_77 (c_X2_goneSet isR_now ok1.1 (hC.1 0 (by decide))) gX7_liveThrough_X2_goneSet md_X2_goneSet rfl (by decide) (k_Rock _ isR_now) rfl rfl rfl (Nat.le_of_ble_eq_true rfl) ?_
      exact z_iretP C dX7_liveThrough_80 hr rfl ⟨by rw [aDays_y h1 h2 h3, hg]; exact goneV_c hC ok1, by rw [aDays_y h1 h2 h3, hg]; exact hI, hf⟩
    · exact absurd c34 (by omega)
  | succ n ih =>
    intro i T c hi hI hO hd hf hg
    obtain ⟨hC, hk8, od, hod, k1, k2, k3⟩ := hI
    obtain ⟨ok1, ok2, ok3, ok4, ok5⟩ := id hO
    obtain ⟨w1, w2⟩ := IC_keep hod hk8 k1 k2 k3 hC ok1
    have w3 := HC_DS w1
    have hnk : (vDr c.1) 0 1 ≤ 5 := (Ok_dr ok1).2.1
    refine z_iload3 C dX7_liveThrough_32 ?_
    refine z_iload1 C dX7_liveThrough_33 ?_
    refine z_icmp_geN C 73 dX7_liveThrough_34 (by decide) (by omega) (by omega) (fun c34 => ?_) (fun c34 => ?_)
    · exact absurd c34 (by omega)
    · refine z_aload0 C dX7_liveThrough_37 ?_
      refine z_get C dX7_liveThrough_38 fl_X7_liveThrough_19 (k_EM _) rfl ?_
      refine z_aload0 C dX7_liveThrough_41 ?_
      refine z_get C dX7_liveThrough_42 fl_X7_liveThrough_10 (k_EM _) rfl ?_
      refine z_callVV C dX7_liveThrough_45 (c_X0_keep hod hk8 k1 k2) gX7_liveThrough_X0_keep md_X0_keep rfl (by decide) (k_Known _) rfl rfl rfl (Nat.le_of_ble_eq_true rfl) ?_
      refine z_iload2 C dX7_liveThrough_48 ?_
      refine z_if_eqF C 59 dX7_liveThrough_49 (by decide) (by decide) ?_
      refine z_aload0 C dX7_liveThrough_52 ?_
      refine z_get C dX7_liveThrough_53 fl_X7_liveThrough_10 (k_EM _) rfl ?_
      refine z_callVV C dX7_liveThrough_56 (c_X2_drawAndSend w1 ok1) gX7_liveThrough_X2_drawAndSend md_X2_drawAndSend rfl (by decide) (k_Rock _ isR_now) rfl rfl rfl (Nat.le_of_ble_eq_true rfl) ?_
      refine z_aload0 C dX7_liveThrough_59 ?_
      refine z_get C dX7_liveThrough_60 fl_X7_liveThrough_10 (k_EM _) rfl ?_
      refine z_iconstN 0 C dX7_liveThrough_63 ?_
      refine z_callVV C dX7_liveThrough_64 (c_X2_passDay isR_now hnk (w3.1 1 (by decide)) (HC_sOk w3 (Ok_dr ok1))) gX7_liveThrough_X2_passDay md_X2_passDay rfl (by decide) (k_Rock _ isR_now) rfl rfl rfl (Nat.le_of_ble_eq_true rfl) ?_
      refine z_iinc3 C dX7_liveThrough_67 (inc1 _) nl_i ?_
      refine z_goto C 32 dX7_liveThrough_70 (by decide) ?_
      exact ih (i + 1) _ _ (by omega) ⟨(HC_PD w3 (Ok_dr ok1)).1, HK_fr (HK_fr w2 cDS_fr (by omega) (fun o q1 q2 q3 => by omega)) cPD_fr (by omega) (fun o q1 q2 q3 => by omega)⟩ (OkB_day gOk_dr hO (by omega)) (by rw [bDay_day gOk_dr]; omega) (hf.tr (((cKp_fr.mono (fun o q => by omega)).tr (cDS_fr.mono (fun o q => by omega))).tr (cPD_fr.mono (fun o q => by omega)))) hg

set_option maxHeartbeats 4000000 in
set_option maxRecDepth 100000 in
theorem c_X7_live1 {l : Launch} {Y : LY} {S : GS} {b : B3} {x : Int32} (hI : IC S b) (hO : OkB b) : CtP l yX7_liveThrough wsX7_liveThrough 6 Y [.ref (ad Y 0), .int x, .int (nI 1)] S (fun r u => r = (aDays vDr b x).1 ∧ IC u (aDays vDr b x).2 ∧ Fr clN S u) := by
  refine mkP (cc := cX7_liveThrough) (maxL := 4) rfl rfl (Nat.le_of_ble_eq_true rfl) ?_
  intro X hl hY C hr
  subst hl
  subst hY
  show Zj X S [some (.ref (ad (xY X) 0)), some (.int x), some (.int (nI 1)), none] 0 []
  refine z_iload1 C dX7_liveThrough_0 ?_
  refine z_iconstN 1 C dX7_liveThrough_1 ?_
  refine z_bipush (v := nI 40) C dX7_liveThrough_2 (by decide) ?_
  refine z_callSI C dX7_liveThrough_4 c_X7_within gX7_liveThrough_X7_within md_X7_within (by decide) rfl rfl (Nat.le_of_ble_eq_true rfl) ?_
  refine z_if_neB C 12 dX7_liveThrough_7 (by decide) (fun c7 => ?_) (fun c7 => ?_)
  · obtain ⟨N, h1, h2, rfl⟩ := inB_of (by decide) c7 (by decide)
    have hday := hI.1.1 2 (by decide)
    have hd9 := hO.2.2.1
    refine z_aload0 C dX7_liveThrough_12 ?_
    refine z_get C dX7_liveThrough_13 fl_X7_liveThrough_10 (k_EM _) rfl ?_
    refine z_get C dX7_liveThrough_16 fl_X7_liveThrough_147 (k_Rock _ isR_now) rfl ?_
    refine z_top C hday ?_
    refine z_iload1 C dX7_liveThrough_19 ?_
    refine z_iaddN C dX7_liveThrough_20 ?_
    refine z_sipush (v := nI 9999) C dX7_liveThrough_21 (by decide) ?_
    refine z_icmp_leN C 30 dX7_liveThrough_24 (by decide) (by omega) (by omega) (fun c24 => ?_) (fun c24 => ?_)
    · refine z_iconstN 0 C dX7_liveThrough_30 ?_
      refine z_istore3 C dX7_liveThrough_31 nl_i ?_
      exact lp_X7_live1 h1 h2 (by omega) hr C N 0 _ b (by omega) hI hO (by omega) Fr.rf rfl
    · refine z_bipush (v := (-3)) C dX7_liveThrough_27 (by decide) ?_
      exact z_iretP C dX7_liveThrough_29 hr rfl ⟨by rw [aDays_f h1 h2 (by omega)], by rw [aDays_f h1 h2 (by omega)]; exact hI, Fr.rf⟩
  · refine z_iconst (v := (-1)) C dX7_liveThrough_10 (by decide) ?_
    exact z_iretP C dX7_liveThrough_11 hr rfl ⟨by rw [aDays_n c7], by rw [aDays_n c7]; exact hI, Fr.rf⟩

theorem md_X7_liveThrough : MD yX7_liveThrough wsX7_liveThrough 2 4 (some .int) := ⟨_, _, rfl, by decide, by decide +kernel, by decide +kernel, by decide +kernel⟩
set_option maxHeartbeats 4000000 in
set_option maxRecDepth 100000 in
theorem c_X7_days {l : Launch} {Y : LY} {S : GS} {b : B3} {x : Int32} (hI : IC S b) (hO : OkB b) : CtP l yX7_days wsX7_days 7 Y [.ref (ad Y 0), .int x] S (fun r u => r = (aDays id b x).1 ∧ IC u (aDays id b x).2 ∧ Fr clN S u) := by
  refine mkP (cc := cX7_days) (maxL := 2) rfl rfl (Nat.le_of_ble_eq_true rfl) ?_
  intro X hl hY C hr
  subst hl
  subst hY
  show Zj X S [some (.ref (ad (xY X) 0)), some (.int x)] 0 []
  refine z_aload0 C dX7_days_0 ?_
  refine z_iload1 C dX7_days_1 ?_
  refine z_iconstN 0 C dX7_days_2 ?_
  refine z_callVP C dX7_days_3 (c_X7_live0 hI hO) gX7_days_X7_liveThrough md_X7_liveThrough rfl (by decide) (k_EM _) rfl rfl rfl (Nat.le_of_ble_eq_true rfl) ?_
  intro r0 S0 hS0
  exact z_iretP C dX7_days_6 hr rfl hS0

set_option maxHeartbeats 4000000 in
set_option maxRecDepth 100000 in
theorem c_X7_drift {l : Launch} {Y : LY} {S : GS} {b : B3} {x : Int32} (hI : IC S b) (hO : OkB b) : CtP l yX7_drift wsX7_drift 7 Y [.ref (ad Y 0), .int x] S (fun r u => r = (aDays vDr b x).1 ∧ IC u (aDays vDr b x).2 ∧ Fr clN S u) := by
  refine mkP (cc := cX7_drift) (maxL := 2) rfl rfl (Nat.le_of_ble_eq_true rfl) ?_
  intro X hl hY C hr
  subst hl
  subst hY
  show Zj X S [some (.ref (ad (xY X) 0)), some (.int x)] 0 []
  refine z_aload0 C dX7_drift_0 ?_
  refine z_iload1 C dX7_drift_1 ?_
  refine z_iconstN 1 C dX7_drift_2 ?_
  refine z_callVP C dX7_drift_3 (c_X7_live1 hI hO) gX7_drift_X7_liveThrough md_X7_liveThrough rfl (by decide) (k_EM _) rfl rfl rfl (Nat.le_of_ble_eq_true rfl) ?_
  intro r0 S0 hS0
  exact z_iretP C dX7_drift_6 hr rfl hS0
