abbrev sndP (V : VR) (x y : Int32) : Prop := inR x (V 0 1) ∧ (y = -4 ∨ inR y (V 0 0))
def sndV (y : Int32) : Nat := if y = -4 then 0 else y.toNatClampNeg + 1
def bPush (b : B3) (W : VR) : B3 := (W, pushU b.2.1 b.2.2 b.1, pushN b.2.2)
theorem OkB_pushW {b : B3} {W : VR} (h : OkB b) (h1 : Ok W) (h2 : SF b.1 W) (h3 : W 0 2 ≤ 9999) (h4 : W 0 4 < 2 ^ 31) : OkB (bPush b W) := ⟨h1, OkU_push h.2.2.2.2 h.2.1 h.1 h.2.2.1 h.2.2.2.1 h2, h3, h4, (pushN_in _ h.2.2.2.2).1⟩
def aSend (b : B3) (x y : Int32) : Int32 × B3 := if sndP b.1 x y then (if sI (b.1 7 x.toNatClampNeg) = y then (-2, b) else (sI (b.1 7 x.toNatClampNeg), bPush b (vs b.1 7 x.toNatClampNeg (sndV y)))) else (-1, b)
theorem aSend_n {b : B3} {x y : Int32} (h : ¬ sndP b.1 x y) : aSend b x y = (-1, b) := if_neg h
theorem aSend_s {b : B3} {k : Nat} {y : Int32} (hk : k < 5) (h : sndP b.1 (nI k) y) (h2 : sI (b.1 7 k) = y) : aSend b (nI k) y = (-2, b) := by
  unfold aSend
  rw [if_pos h, nI_clamp (by omega), if_pos h2]
theorem aSend_y {b : B3} {k : Nat} {y : Int32} (hk : k < 5) (h : sndP b.1 (nI k) y) (h2 : ¬ sI (b.1 7 k) = y) : aSend b (nI k) y = (sI (b.1 7 k), bPush b (vs b.1 7 k (sndV y))) := by
  unfold aSend
  rw [if_pos h, nI_clamp (by omega), if_neg h2]
theorem sndV_eq {V : VR} {x y : Int32} (h6 : V 0 0 ≤ 6) (h : sndP V x y) : sI (sndV y) = y ∧ sndV y ≤ V 0 0 := by
  unfold sndV
  rcases h.2 with h | h
  · rw [if_pos h]
    exact ⟨h.symm, Nat.zero_le _⟩
  · obtain ⟨j, hj, rfl⟩ := inR_of (by omega) h
    rw [if_neg (fun z => absurd (show nI j < 0 by rw [z]; decide) (nI_pos (by omega))), nI_clamp (by omega), sI_s]
    exact ⟨rfl, hj⟩
theorem SF_vs {V : VR} {f i v : Nat} (h : f = 1 ∨ f = 7 ∨ (f = 0 ∧ 2 ≤ i)) : SF V (vs V f i v) := ⟨(vs_no (by omega)).symm, (vs_no (by omega)).symm, fun m _ => (vs_no (by omega)).symm, fun k _ => (vs_no (by omega)).symm⟩

set_option maxRecDepth 20000 in
theorem fl_X7_send_10 : FL RX7 wsX7_send 10 7 0 := ⟨RX7, TX7, 12, rfl, (fun w h => List.mem_cons_of_mem _ (List.mem_append_left _ (List.mem_append_left _ (List.mem_append_right _ h)))), by decide, by decide +kernel⟩
set_option maxRecDepth 20000 in
theorem fl_X7_send_127 : FL RX7 wsX7_send 127 2 11 := ⟨RX2, TX2, 12, rfl, (fun w h => List.mem_cons_of_mem _ (List.mem_append_left _ (List.mem_append_right _ h))), by decide, by decide +kernel⟩
set_option maxRecDepth 20000 in
theorem fl_X7_send_19 : FL RX7 wsX7_send 19 7 1 := ⟨RX7, TX7, 12, rfl, (fun w h => List.mem_cons_of_mem _ (List.mem_append_left _ (List.mem_append_left _ (List.mem_append_right _ h)))), by decide, by decide +kernel⟩
set_option maxHeartbeats 4000000 in
set_option maxRecDepth 100000 in
theorem c_X7_send {l : Launch} {Y : LY} {S : GS} {b : B3} (hI : IC S b) (hO : OkB b) {x y : Int32} : CtP l yX7_send wsX7_send 6 Y [.ref (ad Y 0), .int x, .int y] S (fun r u => r = (aSend b x y).1 ∧ IC u (aSend b x y).2 ∧ Fr clN S u) := by
  refine mkP (cc := cX7_send) (maxL := 4) rfl rfl (Nat.le_of_ble_eq_true rfl) ?_
  intro X hl hY C hr
  subst hl
  subst hY
  obtain ⟨hC, hk8, od, hod, k1, k2, k3⟩ := id hI
  obtain ⟨ok1, ok2, ok3, ok4, ok5⟩ := id hO
  obtain ⟨w1, w2⟩ := IC_keep hod hk8 k1 k2 k3 hC ok1
  have hM : S.1 26 0 = nI (b.1 0 0) := hC.1 0 (by decide)
  have hK : S.1 26 1 = nI (b.1 0 1) := hC.1 1 (by decide)
  have o1 := ok1.1
  have o2 := ok1.2.1
  show Zj X S [some (.ref (ad (xY X) 0)), some (.int x), some (.int y), none] 0 []
  refine z_aload0 C dX7_send_0 ?_
  refine z_iload1 C dX7_send_1 ?_
  refine z_callVI C dX7_send_2 (c_X7_hasMonk hK) gX7_send_X7_hasMonk md_X7_hasMonk rfl (by decide) (k_EM _) rfl rfl rfl (Nat.le_of_ble_eq_true rfl) ?_
  refine z_if_eqB C 22 dX7_send_5 (by decide) (fun c5 => ?_) (fun c5 => ?_)
  · refine z_iconst (v := (-1)) C dX7_send_22 (by decide) ?_
    exact z_iretP C dX7_send_23 hr rfl ⟨by rw [aSend_n (by rintro ⟨h1, h2 | h2⟩ <;> contradiction)], by rw [aSend_n (by rintro ⟨h1, h2 | h2⟩ <;> contradiction)]; exact hI, Fr.rf⟩
  · refine z_iload2 C dX7_send_8 ?_
    refine z_bipush (v := (-4)) C dX7_send_9 (by decide) ?_
    refine z_icmp_eq C 24 dX7_send_11 (by decide) (fun c11 => ?_) (fun c11 => ?_)
    · have hsp : sndP b.1 x y := ⟨by assumption, by first | exact Or.inl (by assumption) | exact Or.inr (by assumption)⟩
      obtain ⟨k, hk, rfl⟩ := inR_of (by omega) c5
      have hsn := (hC.2.2 k hk).2.2
      obtain ⟨e1, e2⟩ := sndV_eq o1 hsp
      refine z_aload0 C dX7_send_24 ?_
      refine z_get C dX7_send_25 fl_X7_send_10 (k_EM _) rfl ?_
      refine z_get C dX7_send_28 fl_X7_send_127 (k_Rock _ isR_now) rfl ?_
      refine z_iload1 C dX7_send_31 ?_
      refine z_iald C dX7_send_32 (k_sent _ isR_now) (by omega) ?_
      refine z_istore3 C dX7_send_33 nl_i ?_
      refine z_iload3 C dX7_send_34 ?_
      refine z_iload2 C dX7_send_35 ?_
      refine z_icmp_ne C 42 dX7_send_36 (by decide) (fun c36 => ?_) (fun c36 => ?_)
      · refine z_aload0 C dX7_send_42 ?_
        refine z_get C dX7_send_43 fl_X7_send_19 (k_EM _) rfl ?_
        refine z_aload0 C dX7_send_46 ?_
        refine z_get C dX7_send_47 fl_X7_send_10 (k_EM _) rfl ?_
        refine z_callVV C dX7_send_50 (c_X0_keep hod hk8 k1 k2) gX7_send_X0_keep md_X0_keep rfl (by decide) (k_Known _) rfl rfl rfl (Nat.le_of_ble_eq_true rfl) ?_
        refine z_aload0 C dX7_send_53 ?_
        refine z_get C dX7_send_54 fl_X7_send_10 (k_EM _) rfl ?_
        refine z_get C dX7_send_57 fl_X7_send_127 (k_Rock _ isR_now) rfl ?_
        refine z_iload1 C dX7_send_60 ?_
        refine z_iload2 C dX7_send_61 ?_
        refine z_iast C dX7_send_62 (k_sent _ isR_now) (by omega) ?_
        refine z_iload3 C dX7_send_63 ?_
        exact z_iretP C dX7_send_64 hr rfl ⟨by rw [aSend_y (by omega) hsp (by rw [← hsn]; exact c36)]; exact hsn, by rw [aSend_y (by omega) hsp (by rw [← hsn]; exact c36)]; exact ⟨HC_set (f := 7) (by decide) (by rw [if_pos rfl, e1]) (fun z => by omega) w1, HK_fr w2 (Fr.I (P := fun o => o = 33) rfl) (by omega) (fun o q1 q2 q3 => by omega)⟩, (cKp_fr.mono (fun o q => by omega)).tr (Fr.I (by omega))⟩
      · refine z_bipush (v := (-2)) C dX7_send_39 (by decide) ?_
        exact z_iretP C dX7_send_41 hr rfl ⟨by rw [aSend_s (by omega) hsp (by rw [← hsn]; exact c36)], by rw [aSend_s (by omega) hsp (by rw [← hsn]; exact c36)]; exact hI, Fr.rf⟩
    · refine z_aload0 C dX7_send_14 ?_
      refine z_iload2 C dX7_send_15 ?_
      refine z_callVI C dX7_send_16 (c_X7_hasMark hM) gX7_send_X7_hasMark md_X7_hasMark rfl (by decide) (k_EM _) rfl rfl rfl (Nat.le_of_ble_eq_true rfl) ?_
      refine z_if_neB C 24 dX7_send_19 (by decide) (fun c19 => ?_) (fun c19 => ?_)
      · have hsp : sndP b.1 x y := ⟨by assumption, by first | exact Or.inl (by assumption) | exact Or.inr (by assumption)⟩
        obtain ⟨k, hk, rfl⟩ := inR_of (by omega) c5
        have hsn := (hC.2.2 k hk).2.2
        obtain ⟨e1, e2⟩ := sndV_eq o1 hsp
        refine z_aload0 C dX7_send_24 ?_
        refine z_get C dX7_send_25 fl_X7_send_10 (k_EM _) rfl ?_
        refine z_get C dX7_send_28 fl_X7_send_127 (k_Rock _ isR_now) rfl ?_
        refine z_iload1 C dX7_send_31 ?_
        refine z_iald C dX7_send_32 (k_sent _ isR_now) (by omega) ?_
        refine z_istore3 C dX7_send_33 nl_i ?_
        refine z_iload3 C dX7_send_34 ?_
        refine z_iload2 C dX7_send_35 ?_
        refine z_icmp_ne C 42 dX7_send_36 (by decide) (fun c36 => ?_) (fun c36 => ?_)
        · refine z_aload0 C dX7_send_42 ?_
          refine z_get C dX7_send_43 fl_X7_send_19 (k_EM _) rfl ?_
          refine z_aload0 C dX7_send_46 ?_
          refine z_get C dX7_send_47 fl_X7_send_10 (k_EM _) rfl ?_
          refine z_callVV C dX7_send_50 (c_X0_keep hod hk8 k1 k2) gX7_send_X0_keep md_X0_keep rfl (by decide) (k_Known _) rfl rfl rfl (Nat.le_of_ble_eq_true rfl) ?_
          refine z_aload0 C dX7_send_53 ?_
          refine z_get C dX7_send_54 fl_X7_send_10 (k_EM _) rfl ?_
          refine z_get C dX7_send_57 fl_X7_send_127 (k_Rock _ isR_now) rfl ?_
          refine z_iload1 C dX7_send_60 ?_
          refine z_iload2 C dX7_send_61 ?_
          refine z_iast C dX7_send_62 (k_sent _ isR_now) (by omega) ?_
          refine z_iload3 C dX7_send_63 ?_
          exact z_iretP C dX7_send_64 hr rfl ⟨by rw [aSend_y (by omega) hsp (by rw [← hsn]; exact c36)]; exact hsn, by rw [aSend_y (by omega) hsp (by rw [← hsn]; exact c36)]; exact ⟨HC_set (f := 7) (by decide) (by rw [if_pos rfl, e1]) (fun z => by omega) w1, HK_fr w2 (Fr.I (P := fun o => o = 33) rfl) (by omega) (fun o q1 q2 q3 => by omega)⟩, (cKp_fr.mono (fun o q => by omega)).tr (Fr.I (by omega))⟩
        · refine z_bipush (v := (-2)) C dX7_send_39 (by decide) ?_
          exact z_iretP C dX7_send_41 hr rfl ⟨by rw [aSend_s (by omega) hsp (by rw [← hsn]; exact c36)], by rw [aSend_s (by omega) hsp (by rw [← hsn]; exact c36)]; exact hI, Fr.rf⟩
      · refine z_iconst (v := (-1)) C dX7_send_22 (by decide) ?_
        exact z_iretP C dX7_send_23 hr rfl ⟨by rw [aSend_n (by rintro ⟨h1, h2 | h2⟩ <;> contradiction)], by rw [aSend_n (by rintro ⟨h1, h2 | h2⟩ <;> contradiction)]; exact hI, Fr.rf⟩

set_option maxRecDepth 20000 in
theorem fl_X8_send_7 : FL RX8 wsX8_send 7 8 0 := ⟨RX8, TX8, 15, rfl, (fun w h => List.mem_cons_of_mem _ (List.mem_append_right _ h)), by decide, by decide +kernel⟩
set_option maxHeartbeats 4000000 in
set_option maxRecDepth 100000 in
theorem c_X8_send {l : Launch} {Y : LY} {S : GS} {b : B3} (hI : IM S b) (hO : OkB b) {x y : Int32} : CtP l yX8_send wsX8_send 4 Y [.ref (ad Y 178), .int x, .int y] S (fun r u => r = (aSend b x y).1 ∧ IM u (aSend b x y).2 ∧ FrN S u) := by
  refine mkP (cc := cX8_send) (maxL := 4) rfl rfl (Nat.le_of_ble_eq_true rfl) ?_
  intro X hl hY C hr
  subst hl
  subst hY
  obtain ⟨ok1, ok2, ok3, ok4, ok5⟩ := id hO
  obtain ⟨w1, w2, w3⟩ := IM_minds hI hO
  have p2 := OkB_push hO
  have hM : S.1 179 0 = nI (b.1 0 0) := hI.1.1.1
  have hK : S.1 179 1 = nI (b.1 0 1) := hI.1.1.2.1
  have ho := ok1
  have o1 := ok1.1
  have o2 := ok1.2.1
  show Zj X S [some (.ref (ad (xY X) 178)), some (.int x), some (.int y), none] 0 []
  refine z_aload0 C dX8_send_0 ?_
  refine z_iload1 C dX8_send_1 ?_
  refine z_callVI C dX8_send_2 (c_X8_isMonk2 ho.2.1 hK) gX8_send_X8_isMonk md_X8_isMonk rfl (by decide) (k_Model _) rfl rfl rfl (Nat.le_of_ble_eq_true rfl) ?_
  refine z_if_eqB C 22 dX8_send_5 (by decide) (fun c5 => ?_) (fun c5 => ?_)
  · refine z_iconst (v := (-1)) C dX8_send_22 (by decide) ?_
    exact z_iretP C dX8_send_23 hr rfl ⟨by rw [aSend_n (by rintro ⟨h1, h2 | h2⟩ <;> contradiction)], by rw [aSend_n (by rintro ⟨h1, h2 | h2⟩ <;> contradiction)]; exact hI, FrN.rf⟩
  · refine z_iload2 C dX8_send_8 ?_
    refine z_bipush (v := (-4)) C dX8_send_9 (by decide) ?_
    refine z_icmp_eq C 24 dX8_send_11 (by decide) (fun c11 => ?_) (fun c11 => ?_)
    · have hsp : sndP b.1 x y := ⟨by assumption, by first | exact Or.inl (by assumption) | exact Or.inr (by assumption)⟩
      obtain ⟨k, hk, rfl⟩ := inR_of (by omega) c5
      have hsn : S.1 179 (28 + k) = sI (b.1 7 k) := by have q := (hI.1.2.2 k hk).2.2; rw [Nat.zero_add] at q; exact q
      obtain ⟨e1, e2⟩ := sndV_eq o1 hsp
      refine z_aload0 C dX8_send_24 ?_
      refine z_get C dX8_send_25 fl_X8_send_7 (k_Model _) rfl ?_
      refine z_bipush (v := nI 28) C dX8_send_28 (by decide) ?_
      refine z_iload1 C dX8_send_30 ?_
      refine z_iaddN C dX8_send_31 ?_
      refine z_iald C dX8_send_32 (k_i179 _) (by omega) ?_
      refine z_istore3 C dX8_send_33 nl_i ?_
      refine z_iload3 C dX8_send_34 ?_
      refine z_iload2 C dX8_send_35 ?_
      refine z_icmp_ne C 42 dX8_send_36 (by decide) (fun c36 => ?_) (fun c36 => ?_)
      · refine z_aload0 C dX8_send_42 ?_
        refine z_callVV C dX8_send_43 (c_X8_minds ok5 hI.2.2.1) gX8_send_X8_minds md_X8_minds rfl (by decide) (k_Model _) rfl rfl rfl (Nat.le_of_ble_eq_true rfl) ?_
        refine z_aload0 C dX8_send_46 ?_
        refine z_get C dX8_send_47 fl_X8_send_7 (k_Model _) rfl ?_
        refine z_bipush (v := nI 28) C dX8_send_50 (by decide) ?_
        refine z_iload1 C dX8_send_52 ?_
        refine z_iaddN C dX8_send_53 ?_
        refine z_iload2 C dX8_send_54 ?_
        refine z_iast C dX8_send_55 (k_i179 _) (by omega) ?_
        refine z_iload3 C dX8_send_56 ?_
        exact z_iretP C dX8_send_57 hr rfl ⟨by rw [aSend_y (by omega) hsp (by rw [← hsn]; exact c36)]; exact hsn, by rw [aSend_y (by omega) hsp (by rw [← hsn]; exact c36)]; exact ⟨HW_stI (f := 7) ok1 (Or.inr (Or.inr ⟨⟨by decide, by decide⟩, hk⟩)) (by rw [Nat.zero_add]; rfl) (by rw [if_pos rfl, e1]) (fun z => by omega) w1, HU_ok w2 p2 (fun i q1 q2 => stI_ni (by omega))⟩, w3.tr (FrN.of Fr.M (fun i q1 q2 => stI_ni (by omega)))⟩
      · refine z_bipush (v := (-2)) C dX8_send_39 (by decide) ?_
        exact z_iretP C dX8_send_41 hr rfl ⟨by rw [aSend_s (by omega) hsp (by rw [← hsn]; exact c36)], by rw [aSend_s (by omega) hsp (by rw [← hsn]; exact c36)]; exact hI, FrN.rf⟩
    · refine z_aload0 C dX8_send_14 ?_
      refine z_iload2 C dX8_send_15 ?_
      refine z_callVI C dX8_send_16 (c_X8_isMark2 ho.1 hM) gX8_send_X8_isMark md_X8_isMark rfl (by decide) (k_Model _) rfl rfl rfl (Nat.le_of_ble_eq_true rfl) ?_
      refine z_if_neB C 24 dX8_send_19 (by decide) (fun c19 => ?_) (fun c19 => ?_)
      · have hsp : sndP b.1 x y := ⟨by assumption, by first | exact Or.inl (by assumption) | exact Or.inr (by assumption)⟩
        obtain ⟨k, hk, rfl⟩ := inR_of (by omega) c5
        have hsn : S.1 179 (28 + k) = sI (b.1 7 k) := by have q := (hI.1.2.2 k hk).2.2; rw [Nat.zero_add] at q; exact q
        obtain ⟨e1, e2⟩ := sndV_eq o1 hsp
        refine z_aload0 C dX8_send_24 ?_
        refine z_get C dX8_send_25 fl_X8_send_7 (k_Model _) rfl ?_
        refine z_bipush (v := nI 28) C dX8_send_28 (by decide) ?_
        refine z_iload1 C dX8_send_30 ?_
        refine z_iaddN C dX8_send_31 ?_
        refine z_iald C dX8_send_32 (k_i179 _) (by omega) ?_
        refine z_istore3 C dX8_send_33 nl_i ?_
        refine z_iload3 C dX8_send_34 ?_
        refine z_iload2 C dX8_send_35 ?_
        refine z_icmp_ne C 42 dX8_send_36 (by decide) (fun c36 => ?_) (fun c36 => ?_)
        · refine z_aload0 C dX8_send_42 ?_
          refine z_callVV C dX8_send_43 (c_X8_minds ok5 hI.2.2.1) gX8_send_X8_minds md_X8_minds rfl (by decide) (k_Model _) rfl rfl rfl (Nat.le_of_ble_eq_true rfl) ?_
          refine z_aload0 C dX8_send_46 ?_
          refine z_get C dX8_send_47 fl_X8_send_7 (k_Model _) rfl ?_
          refine z_bipush (v := nI 28) C dX8_send_50 (by decide) ?_
          refine z_iload1 C dX8_send_52 ?_
          refine z_iaddN C dX8_send_53 ?_
          refine z_iload2 C dX8_send_54 ?_
          refine z_iast C dX8_send_55 (k_i179 _) (by omega) ?_
          refine z_iload3 C dX8_send_56 ?_
          exact z_iretP C dX8_send_57 hr rfl ⟨by rw [aSend_y (by omega) hsp (by rw [← hsn]; exact c36)]; exact hsn, by rw [aSend_y (by omega) hsp (by rw [← hsn]; exact c36)]; exact ⟨HW_stI (f := 7) ok1 (Or.inr (Or.inr ⟨⟨by decide, by decide⟩, hk⟩)) (by rw [Nat.zero_add]; rfl) (by rw [if_pos rfl, e1]) (fun z => by omega) w1, HU_ok w2 p2 (fun i q1 q2 => stI_ni (by omega))⟩, w3.tr (FrN.of Fr.M (fun i q1 q2 => stI_ni (by omega)))⟩
        · refine z_bipush (v := (-2)) C dX8_send_39 (by decide) ?_
          exact z_iretP C dX8_send_41 hr rfl ⟨by rw [aSend_s (by omega) hsp (by rw [← hsn]; exact c36)], by rw [aSend_s (by omega) hsp (by rw [← hsn]; exact c36)]; exact hI, FrN.rf⟩
      · refine z_iconst (v := (-1)) C dX8_send_22 (by decide) ?_
        exact z_iretP C dX8_send_23 hr rfl ⟨by rw [aSend_n (by rintro ⟨h1, h2 | h2⟩ <;> contradiction)], by rw [aSend_n (by rintro ⟨h1, h2 | h2⟩ <;> contradiction)]; exact hI, FrN.rf⟩
