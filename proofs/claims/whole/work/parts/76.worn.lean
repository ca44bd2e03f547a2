def wrs (it : Nat → Int64) (k : Nat) : Nat → Nat → VR → Bool
  | 0, _, _ => true
  | n + 1, e, U => decide (it e = (nI (vPD U (nI 0) 6 k)).toInt64) && wrs it k n (e + 1) (vPD U (nI 0))
theorem wrs_t {it : Nat → Int64} {k n e : Nat} {U : VR} (h : it e = (nI (vPD U (nI 0) 6 k)).toInt64) : wrs it k (n + 1) e U = wrs it k n (e + 1) (vPD U (nI 0)) := by
  simp only [wrs, h, decide_true, Bool.true_and]
theorem wrs_f {it : Nat → Int64} {k n e : Nat} {U : VR} (h : ¬ it e = (nI (vPD U (nI 0) 6 k)).toInt64) : wrs it k (n + 1) e U = false := by
  simp only [wrs, h, decide_false, Bool.false_and]
def wrV (V : VR) (it : Nat → Int64) (k f m i n c v0 : Nat) : Int32 := foldN (fun v a => if wrs it k n i (vs V f m v) = true then a ||| nI 1 <<< (nI v &&& 31) else a) c v0 (nI 0)
def aWorn (V : VR) (q : SQ) (x s l i n w : Int32) : Int32 := if inR x (V 0 1) ∧ (inB s 0 3 ∧ inB l 0 3) ∧ inB n 1 8 ∧ inB w 0 1 then (if 0 ≤ aLook q s.toNatClampNeg l i n then (if w = 0 then wrV V (q.2.2.2 s.toNatClampNeg) x.toNatClampNeg 5 x.toNatClampNeg i.toNatClampNeg n.toNatClampNeg 5 0 else if V 7 x.toNatClampNeg = 0 then -2 else wrV V (q.2.2.2 s.toNatClampNeg) x.toNatClampNeg 2 (V 7 x.toNatClampNeg - 1) i.toNatClampNeg n.toNatClampNeg 9 1) else aLook q s.toNatClampNeg l i n) else -1
theorem aWorn_n {V : VR} {q : SQ} {x s l i n w : Int32} (h : ¬ (inR x (V 0 1) ∧ (inB s 0 3 ∧ inB l 0 3) ∧ inB n 1 8 ∧ inB w 0 1)) : aWorn V q x s l i n w = -1 := if_neg h
theorem aWorn_l {V : VR} {q : SQ} {x l i n w : Int32} {j : Nat} (hj : j < 4) (h1 : inR x (V 0 1)) (h2 : inB n 1 8) (h3 : inB l 0 3) (h4 : inB w 0 1) (h : ¬ 0 ≤ aLook q j l i n) : aWorn V q x (nI j) l i n w = aLook q j l i n := by
  unfold aWorn
  rw [if_pos ⟨h1, ⟨inB_nI (by omega) (by omega) (by decide), h3⟩, h2, h4⟩, nI_clamp (by omega), if_neg h]
theorem aWorn_y {V : VR} {q : SQ} {k n j i : Nat} {l w : Int32} (hj : j < 4) (h1 : k < V 0 1) (h5 : V 0 1 ≤ 5) (hn1 : 1 ≤ n) (hn : n ≤ 8) (hi : i ≤ 24) (h3 : inB l 0 3) (h4 : inB w 0 1) (h : 0 ≤ aLook q j l (nI i) (nI n)) : aWorn V q (nI k) (nI j) l (nI i) (nI n) w = if w = 0 then wrV V (q.2.2.2 j) k 5 k i n 5 0 else if V 7 k = 0 then -2 else wrV V (q.2.2.2 j) k 2 (V 7 k - 1) i n 9 1 := by
  unfold aWorn
  rw [if_pos ⟨inR_nI h1 (by omega), ⟨inB_nI (by omega) (by omega) (by decide), h3⟩, inB_nI hn1 hn (by decide), h4⟩, nI_clamp (by omega), nI_clamp (by omega), nI_clamp (by omega), nI_clamp (by omega), if_pos h]
theorem Ok_vk {V : VR} {k v : Nat} (ho : Ok V) (hv : v ≤ 4) : Ok (vs V 5 k v) := by
  have n0 : vs V 5 k v 0 0 = V 0 0 := vs_no (by omega)
  have n1 : vs V 5 k v 0 1 = V 0 1 := vs_no (by omega)
  refine ⟨by rw [n0]; exact ho.1, by rw [n1]; exact ho.2.1, fun m hm => ?_, fun i hi => ?_⟩
  · rw [n0] at hm
    rw [vs_no (f' := 1) (by omega), vs_no (f' := 2) (by omega), vs_no (f' := 3) (by omega), vs_no (f' := 4) (by omega)]
    exact ho.2.2.1 m hm
  · rw [n1] at hi
    have q := ho.2.2.2 i hi
    rw [n0, vs_no (f' := 6) (by omega), vs_no (f' := 7) (by omega)]
    by_cases c : i = k
    · subst c
      rw [vs_me]
      omega
    · rw [vs_no (by omega)]
      exact q
theorem Ok_vh {V : VR} {k v : Nat} (ho : Ok V) (h1 : 1 ≤ v) (hv : v ≤ 9) : Ok (vs V 2 k v) := by
  have n0 : vs V 2 k v 0 0 = V 0 0 := vs_no (by omega)
  have n1 : vs V 2 k v 0 1 = V 0 1 := vs_no (by omega)
  refine ⟨by rw [n0]; exact ho.1, by rw [n1]; exact ho.2.1, fun m hm => ?_, fun i hi => ?_⟩
  · rw [n0] at hm
    have q := ho.2.2.1 m hm
    rw [vs_no (f' := 1) (by omega), vs_no (f' := 3) (by omega), vs_no (f' := 4) (by omega)]
    by_cases c : m = k
    · subst c
      rw [vs_me]
      omega
    · rw [vs_no (by omega)]
      exact q
  · rw [n1] at hi
    rw [n0, vs_no (f' := 5) (by omega), vs_no (f' := 6) (by omega), vs_no (f' := 7) (by omega)]
    exact ho.2.2.2 i hi

set_option maxRecDepth 20000 in
theorem fl_X7_trialWears_42 : FL RX7 wsX7_trialWears 42 7 7 := ⟨RX7, TX7, 12, rfl, (fun w h => List.mem_cons_of_mem _ (List.mem_append_left _ (List.mem_append_left _ (List.mem_append_right _ h)))), by decide, by decide +kernel⟩
set_option maxRecDepth 20000 in
theorem fl_X7_trialWears_269 : FL RX7 wsX7_trialWears 269 5 3 := ⟨RX5, TX5, 4, rfl, (fun w h => List.mem_cons_of_mem _ (List.mem_append_left _ (List.mem_append_right _ h))), by decide, by decide +kernel⟩
set_option maxRecDepth 20000 in
theorem fl_X7_trialWears_124 : FL RX7 wsX7_trialWears 124 2 10 := ⟨RX2, TX2, 12, rfl, (fun w h => List.mem_cons_of_mem _ (List.mem_append_right _ h)), by decide, by decide +kernel⟩
set_option maxHeartbeats 4000000 in
set_option maxRecDepth 100000 in
theorem lp_X7_wears {X : CX} {S : GS} {V : VR} {it : Nat → Int64} {k j i N : Nat} (hj : j < 4) (hk : k < V 0 1) (h5 : V 0 1 ≤ 5) (hi : i + N ≤ 24) (hit : ∀ e, e < 24 → S.2 (14 + 2 * j + 1) e = it e) (hr : RtP X .boolean (fun r u => r = bi (wrs it k N i V = true) ∧ Fr (rk 42) S u)) (C : Cx X cX7_trialWears RX7 wsX7_trialWears 5) : ∀ (n : Nat) (e : Nat) (T : GS) (U : VR), e + n = N → HC T 42 U → Ok U → U 0 1 = V 0 1 → Fr (rk 42) S T → wrs it k N i V = wrs it k n (i + e) U → Zj X T [some (.ref (ad (xY X) 0)), some (.int (nI (k))), some (.ref (ad (xY X) (14 + 2 * j))), some (.int (nI (i))), some (.int (nI (N))), some (.int (nI (e)))] 3 [] := by
  intro n
  induction n with
  | zero =>
    intro e T U he h ho hu hf hg
    obtain rfl : e = N := by omega
    refine z_iload5 C dX7_trialWears_3 ?_
    refine z_iload4 C dX7_trialWears_5 ?_
    refine z_icmp_geN C 49 dX7_trialWears_7 (by decide) (by omega) (by omega) (fun c7 => ?_) (fun c7 => ?_)
    · refine z_iconstN 1 C dX7_trialWears_49 ?_
      exact z_iretP C dX7_trialWears_50 hr rfl ⟨b1 (by rw [hg]; rfl), hf⟩
    · exact absurd c7 (by omega)
  | succ n ih =>
    intro e T U he h ho hu hf hg
    obtain ⟨w1, w2⟩ := HC_PD (ill := nI 0) h ho
    have hk2 : k < (vPD U (nI 0)) 0 1 := by rw [vPD_hd (by decide) (by decide), hu]; exact hk
    have w4 := (w1.2.2 k hk2).2.1
    have w5 : (cPD T 42 (nI 0) (U 0 1)).2 (14 + 2 * j + 1) (i + e) = it (i + e) := by rw [cPD_fr.2, hf.2]; exact hit _ (by omega)
    refine z_iload5 C dX7_trialWears_3 ?_
    refine z_iload4 C dX7_trialWears_5 ?_
    refine z_icmp_geN C 49 dX7_trialWears_7 (by decide) (by omega) (by omega) (fun c7 => ?_) (fun c7 => ?_)
    · exact absurd c7 (by omega)
    · refine z_aload0 C dX7_trialWears_10 ?_
      refine z_get C dX7_trialWears_11 fl_X7_trialWears_42 (k_EM _) rfl ?_
      refine z_iconstN 0 C dX7_trialWears_14 ?_
      refine z_callVV C dX7_trialWears_15 (c_X2_passDay isR_trial ho.2.1 (h.1 1 (by decide)) (HC_sOk h ho)) gX7_trialWears_X2_passDay md_X2_passDay rfl (by decide) (k_Rock _ isR_trial) rfl rfl rfl (Nat.le_of_ble_eq_true rfl) ?_
      refine z_aload2 C dX7_trialWears_18 ?_
      refine z_get C dX7_trialWears_19 fl_X7_trialWears_269 (k_Sheet _ hj) rfl ?_
      refine z_iload3 C dX7_trialWears_22 ?_
      refine z_iload5 C dX7_trialWears_23 ?_
      refine z_iaddN C dX7_trialWears_25 ?_
      refine z_lald C dX7_trialWears_26 (k_items _ hj) (by omega) ?_
      refine z_topl C w5 ?_
      refine z_aload0 C dX7_trialWears_27 ?_
      refine z_get C dX7_trialWears_28 fl_X7_trialWears_42 (k_EM _) rfl ?_
      refine z_get C dX7_trialWears_31 fl_X7_trialWears_124 (k_Rock _ isR_trial) rfl ?_
      refine z_iload1 C dX7_trialWears_34 ?_
      refine z_iald C dX7_trialWears_35 (k_size _ isR_trial) (by omega) ?_
      refine z_top C w4 ?_
      refine z_i2l C dX7_trialWears_36 ?_
      refine z_lcmp C dX7_trialWears_37 ?_
      refine z_if_eq C 43 dX7_trialWears_38 (by decide) (fun c38 => ?_) (fun c38 => ?_)
      · refine z_iinc5 C dX7_trialWears_43 (inc1 _) nl_i ?_
        refine z_goto C 3 dX7_trialWears_46 (by decide) ?_
        exact ih (e + 1) _ _ (by omega) w1 w2 (by rw [vPD_hd (by decide) (by decide)]; exact hu) (hf.tr cPD_fr) (hg.trans (wrs_t ((cmp_eq _ _).mp c38)))
      · refine z_iconstN 0 C dX7_trialWears_41 ?_
        exact z_iretP C dX7_trialWears_42 hr rfl ⟨b0 (by rw [hg, wrs_f (fun z => c38 ((cmp_eq _ _).mpr z))]; decide), hf.tr cPD_fr⟩

set_option maxHeartbeats 4000000 in
set_option maxRecDepth 100000 in
theorem c_X7_trialWears {l : Launch} {Y : LY} {S : GS} {V : VR} {it : Nat → Int64} {k j i N : Nat} (hj : j < 4) (hk : k < V 0 1) (h5 : V 0 1 ≤ 5) (hi : i + N ≤ 24) (hit : ∀ e, e < 24 → S.2 (14 + 2 * j + 1) e = it e) (h : HC S 42 V) (ho : Ok V) : CtP l yX7_trialWears wsX7_trialWears 5 Y [.ref (ad Y 0), .int (nI k), .ref (ad Y (14 + 2 * j)), .int (nI i), .int (nI N)] S (fun r u => r = bi (wrs it k N i V = true) ∧ Fr (rk 42) S u) := by
  refine mkP (cc := cX7_trialWears) (maxL := 6) rfl rfl (Nat.le_of_ble_eq_true rfl) ?_
  intro X hl hY C hr
  subst hl
  subst hY
  show Zj X S [some (.ref (ad (xY X) 0)), some (.int (nI k)), some (.ref (ad (xY X) (14 + 2 * j))), some (.int (nI i)), some (.int (nI N)), none] 0 []
  refine z_iconstN 0 C dX7_trialWears_0 ?_
  refine z_istore5 C dX7_trialWears_1 nl_i ?_
  exact lp_X7_wears hj hk h5 hi hit hr C N 0 _ V (by omega) h ho rfl Fr.rf rfl

set_option maxRecDepth 20000 in
theorem fl_X7_kindsOfRow_42 : FL RX7 wsX7_kindsOfRow 42 7 7 := ⟨RX7, TX7, 12, rfl, (fun w h => List.mem_cons_of_mem _ (List.mem_append_left _ (List.mem_append_left _ (List.mem_append_right _ h)))), by decide, by decide +kernel⟩
set_option maxRecDepth 20000 in
theorem fl_X7_kindsOfRow_10 : FL RX7 wsX7_kindsOfRow 10 7 0 := ⟨RX7, TX7, 12, rfl, (fun w h => List.mem_cons_of_mem _ (List.mem_append_left _ (List.mem_append_left _ (List.mem_append_right _ h)))), by decide, by decide +kernel⟩
set_option maxRecDepth 20000 in
theorem fl_X7_kindsOfRow_121 : FL RX7 wsX7_kindsOfRow 121 2 9 := ⟨RX2, TX2, 12, rfl, (fun w h => List.mem_cons_of_mem _ (List.mem_append_left _ (List.mem_append_right _ h))), by decide, by decide +kernel⟩
theorem md_X7_trialWears : MD yX7_trialWears wsX7_trialWears 4 6 (some .boolean) := ⟨_, _, rfl, by decide, by decide +kernel, by decide +kernel, by decide +kernel⟩
set_option maxHeartbeats 4000000 in
set_option maxRecDepth 100000 in
theorem lp_X7_kindsOfRow {X : CX} {S : GS} {V : VR} {it : Nat → Int64} {k j i N : Nat} (hj : j < 4) (hk : k < V 0 1) (ho : Ok V) (hi : i + N ≤ 24) (hit : ∀ e, e < 24 → S.2 (14 + 2 * j + 1) e = it e) (hr : RtP X .int (fun r u => r = wrV V it k 5 k i N 5 0 ∧ Fr scr S u)) (C : Cx X cX7_kindsOfRow RX7 wsX7_kindsOfRow 6) : ∀ (n : Nat) (v : Nat) (T : GS) (a : Int32), v + n = 5 → HC T 26 V → Fr scr S T → wrV V it k 5 k i N 5 0 = foldN (fun v a => if wrs it k N i (vs V 5 k v) = true then a ||| nI 1 <<< (nI v &&& 31) else a) n v a → Zj X T [some (.ref (ad (xY X) 0)), some (.int (nI (k))), some (.ref (ad (xY X) (14 + 2 * j))), some (.int (nI (i))), some (.int (nI (N))), some (.int (a)), some (.int (nI (v)))] 6 [] := by
  intro n
  induction n with
  | zero =>
    intro v T a he h hf hg
    refine z_iload6 C dX7_kindsOfRow_6 ?_
    refine z_iconstN 5 C dX7_kindsOfRow_8 ?_
    refine z_icmp_geN C 61 dX7_kindsOfRow_9 (by decide) (by omega) (by omega) (fun c9 => ?_) (fun c9 => ?_)
    · refine z_iload5 C dX7_kindsOfRow_61 ?_
      exact z_iretP C dX7_kindsOfRow_63 hr rfl ⟨hg.symm, hf⟩
    · exact absurd c9 (by omega)
  | succ n ih =>
    intro v T a he h hf hg
    have o1 := ho.1
    have o2 := ho.2.1
    have w1 : HC (stI (cBec T 42 26) (42 + 5) k (nI v)) 42 (vs V 5 k v) := HC_set (by decide) rfl (fun z => by omega) (HC_bec dis_tn h ho)
    have w2 : Ok (vs V 5 k v) := Ok_vk ho (show v ≤ 4 by omega)
    have w3 : vs V 5 k v 0 1 = V 0 1 := vs_no (by omega)
    have w4 : ∀ e, e < 24 → (stI (cBec T 42 26) (42 + 5) k (nI v)).2 (14 + 2 * j + 1) e = it e := fun e he => by rw [stI_2, cBec_fr.2, hf.2]; exact hit e he
    have w5 : Fr (rk 42) T (stI (cBec T 42 26) (42 + 5) k (nI v)) := cBec_fr.tr (Fr.I ⟨by omega, by omega⟩)
    refine z_iload6 C dX7_kindsOfRow_6 ?_
    refine z_iconstN 5 C dX7_kindsOfRow_8 ?_
    refine z_icmp_geN C 61 dX7_kindsOfRow_9 (by decide) (by omega) (by omega) (fun c9 => ?_) (fun c9 => ?_)
    · exact absurd c9 (by omega)
    · refine z_aload0 C dX7_kindsOfRow_12 ?_
      refine z_get C dX7_kindsOfRow_13 fl_X7_kindsOfRow_42 (k_EM _) rfl ?_
      refine z_aload0 C dX7_kindsOfRow_16 ?_
      refine z_get C dX7_kindsOfRow_17 fl_X7_kindsOfRow_10 (k_EM _) rfl ?_
      refine z_callVV C dX7_kindsOfRow_20 (c_X2_become isR_trial isR_now) gX7_kindsOfRow_X2_become md_X2_become rfl (by decide) (k_Rock _ isR_trial) rfl rfl rfl (Nat.le_of_ble_eq_true rfl) ?_
      refine z_aload0 C dX7_kindsOfRow_23 ?_
      refine z_get C dX7_kindsOfRow_24 fl_X7_kindsOfRow_42 (k_EM _) rfl ?_
      refine z_get C dX7_kindsOfRow_27 fl_X7_kindsOfRow_121 (k_Rock _ isR_trial) rfl ?_
      refine z_iload1 C dX7_kindsOfRow_30 ?_
      refine z_iload6 C dX7_kindsOfRow_31 ?_
      refine z_iast C dX7_kindsOfRow_33 (k_kind _ isR_trial) (by omega) ?_
      refine z_aload0 C dX7_kindsOfRow_34 ?_
      refine z_iload1 C dX7_kindsOfRow_35 ?_
      refine z_aload2 C dX7_kindsOfRow_36 ?_
      refine z_iload3 C dX7_kindsOfRow_37 ?_
      refine z_iload4 C dX7_kindsOfRow_38 ?_
      refine z_callVP C dX7_kindsOfRow_40 (c_X7_trialWears hj (by rw [w3]; exact hk) (by rw [w3]; exact o2) hi w4 w1 w2) gX7_kindsOfRow_X7_trialWears md_X7_trialWears rfl (by decide) (k_EM _) rfl rfl rfl (Nat.le_of_ble_eq_true rfl) ?_
      intro r0 S0 hS0
      obtain ⟨rfl, hf0⟩ := hS0
      refine z_if_eqB C 55 dX7_kindsOfRow_43 (by decide) (fun c43 => ?_) (fun c43 => ?_)
      · refine z_iinc6 C dX7_kindsOfRow_55 (inc1 _) nl_i ?_
        refine z_goto C 6 dX7_kindsOfRow_58 (by decide) ?_
        refine ih (v + 1) _ _ (by omega) (HC_fr (HC_fr h w5 (fun o h1 h2 h3 => by have := h3.1; omega)) hf0 (fun o h1 h2 h3 => by have := h3.1; omega)) (hf.tr ((fr_tr w5).tr (fr_tr hf0))) ?_
        rw [hg]
        simp only [foldN]
        rw [if_neg c43]
      · refine z_iload5 C dX7_kindsOfRow_46 ?_
        refine z_iconstN 1 C dX7_kindsOfRow_48 ?_
        refine z_iload6 C dX7_kindsOfRow_49 ?_
        refine z_ishl C dX7_kindsOfRow_51 ?_
        refine z_ior C dX7_kindsOfRow_52 ?_
        refine z_istore5 C dX7_kindsOfRow_53 nl_i ?_
        refine z_iinc6 C dX7_kindsOfRow_55 (inc1 _) nl_i ?_
        refine z_goto C 6 dX7_kindsOfRow_58 (by decide) ?_
        refine ih (v + 1) _ _ (by omega) (HC_fr (HC_fr h w5 (fun o h1 h2 h3 => by have := h3.1; omega)) hf0 (fun o h1 h2 h3 => by have := h3.1; omega)) (hf.tr ((fr_tr w5).tr (fr_tr hf0))) ?_
        rw [hg]
        simp only [foldN]
        rw [if_pos c43]

set_option maxHeartbeats 4000000 in
set_option maxRecDepth 100000 in
theorem c_X7_kindsOfRow {l : Launch} {Y : LY} {S : GS} {V : VR} {it : Nat → Int64} {k j i N : Nat} (hj : j < 4) (hk : k < V 0 1) (ho : Ok V) (hi : i + N ≤ 24) (hit : ∀ e, e < 24 → S.2 (14 + 2 * j + 1) e = it e) (h : HC S 26 V) : CtP l yX7_kindsOfRow wsX7_kindsOfRow 6 Y [.ref (ad Y 0), .int (nI k), .ref (ad Y (14 + 2 * j)), .int (nI i), .int (nI N)] S (fun r u => r = wrV V it k 5 k i N 5 0 ∧ Fr scr S u) := by
  refine mkP (cc := cX7_kindsOfRow) (maxL := 7) rfl rfl (Nat.le_of_ble_eq_true rfl) ?_
  intro X hl hY C hr
  subst hl
  subst hY
  show Zj X S [some (.ref (ad (xY X) 0)), some (.int (nI k)), some (.ref (ad (xY X) (14 + 2 * j))), some (.int (nI i)), some (.int (nI N)), none, none] 0 []
  refine z_iconstN 0 C dX7_kindsOfRow_0 ?_
  refine z_istore5 C dX7_kindsOfRow_1 nl_i ?_
  refine z_iconstN 0 C dX7_kindsOfRow_3 ?_
  refine z_istore6 C dX7_kindsOfRow_4 nl_i ?_
  exact lp_X7_kindsOfRow hj hk ho hi hit hr C 5 0 _ _ (by omega) h Fr.rf rfl

set_option maxRecDepth 20000 in
theorem fl_X7_hardsOfRow_42 : FL RX7 wsX7_hardsOfRow 42 7 7 := ⟨RX7, TX7, 12, rfl, (fun w h => List.mem_cons_of_mem _ (List.mem_append_left _ (List.mem_append_left _ (List.mem_append_right _ h)))), by decide, by decide +kernel⟩
set_option maxRecDepth 20000 in
theorem fl_X7_hardsOfRow_10 : FL RX7 wsX7_hardsOfRow 10 7 0 := ⟨RX7, TX7, 12, rfl, (fun w h => List.mem_cons_of_mem _ (List.mem_append_left _ (List.mem_append_left _ (List.mem_append_right _ h)))), by decide, by decide +kernel⟩
set_option maxRecDepth 20000 in
theorem fl_X7_hardsOfRow_99 : FL RX7 wsX7_hardsOfRow 99 2 6 := ⟨RX2, TX2, 12, rfl, (fun w h => List.mem_cons_of_mem _ (List.mem_append_left _ (List.mem_append_right _ h))), by decide, by decide +kernel⟩
set_option maxHeartbeats 4000000 in
set_option maxRecDepth 100000 in
theorem lp_X7_hardsOfRow {X : CX} {S : GS} {V : VR} {it : Nat → Int64} {k j i N m : Nat} (hj : j < 4) (hk : k < V 0 1) (hm : m < V 0 0) (ho : Ok V) (hi : i + N ≤ 24) (hit : ∀ e, e < 24 → S.2 (14 + 2 * j + 1) e = it e) (hr : RtP X .int (fun r u => r = wrV V it k 2 m i N 9 1 ∧ Fr scr S u)) (C : Cx X cX7_hardsOfRow RX7 wsX7_hardsOfRow 6) : ∀ (n : Nat) (v : Nat) (T : GS) (a : Int32), v + n = 10 → 1 ≤ v → HC T 26 V → Fr scr S T → wrV V it k 2 m i N 9 1 = foldN (fun v a => if wrs it k N i (vs V 2 m v) = true then a ||| nI 1 <<< (nI v &&& 31) else a) n v a → Zj X T [some (.ref (ad (xY X) 0)), some (.int (nI (k))), some (.ref (ad (xY X) (14 + 2 * j))), some (.int (nI (i))), some (.int (nI (N))), some (.int (nI (m))), some (.int (a)), some (.int (nI (v)))] 17 [] := by
  intro n
  induction n with
  | zero =>
    intro v T a he hv1 h hf hg
    refine z_iload7 C dX7_hardsOfRow_17 ?_
    refine z_bipush (v := nI 9) C dX7_hardsOfRow_19 (by decide) ?_
    refine z_icmp_gtN C 74 dX7_hardsOfRow_21 (by decide) (by omega) (by omega) (fun c21 => ?_) (fun c21 => ?_)
    · refine z_iload6 C dX7_hardsOfRow_74 ?_
      exact z_iretP C dX7_hardsOfRow_76 hr rfl ⟨hg.symm, hf⟩
    · exact absurd c21 (by omega)
  | succ n ih =>
    intro v T a he hv1 h hf hg
    have o1 := ho.1
    have o2 := ho.2.1
    have w1 : HC (stI (cBec T 42 26) (42 + 2) m (nI v)) 42 (vs V 2 m v) := HC_set (by decide) rfl (fun z => by omega) (HC_bec dis_tn h ho)
    have w2 : Ok (vs V 2 m v) := Ok_vh ho hv1 (show v ≤ 9 by omega)
    have w3 : vs V 2 m v 0 1 = V 0 1 := vs_no (by omega)
    have w4 : ∀ e, e < 24 → (stI (cBec T 42 26) (42 + 2) m (nI v)).2 (14 + 2 * j + 1) e = it e := fun e he => by rw [stI_2, cBec_fr.2, hf.2]; exact hit e he
    have w5 : Fr (rk 42) T (stI (cBec T 42 26) (42 + 2) m (nI v)) := cBec_fr.tr (Fr.I ⟨by omega, by omega⟩)
    refine z_iload7 C dX7_hardsOfRow_17 ?_
    refine z_bipush (v := nI 9) C dX7_hardsOfRow_19 (by decide) ?_
    refine z_icmp_gtN C 74 dX7_hardsOfRow_21 (by decide) (by omega) (by omega) (fun c21 => ?_) (fun c21 => ?_)
    · exact absurd c21 (by omega)
    · refine z_aload0 C dX7_hardsOfRow_24 ?_
      refine z_get C dX7_hardsOfRow_25 fl_X7_hardsOfRow_42 (k_EM _) rfl ?_
      refine z_aload0 C dX7_hardsOfRow_28 ?_
      refine z_get C dX7_hardsOfRow_29 fl_X7_hardsOfRow_10 (k_EM _) rfl ?_
      refine z_callVV C dX7_hardsOfRow_32 (c_X2_become isR_trial isR_now) gX7_hardsOfRow_X2_become md_X2_become rfl (by decide) (k_Rock _ isR_trial) rfl rfl rfl (Nat.le_of_ble_eq_true rfl) ?_
      refine z_aload0 C dX7_hardsOfRow_35 ?_
      refine z_get C dX7_hardsOfRow_36 fl_X7_hardsOfRow_42 (k_EM _) rfl ?_
      refine z_get C dX7_hardsOfRow_39 fl_X7_hardsOfRow_99 (k_Rock _ isR_trial) rfl ?_
      refine z_iload5 C dX7_hardsOfRow_42 ?_
      refine z_iload7 C dX7_hardsOfRow_44 ?_
      refine z_iast C dX7_hardsOfRow_46 (k_hard _ isR_trial) (by omega) ?_
      refine z_aload0 C dX7_hardsOfRow_47 ?_
      refine z_iload1 C dX7_hardsOfRow_48 ?_
      refine z_aload2 C dX7_hardsOfRow_49 ?_
      refine z_iload3 C dX7_hardsOfRow_50 ?_
      refine z_iload4 C dX7_hardsOfRow_51 ?_
      refine z_callVP C dX7_hardsOfRow_53 (c_X7_trialWears hj (by rw [w3]; exact hk) (by rw [w3]; exact o2) hi w4 w1 w2) gX7_hardsOfRow_X7_trialWears md_X7_trialWears rfl (by decide) (k_EM _) rfl rfl rfl (Nat.le_of_ble_eq_true rfl) ?_
      intro r0 S0 hS0
      obtain ⟨rfl, hf0⟩ := hS0
      refine z_if_eqB C 68 dX7_hardsOfRow_56 (by decide) (fun c56 => ?_) (fun c56 => ?_)
      · refine z_iinc7 C dX7_hardsOfRow_68 (inc1 _) nl_i ?_
        refine z_goto C 17 dX7_hardsOfRow_71 (by decide) ?_
        refine ih (v + 1) _ _ (by omega) (by omega) (HC_fr (HC_fr h w5 (fun o h1 h2 h3 => by have := h3.1; omega)) hf0 (fun o h1 h2 h3 => by have := h3.1; omega)) (hf.tr ((fr_tr w5).tr (fr_tr hf0))) ?_
        rw [hg]
        simp only [foldN]
        rw [if_neg c56]
      · refine z_iload6 C dX7_hardsOfRow_59 ?_
        refine z_iconstN 1 C dX7_hardsOfRow_61 ?_
        refine z_iload7 C dX7_hardsOfRow_62 ?_
        refine z_ishl C dX7_hardsOfRow_64 ?_
        refine z_ior C dX7_hardsOfRow_65 ?_
        refine z_istore6 C dX7_hardsOfRow_66 nl_i ?_
        refine z_iinc7 C dX7_hardsOfRow_68 (inc1 _) nl_i ?_
        refine z_goto C 17 dX7_hardsOfRow_71 (by decide) ?_
        refine ih (v + 1) _ _ (by omega) (by omega) (HC_fr (HC_fr h w5 (fun o h1 h2 h3 => by have := h3.1; omega)) hf0 (fun o h1 h2 h3 => by have := h3.1; omega)) (hf.tr ((fr_tr w5).tr (fr_tr hf0))) ?_
        rw [hg]
        simp only [foldN]
        rw [if_pos c56]

set_option maxRecDepth 20000 in
theorem fl_X7_hardsOfRow_127 : FL RX7 wsX7_hardsOfRow 127 2 11 := ⟨RX2, TX2, 12, rfl, (fun w h => List.mem_cons_of_mem _ (List.mem_append_left _ (List.mem_append_right _ h))), by decide, by decide +kernel⟩
set_option maxHeartbeats 4000000 in
set_option maxRecDepth 100000 in
theorem c_X7_hardsOfRow {l : Launch} {Y : LY} {S : GS} {V : VR} {it : Nat → Int64} {k j i N m : Nat} (hj : j < 4) (hk : k < V 0 1) (hm : m < V 0 0) (ho : Ok V) (hi : i + N ≤ 24) (hit : ∀ e, e < 24 → S.2 (14 + 2 * j + 1) e = it e) (h : HC S 26 V) (hm7 : V 7 k = m + 1) : CtP l yX7_hardsOfRow wsX7_hardsOfRow 6 Y [.ref (ad Y 0), .int (nI k), .ref (ad Y (14 + 2 * j)), .int (nI i), .int (nI N)] S (fun r u => r = wrV V it k 2 m i N 9 1 ∧ Fr scr S u) := by
  refine mkP (cc := cX7_hardsOfRow) (maxL := 8) rfl rfl (Nat.le_of_ble_eq_true rfl) ?_
  intro X hl hY C hr
  subst hl
  subst hY
  show Zj X S [some (.ref (ad (xY X) 0)), some (.int (nI k)), some (.ref (ad (xY X) (14 + 2 * j))), some (.int (nI i)), some (.int (nI N)), none, none, none] 0 []
  refine z_aload0 C dX7_hardsOfRow_0 ?_
  refine z_get C dX7_hardsOfRow_1 fl_X7_hardsOfRow_10 (k_EM _) rfl ?_
  refine z_get C dX7_hardsOfRow_4 fl_X7_hardsOfRow_127 (k_Rock _ isR_now) rfl ?_
  refine z_iload1 C dX7_hardsOfRow_7 ?_
  refine z_iald C dX7_hardsOfRow_8 (k_sent _ isR_now) (by have := ho.2.1; omega) ?_
  refine z_top C (show S.1 33 k = nI m by have q := (h.2.2 k hk).2.2; rw [hm7, sI_s] at q; exact q) ?_
  refine z_istore5 C dX7_hardsOfRow_9 nl_i ?_
  refine z_iconstN 0 C dX7_hardsOfRow_11 ?_
  refine z_istore6 C dX7_hardsOfRow_12 nl_i ?_
  refine z_iconstN 1 C dX7_hardsOfRow_14 ?_
  refine z_istore7 C dX7_hardsOfRow_15 nl_i ?_
  exact lp_X7_hardsOfRow hj hk hm ho hi hit hr C 9 1 _ _ (by omega) (by omega) h Fr.rf rfl

set_option maxRecDepth 20000 in
theorem fl_X7_worn_10 : FL RX7 wsX7_worn 10 7 0 := ⟨RX7, TX7, 12, rfl, (fun w h => List.mem_cons_of_mem _ (List.mem_append_left _ (List.mem_append_left _ (List.mem_append_right _ h)))), by decide, by decide +kernel⟩
set_option maxRecDepth 20000 in
theorem fl_X7_worn_127 : FL RX7 wsX7_worn 127 2 11 := ⟨RX2, TX2, 12, rfl, (fun w h => List.mem_cons_of_mem _ (List.mem_append_left _ (List.mem_append_right _ h))), by decide, by decide +kernel⟩
set_option maxRecDepth 20000 in
theorem fl_X7_worn_38 : FL RX7 wsX7_worn 38 7 6 := ⟨RX7, TX7, 12, rfl, (fun w h => List.mem_cons_of_mem _ (List.mem_append_left _ (List.mem_append_left _ (List.mem_append_right _ h)))), by decide, by decide +kernel⟩
theorem md_X7_hardsOfRow : MD yX7_hardsOfRow wsX7_hardsOfRow 4 8 (some .int) := ⟨_, _, rfl, by decide, by decide +kernel, by decide +kernel, by decide +kernel⟩
theorem md_X7_kindsOfRow : MD yX7_kindsOfRow wsX7_kindsOfRow 4 7 (some .int) := ⟨_, _, rfl, by decide, by decide +kernel, by decide +kernel, by decide +kernel⟩
set_option maxHeartbeats 4000000 in
set_option maxRecDepth 100000 in
theorem c_X7_worn {l : Launch} {Y : LY} {S : GS} {V : VR} {q : SQ} (h : HC S 26 V) (ho : Ok V) (hQ : QC S q) (hO : QOk q) {x s ln i n w : Int32} : CtP l yX7_worn wsX7_worn 7 Y [.ref (ad Y 0), .int x, .int s, .int ln, .int i, .int n, .int w] S (fun r u => r = aWorn V q x s ln i n w ∧ Fr scr S u) := by
  refine mkP (cc := cX7_worn) (maxL := 8) rfl rfl (Nat.le_of_ble_eq_true rfl) ?_
  intro X hl hY C hr
  subst hl
  subst hY
  have hM : S.1 26 0 = nI (V 0 0) := h.1 0 (by decide)
  have hK : S.1 26 1 = nI (V 0 1) := h.1 1 (by decide)
  have o1 := ho.1
  have o2 := ho.2.1
  show Zj X S [some (.ref (ad (xY X) 0)), some (.int x), some (.int s), some (.int ln), some (.int i), some (.int n), some (.int w), none] 0 []
  refine z_aload0 C dX7_worn_0 ?_
  refine z_iload1 C dX7_worn_1 ?_
  refine z_callVI C dX7_worn_2 (c_X7_hasMonk hK) gX7_worn_X7_hasMonk md_X7_hasMonk rfl (by decide) (k_EM _) rfl rfl rfl (Nat.le_of_ble_eq_true rfl) ?_
  refine z_if_eqB C 37 dX7_worn_5 (by decide) (fun c5 => ?_) (fun c5 => ?_)
  · refine z_iconst (v := (-1)) C dX7_worn_37 (by decide) ?_
    exact z_iretP C dX7_worn_38 hr rfl ⟨by rw [aWorn_n (by rintro ⟨h1, h2, h3, h4⟩; contradiction)], Fr.rf⟩
  · refine z_iload2 C dX7_worn_8 ?_
    refine z_iload3 C dX7_worn_9 ?_
    refine z_callSI C dX7_worn_10 c_X7_isSheet gX7_worn_X7_isSheet md_X7_isSheet (by decide) rfl rfl (Nat.le_of_ble_eq_true rfl) ?_
    refine z_if_eqB C 37 dX7_worn_13 (by decide) (fun c13 => ?_) (fun c13 => ?_)
    · refine z_iconst (v := (-1)) C dX7_worn_37 (by decide) ?_
      exact z_iretP C dX7_worn_38 hr rfl ⟨by rw [aWorn_n (by rintro ⟨h1, h2, h3, h4⟩; contradiction)], Fr.rf⟩
    · refine z_iload5 C dX7_worn_16 ?_
      refine z_iconstN 1 C dX7_worn_18 ?_
      refine z_bipush (v := nI 8) C dX7_worn_19 (by decide) ?_
      refine z_callSI C dX7_worn_21 c_X7_within gX7_worn_X7_within md_X7_within (by decide) rfl rfl (Nat.le_of_ble_eq_true rfl) ?_
      refine z_if_eqB C 37 dX7_worn_24 (by decide) (fun c24 => ?_) (fun c24 => ?_)
      · refine z_iconst (v := (-1)) C dX7_worn_37 (by decide) ?_
        exact z_iretP C dX7_worn_38 hr rfl ⟨by rw [aWorn_n (by rintro ⟨h1, h2, h3, h4⟩; contradiction)], Fr.rf⟩
      · refine z_iload6 C dX7_worn_27 ?_
        refine z_iconstN 0 C dX7_worn_29 ?_
        refine z_iconstN 1 C dX7_worn_30 ?_
        refine z_callSI C dX7_worn_31 c_X7_within gX7_worn_X7_within md_X7_within (by decide) rfl rfl (Nat.le_of_ble_eq_true rfl) ?_
        refine z_if_neB C 39 dX7_worn_34 (by decide) (fun c34 => ?_) (fun c34 => ?_)
        · obtain ⟨k, hk, rfl⟩ := inR_of (by omega) c5
          obtain ⟨j, -, hj3, rfl⟩ := inB_of (by decide) c13.1 (by decide)
          obtain ⟨n, hn1, hn, rfl⟩ := inB_of (by decide) c24 (by decide)
          have hj : j < 4 := by omega
          refine z_aload0 C dX7_worn_39 ?_
          refine z_iload2 C dX7_worn_40 ?_
          refine z_iload3 C dX7_worn_41 ?_
          refine z_iload4 C dX7_worn_42 ?_
          refine z_iload5 C dX7_worn_44 ?_
          refine z_callVI C dX7_worn_46 (c_X7_lookAt hQ hO hj) gX7_worn_X7_lookAt md_X7_lookAt rfl (by decide) (k_EM _) rfl rfl rfl (Nat.le_of_ble_eq_true rfl) ?_
          refine z_istore7 C dX7_worn_49 nl_i ?_
          refine z_iload7 C dX7_worn_51 ?_
          refine z_if_ge C 59 dX7_worn_53 (by decide) (fun c53 => ?_) (fun c53 => ?_)
          · obtain ⟨-, -, i, rfl, hi⟩ := aLook_n (show n ≤ 24 by omega) hO hj c53
            refine z_iload6 C dX7_worn_59 ?_
            refine z_if_ne C 80 dX7_worn_61 (by decide) (fun c61 => ?_) (fun c61 => ?_)
            · refine z_aload0 C dX7_worn_80 ?_
              refine z_get C dX7_worn_81 fl_X7_worn_10 (k_EM _) rfl ?_
              refine z_get C dX7_worn_84 fl_X7_worn_127 (k_Rock _ isR_now) rfl ?_
              refine z_iload1 C dX7_worn_87 ?_
              refine z_iald C dX7_worn_88 (k_sent _ isR_now) (by omega) ?_
              refine z_top C (h.2.2 k hk).2.2 ?_
              refine z_if_ge C 97 dX7_worn_89 (by decide) (fun c89 => ?_) (fun c89 => ?_)
              · have n7 : ¬ V 7 k = 0 := fun z => by rw [z, sI_0] at c89; exact absurd c89 (by decide)
                refine z_aload0 C dX7_worn_97 ?_
                refine z_iload1 C dX7_worn_98 ?_
                refine z_aload0 C dX7_worn_99 ?_
                refine z_get C dX7_worn_100 fl_X7_worn_38 (k_EM _) rfl ?_
                refine z_iload2 C dX7_worn_103 ?_
                refine z_aald3 C dX7_worn_104 (k_r13 _) hj ?_
                refine z_iload4 C dX7_worn_105 ?_
                refine z_iload5 C dX7_worn_107 ?_
                refine z_callVP C dX7_worn_109 (c_X7_hardsOfRow (m := V 7 k - 1) hj hk (by have := (ho.2.2.2 k hk).2.2; omega) ho hi (hQ j hj).2.2.2 h (by omega)) gX7_worn_X7_hardsOfRow md_X7_hardsOfRow rfl (by decide) (k_EM _) rfl rfl rfl (Nat.le_of_ble_eq_true rfl) ?_
                intro r0 S0 hS0
                exact z_iretP C dX7_worn_112 hr rfl ⟨by rw [aWorn_y hj hk o2 hn1 hn (by omega) c13.2 c34 c53, if_neg c61, if_neg n7]; exact hS0.1, hS0.2⟩
              · refine z_bipush (v := (-2)) C dX7_worn_92 (by decide) ?_
                refine z_goto C 112 dX7_worn_94 (by decide) ?_
                have z7 : V 7 k = 0 := by
                  by_cases z : V 7 k = 0
                  · exact z
                  · exfalso
                    refine c89 ?_
                    unfold sI
                    rw [if_neg z]
                    exact nI_pos' (by have := (ho.2.2.2 k hk).2.2; omega)
                exact z_iretP C dX7_worn_112 hr rfl ⟨by rw [aWorn_y hj hk o2 hn1 hn (by omega) c13.2 c34 c53, if_neg c61, if_pos z7], Fr.rf⟩
            · refine z_aload0 C dX7_worn_64 ?_
              refine z_iload1 C dX7_worn_65 ?_
              refine z_aload0 C dX7_worn_66 ?_
              refine z_get C dX7_worn_67 fl_X7_worn_38 (k_EM _) rfl ?_
              refine z_iload2 C dX7_worn_70 ?_
              refine z_aald3 C dX7_worn_71 (k_r13 _) hj ?_
              refine z_iload4 C dX7_worn_72 ?_
              refine z_iload5 C dX7_worn_74 ?_
              refine z_callVP C dX7_worn_76 (c_X7_kindsOfRow hj hk ho hi (hQ j hj).2.2.2 h) gX7_worn_X7_kindsOfRow md_X7_kindsOfRow rfl (by decide) (k_EM _) rfl rfl rfl (Nat.le_of_ble_eq_true rfl) ?_
              intro r0 S0 hS0
              exact z_iretP C dX7_worn_79 hr rfl ⟨by rw [aWorn_y hj hk o2 hn1 hn (by omega) c13.2 c34 c53, if_pos c61]; exact hS0.1, hS0.2⟩
          · refine z_iload7 C dX7_worn_56 ?_
            exact z_iretP C dX7_worn_58 hr rfl ⟨by rw [aWorn_l hj c5 c24 c13.2 c34 c53], Fr.rf⟩
        · refine z_iconst (v := (-1)) C dX7_worn_37 (by decide) ?_
          exact z_iretP C dX7_worn_38 hr rfl ⟨by rw [aWorn_n (by rintro ⟨h1, h2, h3, h4⟩; contradiction)], Fr.rf⟩
