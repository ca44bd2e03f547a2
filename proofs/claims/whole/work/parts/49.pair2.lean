theorem psW_p {s : PS4} {c a p : Nat} (h : s.1 = 1 → s.2.2.2 ≤ p) : (psW s c a p).1 = 1 → (psW s c a p).2.2.2 ≤ p := by
  unfold psW
  split
  · intro _; exact Nat.le_refl _
  · exact h
theorem pr1_p {V : VR} {m i j a : Nat} {s : PS4} (h : s.1 = 1 → s.2.2.2 ≤ 10 * i + j) : (pr1 V m i j a s).1 = 1 → (pr1 V m i j a s).2.2.2 ≤ 10 * i + j := by
  unfold pr1
  split
  · exact psW_p h
  · exact h
theorem prA_p {V : VR} {m i j : Nat} : ∀ (n a : Nat) (s : PS4), (s.1 = 1 → s.2.2.2 ≤ 10 * i + j) → (prA V m i j n a s).1 = 1 → (prA V m i j n a s).2.2.2 ≤ 10 * i + j := by
  intro n
  induction n with
  | zero => intro a s h; exact h
  | succ n ih =>
    intro a s h
    unfold prA
    split
    · exact ih _ _ (pr1_p h)
    · exact h
theorem prA_n {V : VR} {m i j n a : Nat} {s : PS4} (h : ¬ vRN i m a V = a) : prA V m i j (n + 1) a s = s := if_neg h
theorem prA_y {V : VR} {m i j n a : Nat} {s : PS4} (h : vRN i m a V = a) : prA V m i j (n + 1) a s = prA V m i j n (a + 1) (pr1 V m i j a s) := if_pos h
theorem pr1_n {V : VR} {m i j a : Nat} {s : PS4} (h : ¬ vG (prT V m i j a) m) : pr1 V m i j a s = s := if_neg h
theorem pr1_y {V : VR} {m i j a : Nat} {s : PS4} (h : vG (prT V m i j a) m) : pr1 V m i j a s = psW s (prT V m i j a 0 3 - V 0 3) a (10 * i + j) := if_pos h

set_option maxRecDepth 20000 in
theorem fl_X1_tryPair_37 : FL RX1 wsX1_tryPair 37 2 3 := ⟨RX2, TX2, 12, rfl, (fun w h => List.mem_cons_of_mem _ (List.mem_append_left _ (List.mem_append_right _ h))), by decide, by decide +kernel⟩
theorem md_X1_weigh : MD yX1_weigh wsX1_weigh 3 4 none := ⟨_, _, rfl, by decide, by decide +kernel, by decide +kernel, by decide +kernel⟩
set_option maxHeartbeats 4000000 in
set_option maxRecDepth 100000 in
theorem lp_X1_tryPair {X : CX} {S : GS} {V : VR} {m i j : Nat} {s0 : PS4} (ho : Ok V) (hm : m < V 0 0) (hi : i < V 0 1) (hj : j < V 0 1) (hij : i ≠ j) (hr : RtR X (fun u => HP u (prA V m i j 61 0 s0) ∧ Fr scr S u)) (C : Cx X cX1_tryPair RX1 wsX1_tryPair 5) : ∀ (n : Nat) (a : Nat) (T : GS) (s : PS4), a + n = 61 → HC T 26 V → HP T s → Fr scr S T → (s.1 = 1 → s.2.2.2 ≤ 10 * i + j) → prA V m i j 61 0 s0 = prA V m i j n a s → Zj X T [some (.ref (ad (xY X) 1)), some (.ref (ad (xY X) 26)), some (.ref (ad (xY X) 42)), some (.int (nI (m))), some (.int (nI (i))), some (.int (nI (j))), some (.int (nI (1))), some (.int (nI (a)))] 6 [] := by
  intro n
  induction n with
  | zero =>
    intro a T s ha h hp hf hpp hg
    refine z_iload7 C dX1_tryPair_6 ?_
    refine z_bipush (v := nI 60) C dX1_tryPair_8 (by decide) ?_
    refine z_icmp_gtN C 99 dX1_tryPair_10 (by decide) (by omega) (by omega) (fun c10 => ?_) (fun c10 => ?_)
    · exact z_vretR C dX1_tryPair_99 hr ⟨by rw [hg]; exact hp, hf⟩
    · exact absurd c10 (by omega)
  | succ n ih =>
    intro a T s ha h hp hf hpp hg
    have o1 := ho.1
    have o2 := ho.2.1
    have hb := HC_bec dis_tn h ho
    obtain ⟨q1, q2, q3, q4⟩ := HC_RT (k := i) (m := m) a _ V hb ho hi hm
    obtain ⟨p1, p2, p3, p4⟩ := HC_RT (k := j) (m := m) (60 - a) _ _ q1 q2 (by rw [q4 1 (by decide)]; exact hj) (by rw [q4 0 (by decide)]; exact hm)
    have q5 : rG (cRT 42 j m (60 - a) (cRT 42 i m a (cBec T 42 26))) 42 m ↔ vG (prT V m i j a) m := rG_iff p1 p2 (by show m < vRT j m (60 - a) (vRT i m a V) 0 0; rw [p4 0 (by decide), q4 0 (by decide)]; exact hm)
    have f3 : Fr (rk 42) T (cRT 42 j m (60 - a) (cRT 42 i m a (cBec T 42 26))) := (cBec_fr.tr (cRT_fr a _)).tr (cRT_fr _ _)
    have hn3 : HC (cRT 42 j m (60 - a) (cRT 42 i m a (cBec T 42 26))) 26 V := HC_fr h f3 (fun o h1 h2 h3 => by omega)
    have hp3 : HP (cRT 42 j m (60 - a) (cRT 42 i m a (cBec T 42 26))) s := HP_fr hp f3 (by omega)
    have t3 : (cRT 42 j m (60 - a) (cRT 42 i m a (cBec T 42 26))).1 42 3 = nI (prT V m i j a 0 3) := p1.1 3 (by decide)
    have n3 := hn3.1 3 (by decide)
    obtain ⟨cr1, cr2⟩ := prT_cr (m := m) (a := a) ho hi hj hij
    have hfs := hf.tr (fr_tr f3)
    refine z_iload7 C dX1_tryPair_6 ?_
    refine z_bipush (v := nI 60) C dX1_tryPair_8 (by decide) ?_
    refine z_icmp_gtN C 99 dX1_tryPair_10 (by decide) (by omega) (by omega) (fun c10 => ?_) (fun c10 => ?_)
    · first | exact absurd c10 (by omega) | exact z_vretR C dX1_tryPair_99 hr ⟨by rw [hg, prA_n (by rw [← q3]; exact c34)]; exact hp3, hfs⟩
    · refine z_iload6 C dX1_tryPair_13 ?_
      refine z_if_eqF C 99 dX1_tryPair_15 (by decide) (by decide) ?_
      refine z_aload2 C dX1_tryPair_18 ?_
      refine z_aload1 C dX1_tryPair_19 ?_
      refine z_callVV C dX1_tryPair_20 (c_X2_become isR_trial isR_now) gX1_tryPair_X2_become md_X2_become rfl (by decide) (k_Rock _ isR_trial) rfl rfl rfl (Nat.le_of_ble_eq_true rfl) ?_
      refine z_aload2 C dX1_tryPair_23 ?_
      refine z_iload4 C dX1_tryPair_24 ?_
      refine z_iload3 C dX1_tryPair_26 ?_
      refine z_iload7 C dX1_tryPair_27 ?_
      refine z_callVI C dX1_tryPair_29 (c_X2_rubTimes isR_trial (by omega) (by omega) (by omega)) gX1_tryPair_X2_rubTimes md_X2_rubTimes rfl (by decide) (k_Rock _ isR_trial) rfl rfl rfl (Nat.le_of_ble_eq_true rfl) ?_
      refine z_iload7 C dX1_tryPair_32 ?_
      refine z_icmp_neN C 41 dX1_tryPair_34 (by decide) (by rw [q3]; have := vRN_le (k := i) (m := m) a V; omega) (by omega) (fun c34 => ?_) (fun c34 => ?_)
      · refine z_iconstN 0 C dX1_tryPair_41 ?_
        refine z_istore6 C dX1_tryPair_42 nl_i ?_
        refine z_aload2 C dX1_tryPair_44 ?_
        refine z_iload5 C dX1_tryPair_45 ?_
        refine z_iload3 C dX1_tryPair_47 ?_
        refine z_bipush (v := nI 60) C dX1_tryPair_48 (by decide) ?_
        refine z_iload7 C dX1_tryPair_50 ?_
        refine z_isubN C dX1_tryPair_52 (by omega) ?_
        refine z_callVI C dX1_tryPair_53 (c_X2_rubTimes isR_trial (by omega) (by omega) (by omega)) gX1_tryPair_X2_rubTimes md_X2_rubTimes rfl (by decide) (k_Rock _ isR_trial) rfl rfl rfl (Nat.le_of_ble_eq_true rfl) ?_
        refine z_pop C dX1_tryPair_56 rfl ?_
        refine z_iload6 C dX1_tryPair_57 ?_
        refine z_if_eqT C 93 dX1_tryPair_59 (by decide) (by decide) ?_
        refine z_iinc7 C dX1_tryPair_93 (inc1 _) nl_i ?_
        refine z_goto C 6 dX1_tryPair_96 (by decide) ?_
        refine z_iload7 C dX1_tryPair_6 ?_
        refine z_bipush (v := nI 60) C dX1_tryPair_8 (by decide) ?_
        refine z_icmp_gtN C 99 dX1_tryPair_10 (by decide) (by omega) (by omega) (fun c10 => ?_) (fun c10 => ?_)
        · first | exact absurd c10 (by omega) | exact z_vretR C dX1_tryPair_99 hr ⟨by rw [hg, prA_n (by rw [← q3]; exact c34)]; exact hp3, hfs⟩
        · refine z_iload6 C dX1_tryPair_13 ?_
          refine z_if_eqT C 99 dX1_tryPair_15 (by decide) (by decide) ?_
          exact z_vretR C dX1_tryPair_99 hr ⟨by rw [hg, prA_n (by rw [← q3]; exact c34)]; exact hp3, hfs⟩
      · refine z_iconstN 1 C dX1_tryPair_37 ?_
        refine z_goto C 42 dX1_tryPair_38 (by decide) ?_
        refine z_istore6 C dX1_tryPair_42 nl_i ?_
        refine z_aload2 C dX1_tryPair_44 ?_
        refine z_iload5 C dX1_tryPair_45 ?_
        refine z_iload3 C dX1_tryPair_47 ?_
        refine z_bipush (v := nI 60) C dX1_tryPair_48 (by decide) ?_
        refine z_iload7 C dX1_tryPair_50 ?_
        refine z_isubN C dX1_tryPair_52 (by omega) ?_
        refine z_callVI C dX1_tryPair_53 (c_X2_rubTimes isR_trial (by omega) (by omega) (by omega)) gX1_tryPair_X2_rubTimes md_X2_rubTimes rfl (by decide) (k_Rock _ isR_trial) rfl rfl rfl (Nat.le_of_ble_eq_true rfl) ?_
        refine z_pop C dX1_tryPair_56 rfl ?_
        refine z_iload6 C dX1_tryPair_57 ?_
        refine z_if_eqF C 93 dX1_tryPair_59 (by decide) (by decide) ?_
        refine z_aload2 C dX1_tryPair_62 ?_
        refine z_iload3 C dX1_tryPair_63 ?_
        refine z_callVI C dX1_tryPair_64 (c_X2_isGone isR_trial (by omega)) gX1_tryPair_X2_isGone md_X2_isGone rfl (by decide) (k_Rock _ isR_trial) rfl rfl rfl (Nat.le_of_ble_eq_true rfl) ?_
        refine z_if_eqB C 93 dX1_tryPair_67 (by decide) (fun c67 => ?_) (fun c67 => ?_)
        · refine z_iinc7 C dX1_tryPair_93 (inc1 _) nl_i ?_
          refine z_goto C 6 dX1_tryPair_96 (by decide) ?_
          rw [q3] at c34
          first
          | (refine ih (a + 1) _ _ (by omega) (HC_fr hn3 hS0.2 (fun o h1 h2 h3 => by omega)) hS0.1 (hfs.tr (hS0.2.mono (fun o h => Or.inl (by omega)))) (psW_p hpp) ?_
             rw [hg, prA_y c34, pr1_y (q5.mp c67)])
          | (refine ih (a + 1) _ _ (by omega) hn3 hp3 hfs hpp ?_
             rw [hg, prA_y c34, pr1_n (fun z => c67 (q5.mpr z))])
        · refine z_aload0 C dX1_tryPair_70 ?_
          refine z_aload2 C dX1_tryPair_71 ?_
          refine z_get C dX1_tryPair_72 fl_X1_tryPair_37 (k_Rock _ isR_trial) rfl ?_
          refine z_top C t3 ?_
          refine z_aload1 C dX1_tryPair_75 ?_
          refine z_get C dX1_tryPair_76 fl_X1_tryPair_37 (k_Rock _ isR_now) rfl ?_
          refine z_top C n3 ?_
          refine z_isubN C dX1_tryPair_79 cr1 ?_
          refine z_iload7 C dX1_tryPair_80 ?_
          refine z_bipush (v := nI 10) C dX1_tryPair_82 (by decide) ?_
          refine z_iload4 C dX1_tryPair_84 ?_
          refine z_imulN C dX1_tryPair_86 ?_
          refine z_iload5 C dX1_tryPair_87 ?_
          refine z_iaddN C dX1_tryPair_89 ?_
          refine z_callVR C dX1_tryPair_90 (c_X1_weigh hp3 (by omega) (by omega) (by omega) hpp) gX1_tryPair_X1_weigh md_X1_weigh rfl (by decide) (k_Pair _) rfl rfl rfl (Nat.le_of_ble_eq_true rfl) ?_
          intro S0 hS0
          refine z_iinc7 C dX1_tryPair_93 (inc1 _) nl_i ?_
          refine z_goto C 6 dX1_tryPair_96 (by decide) ?_
          rw [q3] at c34
          first
          | (refine ih (a + 1) _ _ (by omega) (HC_fr hn3 hS0.2 (fun o h1 h2 h3 => by omega)) hS0.1 (hfs.tr (hS0.2.mono (fun o h => Or.inl (by omega)))) (psW_p hpp) ?_
             rw [hg, prA_y c34, pr1_y (q5.mp c67)])
          | (refine ih (a + 1) _ _ (by omega) hn3 hp3 hfs hpp ?_
             rw [hg, prA_y c34, pr1_n (fun z => c67 (q5.mpr z))])

set_option maxHeartbeats 4000000 in
set_option maxRecDepth 100000 in
theorem c_X1_tryPair {l : Launch} {Y : LY} {S : GS} {V : VR} {m i j : Nat} {s0 : PS4} (ho : Ok V) (hm : m < V 0 0) (hi : i < V 0 1) (hj : j < V 0 1) (hij : i ≠ j) (h : HC S 26 V) (hp : HP S s0) (hpp : s0.1 = 1 → s0.2.2.2 ≤ 10 * i + j) : CtR l yX1_tryPair wsX1_tryPair 5 Y [.ref (ad Y 1), .ref (ad Y 26), .ref (ad Y 42), .int (nI m), .int (nI i), .int (nI j)] S (fun u => HP u (prA V m i j 61 0 s0) ∧ Fr scr S u) := by
  refine mkR (cc := cX1_tryPair) (maxL := 8) rfl rfl (Nat.le_of_ble_eq_true rfl) ?_
  intro X hl hY C hr
  subst hl
  subst hY
  show Zj X S [some (.ref (ad (xY X) 1)), some (.ref (ad (xY X) 26)), some (.ref (ad (xY X) 42)), some (.int (nI m)), some (.int (nI i)), some (.int (nI j)), none, none] 0 []
  refine z_iconstN 1 C dX1_tryPair_0 ?_
  refine z_istore6 C dX1_tryPair_1 nl_i ?_
  refine z_iconstN 0 C dX1_tryPair_3 ?_
  refine z_istore7 C dX1_tryPair_4 nl_i ?_
  exact lp_X1_tryPair ho hm hi hj hij hr C 61 0 _ s0 (by decide) h hp Fr.rf hpp rfl

def prI (V : VR) (m i : Nat) : Nat → PS4 → PS4 := fun j s => if i = j then s else prA V m i j 61 0 s
def prO (V : VR) (m : Nat) : Nat → PS4 → PS4 := fun i s => foldN (prI V m i) (V 0 1) 0 s
theorem prAll_eq (V : VR) (m : Nat) : prAll V m = foldN (prO V m) (V 0 1) 0 (0, 0, 0, 0) := rfl
theorem prI_p {V : VR} {m i j : Nat} {s : PS4} (h : s.1 = 1 → s.2.2.2 ≤ 10 * i + j) : (prI V m i j s).1 = 1 → (prI V m i j s).2.2.2 ≤ 10 * i + (j + 1) := by
  unfold prI
  split
  · intro z; have := h z; omega
  · intro z; have := prA_p 61 0 s h z; omega
theorem prI_y {V : VR} {m i j : Nat} {s : PS4} (h : i = j) : prI V m i j s = s := if_pos h
theorem prI_n {V : VR} {m i j : Nat} {s : PS4} (h : ¬ i = j) : prI V m i j s = prA V m i j 61 0 s := if_neg h

set_option maxRecDepth 20000 in
theorem fl_X1_plan_15 : FL RX1 wsX1_plan 15 2 1 := ⟨RX2, TX2, 12, rfl, (fun w h => List.mem_cons_of_mem _ (List.mem_append_right _ h)), by decide, by decide +kernel⟩
theorem md_X1_tryPair : MD yX1_tryPair wsX1_tryPair 5 8 none := ⟨_, _, rfl, by decide, by decide +kernel, by decide +kernel, by decide +kernel⟩
set_option maxHeartbeats 4000000 in
set_option maxRecDepth 100000 in
theorem li_X1_plan {X : CX} {S : GS} {V : VR} {m : Nat} (ho : Ok V) (hm : m < V 0 0) {i : Nat} (hi : i < V 0 1) (C : Cx X cX1_plan RX1 wsX1_plan 6) : ∀ (n : Nat) (j : Nat) (T : GS) (s : PS4), j + n = V 0 1 → HC T 26 V → HP T s → Fr scr S T → (s.1 = 1 → s.2.2.2 ≤ 10 * i + j) → (∀ T', HC T' 26 V → HP T' (foldN (prI V m i) n j s) → Fr scr S T' → ((foldN (prI V m i) n j s).1 = 1 → (foldN (prI V m i) n j s).2.2.2 ≤ 10 * i + V 0 1) → Zj X T' [some (.ref (ad (xY X) 1)), some (.ref (ad (xY X) 26)), some (.ref (ad (xY X) 42)), some (.int (nI (m))), some (.int (nI (i))), some (.int (nI (V 0 1)))] 53 []) → Zj X T [some (.ref (ad (xY X) 1)), some (.ref (ad (xY X) 26)), some (.ref (ad (xY X) 42)), some (.int (nI (m))), some (.int (nI (i))), some (.int (nI (j)))] 20 [] := by
  intro n
  induction n with
  | zero =>
    intro j T s hj h hp hf hpp kk
    have o2 := ho.2.1
    obtain rfl : j = V 0 1 := by omega
    refine z_iload5 C dX1_plan_20 ?_
    refine z_aload1 C dX1_plan_22 ?_
    refine z_get C dX1_plan_23 fl_X1_plan_15 (k_Rock _ isR_now) rfl ?_
    refine z_top C (h.1 1 (by decide)) ?_
    refine z_icmp_geN C 53 dX1_plan_26 (by decide) (by omega) (by omega) (fun c26 => ?_) (fun c26 => ?_)
    · exact kk T h hp hf hpp
    · exact absurd c26 (by omega)
  | succ n ih =>
    intro j T s hj h hp hf hpp kk
    have o2 := ho.2.1
    refine z_iload5 C dX1_plan_20 ?_
    refine z_aload1 C dX1_plan_22 ?_
    refine z_get C dX1_plan_23 fl_X1_plan_15 (k_Rock _ isR_now) rfl ?_
    refine z_top C (h.1 1 (by decide)) ?_
    refine z_icmp_geN C 53 dX1_plan_26 (by decide) (by omega) (by omega) (fun c26 => ?_) (fun c26 => ?_)
    · exact absurd c26 (by omega)
    · refine z_iload4 C dX1_plan_29 ?_
      refine z_iload5 C dX1_plan_31 ?_
      refine z_icmp_eqN C 47 dX1_plan_33 (by decide) (by omega) (by omega) (fun c33 => ?_) (fun c33 => ?_)
      · refine z_iinc5 C dX1_plan_47 (inc1 _) nl_i ?_
        refine z_goto C 20 dX1_plan_50 (by decide) ?_
        first
        | exact ih (j + 1) _ _ (by omega) (HC_fr h hS0.2 (fun o h1 h2 h3 => by omega)) (by rw [prI_n c33]; exact hS0.1) (hf.tr hS0.2) (prI_p hpp) kk
        | exact ih (j + 1) _ _ (by omega) h (by rw [prI_y c33]; exact hp) hf (prI_p hpp) kk
      · refine z_aload0 C dX1_plan_36 ?_
        refine z_aload1 C dX1_plan_37 ?_
        refine z_aload2 C dX1_plan_38 ?_
        refine z_iload3 C dX1_plan_39 ?_
        refine z_iload4 C dX1_plan_40 ?_
        refine z_iload5 C dX1_plan_42 ?_
        refine z_callVR C dX1_plan_44 (c_X1_tryPair ho hm hi (by omega) c33 h hp hpp) gX1_plan_X1_tryPair md_X1_tryPair rfl (by decide) (k_Pair _) rfl rfl rfl (Nat.le_of_ble_eq_true rfl) ?_
        intro S0 hS0
        refine z_iinc5 C dX1_plan_47 (inc1 _) nl_i ?_
        refine z_goto C 20 dX1_plan_50 (by decide) ?_
        first
        | exact ih (j + 1) _ _ (by omega) (HC_fr h hS0.2 (fun o h1 h2 h3 => by omega)) (by rw [prI_n c33]; exact hS0.1) (hf.tr hS0.2) (prI_p hpp) kk
        | exact ih (j + 1) _ _ (by omega) h (by rw [prI_y c33]; exact hp) hf (prI_p hpp) kk

set_option maxHeartbeats 4000000 in
set_option maxRecDepth 100000 in
theorem lo_X1_plan {X : CX} {S : GS} {V : VR} {m : Nat} (ho : Ok V) (hm : m < V 0 0) (hr : RtR X (fun u => HP u (prAll V m) ∧ Fr scr S u)) (C : Cx X cX1_plan RX1 wsX1_plan 6) : ∀ (n : Nat) (i : Nat) (T : GS) (s : PS4) (x5 : Option Value), i + n = V 0 1 → HC T 26 V → HP T s → Fr scr S T → (s.1 = 1 → s.2.2.2 ≤ 10 * i) → nl x5 → prAll V m = foldN (prO V m) n i s → Zj X T [some (.ref (ad (xY X) 1)), some (.ref (ad (xY X) 26)), some (.ref (ad (xY X) 42)), some (.int (nI (m))), some (.int (nI (i))), x5] 8 [] := by
  intro n
  induction n with
  | zero =>
    intro i T s x5 hi h hp hf hpp hx hg
    have o2 := ho.2.1
    refine z_iload4 C dX1_plan_8 ?_
    refine z_aload1 C dX1_plan_10 ?_
    refine z_get C dX1_plan_11 fl_X1_plan_15 (k_Rock _ isR_now) rfl ?_
    refine z_top C (h.1 1 (by decide)) ?_
    refine z_icmp_geN C 59 dX1_plan_14 (by decide) (by omega) (by omega) (fun c14 => ?_) (fun c14 => ?_)
    · exact z_vretR C dX1_plan_59 hr ⟨by rw [hg]; exact hp, hf⟩
    · exact absurd c14 (by omega)
  | succ n ih =>
    intro i T s x5 hi h hp hf hpp hx hg
    have o2 := ho.2.1
    refine z_iload4 C dX1_plan_8 ?_
    refine z_aload1 C dX1_plan_10 ?_
    refine z_get C dX1_plan_11 fl_X1_plan_15 (k_Rock _ isR_now) rfl ?_
    refine z_top C (h.1 1 (by decide)) ?_
    refine z_icmp_geN C 59 dX1_plan_14 (by decide) (by omega) (by omega) (fun c14 => ?_) (fun c14 => ?_)
    · exact absurd c14 (by omega)
    · refine z_iconstN 0 C dX1_plan_17 ?_
      refine z_istore5 C dX1_plan_18 nl_i ?_
      refine li_X1_plan ho hm (i := i) (by omega) C (V 0 1) 0 T s (by omega) h hp hf (fun z => by have := hpp z; omega) (fun T1 h1 hp1 hf1 hpp1 => ?_)
      refine z_iinc4 C dX1_plan_53 (inc1 _) nl_i ?_
      refine z_goto C 8 dX1_plan_56 (by decide) ?_
      exact ih (i + 1) _ _ _ (by omega) h1 hp1 hf1 (fun z => by have := hpp1 z; omega) nl_i hg

set_option maxRecDepth 20000 in
theorem fl_X1_plan_9 : FL RX1 wsX1_plan 9 1 0 := ⟨RX1, TX1, 4, rfl, (fun w h => List.mem_cons_of_mem _ (List.mem_append_left _ (List.mem_append_right _ h))), by decide, by decide +kernel⟩
theorem fp_X1_plan_9 : FP RX1 wsX1_plan 9 1 0 .boolean := ⟨fl_X1_plan_9, RX1, TX1, 4, tyX1, rfl, tyX1_ok, nmX1, rfl, by decide +kernel⟩
set_option maxHeartbeats 4000000 in
set_option maxRecDepth 100000 in
theorem c_X1_plan {l : Launch} {Y : LY} {S : GS} {V : VR} {m : Nat} (ho : Ok V) (hm : m < V 0 0) (h : HC S 26 V) : CtR l yX1_plan wsX1_plan 6 Y [.ref (ad Y 1), .ref (ad Y 26), .ref (ad Y 42), .int (nI m)] S (fun u => HP u (prAll V m) ∧ Fr scr S u) := by
  refine mkR (cc := cX1_plan) (maxL := 6) rfl rfl (Nat.le_of_ble_eq_true rfl) ?_
  intro X hl hY C hr
  subst hl
  subst hY
  show Zj X S [some (.ref (ad (xY X) 1)), some (.ref (ad (xY X) 26)), some (.ref (ad (xY X) 42)), some (.int (nI m)), none, none] 0 []
  refine z_aload0 C dX1_plan_0 ?_
  refine z_iconstN 0 C dX1_plan_1 ?_
  refine z_put C dX1_plan_2 fp_X1_plan_9 (k_Pair _) rfl rfl (Nat.le_of_ble_eq_true rfl) rfl ?_
  refine z_iconstN 0 C dX1_plan_5 ?_
  refine z_istore4 C dX1_plan_6 nl_i ?_
  exact lo_X1_plan ho hm hr C (V 0 1) 0 _ (0, 0, 0, 0) none (by omega) (HC_of h (fun o h1 h2 => stI_no (by omega))) ⟨stI_me _ _ _ _, Nat.zero_le _, fun z => absurd z (by decide)⟩ (Fr.P1.mono (fun o h => Or.inl (by omega))) (fun z => absurd z (by decide)) nl_n (prAll_eq V m)

