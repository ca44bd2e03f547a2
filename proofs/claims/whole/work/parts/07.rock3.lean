def cRT (b k m : Nat) : Nat → GS → GS
  | 0, S => S
  | n + 1, S => if rC S b k m then cRT b k m n (cRub S b k m) else S
def cRN (b k m : Nat) : Nat → GS → Nat
  | 0, _ => 0
  | n + 1, S => if rC S b k m then cRN b k m n (cRub S b k m) + 1 else 0

theorem md_X2_canRub : MD yX2_canRub wsX2_canRub 2 3 (some .boolean) := ⟨_, _, rfl, by decide, by decide +kernel, by decide +kernel, by decide +kernel⟩
theorem md_X2_rubOnce : MD yX2_rubOnce wsX2_rubOnce 2 4 none := ⟨_, _, rfl, by decide, by decide +kernel, by decide +kernel, by decide +kernel⟩
set_option maxHeartbeats 4000000 in
set_option maxRecDepth 100000 in
theorem lp_X2_rubTimes {X : CX} {b k m : Nat} (hb : isR b) (hk : k < 5) (hm : m < 6) {N : Nat} (hN : N ≤ 60) (C : Cx X cX2_rubTimes RX2 wsX2_rubTimes 4) : ∀ (n : Nat) (S : GS) (i : Nat), i + n = N → Zj X (cRT b k m n S) [some (.ref (ad (xY X) b)), some (.int (nI (k))), some (.int (nI (m))), some (.int (nI (N))), some (.int (nI (i + cRN b k m n S)))] 30 [] → Zj X S [some (.ref (ad (xY X) b)), some (.int (nI (k))), some (.int (nI (m))), some (.int (nI (N))), some (.int (nI (i)))] 3 [] := by
  intro n
  induction n with
  | zero =>
    intro S i hi kk
    refine z_iload4 C dX2_rubTimes_3 ?_
    refine z_iload3 C dX2_rubTimes_5 ?_
    refine z_icmp_geN C 30 dX2_rubTimes_6 (by decide) (by omega) (by omega) (fun c6 => ?_) (fun c6 => ?_)
    · exact kk
    · exact absurd c6 (by omega)
  | succ n ih =>
    intro S i hi kk
    refine z_iload4 C dX2_rubTimes_3 ?_
    refine z_iload3 C dX2_rubTimes_5 ?_
    refine z_icmp_geN C 30 dX2_rubTimes_6 (by decide) (by omega) (by omega) (fun c6 => ?_) (fun c6 => ?_)
    · exact absurd c6 (by omega)
    · refine z_aload0 C dX2_rubTimes_9 ?_
      refine z_iload1 C dX2_rubTimes_10 ?_
      refine z_iload2 C dX2_rubTimes_11 ?_
      refine z_callVI C dX2_rubTimes_12 (c_X2_canRub hb (by omega) (by omega)) gX2_rubTimes_X2_canRub md_X2_canRub rfl (by decide) (k_Rock _ hb) rfl rfl rfl (Nat.le_of_ble_eq_true rfl) ?_
      refine z_if_eqB C 30 dX2_rubTimes_15 (by decide) (fun c15 => ?_) (fun c15 => ?_)
      · simp only [cRT, cRN, if_neg c15] at kk
        exact kk
      · refine z_aload0 C dX2_rubTimes_18 ?_
        refine z_iload1 C dX2_rubTimes_19 ?_
        refine z_iload2 C dX2_rubTimes_20 ?_
        refine z_callVV C dX2_rubTimes_21 (c_X2_rubOnce hb (by omega) (by omega)) gX2_rubTimes_X2_rubOnce md_X2_rubOnce rfl (by decide) (k_Rock _ hb) rfl rfl rfl (Nat.le_of_ble_eq_true rfl) ?_
        refine z_iinc4 C dX2_rubTimes_24 (inc1 _) nl_i ?_
        refine z_goto C 3 dX2_rubTimes_27 (by decide) ?_
        simp only [cRT, cRN, if_pos c15] at kk
        exact ih (cRub S b k m) (i + 1) (by omega) (by rw [show i + 1 + cRN b k m n (cRub S b k m) = i + (cRN b k m n (cRub S b k m) + 1) by omega]; exact kk)

set_option maxHeartbeats 4000000 in
set_option maxRecDepth 100000 in
theorem c_X2_rubTimes {l : Launch} {Y : LY} {S : GS} {b k m : Nat} (hb : isR b) (hk : k < 5) (hm : m < 6) {n : Nat} (hn : n ≤ 60) : CtI l yX2_rubTimes wsX2_rubTimes 4 Y [.ref (ad Y b), .int (nI k), .int (nI m), .int (nI n)] S (nI (cRN b k m n S)) (cRT b k m n S) := by
  refine mkI (cc := cX2_rubTimes) (maxL := 5) rfl rfl (Nat.le_of_ble_eq_true rfl) ?_
  intro X hl hY C hr
  subst hl
  subst hY
  show Zj X S [some (.ref (ad (xY X) b)), some (.int (nI k)), some (.int (nI m)), some (.int (nI n)), none] 0 []
  refine z_iconstN 0 C dX2_rubTimes_0 ?_
  refine z_istore4 C dX2_rubTimes_1 nl_i ?_
  refine lp_X2_rubTimes hb hk hm hn C n S 0 (by omega) ?_
  rw [Nat.zero_add]
  refine z_iload4 C dX2_rubTimes_30 ?_
  exact z_iret C dX2_rubTimes_32 hr rfl rfl rfl

set_option maxRecDepth 20000 in
theorem fl_X2_goneSet_37 : FL RX2 wsX2_goneSet 37 2 0 := ⟨RX2, TX2, 12, rfl, (fun w h => List.mem_cons_of_mem _ (List.mem_append_right _ h)), by decide, by decide +kernel⟩
set_option maxHeartbeats 4000000 in
set_option maxRecDepth 100000 in
theorem lp_X2_goneSet {X : CX} {b nm : Nat} (hb : isR b) (hn : nm ≤ 6) {S : GS} (hM : S.1 b 0 = nI nm) (C : Cx X cX2_goneSet RX2 wsX2_goneSet 2) : ∀ (n : Nat) (i : Nat) (v : Int32), i + n = nm → Zj X S [some (.ref (ad (xY X) b)), some (.int (foldN (fun i v => if rG S b i then v ||| nI 1 <<< (nI i &&& 31) else v) n i v)), some (.int (nI (nm)))] 32 [] → Zj X S [some (.ref (ad (xY X) b)), some (.int (v)), some (.int (nI (i)))] 4 [] := by
  intro n
  induction n with
  | zero =>
    intro i v hi kk
    obtain rfl : i = nm := by omega
    refine z_iload2 C dX2_goneSet_4 ?_
    refine z_aload0 C dX2_goneSet_5 ?_
    refine z_get C dX2_goneSet_6 fl_X2_goneSet_37 (k_Rock _ hb) rfl ?_
    refine z_top C hM ?_
    refine z_icmp_geN C 32 dX2_goneSet_9 (by decide) (by omega) (by omega) (fun c9 => ?_) (fun c9 => ?_)
    · exact kk
    · exact absurd c9 (by omega)
  | succ n ih =>
    intro i v hi kk
    refine z_iload2 C dX2_goneSet_4 ?_
    refine z_aload0 C dX2_goneSet_5 ?_
    refine z_get C dX2_goneSet_6 fl_X2_goneSet_37 (k_Rock _ hb) rfl ?_
    refine z_top C hM ?_
    refine z_icmp_geN C 32 dX2_goneSet_9 (by decide) (by omega) (by omega) (fun c9 => ?_) (fun c9 => ?_)
    · exact absurd c9 (by omega)
    · refine z_aload0 C dX2_goneSet_12 ?_
      refine z_iload2 C dX2_goneSet_13 ?_
      refine z_callVI C dX2_goneSet_14 (c_X2_isGone hb (by omega)) gX2_goneSet_X2_isGone md_X2_isGone rfl (by decide) (k_Rock _ hb) rfl rfl rfl (Nat.le_of_ble_eq_true rfl) ?_
      refine z_if_eqB C 26 dX2_goneSet_17 (by decide) (fun c17 => ?_) (fun c17 => ?_)
      · refine z_iinc2 C dX2_goneSet_26 (inc1 _) nl_i ?_
        refine z_goto C 4 dX2_goneSet_29 (by decide) ?_
        exact ih (i + 1) _ (by omega) (by simp only [foldN] at kk; first | (rw [if_pos c17] at kk; exact kk) | (rw [if_neg c17] at kk; exact kk))
      · refine z_iload1 C dX2_goneSet_20 ?_
        refine z_iconstN 1 C dX2_goneSet_21 ?_
        refine z_iload2 C dX2_goneSet_22 ?_
        refine z_ishl C dX2_goneSet_23 ?_
        refine z_ior C dX2_goneSet_24 ?_
        refine z_istore1 C dX2_goneSet_25 nl_r ?_
        refine z_iinc2 C dX2_goneSet_26 (inc1 _) nl_i ?_
        refine z_goto C 4 dX2_goneSet_29 (by decide) ?_
        exact ih (i + 1) _ (by omega) (by simp only [foldN] at kk; first | (rw [if_pos c17] at kk; exact kk) | (rw [if_neg c17] at kk; exact kk))

set_option maxHeartbeats 4000000 in
set_option maxRecDepth 100000 in
theorem c_X2_goneSet {l : Launch} {Y : LY} {S : GS} {b nm : Nat} (hb : isR b) (hn : nm ≤ 6) (hM : S.1 b 0 = nI nm) : CtI l yX2_goneSet wsX2_goneSet 2 Y [.ref (ad Y b)] S (foldN (fun i v => if rG S b i then v ||| nI 1 <<< (nI i &&& 31) else v) nm 0 (nI 0)) (S) := by
  refine mkI (cc := cX2_goneSet) (maxL := 3) rfl rfl (Nat.le_of_ble_eq_true rfl) ?_
  intro X hl hY C hr
  subst hl
  subst hY
  show Zj X S [some (.ref (ad (xY X) b)), none, none] 0 []
  refine z_iconstN 0 C dX2_goneSet_0 ?_
  refine z_istore1 C dX2_goneSet_1 nl_r ?_
  refine z_iconstN 0 C dX2_goneSet_2 ?_
  refine z_istore2 C dX2_goneSet_3 nl_i ?_
  refine lp_X2_goneSet hb hn hM C nm 0 (nI 0) (by omega) ?_
  refine z_iload1 C dX2_goneSet_32 ?_
  exact z_iret C dX2_goneSet_33 hr rfl rfl rfl

set_option maxRecDepth 20000 in
theorem fl_X2_tornSet_37 : FL RX2 wsX2_tornSet 37 2 0 := ⟨RX2, TX2, 12, rfl, (fun w h => List.mem_cons_of_mem _ (List.mem_append_right _ h)), by decide, by decide +kernel⟩
set_option maxHeartbeats 4000000 in
set_option maxRecDepth 100000 in
theorem lp_X2_tornSet {X : CX} {b nm : Nat} (hb : isR b) (hn : nm ≤ 6) {S : GS} (hM : S.1 b 0 = nI nm) (C : Cx X cX2_tornSet RX2 wsX2_tornSet 2) : ∀ (n : Nat) (i : Nat) (v : Int32), i + n = nm → Zj X S [some (.ref (ad (xY X) b)), some (.int (foldN (fun i v => if rT S b i then v ||| nI 1 <<< (nI i &&& 31) else v) n i v)), some (.int (nI (nm)))] 32 [] → Zj X S [some (.ref (ad (xY X) b)), some (.int (v)), some (.int (nI (i)))] 4 [] := by
  intro n
  induction n with
  | zero =>
    intro i v hi kk
    obtain rfl : i = nm := by omega
    refine z_iload2 C dX2_tornSet_4 ?_
    refine z_aload0 C dX2_tornSet_5 ?_
    refine z_get C dX2_tornSet_6 fl_X2_tornSet_37 (k_Rock _ hb) rfl ?_
    refine z_top C hM ?_
    refine z_icmp_geN C 32 dX2_tornSet_9 (by decide) (by omega) (by omega) (fun c9 => ?_) (fun c9 => ?_)
    · exact kk
    · exact absurd c9 (by omega)
  | succ n ih =>
    intro i v hi kk
    refine z_iload2 C dX2_tornSet_4 ?_
    refine z_aload0 C dX2_tornSet_5 ?_
    refine z_get C dX2_tornSet_6 fl_X2_tornSet_37 (k_Rock _ hb) rfl ?_
    refine z_top C hM ?_
    refine z_icmp_geN C 32 dX2_tornSet_9 (by decide) (by omega) (by omega) (fun c9 => ?_) (fun c9 => ?_)
    · exact absurd c9 (by omega)
    · refine z_aload0 C dX2_tornSet_12 ?_
      refine z_iload2 C dX2_tornSet_13 ?_
      refine z_callVI C dX2_tornSet_14 (c_X2_isTorn hb (by omega)) gX2_tornSet_X2_isTorn md_X2_isTorn rfl (by decide) (k_Rock _ hb) rfl rfl rfl (Nat.le_of_ble_eq_true rfl) ?_
      refine z_if_eqB C 26 dX2_tornSet_17 (by decide) (fun c17 => ?_) (fun c17 => ?_)
      · refine z_iinc2 C dX2_tornSet_26 (inc1 _) nl_i ?_
        refine z_goto C 4 dX2_tornSet_29 (by decide) ?_
        exact ih (i + 1) _ (by omega) (by simp only [foldN] at kk; first | (rw [if_pos c17] at kk; exact kk) | (rw [if_neg c17] at kk; exact kk))
      · refine z_iload1 C dX2_tornSet_20 ?_
        refine z_iconstN 1 C dX2_tornSet_21 ?_
        refine z_iload2 C dX2_tornSet_22 ?_
        refine z_ishl C dX2_tornSet_23 ?_
        refine z_ior C dX2_tornSet_24 ?_
        refine z_istore1 C dX2_tornSet_25 nl_r ?_
        refine z_iinc2 C dX2_tornSet_26 (inc1 _) nl_i ?_
        refine z_goto C 4 dX2_tornSet_29 (by decide) ?_
        exact ih (i + 1) _ (by omega) (by simp only [foldN] at kk; first | (rw [if_pos c17] at kk; exact kk) | (rw [if_neg c17] at kk; exact kk))

set_option maxHeartbeats 4000000 in
set_option maxRecDepth 100000 in
theorem c_X2_tornSet {l : Launch} {Y : LY} {S : GS} {b nm : Nat} (hb : isR b) (hn : nm ≤ 6) (hM : S.1 b 0 = nI nm) : CtI l yX2_tornSet wsX2_tornSet 2 Y [.ref (ad Y b)] S (foldN (fun i v => if rT S b i then v ||| nI 1 <<< (nI i &&& 31) else v) nm 0 (nI 0)) (S) := by
  refine mkI (cc := cX2_tornSet) (maxL := 3) rfl rfl (Nat.le_of_ble_eq_true rfl) ?_
  intro X hl hY C hr
  subst hl
  subst hY
  show Zj X S [some (.ref (ad (xY X) b)), none, none] 0 []
  refine z_iconstN 0 C dX2_tornSet_0 ?_
  refine z_istore1 C dX2_tornSet_1 nl_r ?_
  refine z_iconstN 0 C dX2_tornSet_2 ?_
  refine z_istore2 C dX2_tornSet_3 nl_i ?_
  refine lp_X2_tornSet hb hn hM C nm 0 (nI 0) (by omega) ?_
  refine z_iload1 C dX2_tornSet_32 ?_
  exact z_iret C dX2_tornSet_33 hr rfl rfl rfl
