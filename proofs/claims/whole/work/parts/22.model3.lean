def mB1 (fr to : Nat) (k : Nat) (T : GS) : GS := stI T 179 (to + k) (T.1 179 (fr + k))
def mBr (S : GS) (fr to n : Nat) : GS := foldN (mB1 fr to) n 0 S
theorem foldN_far {P : GS → GS → Prop} (h0 : ∀ S, P S S) (ht : ∀ S T U, P S T → P T U → P S U) {f : Nat → GS → GS} (N : Nat) (h : ∀ i S, i < N → P S (f i S)) : ∀ (n i : Nat) (S : GS), i + n ≤ N → P S (foldN f n i S) := by
  intro n
  induction n with
  | zero => intro i S _; exact h0 S
  | succ n ih => intro i S hi; exact ht _ _ _ (h i S (by omega)) (ih (i + 1) (f i S) (by omega))
theorem mBr_far {S : GS} {fr to n i : Nat} (h : i < to ∨ to + n ≤ i) : (mBr S fr to n).1 179 i = S.1 179 i := by
  refine foldN_far (P := fun S T => T.1 179 i = S.1 179 i) (fun _ => rfl) (fun _ _ _ a b => b.trans a) n (fun k T hk => ?_) n 0 S (by omega)
  unfold mB1
  exact stI_ni (by omega)
theorem mBr_obj {S : GS} {fr to n o : Nat} (h : o ≠ 179) : (mBr S fr to n).1 o = S.1 o := by
  refine foldN_far (P := fun S T => T.1 o = S.1 o) (fun _ => rfl) (fun _ _ _ a b => b.trans a) n (fun k T hk => ?_) n 0 S (by omega)
  unfold mB1
  exact stI_no h

set_option maxRecDepth 20000 in
theorem fl_X8_bring_7 : FL RX8 wsX8_bring 7 8 0 := ⟨RX8, TX8, 15, rfl, (fun w h => List.mem_cons_of_mem _ (List.mem_append_right _ h)), by decide, by decide +kernel⟩
set_option maxHeartbeats 4000000 in
set_option maxRecDepth 100000 in
theorem lp_X8_bring {X : CX} {fr to N : Nat} (h1 : fr + N ≤ 674) (h2 : to + N ≤ 674) (C : Cx X cX8_bring RX8 wsX8_bring 1) : ∀ (n : Nat) (S : GS) (i : Nat), i + n = N → Zj X (foldN (mB1 fr to) n i S) [some (.ref (ad (xY X) 178)), some (.int (nI (fr))), some (.int (nI (to))), some (.int (nI (N))), some (.int (nI (N)))] 33 [] → Zj X S [some (.ref (ad (xY X) 178)), some (.int (nI (fr))), some (.int (nI (to))), some (.int (nI (N))), some (.int (nI (i)))] 3 [] := by
  intro n
  induction n with
  | zero =>
    intro S i hi kk
    obtain rfl : i = N := by omega
    refine z_iload4 C dX8_bring_3 ?_
    refine z_iload3 C dX8_bring_5 ?_
    refine z_icmp_geN C 33 dX8_bring_6 (by decide) (by omega) (by omega) (fun c6 => ?_) (fun c6 => ?_)
    · exact kk
    · exact absurd c6 (by omega)
  | succ n ih =>
    intro S i hi kk
    refine z_iload4 C dX8_bring_3 ?_
    refine z_iload3 C dX8_bring_5 ?_
    refine z_icmp_geN C 33 dX8_bring_6 (by decide) (by omega) (by omega) (fun c6 => ?_) (fun c6 => ?_)
    · exact absurd c6 (by omega)
    · refine z_aload0 C dX8_bring_9 ?_
      refine z_get C dX8_bring_10 fl_X8_bring_7 (k_Model _) rfl ?_
      refine z_iload2 C dX8_bring_13 ?_
      refine z_iload4 C dX8_bring_14 ?_
      refine z_iaddN C dX8_bring_16 ?_
      refine z_aload0 C dX8_bring_17 ?_
      refine z_get C dX8_bring_18 fl_X8_bring_7 (k_Model _) rfl ?_
      refine z_iload1 C dX8_bring_21 ?_
      refine z_iload4 C dX8_bring_22 ?_
      refine z_iaddN C dX8_bring_24 ?_
      refine z_iald C dX8_bring_25 (k_i179 _) (by omega) ?_
      refine z_iast C dX8_bring_26 (k_i179 _) (by omega) ?_
      refine z_iinc4 C dX8_bring_27 (inc1 _) nl_i ?_
      refine z_goto C 3 dX8_bring_30 (by decide) ?_
      exact ih _ (i + 1) (by omega) kk

set_option maxHeartbeats 4000000 in
set_option maxRecDepth 100000 in
theorem c_X8_bring {l : Launch} {Y : LY} {S : GS} {fr to n : Nat} (h1 : fr + n ≤ 674) (h2 : to + n ≤ 674) : CtV l yX8_bring wsX8_bring 1 Y [.ref (ad Y 178), .int (nI fr), .int (nI to), .int (nI n)] S (mBr S fr to n) := by
  refine mkV (cc := cX8_bring) (maxL := 5) rfl rfl (Nat.le_of_ble_eq_true rfl) ?_
  intro X hl hY C hr
  subst hl
  subst hY
  show Zj X S [some (.ref (ad (xY X) 178)), some (.int (nI fr)), some (.int (nI to)), some (.int (nI n)), none] 0 []
  refine z_iconstN 0 C dX8_bring_0 ?_
  refine z_istore4 C dX8_bring_1 nl_i ?_
  refine lp_X8_bring h1 h2 C n S 0 (by omega) ?_
  exact z_vret C dX8_bring_33 hr rfl

set_option maxRecDepth 20000 in
theorem fl_X8_goneOnes_7 : FL RX8 wsX8_goneOnes 7 8 0 := ⟨RX8, TX8, 15, rfl, (fun w h => List.mem_cons_of_mem _ (List.mem_append_right _ h)), by decide, by decide +kernel⟩
set_option maxHeartbeats 4000000 in
set_option maxRecDepth 100000 in
theorem lp_X8_goneOnes {X : CX} {r nm : Nat} (hr0 : r ≤ 630) (hn : nm ≤ 6) {S : GS} (hM : S.1 179 (r + 0) = nI nm) (C : Cx X cX8_goneOnes RX8 wsX8_goneOnes 2) : ∀ (n : Nat) (i : Nat) (v : Int32), i + n = nm → Zj X S [some (.ref (ad (xY X) 178)), some (.int (nI (r))), some (.int (foldN (fun i v => v ||| (if mG S r i then nI 1 <<< (nI i &&& 31) else nI 0)) n i v)), some (.int (nI (nm)))] 41 [] → Zj X S [some (.ref (ad (xY X) 178)), some (.int (nI (r))), some (.int (v)), some (.int (nI (i)))] 4 [] := by
  intro n
  induction n with
  | zero =>
    intro i v hi kk
    obtain rfl : i = nm := by omega
    refine z_iload3 C dX8_goneOnes_4 ?_
    refine z_aload0 C dX8_goneOnes_5 ?_
    refine z_get C dX8_goneOnes_6 fl_X8_goneOnes_7 (k_Model _) rfl ?_
    refine z_iload1 C dX8_goneOnes_9 ?_
    refine z_iconstN 0 C dX8_goneOnes_10 ?_
    refine z_iaddN C dX8_goneOnes_11 ?_
    refine z_iald C dX8_goneOnes_12 (k_i179 _) (by omega) ?_
    refine z_top C hM ?_
    refine z_icmp_geN C 41 dX8_goneOnes_13 (by decide) (by omega) (by omega) (fun c13 => ?_) (fun c13 => ?_)
    · exact kk
    · exact absurd c13 (by omega)
  | succ n ih =>
    intro i v hi kk
    refine z_iload3 C dX8_goneOnes_4 ?_
    refine z_aload0 C dX8_goneOnes_5 ?_
    refine z_get C dX8_goneOnes_6 fl_X8_goneOnes_7 (k_Model _) rfl ?_
    refine z_iload1 C dX8_goneOnes_9 ?_
    refine z_iconstN 0 C dX8_goneOnes_10 ?_
    refine z_iaddN C dX8_goneOnes_11 ?_
    refine z_iald C dX8_goneOnes_12 (k_i179 _) (by omega) ?_
    refine z_top C hM ?_
    refine z_icmp_geN C 41 dX8_goneOnes_13 (by decide) (by omega) (by omega) (fun c13 => ?_) (fun c13 => ?_)
    · exact absurd c13 (by omega)
    · refine z_iload2 C dX8_goneOnes_16 ?_
      refine z_aload0 C dX8_goneOnes_17 ?_
      refine z_iload1 C dX8_goneOnes_18 ?_
      refine z_iload3 C dX8_goneOnes_19 ?_
      refine z_callVI C dX8_goneOnes_20 (c_X8_isGone (by omega) (by omega)) gX8_goneOnes_X8_isGone md_X8_isGone rfl (by decide) (k_Model _) rfl rfl rfl (Nat.le_of_ble_eq_true rfl) ?_
      refine z_if_eqB C 32 dX8_goneOnes_23 (by decide) (fun c23 => ?_) (fun c23 => ?_)
      · refine z_iconstN 0 C dX8_goneOnes_32 ?_
        refine z_ior C dX8_goneOnes_33 ?_
        refine z_istore2 C dX8_goneOnes_34 nl_i ?_
        refine z_iinc3 C dX8_goneOnes_35 (inc1 _) nl_i ?_
        refine z_goto C 4 dX8_goneOnes_38 (by decide) ?_
        exact ih (i + 1) _ (by omega) (by simp only [foldN] at kk; first | (rw [if_pos c23] at kk; exact kk) | (rw [if_neg c23] at kk; exact kk))
      · refine z_iconstN 1 C dX8_goneOnes_26 ?_
        refine z_iload3 C dX8_goneOnes_27 ?_
        refine z_ishl C dX8_goneOnes_28 ?_
        refine z_goto C 33 dX8_goneOnes_29 (by decide) ?_
        refine z_ior C dX8_goneOnes_33 ?_
        refine z_istore2 C dX8_goneOnes_34 nl_i ?_
        refine z_iinc3 C dX8_goneOnes_35 (inc1 _) nl_i ?_
        refine z_goto C 4 dX8_goneOnes_38 (by decide) ?_
        exact ih (i + 1) _ (by omega) (by simp only [foldN] at kk; first | (rw [if_pos c23] at kk; exact kk) | (rw [if_neg c23] at kk; exact kk))

set_option maxHeartbeats 4000000 in
set_option maxRecDepth 100000 in
theorem c_X8_goneOnes {l : Launch} {Y : LY} {S : GS} {r nm : Nat} (hr0 : r ≤ 630) (hn : nm ≤ 6) (hM : S.1 179 (r + 0) = nI nm) : CtI l yX8_goneOnes wsX8_goneOnes 2 Y [.ref (ad Y 178), .int (nI r)] S (foldN (fun i v => v ||| (if mG S r i then nI 1 <<< (nI i &&& 31) else nI 0)) nm 0 (nI 0)) (S) := by
  refine mkI (cc := cX8_goneOnes) (maxL := 4) rfl rfl (Nat.le_of_ble_eq_true rfl) ?_
  intro X hl hY C hr
  subst hl
  subst hY
  show Zj X S [some (.ref (ad (xY X) 178)), some (.int (nI r)), none, none] 0 []
  refine z_iconstN 0 C dX8_goneOnes_0 ?_
  refine z_istore2 C dX8_goneOnes_1 nl_i ?_
  refine z_iconstN 0 C dX8_goneOnes_2 ?_
  refine z_istore3 C dX8_goneOnes_3 nl_i ?_
  refine lp_X8_goneOnes hr0 hn hM C nm 0 (nI 0) (by omega) ?_
  refine z_iload2 C dX8_goneOnes_41 ?_
  exact z_iret C dX8_goneOnes_42 hr rfl rfl rfl

set_option maxRecDepth 20000 in
theorem fl_X8_tornOnes_7 : FL RX8 wsX8_tornOnes 7 8 0 := ⟨RX8, TX8, 15, rfl, (fun w h => List.mem_cons_of_mem _ (List.mem_append_right _ h)), by decide, by decide +kernel⟩
set_option maxHeartbeats 4000000 in
set_option maxRecDepth 100000 in
theorem lp_X8_tornOnes {X : CX} {r nm : Nat} (hr0 : r ≤ 630) (hn : nm ≤ 6) {S : GS} (hM : S.1 179 (r + 0) = nI nm) (C : Cx X cX8_tornOnes RX8 wsX8_tornOnes 2) : ∀ (n : Nat) (i : Nat) (v : Int32), i + n = nm → Zj X S [some (.ref (ad (xY X) 178)), some (.int (nI (r))), some (.int (foldN (fun i v => v ||| (if mT S r i then nI 1 <<< (nI i &&& 31) else nI 0)) n i v)), some (.int (nI (nm)))] 41 [] → Zj X S [some (.ref (ad (xY X) 178)), some (.int (nI (r))), some (.int (v)), some (.int (nI (i)))] 4 [] := by
  intro n
  induction n with
  | zero =>
    intro i v hi kk
    obtain rfl : i = nm := by omega
    refine z_iload3 C dX8_tornOnes_4 ?_
    refine z_aload0 C dX8_tornOnes_5 ?_
    refine z_get C dX8_tornOnes_6 fl_X8_tornOnes_7 (k_Model _) rfl ?_
    refine z_iload1 C dX8_tornOnes_9 ?_
    refine z_iconstN 0 C dX8_tornOnes_10 ?_
    refine z_iaddN C dX8_tornOnes_11 ?_
    refine z_iald C dX8_tornOnes_12 (k_i179 _) (by omega) ?_
    refine z_top C hM ?_
    refine z_icmp_geN C 41 dX8_tornOnes_13 (by decide) (by omega) (by omega) (fun c13 => ?_) (fun c13 => ?_)
    · exact kk
    · exact absurd c13 (by omega)
  | succ n ih =>
    intro i v hi kk
    refine z_iload3 C dX8_tornOnes_4 ?_
    refine z_aload0 C dX8_tornOnes_5 ?_
    refine z_get C dX8_tornOnes_6 fl_X8_tornOnes_7 (k_Model _) rfl ?_
    refine z_iload1 C dX8_tornOnes_9 ?_
    refine z_iconstN 0 C dX8_tornOnes_10 ?_
    refine z_iaddN C dX8_tornOnes_11 ?_
    refine z_iald C dX8_tornOnes_12 (k_i179 _) (by omega) ?_
    refine z_top C hM ?_
    refine z_icmp_geN C 41 dX8_tornOnes_13 (by decide) (by omega) (by omega) (fun c13 => ?_) (fun c13 => ?_)
    · exact absurd c13 (by omega)
    · refine z_iload2 C dX8_tornOnes_16 ?_
      refine z_aload0 C dX8_tornOnes_17 ?_
      refine z_iload1 C dX8_tornOnes_18 ?_
      refine z_iload3 C dX8_tornOnes_19 ?_
      refine z_callVI C dX8_tornOnes_20 (c_X8_isTorn (by omega) (by omega)) gX8_tornOnes_X8_isTorn md_X8_isTorn rfl (by decide) (k_Model _) rfl rfl rfl (Nat.le_of_ble_eq_true rfl) ?_
      refine z_if_eqB C 32 dX8_tornOnes_23 (by decide) (fun c23 => ?_) (fun c23 => ?_)
      · refine z_iconstN 0 C dX8_tornOnes_32 ?_
        refine z_ior C dX8_tornOnes_33 ?_
        refine z_istore2 C dX8_tornOnes_34 nl_i ?_
        refine z_iinc3 C dX8_tornOnes_35 (inc1 _) nl_i ?_
        refine z_goto C 4 dX8_tornOnes_38 (by decide) ?_
        exact ih (i + 1) _ (by omega) (by simp only [foldN] at kk; first | (rw [if_pos c23] at kk; exact kk) | (rw [if_neg c23] at kk; exact kk))
      · refine z_iconstN 1 C dX8_tornOnes_26 ?_
        refine z_iload3 C dX8_tornOnes_27 ?_
        refine z_ishl C dX8_tornOnes_28 ?_
        refine z_goto C 33 dX8_tornOnes_29 (by decide) ?_
        refine z_ior C dX8_tornOnes_33 ?_
        refine z_istore2 C dX8_tornOnes_34 nl_i ?_
        refine z_iinc3 C dX8_tornOnes_35 (inc1 _) nl_i ?_
        refine z_goto C 4 dX8_tornOnes_38 (by decide) ?_
        exact ih (i + 1) _ (by omega) (by simp only [foldN] at kk; first | (rw [if_pos c23] at kk; exact kk) | (rw [if_neg c23] at kk; exact kk))

set_option maxHeartbeats 4000000 in
set_option maxRecDepth 100000 in
theorem c_X8_tornOnes {l : Launch} {Y : LY} {S : GS} {r nm : Nat} (hr0 : r ≤ 630) (hn : nm ≤ 6) (hM : S.1 179 (r + 0) = nI nm) : CtI l yX8_tornOnes wsX8_tornOnes 2 Y [.ref (ad Y 178), .int (nI r)] S (foldN (fun i v => v ||| (if mT S r i then nI 1 <<< (nI i &&& 31) else nI 0)) nm 0 (nI 0)) (S) := by
  refine mkI (cc := cX8_tornOnes) (maxL := 4) rfl rfl (Nat.le_of_ble_eq_true rfl) ?_
  intro X hl hY C hr
  subst hl
  subst hY
  show Zj X S [some (.ref (ad (xY X) 178)), some (.int (nI r)), none, none] 0 []
  refine z_iconstN 0 C dX8_tornOnes_0 ?_
  refine z_istore2 C dX8_tornOnes_1 nl_i ?_
  refine z_iconstN 0 C dX8_tornOnes_2 ?_
  refine z_istore3 C dX8_tornOnes_3 nl_i ?_
  refine lp_X8_tornOnes hr0 hn hM C nm 0 (nI 0) (by omega) ?_
  refine z_iload2 C dX8_tornOnes_41 ?_
  exact z_iret C dX8_tornOnes_42 hr rfl rfl rfl

set_option maxRecDepth 20000 in
theorem fl_X8_sentTo_7 : FL RX8 wsX8_sentTo 7 8 0 := ⟨RX8, TX8, 15, rfl, (fun w h => List.mem_cons_of_mem _ (List.mem_append_right _ h)), by decide, by decide +kernel⟩
set_option maxHeartbeats 4000000 in
set_option maxRecDepth 100000 in
theorem lp_X8_sentTo {X : CX} {nk : Nat} {x : Int32} (hn : nk ≤ 5) {S : GS} (hK : S.1 179 1 = nI nk) (C : Cx X cX8_sentTo RX8 wsX8_sentTo 1) : ∀ (n : Nat) (i : Nat) (v : Int32), i + n = nk → Zj X S [some (.ref (ad (xY X) 178)), some (.int (x)), some (.int (foldN (fun i v => v ||| (if S.1 179 (28 + i) = x then nI 1 <<< (nI i &&& 31) else nI 0)) n i v)), some (.int (nI (nk)))] 43 [] → Zj X S [some (.ref (ad (xY X) 178)), some (.int (x)), some (.int (v)), some (.int (nI (i)))] 4 [] := by
  intro n
  induction n with
  | zero =>
    intro i v hi kk
    obtain rfl : i = nk := by omega
    refine z_iload3 C dX8_sentTo_4 ?_
    refine z_aload0 C dX8_sentTo_5 ?_
    refine z_get C dX8_sentTo_6 fl_X8_sentTo_7 (k_Model _) rfl ?_
    refine z_iconstN 1 C dX8_sentTo_9 ?_
    refine z_iald C dX8_sentTo_10 (k_i179 _) (by omega) ?_
    refine z_top C hK ?_
    refine z_icmp_geN C 43 dX8_sentTo_11 (by decide) (by omega) (by omega) (fun c11 => ?_) (fun c11 => ?_)
    · exact kk
    · exact absurd c11 (by omega)
  | succ n ih =>
    intro i v hi kk
    refine z_iload3 C dX8_sentTo_4 ?_
    refine z_aload0 C dX8_sentTo_5 ?_
    refine z_get C dX8_sentTo_6 fl_X8_sentTo_7 (k_Model _) rfl ?_
    refine z_iconstN 1 C dX8_sentTo_9 ?_
    refine z_iald C dX8_sentTo_10 (k_i179 _) (by omega) ?_
    refine z_top C hK ?_
    refine z_icmp_geN C 43 dX8_sentTo_11 (by decide) (by omega) (by omega) (fun c11 => ?_) (fun c11 => ?_)
    · exact absurd c11 (by omega)
    · refine z_iload2 C dX8_sentTo_14 ?_
      refine z_aload0 C dX8_sentTo_15 ?_
      refine z_get C dX8_sentTo_16 fl_X8_sentTo_7 (k_Model _) rfl ?_
      refine z_bipush (v := nI 28) C dX8_sentTo_19 (by decide) ?_
      refine z_iload3 C dX8_sentTo_21 ?_
      refine z_iaddN C dX8_sentTo_22 ?_
      refine z_iald C dX8_sentTo_23 (k_i179 _) (by omega) ?_
      refine z_iload1 C dX8_sentTo_24 ?_
      refine z_icmp_ne C 34 dX8_sentTo_25 (by decide) (fun c25 => ?_) (fun c25 => ?_)
      · refine z_iconstN 0 C dX8_sentTo_34 ?_
        refine z_ior C dX8_sentTo_35 ?_
        refine z_istore2 C dX8_sentTo_36 nl_i ?_
        refine z_iinc3 C dX8_sentTo_37 (inc1 _) nl_i ?_
        refine z_goto C 4 dX8_sentTo_40 (by decide) ?_
        exact ih (i + 1) _ (by omega) (by simp only [foldN] at kk; first | (rw [if_pos c25] at kk; exact kk) | (rw [if_neg c25] at kk; exact kk))
      · refine z_iconstN 1 C dX8_sentTo_28 ?_
        refine z_iload3 C dX8_sentTo_29 ?_
        refine z_ishl C dX8_sentTo_30 ?_
        refine z_goto C 35 dX8_sentTo_31 (by decide) ?_
        refine z_ior C dX8_sentTo_35 ?_
        refine z_istore2 C dX8_sentTo_36 nl_i ?_
        refine z_iinc3 C dX8_sentTo_37 (inc1 _) nl_i ?_
        refine z_goto C 4 dX8_sentTo_40 (by decide) ?_
        exact ih (i + 1) _ (by omega) (by simp only [foldN] at kk; first | (rw [if_pos c25] at kk; exact kk) | (rw [if_neg c25] at kk; exact kk))

set_option maxHeartbeats 4000000 in
set_option maxRecDepth 100000 in
theorem c_X8_sentTo {l : Launch} {Y : LY} {S : GS} {nk : Nat} {x : Int32} (hn : nk ≤ 5) (hK : S.1 179 1 = nI nk) : CtI l yX8_sentTo wsX8_sentTo 1 Y [.ref (ad Y 178), .int x] S (foldN (fun i v => v ||| (if S.1 179 (28 + i) = x then nI 1 <<< (nI i &&& 31) else nI 0)) nk 0 (nI 0)) (S) := by
  refine mkI (cc := cX8_sentTo) (maxL := 4) rfl rfl (Nat.le_of_ble_eq_true rfl) ?_
  intro X hl hY C hr
  subst hl
  subst hY
  show Zj X S [some (.ref (ad (xY X) 178)), some (.int x), none, none] 0 []
  refine z_iconstN 0 C dX8_sentTo_0 ?_
  refine z_istore2 C dX8_sentTo_1 nl_i ?_
  refine z_iconstN 0 C dX8_sentTo_2 ?_
  refine z_istore3 C dX8_sentTo_3 nl_i ?_
  refine lp_X8_sentTo hn hK C nk 0 (nI 0) (by omega) ?_
  refine z_iload2 C dX8_sentTo_43 ?_
  exact z_iret C dX8_sentTo_44 hr rfl rfl rfl

set_option maxRecDepth 20000 in
theorem fl_X8_sumOf_7 : FL RX8 wsX8_sumOf 7 8 0 := ⟨RX8, TX8, 15, rfl, (fun w h => List.mem_cons_of_mem _ (List.mem_append_right _ h)), by decide, by decide +kernel⟩
set_option maxHeartbeats 4000000 in
set_option maxRecDepth 100000 in
theorem lp_X8_sumOf {X : CX} {fr N : Nat} (h1 : fr + N ≤ 674) {S : GS} (C : Cx X cX8_sumOf RX8 wsX8_sumOf 1) : ∀ (n : Nat) (i : Nat) (v : Int32), i + n = N → Zj X S [some (.ref (ad (xY X) 178)), some (.int (nI (fr))), some (.int (nI (N))), some (.int (foldN (fun i v => v + S.1 179 (fr + i)) n i v)), some (.int (nI (N)))] 29 [] → Zj X S [some (.ref (ad (xY X) 178)), some (.int (nI (fr))), some (.int (nI (N))), some (.int (v)), some (.int (nI (i)))] 5 [] := by
  intro n
  induction n with
  | zero =>
    intro i v hi kk
    obtain rfl : i = N := by omega
    refine z_iload4 C dX8_sumOf_5 ?_
    refine z_iload2 C dX8_sumOf_7 ?_
    refine z_icmp_geN C 29 dX8_sumOf_8 (by decide) (by omega) (by omega) (fun c8 => ?_) (fun c8 => ?_)
    · exact kk
    · exact absurd c8 (by omega)
  | succ n ih =>
    intro i v hi kk
    refine z_iload4 C dX8_sumOf_5 ?_
    refine z_iload2 C dX8_sumOf_7 ?_
    refine z_icmp_geN C 29 dX8_sumOf_8 (by decide) (by omega) (by omega) (fun c8 => ?_) (fun c8 => ?_)
    · exact absurd c8 (by omega)
    · refine z_iload3 C dX8_sumOf_11 ?_
      refine z_aload0 C dX8_sumOf_12 ?_
      refine z_get C dX8_sumOf_13 fl_X8_sumOf_7 (k_Model _) rfl ?_
      refine z_iload1 C dX8_sumOf_16 ?_
      refine z_iload4 C dX8_sumOf_17 ?_
      refine z_iaddN C dX8_sumOf_19 ?_
      refine z_iald C dX8_sumOf_20 (k_i179 _) (by omega) ?_
      refine z_iadd C dX8_sumOf_21 ?_
      refine z_istore3 C dX8_sumOf_22 nl_i ?_
      refine z_iinc4 C dX8_sumOf_23 (inc1 _) nl_i ?_
      refine z_goto C 5 dX8_sumOf_26 (by decide) ?_
      exact ih (i + 1) _ (by omega) kk

set_option maxHeartbeats 4000000 in
set_option maxRecDepth 100000 in
theorem c_X8_sumOf {l : Launch} {Y : LY} {S : GS} {fr n : Nat} (h1 : fr + n ≤ 674) : CtI l yX8_sumOf wsX8_sumOf 1 Y [.ref (ad Y 178), .int (nI fr), .int (nI n)] S (foldN (fun i v => v + S.1 179 (fr + i)) n 0 (nI 0)) (S) := by
  refine mkI (cc := cX8_sumOf) (maxL := 5) rfl rfl (Nat.le_of_ble_eq_true rfl) ?_
  intro X hl hY C hr
  subst hl
  subst hY
  show Zj X S [some (.ref (ad (xY X) 178)), some (.int (nI fr)), some (.int (nI n)), none, none] 0 []
  refine z_iconstN 0 C dX8_sumOf_0 ?_
  refine z_istore3 C dX8_sumOf_1 nl_i ?_
  refine z_iconstN 0 C dX8_sumOf_2 ?_
  refine z_istore4 C dX8_sumOf_3 nl_i ?_
  refine lp_X8_sumOf h1 C n 0 (nI 0) (by omega) ?_
  refine z_iload3 C dX8_sumOf_29 ?_
  exact z_iret C dX8_sumOf_30 hr rfl rfl rfl

def mK (S : GS) (r k : Nat) : Nat := (S.1 179 (r + 28 + k)).toNatClampNeg
def mOk (S : GS) (r nk : Nat) : Prop := ∀ k, k < nk → ¬ S.1 179 (r + 28 + k) = -4 → ¬ S.1 179 (r + 28 + k) < 0 ∧ mK S r k < 6
theorem mK_eq {S : GS} {r k : Nat} (h : ¬ S.1 179 (r + 28 + k) < 0) : S.1 179 (r + 28 + k) = nI (mK S r k) := by
  obtain ⟨j, hj, e⟩ := nI_of h
  unfold mK
  rw [e, nI_clamp hj]
theorem mRub_far {S : GS} {r k m i : Nat} (h1 : i ≠ r + 5 + m) (h2 : i ≠ r + 11 + m) (h3 : i ≠ r + 17 + m) (h4 : i ≠ r + 23 + k) (h5 : i ≠ r + 4) : (mRub S r k m).1 179 i = S.1 179 i := by
  have e4 : (mR4 S r k m).1 179 i = S.1 179 i := by
    unfold mR4 mR3 mR2 mR1
    rw [stI_ni h3, stI_ni h5, stI_ni h4, stI_ni h1]
  unfold mRub
  split
  · rw [stI_ni h2, stI_ni h1, e4]
  · exact e4
theorem mRub_obj {S : GS} {r k m o : Nat} (h : o ≠ 179) : (mRub S r k m).1 o = S.1 o := by
  have e4 : (mR4 S r k m).1 o = S.1 o := by
    unfold mR4 mR3 mR2 mR1
    rw [stI_no h, stI_no h, stI_no h, stI_no h]
  unfold mRub
  split
  · rw [stI_no h, stI_no h, e4]
  · exact e4
theorem mOk_rub {S : GS} {r nk k m : Nat} (hm : m < 6) (hk : k < 5) (h : mOk S r nk) : mOk (mRub S r k m) r nk := by
  intro j hj
  have e : (mRub S r k m).1 179 (r + 28 + j) = S.1 179 (r + 28 + j) := mRub_far (by omega) (by omega) (by omega) (by omega) (by omega)
  unfold mK
  rw [e]
  exact h j hj
def mP1 (r : Nat) (ill : Int32) (k : Nat) (S : GS) : GS := if ¬ S.1 179 (r + 28 + k) = -4 ∧ ¬ ill >>> (nI k &&& 31) &&& nI 1 = nI 1 ∧ mC S r k (mK S r k) then mRub S r k (mK S r k) else S
theorem mP1_y {r : Nat} {ill : Int32} {k : Nat} {S : GS} (h : ¬ S.1 179 (r + 28 + k) = -4 ∧ ¬ ill >>> (nI k &&& 31) &&& nI 1 = nI 1 ∧ mC S r k (mK S r k)) : mP1 r ill k S = mRub S r k (mK S r k) := if_pos h
theorem mP1_n {r : Nat} {ill : Int32} {k : Nat} {S : GS} (h : ¬ (¬ S.1 179 (r + 28 + k) = -4 ∧ ¬ ill >>> (nI k &&& 31) &&& nI 1 = nI 1 ∧ mC S r k (mK S r k))) : mP1 r ill k S = S := if_neg h
def mPs (S : GS) (r : Nat) (ill : Int32) (nk : Nat) : GS := stI (foldN (mP1 r ill) nk 0 S) 179 (r + 2) ((foldN (mP1 r ill) nk 0 S).1 179 (r + 2) + nI 1)

set_option maxRecDepth 20000 in
theorem fl_X8_passes_7 : FL RX8 wsX8_passes 7 8 0 := ⟨RX8, TX8, 15, rfl, (fun w h => List.mem_cons_of_mem _ (List.mem_append_right _ h)), by decide, by decide +kernel⟩
theorem md_X8_has : MD yX8_has wsX8_has 2 2 (some .boolean) := ⟨_, _, rfl, by decide, by decide +kernel, by decide +kernel, by decide +kernel⟩
theorem md_X8_canRub : MD yX8_canRub wsX8_canRub 3 4 (some .boolean) := ⟨_, _, rfl, by decide, by decide +kernel, by decide +kernel, by decide +kernel⟩
theorem md_X8_rubs : MD yX8_rubs wsX8_rubs 3 7 none := ⟨_, _, rfl, by decide, by decide +kernel, by decide +kernel, by decide +kernel⟩
set_option maxHeartbeats 4000000 in
set_option maxRecDepth 100000 in
theorem lp_X8_passes {X : CX} {r nk : Nat} {ill : Int32} (hr0 : r ≤ 630) (hn : nk ≤ 5) (C : Cx X cX8_passes RX8 wsX8_passes 3) : ∀ (n : Nat) (S : GS) (i : Nat) (x4 : Option Value), i + n = nk → S.1 179 (r + 1) = nI nk → mOk S r nk → (∀ x4, Zj X (foldN (mP1 r ill) n i S) [some (.ref (ad (xY X) 178)), some (.int (nI (r))), some (.int (ill)), some (.int (nI (nk))), x4] 67 []) → Zj X S [some (.ref (ad (xY X) 178)), some (.int (nI (r))), some (.int (ill)), some (.int (nI (i))), x4] 2 [] := by
  intro n
  induction n with
  | zero =>
    intro S i x4 hi hK hS kk
    obtain rfl : i = nk := by omega
    refine z_iload3 C dX8_passes_2 ?_
    refine z_aload0 C dX8_passes_3 ?_
    refine z_get C dX8_passes_4 fl_X8_passes_7 (k_Model _) rfl ?_
    refine z_iload1 C dX8_passes_7 ?_
    refine z_iconstN 1 C dX8_passes_8 ?_
    refine z_iaddN C dX8_passes_9 ?_
    refine z_iald C dX8_passes_10 (k_i179 _) (by omega) ?_
    refine z_top C hK ?_
    refine z_icmp_geN C 67 dX8_passes_11 (by decide) (by omega) (by omega) (fun c11 => ?_) (fun c11 => ?_)
    · exact kk x4
    · exact absurd c11 (by omega)
  | succ n ih =>
    intro S i x4 hi hK hS kk
    refine z_iload3 C dX8_passes_2 ?_
    refine z_aload0 C dX8_passes_3 ?_
    refine z_get C dX8_passes_4 fl_X8_passes_7 (k_Model _) rfl ?_
    refine z_iload1 C dX8_passes_7 ?_
    refine z_iconstN 1 C dX8_passes_8 ?_
    refine z_iaddN C dX8_passes_9 ?_
    refine z_iald C dX8_passes_10 (k_i179 _) (by omega) ?_
    refine z_top C hK ?_
    refine z_icmp_geN C 67 dX8_passes_11 (by decide) (by omega) (by omega) (fun c11 => ?_) (fun c11 => ?_)
    · exact absurd c11 (by omega)
    · refine z_aload0 C dX8_passes_14 ?_
      refine z_get C dX8_passes_15 fl_X8_passes_7 (k_Model _) rfl ?_
      refine z_iload1 C dX8_passes_18 ?_
      refine z_bipush (v := nI 28) C dX8_passes_19 (by decide) ?_
      refine z_iaddN C dX8_passes_21 ?_
      refine z_iload3 C dX8_passes_22 ?_
      refine z_iaddN C dX8_passes_23 ?_
      refine z_iald C dX8_passes_24 (k_i179 _) (by omega) ?_
      refine z_istore4 C dX8_passes_25 nl_i ?_
      refine z_iload4 C dX8_passes_27 ?_
      refine z_bipush (v := (-4)) C dX8_passes_29 (by decide) ?_
      refine z_icmp_eq C 61 dX8_passes_31 (by decide) (fun c31 => ?_) (fun c31 => ?_)
      · refine z_iinc3 C dX8_passes_61 (inc1 _) nl_i ?_
        refine z_goto C 2 dX8_passes_64 (by decide) ?_
        refine ih _ (i + 1) _ (by omega) ?_ ?_ ?_
        · first | exact hK | (rw [mRub_far (by omega) (by omega) (by omega) (by omega) (by omega)]; exact hK)
        · first | exact hS | exact mOk_rub (hS i (by omega) c31).2 (by omega) hS
        · intro x4
          have k2 := kk x4
          simp only [foldN] at k2
          first | (rw [mP1_y ⟨c31, c39, c50⟩] at k2; exact k2) | (rw [mP1_n (fun h => h.1 c31)] at k2; exact k2) | (rw [mP1_n (fun h => h.2.1 c39)] at k2; exact k2) | (rw [mP1_n (fun h => c50 h.2.2)] at k2; exact k2)
      · refine z_iload2 C dX8_passes_34 ?_
        refine z_iload3 C dX8_passes_35 ?_
        refine z_callSI C dX8_passes_36 c_X8_has gX8_passes_X8_has md_X8_has (by decide) rfl rfl (Nat.le_of_ble_eq_true rfl) ?_
        refine z_if_neB C 61 dX8_passes_39 (by decide) (fun c39 => ?_) (fun c39 => ?_)
        · refine z_iinc3 C dX8_passes_61 (inc1 _) nl_i ?_
          refine z_goto C 2 dX8_passes_64 (by decide) ?_
          refine ih _ (i + 1) _ (by omega) ?_ ?_ ?_
          · first | exact hK | (rw [mRub_far (by omega) (by omega) (by omega) (by omega) (by omega)]; exact hK)
          · first | exact hS | exact mOk_rub (hS i (by omega) c31).2 (by omega) hS
          · intro x4
            have k2 := kk x4
            simp only [foldN] at k2
            first | (rw [mP1_y ⟨c31, c39, c50⟩] at k2; exact k2) | (rw [mP1_n (fun h => h.1 c31)] at k2; exact k2) | (rw [mP1_n (fun h => h.2.1 c39)] at k2; exact k2) | (rw [mP1_n (fun h => c50 h.2.2)] at k2; exact k2)
        · refine z_aload0 C dX8_passes_42 ?_
          refine z_iload1 C dX8_passes_43 ?_
          refine z_iload3 C dX8_passes_44 ?_
          refine z_iload4 C dX8_passes_45 ?_
          refine z_top C (mK_eq (hS i (by omega) c31).1) ?_
          refine z_callVI C dX8_passes_47 (c_X8_canRub hr0 (by omega) (hS i (by omega) c31).2) gX8_passes_X8_canRub md_X8_canRub rfl (by decide) (k_Model _) rfl rfl rfl (Nat.le_of_ble_eq_true rfl) ?_
          refine z_if_eqB C 61 dX8_passes_50 (by decide) (fun c50 => ?_) (fun c50 => ?_)
          · refine z_iinc3 C dX8_passes_61 (inc1 _) nl_i ?_
            refine z_goto C 2 dX8_passes_64 (by decide) ?_
            refine ih _ (i + 1) _ (by omega) ?_ ?_ ?_
            · first | exact hK | (rw [mRub_far (by omega) (by omega) (by omega) (by omega) (by omega)]; exact hK)
            · first | exact hS | exact mOk_rub (hS i (by omega) c31).2 (by omega) hS
            · intro x4
              have k2 := kk x4
              simp only [foldN] at k2
              first | (rw [mP1_y ⟨c31, c39, c50⟩] at k2; exact k2) | (rw [mP1_n (fun h => h.1 c31)] at k2; exact k2) | (rw [mP1_n (fun h => h.2.1 c39)] at k2; exact k2) | (rw [mP1_n (fun h => c50 h.2.2)] at k2; exact k2)
          · refine z_aload0 C dX8_passes_53 ?_
            refine z_iload1 C dX8_passes_54 ?_
            refine z_iload3 C dX8_passes_55 ?_
            refine z_iload4 C dX8_passes_56 ?_
            refine z_top C (mK_eq (hS i (by omega) c31).1) ?_
            refine z_callVV C dX8_passes_58 (c_X8_rubs hr0 (by omega) (hS i (by omega) c31).2) gX8_passes_X8_rubs md_X8_rubs rfl (by decide) (k_Model _) rfl rfl rfl (Nat.le_of_ble_eq_true rfl) ?_
            refine z_iinc3 C dX8_passes_61 (inc1 _) nl_i ?_
            refine z_goto C 2 dX8_passes_64 (by decide) ?_
            refine ih _ (i + 1) _ (by omega) ?_ ?_ ?_
            · first | exact hK | (rw [mRub_far (by omega) (by omega) (by omega) (by omega) (by omega)]; exact hK)
            · first | exact hS | exact mOk_rub (hS i (by omega) c31).2 (by omega) hS
            · intro x4
              have k2 := kk x4
              simp only [foldN] at k2
              first | (rw [mP1_y ⟨c31, c39, c50⟩] at k2; exact k2) | (rw [mP1_n (fun h => h.1 c31)] at k2; exact k2) | (rw [mP1_n (fun h => h.2.1 c39)] at k2; exact k2) | (rw [mP1_n (fun h => c50 h.2.2)] at k2; exact k2)

set_option maxHeartbeats 4000000 in
set_option maxRecDepth 100000 in
theorem c_X8_passes {l : Launch} {Y : LY} {S : GS} {r nk : Nat} {ill : Int32} (hr0 : r ≤ 630) (hn : nk ≤ 5) (hK : S.1 179 (r + 1) = nI nk) (hS : mOk S r nk) : CtV l yX8_passes wsX8_passes 3 Y [.ref (ad Y 178), .int (nI r), .int ill] S (mPs S r ill nk) := by
  refine mkV (cc := cX8_passes) (maxL := 5) rfl rfl (Nat.le_of_ble_eq_true rfl) ?_
  intro X hl hY C hr
  subst hl
  subst hY
  show Zj X S [some (.ref (ad (xY X) 178)), some (.int (nI r)), some (.int ill), none, none] 0 []
  refine z_iconstN 0 C dX8_passes_0 ?_
  refine z_istore3 C dX8_passes_1 nl_i ?_
  refine lp_X8_passes hr0 hn C nk S 0 none (by omega) hK hS (fun x4 => ?_)
  refine z_aload0 C dX8_passes_67 ?_
  refine z_get C dX8_passes_68 fl_X8_passes_7 (k_Model _) rfl ?_
  refine z_iload1 C dX8_passes_71 ?_
  refine z_iconstN 2 C dX8_passes_72 ?_
  refine z_iaddN C dX8_passes_73 ?_
  refine z_dup2 C dX8_passes_74 rfl rfl ?_
  refine z_iald C dX8_passes_75 (k_i179 _) (by omega) ?_
  refine z_iconstN 1 C dX8_passes_76 ?_
  refine z_iadd C dX8_passes_77 ?_
  refine z_iast C dX8_passes_78 (k_i179 _) (by omega) ?_
  exact z_vret C dX8_passes_79 hr rfl

def mM0 (S : GS) (nu : Nat) : GS := if nu = 8 then stI (mBr S 76 45 217) 179 44 (nI 7) else S
def mMi (S : GS) (nu : Nat) : GS := stI (mBr (mM0 S nu) 2 (45 + 31 * (if nu = 8 then 7 else nu)) 31) 179 44 (nI ((if nu = 8 then 7 else nu) + 1))

theorem mMi_8 {S : GS} : mMi S 8 = stI (mBr (stI (mBr S 76 45 217) 179 44 (nI 7)) 2 (45 + 31 * 7) 31) 179 44 (nI (7 + 1)) := rfl
theorem mMi_n {S : GS} {nu : Nat} (h : ¬ nu = 8) : mMi S nu = stI (mBr S 2 (45 + 31 * nu) 31) 179 44 (nI (nu + 1)) := by
  unfold mMi mM0
  rw [if_neg h, if_neg h]

set_option maxRecDepth 20000 in
theorem fl_X8_minds_7 : FL RX8 wsX8_minds 7 8 0 := ⟨RX8, TX8, 15, rfl, (fun w h => List.mem_cons_of_mem _ (List.mem_append_right _ h)), by decide, by decide +kernel⟩
theorem md_X8_bring : MD yX8_bring wsX8_bring 3 5 none := ⟨_, _, rfl, by decide, by decide +kernel, by decide +kernel, by decide +kernel⟩
set_option maxHeartbeats 4000000 in
set_option maxRecDepth 100000 in
theorem c_X8_minds {l : Launch} {Y : LY} {S : GS} {nu : Nat} (hn : nu ≤ 8) (hU : S.1 179 44 = nI nu) : CtV l yX8_minds wsX8_minds 2 Y [.ref (ad Y 178)] S (mMi S nu) := by
  refine mkV (cc := cX8_minds) (maxL := 1) rfl rfl (Nat.le_of_ble_eq_true rfl) ?_
  intro X hl hY C hr
  subst hl
  subst hY
  show Zj X S [some (.ref (ad (xY X) 178))] 0 []
  refine z_aload0 C dX8_minds_0 ?_
  refine z_get C dX8_minds_1 fl_X8_minds_7 (k_Model _) rfl ?_
  refine z_bipush (v := nI 44) C dX8_minds_4 (by decide) ?_
  refine z_iald C dX8_minds_6 (k_i179 _) (by omega) ?_
  refine z_top C hU ?_
  refine z_bipush (v := nI 8) C dX8_minds_7 (by decide) ?_
  refine z_icmp_neN C 34 dX8_minds_9 (by decide) (by omega) (by omega) (fun c9 => ?_) (fun c9 => ?_)
  · refine z_aload0 C dX8_minds_34 ?_
    refine z_iconstN 2 C dX8_minds_35 ?_
    refine z_bipush (v := nI 45) C dX8_minds_36 (by decide) ?_
    refine z_bipush (v := nI 31) C dX8_minds_38 (by decide) ?_
    refine z_aload0 C dX8_minds_40 ?_
    refine z_get C dX8_minds_41 fl_X8_minds_7 (k_Model _) rfl ?_
    refine z_bipush (v := nI 44) C dX8_minds_44 (by decide) ?_
    refine z_iald C dX8_minds_46 (k_i179 _) (by omega) ?_
    first | refine z_top C (stI_me _ _ _ _) ?_ | refine z_top C hU ?_
    refine z_imulN C dX8_minds_47 ?_
    refine z_iaddN C dX8_minds_48 ?_
    refine z_bipush (v := nI 31) C dX8_minds_49 (by decide) ?_
    refine z_callVV C dX8_minds_51 (c_X8_bring (by omega) (by omega)) gX8_minds_X8_bring md_X8_bring rfl (by decide) (k_Model _) rfl rfl rfl (Nat.le_of_ble_eq_true rfl) ?_
    refine z_aload0 C dX8_minds_54 ?_
    refine z_get C dX8_minds_55 fl_X8_minds_7 (k_Model _) rfl ?_
    refine z_bipush (v := nI 44) C dX8_minds_58 (by decide) ?_
    refine z_dup2 C dX8_minds_60 rfl rfl ?_
    refine z_iald C dX8_minds_61 (k_i179 _) (by omega) ?_
    first | refine z_top C (show _ = nI 7 by rw [mBr_far (by omega), stI_me]) ?_ | refine z_top C (show _ = nI nu by rw [mBr_far (by omega)]; exact hU) ?_
    refine z_iconstN 1 C dX8_minds_62 ?_
    refine z_iaddN C dX8_minds_63 ?_
    refine z_iast C dX8_minds_64 (k_i179 _) (by omega) ?_
    exact z_vret C dX8_minds_65 hr (by first | (rw [mMi_n c9]) | (subst c9; exact mMi_8.symm))
  · refine z_aload0 C dX8_minds_12 ?_
    refine z_bipush (v := nI 76) C dX8_minds_13 (by decide) ?_
    refine z_bipush (v := nI 45) C dX8_minds_15 (by decide) ?_
    refine z_sipush (v := nI 217) C dX8_minds_17 (by decide) ?_
    refine z_callVV C dX8_minds_20 (c_X8_bring (by omega) (by omega)) gX8_minds_X8_bring md_X8_bring rfl (by decide) (k_Model _) rfl rfl rfl (Nat.le_of_ble_eq_true rfl) ?_
    refine z_aload0 C dX8_minds_23 ?_
    refine z_get C dX8_minds_24 fl_X8_minds_7 (k_Model _) rfl ?_
    refine z_bipush (v := nI 44) C dX8_minds_27 (by decide) ?_
    refine z_dup2 C dX8_minds_29 rfl rfl ?_
    refine z_iald C dX8_minds_30 (k_i179 _) (by omega) ?_
    refine z_top C (show _ = nI 8 by rw [mBr_far (by omega), hU, c9]) ?_
    refine z_iconstN 1 C dX8_minds_31 ?_
    refine z_isubN C dX8_minds_32 (by omega) ?_
    refine z_iast C dX8_minds_33 (k_i179 _) (by omega) ?_
    refine z_aload0 C dX8_minds_34 ?_
    refine z_iconstN 2 C dX8_minds_35 ?_
    refine z_bipush (v := nI 45) C dX8_minds_36 (by decide) ?_
    refine z_bipush (v := nI 31) C dX8_minds_38 (by decide) ?_
    refine z_aload0 C dX8_minds_40 ?_
    refine z_get C dX8_minds_41 fl_X8_minds_7 (k_Model _) rfl ?_
    refine z_bipush (v := nI 44) C dX8_minds_44 (by decide) ?_
    refine z_iald C dX8_minds_46 (k_i179 _) (by omega) ?_
    first | refine z_top C (stI_me _ _ _ _) ?_ | refine z_top C hU ?_
    refine z_imulN C dX8_minds_47 ?_
    refine z_iaddN C dX8_minds_48 ?_
    refine z_bipush (v := nI 31) C dX8_minds_49 (by decide) ?_
    refine z_callVV C dX8_minds_51 (c_X8_bring (by omega) (by omega)) gX8_minds_X8_bring md_X8_bring rfl (by decide) (k_Model _) rfl rfl rfl (Nat.le_of_ble_eq_true rfl) ?_
    refine z_aload0 C dX8_minds_54 ?_
    refine z_get C dX8_minds_55 fl_X8_minds_7 (k_Model _) rfl ?_
    refine z_bipush (v := nI 44) C dX8_minds_58 (by decide) ?_
    refine z_dup2 C dX8_minds_60 rfl rfl ?_
    refine z_iald C dX8_minds_61 (k_i179 _) (by omega) ?_
    first | refine z_top C (show _ = nI 7 by rw [mBr_far (by omega), stI_me]) ?_ | refine z_top C (show _ = nI nu by rw [mBr_far (by omega)]; exact hU) ?_
    refine z_iconstN 1 C dX8_minds_62 ?_
    refine z_iaddN C dX8_minds_63 ?_
    refine z_iast C dX8_minds_64 (k_i179 _) (by omega) ?_
    exact z_vret C dX8_minds_65 hr (by first | (rw [mMi_n c9]) | (subst c9; exact mMi_8.symm))
