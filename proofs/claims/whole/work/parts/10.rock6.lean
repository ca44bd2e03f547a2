/-- whom monk k is sent to -/
def sK (S : GS) (b k : Nat) : Nat := (S.1 (b + 7) k).toNatClampNeg
def sOk (S : GS) (b nk : Nat) : Prop := ∀ k, k < nk → ¬ S.1 (b + 7) k < 0 → sK S b k < 6
theorem sK_eq {S : GS} {b k : Nat} (h : ¬ S.1 (b + 7) k < 0) : S.1 (b + 7) k = nI (sK S b k) := by
  obtain ⟨j, hj, e⟩ := nI_of h
  unfold sK
  rw [e, nI_clamp hj]
theorem cRub_far {S : GS} {b k m o : Nat} (h0 : o ≠ b) (h1 : o ≠ b + 1) (h3 : o ≠ b + 3) (h4 : o ≠ b + 4) (h6 : o ≠ b + 6) : (cRub S b k m).1 o = S.1 o := by
  have e4 : (cR4 S b k m).1 o = S.1 o := by
    unfold cR4 cR3 cR2 cR1
    rw [stI_no h0, stI_no h4, stI_no h6, stI_no h1]
  unfold cRub
  split
  · rw [stI_no h3, stI_no h1, e4]
  · exact e4
theorem cRub_hd {S : GS} {b k m i : Nat} (hi : i ≠ 3) : (cRub S b k m).1 b i = S.1 b i := by
  have e4 : (cR4 S b k m).1 b i = S.1 b i := by
    unfold cR4 cR3 cR2 cR1
    rw [stI_ni hi, stI_no (by omega), stI_no (by omega), stI_no (by omega)]
  unfold cRub
  split
  · rw [stI_no (by omega), stI_no (by omega), e4]
  · exact e4
theorem cRub_sent {S : GS} {b k m : Nat} : (cRub S b k m).1 (b + 7) = S.1 (b + 7) := cRub_far (by omega) (by omega) (by omega) (by omega) (by omega)
abbrev wellP (ill : Int32) (k : Nat) : Prop := ill >>> (nI k &&& 31) &&& nI 1 = 0
def cP1 (b : Nat) (ill : Int32) (k : Nat) (S : GS) : GS := if wellP ill k ∧ ¬ S.1 (b + 7) k < 0 ∧ rC S b k (sK S b k) then cRub S b k (sK S b k) else S
theorem cP1_y {b : Nat} {ill : Int32} {k : Nat} {S : GS} (h : wellP ill k ∧ ¬ S.1 (b + 7) k < 0 ∧ rC S b k (sK S b k)) : cP1 b ill k S = cRub S b k (sK S b k) := if_pos h
theorem cP1_n {b : Nat} {ill : Int32} {k : Nat} {S : GS} (h : ¬ (wellP ill k ∧ ¬ S.1 (b + 7) k < 0 ∧ rC S b k (sK S b k))) : cP1 b ill k S = S := if_neg h
theorem cP1_hd {b : Nat} {ill : Int32} {k : Nat} {S : GS} {i : Nat} (hi : i ≠ 3) : (cP1 b ill k S).1 b i = S.1 b i := by
  unfold cP1
  split
  · exact cRub_hd hi
  · rfl
theorem cP1_sent {b : Nat} {ill : Int32} {k : Nat} {S : GS} : (cP1 b ill k S).1 (b + 7) = S.1 (b + 7) := by
  unfold cP1
  split
  · exact cRub_sent
  · rfl
theorem cP1_ok {b : Nat} {ill : Int32} {k nk : Nat} {S : GS} (h : sOk S b nk) : sOk (cP1 b ill k S) b nk := by
  intro j hj
  unfold sK
  rw [cP1_sent]
  exact h j hj
def cPD (S : GS) (b : Nat) (ill : Int32) (nk : Nat) : GS := stI (foldN (cP1 b ill) nk 0 S) b 2 ((foldN (cP1 b ill) nk 0 S).1 b 2 + nI 1)

set_option maxRecDepth 20000 in
theorem fl_X2_passDay_40 : FL RX2 wsX2_passDay 40 2 1 := ⟨RX2, TX2, 12, rfl, (fun w h => List.mem_cons_of_mem _ (List.mem_append_right _ h)), by decide, by decide +kernel⟩
set_option maxRecDepth 20000 in
theorem fl_X2_passDay_34 : FL RX2 wsX2_passDay 34 2 11 := ⟨RX2, TX2, 12, rfl, (fun w h => List.mem_cons_of_mem _ (List.mem_append_right _ h)), by decide, by decide +kernel⟩
set_option maxHeartbeats 4000000 in
set_option maxRecDepth 100000 in
theorem lp_X2_passDay {X : CX} {b nk : Nat} {ill : Int32} (hb : isR b) (hn : nk ≤ 5) (C : Cx X cX2_passDay RX2 wsX2_passDay 4) : ∀ (n : Nat) (S : GS) (i : Nat) (x3 : Option Value), i + n = nk → S.1 b 1 = nI nk → sOk S b nk → (∀ x3, Zj X (foldN (cP1 b ill) n i S) [some (.ref (ad (xY X) b)), some (.int (ill)), some (.int (nI (nk))), x3] 68 []) → Zj X S [some (.ref (ad (xY X) b)), some (.int (ill)), some (.int (nI (i))), x3] 2 [] := by
  intro n
  induction n with
  | zero =>
    intro S i x3 hi hK hS kk
    obtain rfl : i = nk := by omega
    refine z_iload2 C dX2_passDay_2 ?_
    refine z_aload0 C dX2_passDay_3 ?_
    refine z_get C dX2_passDay_4 fl_X2_passDay_40 (k_Rock _ hb) rfl ?_
    refine z_top C hK ?_
    refine z_icmp_geN C 68 dX2_passDay_7 (by decide) (by omega) (by omega) (fun c7 => ?_) (fun c7 => ?_)
    · exact kk x3
    · exact absurd c7 (by omega)
  | succ n ih =>
    intro S i x3 hi hK hS kk
    refine z_iload2 C dX2_passDay_2 ?_
    refine z_aload0 C dX2_passDay_3 ?_
    refine z_get C dX2_passDay_4 fl_X2_passDay_40 (k_Rock _ hb) rfl ?_
    refine z_top C hK ?_
    refine z_icmp_geN C 68 dX2_passDay_7 (by decide) (by omega) (by omega) (fun c7 => ?_) (fun c7 => ?_)
    · exact absurd c7 (by omega)
    · refine z_iload1 C dX2_passDay_10 ?_
      refine z_iload2 C dX2_passDay_11 ?_
      refine z_ishr C dX2_passDay_12 ?_
      refine z_iconstN 1 C dX2_passDay_13 ?_
      refine z_iand C dX2_passDay_14 ?_
      refine z_if_ne C 22 dX2_passDay_15 (by decide) (fun c15 => ?_) (fun c15 => ?_)
      · refine z_iconstN 0 C dX2_passDay_22 ?_
        refine z_istore3 C dX2_passDay_23 nl_i ?_
        refine z_iload3 C dX2_passDay_24 ?_
        refine z_if_eqT C 62 dX2_passDay_25 (by decide) (by decide) ?_
        refine z_iinc2 C dX2_passDay_62 (inc1 _) nl_i ?_
        refine z_goto C 2 dX2_passDay_65 (by decide) ?_
        refine ih _ (i + 1) _ (by omega) ?_ ?_ ?_
        · first | exact hK | (rw [cRub_hd (by decide)]; exact hK)
        · first | exact hS | (intro j hj; unfold sK; rw [cRub_sent]; exact hS j hj)
        · intro x3
          have k2 := kk x3
          simp only [foldN] at k2
          first | (rw [cP1_y ⟨c15, c34, c48⟩] at k2; exact k2) | (rw [cP1_n (fun h => c15 h.1)] at k2; exact k2) | (rw [cP1_n (fun h => h.2.1 c34)] at k2; exact k2) | (rw [cP1_n (fun h => c48 h.2.2)] at k2; exact k2)
      · refine z_iconstN 1 C dX2_passDay_18 ?_
        refine z_goto C 23 dX2_passDay_19 (by decide) ?_
        refine z_istore3 C dX2_passDay_23 nl_i ?_
        refine z_iload3 C dX2_passDay_24 ?_
        refine z_if_eqF C 62 dX2_passDay_25 (by decide) (by decide) ?_
        refine z_aload0 C dX2_passDay_28 ?_
        refine z_get C dX2_passDay_29 fl_X2_passDay_34 (k_Rock _ hb) rfl ?_
        refine z_iload2 C dX2_passDay_32 ?_
        refine z_iald C dX2_passDay_33 (k_sent _ hb) (by omega) ?_
        refine z_if_lt C 62 dX2_passDay_34 (by decide) (fun c34 => ?_) (fun c34 => ?_)
        · refine z_iinc2 C dX2_passDay_62 (inc1 _) nl_i ?_
          refine z_goto C 2 dX2_passDay_65 (by decide) ?_
          refine ih _ (i + 1) _ (by omega) ?_ ?_ ?_
          · first | exact hK | (rw [cRub_hd (by decide)]; exact hK)
          · first | exact hS | (intro j hj; unfold sK; rw [cRub_sent]; exact hS j hj)
          · intro x3
            have k2 := kk x3
            simp only [foldN] at k2
            first | (rw [cP1_y ⟨c15, c34, c48⟩] at k2; exact k2) | (rw [cP1_n (fun h => c15 h.1)] at k2; exact k2) | (rw [cP1_n (fun h => h.2.1 c34)] at k2; exact k2) | (rw [cP1_n (fun h => c48 h.2.2)] at k2; exact k2)
        · refine z_aload0 C dX2_passDay_37 ?_
          refine z_iload2 C dX2_passDay_38 ?_
          refine z_aload0 C dX2_passDay_39 ?_
          refine z_get C dX2_passDay_40 fl_X2_passDay_34 (k_Rock _ hb) rfl ?_
          refine z_iload2 C dX2_passDay_43 ?_
          refine z_iald C dX2_passDay_44 (k_sent _ hb) (by omega) ?_
          refine z_top C (sK_eq c34) ?_
          refine z_callVI C dX2_passDay_45 (c_X2_canRub hb (by omega) (hS i (by omega) c34)) gX2_passDay_X2_canRub md_X2_canRub rfl (by decide) (k_Rock _ hb) rfl rfl rfl (Nat.le_of_ble_eq_true rfl) ?_
          refine z_if_eqB C 62 dX2_passDay_48 (by decide) (fun c48 => ?_) (fun c48 => ?_)
          · refine z_iinc2 C dX2_passDay_62 (inc1 _) nl_i ?_
            refine z_goto C 2 dX2_passDay_65 (by decide) ?_
            refine ih _ (i + 1) _ (by omega) ?_ ?_ ?_
            · first | exact hK | (rw [cRub_hd (by decide)]; exact hK)
            · first | exact hS | (intro j hj; unfold sK; rw [cRub_sent]; exact hS j hj)
            · intro x3
              have k2 := kk x3
              simp only [foldN] at k2
              first | (rw [cP1_y ⟨c15, c34, c48⟩] at k2; exact k2) | (rw [cP1_n (fun h => c15 h.1)] at k2; exact k2) | (rw [cP1_n (fun h => h.2.1 c34)] at k2; exact k2) | (rw [cP1_n (fun h => c48 h.2.2)] at k2; exact k2)
          · refine z_aload0 C dX2_passDay_51 ?_
            refine z_iload2 C dX2_passDay_52 ?_
            refine z_aload0 C dX2_passDay_53 ?_
            refine z_get C dX2_passDay_54 fl_X2_passDay_34 (k_Rock _ hb) rfl ?_
            refine z_iload2 C dX2_passDay_57 ?_
            refine z_iald C dX2_passDay_58 (k_sent _ hb) (by omega) ?_
            refine z_top C (sK_eq c34) ?_
            refine z_callVV C dX2_passDay_59 (c_X2_rubOnce hb (by omega) (hS i (by omega) c34)) gX2_passDay_X2_rubOnce md_X2_rubOnce rfl (by decide) (k_Rock _ hb) rfl rfl rfl (Nat.le_of_ble_eq_true rfl) ?_
            refine z_iinc2 C dX2_passDay_62 (inc1 _) nl_i ?_
            refine z_goto C 2 dX2_passDay_65 (by decide) ?_
            refine ih _ (i + 1) _ (by omega) ?_ ?_ ?_
            · first | exact hK | (rw [cRub_hd (by decide)]; exact hK)
            · first | exact hS | (intro j hj; unfold sK; rw [cRub_sent]; exact hS j hj)
            · intro x3
              have k2 := kk x3
              simp only [foldN] at k2
              first | (rw [cP1_y ⟨c15, c34, c48⟩] at k2; exact k2) | (rw [cP1_n (fun h => c15 h.1)] at k2; exact k2) | (rw [cP1_n (fun h => h.2.1 c34)] at k2; exact k2) | (rw [cP1_n (fun h => c48 h.2.2)] at k2; exact k2)

set_option maxRecDepth 20000 in
theorem fl_X2_passDay_43 : FL RX2 wsX2_passDay 43 2 2 := ⟨RX2, TX2, 12, rfl, (fun w h => List.mem_cons_of_mem _ (List.mem_append_right _ h)), by decide, by decide +kernel⟩
theorem fp_X2_passDay_43 : FP RX2 wsX2_passDay 43 2 2 .int := ⟨fl_X2_passDay_43, RX2, TX2, 12, tyX2, rfl, tyX2_ok, nmX2, rfl, by decide +kernel⟩
set_option maxHeartbeats 4000000 in
set_option maxRecDepth 100000 in
theorem c_X2_passDay {l : Launch} {Y : LY} {S : GS} {b nk : Nat} {ill : Int32} (hb : isR b) (hn : nk ≤ 5) (hK : S.1 b 1 = nI nk) (hS : sOk S b nk) : CtV l yX2_passDay wsX2_passDay 4 Y [.ref (ad Y b), .int ill] S (cPD S b ill nk) := by
  refine mkV (cc := cX2_passDay) (maxL := 4) rfl rfl (Nat.le_of_ble_eq_true rfl) ?_
  intro X hl hY C hr
  subst hl
  subst hY
  show Zj X S [some (.ref (ad (xY X) b)), some (.int ill), none, none] 0 []
  refine z_iconstN 0 C dX2_passDay_0 ?_
  refine z_istore2 C dX2_passDay_1 nl_i ?_
  refine lp_X2_passDay hb hn C nk S 0 none (by omega) hK hS (fun x3 => ?_)
  refine z_aload0 C dX2_passDay_68 ?_
  refine z_dup C dX2_passDay_69 rfl ?_
  refine z_get C dX2_passDay_70 fl_X2_passDay_43 (k_Rock _ hb) rfl ?_
  refine z_iconstN 1 C dX2_passDay_73 ?_
  refine z_iadd C dX2_passDay_74 ?_
  refine z_put C dX2_passDay_75 fp_X2_passDay_43 (k_Rock _ hb) rfl rfl (Nat.le_of_ble_eq_true rfl) rfl ?_
  exact z_vret C dX2_passDay_78 hr rfl
