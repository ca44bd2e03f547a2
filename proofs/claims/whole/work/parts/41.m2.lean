theorem inR_m' {x : Int32} {n : Nat} (hn : n < 1000) : (nI 0 ≤ x ∧ x ≤ nI n - nI 1) ↔ inR x n := by
  rw [nI0]
  exact inR_m hn
theorem c_X8_isMark2 {l : Launch} {Y : LY} {S : GS} {nm : Nat} {x : Int32} (hn : nm ≤ 6) (hM : S.1 179 0 = nI nm) : CtI l yX8_isMark wsX8_isMark 2 Y [.ref (ad Y 178), .int x] S (bi (inR x nm)) S := by
  have := c_X8_isMark (l := l) (Y := Y) (x := x) hM
  rwa [bi_congr (inR_m' (show nm < 1000 by omega))] at this
theorem c_X8_isMonk2 {l : Launch} {Y : LY} {S : GS} {nk : Nat} {x : Int32} (hn : nk ≤ 5) (hK : S.1 179 1 = nI nk) : CtI l yX8_isMonk wsX8_isMonk 2 Y [.ref (ad Y 178), .int x] S (bi (inR x nk)) S := by
  have := c_X8_isMonk (l := l) (Y := Y) (x := x) hK
  rwa [bi_congr (inR_m' (show nk < 1000 by omega))] at this
def mTr (S : GS) : GS := mBr S 0 586 44
def mGo (S : GS) (n nk : Nat) : GS := foldN (fun _ T => mPs T 586 (nI 0) nk) n 0 S
/-- nothing has changed but what the model tries on -/
def FrM (S T : GS) : Prop := (∀ o, o ≠ 179 → ¬ (184 ≤ o ∧ o ≤ 188) → T.1 o = S.1 o) ∧ (∀ i, i < 586 → T.1 179 i = S.1 179 i) ∧ (∀ o, o ≠ 189 → T.2 o = S.2 o)
theorem FrM.rf {S : GS} : FrM S S := ⟨fun _ _ _ => rfl, fun _ _ => rfl, fun _ _ => rfl⟩
theorem FrM.tr {S T U : GS} (h : FrM S T) (h2 : FrM T U) : FrM S U := ⟨fun o a b => (h2.1 o a b).trans (h.1 o a b), fun i a => (h2.2.1 i a).trans (h.2.1 i a), fun o a => (h2.2.2 o a).trans (h.2.2 o a)⟩
theorem FrM.of {S T : GS} (h : Fr om S T) (h2 : ∀ i, i < 586 → T.1 179 i = S.1 179 i) : FrM S T := ⟨fun o a _ => h.1 o a, h2, fun o _ => by rw [h.2]⟩
theorem mTr_fr {S : GS} : FrM S (mTr S) := FrM.of mBr_fr (fun i hi => mBr_far (Or.inl hi))
theorem HW_tr {S : GS} {V : VR} (h : HW (S.1 179) 0 V) (ho : Ok V) : HW ((mTr S).1 179) 586 V := HW_bring (Or.inl (by decide)) h ho
theorem HW_low {S T : GS} {V : VR} (h : HW (S.1 179) 0 V) (ho : Ok V) (f : FrM S T) : HW (T.1 179) 0 V := HW_of h ho (fun i _ h2 => f.2.1 i (by omega))
theorem HW_days : ∀ (n i : Nat) (T : GS) (U : VR), HW (T.1 179) 586 U → Ok U → HW ((foldN (fun _ T => mPs T 586 (nI 0) (U 0 1)) n i T).1 179) 586 (foldN (fun _ U => vPD U (nI 0)) n i U) ∧ Ok (foldN (fun _ U => vPD U (nI 0)) n i U) ∧ FrM T (foldN (fun _ T => mPs T 586 (nI 0) (U 0 1)) n i T) := by
  intro n
  induction n with
  | zero => intro i T U h ho; exact ⟨h, ho, FrM.rf⟩
  | succ n ih =>
    intro i T U h ho
    have h1 := HW_PS (ill := nI 0) h ho
    have h2 : Ok (vPD U (nI 0)) := Ok_day (HW_fold (U 0 1) 0 T U h ho (by omega)).2
    obtain ⟨a1, a2, a3⟩ := ih (i + 1) _ _ h1 h2
    rw [vPD_hd (by decide) (by decide)] at a1 a3
    exact ⟨a1, a2, (FrM.of mPs_fr (fun i hi => mPs_far (HW_mOk h ho) ho.2.1 (by omega))).tr a3⟩
theorem HW_Go {S : GS} {V : VR} (h : HW (S.1 179) 0 V) (ho : Ok V) (n : Nat) : HW ((mGo (mTr S) n (V 0 1)).1 179) 586 (vDays V n) ∧ Ok (vDays V n) ∧ FrM S (mGo (mTr S) n (V 0 1)) := by
  obtain ⟨a1, a2, a3⟩ := HW_days n 0 (mTr S) V (HW_tr h ho) ho
  exact ⟨a1, a2, mTr_fr.tr a3⟩
theorem vDays_hd {V : VR} (n : Nat) {j : Nat} (hj : j ≠ 2) (h3 : j ≠ 3) : vDays V n 0 j = V 0 j := by
  have : ∀ (n i : Nat) (U : VR), foldN (fun _ U => vPD U (nI 0)) n i U 0 j = U 0 j := by
    intro n
    induction n with
    | zero => intro i U; rfl
    | succ n ih => intro i U; exact (ih (i + 1) _).trans (vPD_hd hj h3)
  exact this n 0 V

set_option maxHeartbeats 4000000 in
set_option maxRecDepth 100000 in
theorem c_X8_tries {l : Launch} {Y : LY} {S : GS}  : CtV l yX8_tries wsX8_tries 2 Y [.ref (ad Y 178)] S (mTr S) := by
  refine mkV (cc := cX8_tries) (maxL := 1) rfl rfl (Nat.le_of_ble_eq_true rfl) ?_
  intro X hl hY C hr
  subst hl
  subst hY
  show Zj X S [some (.ref (ad (xY X) 178))] 0 []
  refine z_aload0 C dX8_tries_0 ?_
  refine z_iconstN 0 C dX8_tries_1 ?_
  refine z_sipush (v := nI 586) C dX8_tries_2 (by decide) ?_
  refine z_bipush (v := nI 44) C dX8_tries_5 (by decide) ?_
  refine z_callVV C dX8_tries_7 (c_X8_bring (by omega) (by omega)) gX8_tries_X8_bring md_X8_bring rfl (by decide) (k_Model _) rfl rfl rfl (Nat.le_of_ble_eq_true rfl) ?_
  exact z_vret C dX8_tries_10 hr rfl

theorem md_X8_passes : MD yX8_passes wsX8_passes 2 5 none := ⟨_, _, rfl, by decide, by decide +kernel, by decide +kernel, by decide +kernel⟩
set_option maxHeartbeats 4000000 in
set_option maxRecDepth 100000 in
theorem lp_X8_goesOn {X : CX} {N nk : Nat} (hN : N ≤ 60) (C : Cx X cX8_goesOn RX8 wsX8_goesOn 4) : ∀ (n : Nat) (i : Nat) (T : GS) (U : VR), i + n = N → HW (T.1 179) 586 U → Ok U → U 0 1 = nk → Zj X (foldN (fun _ T => mPs T 586 (nI 0) nk) n i T) [some (.ref (ad (xY X) 178)), some (.int (nI (N))), some (.int (nI (N)))] 21 [] → Zj X T [some (.ref (ad (xY X) 178)), some (.int (nI (N))), some (.int (nI (i)))] 2 [] := by
  intro n
  induction n with
  | zero =>
    intro i T U hi h ho hk kk
    obtain rfl : i = N := by omega
    refine z_iload2 C dX8_goesOn_2 ?_
    refine z_iload1 C dX8_goesOn_3 ?_
    refine z_icmp_geN C 21 dX8_goesOn_4 (by decide) (by omega) (by omega) (fun c4 => ?_) (fun c4 => ?_)
    · exact kk
    · exact absurd c4 (by omega)
  | succ n ih =>
    intro i T U hi h ho hk kk
    subst hk
    refine z_iload2 C dX8_goesOn_2 ?_
    refine z_iload1 C dX8_goesOn_3 ?_
    refine z_icmp_geN C 21 dX8_goesOn_4 (by decide) (by omega) (by omega) (fun c4 => ?_) (fun c4 => ?_)
    · exact absurd c4 (by omega)
    · refine z_aload0 C dX8_goesOn_7 ?_
      refine z_sipush (v := nI 586) C dX8_goesOn_8 (by decide) ?_
      refine z_iconstN 0 C dX8_goesOn_11 ?_
      refine z_callVV C dX8_goesOn_12 (c_X8_passes (by decide) ho.2.1 h.1.2.1 (HW_mOk h ho)) gX8_goesOn_X8_passes md_X8_passes rfl (by decide) (k_Model _) rfl rfl rfl (Nat.le_of_ble_eq_true rfl) ?_
      refine z_iinc2 C dX8_goesOn_15 (inc1 _) nl_i ?_
      refine z_goto C 2 dX8_goesOn_18 (by decide) ?_
      exact ih (i + 1) _ _ (by omega) (HW_PS h ho) (Ok_day (HW_fold (U 0 1) 0 T U h ho (by omega)).2) (vPD_hd (by decide) (by decide)) kk

set_option maxHeartbeats 4000000 in
set_option maxRecDepth 100000 in
theorem c_X8_goesOn {l : Launch} {Y : LY} {S : GS} {V : VR} {n : Nat} (h : HW (S.1 179) 586 V) (ho : Ok V) (hn : n ≤ 60) : CtV l yX8_goesOn wsX8_goesOn 4 Y [.ref (ad Y 178), .int (nI n)] S (mGo S n (V 0 1)) := by
  refine mkV (cc := cX8_goesOn) (maxL := 3) rfl rfl (Nat.le_of_ble_eq_true rfl) ?_
  intro X hl hY C hr
  subst hl
  subst hY
  show Zj X S [some (.ref (ad (xY X) 178)), some (.int (nI n)), none] 0 []
  refine z_iconstN 0 C dX8_goesOn_0 ?_
  refine z_istore2 C dX8_goesOn_1 nl_i ?_
  refine lp_X8_goesOn hn C n 0 _ V (by omega) h ho rfl ?_
  exact z_vret C dX8_goesOn_21 hr rfl

theorem md_X8_isMark : MD yX8_isMark wsX8_isMark 1 2 (some .boolean) := ⟨_, _, rfl, by decide, by decide +kernel, by decide +kernel, by decide +kernel⟩
theorem kl_X8_dark_48 : Cond.constantLong RX8 48 (60) ∈ wsX8_dark := by decide +kernel
theorem md_X8_tries : MD yX8_tries wsX8_tries 0 1 none := ⟨_, _, rfl, by decide, by decide +kernel, by decide +kernel, by decide +kernel⟩
theorem md_X8_goesOn : MD yX8_goesOn wsX8_goesOn 1 3 none := ⟨_, _, rfl, by decide, by decide +kernel, by decide +kernel, by decide +kernel⟩
set_option maxRecDepth 20000 in
theorem fl_X8_dark_7 : FL RX8 wsX8_dark 7 8 0 := ⟨RX8, TX8, 15, rfl, (fun w h => List.mem_cons_of_mem _ (List.mem_append_right _ h)), by decide, by decide +kernel⟩
set_option maxHeartbeats 4000000 in
set_option maxRecDepth 100000 in
theorem c_X8_dark {l : Launch} {Y : LY} {S : GS} {V : VR} (h : HW (S.1 179) 0 V) (ho : Ok V) {x y : Int32} : CtP l yX8_dark wsX8_dark 5 Y [.ref (ad Y 178), .int x, .int y] S (fun r u => r = aDark V x y ∧ FrM S u) := by
  refine mkP (cc := cX8_dark) (maxL := 3) rfl rfl (Nat.le_of_ble_eq_true rfl) ?_
  intro X hl hY C hr
  subst hl
  subst hY
  have hM : S.1 179 0 = nI (V 0 0) := h.1.1
  have hK : S.1 179 1 = nI (V 0 1) := h.1.2.1
  have o1 := ho.1
  have o2 := ho.2.1
  show Zj X S [some (.ref (ad (xY X) 178)), some (.int x), some (.int y)] 0 []
  refine z_aload0 C dX8_dark_0 ?_
  refine z_iload1 C dX8_dark_1 ?_
  refine z_callVI C dX8_dark_2 (c_X8_isMark2 ho.1 hM) gX8_dark_X8_isMark md_X8_isMark rfl (by decide) (k_Model _) rfl rfl rfl (Nat.le_of_ble_eq_true rfl) ?_
  refine z_if_eqB C 20 dX8_dark_5 (by decide) (fun c5 => ?_) (fun c5 => ?_)
  · refine z_iconst (v := (-1)) C dX8_dark_20 (by decide) ?_
    exact z_iretP C dX8_dark_21 hr rfl ⟨by rw [aDark_n (by rintro ⟨h1, h2⟩; contradiction)], FrM.rf⟩
  · refine z_iload2 C dX8_dark_8 ?_
    refine z_i2l C dX8_dark_9 ?_
    refine z_lconst (v := 0) C dX8_dark_10 rfl ?_
    refine z_topl (y := (nI 0).toInt64) C (by decide) ?_
    refine z_ldc2 (v := 60) C dX8_dark_11 kl_X8_dark_48 ?_
    refine z_topl (y := (nI 60).toInt64) C (by decide) ?_
    refine z_callSI C dX8_dark_14 c_X8_in gX8_dark_X8_in md_X8_in (by decide) rfl rfl (Nat.le_of_ble_eq_true rfl) ?_
    refine z_if_neB C 22 dX8_dark_17 (by decide) (fun c17 => ?_) (fun c17 => ?_)
    · obtain ⟨m, hm, rfl⟩ := inR_of (by omega) c5
      obtain ⟨n, -, hn, rfl⟩ := inB_of (by decide) c17 (by decide)
      obtain ⟨q1, q2, q3⟩ := HW_Go h ho n
      refine z_aload0 C dX8_dark_22 ?_
      refine z_callVV C dX8_dark_23 c_X8_tries gX8_dark_X8_tries md_X8_tries rfl (by decide) (k_Model _) rfl rfl rfl (Nat.le_of_ble_eq_true rfl) ?_
      refine z_aload0 C dX8_dark_26 ?_
      refine z_iload2 C dX8_dark_27 ?_
      refine z_callVV C dX8_dark_28 (c_X8_goesOn (HW_tr h ho) ho (by omega)) gX8_dark_X8_goesOn md_X8_goesOn rfl (by decide) (k_Model _) rfl rfl rfl (Nat.le_of_ble_eq_true rfl) ?_
      refine z_aload0 C dX8_dark_31 ?_
      refine z_get C dX8_dark_32 fl_X8_dark_7 (k_Model _) rfl ?_
      refine z_sipush (v := nI 591) C dX8_dark_35 (by decide) ?_
      refine z_iload1 C dX8_dark_38 ?_
      refine z_iaddN C dX8_dark_39 ?_
      refine z_iald C dX8_dark_40 (k_i179 _) (by omega) ?_
      exact z_iretP C dX8_dark_41 hr rfl ⟨by rw [aDark_y hm (by omega) hn]; exact (q1.2.1 m (by rw [vDays_hd n (by decide) (by decide)]; exact hm)).1, q3⟩
    · refine z_iconst (v := (-1)) C dX8_dark_20 (by decide) ?_
      exact z_iretP C dX8_dark_21 hr rfl ⟨by rw [aDark_n (by rintro ⟨h1, h2⟩; contradiction)], FrM.rf⟩

theorem md_X8_isMonk : MD yX8_isMonk wsX8_isMonk 1 2 (some .boolean) := ⟨_, _, rfl, by decide, by decide +kernel, by decide +kernel, by decide +kernel⟩
theorem kl_X8_size_48 : Cond.constantLong RX8 48 (60) ∈ wsX8_size := by decide +kernel
set_option maxRecDepth 20000 in
theorem fl_X8_size_7 : FL RX8 wsX8_size 7 8 0 := ⟨RX8, TX8, 15, rfl, (fun w h => List.mem_cons_of_mem _ (List.mem_append_right _ h)), by decide, by decide +kernel⟩
set_option maxHeartbeats 4000000 in
set_option maxRecDepth 100000 in
theorem c_X8_size {l : Launch} {Y : LY} {S : GS} {V : VR} (h : HW (S.1 179) 0 V) (ho : Ok V) {x y : Int32} : CtP l yX8_size wsX8_size 5 Y [.ref (ad Y 178), .int x, .int y] S (fun r u => r = aSize V x y ∧ FrM S u) := by
  refine mkP (cc := cX8_size) (maxL := 3) rfl rfl (Nat.le_of_ble_eq_true rfl) ?_
  intro X hl hY C hr
  subst hl
  subst hY
  have hM : S.1 179 0 = nI (V 0 0) := h.1.1
  have hK : S.1 179 1 = nI (V 0 1) := h.1.2.1
  have o1 := ho.1
  have o2 := ho.2.1
  show Zj X S [some (.ref (ad (xY X) 178)), some (.int x), some (.int y)] 0 []
  refine z_aload0 C dX8_size_0 ?_
  refine z_iload1 C dX8_size_1 ?_
  refine z_callVI C dX8_size_2 (c_X8_isMonk2 ho.2.1 hK) gX8_size_X8_isMonk md_X8_isMonk rfl (by decide) (k_Model _) rfl rfl rfl (Nat.le_of_ble_eq_true rfl) ?_
  refine z_if_eqB C 20 dX8_size_5 (by decide) (fun c5 => ?_) (fun c5 => ?_)
  · refine z_iconst (v := (-1)) C dX8_size_20 (by decide) ?_
    exact z_iretP C dX8_size_21 hr rfl ⟨by rw [aSize_n (by rintro ⟨h1, h2⟩; contradiction)], FrM.rf⟩
  · refine z_iload2 C dX8_size_8 ?_
    refine z_i2l C dX8_size_9 ?_
    refine z_lconst (v := 0) C dX8_size_10 rfl ?_
    refine z_topl (y := (nI 0).toInt64) C (by decide) ?_
    refine z_ldc2 (v := 60) C dX8_size_11 kl_X8_size_48 ?_
    refine z_topl (y := (nI 60).toInt64) C (by decide) ?_
    refine z_callSI C dX8_size_14 c_X8_in gX8_size_X8_in md_X8_in (by decide) rfl rfl (Nat.le_of_ble_eq_true rfl) ?_
    refine z_if_neB C 22 dX8_size_17 (by decide) (fun c17 => ?_) (fun c17 => ?_)
    · obtain ⟨m, hm, rfl⟩ := inR_of (by omega) c5
      obtain ⟨n, -, hn, rfl⟩ := inB_of (by decide) c17 (by decide)
      obtain ⟨q1, q2, q3⟩ := HW_Go h ho n
      refine z_aload0 C dX8_size_22 ?_
      refine z_callVV C dX8_size_23 c_X8_tries gX8_size_X8_tries md_X8_tries rfl (by decide) (k_Model _) rfl rfl rfl (Nat.le_of_ble_eq_true rfl) ?_
      refine z_aload0 C dX8_size_26 ?_
      refine z_iload2 C dX8_size_27 ?_
      refine z_callVV C dX8_size_28 (c_X8_goesOn (HW_tr h ho) ho (by omega)) gX8_size_X8_goesOn md_X8_goesOn rfl (by decide) (k_Model _) rfl rfl rfl (Nat.le_of_ble_eq_true rfl) ?_
      refine z_aload0 C dX8_size_31 ?_
      refine z_get C dX8_size_32 fl_X8_size_7 (k_Model _) rfl ?_
      refine z_sipush (v := nI 609) C dX8_size_35 (by decide) ?_
      refine z_iload1 C dX8_size_38 ?_
      refine z_iaddN C dX8_size_39 ?_
      refine z_iald C dX8_size_40 (k_i179 _) (by omega) ?_
      exact z_iretP C dX8_size_41 hr rfl ⟨by rw [aSize_y hm (by omega) hn]; exact (q1.2.2 m (by rw [vDays_hd n (by decide) (by decide)]; exact hm)).2.1, q3⟩
    · refine z_iconst (v := (-1)) C dX8_size_20 (by decide) ?_
      exact z_iretP C dX8_size_21 hr rfl ⟨by rw [aSize_n (by rintro ⟨h1, h2⟩; contradiction)], FrM.rf⟩
