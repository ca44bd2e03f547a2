/-- the plan of sends: limit, most, best, fates, crews of a beginning g of d, choice -/
def SD (S : GS) (V : VR) (n : Nat) (s : Nat × Nat) (g : Nat → Nat) (d : Nat) : Prop := (S.1 5 3 = nI (lmN V n) ∧ S.1 5 5 = mI s.1 ∧ s.1 ≤ V 0 0 + 1) ∧ (0 < s.1 → ∀ k, k < V 0 1 → S.1 9 k = nI (dg (V 0 0) (V 0 1) s.2 k)) ∧ (∀ m, m < V 0 0 → S.1 6 m = nI (bset (fate V n m) (2 ^ V 0 1))) ∧ (∀ m, m < V 0 0 → S.1 7 m = nI (crewB g m d)) ∧ (∀ k, k < d → S.1 8 k = nI (g k)) ∧ (∀ k, g k < V 0 0)
theorem SD_fr {P : Nat → Prop} {S T : GS} {V : VR} {n d : Nat} {s : Nat × Nat} {g : Nat → Nat} (h : SD S V n s g d) (f : Fr P S T) (hp : ∀ o, 5 ≤ o → o ≤ 9 → ¬ P o) : SD T V n s g d := by
  unfold SD
  rw [f.1 5 (hp 5 (by decide) (by decide)), f.1 6 (hp 6 (by decide) (by decide)), f.1 7 (hp 7 (by decide) (by decide)), f.1 8 (hp 8 (by decide) (by decide)), f.1 9 (hp 9 (by decide) (by decide))]
  exact h
theorem SD_w {S : GS} {V : VR} {n : Nat} {s : Nat × Nat} {g : Nat → Nat} (h : SD S V n s g (V 0 1)) (hs : s.1 ≤ scC V n g) : SD (stA (stI S 5 5 (nI (scC V n g))) 9 (va_cpy ((stI S 5 5 (nI (scC V n g))).1 8) ((stI S 5 5 (nI (scC V n g))).1 9) 0 0 (V 0 1))) V n (sdS V n (cdN (V 0 0) g (V 0 1)) s) g (V 0 1) := by
  obtain ⟨⟨h1, h2, h2'⟩, h3, h4, h5, h6, h7⟩ := h
  have e : scC V n (dg (V 0 0) (V 0 1) (cdN (V 0 0) g (V 0 1))) = scC V n g := scC_congr (fun k hk => dg_cd h7 hk)
  have e2 : sdS V n (cdN (V 0 0) g (V 0 1)) s = (scC V n g + 1, cdN (V 0 0) g (V 0 1)) := by unfold sdS; rw [e, if_pos hs]
  rw [e2]
  have sl := scC_le (V := V) (n := n) (g := g)
  refine ⟨⟨?_, ?_, by show scC V n g + 1 ≤ _; omega⟩, fun _ k hk => ?_, fun m hm => ?_, fun m hm => ?_, fun k hk => ?_, h7⟩
  · rw [stA_rd, if_neg (by decide), stI_ni (by decide)]
    exact h1
  · rw [stA_rd, if_neg (by decide), stI_me, mI_s]
  · rw [stA_rd, if_pos rfl, pk_cpy_in (by omega) (by omega), stI_no (by decide), Nat.zero_add, Nat.sub_zero, dg_cd h7 hk]
    exact h6 k hk
  · rw [stA_rd, if_neg (by decide), stI_no (by decide)]
    exact h4 m hm
  · rw [stA_rd, if_neg (by decide), stI_no (by decide)]
    exact h5 m hm
  · rw [stA_rd, if_neg (by decide), stI_no (by decide)]
    exact h6 k hk
theorem SD_nw {S : GS} {V : VR} {n : Nat} {s : Nat × Nat} {g : Nat → Nat} (h : SD S V n s g (V 0 1)) (hs : ¬ s.1 ≤ scC V n g) : sdS V n (cdN (V 0 0) g (V 0 1)) s = s := by
  have e : scC V n (dg (V 0 0) (V 0 1) (cdN (V 0 0) g (V 0 1))) = scC V n g := scC_congr (fun k hk => dg_cd h.2.2.2.2.2 hk)
  unfold sdS
  rw [e, if_neg hs]

set_option maxRecDepth 20000 in
theorem fl_X4_weigh_37 : FL RX4 wsX4_weigh 37 4 5 := ⟨RX4, TX4, 6, rfl, (fun w h => List.mem_cons_of_mem _ (List.mem_append_right _ h)), by decide, by decide +kernel⟩
theorem fp_X4_weigh_37 : FP RX4 wsX4_weigh 37 4 5 .int := ⟨fl_X4_weigh_37, RX4, TX4, 6, tyX4, rfl, tyX4_ok, nmX4, rfl, by decide +kernel⟩
set_option maxRecDepth 20000 in
theorem fl_X4_weigh_18 : FL RX4 wsX4_weigh 18 4 2 := ⟨RX4, TX4, 6, rfl, (fun w h => List.mem_cons_of_mem _ (List.mem_append_right _ h)), by decide, by decide +kernel⟩
set_option maxRecDepth 20000 in
theorem fl_X4_weigh_21 : FL RX4 wsX4_weigh 21 4 4 := ⟨RX4, TX4, 6, rfl, (fun w h => List.mem_cons_of_mem _ (List.mem_append_right _ h)), by decide, by decide +kernel⟩
theorem ac_X4_weigh_63 : Cond.methodLink RX4 63 arraycopyName ∈ wsX4_weigh ∧ Cond.native arraycopyName ∈ wsX4_weigh ∧ Cond.static arraycopyName ∈ wsX4_weigh ∧ Cond.initialized "java/lang/System" ∈ wsX4_weigh := by decide +kernel
set_option maxRecDepth 20000 in
theorem fl_X4_weigh_9 : FL RX4 wsX4_weigh 9 4 0 := ⟨RX4, TX4, 6, rfl, (fun w h => List.mem_cons_of_mem _ (List.mem_append_right _ h)), by decide, by decide +kernel⟩
set_option maxRecDepth 20000 in
theorem fl_X4_weigh_15 : FL RX4 wsX4_weigh 15 4 1 := ⟨RX4, TX4, 6, rfl, (fun w h => List.mem_cons_of_mem _ (List.mem_append_right _ h)), by decide, by decide +kernel⟩
set_option maxHeartbeats 4000000 in
set_option maxRecDepth 100000 in
theorem lp_X4_weigh {X : CX} {S : GS} {V : VR} {n0 : Nat} {s : Nat × Nat} {g : Nat → Nat} (ho : Ok V) (hD : SD S V n0 s g (V 0 1)) (hr : RtR X (fun u => SD u V n0 (sdS V n0 (cdN (V 0 0) g (V 0 1)) s) g (V 0 1) ∧ Fr scr S u)) (C : Cx X cX4_weigh RX4 wsX4_weigh 1) : ∀ (n : Nat) (i c : Nat), i + n = V 0 0 → c = cntB (fun m => fate V n0 m (crewB g m (V 0 1))) i → Zj X S [some (.ref (ad (xY X) 5)), some (.int (nI (V 0 0))), some (.int (nI (V 0 1))), some (.int (nI (c))), some (.int (nI (i)))] 5 [] := by
  intro n
  induction n with
  | zero =>
    intro i c hi hc
    have o1 := ho.1
    have o2 := ho.2.1
    obtain rfl : i = V 0 0 := by omega
    have hc : c = scC V n0 g := hc
    subst hc
    have sl := scC_le (V := V) (n := n0) (g := g)
    obtain ⟨⟨h1, h2, h2'⟩, h3, h4, h5, h6, h7⟩ := id hD
    have hm := mI_le (a := scC V n0 g) (t := s.1) (by omega) (by omega)
    refine z_iload4 C dX4_weigh_5 ?_
    refine z_iload1 C dX4_weigh_7 ?_
    refine z_icmp_geN C 37 dX4_weigh_8 (by decide) (by omega) (by omega) (fun c8 => ?_) (fun c8 => ?_)
    · refine z_iload3 C dX4_weigh_37 ?_
      refine z_aload0 C dX4_weigh_38 ?_
      refine z_get C dX4_weigh_39 fl_X4_weigh_37 (k_Send _) rfl ?_
      refine z_top C h2 ?_
      refine z_icmp_le C 64 dX4_weigh_42 (by decide) (fun c42 => ?_) (fun c42 => ?_)
      · exact z_vretR C dX4_weigh_64 hr ⟨by rw [SD_nw hD (by have := hm.mp c42; omega)]; exact hD, Fr.rf⟩
      · refine z_aload0 C dX4_weigh_45 ?_
        refine z_iload3 C dX4_weigh_46 ?_
        refine z_put C dX4_weigh_47 fp_X4_weigh_37 (k_Send _) rfl rfl (Nat.le_of_ble_eq_true rfl) rfl ?_
        refine z_aload0 C dX4_weigh_50 ?_
        refine z_get C dX4_weigh_51 fl_X4_weigh_18 (k_Send _) rfl ?_
        refine z_iconstN 0 C dX4_weigh_54 ?_
        refine z_aload0 C dX4_weigh_55 ?_
        refine z_get C dX4_weigh_56 fl_X4_weigh_21 (k_Send _) rfl ?_
        refine z_iconstN 0 C dX4_weigh_59 ?_
        refine z_iload2 C dX4_weigh_60 ?_
        refine z_copyi C dX4_weigh_61 ac_X4_weigh_63.1 ac_X4_weigh_63.2.1 ac_X4_weigh_63.2.2.1 ac_X4_weigh_63.2.2.2 (by decide) (Nat.le_of_ble_eq_true rfl) (k_i8 _) (k_i9 _) (by omega) (by omega) ?_
        exact z_vretR C dX4_weigh_64 hr ⟨SD_w hD (Nat.le_of_not_lt (fun z => c42 (hm.mpr z))), (Fr.I (by omega)).tr (Fr.A (by omega))⟩
    · exact absurd c8 (by omega)
  | succ n ih =>
    intro i c hi hc
    have o1 := ho.1
    have o2 := ho.2.1
    have n32 : 2 ^ V 0 1 ≤ 32 := Nat.le_trans (Nat.pow_le_pow_right (by decide) o2) (by decide)
    have cl := cntB_le (fun m => fate V n0 m (crewB g m (V 0 1))) i
    have e0 := bset_u (P := fate V n0 i) (n := 2 ^ V 0 1) (a := crewB g i (V 0 1)) n32 (bset_lt _ _)
    refine z_iload4 C dX4_weigh_5 ?_
    refine z_iload1 C dX4_weigh_7 ?_
    refine z_icmp_geN C 37 dX4_weigh_8 (by decide) (by omega) (by omega) (fun c8 => ?_) (fun c8 => ?_)
    · exact absurd c8 (by omega)
    · refine z_iload3 C dX4_weigh_11 ?_
      refine z_aload0 C dX4_weigh_12 ?_
      refine z_get C dX4_weigh_13 fl_X4_weigh_9 (k_Send _) rfl ?_
      refine z_iload4 C dX4_weigh_16 ?_
      refine z_iald C dX4_weigh_18 (k_i6 _) (by omega) ?_
      refine z_top C (hD.2.2.1 i (by omega)) ?_
      refine z_aload0 C dX4_weigh_19 ?_
      refine z_get C dX4_weigh_20 fl_X4_weigh_15 (k_Send _) rfl ?_
      refine z_iload4 C dX4_weigh_23 ?_
      refine z_iald C dX4_weigh_25 (k_i7 _) (by omega) ?_
      refine z_top C (hD.2.2.2.1 i (by omega)) ?_
      refine z_iushr C dX4_weigh_26 ?_
      refine z_iconstN 1 C dX4_weigh_27 ?_
      refine z_iand C dX4_weigh_28 ?_
      refine z_top C e0 ?_
      refine z_iaddN C dX4_weigh_29 ?_
      refine z_istore3 C dX4_weigh_30 nl_i ?_
      refine z_iinc4 C dX4_weigh_31 (inc1 _) nl_i ?_
      refine z_goto C 5 dX4_weigh_34 (by decide) ?_
      exact ih (i + 1) _ (by omega) (by rw [cntB, hc])

set_option maxHeartbeats 4000000 in
set_option maxRecDepth 100000 in
theorem c_X4_weigh {l : Launch} {Y : LY} {S : GS} {V : VR} {n0 : Nat} {s : Nat × Nat} {g : Nat → Nat} (ho : Ok V) (hD : SD S V n0 s g (V 0 1)) : CtR l yX4_weigh wsX4_weigh 1 Y [.ref (ad Y 5), .int (nI (V 0 0)), .int (nI (V 0 1))] S (fun u => SD u V n0 (sdS V n0 (cdN (V 0 0) g (V 0 1)) s) g (V 0 1) ∧ Fr scr S u) := by
  refine mkR (cc := cX4_weigh) (maxL := 5) rfl rfl (Nat.le_of_ble_eq_true rfl) ?_
  intro X hl hY C hr
  subst hl
  subst hY
  show Zj X S [some (.ref (ad (xY X) 5)), some (.int (nI (V 0 0))), some (.int (nI (V 0 1))), none, none] 0 []
  refine z_iconstN 0 C dX4_weigh_0 ?_
  refine z_istore3 C dX4_weigh_1 nl_i ?_
  refine z_iconstN 0 C dX4_weigh_2 ?_
  refine z_istore4 C dX4_weigh_3 nl_i ?_
  exact lp_X4_weigh ho hD hr C (V 0 0) 0 0 (by omega) rfl

theorem t_off : ∀ d : Fin 5, ∀ s : Fin 32, s.1 < 2 ^ d.1 → nI (s.1 + 2 ^ d.1) &&& (nI (2 ^ d.1) ^^^ (-1)) = nI s.1 ∧ nI s.1 ||| nI (2 ^ d.1) = nI (s.1 + 2 ^ d.1) := by decide +kernel
theorem crew_s {g : Nat → Nat} {m d v : Nat} : crewB (qu g d v) m (d + 1) = crewB g m d + (if v = m then 2 ^ d else 0) := by
  unfold crewB
  rw [bset, bset_congr (Q := fun k => decide (g k = m)) d (fun k hk => by rw [qu_no (by omega)]), qu_me]
  by_cases c : v = m
  · rw [if_pos c, if_pos (decide_eq_true c)]
  · rw [if_neg c, if_neg (fun z => c (of_decide_eq_true z))]
theorem SD_in {S : GS} {V : VR} {n d v : Nat} {s : Nat × Nat} {g : Nat → Nat} (ho : Ok V) (h : SD S V n s g d) (hd : d < V 0 1) (hv : v < V 0 0) : SD (stI (stI S 8 d (nI v)) 7 v ((stI S 8 d (nI v)).1 7 v ||| nI (2 ^ d))) V n s (qu g d v) (d + 1) := by
  obtain ⟨⟨h1, h2, h2'⟩, h3, h4, h5, h6, h7⟩ := h
  have o2 := ho.2.1
  refine ⟨⟨?_, ?_, h2'⟩, fun z k hk => ?_, fun m hm => ?_, fun m hm => ?_, fun k hk => ?_, fun k => ?_⟩
  · rw [stI_no (by decide), stI_no (by decide)]; exact h1
  · rw [stI_no (by decide), stI_no (by decide)]; exact h2
  · rw [stI_no (by decide), stI_no (by decide)]; exact h3 z k hk
  · rw [stI_no (by decide), stI_no (by decide)]; exact h4 m hm
  · rw [crew_s]
    by_cases c : m = v
    · subst c
      rw [stI_me, stI_no (by decide), h5 m hm, if_pos rfl]
      exact (t_off ⟨d, by omega⟩ ⟨crewB g m d, bset_32 (by omega)⟩ (bset_lt _ _)).2
    · rw [stI_ni c, stI_no (by decide), if_neg (fun z => c z.symm), Nat.add_zero]
      exact h5 m hm
  · rw [stI_no (by decide)]
    by_cases c : k = d
    · subst c
      rw [stI_me, qu_me]
    · rw [stI_ni c, qu_no c]
      exact h6 k (by omega)
  · by_cases c : k = d
    · subst c
      rw [qu_me]
      exact hv
    · rw [qu_no c]
      exact h7 k
theorem SD_out {S : GS} {V : VR} {n d v : Nat} {s : Nat × Nat} {g : Nat → Nat} (ho : Ok V) (hg : ∀ k, g k < V 0 0) (h : SD S V n s (qu g d v) (d + 1)) (hd : d < V 0 1) (hv : v < V 0 0) : SD (stI S 7 v (S.1 7 v &&& (nI (2 ^ d) ^^^ (-1)))) V n s g d := by
  obtain ⟨⟨h1, h2, h2'⟩, h3, h4, h5, h6, h7⟩ := h
  have o2 := ho.2.1
  refine ⟨⟨?_, ?_, h2'⟩, fun z k hk => ?_, fun m hm => ?_, fun m hm => ?_, fun k hk => ?_, hg⟩
  · rw [stI_no (by decide)]; exact h1
  · rw [stI_no (by decide)]; exact h2
  · rw [stI_no (by decide)]; exact h3 z k hk
  · rw [stI_no (by decide)]; exact h4 m hm
  · have q := h5 m hm
    rw [crew_s] at q
    by_cases c : m = v
    · subst c
      rw [if_pos rfl] at q
      rw [stI_me, q]
      exact (t_off ⟨d, by omega⟩ ⟨crewB g m d, bset_32 (by omega)⟩ (bset_lt _ _)).1
    · rw [if_neg (fun z => c z.symm), Nat.add_zero] at q
      rw [stI_ni c]
      exact q
  · rw [stI_no (by decide)]
    have q := h6 k (by omega)
    rw [qu_no (by omega)] at q
    exact q
theorem cd_s {M d v : Nat} {g : Nat → Nat} : cdN M (qu g d v) (d + 1) = cdN M g d * M + v := by
  rw [cdN, cdN_congr (g' := g) d (fun k hk => qu_no (by omega)), qu_me]

set_option maxRecDepth 20000 in
theorem fl_X4_choose_37 : FL RX4 wsX4_choose 37 4 5 := ⟨RX4, TX4, 6, rfl, (fun w h => List.mem_cons_of_mem _ (List.mem_append_right _ h)), by decide, by decide +kernel⟩
set_option maxRecDepth 20000 in
theorem fl_X4_choose_24 : FL RX4 wsX4_choose 24 4 3 := ⟨RX4, TX4, 6, rfl, (fun w h => List.mem_cons_of_mem _ (List.mem_append_right _ h)), by decide, by decide +kernel⟩
set_option maxRecDepth 20000 in
theorem fl_X4_choose_18 : FL RX4 wsX4_choose 18 4 2 := ⟨RX4, TX4, 6, rfl, (fun w h => List.mem_cons_of_mem _ (List.mem_append_right _ h)), by decide, by decide +kernel⟩
set_option maxRecDepth 20000 in
theorem fl_X4_choose_15 : FL RX4 wsX4_choose 15 4 1 := ⟨RX4, TX4, 6, rfl, (fun w h => List.mem_cons_of_mem _ (List.mem_append_right _ h)), by decide, by decide +kernel⟩
theorem md_X4_choose : MD yX4_choose wsX4_choose 3 6 none := ⟨_, _, rfl, by decide, by decide +kernel, by decide +kernel, by decide +kernel⟩
set_option maxHeartbeats 4000000 in
set_option maxRecDepth 100000 in
theorem lp_X4_choose {X : CX} {S : GS} {V : VR} {n0 d e : Nat} {s : Nat × Nat} {g : Nat → Nat} (ho : Ok V) (hd : d < V 0 1) (hih : (∀ (S : GS) (s : Nat × Nat) (g : Nat → Nat), SD S V n0 s g (d + 1) → CtR (xl X) yX4_choose wsX4_choose (e + 2) (xY X) [.ref (ad (xY X) 5), .int (nI (V 0 0)), .int (nI (V 0 1)), .int (nI (d + 1))] S (fun u => SD u V n0 (sdF V n0 (V 0 0 ^ e) (cdN (V 0 0) g (d + 1) * V 0 0 ^ e) s) g (d + 1) ∧ Fr scr S u))) (hr : RtR X (fun u => SD u V n0 (sdF V n0 (V 0 0 ^ (e + 1)) (cdN (V 0 0) g d * V 0 0 ^ (e + 1)) s) g d ∧ Fr scr S u)) (C : Cx X cX4_choose RX4 wsX4_choose (e + 3)) : ∀ (n : Nat) (i : Nat) (T : GS) (p : Nat × Nat), i + n = V 0 0 → SD T V n0 p g d → Fr scr S T → sdF V n0 (V 0 0 ^ (e + 1)) (cdN (V 0 0) g d * V 0 0 ^ (e + 1)) s = foldN (fun j s => sdF V n0 (V 0 0 ^ e) ((cdN (V 0 0) g d * V 0 0 + j) * V 0 0 ^ e) s) n i p → Zj X T [some (.ref (ad (xY X) 5)), some (.int (nI (V 0 0))), some (.int (nI (V 0 1))), some (.int (nI (d))), some (.int (nI (2 ^ d))), some (.int (nI (i)))] 20 [] := by
  intro n
  induction n with
  | zero =>
    intro i T p hi hD hf hg
    have o1 := ho.1
    have o2 := ho.2.1
    obtain rfl : i = V 0 0 := by omega
    have hg : _ = p := hg
    refine z_iload5 C dX4_choose_20 ?_
    refine z_iload1 C dX4_choose_22 ?_
    refine z_icmp_geN C 86 dX4_choose_23 (by decide) (by omega) (by omega) (fun c23 => ?_) (fun c23 => ?_)
    · exact z_vretR C dX4_choose_86 hr ⟨by rw [hg]; exact hD, hf⟩
    · exact absurd c23 (by omega)
  | succ n ih =>
    intro i T p hi hD hf hg
    have o1 := ho.1
    have o2 := ho.2.1
    have lml : lmN V n0 ≤ 6 := Nat.le_trans (cntB_le _ _) o1
    have pl := hD.1.2.2
    have hm := mI_le (a := lmN V n0) (t := p.1) (by omega) (by omega)
    simp only [foldN] at hg
    refine z_iload5 C dX4_choose_20 ?_
    refine z_iload1 C dX4_choose_22 ?_
    refine z_icmp_geN C 86 dX4_choose_23 (by decide) (by omega) (by omega) (fun c23 => ?_) (fun c23 => ?_)
    · exact absurd c23 (by omega)
    · refine z_aload0 C dX4_choose_26 ?_
      refine z_get C dX4_choose_27 fl_X4_choose_37 (k_Send _) rfl ?_
      refine z_top C hD.1.2.1 ?_
      refine z_aload0 C dX4_choose_30 ?_
      refine z_get C dX4_choose_31 fl_X4_choose_24 (k_Send _) rfl ?_
      refine z_top C hD.1.1 ?_
      refine z_icmp_ge C 86 dX4_choose_34 (by decide) (fun c34 => ?_) (fun c34 => ?_)
      · refine z_vretR C dX4_choose_86 hr ⟨?_, hf⟩
        rw [hg, sdF_stop (hm.mp c34), foldN_fix (fun j => sdF_stop (hm.mp c34))]
        exact hD
      · refine z_aload0 C dX4_choose_37 ?_
        refine z_get C dX4_choose_38 fl_X4_choose_18 (k_Send _) rfl ?_
        refine z_iload3 C dX4_choose_41 ?_
        refine z_iload5 C dX4_choose_42 ?_
        refine z_iast C dX4_choose_44 (k_i8 _) (by omega) ?_
        refine z_aload0 C dX4_choose_45 ?_
        refine z_get C dX4_choose_46 fl_X4_choose_15 (k_Send _) rfl ?_
        refine z_iload5 C dX4_choose_49 ?_
        refine z_dup2 C dX4_choose_51 rfl rfl ?_
        refine z_iald C dX4_choose_52 (k_i7 _) (by omega) ?_
        refine z_iload4 C dX4_choose_53 ?_
        refine z_ior C dX4_choose_55 ?_
        refine z_iast C dX4_choose_56 (k_i7 _) (by omega) ?_
        refine z_aload0 C dX4_choose_57 ?_
        refine z_iload1 C dX4_choose_58 ?_
        refine z_iload2 C dX4_choose_59 ?_
        refine z_iload3 C dX4_choose_60 ?_
        refine z_iconstN 1 C dX4_choose_61 ?_
        refine z_iaddN C dX4_choose_62 ?_
        refine z_callVR C dX4_choose_63 (hih _ p (qu g d i) (SD_in ho hD hd (by omega))) gX4_choose_X4_choose md_X4_choose rfl (by omega) (k_Send _) rfl rfl rfl (Nat.le_of_ble_eq_true rfl) ?_
        intro S0 hS0
        obtain ⟨hD0, hf0⟩ := hS0
        refine z_aload0 C dX4_choose_66 ?_
        refine z_get C dX4_choose_67 fl_X4_choose_15 (k_Send _) rfl ?_
        refine z_iload5 C dX4_choose_70 ?_
        refine z_dup2 C dX4_choose_72 rfl rfl ?_
        refine z_iald C dX4_choose_73 (k_i7 _) (by omega) ?_
        refine z_iload4 C dX4_choose_74 ?_
        refine z_iconst (v := (-1)) C dX4_choose_76 (by decide) ?_
        refine z_ixor C dX4_choose_77 ?_
        refine z_iand C dX4_choose_78 ?_
        refine z_iast C dX4_choose_79 (k_i7 _) (by omega) ?_
        refine z_iinc5 C dX4_choose_80 (inc1 _) nl_i ?_
        refine z_goto C 20 dX4_choose_83 (by decide) ?_
        rw [cd_s] at hD0
        exact ih (i + 1) _ _ (by omega) (SD_out ho hD.2.2.2.2.2 hD0 hd (by omega)) (hf.tr (((Fr.I (by omega)).tr (Fr.I (by omega))).tr (hf0.tr (Fr.I (by omega))))) hg

theorem md_X4_weigh : MD yX4_weigh wsX4_weigh 2 5 none := ⟨_, _, rfl, by decide, by decide +kernel, by decide +kernel, by decide +kernel⟩
set_option maxHeartbeats 4000000 in
set_option maxRecDepth 100000 in
theorem c_X4_choose0 {l : Launch} {Y : LY} {S : GS} {V : VR} {n0 : Nat} {s : Nat × Nat} {g : Nat → Nat} (ho : Ok V) (hD : SD S V n0 s g (V 0 1)) : CtR l yX4_choose wsX4_choose 2 Y [.ref (ad Y 5), .int (nI (V 0 0)), .int (nI (V 0 1)), .int (nI (V 0 1))] S (fun u => SD u V n0 (sdF V n0 (V 0 0 ^ 0) (cdN (V 0 0) g (V 0 1) * V 0 0 ^ 0) s) g (V 0 1) ∧ Fr scr S u) := by
  refine mkR (cc := cX4_choose) (maxL := 6) rfl rfl (Nat.le_of_ble_eq_true rfl) ?_
  intro X hl hY C hr
  subst hl
  subst hY
  have o1 := ho.1
  have o2 := ho.2.1
  show Zj X S [some (.ref (ad (xY X) 5)), some (.int (nI (V 0 0))), some (.int (nI (V 0 1))), some (.int (nI (V 0 1))), none, none] 0 []
  refine z_iload3 C dX4_choose_0 ?_
  refine z_iload2 C dX4_choose_1 ?_
  refine z_icmp_ltN C 12 dX4_choose_2 (by decide) (by omega) (by omega) (fun c2 => ?_) (fun c2 => ?_)
  · exact absurd c2 (by omega)
  · refine z_aload0 C dX4_choose_5 ?_
    refine z_iload1 C dX4_choose_6 ?_
    refine z_iload2 C dX4_choose_7 ?_
    refine z_callVR C dX4_choose_8 (c_X4_weigh ho hD) gX4_choose_X4_weigh md_X4_weigh rfl (by decide) (k_Send _) rfl rfl rfl (Nat.le_of_ble_eq_true rfl) ?_
    intro S0 hS0
    exact z_vretR C dX4_choose_11 hr ⟨by rw [Nat.pow_zero, Nat.mul_one]; exact hS0.1, hS0.2⟩

set_option maxHeartbeats 4000000 in
set_option maxRecDepth 100000 in
theorem c_X4_choose1 {l : Launch} {Y : LY} {S : GS} {V : VR} {n0 d e : Nat} {s : Nat × Nat} {g : Nat → Nat} (ho : Ok V) (hd : d < V 0 1) (hih : (∀ (S : GS) (s : Nat × Nat) (g : Nat → Nat), SD S V n0 s g (d + 1) → CtR l yX4_choose wsX4_choose (e + 2) Y [.ref (ad Y 5), .int (nI (V 0 0)), .int (nI (V 0 1)), .int (nI (d + 1))] S (fun u => SD u V n0 (sdF V n0 (V 0 0 ^ e) (cdN (V 0 0) g (d + 1) * V 0 0 ^ e) s) g (d + 1) ∧ Fr scr S u))) (hD : SD S V n0 s g d) : CtR l yX4_choose wsX4_choose (e + 3) Y [.ref (ad Y 5), .int (nI (V 0 0)), .int (nI (V 0 1)), .int (nI d)] S (fun u => SD u V n0 (sdF V n0 (V 0 0 ^ (e + 1)) (cdN (V 0 0) g d * V 0 0 ^ (e + 1)) s) g d ∧ Fr scr S u) := by
  refine mkR (cc := cX4_choose) (maxL := 6) rfl rfl (Nat.le_of_ble_eq_true rfl) ?_
  intro X hl hY C hr
  subst hl
  subst hY
  have o1 := ho.1
  have o2 := ho.2.1
  show Zj X S [some (.ref (ad (xY X) 5)), some (.int (nI (V 0 0))), some (.int (nI (V 0 1))), some (.int (nI d)), none, none] 0 []
  refine z_iload3 C dX4_choose_0 ?_
  refine z_iload2 C dX4_choose_1 ?_
  refine z_icmp_ltN C 12 dX4_choose_2 (by decide) (by omega) (by omega) (fun c2 => ?_) (fun c2 => ?_)
  · refine z_iconstN 1 C dX4_choose_12 ?_
    refine z_iload3 C dX4_choose_13 ?_
    refine z_ishl C dX4_choose_14 ?_
    refine z_top C (shl1 (show d < 6 by omega)) ?_
    refine z_istore4 C dX4_choose_15 nl_i ?_
    refine z_iconstN 0 C dX4_choose_17 ?_
    refine z_istore5 C dX4_choose_18 nl_i ?_
    exact lp_X4_choose ho hd hih hr C (V 0 0) 0 S s (by omega) hD Fr.rf (by rw [Nat.pow_succ, Nat.mul_comm (V 0 0 ^ e) (V 0 0)]; exact sdF_split)
  · exact absurd c2 (by omega)

theorem c_X4_choose {l : Launch} {Y : LY} {V : VR} {n0 : Nat} (ho : Ok V) : ∀ (e d : Nat), d + e = V 0 1 → ∀ (S : GS) (s : Nat × Nat) (g : Nat → Nat), SD S V n0 s g d → CtR l yX4_choose wsX4_choose (e + 2) Y [.ref (ad Y 5), .int (nI (V 0 0)), .int (nI (V 0 1)), .int (nI d)] S (fun u => SD u V n0 (sdF V n0 (V 0 0 ^ e) (cdN (V 0 0) g d * V 0 0 ^ e) s) g d ∧ Fr scr S u) := by
  intro e
  induction e with
  | zero =>
    intro d hd S s g hD
    have e : d = V 0 1 := by omega
    subst e
    exact c_X4_choose0 ho hD
  | succ e ih => intro d hd S s g hD; exact c_X4_choose1 ho (by omega) (fun S s g h => ih (d + 1) (by omega) S s g h) hD
