theorem opN_c {S : GS} {b : Nat} {V : VR} (h : HC S b V) (ho : Ok V) : foldN (fun i v => if rO S b i then v + 1 else v) (V 0 0) 0 0 = opN V := by
  have q : ∀ n i, i + n ≤ V 0 0 → foldN (fun i v => if rO S b i then v + 1 else v) n i (cntB (openP V) i) = cntB (openP V) (i + n) := by
    intro n
    induction n with
    | zero => intro i _; rfl
    | succ n ih =>
      intro i hi
      have e : (if rO S b i then cntB (openP V) i + 1 else cntB (openP V) i) = cntB (openP V) (i + 1) := by
        have z := rO_iff h ho (m := i) (by omega)
        rw [cntB]
        by_cases c : rO S b i
        · rw [if_pos c, if_pos (show openP V i = true from decide_eq_true (z.mp c))]
        · rw [if_neg c, if_neg (show ¬ openP V i = true from fun w => c (z.mpr (of_decide_eq_true w))), Nat.add_zero]
      show foldN _ n (i + 1) (if rO S b i then cntB (openP V) i + 1 else cntB (openP V) i) = _
      rw [e, ih (i + 1) (by omega), show i + 1 + n = i + (n + 1) by omega]
  have := q (V 0 0) 0 (by omega)
  rw [Nat.zero_add] at this
  exact this
/-- the plan of round: its length, most, best, the beginning o of d marks -/
def RD (S : GS) (V : VR) (L : Nat) (s : RS) (o : Nat → Nat) (d : Nat) : Prop := (S.1 2 2 = nI L ∧ S.1 2 3 = mI s.1 ∧ s.1 ≤ V 0 0 + 1) ∧ (0 < s.1 → ∀ j, j < L → S.1 4 j = nI (s.2 j)) ∧ (∀ j, j < d → S.1 3 j = nI (o j))
theorem RD_w {S : GS} {V : VR} {k L : Nat} {s : RS} {o : Nat → Nat} (h : RD S V L s o L) (hs : s.1 ≤ gcU V k o L) : RD (stA (stI S 2 3 (nI (gcU V k o L))) 4 (va_cpy ((stI S 2 3 (nI (gcU V k o L))).1 3) ((stI S 2 3 (nI (gcU V k o L))).1 4) 0 0 L)) V L (rdW V k L o s) o L := by
  obtain ⟨⟨h1, h2, h2'⟩, h3, h4⟩ := h
  have e2 : rdW V k L o s = (gcU V k o L + 1, o) := by unfold rdW; rw [if_pos hs]
  rw [e2]
  have sl := gcU_le (V := V) (k := k) (d := L) (o := o)
  refine ⟨⟨?_, ?_, by show gcU V k o L + 1 ≤ _; omega⟩, fun _ j hj => ?_, fun j hj => ?_⟩
  · rw [stA_rd, if_neg (by decide), stI_ni (by decide)]
    exact h1
  · rw [stA_rd, if_neg (by decide), stI_me, mI_s]
  · rw [stA_rd, if_pos rfl, pk_cpy_in (by omega) (by omega), stI_no (by decide), Nat.zero_add, Nat.sub_zero]
    exact h4 j hj
  · rw [stA_rd, if_neg (by decide), stI_no (by decide)]
    exact h4 j hj
theorem RD_nw {V : VR} {k L : Nat} {s : RS} {o : Nat → Nat} (hs : ¬ s.1 ≤ gcU V k o L) : rdW V k L o s = s := by
  unfold rdW
  rw [if_neg hs]

set_option maxRecDepth 20000 in
theorem fl_X3_weigh_32 : FL RX3 wsX3_weigh 32 3 3 := ⟨RX3, TX3, 4, rfl, (fun w h => List.mem_cons_of_mem _ (List.mem_append_right _ h)), by decide, by decide +kernel⟩
theorem fp_X3_weigh_32 : FP RX3 wsX3_weigh 32 3 3 .int := ⟨fl_X3_weigh_32, RX3, TX3, 4, tyX3, rfl, tyX3_ok, nmX3, rfl, by decide +kernel⟩
set_option maxRecDepth 20000 in
theorem fl_X3_weigh_9 : FL RX3 wsX3_weigh 9 3 0 := ⟨RX3, TX3, 4, rfl, (fun w h => List.mem_cons_of_mem _ (List.mem_append_right _ h)), by decide, by decide +kernel⟩
set_option maxRecDepth 20000 in
theorem fl_X3_weigh_15 : FL RX3 wsX3_weigh 15 3 1 := ⟨RX3, TX3, 4, rfl, (fun w h => List.mem_cons_of_mem _ (List.mem_append_right _ h)), by decide, by decide +kernel⟩
set_option maxRecDepth 20000 in
theorem fl_X3_weigh_28 : FL RX3 wsX3_weigh 28 3 2 := ⟨RX3, TX3, 4, rfl, (fun w h => List.mem_cons_of_mem _ (List.mem_append_right _ h)), by decide, by decide +kernel⟩
theorem ac_X3_weigh_73 : Cond.methodLink RX3 73 arraycopyName ∈ wsX3_weigh ∧ Cond.native arraycopyName ∈ wsX3_weigh ∧ Cond.static arraycopyName ∈ wsX3_weigh ∧ Cond.initialized "java/lang/System" ∈ wsX3_weigh := by decide +kernel
set_option maxHeartbeats 4000000 in
set_option maxRecDepth 100000 in
theorem c_X3_weigh {l : Launch} {Y : LY} {S : GS} {V : VR} {k L : Nat} {s : RS} {o : Nat → Nat} (ho : Ok V) (hL : L ≤ 6) (hD : RD S V L s o L) : CtR l yX3_weigh wsX3_weigh 1 Y [.ref (ad Y 2), .int (nI (gcU V k o L))] S (fun u => RD u V L (rdW V k L o s) o L ∧ Fr (fun q => q = 2 ∨ q = 4) S u) := by
  refine mkR (cc := cX3_weigh) (maxL := 2) rfl rfl (Nat.le_of_ble_eq_true rfl) ?_
  intro X hl hY C hr
  subst hl
  subst hY
  have o1 := ho.1
  have sl := gcU_le (V := V) (k := k) (d := L) (o := o)
  have pl := hD.1.2.2
  have hm := mI_le (a := gcU V k o L) (t := s.1) (by omega) (by omega)
  show Zj X S [some (.ref (ad (xY X) 2)), some (.int (nI (gcU V k o L)))] 0 []
  refine z_iload1 C dX3_weigh_0 ?_
  refine z_aload0 C dX3_weigh_1 ?_
  refine z_get C dX3_weigh_2 fl_X3_weigh_32 (k_Round _) rfl ?_
  refine z_top C hD.1.2.1 ?_
  refine z_icmp_le C 30 dX3_weigh_5 (by decide) (fun c5 => ?_) (fun c5 => ?_)
  · exact z_vretR C dX3_weigh_30 hr ⟨by rw [RD_nw (by have := hm.mp c5; omega)]; exact hD, Fr.rf⟩
  · refine z_aload0 C dX3_weigh_8 ?_
    refine z_iload1 C dX3_weigh_9 ?_
    refine z_put C dX3_weigh_10 fp_X3_weigh_32 (k_Round _) rfl rfl (Nat.le_of_ble_eq_true rfl) rfl ?_
    refine z_aload0 C dX3_weigh_13 ?_
    refine z_get C dX3_weigh_14 fl_X3_weigh_9 (k_Round _) rfl ?_
    refine z_iconstN 0 C dX3_weigh_17 ?_
    refine z_aload0 C dX3_weigh_18 ?_
    refine z_get C dX3_weigh_19 fl_X3_weigh_15 (k_Round _) rfl ?_
    refine z_iconstN 0 C dX3_weigh_22 ?_
    refine z_aload0 C dX3_weigh_23 ?_
    refine z_get C dX3_weigh_24 fl_X3_weigh_28 (k_Round _) rfl ?_
    refine z_top C (show (stI S 2 3 (nI (gcU V k o L))).1 2 2 = nI L by rw [stI_ni (by decide)]; exact hD.1.1) ?_
    refine z_copyi C dX3_weigh_27 ac_X3_weigh_73.1 ac_X3_weigh_73.2.1 ac_X3_weigh_73.2.2.1 ac_X3_weigh_73.2.2.2 (by decide) (Nat.le_of_ble_eq_true rfl) (k_i3 _) (k_i4 _) (by omega) (by omega) ?_
    exact z_vretR C dX3_weigh_30 hr ⟨RD_w hD (Nat.le_of_not_lt (fun z => c5 (hm.mpr z))), (Fr.I (Or.inl rfl)).tr (Fr.A (Or.inr rfl))⟩

def FI (S : GS) (V : VR) (k L : Nat) (s : RS) (o : Nat → Nat) (d : Nat) (W : VR) : Prop := RD S V L s o d ∧ HC S 26 V ∧ HC S 42 W ∧ Ok W ∧ W 0 0 = V 0 0 ∧ W 0 1 = V 0 1 ∧ W 5 k = V 5 k
def fT4 (T : GS) (V : VR) (k : Nat) (o : Nat → Nat) (d i : Nat) : GS := cRT 42 k i 60 (cMI (stI (stI T 3 d (nI i)) 48 k (nI (UU V k o d 6 k))) 42 26 i)
def fW3 (W V : VR) (k : Nat) (o : Nat → Nat) (d i : Nat) : VR := vRT k i 60 (vMI (vs W 6 k (UU V k o d 6 k)) V i)
theorem fT4_fr {T : GS} {V : VR} {k d i : Nat} {o : Nat → Nat} : Fr scr T (fT4 T V k o d i) := ((Fr.I (by omega)).tr (Fr.I (by omega))).tr ((fr_tr cMI_fr).tr (fr_tr (cRT_fr 60 _)))
theorem fT4_o {T : GS} {V : VR} {k d i q : Nat} {o : Nat → Nat} (h : q < 42) : (fT4 T V k o d i).1 q = (stI T 3 d (nI i)).1 q := by
  unfold fT4
  rw [(cRT_fr 60 _).1 q (by omega), cMI_fr.1 q (by omega), stI_no (by omega)]
theorem FI_in {T : GS} {V W : VR} {k L d i : Nat} {p : RS} {o : Nat → Nat} (h : FI T V k L p o d W) (ho : Ok V) (hk : k < V 0 1) (hi : i < V 0 0) (hc : cand V o d i) (hp : ∀ j, j < d → o j < V 0 0) : FI (fT4 T V k o d i) V k L p (qu o d i) (d + 1) (fW3 W V k o d i) ∧ fW3 W V k o d i 6 k = UU V k (qu o d i) (d + 1) 6 k ∧ (rG (fT4 T V k o d i) 42 i ↔ vG (vRT k i 60 (UU V k o d)) i) := by
  obtain ⟨⟨⟨a1, a2, a3⟩, a4, a5⟩, hn, ht, hw, w0, w1, w5⟩ := h
  obtain ⟨uo, uh⟩ := UU_in ho hk d hp
  have us : UU V k o d 6 k ≤ 99 := (uo.2.2.2 k (by rw [uh 1 (by decide)]; exact hk)).2.1
  have t1 : HC (stI T 3 d (nI i)) 42 W := HC_of ht (fun q h1 h2 => stI_no (by omega))
  have t2 : HC (stI (stI T 3 d (nI i)) 48 k (nI (UU V k o d 6 k))) 42 (vs W 6 k (UU V k o d 6 k)) := HC_size t1
  have n2 : HC (stI (stI T 3 d (nI i)) 48 k (nI (UU V k o d 6 k))) 26 V := HC_of (HC_of hn (fun q h1 h2 => stI_no (by omega))) (fun q h1 h2 => stI_no (by omega))
  have t3 := HC_MI dis_tn t2 n2 hi
  have w2o : Ok (vs W 6 k (UU V k o d 6 k)) := Ok_size hw us
  have w3o : Ok (vMI (vs W 6 k (UU V k o d 6 k)) V i) := Ok_MI w2o ho (by rw [vs_no (by omega)]; exact w0)
  have e0 : vMI (vs W 6 k (UU V k o d 6 k)) V i 0 0 = V 0 0 := by unfold vMI; rw [if_neg (by omega), vs_no (by omega)]; exact w0
  have e1 : vMI (vs W 6 k (UU V k o d 6 k)) V i 0 1 = V 0 1 := by unfold vMI; rw [if_neg (by omega), vs_no (by omega)]; exact w1
  obtain ⟨q1, q2, q3, q4⟩ := HC_RT (k := k) (m := i) 60 _ _ t3 w3o (by rw [e1]; exact hk) (by rw [e0]; exact hi)
  have ei : EI i (fun j => decide (j = k)) (vMI (vs W 6 k (UU V k o d 6 k)) V i) (UU V k o d) := by
    refine ⟨fun f f1 f4 => ?_, fun j hj => ?_⟩
    · rw [UU_out f1 f4 d hc.2]
      unfold vMI
      rw [if_pos ⟨⟨f1, f4⟩, rfl⟩]
    · obtain rfl : j = k := of_decide_eq_true hj
      refine ⟨?_, ?_⟩
      · unfold vMI
        rw [if_neg (by omega), vs_no (by omega), UU_5]
        exact w5
      · unfold vMI
        rw [if_neg (by omega), vs_me]
  have ej := EI_RT (m := i) (k := k) (A := fun j => decide (j = k)) (decide_eq_true rfl) 60 _ _ ei
  refine ⟨⟨⟨⟨?_, ?_, a3⟩, fun z j hj => ?_, fun j hj => ?_⟩, ?_, q1, q2, (q4 0 (by decide)).trans e0, (q4 1 (by decide)).trans e1, ?_⟩, ?_, ?_⟩
  · rw [fT4_o (by decide), stI_no (by decide)]
    exact a1
  · rw [fT4_o (by decide), stI_no (by decide)]
    exact a2
  · rw [fT4_o (by decide), stI_no (by decide)]
    exact a4 z j hj
  · rw [fT4_o (by decide)]
    by_cases c : j = d
    · subst c
      rw [stI_me, qu_me]
    · rw [stI_ni c, qu_no c]
      exact a5 j (by omega)
  · exact HC_fr hn fT4_fr (fun q h1 h2 h3 => by omega)
  · unfold fW3
    rw [vRT_far (by omega) (by omega) (by omega) (by omega) (by omega)]
    unfold vMI
    rw [if_neg (by omega), vs_no (by omega)]
    exact w5
  · rw [UU_s]
    exact (ej.2 k (decide_eq_true rfl)).2
  · exact (rG_iff q1 q2 (by rw [q4 0 (by decide), e0]; exact hi)).trans (EI_G ej)
theorem FI_up {T : GS} {V W : VR} {k L d i : Nat} {p : RS} {o : Nat → Nat} (h : FI T V k L p (qu o d i) (d + 1) W) : FI T V k L p o d W := ⟨⟨h.1.1, h.1.2.1, fun j hj => by
  have := h.1.2.2 j (by omega)
  rw [qu_no (by omega)] at this
  exact this⟩, h.2⟩

set_option maxRecDepth 20000 in
theorem fl_X3_follow_55 : FL RX3 wsX3_follow 55 2 0 := ⟨RX2, TX2, 12, rfl, (fun w h => List.mem_cons_of_mem _ (List.mem_append_right _ h)), by decide, by decide +kernel⟩
set_option maxRecDepth 20000 in
theorem fl_X3_follow_9 : FL RX3 wsX3_follow 9 3 0 := ⟨RX3, TX3, 4, rfl, (fun w h => List.mem_cons_of_mem _ (List.mem_append_left _ (List.mem_append_right _ h))), by decide, by decide +kernel⟩
set_option maxRecDepth 20000 in
theorem fl_X3_follow_52 : FL RX3 wsX3_follow 52 2 10 := ⟨RX2, TX2, 12, rfl, (fun w h => List.mem_cons_of_mem _ (List.mem_append_right _ h)), by decide, by decide +kernel⟩
theorem md_X3_follow : MD yX3_follow wsX3_follow 6 10 none := ⟨_, _, rfl, by decide, by decide +kernel, by decide +kernel, by decide +kernel⟩
set_option maxHeartbeats 4000000 in
set_option maxRecDepth 100000 in
theorem lp_X3_follow {X : CX} {S : GS} {V : VR} {k L d e : Nat} {s : RS} {o : Nat → Nat} (ho : Ok V) (hk : k < V 0 1) (hL : L ≤ 6) (hd : d + (e + 1) = L) (hp : ∀ j, j < d → o j < V 0 0) (hih : (∀ (S : GS) (s : RS) (o : Nat → Nat) (W : VR), FI S V k L s o (d + 1) W → W 6 k = UU V k o (d + 1) 6 k → (∀ j, j < d + 1 → o j < V 0 0) → CtR (xl X) yX3_follow wsX3_follow (e + 6) (xY X) [.ref (ad (xY X) 2), .ref (ad (xY X) 26), .ref (ad (xY X) 42), .int (nI k), .int (nI (d + 1)), .int (nI (bset (pth o (d + 1)) 6)), .int (nI (gcU V k o (d + 1)))] S (fun u => (∃ W', FI u V k L (rdF V k L e (d + 1) o s) o (d + 1) W') ∧ Fr scr S u))) (hr : RtR X (fun u => (∃ W', FI u V k L (rdF V k L (e + 1) d o s) o d W') ∧ Fr scr S u)) (C : Cx X cX3_follow RX3 wsX3_follow (e + 7)) : ∀ (n : Nat) (i : Nat) (T : GS) (p : RS) (W : VR) (x9 : Option Value), i + n = V 0 0 → FI T V k L p o d W → Fr scr S T → rdF V k L (e + 1) d o s = foldN (rdJ V k L e d o) n i p → Zj X T [some (.ref (ad (xY X) 2)), some (.ref (ad (xY X) 26)), some (.ref (ad (xY X) 42)), some (.int (nI (k))), some (.int (nI (d))), some (.int (nI (bset (pth o d) 6))), some (.int (nI (gcU V k o d))), some (.int (nI (UU V k o d 6 k))), some (.int (nI (i))), x9] 45 [] := by
  intro n
  induction n with
  | zero =>
    intro i T p W x9 hi hI hf hg
    have o1 := ho.1
    have o2 := ho.2.1
    have hM : T.1 26 0 = nI (V 0 0) := hI.2.1.1 0 (by decide)
    obtain rfl : i = V 0 0 := by omega
    have hg : _ = p := hg
    refine z_iload8 C dX3_follow_45 ?_
    refine z_aload1 C dX3_follow_47 ?_
    refine z_get C dX3_follow_48 fl_X3_follow_55 (k_Rock _ isR_now) rfl ?_
    refine z_top C hM ?_
    refine z_icmp_geN C 152 dX3_follow_51 (by decide) (by omega) (by omega) (fun c51 => ?_) (fun c51 => ?_)
    · exact z_vretR C dX3_follow_152 hr ⟨⟨W, by rw [hg]; exact hI⟩, hf⟩
    · exact absurd c51 (by omega)
  | succ n ih =>
    intro i T p W x9 hi hI hf hg
    have o1 := ho.1
    have o2 := ho.2.1
    have hM : T.1 26 0 = nI (V 0 0) := hI.2.1.1 0 (by decide)
    have hpb := pth_b (o := o) (d := d) (j := i) (by omega)
    have hop := rO_iff hI.2.1 ho (m := i) (by omega)
    have hg : rdF V k L (e + 1) d o s = foldN (rdJ V k L e d o) n (i + 1) (rdJ V k L e d o i p) := hg
    refine z_iload8 C dX3_follow_45 ?_
    refine z_aload1 C dX3_follow_47 ?_
    refine z_get C dX3_follow_48 fl_X3_follow_55 (k_Rock _ isR_now) rfl ?_
    refine z_top C hM ?_
    refine z_icmp_geN C 152 dX3_follow_51 (by decide) (by omega) (by omega) (fun c51 => ?_) (fun c51 => ?_)
    · exact absurd c51 (by omega)
    · refine z_iload5 C dX3_follow_54 ?_
      refine z_iload8 C dX3_follow_56 ?_
      refine z_ishr C dX3_follow_58 ?_
      refine z_iconstN 1 C dX3_follow_59 ?_
      refine z_iand C dX3_follow_60 ?_
      refine z_if_ne C 146 dX3_follow_61 (by decide) (fun c61 => ?_) (fun c61 => ?_)
      · refine z_iinc8 C dX3_follow_146 (inc1 _) nl_i ?_
        refine z_goto C 45 dX3_follow_149 (by decide) ?_
        rw [rdJ_n (fun z => c61 (hpb.mpr z.2))] at hg
        exact ih (i + 1) T p W _ (by omega) hI hf hg
      · refine z_aload1 C dX3_follow_64 ?_
        refine z_iload8 C dX3_follow_65 ?_
        refine z_callVI C dX3_follow_67 (c_X2_isOpen isR_now (by omega)) gX3_follow_X2_isOpen md_X2_isOpen rfl (by omega) (k_Rock _ isR_now) rfl rfl rfl (Nat.le_of_ble_eq_true rfl) ?_
        refine z_if_eqB C 146 dX3_follow_70 (by decide) (fun c70 => ?_) (fun c70 => ?_)
        · refine z_iinc8 C dX3_follow_146 (inc1 _) nl_i ?_
          refine z_goto C 45 dX3_follow_149 (by decide) ?_
          rw [rdJ_n (fun z => c70 (hop.mpr (of_decide_eq_true z.1)))] at hg
          exact ih (i + 1) T p W _ (by omega) hI hf hg
        · have hcd : cand V o d i := ⟨decide_eq_true (hop.mp c70), hpb.mp c61⟩
          obtain ⟨hI4, h6, hgn⟩ := FI_in hI ho hk (by omega) hcd hp
          refine z_aload0 C dX3_follow_73 ?_
          refine z_get C dX3_follow_74 fl_X3_follow_9 (k_Round _) rfl ?_
          refine z_iload4 C dX3_follow_77 ?_
          refine z_iload8 C dX3_follow_79 ?_
          refine z_iast C dX3_follow_81 (k_i3 _) (by omega) ?_
          refine z_aload2 C dX3_follow_82 ?_
          refine z_get C dX3_follow_83 fl_X3_follow_52 (k_Rock _ isR_trial) rfl ?_
          refine z_iload3 C dX3_follow_86 ?_
          refine z_iload7 C dX3_follow_87 ?_
          refine z_iast C dX3_follow_89 (k_size _ isR_trial) (by omega) ?_
          refine z_aload2 C dX3_follow_90 ?_
          refine z_aload1 C dX3_follow_91 ?_
          refine z_iload8 C dX3_follow_92 ?_
          refine z_callVV C dX3_follow_94 (c_X2_markAsIn isR_trial isR_now (by omega)) gX3_follow_X2_markAsIn md_X2_markAsIn rfl (by omega) (k_Rock _ isR_trial) rfl rfl rfl (Nat.le_of_ble_eq_true rfl) ?_
          refine z_aload2 C dX3_follow_97 ?_
          refine z_iload3 C dX3_follow_98 ?_
          refine z_iload8 C dX3_follow_99 ?_
          refine z_bipush (v := nI 60) C dX3_follow_101 (by decide) ?_
          refine z_callVI C dX3_follow_103 (c_X2_rubTimes isR_trial (by omega) (by omega) (by decide)) gX3_follow_X2_rubTimes md_X2_rubTimes rfl (by omega) (k_Rock _ isR_trial) rfl rfl rfl (Nat.le_of_ble_eq_true rfl) ?_
          refine z_pop C dX3_follow_106 rfl ?_
          refine z_aload2 C dX3_follow_107 ?_
          refine z_iload8 C dX3_follow_108 ?_
          refine z_callVI C dX3_follow_110 (c_X2_isGone isR_trial (by omega)) gX3_follow_X2_isGone md_X2_isGone rfl (by omega) (k_Rock _ isR_trial) rfl rfl rfl (Nat.le_of_ble_eq_true rfl) ?_
          refine z_if_eqB C 120 dX3_follow_113 (by decide) (fun c113 => ?_) (fun c113 => ?_)
          · refine z_iconstN 0 C dX3_follow_120 ?_
            refine z_istore9 C dX3_follow_121 nl_i ?_
            refine z_aload0 C dX3_follow_123 ?_
            refine z_aload1 C dX3_follow_124 ?_
            refine z_aload2 C dX3_follow_125 ?_
            refine z_iload3 C dX3_follow_126 ?_
            refine z_iload4 C dX3_follow_127 ?_
            refine z_iconstN 1 C dX3_follow_129 ?_
            refine z_iaddN C dX3_follow_130 ?_
            refine z_iload5 C dX3_follow_131 ?_
            refine z_iconstN 1 C dX3_follow_133 ?_
            refine z_iload8 C dX3_follow_134 ?_
            refine z_ishl C dX3_follow_136 ?_
            refine z_ior C dX3_follow_137 ?_
            refine z_top C (or_pthq (show i < 6 by omega)) ?_
            refine z_iload6 C dX3_follow_138 ?_
            refine z_iload9 C dX3_follow_140 ?_
            refine z_iaddN C dX3_follow_142 ?_
            refine z_top (y := nI (gcU V k (qu o d i) (d + 1))) C (by rw [gcU_s (by omega) hcd, if_neg (fun z => c113 (hgn.mpr z))]) ?_
            refine z_callVR C dX3_follow_143 (hih (fT4 T V k o d i) p (qu o d i) (fW3 W V k o d i) hI4 h6 (fun j hj => by by_cases c : j = d; (subst c; rw [qu_me]; omega); rw [qu_no c]; exact hp j (by omega))) gX3_follow_X3_follow md_X3_follow rfl (by omega) (k_Round _) rfl rfl rfl (Nat.le_of_ble_eq_true rfl) ?_
            intro S0 hS0
            obtain ⟨⟨W', hI0⟩, hf0⟩ := hS0
            refine z_iinc8 C dX3_follow_146 (inc1 _) nl_i ?_
            refine z_goto C 45 dX3_follow_149 (by decide) ?_
            rw [rdJ_y hcd] at hg
            exact ih (i + 1) S0 _ W' _ (by omega) (FI_up hI0) (hf.tr (fT4_fr.tr hf0)) hg
          · refine z_iconstN 1 C dX3_follow_116 ?_
            refine z_goto C 121 dX3_follow_117 (by decide) ?_
            refine z_istore9 C dX3_follow_121 nl_i ?_
            refine z_aload0 C dX3_follow_123 ?_
            refine z_aload1 C dX3_follow_124 ?_
            refine z_aload2 C dX3_follow_125 ?_
            refine z_iload3 C dX3_follow_126 ?_
            refine z_iload4 C dX3_follow_127 ?_
            refine z_iconstN 1 C dX3_follow_129 ?_
            refine z_iaddN C dX3_follow_130 ?_
            refine z_iload5 C dX3_follow_131 ?_
            refine z_iconstN 1 C dX3_follow_133 ?_
            refine z_iload8 C dX3_follow_134 ?_
            refine z_ishl C dX3_follow_136 ?_
            refine z_ior C dX3_follow_137 ?_
            refine z_top C (or_pthq (show i < 6 by omega)) ?_
            refine z_iload6 C dX3_follow_138 ?_
            refine z_iload9 C dX3_follow_140 ?_
            refine z_iaddN C dX3_follow_142 ?_
            refine z_top (y := nI (gcU V k (qu o d i) (d + 1))) C (by rw [gcU_s (by omega) hcd, if_pos (hgn.mp c113)]) ?_
            refine z_callVR C dX3_follow_143 (hih (fT4 T V k o d i) p (qu o d i) (fW3 W V k o d i) hI4 h6 (fun j hj => by by_cases c : j = d; (subst c; rw [qu_me]; omega); rw [qu_no c]; exact hp j (by omega))) gX3_follow_X3_follow md_X3_follow rfl (by omega) (k_Round _) rfl rfl rfl (Nat.le_of_ble_eq_true rfl) ?_
            intro S0 hS0
            obtain ⟨⟨W', hI0⟩, hf0⟩ := hS0
            refine z_iinc8 C dX3_follow_146 (inc1 _) nl_i ?_
            refine z_goto C 45 dX3_follow_149 (by decide) ?_
            rw [rdJ_y hcd] at hg
            exact ih (i + 1) S0 _ W' _ (by omega) (FI_up hI0) (hf.tr (fT4_fr.tr hf0)) hg

set_option maxRecDepth 20000 in
theorem fl_X3_follow_28 : FL RX3 wsX3_follow 28 3 2 := ⟨RX3, TX3, 4, rfl, (fun w h => List.mem_cons_of_mem _ (List.mem_append_left _ (List.mem_append_right _ h))), by decide, by decide +kernel⟩
theorem md_X3_weigh : MD yX3_weigh wsX3_weigh 1 2 none := ⟨_, _, rfl, by decide, by decide +kernel, by decide +kernel, by decide +kernel⟩
set_option maxHeartbeats 4000000 in
set_option maxRecDepth 100000 in
theorem c_X3_follow0 {l : Launch} {Y : LY} {S : GS} {V : VR} {k L : Nat} {s : RS} {o : Nat → Nat} {W : VR} (ho : Ok V) (hk : k < V 0 1) (hL : L ≤ 6) (hI : FI S V k L s o L W) : CtR l yX3_follow wsX3_follow 6 Y [.ref (ad Y 2), .ref (ad Y 26), .ref (ad Y 42), .int (nI k), .int (nI L), .int (nI (bset (pth o L) 6)), .int (nI (gcU V k o L))] S (fun u => (∃ W', FI u V k L (rdF V k L 0 L o s) o L W') ∧ Fr scr S u) := by
  refine mkR (cc := cX3_follow) (maxL := 10) rfl rfl (Nat.le_of_ble_eq_true rfl) ?_
  intro X hl hY C hr
  subst hl
  subst hY
  have o1 := ho.1
  show Zj X S [some (.ref (ad (xY X) 2)), some (.ref (ad (xY X) 26)), some (.ref (ad (xY X) 42)), some (.int (nI k)), some (.int (nI L)), some (.int (nI (bset (pth o L) 6))), some (.int (nI (gcU V k o L))), none, none, none] 0 []
  refine z_iload4 C dX3_follow_0 ?_
  refine z_aload0 C dX3_follow_2 ?_
  refine z_get C dX3_follow_3 fl_X3_follow_28 (k_Round _) rfl ?_
  refine z_top C hI.1.1.1 ?_
  refine z_icmp_ltN C 16 dX3_follow_6 (by decide) (by omega) (by omega) (fun c6 => ?_) (fun c6 => ?_)
  · exact absurd c6 (by omega)
  · refine z_aload0 C dX3_follow_9 ?_
    refine z_iload6 C dX3_follow_10 ?_
    refine z_callVR C dX3_follow_12 (c_X3_weigh ho hL hI.1) gX3_follow_X3_weigh md_X3_weigh rfl (by decide) (k_Round _) rfl rfl rfl (Nat.le_of_ble_eq_true rfl) ?_
    intro S0 hS0
    exact z_vretR C dX3_follow_15 hr ⟨⟨W, hS0.1, HC_fr hI.2.1 hS0.2 (fun q h1 h2 h3 => by omega), HC_fr hI.2.2.1 hS0.2 (fun q h1 h2 h3 => by omega), hI.2.2.2⟩, hS0.2.mono (fun q h => Or.inl (by omega))⟩

theorem le_of_nlt {x y : Int32} (h : ¬ y < x) : x ≤ y := by
  rw [Int32.lt_iff_toInt_lt] at h
  rw [Int32.le_iff_toInt_le]
  omega

set_option maxRecDepth 20000 in
theorem fl_X3_follow_32 : FL RX3 wsX3_follow 32 3 3 := ⟨RX3, TX3, 4, rfl, (fun w h => List.mem_cons_of_mem _ (List.mem_append_left _ (List.mem_append_right _ h))), by decide, by decide +kernel⟩
set_option maxHeartbeats 4000000 in
set_option maxRecDepth 100000 in
theorem c_X3_follow1 {l : Launch} {Y : LY} {S : GS} {V : VR} {k L d e : Nat} {s : RS} {o : Nat → Nat} (ho : Ok V) (hk : k < V 0 1) (hL : L ≤ 6) (hd : d + (e + 1) = L) (hp : ∀ j, j < d → o j < V 0 0) {W : VR} (hih : (∀ (S : GS) (s : RS) (o : Nat → Nat) (W : VR), FI S V k L s o (d + 1) W → W 6 k = UU V k o (d + 1) 6 k → (∀ j, j < d + 1 → o j < V 0 0) → CtR l yX3_follow wsX3_follow (e + 6) Y [.ref (ad Y 2), .ref (ad Y 26), .ref (ad Y 42), .int (nI k), .int (nI (d + 1)), .int (nI (bset (pth o (d + 1)) 6)), .int (nI (gcU V k o (d + 1)))] S (fun u => (∃ W', FI u V k L (rdF V k L e (d + 1) o s) o (d + 1) W') ∧ Fr scr S u))) (hI : FI S V k L s o d W) (h6 : W 6 k = UU V k o d 6 k) : CtR l yX3_follow wsX3_follow (e + 7) Y [.ref (ad Y 2), .ref (ad Y 26), .ref (ad Y 42), .int (nI k), .int (nI d), .int (nI (bset (pth o d) 6)), .int (nI (gcU V k o d))] S (fun u => (∃ W', FI u V k L (rdF V k L (e + 1) d o s) o d W') ∧ Fr scr S u) := by
  refine mkR (cc := cX3_follow) (maxL := 10) rfl rfl (Nat.le_of_ble_eq_true rfl) ?_
  intro X hl hY C hr
  subst hl
  subst hY
  have o1 := ho.1
  have o2 := ho.2.1
  have sl := gcU_le (V := V) (k := k) (d := d) (o := o)
  have pl := hI.1.1.2.2
  have hm := mI_le (a := gcU V k o d + L - d) (t := s.1) (by omega) (by omega)
  show Zj X S [some (.ref (ad (xY X) 2)), some (.ref (ad (xY X) 26)), some (.ref (ad (xY X) 42)), some (.int (nI k)), some (.int (nI d)), some (.int (nI (bset (pth o d) 6))), some (.int (nI (gcU V k o d))), none, none, none] 0 []
  refine z_iload4 C dX3_follow_0 ?_
  refine z_aload0 C dX3_follow_2 ?_
  refine z_get C dX3_follow_3 fl_X3_follow_28 (k_Round _) rfl ?_
  refine z_top C hI.1.1.1 ?_
  refine z_icmp_ltN C 16 dX3_follow_6 (by decide) (by omega) (by omega) (fun c6 => ?_) (fun c6 => ?_)
  · refine z_iload6 C dX3_follow_16 ?_
    refine z_aload0 C dX3_follow_18 ?_
    refine z_get C dX3_follow_19 fl_X3_follow_28 (k_Round _) rfl ?_
    refine z_top C hI.1.1.1 ?_
    refine z_iaddN C dX3_follow_22 ?_
    refine z_iload4 C dX3_follow_23 ?_
    refine z_isubN C dX3_follow_25 (by omega) ?_
    refine z_aload0 C dX3_follow_26 ?_
    refine z_get C dX3_follow_27 fl_X3_follow_32 (k_Round _) rfl ?_
    refine z_top C hI.1.1.2.1 ?_
    refine z_icmp_gt C 34 dX3_follow_30 (by decide) (fun c30 => ?_) (fun c30 => ?_)
    · refine z_aload2 C dX3_follow_34 ?_
      refine z_get C dX3_follow_35 fl_X3_follow_52 (k_Rock _ isR_trial) rfl ?_
      refine z_iload3 C dX3_follow_38 ?_
      refine z_iald C dX3_follow_39 (k_size _ isR_trial) (by omega) ?_
      refine z_top C (y := nI (UU V k o d 6 k)) (((hI.2.2.1.2.2 k (by rw [hI.2.2.2.2.2.1]; exact hk)).2.1).trans (by rw [h6])) ?_
      refine z_istore7 C dX3_follow_40 nl_i ?_
      refine z_iconstN 0 C dX3_follow_42 ?_
      refine z_istore8 C dX3_follow_43 nl_i ?_
      exact lp_X3_follow ho hk hL hd hp hih hr C (V 0 0) 0 S s W _ (by omega) hI Fr.rf rdF_s
    · exact z_vretR C dX3_follow_33 hr ⟨⟨W, by rw [rdF_stop (e + 1) d o s hd (by have := hm.mp (le_of_nlt c30); omega)]; exact hI⟩, Fr.rf⟩
  · exact absurd c6 (by omega)

theorem c_X3_follow {l : Launch} {Y : LY} {V : VR} {k L : Nat} (ho : Ok V) (hk : k < V 0 1) (hL : L ≤ 6) : ∀ (e d : Nat), d + e = L → ∀ (S : GS) (s : RS) (o : Nat → Nat) (W : VR), FI S V k L s o d W → W 6 k = UU V k o d 6 k → (∀ j, j < d → o j < V 0 0) → CtR l yX3_follow wsX3_follow (e + 6) Y [.ref (ad Y 2), .ref (ad Y 26), .ref (ad Y 42), .int (nI k), .int (nI (d)), .int (nI (bset (pth o (d)) 6)), .int (nI (gcU V k o (d)))] S (fun u => (∃ W', FI u V k L (rdF V k L e d o s) o d W') ∧ Fr scr S u) := by
  intro e
  induction e with
  | zero =>
    intro d hd S s o W hI _ _
    have e : d = L := by omega
    subst e
    exact c_X3_follow0 ho hk hL hI
  | succ e ih => intro d hd S s o W hI h6 hp; exact c_X3_follow1 ho hk hL hd hp (fun S s o W h h6 hp => ih (d + 1) (by omega) S s o W h h6 hp) hI h6

theorem md_X2_openMarks : MD yX2_openMarks wsX2_openMarks 0 3 (some .int) := ⟨_, _, rfl, by decide, by decide +kernel, by decide +kernel, by decide +kernel⟩
set_option maxRecDepth 20000 in
theorem fl_X3_plan_28 : FL RX3 wsX3_plan 28 3 2 := ⟨RX3, TX3, 4, rfl, (fun w h => List.mem_cons_of_mem _ (List.mem_append_left _ (List.mem_append_right _ h))), by decide, by decide +kernel⟩
theorem fp_X3_plan_28 : FP RX3 wsX3_plan 28 3 2 .int := ⟨fl_X3_plan_28, RX3, TX3, 4, tyX3, rfl, tyX3_ok, nmX3, rfl, by decide +kernel⟩
set_option maxRecDepth 20000 in
theorem fl_X3_plan_32 : FL RX3 wsX3_plan 32 3 3 := ⟨RX3, TX3, 4, rfl, (fun w h => List.mem_cons_of_mem _ (List.mem_append_left _ (List.mem_append_right _ h))), by decide, by decide +kernel⟩
theorem fp_X3_plan_32 : FP RX3 wsX3_plan 32 3 3 .int := ⟨fl_X3_plan_32, RX3, TX3, 4, tyX3, rfl, tyX3_ok, nmX3, rfl, by decide +kernel⟩
set_option maxHeartbeats 4000000 in
set_option maxRecDepth 100000 in
theorem c_X3_plan {l : Launch} {Y : LY} {S : GS} {V : VR} {k : Nat} (h : HC S 26 V) (ho : Ok V) (hk : k < V 0 1) : CtR l yX3_plan wsX3_plan 13 Y [.ref (ad Y 2), .ref (ad Y 26), .ref (ad Y 42), .int (nI k)] S (fun u => RD u V (opN V) (rdAll V k) (fun _ => 0) 0 ∧ Fr scr S u) := by
  refine mkR (cc := cX3_plan) (maxL := 4) rfl rfl (Nat.le_of_ble_eq_true rfl) ?_
  intro X hl hY C hr
  subst hl
  subst hY
  have o1 := ho.1
  have o2 := ho.2.1
  have ol := opN_le V
  have hb : HC (cBec S 42 26) 26 V := HC_keep dis_tn h
  have n1 : (cBec S 42 26).1 26 0 = nI (V 0 0) := hb.1 0 (by decide)
  have hn3 : HC (stI (stI (cBec S 42 26) 2 2 (nI (opN V))) 2 3 (-1)) 26 V := HC_of (HC_of hb (fun q h1 h2 => stI_no (by omega))) (fun q h1 h2 => stI_no (by omega))
  have n3 := hn3.1 0 (by decide)
  have hI : FI (stI (stI (cBec S 42 26) 2 2 (nI (opN V))) 2 3 (-1)) V k (opN V) (0, fun _ => 0) (fun _ => 0) 0 V := ⟨⟨⟨by rw [stI_ni (by decide), stI_me], stI_me _ _ _ _, by show 0 ≤ _; omega⟩, fun z => absurd z (by decide), fun j hj => absurd hj (by omega)⟩, hn3, HC_of (HC_of (HC_bec dis_tn h ho) (fun q h1 h2 => stI_no (by omega))) (fun q h1 h2 => stI_no (by omega)), ho, rfl, rfl, rfl⟩
  show Zj X S [some (.ref (ad (xY X) 2)), some (.ref (ad (xY X) 26)), some (.ref (ad (xY X) 42)), some (.int (nI k))] 0 []
  refine z_aload2 C dX3_plan_0 ?_
  refine z_aload1 C dX3_plan_1 ?_
  refine z_callVV C dX3_plan_2 (c_X2_become isR_trial isR_now) gX3_plan_X2_become md_X2_become rfl (by decide) (k_Rock _ isR_trial) rfl rfl rfl (Nat.le_of_ble_eq_true rfl) ?_
  refine z_aload0 C dX3_plan_5 ?_
  refine z_aload1 C dX3_plan_6 ?_
  refine z_callVI C dX3_plan_7 (c_X2_openMarks isR_now o1 n1) gX3_plan_X2_openMarks md_X2_openMarks rfl (by decide) (k_Rock _ isR_now) rfl rfl rfl (Nat.le_of_ble_eq_true rfl) ?_
  refine z_top C (congrArg nI (opN_c hb ho)) ?_
  refine z_put C dX3_plan_10 fp_X3_plan_28 (k_Round _) rfl rfl (Nat.le_of_ble_eq_true rfl) rfl ?_
  refine z_aload0 C dX3_plan_13 ?_
  refine z_iconst (v := (-1)) C dX3_plan_14 (by decide) ?_
  refine z_put C dX3_plan_15 fp_X3_plan_32 (k_Round _) rfl rfl (Nat.le_of_ble_eq_true rfl) rfl ?_
  refine z_aload0 C dX3_plan_18 ?_
  refine z_aload1 C dX3_plan_19 ?_
  refine z_aload2 C dX3_plan_20 ?_
  refine z_iload3 C dX3_plan_21 ?_
  refine z_iconstN 0 C dX3_plan_22 ?_
  refine z_iconstN 0 C dX3_plan_23 ?_
  refine z_aload1 C dX3_plan_24 ?_
  refine z_callVI C dX3_plan_25 (c_X2_goneSet isR_now o1 n3) gX3_plan_X2_goneSet md_X2_goneSet rfl (by decide) (k_Rock _ isR_now) rfl rfl rfl (Nat.le_of_ble_eq_true rfl) ?_
  refine z_top C ((goneV_c hn3 ho).trans (goneV_gN ho)) ?_
  refine z_callSI C dX3_plan_28 (c_J6_bitCount_0f7a4 (gN_lt ho)) gX3_plan_J6_bitCount_0f7a4 md_J6_bitCount_0f7a4 (by decide) rfl rfl (Nat.le_of_ble_eq_true rfl) ?_
  refine z_top (y := nI (gcU V k (fun _ => 0) 0)) C (congrArg nI (popc_bset _ o1)) ?_
  refine z_callVR C dX3_plan_31 (c_X3_follow (L := opN V) ho hk (by omega) (opN V) 0 (by omega) _ _ (fun _ => 0) V hI rfl (fun j hj => absurd hj (by omega))) gX3_plan_X3_follow md_X3_follow rfl (by omega) (k_Round _) rfl rfl rfl (Nat.le_of_ble_eq_true rfl) ?_
  intro S0 hS0
  obtain ⟨⟨W', hI0⟩, hf0⟩ := hS0
  exact z_vretR C dX3_plan_34 hr ⟨hI0.1, (fr_tr cBec_fr).tr ((Fr.I (by omega)).tr ((Fr.I (by omega)).tr hf0))⟩

set_option maxRecDepth 20000 in
theorem fl_X7_round_10 : FL RX7 wsX7_round 10 7 0 := ⟨RX7, TX7, 12, rfl, (fun w h => List.mem_cons_of_mem _ (List.mem_append_left _ (List.mem_append_left _ (List.mem_append_right _ h)))), by decide, by decide +kernel⟩
set_option maxRecDepth 20000 in
theorem fl_X7_round_55 : FL RX7 wsX7_round 55 7 9 := ⟨RX7, TX7, 12, rfl, (fun w h => List.mem_cons_of_mem _ (List.mem_append_left _ (List.mem_append_left _ (List.mem_append_right _ h)))), by decide, by decide +kernel⟩
set_option maxRecDepth 20000 in
theorem fl_X7_round_42 : FL RX7 wsX7_round 42 7 7 := ⟨RX7, TX7, 12, rfl, (fun w h => List.mem_cons_of_mem _ (List.mem_append_left _ (List.mem_append_left _ (List.mem_append_right _ h)))), by decide, by decide +kernel⟩
theorem md_X3_plan : MD yX3_plan wsX3_plan 3 4 none := ⟨_, _, rfl, by decide, by decide +kernel, by decide +kernel, by decide +kernel⟩
set_option maxRecDepth 20000 in
theorem fl_X7_round_212 : FL RX7 wsX7_round 212 3 1 := ⟨RX3, TX3, 4, rfl, (fun w h => List.mem_cons_of_mem _ (List.mem_append_left _ (List.mem_append_right _ h))), by decide, by decide +kernel⟩
set_option maxRecDepth 20000 in
theorem fl_X7_round_211 : FL RX7 wsX7_round 211 3 3 := ⟨RX3, TX3, 4, rfl, (fun w h => List.mem_cons_of_mem _ (List.mem_append_left _ (List.mem_append_right _ h))), by decide, by decide +kernel⟩
set_option maxHeartbeats 4000000 in
set_option maxRecDepth 100000 in
theorem c_X7_round {l : Launch} {Y : LY} {S : GS} {V : VR} (h : HC S 26 V) (ho : Ok V) {x y : Int32} : CtP l yX7_round wsX7_round 14 Y [.ref (ad Y 0), .int x, .int y] S (fun r u => r = aRound V x y ∧ Fr scr S u) := by
  refine mkP (cc := cX7_round) (maxL := 3) rfl rfl (Nat.le_of_ble_eq_true rfl) ?_
  intro X hl hY C hr
  subst hl
  subst hY
  have hM : S.1 26 0 = nI (V 0 0) := h.1 0 (by decide)
  have hK : S.1 26 1 = nI (V 0 1) := h.1 1 (by decide)
  have o1 := ho.1
  have o2 := ho.2.1
  have ol := opN_le V
  show Zj X S [some (.ref (ad (xY X) 0)), some (.int x), some (.int y)] 0 []
  refine z_aload0 C dX7_round_0 ?_
  refine z_iload1 C dX7_round_1 ?_
  refine z_callVI C dX7_round_2 (c_X7_hasMonk hK) gX7_round_X7_hasMonk md_X7_hasMonk rfl (by decide) (k_EM _) rfl rfl rfl (Nat.le_of_ble_eq_true rfl) ?_
  refine z_if_eqB C 13 dX7_round_5 (by decide) (fun c5 => ?_) (fun c5 => ?_)
  · refine z_iconst (v := (-1)) C dX7_round_13 (by decide) ?_
    exact z_iretP C dX7_round_14 hr rfl ⟨by rw [aRound_n (by rintro ⟨h1, h2⟩; contradiction)], Fr.rf⟩
  · refine z_iload2 C dX7_round_8 ?_
    refine z_iconst (v := (-1)) C dX7_round_9 (by decide) ?_
    refine z_icmp_ge C 15 dX7_round_10 (by decide) (fun c10 => ?_) (fun c10 => ?_)
    · refine z_iload2 C dX7_round_15 ?_
      refine z_aload0 C dX7_round_16 ?_
      refine z_get C dX7_round_17 fl_X7_round_10 (k_EM _) rfl ?_
      refine z_callVI C dX7_round_20 (c_X2_openMarks isR_now o1 hM) gX7_round_X2_openMarks md_X2_openMarks rfl (by decide) (k_Rock _ isR_now) rfl rfl rfl (Nat.le_of_ble_eq_true rfl) ?_
      refine z_top C (congrArg nI (opN_c h ho)) ?_
      refine z_icmp_lt C 29 dX7_round_23 (by decide) (fun c23 => ?_) (fun c23 => ?_)
      · obtain ⟨k, hk, rfl⟩ := inR_of (by omega) c5
        refine z_aload0 C dX7_round_29 ?_
        refine z_get C dX7_round_30 fl_X7_round_55 (k_EM _) rfl ?_
        refine z_aload0 C dX7_round_33 ?_
        refine z_get C dX7_round_34 fl_X7_round_10 (k_EM _) rfl ?_
        refine z_aload0 C dX7_round_37 ?_
        refine z_get C dX7_round_38 fl_X7_round_42 (k_EM _) rfl ?_
        refine z_iload1 C dX7_round_41 ?_
        refine z_callVR C dX7_round_42 (c_X3_plan h ho hk) gX7_round_X3_plan md_X3_plan rfl (by decide) (k_Round _) rfl rfl rfl (Nat.le_of_ble_eq_true rfl) ?_
        intro S0 hS0
        obtain ⟨hD, hf0⟩ := hS0
        refine z_iload2 C dX7_round_45 ?_
        refine z_if_ge C 59 dX7_round_46 (by decide) (fun c46 => ?_) (fun c46 => ?_)
        · refine z_aload0 C dX7_round_59 ?_
          refine z_get C dX7_round_60 fl_X7_round_55 (k_EM _) rfl ?_
          refine z_get C dX7_round_63 fl_X7_round_212 (k_Round _) rfl ?_
          obtain ⟨j, hj, rfl⟩ := y_of6 (by omega) c46 c23
          refine z_iload2 C dX7_round_66 ?_
          refine z_iald C dX7_round_67 (k_i4 _) (by omega) ?_
          exact z_iretP C dX7_round_68 hr rfl ⟨by rw [aRound_y hk o2 c10 c23, if_pos c46, nI_clamp (by omega)]; exact hD.2.1 (rdAll_in V k).2 j hj, hf0⟩
        · refine z_aload0 C dX7_round_49 ?_
          refine z_get C dX7_round_50 fl_X7_round_55 (k_EM _) rfl ?_
          refine z_get C dX7_round_53 fl_X7_round_211 (k_Round _) rfl ?_
          refine z_top C hD.1.2.1 ?_
          refine z_goto C 68 dX7_round_56 (by decide) ?_
          exact z_iretP C dX7_round_68 hr rfl ⟨by rw [aRound_y hk o2 c10 c23, if_neg c46], hf0⟩
      · refine z_bipush (v := (-4)) C dX7_round_26 (by decide) ?_
        exact z_iretP C dX7_round_28 hr rfl ⟨by rw [aRound_k c5 c10 c23], Fr.rf⟩
    · refine z_iconst (v := (-1)) C dX7_round_13 (by decide) ?_
      exact z_iretP C dX7_round_14 hr rfl ⟨by rw [aRound_n (by rintro ⟨h1, h2⟩; contradiction)], Fr.rf⟩
