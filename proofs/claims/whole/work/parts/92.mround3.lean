theorem md_X8_lays : MD yX8_lays wsX8_lays 1 3 none := ⟨_, _, rfl, by decide, by decide +kernel, by decide +kernel, by decide +kernel⟩
set_option maxHeartbeats 4000000 in
set_option maxRecDepth 100000 in
theorem lZ_X8_best {X : CX} {S : GS} {V : VR} {k : Nat} (h : HW (S.1 179) 0 V) (ho : Ok V) (hk : k < V 0 1) (C : Cx X cX8_bestRound RX8 wsX8_bestRound 4) {s : RS} {o : Nat → Nat} {T : GS} {x6 x7 x8 : Option Value} (hp : ∀ j, j < opN V → o j < V 0 0) (hR : MR T V k s o (opN V)) (hf : FrM S T) (kk : (∀ T' x6 x7 x8, MR T' V k (rdW V k (opN V) o s) o (opN V) → FrM S T' → Zj X T' [some (.ref (ad (xY X) 178)), some (.int (nI (k))), some (.int (nI (bset (openP V) (V 0 0)))), some (.int (nI (opN V))), some (.int (mI (rdW V k (opN V) o s).1)), some (.int (mI (opN V))), x6, x7, x8] 32 [])) : Zj X T [some (.ref (ad (xY X) 178)), some (.int (nI (k))), some (.int (nI (bset (openP V) (V 0 0)))), some (.int (nI (opN V))), some (.int (mI s.1)), some (.int (nI (opN V))), x6, x7, x8] 32 [] := by
  have o1 := ho.1
  have o2 := ho.2.1
  have ol := opN_le V
  have h0 := HW_low h ho hf
  have hM : T.1 179 0 = nI (V 0 0) := h0.1.1
  have pl := hR.2.2.2
  have sl := gcU_le (V := V) (k := k) (d := opN V) (o := o)
  have hm := mI_le (a := gcU V k o (opN V)) (t := s.1) (by omega) (by omega)
  refine z_iload5 C dX8_bestRound_32 ?_
  refine z_if_ltN C 265 dX8_bestRound_34 (by decide) (by omega) ?_
  refine z_iconstN 0 C dX8_bestRound_37 ?_
  refine z_istore6 C dX8_bestRound_38 nl_i ?_
  refine z_iconstN 0 C dX8_bestRound_40 ?_
  refine z_istore7 C dX8_bestRound_41 nl_i ?_
  have lA := lA_X8_best (k := k) (V := V) (d := opN V) (o := o) (mst := mI s.1) (x8 := x8) (T := T) (by omega) (fun j hj => by have := hp j hj; omega) hR.2.1 C (opN V) 0 (by omega)
  rw [pth0] at lA
  refine lA ?_
  refine z_iload5 C dX8_bestRound_70 ?_
  refine z_iload3 C dX8_bestRound_72 ?_
  refine z_icmp_neN C 140 dX8_bestRound_73 (by decide) (by omega) (by omega) (fun c73 => ?_) (fun c73 => ?_)
  · exact absurd rfl c73
  · refine z_aload0 C dX8_bestRound_76 ?_
    refine z_iload5 C dX8_bestRound_77 ?_
    refine z_callVR C dX8_bestRound_79 (c_X8_lays (by omega)) gX8_bestRound_X8_lays md_X8_lays rfl (by decide) (k_Model _) rfl rfl rfl (Nat.le_of_ble_eq_true rfl) ?_
    intro T1 hT1
    obtain ⟨l1, l2, l3, l4⟩ := hT1
    obtain ⟨v2, vh⟩ := UU_in ho hk (opN V) hp
    have v1 : HW (T1.1 179) 586 (UU V k o (opN V)) := HW_mv (hR.2.2.1 (opN V) (Nat.le_refl _)) v2 (fun i hi => by rw [Nat.zero_add]; exact l1 i hi)
    have hf1 : FrM S T1 := hf.tr ⟨fun q a _ => l3 q a, fun i hi => l2 i (Or.inl hi), fun q _ => by rw [l4]⟩
    refine z_aload0 C dX8_bestRound_82 ?_
    refine z_sipush (v := nI 586) C dX8_bestRound_83 (by decide) ?_
    refine z_callVI C dX8_bestRound_86 (c_X8_goneOnes (by decide) v2.1 v1.1.1) gX8_bestRound_X8_goneOnes md_X8_goneOnes rfl (by decide) (k_Model _) rfl rfl rfl (Nat.le_of_ble_eq_true rfl) ?_
    refine z_top C ((goneV_m v1 v2).trans (goneV_gN v2)) ?_
    refine z_callSI C dX8_bestRound_89 (c_X8_ones (gN_lt v2)) gX8_bestRound_X8_ones md_X8_ones (by decide) rfl rfl (Nat.le_of_ble_eq_true rfl) ?_
    refine z_top (y := nI (gcU V k o (opN V))) C (by unfold gN; rw [popc_bset _ v2.1, vh 0 (by decide)]; rfl) ?_
    refine z_istore7 C dX8_bestRound_92 nl_i ?_
    refine z_iload7 C dX8_bestRound_94 ?_
    refine z_iload4 C dX8_bestRound_96 ?_
    refine z_icmp_le C 134 dX8_bestRound_98 (by decide) (fun c98 => ?_) (fun c98 => ?_)
    · refine z_iinc5 C dX8_bestRound_134 rfl nl_i ?_
      refine z_goto C 262 dX8_bestRound_137 (by decide) ?_
      refine z_goto C 32 dX8_bestRound_262 (by decide) ?_
      have es : rdW V k (opN V) o s = s := RD_nw (by have := hm.mp c98; omega)
      rw [es] at kk
      rw [dec1 (by omega)]
      exact kk T1 _ _ _ (MR_of hR (l3 _ (by decide)) (fun j _ => by rw [l3 _ (by decide)]) (l3 _ (by decide))) hf1
    · refine z_iload7 C dX8_bestRound_101 ?_
      refine z_istore4 C dX8_bestRound_103 nl_i ?_
      refine z_iconstN 0 C dX8_bestRound_105 ?_
      refine z_istore8 C dX8_bestRound_106 nl_i ?_
      refine lB_X8_best (o := o) (by omega) nl_i C (opN V) 0 T1 (by omega) (fun j hj => by rw [l3 185 (by decide)]; exact hR.2.1 j hj) (fun j hj => absurd hj (by omega)) (fun T2 b1 b2 b3 => ?_)
      refine z_iinc5 C dX8_bestRound_134 rfl nl_i ?_
      refine z_goto C 262 dX8_bestRound_137 (by decide) ?_
      refine z_goto C 32 dX8_bestRound_262 (by decide) ?_
      have es : rdW V k (opN V) o s = (gcU V k o (opN V) + 1, o) := by unfold rdW; rw [if_pos (Nat.le_of_not_lt (fun z => c98 (hm.mpr z)))]
      rw [es] at kk
      rw [dec1 (by omega), show nI (gcU V k o (opN V)) = mI ((gcU V k o (opN V) + 1, o) : RS).1 from mI_s.symm]
      refine kk T2 _ _ _ ⟨fun _ => b1, fun j hj => ?_, fun j hj => ?_, by show gcU V k o (opN V) + 1 ≤ _; omega⟩ (hf1.tr ⟨fun q a b => b2 q (by omega), fun i _ => by rw [b2 179 (by decide)], fun q _ => by rw [b3]⟩)
      · rw [b2 185 (by decide), l3 185 (by decide)]
        exact hR.2.1 j hj
      · rw [b2 187 (by decide), l3 187 (by decide)]
        exact hR.2.2.1 j hj

theorem md_X8_holds : MD yX8_holds wsX8_holds 1 3 none := ⟨_, _, rfl, by decide, by decide +kernel, by decide +kernel, by decide +kernel⟩
set_option maxHeartbeats 4000000 in
set_option maxRecDepth 100000 in
theorem lS_X8_best {X : CX} {S : GS} {V : VR} {k : Nat} (h : HW (S.1 179) 0 V) (ho : Ok V) (hk : k < V 0 1) (C : Cx X cX8_bestRound RX8 wsX8_bestRound 4) {e d : Nat} {o : Nat → Nat} (hd : d + (e + 1) = opN V) (hp : ∀ j, j < d → o j < V 0 0) (ihm : (∀ (o : Nat → Nat) (s : RS) (T : GS) (x6 x7 x8 : Option Value), (∀ j, j < d + 1 → o j < V 0 0) → MR T V k s o (d + 1) → T.1 185 (d + 1) = mI 0 → FrM S T → (∀ T' x6 x7 x8, MR T' V k (rdF V k (opN V) e (d + 1) o s) o (d + 1) → FrM S T' → Zj X T' [some (.ref (ad (xY X) 178)), some (.int (nI (k))), some (.int (nI (bset (openP V) (V 0 0)))), some (.int (nI (opN V))), some (.int (mI (rdF V k (opN V) e (d + 1) o s).1)), some (.int (mI (d + 1))), x6, x7, x8] 32 []) → Zj X T [some (.ref (ad (xY X) 178)), some (.int (nI (k))), some (.int (nI (bset (openP V) (V 0 0)))), some (.int (nI (opN V))), some (.int (mI s.1)), some (.int (nI (d + 1))), x6, x7, x8] 32 [])) : ∀ (n c m : Nat) (s : RS) (T : GS) (x6 x7 x8 : Option Value), c < n → m + c = V 0 0 → MR T V k s o d → T.1 185 d = mI m → FrM S T → (∀ T' x6 x7 x8, MR T' V k (foldN (rdJ V k (opN V) e d o) c m s) o (d) → FrM S T' → Zj X T' [some (.ref (ad (xY X) 178)), some (.int (nI (k))), some (.int (nI (bset (openP V) (V 0 0)))), some (.int (nI (opN V))), some (.int (mI (foldN (rdJ V k (opN V) e d o) c m s).1)), some (.int (mI (d))), x6, x7, x8] 32 []) → Zj X T [some (.ref (ad (xY X) 178)), some (.int (nI (k))), some (.int (nI (bset (openP V) (V 0 0)))), some (.int (nI (opN V))), some (.int (mI s.1)), some (.int (nI (d))), x6, x7, x8] 32 [] := by
  intro n
  induction n with
  | zero => intro c m s T x6 x7 x8 hc; exact absurd hc (by omega)
  | succ n ih =>
    intro c m s T x6 x7 x8 hc hmc hR h5 hf kk
    have o1 := ho.1
    have o2 := ho.2.1
    have ol := opN_le V
    have h0 := HW_low h ho hf
    have hM : T.1 179 0 = nI (V 0 0) := h0.1.1
    have pl := hR.2.2.2
    refine z_iload5 C dX8_bestRound_32 ?_
    refine z_if_ltN C 265 dX8_bestRound_34 (by decide) (by omega) ?_
    refine z_iconstN 0 C dX8_bestRound_37 ?_
    refine z_istore6 C dX8_bestRound_38 nl_i ?_
    refine z_iconstN 0 C dX8_bestRound_40 ?_
    refine z_istore7 C dX8_bestRound_41 nl_i ?_
    have lA := lA_X8_best (k := k) (V := V) (d := d) (o := o) (mst := mI s.1) (x8 := x8) (T := T) (by omega) (fun j hj => by have := hp j hj; omega) hR.2.1 C (d) 0 (by omega)
    rw [pth0] at lA
    refine lA ?_
    refine z_iload5 C dX8_bestRound_70 ?_
    refine z_iload3 C dX8_bestRound_72 ?_
    refine z_icmp_neN C 140 dX8_bestRound_73 (by decide) (by omega) (by omega) (fun c73 => ?_) (fun c73 => ?_)
    · refine z_aload0 C dX8_bestRound_140 ?_
      refine z_get C dX8_bestRound_141 fl_X8_bestRound_29 (k_Model _) rfl ?_
      refine z_iload5 C dX8_bestRound_144 ?_
      refine z_iald C dX8_bestRound_146 (k_i185 _) (by omega) ?_
      refine z_top C h5 ?_
      refine z_iconstN 1 C dX8_bestRound_147 ?_
      refine z_iadd C dX8_bestRound_148 ?_
      refine z_top C (mI_add (show m < 1000 by omega)) ?_
      refine z_istore7 C dX8_bestRound_149 nl_i ?_
      refine lC_X8_best (e := e) ho hM C c m (by omega) (fun hz => ?_) (fun c2 m2 hm2 hc2 hcd hz => ?_)
      · refine z_aload0 C dX8_bestRound_187 ?_
        refine z_get C dX8_bestRound_188 fl_X8_bestRound_29 (k_Model _) rfl ?_
        refine z_iload5 C dX8_bestRound_191 ?_
        refine z_iload7 C dX8_bestRound_193 ?_
        refine z_iast C dX8_bestRound_195 (k_i185 _) (by omega) ?_
        refine z_iload7 C dX8_bestRound_196 ?_
        refine z_aload0 C dX8_bestRound_198 ?_
        refine z_get C dX8_bestRound_199 fl_X8_bestRound_7 (k_Model _) rfl ?_
        refine z_iconstN 0 C dX8_bestRound_202 ?_
        refine z_iald C dX8_bestRound_203 (k_i179 _) (by omega) ?_
        refine z_top C (show (stI T 185 d (nI (V 0 0))).1 179 0 = nI (V 0 0) by rw [stI_no (by decide)]; exact hM) ?_
        refine z_icmp_neN C 213 dX8_bestRound_204 (by decide) (by omega) (by omega) (fun c204 => ?_) (fun c204 => ?_)
        · exact absurd rfl c204
        · refine z_iinc5 C dX8_bestRound_207 rfl nl_i ?_
          refine z_goto C 262 dX8_bestRound_210 (by decide) ?_
          refine z_goto C 32 dX8_bestRound_262 (by decide) ?_
          rw [hz s] at kk
          rw [dec1 (by omega)]
          exact kk _ _ _ _ (MR_of hR (stI_no (by decide)) (fun j hj => stI_ni (by omega)) (stI_no (by decide))) (hf.tr (FrM.I18 (by omega)))
      · have hR0 : MR (stI T 185 d (nI m2)) V k s o d := MR_of hR (stI_no (by decide)) (fun j hj => stI_ni (by omega)) (stI_no (by decide))
        refine z_aload0 C dX8_bestRound_187 ?_
        refine z_get C dX8_bestRound_188 fl_X8_bestRound_29 (k_Model _) rfl ?_
        refine z_iload5 C dX8_bestRound_191 ?_
        refine z_iload7 C dX8_bestRound_193 ?_
        refine z_iast C dX8_bestRound_195 (k_i185 _) (by omega) ?_
        refine z_iload7 C dX8_bestRound_196 ?_
        refine z_aload0 C dX8_bestRound_198 ?_
        refine z_get C dX8_bestRound_199 fl_X8_bestRound_7 (k_Model _) rfl ?_
        refine z_iconstN 0 C dX8_bestRound_202 ?_
        refine z_iald C dX8_bestRound_203 (k_i179 _) (by omega) ?_
        refine z_top C (show (stI T 185 d (nI m2)).1 179 0 = nI (V 0 0) by rw [stI_no (by decide)]; exact hM) ?_
        refine z_icmp_neN C 213 dX8_bestRound_204 (by decide) (by omega) (by omega) (fun c204 => ?_) (fun c204 => ?_)
        · refine z_aload0 C dX8_bestRound_213 ?_
          refine z_iload5 C dX8_bestRound_214 ?_
          refine z_callVR C dX8_bestRound_216 (c_X8_lays (by omega)) gX8_bestRound_X8_lays md_X8_lays rfl (by decide) (k_Model _) rfl rfl rfl (Nat.le_of_ble_eq_true rfl) ?_
          intro T1 hT1
          obtain ⟨l1, l2, l3, l4⟩ := hT1
          obtain ⟨v2, vh⟩ := UU_in ho hk (d) hp
          have v1 : HW (T1.1 179) 586 (UU V k o (d)) := HW_mv (hR0.2.2.1 (d) (Nat.le_refl _)) v2 (fun i hi => by rw [Nat.zero_add]; exact l1 i hi)
          have hf1 : FrM S T1 := (hf.tr (FrM.I18 (by omega))).tr ⟨fun q a _ => l3 q a, fun i hi => l2 i (Or.inl hi), fun q _ => by rw [l4]⟩
          have uk : k < UU V k o d 0 1 := by rw [vh 1 (by decide)]; exact hk
          have um : m2 < UU V k o d 0 0 := by rw [vh 0 (by decide)]; omega
          obtain ⟨w1, w2, -⟩ := HW_RT (k := k) (m := m2) 60 T1 _ v1 v2 uk um
          refine lD_X8_best (j := m2) C 60 T1 _ v1 v2 uk um (by omega) ?_
          refine z_iinc5 C dX8_bestRound_245 (inc1 _) nl_i ?_
          refine z_aload0 C dX8_bestRound_248 ?_
          refine z_iload5 C dX8_bestRound_249 ?_
          refine z_callVR C dX8_bestRound_251 (c_X8_holds (by omega)) gX8_bestRound_X8_holds md_X8_holds rfl (by decide) (k_Model _) rfl rfl rfl (Nat.le_of_ble_eq_true rfl) ?_
          intro T3 hT3
          obtain ⟨g1, g2, g3, g4⟩ := hT3
          have r2 : ∀ q, q ≠ 179 → (mRT 586 k m2 60 T1).1 q = (stI T 185 d (nI m2)).1 q := fun q hq => ((mRT_fr 60 T1).1 q hq).trans (l3 q hq)
          have hf3 : FrM S T3 := (hf1.tr (mRT_M (by omega) (by omega) 60 T1)).tr ⟨fun q a b => g3 q (by omega), fun i _ => by rw [g3 179 (by decide)], fun q _ => by rw [g4]⟩
          have hR3 := MR_in ho hk hp (show m2 < V 0 0 by omega) hR ((r2 186 (by decide)).trans (stI_no (by decide))) (r2 185 (by decide)) ((r2 187 (by decide)).trans (stI_no (by decide))) w1 g1 g2 g3
          refine z_aload0 C dX8_bestRound_254 ?_
          refine z_get C dX8_bestRound_255 fl_X8_bestRound_29 (k_Model _) rfl ?_
          refine z_iload5 C dX8_bestRound_258 ?_
          refine z_iconst (v := (-1)) C dX8_bestRound_260 (by decide) ?_
          refine z_iast C dX8_bestRound_261 (k_i185 _) (by omega) ?_
          refine z_goto C 32 dX8_bestRound_262 (by decide) ?_
          refine ihm (qu o d m2) s _ _ _ _ (fun j hj => by by_cases c : j = d; (subst c; rw [qu_me]; omega); rw [qu_no c]; exact hp j (by omega)) hR3 (stI_me _ _ _ _) (hf3.tr (FrM.I18 (by omega))) (fun T4 y6 y7 y8 hR4 hf4 => ?_)
          rw [mI_s]
          have kk2 := kk
          rw [hz s, show foldN (rdJ V k (opN V) e d o) (c2 + 1) m2 s = foldN (rdJ V k (opN V) e d o) c2 (m2 + 1) (rdJ V k (opN V) e d o m2 s) from rfl, rdJ_y hcd] at kk2
          refine ih c2 (m2 + 1) _ T4 y6 y7 y8 (by omega) (by omega) (MR_up hR4) ?_ hf4 kk2
          rw [mI_s, hR4.2.1 d (by omega), qu_me]
        · exact absurd c204 (by omega)
    · exact absurd c73 (by omega)

theorem lM_X8_best {X : CX} {S : GS} {V : VR} {k : Nat} (h : HW (S.1 179) 0 V) (ho : Ok V) (hk : k < V 0 1) (C : Cx X cX8_bestRound RX8 wsX8_bestRound 4) : ∀ (e d : Nat), d + e = opN V → ∀ (o : Nat → Nat) (s : RS) (T : GS) (x6 x7 x8 : Option Value), (∀ j, j < d → o j < V 0 0) → MR T V k s o d → T.1 185 d = mI 0 → FrM S T → (∀ T' x6 x7 x8, MR T' V k (rdF V k (opN V) e d o s) o (d) → FrM S T' → Zj X T' [some (.ref (ad (xY X) 178)), some (.int (nI (k))), some (.int (nI (bset (openP V) (V 0 0)))), some (.int (nI (opN V))), some (.int (mI (rdF V k (opN V) e d o s).1)), some (.int (mI (d))), x6, x7, x8] 32 []) → Zj X T [some (.ref (ad (xY X) 178)), some (.int (nI (k))), some (.int (nI (bset (openP V) (V 0 0)))), some (.int (nI (opN V))), some (.int (mI s.1)), some (.int (nI (d))), x6, x7, x8] 32 [] := by
  intro e
  induction e with
  | zero =>
    intro d hd o s T x6 x7 x8 hp hR _ hf kk
    have e : d = opN V := by omega
    subst e
    exact lZ_X8_best h ho hk C hp hR hf kk
  | succ e ih =>
    intro d hd o s T x6 x7 x8 hp hR h5 hf kk
    exact lS_X8_best h ho hk C (by omega) hp (fun o s T x6 x7 x8 => ih (d + 1) (by omega) o s T x6 x7 x8) (V 0 0 + 1) (V 0 0) 0 s T x6 x7 x8 (by omega) (by omega) hR h5 hf kk

theorem md_X8_freeOnes : MD yX8_freeOnes wsX8_freeOnes 0 3 (some .int) := ⟨_, _, rfl, by decide, by decide +kernel, by decide +kernel, by decide +kernel⟩
set_option maxHeartbeats 4000000 in
set_option maxRecDepth 100000 in
theorem c_X8_bestRound {l : Launch} {Y : LY} {S : GS} {V : VR} (h : HW (S.1 179) 0 V) (ho : Ok V) {k : Nat} (hk : k < V 0 1) : CtP l yX8_bestRound wsX8_bestRound 4 Y [.ref (ad Y 178), .int (nI k)] S (fun r u => r = mI (rdAll V k).1 ∧ (∀ j, j < opN V → u.1 186 j = nI ((rdAll V k).2 j)) ∧ FrM S u) := by
  refine mkP (cc := cX8_bestRound) (maxL := 9) rfl rfl (Nat.le_of_ble_eq_true rfl) ?_
  intro X hl hY C hr
  subst hl
  subst hY
  have hM : S.1 179 0 = nI (V 0 0) := h.1.1
  have hK : S.1 179 1 = nI (V 0 1) := h.1.2.1
  have o1 := ho.1
  have o2 := ho.2.1
  show Zj X S [some (.ref (ad (xY X) 178)), some (.int (nI k)), none, none, none, none, none, none, none] 0 []
  refine z_aload0 C dX8_bestRound_0 ?_
  refine z_callVI C dX8_bestRound_1 (c_X8_freeOnes h ho) gX8_bestRound_X8_freeOnes md_X8_freeOnes rfl (by decide) (k_Model _) rfl rfl rfl (Nat.le_of_ble_eq_true rfl) ?_
  refine z_istore2 C dX8_bestRound_4 nl_i ?_
  refine z_iload2 C dX8_bestRound_5 ?_
  refine z_callSI C dX8_bestRound_6 (c_X8_ones (bset_64 o1)) gX8_bestRound_X8_ones md_X8_ones (by decide) rfl rfl (Nat.le_of_ble_eq_true rfl) ?_
  refine z_top (y := nI (opN V)) C (congrArg nI (popc_bset _ o1)) ?_
  refine z_istore3 C dX8_bestRound_9 nl_i ?_
  refine z_iconst (v := (-1)) C dX8_bestRound_10 (by decide) ?_
  refine z_istore4 C dX8_bestRound_11 nl_i ?_
  refine z_iconstN 0 C dX8_bestRound_13 ?_
  refine z_istore5 C dX8_bestRound_14 nl_i ?_
  refine z_aload0 C dX8_bestRound_16 ?_
  refine z_callVV C dX8_bestRound_17 c_X8_tries gX8_bestRound_X8_tries md_X8_tries rfl (by decide) (k_Model _) rfl rfl rfl (Nat.le_of_ble_eq_true rfl) ?_
  refine z_aload0 C dX8_bestRound_20 ?_
  refine z_iconstN 0 C dX8_bestRound_21 ?_
  refine z_callVR C dX8_bestRound_22 (c_X8_holds (d := 0) (by omega)) gX8_bestRound_X8_holds md_X8_holds rfl (by decide) (k_Model _) rfl rfl rfl (Nat.le_of_ble_eq_true rfl) ?_
  intro T1 hT1
  obtain ⟨g1, g2, g3, g4⟩ := hT1
  have hf1 : FrM S T1 := mTr_fr.tr ⟨fun q a b => g3 q (by omega), fun i _ => by rw [g3 179 (by decide)], fun q _ => by rw [g4]⟩
  have hR : MR (stI T1 185 0 (-1)) V k (0, fun _ => 0) (fun _ => 0) 0 := ⟨fun z => absurd z (by decide), fun j hj => absurd hj (by omega), fun j hj => by
    obtain rfl : j = 0 := by omega
    refine HW_mv (HW_tr h ho) ho (fun x hx => ?_)
    rw [stI_no (by decide), Nat.zero_add]
    exact g1 x hx, by show 0 ≤ _; omega⟩
  refine z_aload0 C dX8_bestRound_25 ?_
  refine z_get C dX8_bestRound_26 fl_X8_bestRound_29 (k_Model _) rfl ?_
  refine z_iconstN 0 C dX8_bestRound_29 ?_
  refine z_iconst (v := (-1)) C dX8_bestRound_30 (by decide) ?_
  refine z_iast C dX8_bestRound_31 (k_i185 _) (by omega) ?_
  have lM := lM_X8_best h ho hk C (opN V) 0 (by omega) (fun _ => 0) (0, fun _ => 0) (stI T1 185 0 (-1)) none none none (fun j hj => absurd hj (by omega)) hR (stI_me _ _ _ _) (hf1.tr (FrM.I18 (by omega)))
  refine lM (fun T2 x6 x7 x8 hR2 hf2 => ?_)
  refine z_iload5 C dX8_bestRound_32 ?_
  refine z_if_lt C 265 dX8_bestRound_34 (by decide) (fun c34 => ?_) (fun c34 => absurd (by decide) c34)
  refine z_iload4 C dX8_bestRound_265 ?_
  exact z_iretP C dX8_bestRound_267 hr rfl ⟨rfl, hR2.1 (rdAll_in V k).2, hf2⟩

theorem md_X8_bestRound : MD yX8_bestRound wsX8_bestRound 1 9 (some .int) := ⟨_, _, rfl, by decide, by decide +kernel, by decide +kernel, by decide +kernel⟩
set_option maxRecDepth 20000 in
theorem fl_X8_round_32 : FL RX8 wsX8_round 32 8 11 := ⟨RX8, TX8, 15, rfl, (fun w h => List.mem_cons_of_mem _ (List.mem_append_right _ h)), by decide, by decide +kernel⟩
set_option maxHeartbeats 4000000 in
set_option maxRecDepth 100000 in
theorem c_X8_round {l : Launch} {Y : LY} {S : GS} {V : VR} (h : HW (S.1 179) 0 V) (ho : Ok V) {x y : Int32} : CtP l yX8_round wsX8_round 5 Y [.ref (ad Y 178), .int x, .int y] S (fun r u => r = aRound V x y ∧ FrM S u) := by
  refine mkP (cc := cX8_round) (maxL := 4) rfl rfl (Nat.le_of_ble_eq_true rfl) ?_
  intro X hl hY C hr
  subst hl
  subst hY
  have hM : S.1 179 0 = nI (V 0 0) := h.1.1
  have hK : S.1 179 1 = nI (V 0 1) := h.1.2.1
  have o1 := ho.1
  have o2 := ho.2.1
  have ol := opN_le V
  show Zj X S [some (.ref (ad (xY X) 178)), some (.int x), some (.int y), none] 0 []
  refine z_aload0 C dX8_round_0 ?_
  refine z_iload1 C dX8_round_1 ?_
  refine z_callVI C dX8_round_2 (c_X8_isMonk2 ho.2.1 hK) gX8_round_X8_isMonk md_X8_isMonk rfl (by decide) (k_Model _) rfl rfl rfl (Nat.le_of_ble_eq_true rfl) ?_
  refine z_if_eqB C 13 dX8_round_5 (by decide) (fun c5 => ?_) (fun c5 => ?_)
  · refine z_iconst (v := (-1)) C dX8_round_13 (by decide) ?_
    exact z_iretP C dX8_round_14 hr rfl ⟨by rw [aRound_n (by rintro ⟨h1, h2⟩; contradiction)], FrM.rf⟩
  · refine z_iload2 C dX8_round_8 ?_
    refine z_iconst (v := (-1)) C dX8_round_9 (by decide) ?_
    refine z_icmp_ge C 15 dX8_round_10 (by decide) (fun c10 => ?_) (fun c10 => ?_)
    · obtain ⟨k, hk, rfl⟩ := inR_of (by omega) c5
      refine z_aload0 C dX8_round_15 ?_
      refine z_iload1 C dX8_round_16 ?_
      refine z_callVP C dX8_round_17 (c_X8_bestRound h ho hk) gX8_round_X8_bestRound md_X8_bestRound rfl (by decide) (k_Model _) rfl rfl rfl (Nat.le_of_ble_eq_true rfl) ?_
      intro r0 S0 hS0
      obtain ⟨rfl, hb, hf⟩ := hS0
      have h0 := HW_low h ho hf
      refine z_istore3 C dX8_round_20 nl_i ?_
      refine z_iload2 C dX8_round_21 ?_
      refine z_if_ge C 29 dX8_round_22 (by decide) (fun c22 => ?_) (fun c22 => ?_)
      · refine z_iload2 C dX8_round_29 ?_
        refine z_aload0 C dX8_round_30 ?_
        refine z_callVI C dX8_round_31 (c_X8_freeOnes h0 ho) gX8_round_X8_freeOnes md_X8_freeOnes rfl (by decide) (k_Model _) rfl rfl rfl (Nat.le_of_ble_eq_true rfl) ?_
        refine z_callSI C dX8_round_34 (c_X8_ones (bset_64 o1)) gX8_round_X8_ones md_X8_ones (by decide) rfl rfl (Nat.le_of_ble_eq_true rfl) ?_
        refine z_top (y := nI (opN V)) C (congrArg nI (popc_bset _ o1)) ?_
        refine z_icmp_ge C 49 dX8_round_37 (by decide) (fun c37 => ?_) (fun c37 => ?_)
        · refine z_bipush (v := (-4)) C dX8_round_49 (by decide) ?_
          exact z_iretP C dX8_round_51 hr rfl ⟨by rw [aRound_k (inR_nI hk (by omega)) c10 (fun z => le_nlt.mpr z c37)], hf⟩
        · obtain ⟨j, hj, rfl⟩ := y_of6 (by omega) c22 (le_nlt.mp c37)
          refine z_aload0 C dX8_round_40 ?_
          refine z_get C dX8_round_41 fl_X8_round_32 (k_Model _) rfl ?_
          refine z_iload2 C dX8_round_44 ?_
          refine z_iald C dX8_round_45 (k_i186 _) (by omega) ?_
          refine z_goto C 51 dX8_round_46 (by decide) ?_
          exact z_iretP C dX8_round_51 hr rfl ⟨by rw [aRound_y hk o2 c10 (le_nlt.mp c37), if_pos c22, nI_clamp (by omega)]; exact hb j hj, hf⟩
      · refine z_iload3 C dX8_round_25 ?_
        refine z_goto C 51 dX8_round_26 (by decide) ?_
        exact z_iretP C dX8_round_51 hr rfl ⟨by rw [aRound_y hk o2 c10 (show y < nI (opN V) by have q := nI_pos' (n := opN V) (by omega); rw [Int32.lt_iff_toInt_lt]; rw [Int32.le_iff_toInt_le] at q c22; omega), if_neg c22], hf⟩
    · refine z_iconst (v := (-1)) C dX8_round_13 (by decide) ?_
      exact z_iretP C dX8_round_14 hr rfl ⟨by rw [aRound_n (by rintro ⟨h1, h2⟩; contradiction)], FrM.rf⟩
