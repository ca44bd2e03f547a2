def vAr (V : VR) (g : Nat → Nat) (r : Nat) : VR := fun f i => if f = 7 ∧ r ≤ i then g i + 1 else V f i
theorem vAr_s {V : VR} {g : Nat → Nat} {n : Nat} : vs (vAr V g (n + 1)) 7 n (g n + 1) = vAr V g n := by
  funext f i
  unfold vs vAr
  by_cases c : f = 7 ∧ i = n
  · rw [if_pos c, if_pos (by omega), c.2]
  · rw [if_neg c]
    by_cases d : f = 7 ∧ n + 1 ≤ i
    · rw [if_pos d, if_pos (by omega)]
    · rw [if_neg d, if_neg (by omega)]
theorem vAr_0 {V : VR} {g : Nat → Nat} : vAr V g 0 = vA V g := by
  funext f i
  unfold vAr vA
  by_cases c : f = 7
  · rw [if_pos ⟨c, by omega⟩, if_pos c]
  · rw [if_neg (fun z => c z.1), if_neg c]
theorem vAr_K {V : VR} {g : Nat → Nat} {w : Nat → Int32} {r : Nat} (h : HW w r V) : HW w r (vAr V g (V 0 1)) := by
  refine ⟨h.1, h.2.1, fun k hk => ?_⟩
  have hk : k < V 0 1 := hk
  have q := h.2.2 k hk
  refine ⟨q.1, q.2.1, ?_⟩
  have e : vAr V g (V 0 1) 7 k = V 7 k := by unfold vAr; rw [if_neg (by omega)]
  rw [e]
  exact q.2.2
theorem Ok_Ar {V : VR} {g : Nat → Nat} {r : Nat} (ho : Ok V) (hg : ∀ k, g k < V 0 0) : Ok (vAr V g r) := by
  refine ⟨ho.1, ho.2.1, ho.2.2.1, fun k hk => ?_⟩
  have hk : k < V 0 1 := hk
  have q := ho.2.2.2 k hk
  refine ⟨q.1, q.2.1, ?_⟩
  show vAr V g r 7 k ≤ V 0 0
  unfold vAr
  split
  · have := hg k
    omega
  · exact q.2.2
theorem dg_lt {M K c k : Nat} (h : 0 < M) : dg M K c k < M := Nat.mod_lt _ h
theorem dec1 {n : Nat} (h : n < 1000) : nI n + Int32.ofInt (-1) = mI n := by
  cases n with
  | zero => rfl
  | succ n => rw [mI_s]; exact pk_m1 n
theorem mI_sub {n : Nat} (h : n < 1000) : nI n - nI 1 = mI n := by
  cases n with
  | zero => rfl
  | succ n => rw [mI_s]; exact nI_pred n
theorem lf_s {M K c n : Nat} (hn : n < K) : c / M ^ (K - 1 - n) / M = c / M ^ (K - n) := by
  rw [Nat.div_div_eq_div_mul, ← Nat.pow_succ, show (K - 1 - n).succ = K - n by omega]
theorem dvl (a b : Nat) : a / b ≤ a := Nat.div_le_self a b

set_option maxRecDepth 20000 in
theorem fl_X8_sends_7 : FL RX8 wsX8_sends 7 8 0 := ⟨RX8, TX8, 15, rfl, (fun w h => List.mem_cons_of_mem _ (List.mem_append_right _ h)), by decide, by decide +kernel⟩
set_option maxHeartbeats 4000000 in
set_option maxRecDepth 100000 in
theorem la_X8_sends {X : CX} {S : GS} {V : VR} {N : Nat} {y : Int32} (h : HW (S.1 179) 0 V) (ho : Ok V) (C : Cx X cX8_sends RX8 wsX8_sends 5) : ∀ (n : Nat) (e : Nat), e + n = V 0 1 → Zj X S [some (.ref (ad (xY X) 178)), some (.int (nI (N))), some (.int (y)), some (.int (nI (V 0 0 ^ V 0 1))), some (.int (nI (V 0 1))), none, none, none, none] 50 [] → Zj X S [some (.ref (ad (xY X) 178)), some (.int (nI (N))), some (.int (y)), some (.int (nI (V 0 0 ^ e))), some (.int (nI (e))), none, none, none, none] 24 [] := by
  intro n
  induction n with
  | zero =>
    intro e he kk
    have o2 := ho.2.1
    obtain rfl : e = V 0 1 := by omega
    refine z_iload4 C dX8_sends_24 ?_
    refine z_aload0 C dX8_sends_26 ?_
    refine z_get C dX8_sends_27 fl_X8_sends_7 (k_Model _) rfl ?_
    refine z_iconstN 1 C dX8_sends_30 ?_
    refine z_iald C dX8_sends_31 (k_i179 _) (by omega) ?_
    refine z_top C h.1.2.1 ?_
    refine z_icmp_geN C 50 dX8_sends_32 (by decide) (by omega) (by omega) (fun c32 => ?_) (fun c32 => ?_)
    · exact kk
    · exact absurd c32 (by omega)
  | succ n ih =>
    intro e he kk
    have o1 := ho.1
    have o2 := ho.2.1
    refine z_iload4 C dX8_sends_24 ?_
    refine z_aload0 C dX8_sends_26 ?_
    refine z_get C dX8_sends_27 fl_X8_sends_7 (k_Model _) rfl ?_
    refine z_iconstN 1 C dX8_sends_30 ?_
    refine z_iald C dX8_sends_31 (k_i179 _) (by omega) ?_
    refine z_top C h.1.2.1 ?_
    refine z_icmp_geN C 50 dX8_sends_32 (by decide) (by omega) (by omega) (fun c32 => ?_) (fun c32 => ?_)
    · exact absurd c32 (by omega)
    · refine z_iload3 C dX8_sends_35 ?_
      refine z_aload0 C dX8_sends_36 ?_
      refine z_get C dX8_sends_37 fl_X8_sends_7 (k_Model _) rfl ?_
      refine z_iconstN 0 C dX8_sends_40 ?_
      refine z_iald C dX8_sends_41 (k_i179 _) (by omega) ?_
      refine z_top C h.1.1 ?_
      refine z_imulN C dX8_sends_42 ?_
      refine z_istore3 C dX8_sends_43 nl_i ?_
      refine z_iinc4 C dX8_sends_44 (inc1 _) nl_i ?_
      refine z_goto C 24 dX8_sends_47 (by decide) ?_
      exact ih (e + 1) (by omega) kk

set_option maxHeartbeats 4000000 in
set_option maxRecDepth 100000 in
theorem ld_X8_sends {X : CX} {S : GS} {V : VR} {N c : Nat} {y x4 : Int32} (h : HW (S.1 179) 0 V) (ho : Ok V) (hp : 0 < V 0 0) (hc : c < 10000) {x8 : Option Value} (C : Cx X cX8_sends RX8 wsX8_sends 5) : ∀ (n : Nat) (T : GS), n ≤ V 0 1 → HW (T.1 179) 586 (vAr V (dg (V 0 0) (V 0 1) c) n) → FrM S T → (∀ T' l', HW (T'.1 179) 586 (vA V (dg (V 0 0) (V 0 1) c)) → FrM S T' → (∀ o, o ≠ 179 → T'.1 o = T.1 o) → Zj X T' [some (.ref (ad (xY X) 178)), some (.int (nI (N))), some (.int (y)), some (.int (nI (V 0 0 ^ V 0 1))), some (.int (x4)), some (.int (nI (c))), some (.int (nI (l'))), some (.int (mI 0)), x8] 142 []) → Zj X T [some (.ref (ad (xY X) 178)), some (.int (nI (N))), some (.int (y)), some (.int (nI (V 0 0 ^ V 0 1))), some (.int (x4)), some (.int (nI (c))), some (.int (nI (c / V 0 0 ^ (V 0 1 - n)))), some (.int (mI n)), x8] 100 [] := by
  intro n
  induction n with
  | zero =>
    intro T hn hw hf kk
    refine z_iload7 C dX8_sends_100 ?_
    refine z_if_lt C 142 dX8_sends_102 (by decide) (fun c102 => ?_) (fun c102 => ?_)
    · rw [vAr_0] at hw
      exact kk T _ hw hf (fun _ _ => rfl)
    · exact absurd (by decide) c102
  | succ n ih =>
    intro T hn hw hf kk
    have o1 := ho.1
    have o2 := ho.2.1
    have h0 := HW_low h ho hf
    have hM : T.1 179 0 = nI (V 0 0) := h0.1.1
    have hK : T.1 179 1 = nI (V 0 1) := h0.1.2.1
    have w1 : HW ((stI T 179 (614 + n) (nI (c / V 0 0 ^ (V 0 1 - (n + 1)) % V 0 0))).1 179) 586 (vAr V (dg (V 0 0) (V 0 1) c) n) := by
      rw [← vAr_s]
      refine HW_stI (f := 7) (i := n) (Ok_Ar ho (fun k => dg_lt hp)) (Or.inr (Or.inr ⟨by omega, by show n < V 0 1; omega⟩)) (by simp [mo]; omega) ?_ (fun z => absurd z (by decide)) hw
      rw [if_pos rfl, sI_s]
      unfold dg
      rw [show V 0 1 - 1 - n = V 0 1 - (n + 1) by omega]
    have w2 : FrM T (stI T 179 (614 + n) (nI (c / V 0 0 ^ (V 0 1 - (n + 1)) % V 0 0))) := FrM.of Fr.M (fun i hi => stI_ni (by omega))
    have lb := dvl c (V 0 0 ^ (V 0 1 - (n + 1)))
    have e1 : (stI T 179 (614 + n) (nI (c / V 0 0 ^ (V 0 1 - (n + 1)) % V 0 0))).1 179 0 = nI (V 0 0) := by rw [stI_ni (by omega)]; exact hM
    rw [mI_s]
    refine z_iload7 C dX8_sends_100 ?_
    refine z_if_ltN C 142 dX8_sends_102 (by decide) (by omega) ?_
    refine z_aload0 C dX8_sends_105 ?_
    refine z_get C dX8_sends_106 fl_X8_sends_7 (k_Model _) rfl ?_
    refine z_sipush (v := nI 614) C dX8_sends_109 (by decide) ?_
    refine z_iload7 C dX8_sends_112 ?_
    refine z_iaddN C dX8_sends_114 ?_
    refine z_iload6 C dX8_sends_115 ?_
    refine z_aload0 C dX8_sends_117 ?_
    refine z_get C dX8_sends_118 fl_X8_sends_7 (k_Model _) rfl ?_
    refine z_iconstN 0 C dX8_sends_121 ?_
    refine z_iald C dX8_sends_122 (k_i179 _) (by omega) ?_
    refine z_top C hM ?_
    refine z_iremN C dX8_sends_123 (by omega) hp (by omega) ?_
    refine z_iast C dX8_sends_124 (k_i179 _) (by omega) ?_
    refine z_iload6 C dX8_sends_125 ?_
    refine z_aload0 C dX8_sends_127 ?_
    refine z_get C dX8_sends_128 fl_X8_sends_7 (k_Model _) rfl ?_
    refine z_iconstN 0 C dX8_sends_131 ?_
    refine z_iald C dX8_sends_132 (k_i179 _) (by omega) ?_
    refine z_top C e1 ?_
    refine z_idivN C dX8_sends_133 (by omega) hp (by omega) ?_
    refine z_istore6 C dX8_sends_134 nl_i ?_
    refine z_iinc7 C dX8_sends_136 rfl nl_i ?_
    refine z_goto C 100 dX8_sends_139 (by decide) ?_
    rw [dec1 (by omega), show V 0 1 - (n + 1) = V 0 1 - 1 - n by omega, lf_s (by omega)]
    rw [show V 0 1 - (n + 1) = V 0 1 - 1 - n by omega] at w1 w2
    exact ih _ (by omega) w1 (hf.tr w2) (fun T2 l2 a b d => kk T2 l2 a b (fun o ho => (d o ho).trans (by rw [stI_no ho])))

set_option maxRecDepth 20000 in
theorem fl_X8_sends_26 : FL RX8 wsX8_sends 26 8 9 := ⟨RX8, TX8, 15, rfl, (fun w h => List.mem_cons_of_mem _ (List.mem_append_right _ h)), by decide, by decide +kernel⟩
set_option maxHeartbeats 4000000 in
set_option maxRecDepth 100000 in
theorem lb_X8_sends {X : CX} {S : GS} {V : VR} {N c : Nat} {y x4 x7 : Int32} (h : HW (S.1 179) 0 V) (ho : Ok V) (hp : 0 < V 0 0) (hc : c < 10000) (C : Cx X cX8_sends RX8 wsX8_sends 5) : ∀ (n : Nat) (T : GS), n ≤ V 0 1 → (∀ k, n ≤ k → k < V 0 1 → T.1 184 k = nI (dg (V 0 0) (V 0 1) c k)) → FrM S T → (∀ T' l', (∀ k, k < V 0 1 → T'.1 184 k = nI (dg (V 0 0) (V 0 1) c k)) → FrM S T' → Zj X T' [some (.ref (ad (xY X) 178)), some (.int (nI (N))), some (.int (y)), some (.int (nI (V 0 0 ^ V 0 1))), some (.int (x4)), some (.int (nI (c))), some (.int (nI (l'))), some (.int (x7)), some (.int (mI 0))] 222 []) → Zj X T [some (.ref (ad (xY X) 178)), some (.int (nI (N))), some (.int (y)), some (.int (nI (V 0 0 ^ V 0 1))), some (.int (x4)), some (.int (nI (c))), some (.int (nI (c / V 0 0 ^ (V 0 1 - n)))), some (.int (x7)), some (.int (mI n))] 184 [] := by
  intro n
  induction n with
  | zero =>
    intro T hn hw hf kk
    refine z_iload8 C dX8_sends_184 ?_
    refine z_if_lt C 222 dX8_sends_186 (by decide) (fun c186 => ?_) (fun c186 => ?_)
    · exact kk T _ (fun k hk => hw k (by omega) hk) hf
    · exact absurd (by decide) c186
  | succ n ih =>
    intro T hn hw hf kk
    have o1 := ho.1
    have o2 := ho.2.1
    have h0 := HW_low h ho hf
    have hM : T.1 179 0 = nI (V 0 0) := h0.1.1
    have hK : T.1 179 1 = nI (V 0 1) := h0.1.2.1
    have lb := dvl c (V 0 0 ^ (V 0 1 - (n + 1)))
    have e1 : (stI T 184 n (nI (c / V 0 0 ^ (V 0 1 - (n + 1)) % V 0 0))).1 179 0 = nI (V 0 0) := by rw [stI_no (by decide)]; exact hM
    rw [mI_s]
    refine z_iload8 C dX8_sends_184 ?_
    refine z_if_ltN C 222 dX8_sends_186 (by decide) (by omega) ?_
    refine z_aload0 C dX8_sends_189 ?_
    refine z_get C dX8_sends_190 fl_X8_sends_26 (k_Model _) rfl ?_
    refine z_iload8 C dX8_sends_193 ?_
    refine z_iload6 C dX8_sends_195 ?_
    refine z_aload0 C dX8_sends_197 ?_
    refine z_get C dX8_sends_198 fl_X8_sends_7 (k_Model _) rfl ?_
    refine z_iconstN 0 C dX8_sends_201 ?_
    refine z_iald C dX8_sends_202 (k_i179 _) (by omega) ?_
    refine z_top C hM ?_
    refine z_iremN C dX8_sends_203 (by omega) hp (by omega) ?_
    refine z_iast C dX8_sends_204 (k_i184 _) (by omega) ?_
    refine z_iload6 C dX8_sends_205 ?_
    refine z_aload0 C dX8_sends_207 ?_
    refine z_get C dX8_sends_208 fl_X8_sends_7 (k_Model _) rfl ?_
    refine z_iconstN 0 C dX8_sends_211 ?_
    refine z_iald C dX8_sends_212 (k_i179 _) (by omega) ?_
    refine z_top C e1 ?_
    refine z_idivN C dX8_sends_213 (by omega) hp (by omega) ?_
    refine z_istore6 C dX8_sends_214 nl_i ?_
    refine z_iinc8 C dX8_sends_216 rfl nl_i ?_
    refine z_goto C 184 dX8_sends_219 (by decide) ?_
    rw [dec1 (by omega), show V 0 1 - (n + 1) = V 0 1 - 1 - n by omega, lf_s (by omega)]
    refine ih _ (by omega) (fun k k1 k2 => ?_) (hf.tr ⟨fun o a b => stI_no (by omega), fun i _ => by rw [stI_no (by decide)], fun _ _ => rfl⟩) kk
    by_cases z : k = n
    · subst z
      rw [stI_me]
      rfl
    · rw [stI_ni z]
      exact hw k (by omega) k2

theorem mGo_fr {S : GS} {n nk : Nat} : Fr om S (mGo S n nk) := foldN_fr (fun _ _ => mPs_fr) n 0 S

set_option maxHeartbeats 4000000 in
set_option maxRecDepth 100000 in
theorem lo_X8_sends {X : CX} {S : GS} {V : VR} {N : Nat} {y : Int32} (h : HW (S.1 179) 0 V) (ho : Ok V) (hp : 0 < V 0 0) (hN : N ≤ 30) (hy : -1 ≤ y) (hr : RtP X .int (fun r u => r = aSends V (nI N) y ∧ FrM S u)) (C : Cx X cX8_sends RX8 wsX8_sends 5) : ∀ (n : Nat) (c : Nat) (s : Nat × Nat) (T : GS) (x6 x7 x8 : Option Value), c + n = V 0 0 ^ V 0 1 → s.1 ≤ V 0 0 + 1 → (0 < s.1 → ∀ k, k < V 0 1 → T.1 184 k = nI (dg (V 0 0) (V 0 1) s.2 k)) → FrM S T → nl x6 → nl x7 → sdAll V N = sdF V N n c s → Zj X T [some (.ref (ad (xY X) 178)), some (.int (nI (N))), some (.int (y)), some (.int (nI (V 0 0 ^ V 0 1))), some (.int (mI s.1)), some (.int (nI (c))), x6, x7, x8] 76 [] := by
  intro n
  induction n with
  | zero =>
    intro c s T x6 x7 x8 hc hs hb hf hx6 hx7 hg
    have o1 := ho.1
    have o2 := ho.2.1
    have h0 := HW_low h ho hf
    have hM : T.1 179 0 = nI (V 0 0) := h0.1.1
    have hK : T.1 179 1 = nI (V 0 1) := h0.1.2.1
    have hg2 : sdAll V N = s := hg
    have hpw : V 0 0 ^ V 0 1 ≤ 6 ^ 5 := Nat.le_trans (Nat.pow_le_pow_left o1 _) (Nat.pow_le_pow_right (by decide) o2)
    have hsp := (sdAll_in hp N).2
    rw [hg2] at hsp
    obtain rfl : c = V 0 0 ^ V 0 1 := by omega
    refine z_iload5 C dX8_sends_76 ?_
    refine z_iload3 C dX8_sends_78 ?_
    refine z_icmp_geN C 228 dX8_sends_79 (by decide) (by omega) (by omega) (fun c79 => ?_) (fun c79 => ?_)
    · refine z_iload2 C dX8_sends_228 ?_
      refine z_if_ge C 237 dX8_sends_229 (by decide) (fun c229 => ?_) (fun c229 => ?_)
      · refine z_iload2 C dX8_sends_237 ?_
        refine z_aload0 C dX8_sends_238 ?_
        refine z_get C dX8_sends_239 fl_X8_sends_7 (k_Model _) rfl ?_
        refine z_iconstN 1 C dX8_sends_242 ?_
        refine z_iald C dX8_sends_243 (k_i179 _) (by omega) ?_
        refine z_top C hK ?_
        refine z_icmp_ge C 256 dX8_sends_244 (by decide) (fun c244 => ?_) (fun c244 => ?_)
        · refine z_bipush (v := (-4)) C dX8_sends_256 (by decide) ?_
          exact z_iretP C dX8_sends_258 hr rfl ⟨by rw [aSends_k (inB_nI (by omega) hN (by decide)) hy (by omega) (fun z => le_nlt.mpr z c244)], hf⟩
        · obtain ⟨j, hj, rfl⟩ := y_of o2 c229 (le_nlt.mp c244)
          refine z_aload0 C dX8_sends_247 ?_
          refine z_get C dX8_sends_248 fl_X8_sends_26 (k_Model _) rfl ?_
          refine z_iload2 C dX8_sends_251 ?_
          refine z_iald C dX8_sends_252 (k_i184 _) (by omega) ?_
          refine z_goto C 258 dX8_sends_253 (by decide) ?_
          exact z_iretP C dX8_sends_258 hr rfl ⟨by rw [aSends_y hN hy (by omega) (le_nlt.mp c244), if_pos c229, nI_clamp (by omega), hg2]; exact hb hsp j hj, hf⟩
      · refine z_iload4 C dX8_sends_232 ?_
        refine z_goto C 258 dX8_sends_234 (by decide) ?_
        exact z_iretP C dX8_sends_258 hr rfl ⟨by rw [aSends_y hN hy (by omega) (show y < nI (V 0 1) by have q := nI_pos' (n := V 0 1) (by omega); rw [Int32.lt_iff_toInt_lt]; rw [Int32.le_iff_toInt_le] at q c229; omega), if_neg c229, hg2], hf⟩
    · exact absurd c79 (by omega)
  | succ n ih =>
    intro c s T x6 x7 x8 hc hs hb hf hx6 hx7 hg
    have o1 := ho.1
    have o2 := ho.2.1
    have h0 := HW_low h ho hf
    have hM : T.1 179 0 = nI (V 0 0) := h0.1.1
    have hK : T.1 179 1 = nI (V 0 1) := h0.1.2.1
    have hpw : V 0 0 ^ V 0 1 ≤ 6 ^ 5 := Nat.le_trans (Nat.pow_le_pow_left o1 _) (Nat.pow_le_pow_right (by decide) o2)
    have hpw2 : 6 ^ 5 < 10000 := by decide
    have hdl := fun k => dg_lt (M := V 0 0) (K := V 0 1) (c := c) (k := k) hp
    have hsc := scC_le (V := V) (n := N) (g := dg (V 0 0) (V 0 1) c)
    have hm := mI_le (a := scC V N (dg (V 0 0) (V 0 1) c)) (t := s.1) (by omega) (by omega)
    obtain ⟨si1, si2⟩ := sdS_in (n := N) (c := c) hs
    refine z_iload5 C dX8_sends_76 ?_
    refine z_iload3 C dX8_sends_78 ?_
    refine z_icmp_geN C 228 dX8_sends_79 (by decide) (by omega) (by omega) (fun c79 => ?_) (fun c79 => ?_)
    · exact absurd c79 (by omega)
    · refine z_iload5 C dX8_sends_82 ?_
      refine z_istore6 C dX8_sends_84 nl_i ?_
      refine z_aload0 C dX8_sends_86 ?_
      refine z_callVV C dX8_sends_87 c_X8_tries gX8_sends_X8_tries md_X8_tries rfl (by decide) (k_Model _) rfl rfl rfl (Nat.le_of_ble_eq_true rfl) ?_
      refine z_aload0 C dX8_sends_90 ?_
      refine z_get C dX8_sends_91 fl_X8_sends_7 (k_Model _) rfl ?_
      refine z_iconstN 1 C dX8_sends_94 ?_
      refine z_iald C dX8_sends_95 (k_i179 _) (by omega) ?_
      refine z_top C (show (mTr T).1 179 1 = nI (V 0 1) by rw [mTr_fr.2.1 _ (by omega)]; exact hK) ?_
      refine z_iconstN 1 C dX8_sends_96 ?_
      refine z_isub C dX8_sends_97 ?_
      refine z_top C (mI_sub (by omega)) ?_
      refine z_istore7 C dX8_sends_98 nl_i ?_
      refine z_S (S' := mTr T) rfl ?_
      have w0 := vAr_K (g := dg (V 0 0) (V 0 1) c) (HW_tr h0 ho)
      have e0 : c = c / V 0 0 ^ (V 0 1 - V 0 1) := by rw [Nat.sub_self, Nat.pow_zero, Nat.div_one]
      have lD := ld_X8_sends (S := S) (N := N) (y := y) (x4 := mI s.1) (x8 := x8) h ho hp (show c < 10000 by omega) C (V 0 1) (mTr T) (Nat.le_refl _) w0 (hf.tr mTr_fr)
      rw [← e0] at lD
      refine lD (fun T2 l2 hw hf2 hob => ?_)
      have wo := Ok_A (g := dg (V 0 0) (V 0 1) c) ho (fun k _ => hdl k)
      obtain ⟨v1, v2, v3⟩ := HW_days N 0 T2 _ hw wo
      have v4 : FrM S (mGo T2 N (V 0 1)) := hf2.tr v3
      refine z_aload0 C dX8_sends_142 ?_
      refine z_iload1 C dX8_sends_143 ?_
      refine z_callVV C dX8_sends_144 (c_X8_goesOn hw wo (by omega)) gX8_sends_X8_goesOn md_X8_goesOn rfl (by decide) (k_Model _) rfl rfl rfl (Nat.le_of_ble_eq_true rfl) ?_
      refine z_aload0 C dX8_sends_147 ?_
      refine z_sipush (v := nI 586) C dX8_sends_148 (by decide) ?_
      refine z_callVI C dX8_sends_151 (c_X8_goneOnes (by decide) v2.1 v1.1.1) gX8_sends_X8_goneOnes md_X8_goneOnes rfl (by decide) (k_Model _) rfl rfl rfl (Nat.le_of_ble_eq_true rfl) ?_
      refine z_top C ((goneV_m v1 v2).trans (goneV_gN v2)) ?_
      refine z_callSI C dX8_sends_154 (c_X8_ones (gN_lt v2)) gX8_sends_X8_ones md_X8_ones (by decide) rfl rfl (Nat.le_of_ble_eq_true rfl) ?_
      refine z_top (y := nI (scC V N (dg (V 0 0) (V 0 1) c))) C (show nI (popc (gN (vDays (vA V (dg (V 0 0) (V 0 1) c)) N))) = nI (scC V N (dg (V 0 0) (V 0 1) c)) by unfold gN; rw [popc_bset _ (show vDays (vA V (dg (V 0 0) (V 0 1) c)) N 0 0 ≤ 6 from v2.1), vDays_hd N (by decide) (by decide)]; exact congrArg nI (sdsc_eq ho)) ?_
      refine z_istore7 C dX8_sends_157 nl_i ?_
      refine z_iload7 C dX8_sends_159 ?_
      refine z_iload4 C dX8_sends_161 ?_
      refine z_icmp_le C 222 dX8_sends_163 (by decide) (fun c163 => ?_) (fun c163 => ?_)
      · refine z_iinc5 C dX8_sends_222 (inc1 _) nl_i ?_
        refine z_goto C 76 dX8_sends_225 (by decide) ?_
        have es : sdS V N c s = s := by unfold sdS; rw [if_neg (by have := hm.mp c163; omega)]
        have hg : sdAll V N = sdF V N n (c + 1) (sdS V N c s) := hg
        rw [es] at hg
        refine ih (c + 1) s _ _ _ _ (by omega) hs (fun z k hk => ?_) v4 nl_i nl_i hg
        rw [(mGo_fr (S := T2) (n := N)).1 184 (by decide), hob 184 (by decide), show (mTr T).1 184 = T.1 184 from mBr_obj (by decide)]
        exact hb z k hk
      · refine z_iload7 C dX8_sends_166 ?_
        refine z_istore4 C dX8_sends_168 nl_i ?_
        refine z_iload5 C dX8_sends_170 ?_
        refine z_istore6 C dX8_sends_172 nl_i ?_
        refine z_aload0 C dX8_sends_174 ?_
        refine z_get C dX8_sends_175 fl_X8_sends_7 (k_Model _) rfl ?_
        refine z_iconstN 1 C dX8_sends_178 ?_
        refine z_iald C dX8_sends_179 (k_i179 _) (by omega) ?_
        refine z_top C (show (mGo T2 N (V 0 1)).1 179 1 = nI (V 0 1) by rw [v4.2.1 _ (by omega)]; exact h.1.2.1) ?_
        refine z_iconstN 1 C dX8_sends_180 ?_
        refine z_isub C dX8_sends_181 ?_
        refine z_top C (mI_sub (by omega)) ?_
        refine z_istore8 C dX8_sends_182 nl_i ?_
        have e0 : c = c / V 0 0 ^ (V 0 1 - V 0 1) := by rw [Nat.sub_self, Nat.pow_zero, Nat.div_one]
        have lB := lb_X8_sends (S := S) (N := N) (y := y) (x4 := nI (scC V N (dg (V 0 0) (V 0 1) c))) (x7 := nI (scC V N (dg (V 0 0) (V 0 1) c))) h ho hp (show c < 10000 by omega) C (V 0 1) (mGo T2 N (V 0 1)) (Nat.le_refl _) (fun k k1 k2 => absurd k1 (by omega)) v4
        rw [← e0] at lB
        refine lB (fun T3 l3 hb3 hf3 => ?_)
        refine z_iinc5 C dX8_sends_222 (inc1 _) nl_i ?_
        refine z_goto C 76 dX8_sends_225 (by decide) ?_
        have es : sdS V N c s = (scC V N (dg (V 0 0) (V 0 1) c) + 1, c) := by unfold sdS; rw [if_pos (Nat.le_of_not_lt (fun z => c163 (hm.mpr z)))]
        have hg : sdAll V N = sdF V N n (c + 1) (sdS V N c s) := hg
        rw [es] at hg si1
        rw [show nI (scC V N (dg (V 0 0) (V 0 1) c)) = mI (scC V N (dg (V 0 0) (V 0 1) c) + 1, c).1 from mI_s.symm]
        exact ih (c + 1) _ _ _ _ _ (by omega) si1 (fun _ => hb3) hf3 nl_i nl_i hg

theorem kl_X8_sends_189 : Cond.constantLong RX8 189 (30) ∈ wsX8_sends := by decide +kernel
set_option maxHeartbeats 4000000 in
set_option maxRecDepth 100000 in
theorem c_X8_sends {l : Launch} {Y : LY} {S : GS} {V : VR} (h : HW (S.1 179) 0 V) (ho : Ok V) {x y : Int32} : CtP l yX8_sends wsX8_sends 5 Y [.ref (ad Y 178), .int x, .int y] S (fun r u => r = aSends V x y ∧ FrM S u) := by
  refine mkP (cc := cX8_sends) (maxL := 9) rfl rfl (Nat.le_of_ble_eq_true rfl) ?_
  intro X hl hY C hr
  subst hl
  subst hY
  have hM : S.1 179 0 = nI (V 0 0) := h.1.1
  have hK : S.1 179 1 = nI (V 0 1) := h.1.2.1
  have o1 := ho.1
  have o2 := ho.2.1
  show Zj X S [some (.ref (ad (xY X) 178)), some (.int x), some (.int y), none, none, none, none, none, none] 0 []
  refine z_iload1 C dX8_sends_0 ?_
  refine z_i2l C dX8_sends_1 ?_
  refine z_lconst (v := 0) C dX8_sends_2 rfl ?_
  refine z_topl (y := (nI 0).toInt64) C (by decide) ?_
  refine z_ldc2 (v := 30) C dX8_sends_3 kl_X8_sends_189 ?_
  refine z_topl (y := (nI 30).toInt64) C (by decide) ?_
  refine z_callSI C dX8_sends_6 c_X8_in gX8_sends_X8_in md_X8_in (by decide) rfl rfl (Nat.le_of_ble_eq_true rfl) ?_
  refine z_if_eqB C 17 dX8_sends_9 (by decide) (fun c9 => ?_) (fun c9 => ?_)
  · refine z_iconst (v := (-1)) C dX8_sends_17 (by decide) ?_
    exact z_iretP C dX8_sends_18 hr rfl ⟨by rw [aSends_n (by rintro ⟨h1, h2⟩; contradiction)], FrM.rf⟩
  · refine z_iload2 C dX8_sends_12 ?_
    refine z_iconst (v := (-1)) C dX8_sends_13 (by decide) ?_
    refine z_icmp_ge C 19 dX8_sends_14 (by decide) (fun c14 => ?_) (fun c14 => ?_)
    · obtain ⟨n, -, hn, rfl⟩ := inB_of (by decide) c9 (by decide)
      refine z_iconstN 1 C dX8_sends_19 ?_
      refine z_istore3 C dX8_sends_20 nl_i ?_
      refine z_iconstN 0 C dX8_sends_21 ?_
      refine z_istore4 C dX8_sends_22 nl_i ?_
      refine la_X8_sends h ho C (V 0 1) 0 (by omega) ?_
      refine z_aload0 C dX8_sends_50 ?_
      refine z_get C dX8_sends_51 fl_X8_sends_7 (k_Model _) rfl ?_
      refine z_iconstN 0 C dX8_sends_54 ?_
      refine z_iald C dX8_sends_55 (k_i179 _) (by omega) ?_
      refine z_top C hM ?_
      refine z_if_neN C 70 dX8_sends_56 (by decide) (by omega) (fun c56 => ?_) (fun c56 => ?_)
      · refine z_iconst (v := (-1)) C dX8_sends_70 (by decide) ?_
        refine z_istore4 C dX8_sends_71 nl_i ?_
        refine z_iconstN 0 C dX8_sends_73 ?_
        refine z_istore5 C dX8_sends_74 nl_i ?_
        exact lo_X8_sends h ho c56 hn c14 hr C (V 0 0 ^ V 0 1) 0 (0, 0) _ _ _ _ (by omega) (by show 0 ≤ _; omega) (fun z => absurd z (by decide)) FrM.rf nl_n nl_n rfl
      · refine z_iload2 C dX8_sends_59 ?_
        refine z_if_ge C 67 dX8_sends_60 (by decide) (fun c60 => ?_) (fun c60 => ?_)
        · refine z_bipush (v := (-4)) C dX8_sends_67 (by decide) ?_
          exact z_iretP C dX8_sends_69 hr rfl ⟨by rw [aSends_0 c9 c14 (by omega), if_pos c60], FrM.rf⟩
        · refine z_iconstN 0 C dX8_sends_63 ?_
          refine z_goto C 69 dX8_sends_64 (by decide) ?_
          exact z_iretP C dX8_sends_69 hr rfl ⟨by rw [aSends_0 c9 c14 (by omega), if_neg c60], FrM.rf⟩
    · refine z_iconst (v := (-1)) C dX8_sends_17 (by decide) ?_
      exact z_iretP C dX8_sends_18 hr rfl ⟨by rw [aSends_n (by rintro ⟨h1, h2⟩; contradiction)], FrM.rf⟩
