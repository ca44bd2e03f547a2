set_option maxRecDepth 20000 in
theorem fl_X7_pair_62 : FL RX7 wsX7_pair 62 7 10 := ⟨RX7, TX7, 12, rfl, (fun w h => List.mem_cons_of_mem _ (List.mem_append_left _ (List.mem_append_left _ (List.mem_append_right _ h)))), by decide, by decide +kernel⟩
set_option maxRecDepth 20000 in
theorem fl_X7_pair_10 : FL RX7 wsX7_pair 10 7 0 := ⟨RX7, TX7, 12, rfl, (fun w h => List.mem_cons_of_mem _ (List.mem_append_left _ (List.mem_append_left _ (List.mem_append_right _ h)))), by decide, by decide +kernel⟩
set_option maxRecDepth 20000 in
theorem fl_X7_pair_42 : FL RX7 wsX7_pair 42 7 7 := ⟨RX7, TX7, 12, rfl, (fun w h => List.mem_cons_of_mem _ (List.mem_append_left _ (List.mem_append_left _ (List.mem_append_right _ h)))), by decide, by decide +kernel⟩
theorem md_X1_plan : MD yX1_plan wsX1_plan 3 6 none := ⟨_, _, rfl, by decide, by decide +kernel, by decide +kernel, by decide +kernel⟩
set_option maxRecDepth 20000 in
theorem fl_X7_pair_214 : FL RX7 wsX7_pair 214 1 0 := ⟨RX1, TX1, 4, rfl, (fun w h => List.mem_cons_of_mem _ (List.mem_append_left _ (List.mem_append_right _ h))), by decide, by decide +kernel⟩
set_option maxRecDepth 20000 in
theorem fl_X7_pair_218 : FL RX7 wsX7_pair 218 1 1 := ⟨RX1, TX1, 4, rfl, (fun w h => List.mem_cons_of_mem _ (List.mem_append_left _ (List.mem_append_right _ h))), by decide, by decide +kernel⟩
set_option maxRecDepth 20000 in
theorem fl_X7_pair_219 : FL RX7 wsX7_pair 219 1 2 := ⟨RX1, TX1, 4, rfl, (fun w h => List.mem_cons_of_mem _ (List.mem_append_left _ (List.mem_append_right _ h))), by decide, by decide +kernel⟩
set_option maxRecDepth 20000 in
theorem fl_X7_pair_222 : FL RX7 wsX7_pair 222 1 3 := ⟨RX1, TX1, 4, rfl, (fun w h => List.mem_cons_of_mem _ (List.mem_append_left _ (List.mem_append_right _ h))), by decide, by decide +kernel⟩
set_option maxHeartbeats 4000000 in
set_option maxRecDepth 100000 in
theorem c_X7_pair {l : Launch} {Y : LY} {S : GS} {V : VR} (h : HC S 26 V) (ho : Ok V) {x y : Int32} : CtP l yX7_pair wsX7_pair 7 Y [.ref (ad Y 0), .int x, .int y] S (fun r u => r = aPair V x y ∧ Fr scr S u) := by
  refine mkP (cc := cX7_pair) (maxL := 3) rfl rfl (Nat.le_of_ble_eq_true rfl) ?_
  intro X hl hY C hr
  subst hl
  subst hY
  have hM : S.1 26 0 = nI (V 0 0) := h.1 0 (by decide)
  have hK : S.1 26 1 = nI (V 0 1) := h.1 1 (by decide)
  have o1 := ho.1
  have o2 := ho.2.1
  show Zj X S [some (.ref (ad (xY X) 0)), some (.int x), some (.int y)] 0 []
  refine z_aload0 C dX7_pair_0 ?_
  refine z_iload1 C dX7_pair_1 ?_
  refine z_callVI C dX7_pair_2 (c_X7_hasMark hM) gX7_pair_X7_hasMark md_X7_hasMark rfl (by decide) (k_EM _) rfl rfl rfl (Nat.le_of_ble_eq_true rfl) ?_
  refine z_if_eqB C 17 dX7_pair_5 (by decide) (fun c5 => ?_) (fun c5 => ?_)
  · refine z_iconst (v := (-1)) C dX7_pair_17 (by decide) ?_
    exact z_iretP C dX7_pair_18 hr rfl ⟨by rw [aPair_n (by rintro ⟨h1, h2⟩; contradiction)], Fr.rf⟩
  · refine z_iload2 C dX7_pair_8 ?_
    refine z_iconstN 0 C dX7_pair_9 ?_
    refine z_iconstN 2 C dX7_pair_10 ?_
    refine z_callSI C dX7_pair_11 c_X7_within gX7_pair_X7_within md_X7_within (by decide) rfl rfl (Nat.le_of_ble_eq_true rfl) ?_
    refine z_if_neB C 19 dX7_pair_14 (by decide) (fun c14 => ?_) (fun c14 => ?_)
    · obtain ⟨m, hm, rfl⟩ := inR_of (by omega) c5
      refine z_aload0 C dX7_pair_19 ?_
      refine z_get C dX7_pair_20 fl_X7_pair_62 (k_EM _) rfl ?_
      refine z_aload0 C dX7_pair_23 ?_
      refine z_get C dX7_pair_24 fl_X7_pair_10 (k_EM _) rfl ?_
      refine z_aload0 C dX7_pair_27 ?_
      refine z_get C dX7_pair_28 fl_X7_pair_42 (k_EM _) rfl ?_
      refine z_iload1 C dX7_pair_31 ?_
      refine z_callVR C dX7_pair_32 (c_X1_plan ho hm h) gX7_pair_X1_plan md_X1_plan rfl (by decide) (k_Pair _) rfl rfl rfl (Nat.le_of_ble_eq_true rfl) ?_
      intro S0 hS0
      have hs1 := hS0.1.2.1
      refine z_aload0 C dX7_pair_35 ?_
      refine z_get C dX7_pair_36 fl_X7_pair_62 (k_EM _) rfl ?_
      refine z_get C dX7_pair_39 fl_X7_pair_214 (k_Pair _) rfl ?_
      refine z_top C hS0.1.1 ?_
      refine z_if_neN C 48 dX7_pair_42 (by decide) (by omega) (fun c42 => ?_) (fun c42 => ?_)
      · refine z_iload2 C dX7_pair_48 ?_
        refine z_name (fun x49 e49 => ?_)
        rcases sw_0_1 x49 with rfl | rfl | o49
        · refine z_look (off := 27) C 76 dX7_pair_49 (by decide) (by decide) (by decide) ?_
          refine z_aload0 C dX7_pair_76 ?_
          refine z_get C dX7_pair_77 fl_X7_pair_62 (k_EM _) rfl ?_
          refine z_get C dX7_pair_80 fl_X7_pair_218 (k_Pair _) rfl ?_
          exact z_iretP C dX7_pair_83 hr rfl ⟨by subst e49; rw [aPair_y hm o1 c14, if_neg (by omega), if_pos rfl]; exact (hS0.1.2.2 (by omega)).1, hS0.2⟩
        · refine z_look (off := 35) C 84 dX7_pair_49 (by decide) (by decide) (by decide) ?_
          refine z_aload0 C dX7_pair_84 ?_
          refine z_get C dX7_pair_85 fl_X7_pair_62 (k_EM _) rfl ?_
          refine z_get C dX7_pair_88 fl_X7_pair_219 (k_Pair _) rfl ?_
          exact z_iretP C dX7_pair_91 hr rfl ⟨by subst e49; rw [aPair_y hm o1 c14, if_neg (by omega), if_neg (by decide), if_pos rfl]; exact (hS0.1.2.2 (by omega)).2.2.1, hS0.2⟩
        · refine z_look (off := 43) C 92 dX7_pair_49 (by decide) (by simp [Op.lookupswitch.offset, Ne.symm o49.1, Ne.symm o49.2, o49.1, o49.2]) (by decide) ?_
          refine z_aload0 C dX7_pair_92 ?_
          refine z_get C dX7_pair_93 fl_X7_pair_62 (k_EM _) rfl ?_
          refine z_get C dX7_pair_96 fl_X7_pair_222 (k_Pair _) rfl ?_
          exact z_iretP C dX7_pair_99 hr rfl ⟨by rw [aPair_y hm o1 c14, if_neg (by omega), if_neg (fun z => o49.1 (by rw [e49, z]; rfl)), if_neg (fun z => o49.2 (by rw [e49, z]; rfl))]; exact (hS0.1.2.2 (by omega)).2.1, hS0.2⟩
      · refine z_bipush (v := (-4)) C dX7_pair_45 (by decide) ?_
        exact z_iretP C dX7_pair_47 hr rfl ⟨by rw [aPair_y hm o1 c14, if_pos c42], hS0.2⟩
    · refine z_iconst (v := (-1)) C dX7_pair_17 (by decide) ?_
      exact z_iretP C dX7_pair_18 hr rfl ⟨by rw [aPair_n (by rintro ⟨h1, h2⟩; contradiction)], Fr.rf⟩

def prM (V : VR) (m : Nat) : Nat → PS4 → PS4 := fun q s => if (q / 10 < V 0 1 ∧ q % 10 < V 0 1) ∧ ¬ q / 10 = q % 10 then prA V m (q / 10) (q % 10) 61 0 s else s
theorem fold45 (G : Nat → Nat → PS4 → PS4) : ∀ (n : Nat), n ≤ 5 → ∀ s : PS4, foldN (fun q s => if (q / 10 < n ∧ q % 10 < n) ∧ ¬ q / 10 = q % 10 then G (q / 10) (q % 10) s else s) 45 0 s = foldN (fun i s => foldN (fun j s => if i = j then s else G i j s) n 0 s) n 0 s := by
  intro n hn s
  rcases (show n = 0 ∨ n = 1 ∨ n = 2 ∨ n = 3 ∨ n = 4 ∨ n = 5 by omega) with rfl | rfl | rfl | rfl | rfl | rfl <;> simp [foldN]
theorem prAll_m {V : VR} {m : Nat} (h : V 0 1 ≤ 5) : foldN (prM V m) 45 0 (0, 0, 0, 0) = prAll V m := fold45 (fun i j s => prA V m i j 61 0 s) (V 0 1) h (0, 0, 0, 0)
def RepP (s : PS4) (x3 : Int32) (c4 c5 : Nat) : Prop := (s.1 = 0 ∧ x3 = -4 ∧ c4 = 1000000 ∧ c5 = 1000000) ∨ (s.1 = 1 ∧ x3 = nI s.2.2.2 ∧ c4 = s.2.1 ∧ c5 = s.2.2.1 ∧ c4 ≤ 198 ∧ c5 ≤ 60 ∧ s.2.2.2 < 50)
theorem RepP_b {s : PS4} {x3 : Int32} {c4 c5 c a : Nat} (h : RepP s x3 c4 c5) (hc : c ≤ 198) (ha : a ≤ 60) : psB s c a ↔ (c < c4 ∨ (c = c4 ∧ a < c5)) := by
  unfold psB
  rcases h with ⟨h1, h2, h3, h4⟩ | ⟨h1, h2, h3, h4, h5, h6, h7⟩
  · omega
  · omega
theorem RepP_y {s : PS4} {x3 : Int32} {c4 c5 c a p : Nat} (h : RepP s x3 c4 c5) (hc : c ≤ 198) (ha : a ≤ 60) (hp : p < 50) (hb : c < c4 ∨ (c = c4 ∧ a < c5)) : RepP (psW s c a p) (nI p) c a := by
  unfold psW
  rw [if_pos ((RepP_b h hc ha).mpr hb)]
  exact Or.inr ⟨rfl, rfl, rfl, rfl, hc, ha, hp⟩
theorem RepP_n {s : PS4} {x3 : Int32} {c4 c5 c a p : Nat} (h : RepP s x3 c4 c5) (hc : c ≤ 198) (ha : a ≤ 60) (hb : ¬ (c < c4 ∨ (c = c4 ∧ a < c5))) : RepP (psW s c a p) x3 c4 c5 := by
  unfold psW
  rw [if_neg (fun z => hb ((RepP_b h hc ha).mp z))]
  exact h
theorem RepP_le {s : PS4} {x3 : Int32} {c4 c5 : Nat} (h : RepP s x3 c4 c5) : c4 ≤ 1000000 ∧ c5 ≤ 1000000 := by
  rcases h with ⟨h1, h2, h3, h4⟩ | ⟨h1, h2, h3, h4, h5, h6, h7⟩
  · omega
  · omega

set_option maxHeartbeats 4000000 in
set_option maxRecDepth 100000 in
theorem l1_X8_pair {X : CX} {y x3 : Int32} {m c4 c5 q i j : Nat} {x12 x13 : Option Value} (hm : m < 6) (hi : i < 5) (hj : j < 5) {a : Nat} (ha : a ≤ 60) (C : Cx X cX8_pair RX8 wsX8_pair 5) : ∀ (n : Nat) (d : Nat) (T : GS), d + n = a → Zj X (mRT 586 i m n T) [some (.ref (ad (xY X) 178)), some (.int (nI (m))), some (.int (y)), some (.int (x3)), some (.int (nI (c4))), some (.int (nI (c5))), some (.int (nI (q))), some (.int (nI (i))), some (.int (nI (j))), some (.int (nI (1))), some (.int (nI (a))), some (.int (nI (d + mRN 586 i m n T))), x12, x13] 151 [] → Zj X T [some (.ref (ad (xY X) 178)), some (.int (nI (m))), some (.int (y)), some (.int (x3)), some (.int (nI (c4))), some (.int (nI (c5))), some (.int (nI (q))), some (.int (nI (i))), some (.int (nI (j))), some (.int (nI (1))), some (.int (nI (a))), some (.int (nI (d))), x12, x13] 115 [] := by
  intro n
  induction n with
  | zero =>
    intro d T hd kk
    obtain rfl : d = a := by omega
    refine z_iload11 C dX8_pair_115 ?_
    refine z_iload10 C dX8_pair_117 ?_
    refine z_icmp_geN C 151 dX8_pair_119 (by decide) (by omega) (by omega) (fun c119 => ?_) (fun c119 => ?_)
    · exact kk
    · exact absurd c119 (by omega)
  | succ n ih =>
    intro d T hd kk
    refine z_iload11 C dX8_pair_115 ?_
    refine z_iload10 C dX8_pair_117 ?_
    refine z_icmp_geN C 151 dX8_pair_119 (by decide) (by omega) (by omega) (fun c119 => ?_) (fun c119 => ?_)
    · exact absurd c119 (by omega)
    · refine z_aload0 C dX8_pair_122 ?_
      refine z_sipush (v := nI 586) C dX8_pair_123 (by decide) ?_
      refine z_iload7 C dX8_pair_126 ?_
      refine z_iload1 C dX8_pair_128 ?_
      refine z_callVI C dX8_pair_129 (c_X8_canRub (by omega) (by omega) (by omega)) gX8_pair_X8_canRub md_X8_canRub rfl (by decide) (k_Model _) rfl rfl rfl (Nat.le_of_ble_eq_true rfl) ?_
      refine z_if_eqB C 151 dX8_pair_132 (by decide) (fun c132 => ?_) (fun c132 => ?_)
      · simp only [mRT, mRN, if_neg c132] at kk
        exact kk
      · refine z_aload0 C dX8_pair_135 ?_
        refine z_sipush (v := nI 586) C dX8_pair_136 (by decide) ?_
        refine z_iload7 C dX8_pair_139 ?_
        refine z_iload1 C dX8_pair_141 ?_
        refine z_callVV C dX8_pair_142 (c_X8_rubs (by omega) (by omega) (by omega)) gX8_pair_X8_rubs md_X8_rubs rfl (by decide) (k_Model _) rfl rfl rfl (Nat.le_of_ble_eq_true rfl) ?_
        refine z_iinc11 C dX8_pair_145 (inc1 _) nl_i ?_
        refine z_goto C 115 dX8_pair_148 (by decide) ?_
        simp only [mRT, mRN, if_pos c132] at kk
        exact ih (d + 1) _ (by omega) (by rw [show d + 1 + mRN 586 i m n (mRub T 586 i m) = d + (mRN 586 i m n (mRub T 586 i m) + 1) by omega]; exact kk)

set_option maxHeartbeats 4000000 in
set_option maxRecDepth 100000 in
theorem l2_X8_pair {X : CX} {y x3 : Int32} {m c4 c5 q i j : Nat} {x12 x13 : Option Value} (hm : m < 6) (hi : i < 5) (hj : j < 5) {a : Nat} (ha : a ≤ 60) (C : Cx X cX8_pair RX8 wsX8_pair 5) : ∀ (n : Nat) (d : Nat) (T : GS), d + n = 60 → Zj X (mRT 586 j m n T) [some (.ref (ad (xY X) 178)), some (.int (nI (m))), some (.int (y)), some (.int (x3)), some (.int (nI (c4))), some (.int (nI (c5))), some (.int (nI (q))), some (.int (nI (i))), some (.int (nI (j))), some (.int (nI (1))), some (.int (nI (a))), some (.int (nI (d + mRN 586 j m n T))), x12, x13] 206 [] → Zj X T [some (.ref (ad (xY X) 178)), some (.int (nI (m))), some (.int (y)), some (.int (x3)), some (.int (nI (c4))), some (.int (nI (c5))), some (.int (nI (q))), some (.int (nI (i))), some (.int (nI (j))), some (.int (nI (1))), some (.int (nI (a))), some (.int (nI (d))), x12, x13] 165 [] := by
  intro n
  induction n with
  | zero =>
    intro d T hd kk
    refine z_iload9 C dX8_pair_165 ?_
    refine z_if_eqF C 206 dX8_pair_167 (by decide) (by decide) ?_
    refine z_iload11 C dX8_pair_170 ?_
    refine z_bipush (v := nI 60) C dX8_pair_172 (by decide) ?_
    refine z_icmp_geN C 206 dX8_pair_174 (by decide) (by omega) (by omega) (fun c174 => ?_) (fun c174 => ?_)
    · exact kk
    · exact absurd c174 (by omega)
  | succ n ih =>
    intro d T hd kk
    refine z_iload9 C dX8_pair_165 ?_
    refine z_if_eqF C 206 dX8_pair_167 (by decide) (by decide) ?_
    refine z_iload11 C dX8_pair_170 ?_
    refine z_bipush (v := nI 60) C dX8_pair_172 (by decide) ?_
    refine z_icmp_geN C 206 dX8_pair_174 (by decide) (by omega) (by omega) (fun c174 => ?_) (fun c174 => ?_)
    · exact absurd c174 (by omega)
    · refine z_aload0 C dX8_pair_177 ?_
      refine z_sipush (v := nI 586) C dX8_pair_178 (by decide) ?_
      refine z_iload8 C dX8_pair_181 ?_
      refine z_iload1 C dX8_pair_183 ?_
      refine z_callVI C dX8_pair_184 (c_X8_canRub (by omega) (by omega) (by omega)) gX8_pair_X8_canRub md_X8_canRub rfl (by decide) (k_Model _) rfl rfl rfl (Nat.le_of_ble_eq_true rfl) ?_
      refine z_if_eqB C 206 dX8_pair_187 (by decide) (fun c187 => ?_) (fun c187 => ?_)
      · simp only [mRT, mRN, if_neg c187] at kk
        exact kk
      · refine z_aload0 C dX8_pair_190 ?_
        refine z_sipush (v := nI 586) C dX8_pair_191 (by decide) ?_
        refine z_iload8 C dX8_pair_194 ?_
        refine z_iload1 C dX8_pair_196 ?_
        refine z_callVV C dX8_pair_197 (c_X8_rubs (by omega) (by omega) (by omega)) gX8_pair_X8_rubs md_X8_rubs rfl (by decide) (k_Model _) rfl rfl rfl (Nat.le_of_ble_eq_true rfl) ?_
        refine z_iinc11 C dX8_pair_200 (inc1 _) nl_i ?_
        refine z_goto C 165 dX8_pair_203 (by decide) ?_
        simp only [mRT, mRN, if_pos c187] at kk
        exact ih (d + 1) _ (by omega) (by rw [show d + 1 + mRN 586 j m n (mRub T 586 j m) = d + (mRN 586 j m n (mRub T 586 j m) + 1) by omega]; exact kk)

theorem vRT_sz {k m : Nat} : ∀ (n : Nat) (V : VR), vRT k m n V 6 k ≤ V 6 k := by
  intro n
  induction n with
  | zero => intro V; exact Nat.le_refl _
  | succ n ih =>
    intro V
    unfold vRT
    split
    · refine Nat.le_trans (ih _) ?_
      have : vRub V k m 6 k = rbA V k m := by simp [vRub]
      rw [this]
      unfold rbA
      omega
    · exact Nat.le_refl _

set_option maxRecDepth 20000 in
theorem fl_X8_pair_7 : FL RX8 wsX8_pair 7 8 0 := ⟨RX8, TX8, 15, rfl, (fun w h => List.mem_cons_of_mem _ (List.mem_append_right _ h)), by decide, by decide +kernel⟩
set_option maxHeartbeats 4000000 in
set_option maxRecDepth 100000 in
theorem la_X8_pair {X : CX} {S : GS} {V : VR} {y : Int32} {m i j q : Nat} (h : HW (S.1 179) 0 V) (ho : Ok V) (hm : m < V 0 0) (hi : i < V 0 1) (hj : j < V 0 1) (hij : i ≠ j) (hq : q = 10 * i + j) (C : Cx X cX8_pair RX8 wsX8_pair 5) : ∀ (n : Nat) (a : Nat) (T : GS) (s : PS4) (x3 : Int32) (c4 c5 : Nat) (x11 x12 x13 : Option Value), a + n = 61 → FrM S T → RepP s x3 c4 c5 → (∀ T' x3 c4 c5 x9 x10 x11 x12 x13, FrM S T' → RepP (prA V m i j n a s) x3 c4 c5 → Zj X T' [some (.ref (ad (xY X) 178)), some (.int (nI (m))), some (.int (y)), some (.int (x3)), some (.int (nI (c4))), some (.int (nI (c5))), some (.int (nI (q))), some (.int (nI (i))), some (.int (nI (j))), x9, x10, x11, x12, x13] 313 []) → Zj X T [some (.ref (ad (xY X) 178)), some (.int (nI (m))), some (.int (y)), some (.int (x3)), some (.int (nI (c4))), some (.int (nI (c5))), some (.int (nI (q))), some (.int (nI (i))), some (.int (nI (j))), some (.int (nI (1))), some (.int (nI (a))), x11, x12, x13] 96 [] := by
  intro n
  induction n with
  | zero =>
    intro a T s x3 c4 c5 x11 x12 x13 ha hf hp kk
    refine z_iload10 C dX8_pair_96 ?_
    refine z_bipush (v := nI 60) C dX8_pair_98 (by decide) ?_
    refine z_icmp_gtN C 313 dX8_pair_100 (by decide) (by omega) (by omega) (fun c100 => ?_) (fun c100 => ?_)
    · exact kk _ _ _ _ _ _ _ _ _ hf hp
    · exact absurd c100 (by omega)
  | succ n ih =>
    intro a T s x3 c4 c5 x11 x12 x13 ha hf hp kk
    have o1 := ho.1
    have o2 := ho.2.1
    have h0 := HW_low h ho hf
    obtain ⟨q1, q2, q3⟩ := HW_RT (k := i) (m := m) a _ V (HW_tr h0 ho) ho hi hm
    obtain ⟨p1, p2, p3⟩ := HW_RT (k := j) (m := m) (60 - a) _ _ q1 q2 (by rw [vRT_hd (by decide)]; exact hj) (by rw [vRT_hd (by decide)]; exact hm)
    have hle := vRN_le (k := i) (m := m) a V
    have hle2 := vRN_le (k := j) (m := m) (60 - a) (vRT i m a V)
    have f2 : FrM S (mRT 586 i m a (mTr T)) := (hf.tr mTr_fr).tr (mRT_M (by omega) (by omega) a _)
    have f3 : FrM S (mRT 586 j m (60 - a) (mRT 586 i m a (mTr T))) := f2.tr (mRT_M (by omega) (by omega) (60 - a) _)
    have q5 : mG (mRT 586 j m (60 - a) (mRT 586 i m a (mTr T))) 586 m ↔ vG (prT V m i j a) m := mG_iff p1 p2 (by show m < vRT j m (60 - a) (vRT i m a V) 0 0; rw [vRT_hd (by decide), vRT_hd (by decide)]; exact hm)
    have t3 : (mRT 586 j m (60 - a) (mRT 586 i m a (mTr T))).1 179 590 = nI (prT V m i j a 0 3) := p1.1.2.2.2.2
    have t2 : (mRT 586 i m a (mTr T)).1 179 590 = nI (vRT i m a V 0 3) := q1.1.2.2.2.2
    have n3 : (mRT 586 j m (60 - a) (mRT 586 i m a (mTr T))).1 179 4 = nI (V 0 3) := (HW_low h ho f3).1.2.2.2.2
    have n2 : (mRT 586 i m a (mTr T)).1 179 4 = nI (V 0 3) := (HW_low h ho f2).1.2.2.2.2
    obtain ⟨cr1, cr2⟩ := prT_cr (m := m) (a := a) ho hi hj hij
    have cr0 : V 0 3 ≤ vRT i m a V 0 3 := by
      have e1 := vRT_cs (k := i) (m := m) a V
      have e2 := vRT_sz (k := i) (m := m) a V
      omega
    have cr4 : vRT i m a V 0 3 ≤ V 0 3 + 99 := by
      have e1 := vRT_cs (k := i) (m := m) a V
      have e2 := (ho.2.2.2 i hi).2.1
      omega
    have hrl := RepP_le hp
    refine z_iload10 C dX8_pair_96 ?_
    refine z_bipush (v := nI 60) C dX8_pair_98 (by decide) ?_
    refine z_icmp_gtN C 313 dX8_pair_100 (by decide) (by omega) (by omega) (fun c100 => ?_) (fun c100 => ?_)
    · first | exact absurd c100 (by omega) | (rw [prA_n (by rw [← q3]; exact c155)] at kk; exact kk _ _ _ _ _ _ _ _ _ f2 hp)
    · refine z_iload9 C dX8_pair_103 ?_
      refine z_if_eqF C 313 dX8_pair_105 (by decide) (by decide) ?_
      refine z_aload0 C dX8_pair_108 ?_
      refine z_callVV C dX8_pair_109 c_X8_tries gX8_pair_X8_tries md_X8_tries rfl (by decide) (k_Model _) rfl rfl rfl (Nat.le_of_ble_eq_true rfl) ?_
      refine z_iconstN 0 C dX8_pair_112 ?_
      refine z_istore11 C dX8_pair_113 nl_i ?_
      refine l1_X8_pair (by omega) (by omega) (by omega) (by omega) C a 0 _ (by omega) ?_
      rw [Nat.zero_add]
      refine z_iload11 C dX8_pair_151 ?_
      refine z_iload10 C dX8_pair_153 ?_
      refine z_icmp_neN C 162 dX8_pair_155 (by decide) (by rw [q3]; omega) (by omega) (fun c155 => ?_) (fun c155 => ?_)
      · refine z_iconstN 0 C dX8_pair_162 ?_
        refine z_istore9 C dX8_pair_163 nl_i ?_
        refine z_iload9 C dX8_pair_165 ?_
        refine z_if_eqT C 206 dX8_pair_167 (by decide) (by decide) ?_
        refine z_aload0 C dX8_pair_206 ?_
        refine z_get C dX8_pair_207 fl_X8_pair_7 (k_Model _) rfl ?_
        refine z_sipush (v := nI 590) C dX8_pair_210 (by decide) ?_
        refine z_iald C dX8_pair_213 (k_i179 _) (by omega) ?_
        first | refine z_top C t3 ?_ | refine z_top C t2 ?_
        refine z_aload0 C dX8_pair_214 ?_
        refine z_get C dX8_pair_215 fl_X8_pair_7 (k_Model _) rfl ?_
        refine z_iconstN 4 C dX8_pair_218 ?_
        refine z_iald C dX8_pair_219 (k_i179 _) (by omega) ?_
        first | refine z_top C n3 ?_ | refine z_top C n2 ?_
        refine z_isubN C dX8_pair_220 (by first | exact cr1 | exact cr0) ?_
        refine z_istore12 C dX8_pair_221 nl_i ?_
        refine z_iload9 C dX8_pair_223 ?_
        refine z_if_eqT C 264 dX8_pair_225 (by decide) (by decide) ?_
        refine z_iconstN 0 C dX8_pair_264 ?_
        refine z_istore13 C dX8_pair_265 nl_i ?_
        refine z_iload13 C dX8_pair_267 ?_
        refine z_if_eqT C 277 dX8_pair_269 (by decide) (by decide) ?_
        refine z_iload3 C dX8_pair_277 ?_
        refine z_istore3 C dX8_pair_278 nl_i ?_
        refine z_iload13 C dX8_pair_279 ?_
        refine z_if_eqT C 289 dX8_pair_281 (by decide) (by decide) ?_
        refine z_iload5 C dX8_pair_289 ?_
        refine z_istore5 C dX8_pair_291 nl_i ?_
        refine z_iload13 C dX8_pair_293 ?_
        refine z_if_eqT C 303 dX8_pair_295 (by decide) (by decide) ?_
        refine z_iload4 C dX8_pair_303 ?_
        refine z_istore4 C dX8_pair_305 nl_i ?_
        refine z_iinc10 C dX8_pair_307 (inc1 _) nl_i ?_
        refine z_goto C 96 dX8_pair_310 (by decide) ?_
        refine z_iload10 C dX8_pair_96 ?_
        refine z_bipush (v := nI 60) C dX8_pair_98 (by decide) ?_
        refine z_icmp_gtN C 313 dX8_pair_100 (by decide) (by omega) (by omega) (fun c100 => ?_) (fun c100 => ?_)
        · first | exact absurd c100 (by omega) | (rw [prA_n (by rw [← q3]; exact c155)] at kk; exact kk _ _ _ _ _ _ _ _ _ f2 hp)
        · refine z_iload9 C dX8_pair_103 ?_
          refine z_if_eqT C 313 dX8_pair_105 (by decide) (by decide) ?_
          rw [prA_n (by rw [← q3]; exact c155)] at kk
          exact kk _ _ _ _ _ _ _ _ _ f2 hp
      · refine z_iconstN 1 C dX8_pair_158 ?_
        refine z_goto C 163 dX8_pair_159 (by decide) ?_
        refine z_istore9 C dX8_pair_163 nl_i ?_
        rw [c155]
        have c9 : vRN i m a V = a := by rw [← q3]; exact c155
        refine l2_X8_pair (by omega) (by omega) (by omega) (by omega) C (60 - a) a _ (by omega) ?_
        refine z_aload0 C dX8_pair_206 ?_
        refine z_get C dX8_pair_207 fl_X8_pair_7 (k_Model _) rfl ?_
        refine z_sipush (v := nI 590) C dX8_pair_210 (by decide) ?_
        refine z_iald C dX8_pair_213 (k_i179 _) (by omega) ?_
        first | refine z_top C t3 ?_ | refine z_top C t2 ?_
        refine z_aload0 C dX8_pair_214 ?_
        refine z_get C dX8_pair_215 fl_X8_pair_7 (k_Model _) rfl ?_
        refine z_iconstN 4 C dX8_pair_218 ?_
        refine z_iald C dX8_pair_219 (k_i179 _) (by omega) ?_
        first | refine z_top C n3 ?_ | refine z_top C n2 ?_
        refine z_isubN C dX8_pair_220 (by first | exact cr1 | exact cr0) ?_
        refine z_istore12 C dX8_pair_221 nl_i ?_
        refine z_iload9 C dX8_pair_223 ?_
        refine z_if_eqF C 264 dX8_pair_225 (by decide) (by decide) ?_
        refine z_aload0 C dX8_pair_228 ?_
        refine z_sipush (v := nI 586) C dX8_pair_229 (by decide) ?_
        refine z_iload1 C dX8_pair_232 ?_
        refine z_callVI C dX8_pair_233 (c_X8_isGone (by omega) (by omega)) gX8_pair_X8_isGone md_X8_isGone rfl (by decide) (k_Model _) rfl rfl rfl (Nat.le_of_ble_eq_true rfl) ?_
        refine z_if_eqB C 264 dX8_pair_236 (by decide) (fun c236 => ?_) (fun c236 => ?_)
        · refine z_iconstN 0 C dX8_pair_264 ?_
          refine z_istore13 C dX8_pair_265 nl_i ?_
          refine z_iload13 C dX8_pair_267 ?_
          refine z_if_eqT C 277 dX8_pair_269 (by decide) (by decide) ?_
          refine z_iload3 C dX8_pair_277 ?_
          refine z_istore3 C dX8_pair_278 nl_i ?_
          refine z_iload13 C dX8_pair_279 ?_
          refine z_if_eqT C 289 dX8_pair_281 (by decide) (by decide) ?_
          refine z_iload5 C dX8_pair_289 ?_
          refine z_istore5 C dX8_pair_291 nl_i ?_
          refine z_iload13 C dX8_pair_293 ?_
          refine z_if_eqT C 303 dX8_pair_295 (by decide) (by decide) ?_
          refine z_iload4 C dX8_pair_303 ?_
          refine z_istore4 C dX8_pair_305 nl_i ?_
          refine z_iinc10 C dX8_pair_307 (inc1 _) nl_i ?_
          refine z_goto C 96 dX8_pair_310 (by decide) ?_
          rw [prA_y c9] at kk
          first
          | (rw [pr1_n (fun z => c236 (q5.mpr z))] at kk
             exact ih (a + 1) _ _ _ _ _ _ _ _ (by omega) f3 hp kk)
          | (rw [pr1_y (q5.mp c236), ← hq] at kk
             first
             | exact ih (a + 1) _ _ _ _ _ _ _ _ (by omega) f3 (RepP_y hp (by omega) (by omega) (by omega) (by omega)) kk
             | exact ih (a + 1) _ _ _ _ _ _ _ _ (by omega) f3 (RepP_n hp (by omega) (by omega) (by omega)) kk)
        · refine z_iload12 C dX8_pair_239 ?_
          refine z_iload4 C dX8_pair_241 ?_
          refine z_icmp_ltN C 260 dX8_pair_243 (by decide) (by omega) (by omega) (fun c243 => ?_) (fun c243 => ?_)
          · refine z_iconstN 1 C dX8_pair_260 ?_
            refine z_goto C 265 dX8_pair_261 (by decide) ?_
            refine z_istore13 C dX8_pair_265 nl_i ?_
            refine z_iload13 C dX8_pair_267 ?_
            refine z_if_eqF C 277 dX8_pair_269 (by decide) (by decide) ?_
            refine z_iload6 C dX8_pair_272 ?_
            refine z_goto C 278 dX8_pair_274 (by decide) ?_
            refine z_istore3 C dX8_pair_278 nl_i ?_
            refine z_iload13 C dX8_pair_279 ?_
            refine z_if_eqF C 289 dX8_pair_281 (by decide) (by decide) ?_
            refine z_iload10 C dX8_pair_284 ?_
            refine z_goto C 291 dX8_pair_286 (by decide) ?_
            refine z_istore5 C dX8_pair_291 nl_i ?_
            refine z_iload13 C dX8_pair_293 ?_
            refine z_if_eqF C 303 dX8_pair_295 (by decide) (by decide) ?_
            refine z_iload12 C dX8_pair_298 ?_
            refine z_goto C 305 dX8_pair_300 (by decide) ?_
            refine z_istore4 C dX8_pair_305 nl_i ?_
            refine z_iinc10 C dX8_pair_307 (inc1 _) nl_i ?_
            refine z_goto C 96 dX8_pair_310 (by decide) ?_
            rw [prA_y c9] at kk
            first
            | (rw [pr1_n (fun z => c236 (q5.mpr z))] at kk
               exact ih (a + 1) _ _ _ _ _ _ _ _ (by omega) f3 hp kk)
            | (rw [pr1_y (q5.mp c236), ← hq] at kk
               first
               | exact ih (a + 1) _ _ _ _ _ _ _ _ (by omega) f3 (RepP_y hp (by omega) (by omega) (by omega) (by omega)) kk
               | exact ih (a + 1) _ _ _ _ _ _ _ _ (by omega) f3 (RepP_n hp (by omega) (by omega) (by omega)) kk)
          · refine z_iload12 C dX8_pair_246 ?_
            refine z_iload4 C dX8_pair_248 ?_
            refine z_icmp_neN C 264 dX8_pair_250 (by decide) (by omega) (by omega) (fun c250 => ?_) (fun c250 => ?_)
            · refine z_iconstN 0 C dX8_pair_264 ?_
              refine z_istore13 C dX8_pair_265 nl_i ?_
              refine z_iload13 C dX8_pair_267 ?_
              refine z_if_eqT C 277 dX8_pair_269 (by decide) (by decide) ?_
              refine z_iload3 C dX8_pair_277 ?_
              refine z_istore3 C dX8_pair_278 nl_i ?_
              refine z_iload13 C dX8_pair_279 ?_
              refine z_if_eqT C 289 dX8_pair_281 (by decide) (by decide) ?_
              refine z_iload5 C dX8_pair_289 ?_
              refine z_istore5 C dX8_pair_291 nl_i ?_
              refine z_iload13 C dX8_pair_293 ?_
              refine z_if_eqT C 303 dX8_pair_295 (by decide) (by decide) ?_
              refine z_iload4 C dX8_pair_303 ?_
              refine z_istore4 C dX8_pair_305 nl_i ?_
              refine z_iinc10 C dX8_pair_307 (inc1 _) nl_i ?_
              refine z_goto C 96 dX8_pair_310 (by decide) ?_
              rw [prA_y c9] at kk
              first
              | (rw [pr1_n (fun z => c236 (q5.mpr z))] at kk
                 exact ih (a + 1) _ _ _ _ _ _ _ _ (by omega) f3 hp kk)
              | (rw [pr1_y (q5.mp c236), ← hq] at kk
                 first
                 | exact ih (a + 1) _ _ _ _ _ _ _ _ (by omega) f3 (RepP_y hp (by omega) (by omega) (by omega) (by omega)) kk
                 | exact ih (a + 1) _ _ _ _ _ _ _ _ (by omega) f3 (RepP_n hp (by omega) (by omega) (by omega)) kk)
            · refine z_iload10 C dX8_pair_253 ?_
              refine z_iload5 C dX8_pair_255 ?_
              refine z_icmp_geN C 264 dX8_pair_257 (by decide) (by omega) (by omega) (fun c257 => ?_) (fun c257 => ?_)
              · refine z_iconstN 0 C dX8_pair_264 ?_
                refine z_istore13 C dX8_pair_265 nl_i ?_
                refine z_iload13 C dX8_pair_267 ?_
                refine z_if_eqT C 277 dX8_pair_269 (by decide) (by decide) ?_
                refine z_iload3 C dX8_pair_277 ?_
                refine z_istore3 C dX8_pair_278 nl_i ?_
                refine z_iload13 C dX8_pair_279 ?_
                refine z_if_eqT C 289 dX8_pair_281 (by decide) (by decide) ?_
                refine z_iload5 C dX8_pair_289 ?_
                refine z_istore5 C dX8_pair_291 nl_i ?_
                refine z_iload13 C dX8_pair_293 ?_
                refine z_if_eqT C 303 dX8_pair_295 (by decide) (by decide) ?_
                refine z_iload4 C dX8_pair_303 ?_
                refine z_istore4 C dX8_pair_305 nl_i ?_
                refine z_iinc10 C dX8_pair_307 (inc1 _) nl_i ?_
                refine z_goto C 96 dX8_pair_310 (by decide) ?_
                rw [prA_y c9] at kk
                first
                | (rw [pr1_n (fun z => c236 (q5.mpr z))] at kk
                   exact ih (a + 1) _ _ _ _ _ _ _ _ (by omega) f3 hp kk)
                | (rw [pr1_y (q5.mp c236), ← hq] at kk
                   first
                   | exact ih (a + 1) _ _ _ _ _ _ _ _ (by omega) f3 (RepP_y hp (by omega) (by omega) (by omega) (by omega)) kk
                   | exact ih (a + 1) _ _ _ _ _ _ _ _ (by omega) f3 (RepP_n hp (by omega) (by omega) (by omega)) kk)
              · refine z_iconstN 1 C dX8_pair_260 ?_
                refine z_goto C 265 dX8_pair_261 (by decide) ?_
                refine z_istore13 C dX8_pair_265 nl_i ?_
                refine z_iload13 C dX8_pair_267 ?_
                refine z_if_eqF C 277 dX8_pair_269 (by decide) (by decide) ?_
                refine z_iload6 C dX8_pair_272 ?_
                refine z_goto C 278 dX8_pair_274 (by decide) ?_
                refine z_istore3 C dX8_pair_278 nl_i ?_
                refine z_iload13 C dX8_pair_279 ?_
                refine z_if_eqF C 289 dX8_pair_281 (by decide) (by decide) ?_
                refine z_iload10 C dX8_pair_284 ?_
                refine z_goto C 291 dX8_pair_286 (by decide) ?_
                refine z_istore5 C dX8_pair_291 nl_i ?_
                refine z_iload13 C dX8_pair_293 ?_
                refine z_if_eqF C 303 dX8_pair_295 (by decide) (by decide) ?_
                refine z_iload12 C dX8_pair_298 ?_
                refine z_goto C 305 dX8_pair_300 (by decide) ?_
                refine z_istore4 C dX8_pair_305 nl_i ?_
                refine z_iinc10 C dX8_pair_307 (inc1 _) nl_i ?_
                refine z_goto C 96 dX8_pair_310 (by decide) ?_
                rw [prA_y c9] at kk
                first
                | (rw [pr1_n (fun z => c236 (q5.mpr z))] at kk
                   exact ih (a + 1) _ _ _ _ _ _ _ _ (by omega) f3 hp kk)
                | (rw [pr1_y (q5.mp c236), ← hq] at kk
                   first
                   | exact ih (a + 1) _ _ _ _ _ _ _ _ (by omega) f3 (RepP_y hp (by omega) (by omega) (by omega) (by omega)) kk
                   | exact ih (a + 1) _ _ _ _ _ _ _ _ (by omega) f3 (RepP_n hp (by omega) (by omega) (by omega)) kk)
