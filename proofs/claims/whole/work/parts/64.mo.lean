/-! DeltaFerryModel: makeWindow; printed by wip/tools/m_mo13.py -/
theorem rmN_bd {nr : Int → Int} {N T a : Int} (h : ∀ k, 0 ≤ nr k ∧ nr k ≤ 100000) (ha : 0 ≤ a ∧ a ≤ 100000) : ∀ k, 0 ≤ rmN nr N T a k ∧ rmN nr N T a k ≤ 100000 := by
  intro k
  unfold rmN
  split
  · unfold uz
    split
    · exact ha
    · exact h k
  · exact h k
theorem rmS_bd {sm : Int → Int} {S a : Int} (h : ∀ k, 0 ≤ sm k ∧ sm k ≤ 100000) (ha : 0 ≤ a ∧ a ≤ 100000) : ∀ k, 0 ≤ rmS sm S a k ∧ rmS sm S a k ≤ 100000 := by
  intro k
  unfold rmS
  split
  · unfold uz
    split
    · exact ha
    · exact h k
  · exact h k
theorem rmT_bd {N T : Int} (hN : 0 ≤ N ∧ N ≤ 8) (h : 0 ≤ T ∧ T < 8 ∧ (0 < N → T < N)) : 0 ≤ rmT N T ∧ rmT N T < 8 ∧ (0 < N → rmT N T < N) := by
  unfold rmT
  by_cases q : 0 < N
  · rw [if_pos q]
    have := emod_b (T + 1) (m := N) q
    omega
  · rw [if_neg q]; exact h
def mkE0 (K : WK) : Option WS → Int
  | none => -2
  | some (pd, _, pa, c, _, _, _, _) => if c ≠ kT K + kZ K ∨ pd < kD K ∨ pa < kA K then -2 else 0
theorem mkE0_s {K : WK} {pd pc pa c T : Int} {m nr sm : Int → Int} : mkE0 K (some (pd, pc, pa, c, m, nr, sm, T)) = if c ≠ kT K + kZ K ∨ pd < kD K ∨ pa < kA K then -2 else 0 := rfl
theorem mkM_s {m0 : Int → Int} {pd pc pa c T : Int} {m nr sm : Int → Int} : mkM m0 (some (pd, pc, pa, c, m, nr, sm, T)) = m := rfl
theorem c_Mo_makeWindow (E : EV) (f : Nat → va_E) (F : Nat → Value) (K : WK) (oo : Int) (N : Int) (S : Int) (t : Int → Int) (tb : Int → Int) (ob : Int → Int) (o : Int → Int) (old : Int → Int) (m : Int → Int) (oc : Int) (av : Int → Int) (ev : Int → Int) (b : Int → Int) (g : Int → Int) (sE : Int) (hMo : f 61 = mob F) (hmk : moK E F) (hF25 : F 25 = .int (zI N)) (hF26 : F 26 = .int (zI S)) (hF27 : F 27 = .int (zI 0)) (hF32 : F 32 = .int (zI 0)) (hF36 : F 36 = .int (zI (kT K))) (hF39 : F 39 = .int (zI (kF K))) (hF40 : F 40 = .int (zI (kS K))) (hF41 : F 41 = .int (zI oo)) (hF42 : F 42 = .int (zI (kT K))) (hF43 : F 43 = .int (zI (kZ K))) (hc81 : f 81 = iz E 1536 ob) (hc82 : f 82 = iz E 1536 o) (hc78 : f 78 = iz E 8 (fun _ => 0)) (hc79 : f 79 = iz E 1024 (fun _ => 0)) (hc83 : f 83 = iz E 3 av) (hc84 : f 84 = iz E 3 ev) (hc63 : f 63 = iz E 1600 b) (hc80 : f 80 = iz E 1536 tb) (hoo : (oo = 1 ∧ kO K = 2) ∨ (oo = 0 ∧ ¬ kO K = 2)) (hK : (0 ≤ kT K ∧ 0 ≤ kS K ∧ 0 ≤ kF K) ∧ (kO K = 2 → kF K + kS K ≤ kT K) ∧ (¬ kO K = 2 → kF K + kS K ≤ oc) ∧ 0 ≤ oc ∧ oc ≤ 1536) (hold : agB ob old oc) (hout : agB o m (kT K)) (hkk : (0 ≤ kB K ∧ kB K ≤ kD K ∧ kD K ≤ kC K ∧ kC K ≤ kA K ∧ kA K ≤ sE) ∧ 0 ≤ kZ K ∧ kT K + kZ K ≤ 1536) (hsE : sE ≤ 700) (hN : 0 ≤ N ∧ N ≤ 8 ∧ 0 ≤ S ∧ S ≤ 4) (havs : av 0 = kB K ∧ av 1 = kD K ∧ av 2 = kC K) (hevs : ev 0 = kD K ∧ ev 1 = kC K ∧ ev 2 = kA K) (htb : ∀ i, 0 ≤ i → i < 1536 → tb i = t i) (htB : isB t) (ht3 : ∀ i, 0 ≤ i → i < 512 → t i ≤ 3) (hG : isB g) (hgb : ∀ i, 0 ≤ i → i < sE → b (600 + i) = g i) : CF yn_Mo_makeWindow cd_Mo_makeWindow 5 none 5 E [.ref (eA E 61)] f (fun r f' => r = none ∧ ∃ (F' : Nat → Value) (c' : Int) (fl' : Int) (o' : Int → Int) (av' : Int → Int) (nr' : Int → Int) (sm' : Int → Int), f' 61 = mob F' ∧ F' 36 = .int (zI c') ∧ F' 32 = .int (zI fl') ∧ FrF [27, 32, 36] F F' ∧ f' 82 = iz E 1536 o' ∧ f' 83 = iz E 3 av' ∧ f' 78 = iz E 8 nr' ∧ f' 79 = iz E 1024 sm' ∧ (fl' = mkE0 K (mkF K g t old N S m)) ∧ (fl' = 0 → c' = kT K + kZ K ∧ agB o' (mkM m (mkF K g t old N S m)) (kT K + kZ K)) ∧ (0 ≤ c' ∧ c' ≤ 1536) ∧ Fr [82, 83, 78, 79, 61] f f') := by
  refine CF.of (by decide +kernel) (Nat.le_of_ble_eq_true rfl) fun X hX hE => ?_
  have hX : Ok E X "DeltaFerryModel" "makeWindow" cd_Mo_makeWindow 5 none (rl 5) := hX
  refine G_cast (lv' := [(0, .ref (eA E 61))]) ?_ rfl rfl rfl rfl
  have hev : avB ev := fun i h1 h2 => by rcases (show i = 0 ∨ i = 1 ∨ i = 2 by omega) with h | h | h <;> rw [h] <;> omega
  have hen2 : ∀ i, 0 ≤ i → i ≤ 2 → ev i ≤ sE := fun i h1 h2 => by rcases (show i = 0 ∨ i = 1 ∨ i = 2 by omega) with h | h | h <;> rw [h] <;> omega
  have hevI : ev 0 = kD K ∧ ev 1 = kC K ∧ ev 2 = kA K := hevs
  have join5 : ∀ (av9 : Int → Int) (c9 : Int) (o9 : Int → Int) (nr9 : Int → Int) (sm9 : Int → Int) (hf : Int) (F1 : Nat → Value) (f6 : Nat → va_E), (avB av9) → (0 ≤ c9 ∧ c9 ≤ 1536 ∧ 0 ≤ hf ∧ hf ≤ 1000) → (mkE0 K (mkF K g t old N S m) = -2) → (F1 36 = .int (zI c9)) → (F1 32 = .int (zI (-2))) → (FrF [27, 32, 36] F F1) → f6 82 = iz E 1536 o9 → f6 83 = iz E 3 av9 → f6 78 = iz E 8 nr9 → f6 79 = iz E 1024 sm9 → f6 61 = mob F1 → Fr [82, 83, 78, 79, 61] f f6 → G E X 0 0 114 [(0, .ref (eA E 61)), (2, .int (zI hf))] [] (wl E f6) := by
    intro av9 c9 o9 nr9 sm9 hf F1 f6 hav9 hb9 hd9 h2 h3 k4 h8 h9 h10 h11 h12 k7
    have h90 := hav9 0 (by decide) (by decide)
    have h91 := hav9 1 (by decide) (by decide)
    have h92 := hav9 2 (by decide) (by decide)
    refine G_iincW_z hX (lv' := [(2, .int (zI (hf + 256))), (0, .ref (eA E 61))]) 1 rfl (by decide) rfl d_Mo_makeWindow_114 ?_
    refine G_goto hX (tgt := 30) d_Mo_makeWindow_120 rfl ?_
    refine G_iload_n hX 0 rfl rfl d_Mo_makeWindow_30 ?_
    refine G_sipush hX (by decide) d_Mo_makeWindow_31 ?_
    refine G_icmp_ge_z hX (tgt := 123) d_Mo_makeWindow_34 rfl (by omega) (fun c13 => ?_) (fun c14 => ?_)
    · skip
      refine G_goto hX (tgt := 0) d_Mo_makeWindow_123 rfl ?_
      refine G_aload_n hX 1 rfl rfl d_Mo_makeWindow_0 ?_
      have h15 : F1 44 = .ref (eA E 83) := (k4 44 (by decide)).trans (hmk 44 83 (by decide))
      refine M_get hX fg_Mo_145 d_Mo_makeWindow_1 h12 (by decide) h15 ?_
      refine G_iconst hX d_Mo_makeWindow_4 ?_
      refine F_iald hX d_Mo_makeWindow_5 83 (by decide) h9 (by omega) ?_
      refine G_aload_n hX 1 rfl rfl d_Mo_makeWindow_6 ?_
      have h16 : F1 45 = .ref (eA E 84) := (k4 45 (by decide)).trans (hmk 45 84 (by decide))
      refine M_get hX fg_Mo_148 d_Mo_makeWindow_7 h12 (by decide) h16 ?_
      refine G_iconst hX d_Mo_makeWindow_10 ?_
      have h17 : f6 84 = iz E 3 ev := (k7 84 (by decide)).trans hc84
      refine F_iald hX d_Mo_makeWindow_11 84 (by decide) h17 (by omega) ?_
      refine G_icmp_ge_z hX (tgt := 126) d_Mo_makeWindow_12 rfl (by omega) (fun c18 => ?_) (fun c19 => ?_)
      · skip
        refine G_aload_n hX 1 rfl rfl d_Mo_makeWindow_126 ?_
        refine M_get hX fg_Mo_386 d_Mo_makeWindow_127 h12 (by decide) h2 ?_
        refine G_aload_n hX 1 rfl rfl d_Mo_makeWindow_130 ?_
        have h20 : F1 42 = .int (zI (kT K)) := (k4 42 (by decide)).trans hF42
        refine M_get hX fg_Mo_376 d_Mo_makeWindow_131 h12 (by decide) h20 ?_
        refine G_aload_n hX 1 rfl rfl d_Mo_makeWindow_134 ?_
        have h21 : F1 43 = .int (zI (kZ K)) := (k4 43 (by decide)).trans hF43
        refine M_get hX fg_Mo_389 d_Mo_makeWindow_135 h12 (by decide) h21 ?_
        refine G_iadd_z hX d_Mo_makeWindow_138 ?_
        refine G_icmp_ne_z hX (tgt := 172) d_Mo_makeWindow_139 rfl (by omega) (fun c22 => ?_) (fun c23 => ?_)
        · skip
          refine G_aload_n hX 1 rfl rfl d_Mo_makeWindow_172 ?_
          refine G_bipush hX (by decide) d_Mo_makeWindow_173 ?_
          refine F_callV hX (st := []) (c_Mo_refuse_f E f6 F1 (-2) (-2) h12 (moK_fr hmk (FrF.tr (FrF.rf (S := [27, 32, 36])) k4 (by decide)) (by decide)) h3 (by omega)) cm_Mo_refuse im_Mo_refuse se_Mo_refuse rfl ml_Mo_354 d_Mo_makeWindow_175 (by decide) h12 rfl rfl (Nat.le_of_ble_eq_true rfl) (by decide) ?_
          rintro _ f24 ⟨rfl, F27, h28, h29, k30, k31⟩
          refine G_cast (st' := []) ?_ rfl rfl rfl rfl
          have h32 : F27 36 = .int (zI c9) := (k30 36 (by decide)).trans h2
          have h33 : f24 82 = iz E 1536 o9 := (k31 82 (by decide)).trans h8
          have h34 : f24 83 = iz E 3 av9 := (k31 83 (by decide)).trans h9
          have h35 : f24 78 = iz E 8 nr9 := (k31 78 (by decide)).trans h10
          have h36 : f24 79 = iz E 1024 sm9 := (k31 79 (by decide)).trans h11
          exact F_vret hX hE d_Mo_makeWindow_178 ⟨rfl, F27, _, _, _, _, _, _, h28, h32, h29, (FrF.tr (FrF.tr FrF.rf k4 (by decide)) k30 (by decide)), h33, h34, h35, h36, hd9.symm, (fun q => absurd q (by decide)), ⟨hb9.1, hb9.2.1⟩, (Fr.tr (Fr.tr Fr.rf k7 (by decide)) k31 (by decide))⟩
        · skip
          refine G_aload_n hX 1 rfl rfl d_Mo_makeWindow_142 ?_
          refine M_get hX fg_Mo_145 d_Mo_makeWindow_143 h12 (by decide) h15 ?_
          refine G_iconst hX d_Mo_makeWindow_146 ?_
          refine F_iald hX d_Mo_makeWindow_147 83 (by decide) h9 (by omega) ?_
          refine G_aload_n hX 1 rfl rfl d_Mo_makeWindow_148 ?_
          refine M_get hX fg_Mo_148 d_Mo_makeWindow_149 h12 (by decide) h16 ?_
          refine G_iconst hX d_Mo_makeWindow_152 ?_
          refine F_iald hX d_Mo_makeWindow_153 84 (by decide) h17 (by omega) ?_
          refine G_icmp_ne_z hX (tgt := 172) d_Mo_makeWindow_154 rfl (by omega) (fun c37 => ?_) (fun c38 => ?_)
          · skip
            refine G_aload_n hX 1 rfl rfl d_Mo_makeWindow_172 ?_
            refine G_bipush hX (by decide) d_Mo_makeWindow_173 ?_
            refine F_callV hX (st := []) (c_Mo_refuse_f E f6 F1 (-2) (-2) h12 (moK_fr hmk (FrF.tr (FrF.rf (S := [27, 32, 36])) k4 (by decide)) (by decide)) h3 (by omega)) cm_Mo_refuse im_Mo_refuse se_Mo_refuse rfl ml_Mo_354 d_Mo_makeWindow_175 (by decide) h12 rfl rfl (Nat.le_of_ble_eq_true rfl) (by decide) ?_
            rintro _ f39 ⟨rfl, F42, h43, h44, k45, k46⟩
            refine G_cast (st' := []) ?_ rfl rfl rfl rfl
            have h47 : F42 36 = .int (zI c9) := (k45 36 (by decide)).trans h2
            have h48 : f39 82 = iz E 1536 o9 := (k46 82 (by decide)).trans h8
            have h49 : f39 83 = iz E 3 av9 := (k46 83 (by decide)).trans h9
            have h50 : f39 78 = iz E 8 nr9 := (k46 78 (by decide)).trans h10
            have h51 : f39 79 = iz E 1024 sm9 := (k46 79 (by decide)).trans h11
            exact F_vret hX hE d_Mo_makeWindow_178 ⟨rfl, F42, _, _, _, _, _, _, h43, h47, h44, (FrF.tr (FrF.tr FrF.rf k4 (by decide)) k45 (by decide)), h48, h49, h50, h51, hd9.symm, (fun q => absurd q (by decide)), ⟨hb9.1, hb9.2.1⟩, (Fr.tr (Fr.tr Fr.rf k7 (by decide)) k46 (by decide))⟩
          · skip
            refine G_aload_n hX 1 rfl rfl d_Mo_makeWindow_157 ?_
            refine M_get hX fg_Mo_145 d_Mo_makeWindow_158 h12 (by decide) h15 ?_
            refine G_iconst hX d_Mo_makeWindow_161 ?_
            refine F_iald hX d_Mo_makeWindow_162 83 (by decide) h9 (by omega) ?_
            refine G_aload_n hX 1 rfl rfl d_Mo_makeWindow_163 ?_
            refine M_get hX fg_Mo_148 d_Mo_makeWindow_164 h12 (by decide) h16 ?_
            refine G_iconst hX d_Mo_makeWindow_167 ?_
            refine F_iald hX d_Mo_makeWindow_168 84 (by decide) h17 (by omega) ?_
            refine G_icmp_eq_z hX (tgt := 178) d_Mo_makeWindow_169 rfl (by omega) (fun c52 => ?_) (fun c53 => ?_)
            · skip
              exact F_vret hX hE d_Mo_makeWindow_178 ⟨rfl, F1, _, _, _, _, _, _, h12, h2, h3, (FrF.tr FrF.rf k4 (by decide)), h8, h9, h10, h11, hd9.symm, (fun q => absurd q (by decide)), ⟨hb9.1, hb9.2.1⟩, (Fr.tr Fr.rf k7 (by decide))⟩
            · skip
              refine G_aload_n hX 1 rfl rfl d_Mo_makeWindow_172 ?_
              refine G_bipush hX (by decide) d_Mo_makeWindow_173 ?_
              refine F_callV hX (st := []) (c_Mo_refuse_f E f6 F1 (-2) (-2) h12 (moK_fr hmk (FrF.tr (FrF.rf (S := [27, 32, 36])) k4 (by decide)) (by decide)) h3 (by omega)) cm_Mo_refuse im_Mo_refuse se_Mo_refuse rfl ml_Mo_354 d_Mo_makeWindow_175 (by decide) h12 rfl rfl (Nat.le_of_ble_eq_true rfl) (by decide) ?_
              rintro _ f54 ⟨rfl, F57, h58, h59, k60, k61⟩
              refine G_cast (st' := []) ?_ rfl rfl rfl rfl
              have h62 : F57 36 = .int (zI c9) := (k60 36 (by decide)).trans h2
              have h63 : f54 82 = iz E 1536 o9 := (k61 82 (by decide)).trans h8
              have h64 : f54 83 = iz E 3 av9 := (k61 83 (by decide)).trans h9
              have h65 : f54 78 = iz E 8 nr9 := (k61 78 (by decide)).trans h10
              have h66 : f54 79 = iz E 1024 sm9 := (k61 79 (by decide)).trans h11
              exact F_vret hX hE d_Mo_makeWindow_178 ⟨rfl, F57, _, _, _, _, _, _, h58, h62, h59, (FrF.tr (FrF.tr FrF.rf k4 (by decide)) k60 (by decide)), h63, h64, h65, h66, hd9.symm, (fun q => absurd q (by decide)), ⟨hb9.1, hb9.2.1⟩, (Fr.tr (Fr.tr Fr.rf k7 (by decide)) k61 (by decide))⟩
      · skip
        refine G_aload_n hX 1 rfl rfl d_Mo_makeWindow_15 ?_
        refine M_get hX fg_Mo_345 d_Mo_makeWindow_16 h12 (by decide) h3 ?_
        refine G_if_ne_z hX (tgt := 126) d_Mo_makeWindow_19 rfl (by omega) (fun c67 => ?_) (fun c68 => by exfalso; omega)
        refine G_aload_n hX 1 rfl rfl d_Mo_makeWindow_126 ?_
        refine M_get hX fg_Mo_386 d_Mo_makeWindow_127 h12 (by decide) h2 ?_
        refine G_aload_n hX 1 rfl rfl d_Mo_makeWindow_130 ?_
        have h69 : F1 42 = .int (zI (kT K)) := (k4 42 (by decide)).trans hF42
        refine M_get hX fg_Mo_376 d_Mo_makeWindow_131 h12 (by decide) h69 ?_
        refine G_aload_n hX 1 rfl rfl d_Mo_makeWindow_134 ?_
        have h70 : F1 43 = .int (zI (kZ K)) := (k4 43 (by decide)).trans hF43
        refine M_get hX fg_Mo_389 d_Mo_makeWindow_135 h12 (by decide) h70 ?_
        refine G_iadd_z hX d_Mo_makeWindow_138 ?_
        refine G_icmp_ne_z hX (tgt := 172) d_Mo_makeWindow_139 rfl (by omega) (fun c71 => ?_) (fun c72 => ?_)
        · skip
          refine G_aload_n hX 1 rfl rfl d_Mo_makeWindow_172 ?_
          refine G_bipush hX (by decide) d_Mo_makeWindow_173 ?_
          refine F_callV hX (st := []) (c_Mo_refuse_f E f6 F1 (-2) (-2) h12 (moK_fr hmk (FrF.tr (FrF.rf (S := [27, 32, 36])) k4 (by decide)) (by decide)) h3 (by omega)) cm_Mo_refuse im_Mo_refuse se_Mo_refuse rfl ml_Mo_354 d_Mo_makeWindow_175 (by decide) h12 rfl rfl (Nat.le_of_ble_eq_true rfl) (by decide) ?_
          rintro _ f73 ⟨rfl, F76, h77, h78, k79, k80⟩
          refine G_cast (st' := []) ?_ rfl rfl rfl rfl
          have h81 : F76 36 = .int (zI c9) := (k79 36 (by decide)).trans h2
          have h82 : f73 82 = iz E 1536 o9 := (k80 82 (by decide)).trans h8
          have h83 : f73 83 = iz E 3 av9 := (k80 83 (by decide)).trans h9
          have h84 : f73 78 = iz E 8 nr9 := (k80 78 (by decide)).trans h10
          have h85 : f73 79 = iz E 1024 sm9 := (k80 79 (by decide)).trans h11
          exact F_vret hX hE d_Mo_makeWindow_178 ⟨rfl, F76, _, _, _, _, _, _, h77, h81, h78, (FrF.tr (FrF.tr FrF.rf k4 (by decide)) k79 (by decide)), h82, h83, h84, h85, hd9.symm, (fun q => absurd q (by decide)), ⟨hb9.1, hb9.2.1⟩, (Fr.tr (Fr.tr Fr.rf k7 (by decide)) k80 (by decide))⟩
        · skip
          refine G_aload_n hX 1 rfl rfl d_Mo_makeWindow_142 ?_
          refine M_get hX fg_Mo_145 d_Mo_makeWindow_143 h12 (by decide) h15 ?_
          refine G_iconst hX d_Mo_makeWindow_146 ?_
          refine F_iald hX d_Mo_makeWindow_147 83 (by decide) h9 (by omega) ?_
          refine G_aload_n hX 1 rfl rfl d_Mo_makeWindow_148 ?_
          refine M_get hX fg_Mo_148 d_Mo_makeWindow_149 h12 (by decide) h16 ?_
          refine G_iconst hX d_Mo_makeWindow_152 ?_
          refine F_iald hX d_Mo_makeWindow_153 84 (by decide) h17 (by omega) ?_
          refine G_icmp_ne_z hX (tgt := 172) d_Mo_makeWindow_154 rfl (by omega) (fun c86 => ?_) (fun c87 => ?_)
          · skip
            refine G_aload_n hX 1 rfl rfl d_Mo_makeWindow_172 ?_
            refine G_bipush hX (by decide) d_Mo_makeWindow_173 ?_
            refine F_callV hX (st := []) (c_Mo_refuse_f E f6 F1 (-2) (-2) h12 (moK_fr hmk (FrF.tr (FrF.rf (S := [27, 32, 36])) k4 (by decide)) (by decide)) h3 (by omega)) cm_Mo_refuse im_Mo_refuse se_Mo_refuse rfl ml_Mo_354 d_Mo_makeWindow_175 (by decide) h12 rfl rfl (Nat.le_of_ble_eq_true rfl) (by decide) ?_
            rintro _ f88 ⟨rfl, F91, h92, h93, k94, k95⟩
            refine G_cast (st' := []) ?_ rfl rfl rfl rfl
            have h96 : F91 36 = .int (zI c9) := (k94 36 (by decide)).trans h2
            have h97 : f88 82 = iz E 1536 o9 := (k95 82 (by decide)).trans h8
            have h98 : f88 83 = iz E 3 av9 := (k95 83 (by decide)).trans h9
            have h99 : f88 78 = iz E 8 nr9 := (k95 78 (by decide)).trans h10
            have h100 : f88 79 = iz E 1024 sm9 := (k95 79 (by decide)).trans h11
            exact F_vret hX hE d_Mo_makeWindow_178 ⟨rfl, F91, _, _, _, _, _, _, h92, h96, h93, (FrF.tr (FrF.tr FrF.rf k4 (by decide)) k94 (by decide)), h97, h98, h99, h100, hd9.symm, (fun q => absurd q (by decide)), ⟨hb9.1, hb9.2.1⟩, (Fr.tr (Fr.tr Fr.rf k7 (by decide)) k95 (by decide))⟩
          · skip
            refine G_aload_n hX 1 rfl rfl d_Mo_makeWindow_157 ?_
            refine M_get hX fg_Mo_145 d_Mo_makeWindow_158 h12 (by decide) h15 ?_
            refine G_iconst hX d_Mo_makeWindow_161 ?_
            refine F_iald hX d_Mo_makeWindow_162 83 (by decide) h9 (by omega) ?_
            refine G_aload_n hX 1 rfl rfl d_Mo_makeWindow_163 ?_
            refine M_get hX fg_Mo_148 d_Mo_makeWindow_164 h12 (by decide) h16 ?_
            refine G_iconst hX d_Mo_makeWindow_167 ?_
            refine F_iald hX d_Mo_makeWindow_168 84 (by decide) h17 (by omega) ?_
            refine G_icmp_eq_z hX (tgt := 178) d_Mo_makeWindow_169 rfl (by omega) (fun c101 => ?_) (fun c102 => ?_)
            · skip
              exact F_vret hX hE d_Mo_makeWindow_178 ⟨rfl, F1, _, _, _, _, _, _, h12, h2, h3, (FrF.tr FrF.rf k4 (by decide)), h8, h9, h10, h11, hd9.symm, (fun q => absurd q (by decide)), ⟨hb9.1, hb9.2.1⟩, (Fr.tr Fr.rf k7 (by decide))⟩
            · skip
              refine G_aload_n hX 1 rfl rfl d_Mo_makeWindow_172 ?_
              refine G_bipush hX (by decide) d_Mo_makeWindow_173 ?_
              refine F_callV hX (st := []) (c_Mo_refuse_f E f6 F1 (-2) (-2) h12 (moK_fr hmk (FrF.tr (FrF.rf (S := [27, 32, 36])) k4 (by decide)) (by decide)) h3 (by omega)) cm_Mo_refuse im_Mo_refuse se_Mo_refuse rfl ml_Mo_354 d_Mo_makeWindow_175 (by decide) h12 rfl rfl (Nat.le_of_ble_eq_true rfl) (by decide) ?_
              rintro _ f103 ⟨rfl, F106, h107, h108, k109, k110⟩
              refine G_cast (st' := []) ?_ rfl rfl rfl rfl
              have h111 : F106 36 = .int (zI c9) := (k109 36 (by decide)).trans h2
              have h112 : f103 82 = iz E 1536 o9 := (k110 82 (by decide)).trans h8
              have h113 : f103 83 = iz E 3 av9 := (k110 83 (by decide)).trans h9
              have h114 : f103 78 = iz E 8 nr9 := (k110 78 (by decide)).trans h10
              have h115 : f103 79 = iz E 1024 sm9 := (k110 79 (by decide)).trans h11
              exact F_vret hX hE d_Mo_makeWindow_178 ⟨rfl, F106, _, _, _, _, _, _, h107, h111, h108, (FrF.tr (FrF.tr FrF.rf k4 (by decide)) k109 (by decide)), h112, h113, h114, h115, hd9.symm, (fun q => absurd q (by decide)), ⟨hb9.1, hb9.2.1⟩, (Fr.tr (Fr.tr Fr.rf k7 (by decide)) k110 (by decide))⟩
    · skip
      refine G_aload_n hX 1 rfl rfl d_Mo_makeWindow_37 ?_
      refine M_get hX fg_Mo_345 d_Mo_makeWindow_38 h12 (by decide) h3 ?_
      refine G_if_ne_z hX (tgt := 123) d_Mo_makeWindow_41 rfl (by omega) (fun c116 => ?_) (fun c117 => by exfalso; omega)
      refine G_goto hX (tgt := 0) d_Mo_makeWindow_123 rfl ?_
      refine G_aload_n hX 1 rfl rfl d_Mo_makeWindow_0 ?_
      have h118 : F1 44 = .ref (eA E 83) := (k4 44 (by decide)).trans (hmk 44 83 (by decide))
      refine M_get hX fg_Mo_145 d_Mo_makeWindow_1 h12 (by decide) h118 ?_
      refine G_iconst hX d_Mo_makeWindow_4 ?_
      refine F_iald hX d_Mo_makeWindow_5 83 (by decide) h9 (by omega) ?_
      refine G_aload_n hX 1 rfl rfl d_Mo_makeWindow_6 ?_
      have h119 : F1 45 = .ref (eA E 84) := (k4 45 (by decide)).trans (hmk 45 84 (by decide))
      refine M_get hX fg_Mo_148 d_Mo_makeWindow_7 h12 (by decide) h119 ?_
      refine G_iconst hX d_Mo_makeWindow_10 ?_
      have h120 : f6 84 = iz E 3 ev := (k7 84 (by decide)).trans hc84
      refine F_iald hX d_Mo_makeWindow_11 84 (by decide) h120 (by omega) ?_
      refine G_icmp_ge_z hX (tgt := 126) d_Mo_makeWindow_12 rfl (by omega) (fun c121 => ?_) (fun c122 => ?_)
      · skip
        refine G_aload_n hX 1 rfl rfl d_Mo_makeWindow_126 ?_
        refine M_get hX fg_Mo_386 d_Mo_makeWindow_127 h12 (by decide) h2 ?_
        refine G_aload_n hX 1 rfl rfl d_Mo_makeWindow_130 ?_
        have h123 : F1 42 = .int (zI (kT K)) := (k4 42 (by decide)).trans hF42
        refine M_get hX fg_Mo_376 d_Mo_makeWindow_131 h12 (by decide) h123 ?_
        refine G_aload_n hX 1 rfl rfl d_Mo_makeWindow_134 ?_
        have h124 : F1 43 = .int (zI (kZ K)) := (k4 43 (by decide)).trans hF43
        refine M_get hX fg_Mo_389 d_Mo_makeWindow_135 h12 (by decide) h124 ?_
        refine G_iadd_z hX d_Mo_makeWindow_138 ?_
        refine G_icmp_ne_z hX (tgt := 172) d_Mo_makeWindow_139 rfl (by omega) (fun c125 => ?_) (fun c126 => ?_)
        · skip
          refine G_aload_n hX 1 rfl rfl d_Mo_makeWindow_172 ?_
          refine G_bipush hX (by decide) d_Mo_makeWindow_173 ?_
          refine F_callV hX (st := []) (c_Mo_refuse_f E f6 F1 (-2) (-2) h12 (moK_fr hmk (FrF.tr (FrF.rf (S := [27, 32, 36])) k4 (by decide)) (by decide)) h3 (by omega)) cm_Mo_refuse im_Mo_refuse se_Mo_refuse rfl ml_Mo_354 d_Mo_makeWindow_175 (by decide) h12 rfl rfl (Nat.le_of_ble_eq_true rfl) (by decide) ?_
          rintro _ f127 ⟨rfl, F130, h131, h132, k133, k134⟩
          refine G_cast (st' := []) ?_ rfl rfl rfl rfl
          have h135 : F130 36 = .int (zI c9) := (k133 36 (by decide)).trans h2
          have h136 : f127 82 = iz E 1536 o9 := (k134 82 (by decide)).trans h8
          have h137 : f127 83 = iz E 3 av9 := (k134 83 (by decide)).trans h9
          have h138 : f127 78 = iz E 8 nr9 := (k134 78 (by decide)).trans h10
          have h139 : f127 79 = iz E 1024 sm9 := (k134 79 (by decide)).trans h11
          exact F_vret hX hE d_Mo_makeWindow_178 ⟨rfl, F130, _, _, _, _, _, _, h131, h135, h132, (FrF.tr (FrF.tr FrF.rf k4 (by decide)) k133 (by decide)), h136, h137, h138, h139, hd9.symm, (fun q => absurd q (by decide)), ⟨hb9.1, hb9.2.1⟩, (Fr.tr (Fr.tr Fr.rf k7 (by decide)) k134 (by decide))⟩
        · skip
          refine G_aload_n hX 1 rfl rfl d_Mo_makeWindow_142 ?_
          refine M_get hX fg_Mo_145 d_Mo_makeWindow_143 h12 (by decide) h118 ?_
          refine G_iconst hX d_Mo_makeWindow_146 ?_
          refine F_iald hX d_Mo_makeWindow_147 83 (by decide) h9 (by omega) ?_
          refine G_aload_n hX 1 rfl rfl d_Mo_makeWindow_148 ?_
          refine M_get hX fg_Mo_148 d_Mo_makeWindow_149 h12 (by decide) h119 ?_
          refine G_iconst hX d_Mo_makeWindow_152 ?_
          refine F_iald hX d_Mo_makeWindow_153 84 (by decide) h120 (by omega) ?_
          refine G_icmp_ne_z hX (tgt := 172) d_Mo_makeWindow_154 rfl (by omega) (fun c140 => ?_) (fun c141 => ?_)
          · skip
            refine G_aload_n hX 1 rfl rfl d_Mo_makeWindow_172 ?_
            refine G_bipush hX (by decide) d_Mo_makeWindow_173 ?_
            refine F_callV hX (st := []) (c_Mo_refuse_f E f6 F1 (-2) (-2) h12 (moK_fr hmk (FrF.tr (FrF.rf (S := [27, 32, 36])) k4 (by decide)) (by decide)) h3 (by omega)) cm_Mo_refuse im_Mo_refuse se_Mo_refuse rfl ml_Mo_354 d_Mo_makeWindow_175 (by decide) h12 rfl rfl (Nat.le_of_ble_eq_true rfl) (by decide) ?_
            rintro _ f142 ⟨rfl, F145, h146, h147, k148, k149⟩
            refine G_cast (st' := []) ?_ rfl rfl rfl rfl
            have h150 : F145 36 = .int (zI c9) := (k148 36 (by decide)).trans h2
            have h151 : f142 82 = iz E 1536 o9 := (k149 82 (by decide)).trans h8
            have h152 : f142 83 = iz E 3 av9 := (k149 83 (by decide)).trans h9
            have h153 : f142 78 = iz E 8 nr9 := (k149 78 (by decide)).trans h10
            have h154 : f142 79 = iz E 1024 sm9 := (k149 79 (by decide)).trans h11
            exact F_vret hX hE d_Mo_makeWindow_178 ⟨rfl, F145, _, _, _, _, _, _, h146, h150, h147, (FrF.tr (FrF.tr FrF.rf k4 (by decide)) k148 (by decide)), h151, h152, h153, h154, hd9.symm, (fun q => absurd q (by decide)), ⟨hb9.1, hb9.2.1⟩, (Fr.tr (Fr.tr Fr.rf k7 (by decide)) k149 (by decide))⟩
          · skip
            refine G_aload_n hX 1 rfl rfl d_Mo_makeWindow_157 ?_
            refine M_get hX fg_Mo_145 d_Mo_makeWindow_158 h12 (by decide) h118 ?_
            refine G_iconst hX d_Mo_makeWindow_161 ?_
            refine F_iald hX d_Mo_makeWindow_162 83 (by decide) h9 (by omega) ?_
            refine G_aload_n hX 1 rfl rfl d_Mo_makeWindow_163 ?_
            refine M_get hX fg_Mo_148 d_Mo_makeWindow_164 h12 (by decide) h119 ?_
            refine G_iconst hX d_Mo_makeWindow_167 ?_
            refine F_iald hX d_Mo_makeWindow_168 84 (by decide) h120 (by omega) ?_
            refine G_icmp_eq_z hX (tgt := 178) d_Mo_makeWindow_169 rfl (by omega) (fun c155 => ?_) (fun c156 => ?_)
            · skip
              exact F_vret hX hE d_Mo_makeWindow_178 ⟨rfl, F1, _, _, _, _, _, _, h12, h2, h3, (FrF.tr FrF.rf k4 (by decide)), h8, h9, h10, h11, hd9.symm, (fun q => absurd q (by decide)), ⟨hb9.1, hb9.2.1⟩, (Fr.tr Fr.rf k7 (by decide))⟩
            · skip
              refine G_aload_n hX 1 rfl rfl d_Mo_makeWindow_172 ?_
              refine G_bipush hX (by decide) d_Mo_makeWindow_173 ?_
              refine F_callV hX (st := []) (c_Mo_refuse_f E f6 F1 (-2) (-2) h12 (moK_fr hmk (FrF.tr (FrF.rf (S := [27, 32, 36])) k4 (by decide)) (by decide)) h3 (by omega)) cm_Mo_refuse im_Mo_refuse se_Mo_refuse rfl ml_Mo_354 d_Mo_makeWindow_175 (by decide) h12 rfl rfl (Nat.le_of_ble_eq_true rfl) (by decide) ?_
              rintro _ f157 ⟨rfl, F160, h161, h162, k163, k164⟩
              refine G_cast (st' := []) ?_ rfl rfl rfl rfl
              have h165 : F160 36 = .int (zI c9) := (k163 36 (by decide)).trans h2
              have h166 : f157 82 = iz E 1536 o9 := (k164 82 (by decide)).trans h8
              have h167 : f157 83 = iz E 3 av9 := (k164 83 (by decide)).trans h9
              have h168 : f157 78 = iz E 8 nr9 := (k164 78 (by decide)).trans h10
              have h169 : f157 79 = iz E 1024 sm9 := (k164 79 (by decide)).trans h11
              exact F_vret hX hE d_Mo_makeWindow_178 ⟨rfl, F160, _, _, _, _, _, _, h161, h165, h162, (FrF.tr (FrF.tr FrF.rf k4 (by decide)) k163 (by decide)), h166, h167, h168, h169, hd9.symm, (fun q => absurd q (by decide)), ⟨hb9.1, hb9.2.1⟩, (Fr.tr (Fr.tr Fr.rf k7 (by decide)) k164 (by decide))⟩
      · skip
        refine G_aload_n hX 1 rfl rfl d_Mo_makeWindow_15 ?_
        refine M_get hX fg_Mo_345 d_Mo_makeWindow_16 h12 (by decide) h3 ?_
        refine G_if_ne_z hX (tgt := 126) d_Mo_makeWindow_19 rfl (by omega) (fun c170 => ?_) (fun c171 => by exfalso; omega)
        refine G_aload_n hX 1 rfl rfl d_Mo_makeWindow_126 ?_
        refine M_get hX fg_Mo_386 d_Mo_makeWindow_127 h12 (by decide) h2 ?_
        refine G_aload_n hX 1 rfl rfl d_Mo_makeWindow_130 ?_
        have h172 : F1 42 = .int (zI (kT K)) := (k4 42 (by decide)).trans hF42
        refine M_get hX fg_Mo_376 d_Mo_makeWindow_131 h12 (by decide) h172 ?_
        refine G_aload_n hX 1 rfl rfl d_Mo_makeWindow_134 ?_
        have h173 : F1 43 = .int (zI (kZ K)) := (k4 43 (by decide)).trans hF43
        refine M_get hX fg_Mo_389 d_Mo_makeWindow_135 h12 (by decide) h173 ?_
        refine G_iadd_z hX d_Mo_makeWindow_138 ?_
        refine G_icmp_ne_z hX (tgt := 172) d_Mo_makeWindow_139 rfl (by omega) (fun c174 => ?_) (fun c175 => ?_)
        · skip
          refine G_aload_n hX 1 rfl rfl d_Mo_makeWindow_172 ?_
          refine G_bipush hX (by decide) d_Mo_makeWindow_173 ?_
          refine F_callV hX (st := []) (c_Mo_refuse_f E f6 F1 (-2) (-2) h12 (moK_fr hmk (FrF.tr (FrF.rf (S := [27, 32, 36])) k4 (by decide)) (by decide)) h3 (by omega)) cm_Mo_refuse im_Mo_refuse se_Mo_refuse rfl ml_Mo_354 d_Mo_makeWindow_175 (by decide) h12 rfl rfl (Nat.le_of_ble_eq_true rfl) (by decide) ?_
          rintro _ f176 ⟨rfl, F179, h180, h181, k182, k183⟩
          refine G_cast (st' := []) ?_ rfl rfl rfl rfl
          have h184 : F179 36 = .int (zI c9) := (k182 36 (by decide)).trans h2
          have h185 : f176 82 = iz E 1536 o9 := (k183 82 (by decide)).trans h8
          have h186 : f176 83 = iz E 3 av9 := (k183 83 (by decide)).trans h9
          have h187 : f176 78 = iz E 8 nr9 := (k183 78 (by decide)).trans h10
          have h188 : f176 79 = iz E 1024 sm9 := (k183 79 (by decide)).trans h11
          exact F_vret hX hE d_Mo_makeWindow_178 ⟨rfl, F179, _, _, _, _, _, _, h180, h184, h181, (FrF.tr (FrF.tr FrF.rf k4 (by decide)) k182 (by decide)), h185, h186, h187, h188, hd9.symm, (fun q => absurd q (by decide)), ⟨hb9.1, hb9.2.1⟩, (Fr.tr (Fr.tr Fr.rf k7 (by decide)) k183 (by decide))⟩
        · skip
          refine G_aload_n hX 1 rfl rfl d_Mo_makeWindow_142 ?_
          refine M_get hX fg_Mo_145 d_Mo_makeWindow_143 h12 (by decide) h118 ?_
          refine G_iconst hX d_Mo_makeWindow_146 ?_
          refine F_iald hX d_Mo_makeWindow_147 83 (by decide) h9 (by omega) ?_
          refine G_aload_n hX 1 rfl rfl d_Mo_makeWindow_148 ?_
          refine M_get hX fg_Mo_148 d_Mo_makeWindow_149 h12 (by decide) h119 ?_
          refine G_iconst hX d_Mo_makeWindow_152 ?_
          refine F_iald hX d_Mo_makeWindow_153 84 (by decide) h120 (by omega) ?_
          refine G_icmp_ne_z hX (tgt := 172) d_Mo_makeWindow_154 rfl (by omega) (fun c189 => ?_) (fun c190 => ?_)
          · skip
            refine G_aload_n hX 1 rfl rfl d_Mo_makeWindow_172 ?_
            refine G_bipush hX (by decide) d_Mo_makeWindow_173 ?_
            refine F_callV hX (st := []) (c_Mo_refuse_f E f6 F1 (-2) (-2) h12 (moK_fr hmk (FrF.tr (FrF.rf (S := [27, 32, 36])) k4 (by decide)) (by decide)) h3 (by omega)) cm_Mo_refuse im_Mo_refuse se_Mo_refuse rfl ml_Mo_354 d_Mo_makeWindow_175 (by decide) h12 rfl rfl (Nat.le_of_ble_eq_true rfl) (by decide) ?_
            rintro _ f191 ⟨rfl, F194, h195, h196, k197, k198⟩
            refine G_cast (st' := []) ?_ rfl rfl rfl rfl
            have h199 : F194 36 = .int (zI c9) := (k197 36 (by decide)).trans h2
            have h200 : f191 82 = iz E 1536 o9 := (k198 82 (by decide)).trans h8
            have h201 : f191 83 = iz E 3 av9 := (k198 83 (by decide)).trans h9
            have h202 : f191 78 = iz E 8 nr9 := (k198 78 (by decide)).trans h10
            have h203 : f191 79 = iz E 1024 sm9 := (k198 79 (by decide)).trans h11
            exact F_vret hX hE d_Mo_makeWindow_178 ⟨rfl, F194, _, _, _, _, _, _, h195, h199, h196, (FrF.tr (FrF.tr FrF.rf k4 (by decide)) k197 (by decide)), h200, h201, h202, h203, hd9.symm, (fun q => absurd q (by decide)), ⟨hb9.1, hb9.2.1⟩, (Fr.tr (Fr.tr Fr.rf k7 (by decide)) k198 (by decide))⟩
          · skip
            refine G_aload_n hX 1 rfl rfl d_Mo_makeWindow_157 ?_
            refine M_get hX fg_Mo_145 d_Mo_makeWindow_158 h12 (by decide) h118 ?_
            refine G_iconst hX d_Mo_makeWindow_161 ?_
            refine F_iald hX d_Mo_makeWindow_162 83 (by decide) h9 (by omega) ?_
            refine G_aload_n hX 1 rfl rfl d_Mo_makeWindow_163 ?_
            refine M_get hX fg_Mo_148 d_Mo_makeWindow_164 h12 (by decide) h119 ?_
            refine G_iconst hX d_Mo_makeWindow_167 ?_
            refine F_iald hX d_Mo_makeWindow_168 84 (by decide) h120 (by omega) ?_
            refine G_icmp_eq_z hX (tgt := 178) d_Mo_makeWindow_169 rfl (by omega) (fun c204 => ?_) (fun c205 => ?_)
            · skip
              exact F_vret hX hE d_Mo_makeWindow_178 ⟨rfl, F1, _, _, _, _, _, _, h12, h2, h3, (FrF.tr FrF.rf k4 (by decide)), h8, h9, h10, h11, hd9.symm, (fun q => absurd q (by decide)), ⟨hb9.1, hb9.2.1⟩, (Fr.tr Fr.rf k7 (by decide))⟩
            · skip
              refine G_aload_n hX 1 rfl rfl d_Mo_makeWindow_172 ?_
              refine G_bipush hX (by decide) d_Mo_makeWindow_173 ?_
              refine F_callV hX (st := []) (c_Mo_refuse_f E f6 F1 (-2) (-2) h12 (moK_fr hmk (FrF.tr (FrF.rf (S := [27, 32, 36])) k4 (by decide)) (by decide)) h3 (by omega)) cm_Mo_refuse im_Mo_refuse se_Mo_refuse rfl ml_Mo_354 d_Mo_makeWindow_175 (by decide) h12 rfl rfl (Nat.le_of_ble_eq_true rfl) (by decide) ?_
              rintro _ f206 ⟨rfl, F209, h210, h211, k212, k213⟩
              refine G_cast (st' := []) ?_ rfl rfl rfl rfl
              have h214 : F209 36 = .int (zI c9) := (k212 36 (by decide)).trans h2
              have h215 : f206 82 = iz E 1536 o9 := (k213 82 (by decide)).trans h8
              have h216 : f206 83 = iz E 3 av9 := (k213 83 (by decide)).trans h9
              have h217 : f206 78 = iz E 8 nr9 := (k213 78 (by decide)).trans h10
              have h218 : f206 79 = iz E 1024 sm9 := (k213 79 (by decide)).trans h11
              exact F_vret hX hE d_Mo_makeWindow_178 ⟨rfl, F209, _, _, _, _, _, _, h210, h214, h211, (FrF.tr (FrF.tr FrF.rf k4 (by decide)) k212 (by decide)), h215, h216, h217, h218, hd9.symm, (fun q => absurd q (by decide)), ⟨hb9.1, hb9.2.1⟩, (Fr.tr (Fr.tr Fr.rf k7 (by decide)) k213 (by decide))⟩
  have loop224 : ∀ (q : Nat) (i : Int) (av1 : Int → Int) (c1 : Int) (m1 : Int → Int) (nr1 : Int → Int) (sm1 : Int → Int) (T1 : Int) (o1 : Int → Int) (F219 : Nat → Value) (f225 : Nat → va_E), (kC K - av1 1).toNat < q → (avB av1) → ((kT K ≤ c1 ∧ c1 ≤ kT K + kZ K) ∧ av1 0 ≤ kD K ∧ av1 1 ≤ kC K ∧ av1 2 ≤ kA K) → (agB o1 m1 c1) → (∀ k, 0 ≤ nr1 k ∧ nr1 k ≤ 100000) → (∀ k, 0 ≤ sm1 k ∧ sm1 k ≤ 100000) → (0 ≤ T1 ∧ T1 < 8 ∧ (0 < N → T1 < N)) → (0 ≤ i ∧ kD K + i ≤ av1 1) → (mkF K g t old N S m = cdS K g t old N S (700 - i).toNat (av1 0) (av1 1) (av1 2) c1 m1 nr1 sm1 T1) → (F219 36 = .int (zI c1)) → (F219 32 = .int (zI 0)) → (F219 27 = .int (zI T1)) → (FrF [27, 32, 36] F F219) → f225 82 = iz E 1536 o1 → f225 83 = iz E 3 av1 → f225 78 = iz E 8 nr1 → f225 79 = iz E 1024 sm1 → f225 61 = mob F219 → Fr [82, 83, 78, 79, 61] f f225 → G E X 0 0 0 [(0, .ref (eA E 61))] [] (wl E f225) := by
    intro q
    induction q with
    | zero => intro i av1 c1 m1 nr1 sm1 T1 o1 F219 f225 hms227; exact absurd hms227 (Nat.not_lt_zero _)
    | succ q ih228 =>
      intro i av1 c1 m1 nr1 sm1 T1 o1 F219 f225 hms227 hav1 hb1 ho1 hnr1 hsm1 hT1 hi hs h220 h221 h222 k223 h229 h230 h231 h232 h233 k226
      have hw0 := hav1 0 (by decide) (by decide)
      have hw1 := hav1 1 (by decide) (by decide)
      have hw2 := hav1 2 (by decide) (by decide)
      refine G_aload_n hX 0 rfl rfl d_Mo_makeWindow_0 ?_
      have h234 : F219 44 = .ref (eA E 83) := (k223 44 (by decide)).trans (hmk 44 83 (by decide))
      refine M_get hX fg_Mo_145 d_Mo_makeWindow_1 h233 (by decide) h234 ?_
      refine G_iconst hX d_Mo_makeWindow_4 ?_
      refine F_iald hX d_Mo_makeWindow_5 83 (by decide) h230 (by omega) ?_
      refine G_aload_n hX 0 rfl rfl d_Mo_makeWindow_6 ?_
      have h235 : F219 45 = .ref (eA E 84) := (k223 45 (by decide)).trans (hmk 45 84 (by decide))
      refine M_get hX fg_Mo_148 d_Mo_makeWindow_7 h233 (by decide) h235 ?_
      refine G_iconst hX d_Mo_makeWindow_10 ?_
      have h236 : f225 84 = iz E 3 ev := (k226 84 (by decide)).trans hc84
      refine F_iald hX d_Mo_makeWindow_11 84 (by decide) h236 (by omega) ?_
      refine G_icmp_ge_z hX (tgt := 126) d_Mo_makeWindow_12 rfl (by omega) (fun c237 => ?_) (fun c238 => ?_)
      · skip
        rw [cdS_e (Or.inr (by omega))] at hs
        refine G_aload_n hX 0 rfl rfl d_Mo_makeWindow_126 ?_
        refine M_get hX fg_Mo_386 d_Mo_makeWindow_127 h233 (by decide) h220 ?_
        refine G_aload_n hX 0 rfl rfl d_Mo_makeWindow_130 ?_
        have h239 : F219 42 = .int (zI (kT K)) := (k223 42 (by decide)).trans hF42
        refine M_get hX fg_Mo_376 d_Mo_makeWindow_131 h233 (by decide) h239 ?_
        refine G_aload_n hX 0 rfl rfl d_Mo_makeWindow_134 ?_
        have h240 : F219 43 = .int (zI (kZ K)) := (k223 43 (by decide)).trans hF43
        refine M_get hX fg_Mo_389 d_Mo_makeWindow_135 h233 (by decide) h240 ?_
        refine G_iadd_z hX d_Mo_makeWindow_138 ?_
        refine G_icmp_ne_z hX (tgt := 172) d_Mo_makeWindow_139 rfl (by omega) (fun c241 => ?_) (fun c242 => ?_)
        · skip
          refine G_aload_n hX 0 rfl rfl d_Mo_makeWindow_172 ?_
          refine G_bipush hX (by decide) d_Mo_makeWindow_173 ?_
          refine F_callV hX (st := []) (c_Mo_refuse E f225 F219 (-2) h233 (moK_fr hmk (FrF.tr (FrF.rf (S := [27, 32, 36])) k223 (by decide)) (by decide)) h221) cm_Mo_refuse im_Mo_refuse se_Mo_refuse rfl ml_Mo_354 d_Mo_makeWindow_175 (by decide) h233 rfl rfl (Nat.le_of_ble_eq_true rfl) (by decide) ?_
          rintro _ f243 ⟨rfl, F246, h247, h248, k249, k250⟩
          refine G_cast (st' := []) ?_ rfl rfl rfl rfl
          have h251 : F246 36 = .int (zI c1) := (k249 36 (by decide)).trans h220
          have h252 : f243 82 = iz E 1536 o1 := (k250 82 (by decide)).trans h229
          have h253 : f243 83 = iz E 3 av1 := (k250 83 (by decide)).trans h230
          have h254 : f243 78 = iz E 8 nr1 := (k250 78 (by decide)).trans h231
          have h255 : f243 79 = iz E 1024 sm1 := (k250 79 (by decide)).trans h232
          exact F_vret hX hE d_Mo_makeWindow_178 ⟨rfl, F246, _, _, _, _, _, _, h247, h251, h248, (FrF.tr (FrF.tr FrF.rf k223 (by decide)) k249 (by decide)), h252, h253, h254, h255, (by rw [hs, mkE0_s, if_pos (by omega)]), (fun q => absurd q (by decide)), (by omega), (Fr.tr (Fr.tr Fr.rf k226 (by decide)) k250 (by decide))⟩
        · skip
          refine G_aload_n hX 0 rfl rfl d_Mo_makeWindow_142 ?_
          refine M_get hX fg_Mo_145 d_Mo_makeWindow_143 h233 (by decide) h234 ?_
          refine G_iconst hX d_Mo_makeWindow_146 ?_
          refine F_iald hX d_Mo_makeWindow_147 83 (by decide) h230 (by omega) ?_
          refine G_aload_n hX 0 rfl rfl d_Mo_makeWindow_148 ?_
          refine M_get hX fg_Mo_148 d_Mo_makeWindow_149 h233 (by decide) h235 ?_
          refine G_iconst hX d_Mo_makeWindow_152 ?_
          refine F_iald hX d_Mo_makeWindow_153 84 (by decide) h236 (by omega) ?_
          refine G_icmp_ne_z hX (tgt := 172) d_Mo_makeWindow_154 rfl (by omega) (fun c256 => ?_) (fun c257 => ?_)
          · skip
            refine G_aload_n hX 0 rfl rfl d_Mo_makeWindow_172 ?_
            refine G_bipush hX (by decide) d_Mo_makeWindow_173 ?_
            refine F_callV hX (st := []) (c_Mo_refuse E f225 F219 (-2) h233 (moK_fr hmk (FrF.tr (FrF.rf (S := [27, 32, 36])) k223 (by decide)) (by decide)) h221) cm_Mo_refuse im_Mo_refuse se_Mo_refuse rfl ml_Mo_354 d_Mo_makeWindow_175 (by decide) h233 rfl rfl (Nat.le_of_ble_eq_true rfl) (by decide) ?_
            rintro _ f258 ⟨rfl, F261, h262, h263, k264, k265⟩
            refine G_cast (st' := []) ?_ rfl rfl rfl rfl
            have h266 : F261 36 = .int (zI c1) := (k264 36 (by decide)).trans h220
            have h267 : f258 82 = iz E 1536 o1 := (k265 82 (by decide)).trans h229
            have h268 : f258 83 = iz E 3 av1 := (k265 83 (by decide)).trans h230
            have h269 : f258 78 = iz E 8 nr1 := (k265 78 (by decide)).trans h231
            have h270 : f258 79 = iz E 1024 sm1 := (k265 79 (by decide)).trans h232
            exact F_vret hX hE d_Mo_makeWindow_178 ⟨rfl, F261, _, _, _, _, _, _, h262, h266, h263, (FrF.tr (FrF.tr FrF.rf k223 (by decide)) k264 (by decide)), h267, h268, h269, h270, (by rw [hs, mkE0_s, if_pos (by omega)]), (fun q => absurd q (by decide)), (by omega), (Fr.tr (Fr.tr Fr.rf k226 (by decide)) k265 (by decide))⟩
          · skip
            refine G_aload_n hX 0 rfl rfl d_Mo_makeWindow_157 ?_
            refine M_get hX fg_Mo_145 d_Mo_makeWindow_158 h233 (by decide) h234 ?_
            refine G_iconst hX d_Mo_makeWindow_161 ?_
            refine F_iald hX d_Mo_makeWindow_162 83 (by decide) h230 (by omega) ?_
            refine G_aload_n hX 0 rfl rfl d_Mo_makeWindow_163 ?_
            refine M_get hX fg_Mo_148 d_Mo_makeWindow_164 h233 (by decide) h235 ?_
            refine G_iconst hX d_Mo_makeWindow_167 ?_
            refine F_iald hX d_Mo_makeWindow_168 84 (by decide) h236 (by omega) ?_
            refine G_icmp_eq_z hX (tgt := 178) d_Mo_makeWindow_169 rfl (by omega) (fun c271 => ?_) (fun c272 => ?_)
            · skip
              exact F_vret hX hE d_Mo_makeWindow_178 ⟨rfl, F219, _, _, _, _, _, _, h233, h220, h221, (FrF.tr FrF.rf k223 (by decide)), h229, h230, h231, h232, (by rw [hs, mkE0_s, if_neg (by omega)]), (fun _ => ⟨by omega, by rw [hs, mkM_s, show kT K + kZ K = c1 by omega]; exact ho1⟩), (by omega), (Fr.tr Fr.rf k226 (by decide))⟩
            · skip
              refine G_aload_n hX 0 rfl rfl d_Mo_makeWindow_172 ?_
              refine G_bipush hX (by decide) d_Mo_makeWindow_173 ?_
              refine F_callV hX (st := []) (c_Mo_refuse E f225 F219 (-2) h233 (moK_fr hmk (FrF.tr (FrF.rf (S := [27, 32, 36])) k223 (by decide)) (by decide)) h221) cm_Mo_refuse im_Mo_refuse se_Mo_refuse rfl ml_Mo_354 d_Mo_makeWindow_175 (by decide) h233 rfl rfl (Nat.le_of_ble_eq_true rfl) (by decide) ?_
              rintro _ f273 ⟨rfl, F276, h277, h278, k279, k280⟩
              refine G_cast (st' := []) ?_ rfl rfl rfl rfl
              have h281 : F276 36 = .int (zI c1) := (k279 36 (by decide)).trans h220
              have h282 : f273 82 = iz E 1536 o1 := (k280 82 (by decide)).trans h229
              have h283 : f273 83 = iz E 3 av1 := (k280 83 (by decide)).trans h230
              have h284 : f273 78 = iz E 8 nr1 := (k280 78 (by decide)).trans h231
              have h285 : f273 79 = iz E 1024 sm1 := (k280 79 (by decide)).trans h232
              exact F_vret hX hE d_Mo_makeWindow_178 ⟨rfl, F276, _, _, _, _, _, _, h277, h281, h278, (FrF.tr (FrF.tr FrF.rf k223 (by decide)) k279 (by decide)), h282, h283, h284, h285, (by rw [hs, mkE0_s, if_pos (by omega)]), (fun q => absurd q (by decide)), (by omega), (Fr.tr (Fr.tr Fr.rf k226 (by decide)) k280 (by decide))⟩
      · skip
        refine G_aload_n hX 0 rfl rfl d_Mo_makeWindow_15 ?_
        refine M_get hX fg_Mo_345 d_Mo_makeWindow_16 h233 (by decide) h221 ?_
        refine G_if_ne_z hX (tgt := 126) d_Mo_makeWindow_19 rfl (by omega) (fun c286 => by exfalso; omega) (fun c287 => ?_)
        refine G_aload_n hX 0 rfl rfl d_Mo_makeWindow_22 ?_
        refine G_iconst hX d_Mo_makeWindow_23 ?_
        have h288 : f225 63 = iz E 1600 b := (k226 63 (by decide)).trans hc63
        refine F_callV hX (st := []) (c_Mo_readPart_ok E f225 F219 1 av1 ev b g sE h233 (moK_fr hmk (FrF.tr (FrF.rf (S := [27, 32, 36])) k223 (by decide)) (by decide)) h230 h236 h288 (by omega) hG hgb (by omega)) cm_Mo_readPart im_Mo_readPart se_Mo_readPart rfl ml_Mo_361 d_Mo_makeWindow_24 (by decide) h233 rfl rfl (Nat.le_of_ble_eq_true rfl) (by decide) ?_
        rintro _ f289 ⟨rfl, h292, k293⟩
        refine G_cast (st' := [.int (zI (g (av1 1)))]) ?_ rfl rfl rfl rfl
        obtain ⟨cb, hcb⟩ : ∃ cb, cb = g (av1 1) := ⟨_, rfl⟩
        refine G_top (show zI (g (av1 1)) = zI cb from congrArg zI hcb.symm) ?_
        have hcbb : 0 ≤ cb ∧ cb < 256 := by rw [hcb]; exact hG _
        have hst := hs.trans (cdS_s (by omega) (by omega))
        rw [← hcb] at hst
        refine G_istore_n hX (lv' := [(1, .int (zI cb)), (0, .ref (eA E 61))]) rfl (by decide) rfl d_Mo_makeWindow_27 ?_
        refine G_iconst hX d_Mo_makeWindow_28 ?_
        refine G_istore_n hX (lv' := [(2, .int (zI 0)), (1, .int (zI cb)), (0, .ref (eA E 61))]) rfl (by decide) rfl d_Mo_makeWindow_29 ?_
        have loop299 : ∀ (q : Nat) (h : Int) (av2 : Int → Int) (c2 : Int) (m2 : Int → Int) (nr2 : Int → Int) (sm2 : Int → Int) (T2 : Int) (o2 : Int → Int) (F294 : Nat → Value) (f300 : Nat → va_E), (2 - h).toNat < q → (avB av2) → ((kT K ≤ c2 ∧ c2 ≤ kT K + kZ K) ∧ av2 0 ≤ kD K ∧ av2 1 ≤ kC K ∧ av2 2 ≤ kA K) → (agB o2 m2 c2) → (∀ k, 0 ≤ nr2 k ∧ nr2 k ≤ 100000) → (∀ k, 0 ≤ sm2 k ∧ sm2 k ≤ 100000) → (0 ≤ T2 ∧ T2 < 8 ∧ (0 < N → T2 < N)) → (0 ≤ h ∧ h ≤ 2 ∧ av1 1 + 1 ≤ av2 1) → (mkF K g t old N S m = hcS K g t old N S cb (700 - (i + 1)).toNat (2 - h).toNat h (av2 0) (av2 1) (av2 2) c2 m2 nr2 sm2 T2) → (F294 36 = .int (zI c2)) → (F294 32 = .int (zI 0)) → (F294 27 = .int (zI T2)) → (FrF [27, 32, 36] F219 F294) → f300 82 = iz E 1536 o2 → f300 83 = iz E 3 av2 → f300 78 = iz E 8 nr2 → f300 79 = iz E 1024 sm2 → f300 61 = mob F294 → Fr [82, 83, 78, 79, 61] f289 f300 → G E X 0 0 30 [(0, .ref (eA E 61)), (1, .int (zI cb)), (2, .int (zI (256 * h)))] [] (wl E f300) := by
          intro q
          induction q with
          | zero => intro h av2 c2 m2 nr2 sm2 T2 o2 F294 f300 hms302; exact absurd hms302 (Nat.not_lt_zero _)
          | succ q ih303 =>
            intro h av2 c2 m2 nr2 sm2 T2 o2 F294 f300 hms302 hav2 hb2 ho2 hnr2 hsm2 hT2 hh hs2 h295 h296 h297 k298 h304 h305 h306 h307 h308 k301
            have hv0 := hav2 0 (by decide) (by decide)
            have hv1 := hav2 1 (by decide) (by decide)
            have hv2 := hav2 2 (by decide) (by decide)
            refine G_iload_n hX 2 rfl rfl d_Mo_makeWindow_30 ?_
            refine G_sipush hX (by decide) d_Mo_makeWindow_31 ?_
            refine G_icmp_ge_z hX (tgt := 123) d_Mo_makeWindow_34 rfl (by omega) (fun c309 => ?_) (fun c310 => ?_)
            · skip
              refine G_goto hX (tgt := 0) d_Mo_makeWindow_123 rfl ?_
              have hsy := hs2.trans (hcS_e (by omega))
              refine G_loc (lv' := [(0, .ref (eA E 61))]) [0] rfl ?_
              exact ih228 (i + 1) av2 c2 m2 nr2 sm2 T2 o2 F294 f300 (by omega) hav2 hb2 ho2 hnr2 hsm2 hT2 (by omega) hsy h295 h296 h297 (FrF.tr (FrF.tr FrF.rf k223 (by decide)) k298 (by decide)) h304 h305 h306 h307 h308 (Fr.tr (Fr.tr (Fr.tr Fr.rf k226 (by decide)) k293 (by decide)) k301 (by decide))
            · skip
              refine G_aload_n hX 0 rfl rfl d_Mo_makeWindow_37 ?_
              refine M_get hX fg_Mo_345 d_Mo_makeWindow_38 h308 (by decide) h296 ?_
              refine G_if_ne_z hX (tgt := 123) d_Mo_makeWindow_41 rfl (by omega) (fun c311 => by exfalso; omega) (fun c312 => ?_)
              refine G_aload_n hX 0 rfl rfl d_Mo_makeWindow_44 ?_
              have h313 : F294 33 = .ref (eA E 80) := (k298 33 (by decide)).trans ((k223 33 (by decide)).trans (hmk 33 80 (by decide)))
              refine M_get hX fg_Mo_136 d_Mo_makeWindow_45 h308 (by decide) h313 ?_
              refine G_iload_n hX 2 rfl rfl d_Mo_makeWindow_48 ?_
              refine G_iload_n hX 1 rfl rfl d_Mo_makeWindow_49 ?_
              refine G_iadd_z hX d_Mo_makeWindow_50 ?_
              have h314 : f300 80 = iz E 1536 tb := (k301 80 (by decide)).trans ((k293 80 (by decide)).trans ((k226 80 (by decide)).trans hc80))
              refine F_iald hX d_Mo_makeWindow_51 80 (by decide) h314 (by omega) ?_
              refine G_top (show zI (tb ((256 * h) + cb)) = zI (t (256 * h + cb)) from congrArg zI ((htb _ (by omega) (by omega)).trans (congrArg t (by omega)))) ?_
              have b315 := htB (256 * h + cb)
              have hk3 := ht3 (256 * h + cb) (by omega) (by omega)
              have hk0 := htB (256 * h + cb)
              rcases (show t (256 * h + cb) = 0 ∨ t (256 * h + cb) = 1 ∨ t (256 * h + cb) = 2 ∨ t (256 * h + cb) = 3 by omega) with qk | qk | qk | qk
              · skip
                refine G_top (show zI (t (256 * h + cb)) = zI 0 from congrArg zI qk) ?_
                have htk : t (256 * h + cb) = 0 := qk
                refine G_istore_n hX (lv' := [(3, .int (zI 0)), (0, .ref (eA E 61)), (1, .int (zI cb)), (2, .int (zI (256 * h)))]) rfl (by decide) rfl d_Mo_makeWindow_52 ?_
                refine G_iload_n hX 0 rfl rfl d_Mo_makeWindow_53 ?_
                refine G_if_le_z hX (tgt := 114) d_Mo_makeWindow_54 rfl (by omega) (fun c316 => ?_) (fun c317 => by exfalso; omega)
                have hin : inS K g t old N S (256 * h + cb) (av2 0) (av2 1) (av2 2) c2 m2 nr2 sm2 T2 = some (av2 0, av2 1, av2 2, c2, m2, nr2, sm2, T2) := by unfold inS; rw [if_pos htk]
                refine G_iincW_z hX (lv' := [(2, .int (zI ((256 * h) + 256))), (3, .int (zI 0)), (0, .ref (eA E 61)), (1, .int (zI cb))]) 3 rfl (by decide) rfl d_Mo_makeWindow_114 ?_
                refine G_goto hX (tgt := 30) d_Mo_makeWindow_120 rfl ?_
                have hsx := hs2.trans (hcS_s (by omega) hin)
                refine G_loc (lv' := [(0, .ref (eA E 61)), (1, .int (zI cb)), (2, .int (zI ((256 * h) + 256)))]) [2, 3, 0] rfl ?_
                refine G_cast (ih303 (h + 1) av2 c2 m2 nr2 sm2 T2 o2 F294 f300 (by omega) hav2 hb2 ho2 hnr2 hsm2 hT2 (by omega) hsx h295 h296 h297 (FrF.tr FrF.rf k298 (by decide)) h304 h305 h306 h307 h308 (Fr.tr Fr.rf k301 (by decide))) rfl (by rw [show 256 * (h + 1) = 256 * h + 256 by omega]) rfl rfl
              · skip
                refine G_top (show zI (t (256 * h + cb)) = zI 1 from congrArg zI qk) ?_
                have htk : t (256 * h + cb) = 1 := qk
                refine G_istore_n hX (lv' := [(3, .int (zI 1)), (0, .ref (eA E 61)), (1, .int (zI cb)), (2, .int (zI (256 * h)))]) rfl (by decide) rfl d_Mo_makeWindow_52 ?_
                refine G_iload_n hX 0 rfl rfl d_Mo_makeWindow_53 ?_
                refine G_if_le_z hX (tgt := 114) d_Mo_makeWindow_54 rfl (by omega) (fun c318 => by exfalso; omega) (fun c319 => ?_)
                refine G_aload_n hX 1 rfl rfl d_Mo_makeWindow_57 ?_
                refine M_get hX fg_Mo_136 d_Mo_makeWindow_58 h308 (by decide) h313 ?_
                refine G_sipush hX (by decide) d_Mo_makeWindow_61 ?_
                refine G_iload_n hX 3 rfl rfl d_Mo_makeWindow_64 ?_
                refine G_iadd_z hX d_Mo_makeWindow_65 ?_
                refine G_iload_n hX 2 rfl rfl d_Mo_makeWindow_66 ?_
                refine G_iadd_z hX d_Mo_makeWindow_67 ?_
                refine F_iald hX d_Mo_makeWindow_68 80 (by decide) h314 (by omega) ?_
                refine G_top (show zI (tb ((512 + (256 * h)) + cb)) = zI (t (512 + (256 * h + cb))) from congrArg zI ((htb _ (by omega) (by omega)).trans (congrArg t (by omega)))) ?_
                have b320 := htB (512 + (256 * h + cb))
                refine G_istore hX (lv' := [(4, .int (zI (t (512 + (256 * h + cb))))), (3, .int (zI 1)), (0, .ref (eA E 61)), (1, .int (zI cb)), (2, .int (zI (256 * h)))]) (by decide) rfl d_Mo_makeWindow_69 ?_
                by_cases qz : t (512 + (256 * h + cb)) = 0
                · skip
                  have hszr : szR g (kC K) (t (512 + (256 * h + cb))) (av2 1) = numL g (ev 1) 4 (av2 1) 0 := by unfold szR; rw [if_pos qz, hevI.2.1]
                  have hnb := numL_4 (g := g) (e := ev 1) (p := av2 1) hG (by omega)
                  by_cases hnk : 0 ≤ (numL g (ev 1) 4 (av2 1) 0).1
                  · skip
                    refine G_iload hX 0 rfl d_Mo_makeWindow_71 ?_
                    refine G_if_ne_z hX (tgt := 84) d_Mo_makeWindow_73 rfl (by omega) (fun c321 => by exfalso; omega) (fun c322 => ?_)
                    refine G_aload_n hX 2 rfl rfl d_Mo_makeWindow_76 ?_
                    refine G_iconst hX d_Mo_makeWindow_77 ?_
                    have h323 : f300 84 = iz E 3 ev := (k301 84 (by decide)).trans ((k293 84 (by decide)).trans h236)
                    have h324 : f300 63 = iz E 1600 b := (k301 63 (by decide)).trans ((k293 63 (by decide)).trans h288)
                    refine F_callV hX (st := []) (c_Mo_readPartNumber_ok E f300 F294 1 av2 ev b g sE h308 (moK_fr hmk (FrF.tr (FrF.tr (FrF.rf (S := [27, 32, 36])) k223 (by decide)) k298 (by decide)) (by decide)) h296 h305 h323 h324 (by omega) hG hgb (by omega) hnk) cm_Mo_readPartNumber im_Mo_readPartNumber se_Mo_readPartNumber rfl ml_Mo_370 d_Mo_makeWindow_78 (by decide) h308 rfl rfl (Nat.le_of_ble_eq_true rfl) (by decide) ?_
                    rintro _ f325 ⟨rfl, h328, k329⟩
                    refine G_cast (st' := [.int (zI ((numL g (ev 1) 4 (av2 1) 0).1))]) ?_ rfl rfl rfl rfl
                    refine G_goto hX (tgt := 86) d_Mo_makeWindow_81 rfl ?_
                    refine G_istore hX (lv' := [(4, .int (zI ((numL g (ev 1) 4 (av2 1) 0).1))), (3, .int (zI 1)), (0, .ref (eA E 61)), (1, .int (zI cb)), (2, .int (zI (256 * h)))]) (by decide) rfl d_Mo_makeWindow_86 ?_
                    refine G_aload_n hX 2 rfl rfl d_Mo_makeWindow_88 ?_
                    have h330 : f325 61 = mob F294 := (k329 61 (by decide)).trans h308
                    refine M_get hX fg_Mo_345 d_Mo_makeWindow_89 h330 (by decide) h296 ?_
                    refine G_if_ne_z hX (tgt := 114) d_Mo_makeWindow_92 rfl (by omega) (fun c331 => by exfalso; omega) (fun c332 => ?_)
                    have hsn : (szR g (kC K) (t (512 + (256 * h + cb))) (av2 1)).1 = (numL g (ev 1) 4 (av2 1) 0).1 := by rw [hszr]
                    have hsp : (szR g (kC K) (t (512 + (256 * h + cb))) (av2 1)).2 = (numL g (ev 1) 4 (av2 1) 0).2 := by rw [hszr]
                    have hnb2 : 0 ≤ (numL g (ev 1) 4 (av2 1) 0).1 ∧ (numL g (ev 1) 4 (av2 1) 0).1 < 268435456 := by have := htB (512 + (256 * h + cb)); omega
                    have hen9 : ((uz av2 1 (numL g (ev 1) 4 (av2 1) 0).2) 0 ≤ ev 0 ∧ ev 0 ≤ sE) ∧ ((uz av2 1 (numL g (ev 1) 4 (av2 1) 0).2) 1 ≤ ev 1 ∧ ev 1 ≤ sE) ∧ ((uz av2 1 (numL g (ev 1) 4 (av2 1) 0).2) 2 ≤ ev 2 ∧ ev 2 ≤ sE) := by
                      refine ⟨⟨show av2 0 ≤ _ by omega, by omega⟩, ⟨show (numL g (ev 1) 4 (av2 1) 0).2 ≤ _ by omega, by omega⟩, ⟨show av2 2 ≤ _ by omega, by omega⟩⟩
                    have hav9 : avB (uz av2 1 (numL g (ev 1) 4 (av2 1) 0).2) := avB_u hav2 (by omega)
                    by_cases qm : (numL g (ev 1) 4 (av2 1) 0).1 ≤ kT K + kZ K - c2 ∧ (numL g (ev 1) 4 (av2 1) 0).1 ≤ ev 0 - av2 0
                    · skip
                      refine G_aload_n hX 2 rfl rfl d_Mo_makeWindow_95 ?_
                      refine G_iload_n hX 1 rfl rfl d_Mo_makeWindow_96 ?_
                      refine G_iload hX 0 rfl d_Mo_makeWindow_97 ?_
                      refine G_aload_n hX 2 rfl rfl d_Mo_makeWindow_99 ?_
                      refine M_get hX fg_Mo_136 d_Mo_makeWindow_100 h330 (by decide) h313 ?_
                      refine G_sipush hX (by decide) d_Mo_makeWindow_103 ?_
                      refine G_iload_n hX 4 rfl rfl d_Mo_makeWindow_106 ?_
                      refine G_iadd_z hX d_Mo_makeWindow_107 ?_
                      refine G_iload_n hX 3 rfl rfl d_Mo_makeWindow_108 ?_
                      refine G_iadd_z hX d_Mo_makeWindow_109 ?_
                      have h333 : f325 80 = iz E 1536 tb := (k329 80 (by decide)).trans h314
                      refine F_iald hX d_Mo_makeWindow_110 80 (by decide) h333 (by omega) ?_
                      refine G_top (show zI (tb ((1024 + (256 * h)) + cb)) = zI (t (1024 + (256 * h + cb))) from congrArg zI ((htb _ (by omega) (by omega)).trans (congrArg t (by omega)))) ?_
                      have b334 := htB (1024 + (256 * h + cb))
                      have h335 : F294 40 = .int (zI (kS K)) := (k298 40 (by decide)).trans ((k223 40 (by decide)).trans hF40)
                      have h336 : F294 42 = .int (zI (kT K)) := (k298 42 (by decide)).trans ((k223 42 (by decide)).trans hF42)
                      have h337 : F294 39 = .int (zI (kF K)) := (k298 39 (by decide)).trans ((k223 39 (by decide)).trans hF39)
                      have h338 : F294 41 = .int (zI oo) := (k298 41 (by decide)).trans ((k223 41 (by decide)).trans hF41)
                      have h339 : F294 43 = .int (zI (kZ K)) := (k298 43 (by decide)).trans ((k223 43 (by decide)).trans hF43)
                      have h340 : F294 25 = .int (zI N) := (k298 25 (by decide)).trans ((k223 25 (by decide)).trans hF25)
                      have h341 : F294 26 = .int (zI S) := (k298 26 (by decide)).trans ((k223 26 (by decide)).trans hF26)
                      have h342 : f325 81 = iz E 1536 ob := (k329 81 (by decide)).trans ((k301 81 (by decide)).trans ((k293 81 (by decide)).trans ((k226 81 (by decide)).trans hc81)))
                      have h343 : f325 82 = iz E 1536 o2 := (k329 82 (by decide)).trans h304
                      have h344 : f325 78 = iz E 8 nr2 := (k329 78 (by decide)).trans h306
                      have h345 : f325 79 = iz E 1024 sm2 := (k329 79 (by decide)).trans h307
                      have h346 : f325 84 = iz E 3 ev := (k329 84 (by decide)).trans h323
                      have h347 : f325 63 = iz E 1600 b := (k329 63 (by decide)).trans h324
                      refine F_callV hX (st := []) (c_Mo_make1_ok E f325 F294 ((numL g (ev 1) 4 (av2 1) 0).1) (t (1024 + (256 * h + cb))) K oo c2 N S T2 ob o2 old m2 oc nr2 sm2 (uz av2 1 (numL g (ev 1) 4 (av2 1) 0).2) ev b g sE h330 (moK_fr hmk (FrF.tr (FrF.tr (FrF.rf (S := [27, 32, 36])) k223 (by decide)) k298 (by decide)) (by decide)) h340 h341 h297 h296 h295 h337 h335 h338 h336 h339 h342 h343 h344 h345 h328 h346 h347 hoo hK hold ho2 (by omega) (by omega) (by omega) (by omega) hT2 hnr2 hsm2 hG hgb hav9 hev hen9 (by omega) qm) cm_Mo_make im_Mo_make se_Mo_make rfl ml_Mo_398 d_Mo_makeWindow_111 (by decide) h330 rfl rfl (Nat.le_of_ble_eq_true rfl) (by decide) ?_
                      rintro _ f348 ⟨rfl, F351, o'_352, h353, h354, k355, h356, h357, p358, k359⟩
                      refine G_cast (st' := []) ?_ rfl rfl rfl rfl
                      have hin : inS K g t old N S (256 * h + cb) (av2 0) (av2 1) (av2 2) c2 m2 nr2 sm2 T2 = some (av2 0 + ((numL g (ev 1) 4 (av2 1) 0).1), (numL g (ev 1) 4 (av2 1) 0).2, av2 2, c2 + ((numL g (ev 1) 4 (av2 1) 0).1), cz g m2 (av2 0) c2 ((numL g (ev 1) 4 (av2 1) 0).1), nr2, sm2, T2) := by
                        unfold inS
                        rw [if_neg (by omega), if_neg (by rw [hsn]; omega), hsn, hsp]
                        rw [if_pos htk, if_neg (by omega)]
                      refine G_iincW_z hX (lv' := [(2, .int (zI ((256 * h) + 256))), (4, .int (zI ((numL g (ev 1) 4 (av2 1) 0).1))), (3, .int (zI 1)), (0, .ref (eA E 61)), (1, .int (zI cb))]) 4 rfl (by decide) rfl d_Mo_makeWindow_114 ?_
                      refine G_goto hX (tgt := 30) d_Mo_makeWindow_120 rfl ?_
                      have hsx := hs2.trans (hcS_s (by omega) hin)
                      have h360 : F351 32 = .int (zI 0) := (k355 32 (by decide)).trans h296
                      have h361 : F351 27 = .int (zI T2) := (k355 27 (by decide)).trans h297
                      have h362 : f348 78 = iz E 8 nr2 := (k359 78 (by decide)).trans h344
                      have h363 : f348 79 = iz E 1024 sm2 := (k359 79 (by decide)).trans h345
                      refine G_loc (lv' := [(0, .ref (eA E 61)), (1, .int (zI cb)), (2, .int (zI ((256 * h) + 256)))]) [3, 4, 0] rfl ?_
                      refine G_cast (ih303 (h + 1) (uz (uz av2 1 (numL g (ev 1) 4 (av2 1) 0).2) 0 ((uz av2 1 (numL g (ev 1) 4 (av2 1) 0).2) 0 + ((numL g (ev 1) 4 (av2 1) 0).1))) (c2 + ((numL g (ev 1) 4 (av2 1) 0).1)) (cz g m2 (av2 0) c2 ((numL g (ev 1) 4 (av2 1) 0).1)) nr2 sm2 T2 o'_352 F351 f348 (by omega) (avB_u hav9 (show 0 ≤ av2 0 + (numL g (ev 1) 4 (av2 1) 0).1 ∧ av2 0 + (numL g (ev 1) 4 (av2 1) 0).1 ≤ 700 by omega)) (show (kT K ≤ c2 + ((numL g (ev 1) 4 (av2 1) 0).1) ∧ c2 + ((numL g (ev 1) 4 (av2 1) 0).1) ≤ kT K + kZ K) ∧ av2 0 + ((numL g (ev 1) 4 (av2 1) 0).1) ≤ kD K ∧ (numL g (ev 1) 4 (av2 1) 0).2 ≤ kC K ∧ av2 2 ≤ kA K by omega) p358 hnr2 hsm2 hT2 (show 0 ≤ h + 1 ∧ h + 1 ≤ 2 ∧ av1 1 + 1 ≤ (numL g (ev 1) 4 (av2 1) 0).2 by omega) hsx h354 h360 h361 (FrF.tr (FrF.tr FrF.rf k298 (by decide)) k355 (by decide)) h356 h357 h362 h363 h353 (Fr.tr (Fr.tr (Fr.tr Fr.rf k301 (by decide)) k329 (by decide)) k359 (by decide))) rfl (by rw [show 256 * (h + 1) = 256 * h + 256 by omega]) rfl rfl
                    · skip
                      refine G_aload_n hX 2 rfl rfl d_Mo_makeWindow_95 ?_
                      refine G_iload_n hX 1 rfl rfl d_Mo_makeWindow_96 ?_
                      refine G_iload hX 0 rfl d_Mo_makeWindow_97 ?_
                      refine G_aload_n hX 2 rfl rfl d_Mo_makeWindow_99 ?_
                      refine M_get hX fg_Mo_136 d_Mo_makeWindow_100 h330 (by decide) h313 ?_
                      refine G_sipush hX (by decide) d_Mo_makeWindow_103 ?_
                      refine G_iload_n hX 4 rfl rfl d_Mo_makeWindow_106 ?_
                      refine G_iadd_z hX d_Mo_makeWindow_107 ?_
                      refine G_iload_n hX 3 rfl rfl d_Mo_makeWindow_108 ?_
                      refine G_iadd_z hX d_Mo_makeWindow_109 ?_
                      have h364 : f325 80 = iz E 1536 tb := (k329 80 (by decide)).trans h314
                      refine F_iald hX d_Mo_makeWindow_110 80 (by decide) h364 (by omega) ?_
                      refine G_top (show zI (tb ((1024 + (256 * h)) + cb)) = zI (t (1024 + (256 * h + cb))) from congrArg zI ((htb _ (by omega) (by omega)).trans (congrArg t (by omega)))) ?_
                      have b365 := htB (1024 + (256 * h + cb))
                      have h366 : F294 40 = .int (zI (kS K)) := (k298 40 (by decide)).trans ((k223 40 (by decide)).trans hF40)
                      have h367 : F294 42 = .int (zI (kT K)) := (k298 42 (by decide)).trans ((k223 42 (by decide)).trans hF42)
                      have h368 : F294 39 = .int (zI (kF K)) := (k298 39 (by decide)).trans ((k223 39 (by decide)).trans hF39)
                      have h369 : F294 41 = .int (zI oo) := (k298 41 (by decide)).trans ((k223 41 (by decide)).trans hF41)
                      have h370 : F294 43 = .int (zI (kZ K)) := (k298 43 (by decide)).trans ((k223 43 (by decide)).trans hF43)
                      have h371 : F294 25 = .int (zI N) := (k298 25 (by decide)).trans ((k223 25 (by decide)).trans hF25)
                      have h372 : F294 26 = .int (zI S) := (k298 26 (by decide)).trans ((k223 26 (by decide)).trans hF26)
                      have h373 : f325 81 = iz E 1536 ob := (k329 81 (by decide)).trans ((k301 81 (by decide)).trans ((k293 81 (by decide)).trans ((k226 81 (by decide)).trans hc81)))
                      have h374 : f325 82 = iz E 1536 o2 := (k329 82 (by decide)).trans h304
                      have h375 : f325 78 = iz E 8 nr2 := (k329 78 (by decide)).trans h306
                      have h376 : f325 79 = iz E 1024 sm2 := (k329 79 (by decide)).trans h307
                      have h377 : f325 84 = iz E 3 ev := (k329 84 (by decide)).trans h323
                      have h378 : f325 63 = iz E 1600 b := (k329 63 (by decide)).trans h324
                      refine F_callV hX (st := []) (c_Mo_make1_no E f325 F294 ((numL g (ev 1) 4 (av2 1) 0).1) (t (1024 + (256 * h + cb))) K oo c2 N S T2 ob o2 old m2 oc nr2 sm2 (uz av2 1 (numL g (ev 1) 4 (av2 1) 0).2) ev b g sE h330 (moK_fr hmk (FrF.tr (FrF.tr (FrF.rf (S := [27, 32, 36])) k223 (by decide)) k298 (by decide)) (by decide)) h371 h372 h297 h296 h295 h368 h366 h369 h367 h370 h373 h374 h375 h376 h328 h377 h378 hoo hK hold ho2 (by omega) (by omega) (by omega) (by omega) hT2 hnr2 hsm2 hG hgb hav9 hev hen9 (by omega) qm) cm_Mo_make im_Mo_make se_Mo_make rfl ml_Mo_398 d_Mo_makeWindow_111 (by decide) h330 rfl rfl (Nat.le_of_ble_eq_true rfl) (by decide) ?_
                      rintro _ f379 ⟨rfl, F382, c'_383, o'_384, av'_385, h386, h387, h388, k389, h390, h391, p392, p393, k394⟩
                      refine G_cast (st' := []) ?_ rfl rfl rfl rfl
                      have hnn : inS K g t old N S (256 * h + cb) (av2 0) (av2 1) (av2 2) c2 m2 nr2 sm2 T2 = none := by
                        unfold inS
                        rw [if_neg (by omega)]
                        by_cases qs : (szR g (kC K) (t (512 + (256 * h + cb))) (av2 1)).1 < 0 ∨ kT K + kZ K - c2 < (szR g (kC K) (t (512 + (256 * h + cb))) (av2 1)).1
                        · rw [if_pos qs]
                        · rw [if_neg qs]
                          rw [if_pos htk, if_pos (by rw [hsn] at qs ⊢; omega)]
                      have hd9 : mkE0 K (mkF K g t old N S m) = -2 := by rw [hs2, hcS_n (by omega) hnn]; rfl
                      have h395 : f379 78 = iz E 8 nr2 := (k394 78 (by decide)).trans h375
                      have h396 : f379 79 = iz E 1024 sm2 := (k394 79 (by decide)).trans h376
                      refine G_loc (lv' := [(0, .ref (eA E 61)), (2, .int (zI (256 * h)))]) [2, 4] rfl ?_
                      exact join5 av'_385 c'_383 o'_384 nr2 sm2 (256 * h) F382 f379  p393 (by omega) hd9 h387 h388 (FrF.tr (FrF.tr (FrF.tr FrF.rf k223 (by decide)) k298 (by decide)) k389 (by decide)) h390 h391 h395 h396 h386 (Fr.tr (Fr.tr (Fr.tr (Fr.tr (Fr.tr Fr.rf k226 (by decide)) k293 (by decide)) k301 (by decide)) k329 (by decide)) k394 (by decide))
                  · skip
                    have hnk : (numL g (ev 1) 4 (av2 1) 0).1 < 0 := by omega
                    refine G_iload hX 0 rfl d_Mo_makeWindow_71 ?_
                    refine G_if_ne_z hX (tgt := 84) d_Mo_makeWindow_73 rfl (by omega) (fun c397 => by exfalso; omega) (fun c398 => ?_)
                    refine G_aload_n hX 2 rfl rfl d_Mo_makeWindow_76 ?_
                    refine G_iconst hX d_Mo_makeWindow_77 ?_
                    have h399 : f300 84 = iz E 3 ev := (k301 84 (by decide)).trans ((k293 84 (by decide)).trans h236)
                    have h400 : f300 63 = iz E 1600 b := (k301 63 (by decide)).trans ((k293 63 (by decide)).trans h288)
                    refine F_callV hX (st := []) (c_Mo_readPartNumber_no E f300 F294 1 av2 ev b g sE h308 (moK_fr hmk (FrF.tr (FrF.tr (FrF.rf (S := [27, 32, 36])) k223 (by decide)) k298 (by decide)) (by decide)) h296 h305 h399 h400 (by omega) hG hgb (by omega) hnk hav2) cm_Mo_readPartNumber im_Mo_readPartNumber se_Mo_readPartNumber rfl ml_Mo_370 d_Mo_makeWindow_78 (by decide) h308 rfl rfl (Nat.le_of_ble_eq_true rfl) (by decide) ?_
                    rintro _ f401 ⟨F404, r'_405, av'_406, rfl, h407, h408, k409, h410, p411, p412, k413⟩
                    refine G_cast (st' := [.int (zI r'_405)]) ?_ rfl rfl rfl rfl
                    refine G_goto hX (tgt := 86) d_Mo_makeWindow_81 rfl ?_
                    refine G_istore hX (lv' := [(4, .int (zI r'_405)), (3, .int (zI 1)), (0, .ref (eA E 61)), (1, .int (zI cb)), (2, .int (zI (256 * h)))]) (by decide) rfl d_Mo_makeWindow_86 ?_
                    refine G_aload_n hX 2 rfl rfl d_Mo_makeWindow_88 ?_
                    refine M_get hX fg_Mo_345 d_Mo_makeWindow_89 h407 (by decide) h408 ?_
                    refine G_if_ne_z hX (tgt := 114) d_Mo_makeWindow_92 rfl (by omega) (fun c414 => ?_) (fun c415 => by exfalso; omega)
                    have hnn : inS K g t old N S (256 * h + cb) (av2 0) (av2 1) (av2 2) c2 m2 nr2 sm2 T2 = none := by
                      unfold inS
                      rw [if_neg (by omega), if_pos (Or.inl (by rw [hszr]; exact hnk))]
                    have hd9 : mkE0 K (mkF K g t old N S m) = -2 := by rw [hs2, hcS_n (by omega) hnn]; rfl
                    have h416 : F404 36 = .int (zI c2) := (k409 36 (by decide)).trans h295
                    have h417 : f401 82 = iz E 1536 o2 := (k413 82 (by decide)).trans h304
                    have h418 : f401 78 = iz E 8 nr2 := (k413 78 (by decide)).trans h306
                    have h419 : f401 79 = iz E 1024 sm2 := (k413 79 (by decide)).trans h307
                    refine G_loc (lv' := [(0, .ref (eA E 61)), (2, .int (zI (256 * h)))]) [2, 4] rfl ?_
                    exact join5 av'_406 c2 o2 nr2 sm2 (256 * h) F404 f401  p412 (by omega) hd9 h416 h408 (FrF.tr (FrF.tr (FrF.tr FrF.rf k223 (by decide)) k298 (by decide)) k409 (by decide)) h417 h410 h418 h419 h407 (Fr.tr (Fr.tr (Fr.tr (Fr.tr Fr.rf k226 (by decide)) k293 (by decide)) k301 (by decide)) k413 (by decide))
                · skip
                  have hszr : szR g (kC K) (t (512 + (256 * h + cb))) (av2 1) = (t (512 + (256 * h + cb)), av2 1) := by unfold szR; rw [if_neg qz]
                  refine G_iload hX 0 rfl d_Mo_makeWindow_71 ?_
                  refine G_if_ne_z hX (tgt := 84) d_Mo_makeWindow_73 rfl (by omega) (fun c420 => ?_) (fun c421 => by exfalso; omega)
                  refine G_iload hX 0 rfl d_Mo_makeWindow_84 ?_
                  refine G_istore hX (lv' := [(4, .int (zI (t (512 + (256 * h + cb))))), (3, .int (zI 1)), (0, .ref (eA E 61)), (1, .int (zI cb)), (2, .int (zI (256 * h)))]) (by decide) rfl d_Mo_makeWindow_86 ?_
                  refine G_aload_n hX 2 rfl rfl d_Mo_makeWindow_88 ?_
                  refine M_get hX fg_Mo_345 d_Mo_makeWindow_89 h308 (by decide) h296 ?_
                  refine G_if_ne_z hX (tgt := 114) d_Mo_makeWindow_92 rfl (by omega) (fun c422 => by exfalso; omega) (fun c423 => ?_)
                  have hsn : (szR g (kC K) (t (512 + (256 * h + cb))) (av2 1)).1 = t (512 + (256 * h + cb)) := by rw [hszr]
                  have hsp : (szR g (kC K) (t (512 + (256 * h + cb))) (av2 1)).2 = av2 1 := by rw [hszr]
                  have hnb2 : 0 ≤ t (512 + (256 * h + cb)) ∧ t (512 + (256 * h + cb)) < 268435456 := by have := htB (512 + (256 * h + cb)); omega
                  have hen9 : (av2 0 ≤ ev 0 ∧ ev 0 ≤ sE) ∧ (av2 1 ≤ ev 1 ∧ ev 1 ≤ sE) ∧ (av2 2 ≤ ev 2 ∧ ev 2 ≤ sE) := by
                    refine ⟨⟨show av2 0 ≤ _ by omega, by omega⟩, ⟨show av2 1 ≤ _ by omega, by omega⟩, ⟨show av2 2 ≤ _ by omega, by omega⟩⟩
                  have hav9 : avB av2 := hav2
                  by_cases qm : t (512 + (256 * h + cb)) ≤ kT K + kZ K - c2 ∧ t (512 + (256 * h + cb)) ≤ ev 0 - av2 0
                  · skip
                    refine G_aload_n hX 2 rfl rfl d_Mo_makeWindow_95 ?_
                    refine G_iload_n hX 1 rfl rfl d_Mo_makeWindow_96 ?_
                    refine G_iload hX 0 rfl d_Mo_makeWindow_97 ?_
                    refine G_aload_n hX 2 rfl rfl d_Mo_makeWindow_99 ?_
                    refine M_get hX fg_Mo_136 d_Mo_makeWindow_100 h308 (by decide) h313 ?_
                    refine G_sipush hX (by decide) d_Mo_makeWindow_103 ?_
                    refine G_iload_n hX 4 rfl rfl d_Mo_makeWindow_106 ?_
                    refine G_iadd_z hX d_Mo_makeWindow_107 ?_
                    refine G_iload_n hX 3 rfl rfl d_Mo_makeWindow_108 ?_
                    refine G_iadd_z hX d_Mo_makeWindow_109 ?_
                    refine F_iald hX d_Mo_makeWindow_110 80 (by decide) h314 (by omega) ?_
                    refine G_top (show zI (tb ((1024 + (256 * h)) + cb)) = zI (t (1024 + (256 * h + cb))) from congrArg zI ((htb _ (by omega) (by omega)).trans (congrArg t (by omega)))) ?_
                    have b424 := htB (1024 + (256 * h + cb))
                    have h425 : F294 40 = .int (zI (kS K)) := (k298 40 (by decide)).trans ((k223 40 (by decide)).trans hF40)
                    have h426 : F294 42 = .int (zI (kT K)) := (k298 42 (by decide)).trans ((k223 42 (by decide)).trans hF42)
                    have h427 : F294 39 = .int (zI (kF K)) := (k298 39 (by decide)).trans ((k223 39 (by decide)).trans hF39)
                    have h428 : F294 41 = .int (zI oo) := (k298 41 (by decide)).trans ((k223 41 (by decide)).trans hF41)
                    have h429 : F294 43 = .int (zI (kZ K)) := (k298 43 (by decide)).trans ((k223 43 (by decide)).trans hF43)
                    have h430 : F294 25 = .int (zI N) := (k298 25 (by decide)).trans ((k223 25 (by decide)).trans hF25)
                    have h431 : F294 26 = .int (zI S) := (k298 26 (by decide)).trans ((k223 26 (by decide)).trans hF26)
                    have h432 : f300 81 = iz E 1536 ob := (k301 81 (by decide)).trans ((k293 81 (by decide)).trans ((k226 81 (by decide)).trans hc81))
                    have h433 : f300 84 = iz E 3 ev := (k301 84 (by decide)).trans ((k293 84 (by decide)).trans h236)
                    have h434 : f300 63 = iz E 1600 b := (k301 63 (by decide)).trans ((k293 63 (by decide)).trans h288)
                    refine F_callV hX (st := []) (c_Mo_make1_ok E f300 F294 (t (512 + (256 * h + cb))) (t (1024 + (256 * h + cb))) K oo c2 N S T2 ob o2 old m2 oc nr2 sm2 av2 ev b g sE h308 (moK_fr hmk (FrF.tr (FrF.tr (FrF.rf (S := [27, 32, 36])) k223 (by decide)) k298 (by decide)) (by decide)) h430 h431 h297 h296 h295 h427 h425 h428 h426 h429 h432 h304 h306 h307 h305 h433 h434 hoo hK hold ho2 (by omega) (by omega) (by omega) (by omega) hT2 hnr2 hsm2 hG hgb hav9 hev hen9 (by omega) qm) cm_Mo_make im_Mo_make se_Mo_make rfl ml_Mo_398 d_Mo_makeWindow_111 (by decide) h308 rfl rfl (Nat.le_of_ble_eq_true rfl) (by decide) ?_
                    rintro _ f435 ⟨rfl, F438, o'_439, h440, h441, k442, h443, h444, p445, k446⟩
                    refine G_cast (st' := []) ?_ rfl rfl rfl rfl
                    have hin : inS K g t old N S (256 * h + cb) (av2 0) (av2 1) (av2 2) c2 m2 nr2 sm2 T2 = some (av2 0 + (t (512 + (256 * h + cb))), av2 1, av2 2, c2 + (t (512 + (256 * h + cb))), cz g m2 (av2 0) c2 (t (512 + (256 * h + cb))), nr2, sm2, T2) := by
                      unfold inS
                      rw [if_neg (by omega), if_neg (by rw [hsn]; omega), hsn, hsp]
                      rw [if_pos htk, if_neg (by omega)]
                    refine G_iincW_z hX (lv' := [(2, .int (zI ((256 * h) + 256))), (4, .int (zI (t (512 + (256 * h + cb))))), (3, .int (zI 1)), (0, .ref (eA E 61)), (1, .int (zI cb))]) 4 rfl (by decide) rfl d_Mo_makeWindow_114 ?_
                    refine G_goto hX (tgt := 30) d_Mo_makeWindow_120 rfl ?_
                    have hsx := hs2.trans (hcS_s (by omega) hin)
                    have h447 : F438 32 = .int (zI 0) := (k442 32 (by decide)).trans h296
                    have h448 : F438 27 = .int (zI T2) := (k442 27 (by decide)).trans h297
                    have h449 : f435 78 = iz E 8 nr2 := (k446 78 (by decide)).trans h306
                    have h450 : f435 79 = iz E 1024 sm2 := (k446 79 (by decide)).trans h307
                    refine G_loc (lv' := [(0, .ref (eA E 61)), (1, .int (zI cb)), (2, .int (zI ((256 * h) + 256)))]) [3, 4, 0] rfl ?_
                    refine G_cast (ih303 (h + 1) (uz av2 0 (av2 0 + (t (512 + (256 * h + cb))))) (c2 + (t (512 + (256 * h + cb)))) (cz g m2 (av2 0) c2 (t (512 + (256 * h + cb)))) nr2 sm2 T2 o'_439 F438 f435 (by omega) (avB_u hav9 (show 0 ≤ av2 0 + t (512 + (256 * h + cb)) ∧ av2 0 + t (512 + (256 * h + cb)) ≤ 700 by omega)) (show (kT K ≤ c2 + (t (512 + (256 * h + cb))) ∧ c2 + (t (512 + (256 * h + cb))) ≤ kT K + kZ K) ∧ av2 0 + (t (512 + (256 * h + cb))) ≤ kD K ∧ av2 1 ≤ kC K ∧ av2 2 ≤ kA K by omega) p445 hnr2 hsm2 hT2 (show 0 ≤ h + 1 ∧ h + 1 ≤ 2 ∧ av1 1 + 1 ≤ av2 1 by omega) hsx h441 h447 h448 (FrF.tr (FrF.tr FrF.rf k298 (by decide)) k442 (by decide)) h443 h444 h449 h450 h440 (Fr.tr (Fr.tr Fr.rf k301 (by decide)) k446 (by decide))) rfl (by rw [show 256 * (h + 1) = 256 * h + 256 by omega]) rfl rfl
                  · skip
                    refine G_aload_n hX 2 rfl rfl d_Mo_makeWindow_95 ?_
                    refine G_iload_n hX 1 rfl rfl d_Mo_makeWindow_96 ?_
                    refine G_iload hX 0 rfl d_Mo_makeWindow_97 ?_
                    refine G_aload_n hX 2 rfl rfl d_Mo_makeWindow_99 ?_
                    refine M_get hX fg_Mo_136 d_Mo_makeWindow_100 h308 (by decide) h313 ?_
                    refine G_sipush hX (by decide) d_Mo_makeWindow_103 ?_
                    refine G_iload_n hX 4 rfl rfl d_Mo_makeWindow_106 ?_
                    refine G_iadd_z hX d_Mo_makeWindow_107 ?_
                    refine G_iload_n hX 3 rfl rfl d_Mo_makeWindow_108 ?_
                    refine G_iadd_z hX d_Mo_makeWindow_109 ?_
                    refine F_iald hX d_Mo_makeWindow_110 80 (by decide) h314 (by omega) ?_
                    refine G_top (show zI (tb ((1024 + (256 * h)) + cb)) = zI (t (1024 + (256 * h + cb))) from congrArg zI ((htb _ (by omega) (by omega)).trans (congrArg t (by omega)))) ?_
                    have b451 := htB (1024 + (256 * h + cb))
                    have h452 : F294 40 = .int (zI (kS K)) := (k298 40 (by decide)).trans ((k223 40 (by decide)).trans hF40)
                    have h453 : F294 42 = .int (zI (kT K)) := (k298 42 (by decide)).trans ((k223 42 (by decide)).trans hF42)
                    have h454 : F294 39 = .int (zI (kF K)) := (k298 39 (by decide)).trans ((k223 39 (by decide)).trans hF39)
                    have h455 : F294 41 = .int (zI oo) := (k298 41 (by decide)).trans ((k223 41 (by decide)).trans hF41)
                    have h456 : F294 43 = .int (zI (kZ K)) := (k298 43 (by decide)).trans ((k223 43 (by decide)).trans hF43)
                    have h457 : F294 25 = .int (zI N) := (k298 25 (by decide)).trans ((k223 25 (by decide)).trans hF25)
                    have h458 : F294 26 = .int (zI S) := (k298 26 (by decide)).trans ((k223 26 (by decide)).trans hF26)
                    have h459 : f300 81 = iz E 1536 ob := (k301 81 (by decide)).trans ((k293 81 (by decide)).trans ((k226 81 (by decide)).trans hc81))
                    have h460 : f300 84 = iz E 3 ev := (k301 84 (by decide)).trans ((k293 84 (by decide)).trans h236)
                    have h461 : f300 63 = iz E 1600 b := (k301 63 (by decide)).trans ((k293 63 (by decide)).trans h288)
                    refine F_callV hX (st := []) (c_Mo_make1_no E f300 F294 (t (512 + (256 * h + cb))) (t (1024 + (256 * h + cb))) K oo c2 N S T2 ob o2 old m2 oc nr2 sm2 av2 ev b g sE h308 (moK_fr hmk (FrF.tr (FrF.tr (FrF.rf (S := [27, 32, 36])) k223 (by decide)) k298 (by decide)) (by decide)) h457 h458 h297 h296 h295 h454 h452 h455 h453 h456 h459 h304 h306 h307 h305 h460 h461 hoo hK hold ho2 (by omega) (by omega) (by omega) (by omega) hT2 hnr2 hsm2 hG hgb hav9 hev hen9 (by omega) qm) cm_Mo_make im_Mo_make se_Mo_make rfl ml_Mo_398 d_Mo_makeWindow_111 (by decide) h308 rfl rfl (Nat.le_of_ble_eq_true rfl) (by decide) ?_
                    rintro _ f462 ⟨rfl, F465, c'_466, o'_467, av'_468, h469, h470, h471, k472, h473, h474, p475, p476, k477⟩
                    refine G_cast (st' := []) ?_ rfl rfl rfl rfl
                    have hnn : inS K g t old N S (256 * h + cb) (av2 0) (av2 1) (av2 2) c2 m2 nr2 sm2 T2 = none := by
                      unfold inS
                      rw [if_neg (by omega)]
                      by_cases qs : (szR g (kC K) (t (512 + (256 * h + cb))) (av2 1)).1 < 0 ∨ kT K + kZ K - c2 < (szR g (kC K) (t (512 + (256 * h + cb))) (av2 1)).1
                      · rw [if_pos qs]
                      · rw [if_neg qs]
                        rw [if_pos htk, if_pos (by rw [hsn] at qs ⊢; omega)]
                    have hd9 : mkE0 K (mkF K g t old N S m) = -2 := by rw [hs2, hcS_n (by omega) hnn]; rfl
                    have h478 : f462 78 = iz E 8 nr2 := (k477 78 (by decide)).trans h306
                    have h479 : f462 79 = iz E 1024 sm2 := (k477 79 (by decide)).trans h307
                    refine G_loc (lv' := [(0, .ref (eA E 61)), (2, .int (zI (256 * h)))]) [2, 4] rfl ?_
                    exact join5 av'_468 c'_466 o'_467 nr2 sm2 (256 * h) F465 f462  p476 (by omega) hd9 h470 h471 (FrF.tr (FrF.tr (FrF.tr FrF.rf k223 (by decide)) k298 (by decide)) k472 (by decide)) h473 h474 h478 h479 h469 (Fr.tr (Fr.tr (Fr.tr (Fr.tr Fr.rf k226 (by decide)) k293 (by decide)) k301 (by decide)) k477 (by decide))
              · skip
                refine G_top (show zI (t (256 * h + cb)) = zI 2 from congrArg zI qk) ?_
                have htk : t (256 * h + cb) = 2 := qk
                refine G_istore_n hX (lv' := [(3, .int (zI 2)), (0, .ref (eA E 61)), (1, .int (zI cb)), (2, .int (zI (256 * h)))]) rfl (by decide) rfl d_Mo_makeWindow_52 ?_
                refine G_iload_n hX 0 rfl rfl d_Mo_makeWindow_53 ?_
                refine G_if_le_z hX (tgt := 114) d_Mo_makeWindow_54 rfl (by omega) (fun c480 => by exfalso; omega) (fun c481 => ?_)
                refine G_aload_n hX 1 rfl rfl d_Mo_makeWindow_57 ?_
                refine M_get hX fg_Mo_136 d_Mo_makeWindow_58 h308 (by decide) h313 ?_
                refine G_sipush hX (by decide) d_Mo_makeWindow_61 ?_
                refine G_iload_n hX 3 rfl rfl d_Mo_makeWindow_64 ?_
                refine G_iadd_z hX d_Mo_makeWindow_65 ?_
                refine G_iload_n hX 2 rfl rfl d_Mo_makeWindow_66 ?_
                refine G_iadd_z hX d_Mo_makeWindow_67 ?_
                refine F_iald hX d_Mo_makeWindow_68 80 (by decide) h314 (by omega) ?_
                refine G_top (show zI (tb ((512 + (256 * h)) + cb)) = zI (t (512 + (256 * h + cb))) from congrArg zI ((htb _ (by omega) (by omega)).trans (congrArg t (by omega)))) ?_
                have b482 := htB (512 + (256 * h + cb))
                refine G_istore hX (lv' := [(4, .int (zI (t (512 + (256 * h + cb))))), (3, .int (zI 2)), (0, .ref (eA E 61)), (1, .int (zI cb)), (2, .int (zI (256 * h)))]) (by decide) rfl d_Mo_makeWindow_69 ?_
                by_cases qz : t (512 + (256 * h + cb)) = 0
                · skip
                  have hszr : szR g (kC K) (t (512 + (256 * h + cb))) (av2 1) = numL g (ev 1) 4 (av2 1) 0 := by unfold szR; rw [if_pos qz, hevI.2.1]
                  have hnb := numL_4 (g := g) (e := ev 1) (p := av2 1) hG (by omega)
                  by_cases hnk : 0 ≤ (numL g (ev 1) 4 (av2 1) 0).1
                  · skip
                    refine G_iload hX 0 rfl d_Mo_makeWindow_71 ?_
                    refine G_if_ne_z hX (tgt := 84) d_Mo_makeWindow_73 rfl (by omega) (fun c483 => by exfalso; omega) (fun c484 => ?_)
                    refine G_aload_n hX 2 rfl rfl d_Mo_makeWindow_76 ?_
                    refine G_iconst hX d_Mo_makeWindow_77 ?_
                    have h485 : f300 84 = iz E 3 ev := (k301 84 (by decide)).trans ((k293 84 (by decide)).trans h236)
                    have h486 : f300 63 = iz E 1600 b := (k301 63 (by decide)).trans ((k293 63 (by decide)).trans h288)
                    refine F_callV hX (st := []) (c_Mo_readPartNumber_ok E f300 F294 1 av2 ev b g sE h308 (moK_fr hmk (FrF.tr (FrF.tr (FrF.rf (S := [27, 32, 36])) k223 (by decide)) k298 (by decide)) (by decide)) h296 h305 h485 h486 (by omega) hG hgb (by omega) hnk) cm_Mo_readPartNumber im_Mo_readPartNumber se_Mo_readPartNumber rfl ml_Mo_370 d_Mo_makeWindow_78 (by decide) h308 rfl rfl (Nat.le_of_ble_eq_true rfl) (by decide) ?_
                    rintro _ f487 ⟨rfl, h490, k491⟩
                    refine G_cast (st' := [.int (zI ((numL g (ev 1) 4 (av2 1) 0).1))]) ?_ rfl rfl rfl rfl
                    refine G_goto hX (tgt := 86) d_Mo_makeWindow_81 rfl ?_
                    refine G_istore hX (lv' := [(4, .int (zI ((numL g (ev 1) 4 (av2 1) 0).1))), (3, .int (zI 2)), (0, .ref (eA E 61)), (1, .int (zI cb)), (2, .int (zI (256 * h)))]) (by decide) rfl d_Mo_makeWindow_86 ?_
                    refine G_aload_n hX 2 rfl rfl d_Mo_makeWindow_88 ?_
                    have h492 : f487 61 = mob F294 := (k491 61 (by decide)).trans h308
                    refine M_get hX fg_Mo_345 d_Mo_makeWindow_89 h492 (by decide) h296 ?_
                    refine G_if_ne_z hX (tgt := 114) d_Mo_makeWindow_92 rfl (by omega) (fun c493 => by exfalso; omega) (fun c494 => ?_)
                    have hsn : (szR g (kC K) (t (512 + (256 * h + cb))) (av2 1)).1 = (numL g (ev 1) 4 (av2 1) 0).1 := by rw [hszr]
                    have hsp : (szR g (kC K) (t (512 + (256 * h + cb))) (av2 1)).2 = (numL g (ev 1) 4 (av2 1) 0).2 := by rw [hszr]
                    have hnb2 : 0 ≤ (numL g (ev 1) 4 (av2 1) 0).1 ∧ (numL g (ev 1) 4 (av2 1) 0).1 < 268435456 := by have := htB (512 + (256 * h + cb)); omega
                    have hen9 : ((uz av2 1 (numL g (ev 1) 4 (av2 1) 0).2) 0 ≤ ev 0 ∧ ev 0 ≤ sE) ∧ ((uz av2 1 (numL g (ev 1) 4 (av2 1) 0).2) 1 ≤ ev 1 ∧ ev 1 ≤ sE) ∧ ((uz av2 1 (numL g (ev 1) 4 (av2 1) 0).2) 2 ≤ ev 2 ∧ ev 2 ≤ sE) := by
                      refine ⟨⟨show av2 0 ≤ _ by omega, by omega⟩, ⟨show (numL g (ev 1) 4 (av2 1) 0).2 ≤ _ by omega, by omega⟩, ⟨show av2 2 ≤ _ by omega, by omega⟩⟩
                    have hav9 : avB (uz av2 1 (numL g (ev 1) 4 (av2 1) 0).2) := avB_u hav2 (by omega)
                    by_cases qm : (numL g (ev 1) 4 (av2 1) 0).1 ≤ kT K + kZ K - c2 ∧ av2 0 < ev 0
                    · skip
                      refine G_aload_n hX 2 rfl rfl d_Mo_makeWindow_95 ?_
                      refine G_iload_n hX 1 rfl rfl d_Mo_makeWindow_96 ?_
                      refine G_iload hX 0 rfl d_Mo_makeWindow_97 ?_
                      refine G_aload_n hX 2 rfl rfl d_Mo_makeWindow_99 ?_
                      refine M_get hX fg_Mo_136 d_Mo_makeWindow_100 h492 (by decide) h313 ?_
                      refine G_sipush hX (by decide) d_Mo_makeWindow_103 ?_
                      refine G_iload_n hX 4 rfl rfl d_Mo_makeWindow_106 ?_
                      refine G_iadd_z hX d_Mo_makeWindow_107 ?_
                      refine G_iload_n hX 3 rfl rfl d_Mo_makeWindow_108 ?_
                      refine G_iadd_z hX d_Mo_makeWindow_109 ?_
                      have h495 : f487 80 = iz E 1536 tb := (k491 80 (by decide)).trans h314
                      refine F_iald hX d_Mo_makeWindow_110 80 (by decide) h495 (by omega) ?_
                      refine G_top (show zI (tb ((1024 + (256 * h)) + cb)) = zI (t (1024 + (256 * h + cb))) from congrArg zI ((htb _ (by omega) (by omega)).trans (congrArg t (by omega)))) ?_
                      have b496 := htB (1024 + (256 * h + cb))
                      have h497 : F294 40 = .int (zI (kS K)) := (k298 40 (by decide)).trans ((k223 40 (by decide)).trans hF40)
                      have h498 : F294 42 = .int (zI (kT K)) := (k298 42 (by decide)).trans ((k223 42 (by decide)).trans hF42)
                      have h499 : F294 39 = .int (zI (kF K)) := (k298 39 (by decide)).trans ((k223 39 (by decide)).trans hF39)
                      have h500 : F294 41 = .int (zI oo) := (k298 41 (by decide)).trans ((k223 41 (by decide)).trans hF41)
                      have h501 : F294 43 = .int (zI (kZ K)) := (k298 43 (by decide)).trans ((k223 43 (by decide)).trans hF43)
                      have h502 : F294 25 = .int (zI N) := (k298 25 (by decide)).trans ((k223 25 (by decide)).trans hF25)
                      have h503 : F294 26 = .int (zI S) := (k298 26 (by decide)).trans ((k223 26 (by decide)).trans hF26)
                      have h504 : f487 81 = iz E 1536 ob := (k491 81 (by decide)).trans ((k301 81 (by decide)).trans ((k293 81 (by decide)).trans ((k226 81 (by decide)).trans hc81)))
                      have h505 : f487 82 = iz E 1536 o2 := (k491 82 (by decide)).trans h304
                      have h506 : f487 78 = iz E 8 nr2 := (k491 78 (by decide)).trans h306
                      have h507 : f487 79 = iz E 1024 sm2 := (k491 79 (by decide)).trans h307
                      have h508 : f487 84 = iz E 3 ev := (k491 84 (by decide)).trans h485
                      have h509 : f487 63 = iz E 1600 b := (k491 63 (by decide)).trans h486
                      refine F_callV hX (st := []) (c_Mo_make2_ok E f487 F294 ((numL g (ev 1) 4 (av2 1) 0).1) (t (1024 + (256 * h + cb))) K oo c2 N S T2 ob o2 old m2 oc nr2 sm2 (uz av2 1 (numL g (ev 1) 4 (av2 1) 0).2) ev b g sE h492 (moK_fr hmk (FrF.tr (FrF.tr (FrF.rf (S := [27, 32, 36])) k223 (by decide)) k298 (by decide)) (by decide)) h502 h503 h297 h296 h295 h499 h497 h500 h498 h501 h504 h505 h506 h507 h490 h508 h509 hoo hK hold ho2 (by omega) (by omega) (by omega) (by omega) hT2 hnr2 hsm2 hG hgb hav9 hev hen9 (by omega) qm) cm_Mo_make im_Mo_make se_Mo_make rfl ml_Mo_398 d_Mo_makeWindow_111 (by decide) h492 rfl rfl (Nat.le_of_ble_eq_true rfl) (by decide) ?_
                      rintro _ f510 ⟨rfl, F513, o'_514, h515, h516, k517, h518, h519, p520, k521⟩
                      refine G_cast (st' := []) ?_ rfl rfl rfl rfl
                      have hin : inS K g t old N S (256 * h + cb) (av2 0) (av2 1) (av2 2) c2 m2 nr2 sm2 T2 = some (av2 0 + 1, (numL g (ev 1) 4 (av2 1) 0).2, av2 2, c2 + ((numL g (ev 1) 4 (av2 1) 0).1), pz m2 c2 (fun _ => g (av2 0)) ((numL g (ev 1) 4 (av2 1) 0).1), nr2, sm2, T2) := by
                        unfold inS
                        rw [if_neg (by omega), if_neg (by rw [hsn]; omega), hsn, hsp]
                        rw [if_neg (by omega), if_pos htk, if_neg (by omega)]
                      refine G_iincW_z hX (lv' := [(2, .int (zI ((256 * h) + 256))), (4, .int (zI ((numL g (ev 1) 4 (av2 1) 0).1))), (3, .int (zI 2)), (0, .ref (eA E 61)), (1, .int (zI cb))]) 4 rfl (by decide) rfl d_Mo_makeWindow_114 ?_
                      refine G_goto hX (tgt := 30) d_Mo_makeWindow_120 rfl ?_
                      have hsx := hs2.trans (hcS_s (by omega) hin)
                      have h522 : F513 32 = .int (zI 0) := (k517 32 (by decide)).trans h296
                      have h523 : F513 27 = .int (zI T2) := (k517 27 (by decide)).trans h297
                      have h524 : f510 78 = iz E 8 nr2 := (k521 78 (by decide)).trans h506
                      have h525 : f510 79 = iz E 1024 sm2 := (k521 79 (by decide)).trans h507
                      refine G_loc (lv' := [(0, .ref (eA E 61)), (1, .int (zI cb)), (2, .int (zI ((256 * h) + 256)))]) [3, 4, 0] rfl ?_
                      refine G_cast (ih303 (h + 1) (uz (uz av2 1 (numL g (ev 1) 4 (av2 1) 0).2) 0 ((uz av2 1 (numL g (ev 1) 4 (av2 1) 0).2) 0 + 1)) (c2 + ((numL g (ev 1) 4 (av2 1) 0).1)) (pz m2 c2 (fun _ => g (av2 0)) ((numL g (ev 1) 4 (av2 1) 0).1)) nr2 sm2 T2 o'_514 F513 f510 (by omega) (avB_u hav9 (show 0 ≤ av2 0 + 1 ∧ av2 0 + 1 ≤ 700 by omega)) (show (kT K ≤ c2 + ((numL g (ev 1) 4 (av2 1) 0).1) ∧ c2 + ((numL g (ev 1) 4 (av2 1) 0).1) ≤ kT K + kZ K) ∧ av2 0 + 1 ≤ kD K ∧ (numL g (ev 1) 4 (av2 1) 0).2 ≤ kC K ∧ av2 2 ≤ kA K by omega) p520 hnr2 hsm2 hT2 (show 0 ≤ h + 1 ∧ h + 1 ≤ 2 ∧ av1 1 + 1 ≤ (numL g (ev 1) 4 (av2 1) 0).2 by omega) hsx h516 h522 h523 (FrF.tr (FrF.tr FrF.rf k298 (by decide)) k517 (by decide)) h518 h519 h524 h525 h515 (Fr.tr (Fr.tr (Fr.tr Fr.rf k301 (by decide)) k491 (by decide)) k521 (by decide))) rfl (by rw [show 256 * (h + 1) = 256 * h + 256 by omega]) rfl rfl
                    · skip
                      refine G_aload_n hX 2 rfl rfl d_Mo_makeWindow_95 ?_
                      refine G_iload_n hX 1 rfl rfl d_Mo_makeWindow_96 ?_
                      refine G_iload hX 0 rfl d_Mo_makeWindow_97 ?_
                      refine G_aload_n hX 2 rfl rfl d_Mo_makeWindow_99 ?_
                      refine M_get hX fg_Mo_136 d_Mo_makeWindow_100 h492 (by decide) h313 ?_
                      refine G_sipush hX (by decide) d_Mo_makeWindow_103 ?_
                      refine G_iload_n hX 4 rfl rfl d_Mo_makeWindow_106 ?_
                      refine G_iadd_z hX d_Mo_makeWindow_107 ?_
                      refine G_iload_n hX 3 rfl rfl d_Mo_makeWindow_108 ?_
                      refine G_iadd_z hX d_Mo_makeWindow_109 ?_
                      have h526 : f487 80 = iz E 1536 tb := (k491 80 (by decide)).trans h314
                      refine F_iald hX d_Mo_makeWindow_110 80 (by decide) h526 (by omega) ?_
                      refine G_top (show zI (tb ((1024 + (256 * h)) + cb)) = zI (t (1024 + (256 * h + cb))) from congrArg zI ((htb _ (by omega) (by omega)).trans (congrArg t (by omega)))) ?_
                      have b527 := htB (1024 + (256 * h + cb))
                      have h528 : F294 40 = .int (zI (kS K)) := (k298 40 (by decide)).trans ((k223 40 (by decide)).trans hF40)
                      have h529 : F294 42 = .int (zI (kT K)) := (k298 42 (by decide)).trans ((k223 42 (by decide)).trans hF42)
                      have h530 : F294 39 = .int (zI (kF K)) := (k298 39 (by decide)).trans ((k223 39 (by decide)).trans hF39)
                      have h531 : F294 41 = .int (zI oo) := (k298 41 (by decide)).trans ((k223 41 (by decide)).trans hF41)
                      have h532 : F294 43 = .int (zI (kZ K)) := (k298 43 (by decide)).trans ((k223 43 (by decide)).trans hF43)
                      have h533 : F294 25 = .int (zI N) := (k298 25 (by decide)).trans ((k223 25 (by decide)).trans hF25)
                      have h534 : F294 26 = .int (zI S) := (k298 26 (by decide)).trans ((k223 26 (by decide)).trans hF26)
                      have h535 : f487 81 = iz E 1536 ob := (k491 81 (by decide)).trans ((k301 81 (by decide)).trans ((k293 81 (by decide)).trans ((k226 81 (by decide)).trans hc81)))
                      have h536 : f487 82 = iz E 1536 o2 := (k491 82 (by decide)).trans h304
                      have h537 : f487 78 = iz E 8 nr2 := (k491 78 (by decide)).trans h306
                      have h538 : f487 79 = iz E 1024 sm2 := (k491 79 (by decide)).trans h307
                      have h539 : f487 84 = iz E 3 ev := (k491 84 (by decide)).trans h485
                      have h540 : f487 63 = iz E 1600 b := (k491 63 (by decide)).trans h486
                      refine F_callV hX (st := []) (c_Mo_make2_no E f487 F294 ((numL g (ev 1) 4 (av2 1) 0).1) (t (1024 + (256 * h + cb))) K oo c2 N S T2 ob o2 old m2 oc nr2 sm2 (uz av2 1 (numL g (ev 1) 4 (av2 1) 0).2) ev b g sE h492 (moK_fr hmk (FrF.tr (FrF.tr (FrF.rf (S := [27, 32, 36])) k223 (by decide)) k298 (by decide)) (by decide)) h533 h534 h297 h296 h295 h530 h528 h531 h529 h532 h535 h536 h537 h538 h490 h539 h540 hoo hK hold ho2 (by omega) (by omega) (by omega) (by omega) hT2 hnr2 hsm2 hG hgb hav9 hev hen9 (by omega) qm) cm_Mo_make im_Mo_make se_Mo_make rfl ml_Mo_398 d_Mo_makeWindow_111 (by decide) h492 rfl rfl (Nat.le_of_ble_eq_true rfl) (by decide) ?_
                      rintro _ f541 ⟨rfl, F544, c'_545, o'_546, av'_547, h548, h549, h550, k551, h552, h553, p554, p555, k556⟩
                      refine G_cast (st' := []) ?_ rfl rfl rfl rfl
                      have hnn : inS K g t old N S (256 * h + cb) (av2 0) (av2 1) (av2 2) c2 m2 nr2 sm2 T2 = none := by
                        unfold inS
                        rw [if_neg (by omega)]
                        by_cases qs : (szR g (kC K) (t (512 + (256 * h + cb))) (av2 1)).1 < 0 ∨ kT K + kZ K - c2 < (szR g (kC K) (t (512 + (256 * h + cb))) (av2 1)).1
                        · rw [if_pos qs]
                        · rw [if_neg qs]
                          rw [if_neg (by omega), if_pos htk, if_pos (by rw [hsn] at qs; omega)]
                      have hd9 : mkE0 K (mkF K g t old N S m) = -2 := by rw [hs2, hcS_n (by omega) hnn]; rfl
                      have h557 : f541 78 = iz E 8 nr2 := (k556 78 (by decide)).trans h537
                      have h558 : f541 79 = iz E 1024 sm2 := (k556 79 (by decide)).trans h538
                      refine G_loc (lv' := [(0, .ref (eA E 61)), (2, .int (zI (256 * h)))]) [2, 4] rfl ?_
                      exact join5 av'_547 c'_545 o'_546 nr2 sm2 (256 * h) F544 f541  p555 (by omega) hd9 h549 h550 (FrF.tr (FrF.tr (FrF.tr FrF.rf k223 (by decide)) k298 (by decide)) k551 (by decide)) h552 h553 h557 h558 h548 (Fr.tr (Fr.tr (Fr.tr (Fr.tr (Fr.tr Fr.rf k226 (by decide)) k293 (by decide)) k301 (by decide)) k491 (by decide)) k556 (by decide))
                  · skip
                    have hnk : (numL g (ev 1) 4 (av2 1) 0).1 < 0 := by omega
                    refine G_iload hX 0 rfl d_Mo_makeWindow_71 ?_
                    refine G_if_ne_z hX (tgt := 84) d_Mo_makeWindow_73 rfl (by omega) (fun c559 => by exfalso; omega) (fun c560 => ?_)
                    refine G_aload_n hX 2 rfl rfl d_Mo_makeWindow_76 ?_
                    refine G_iconst hX d_Mo_makeWindow_77 ?_
                    have h561 : f300 84 = iz E 3 ev := (k301 84 (by decide)).trans ((k293 84 (by decide)).trans h236)
                    have h562 : f300 63 = iz E 1600 b := (k301 63 (by decide)).trans ((k293 63 (by decide)).trans h288)
                    refine F_callV hX (st := []) (c_Mo_readPartNumber_no E f300 F294 1 av2 ev b g sE h308 (moK_fr hmk (FrF.tr (FrF.tr (FrF.rf (S := [27, 32, 36])) k223 (by decide)) k298 (by decide)) (by decide)) h296 h305 h561 h562 (by omega) hG hgb (by omega) hnk hav2) cm_Mo_readPartNumber im_Mo_readPartNumber se_Mo_readPartNumber rfl ml_Mo_370 d_Mo_makeWindow_78 (by decide) h308 rfl rfl (Nat.le_of_ble_eq_true rfl) (by decide) ?_
                    rintro _ f563 ⟨F566, r'_567, av'_568, rfl, h569, h570, k571, h572, p573, p574, k575⟩
                    refine G_cast (st' := [.int (zI r'_567)]) ?_ rfl rfl rfl rfl
                    refine G_goto hX (tgt := 86) d_Mo_makeWindow_81 rfl ?_
                    refine G_istore hX (lv' := [(4, .int (zI r'_567)), (3, .int (zI 2)), (0, .ref (eA E 61)), (1, .int (zI cb)), (2, .int (zI (256 * h)))]) (by decide) rfl d_Mo_makeWindow_86 ?_
                    refine G_aload_n hX 2 rfl rfl d_Mo_makeWindow_88 ?_
                    refine M_get hX fg_Mo_345 d_Mo_makeWindow_89 h569 (by decide) h570 ?_
                    refine G_if_ne_z hX (tgt := 114) d_Mo_makeWindow_92 rfl (by omega) (fun c576 => ?_) (fun c577 => by exfalso; omega)
                    have hnn : inS K g t old N S (256 * h + cb) (av2 0) (av2 1) (av2 2) c2 m2 nr2 sm2 T2 = none := by
                      unfold inS
                      rw [if_neg (by omega), if_pos (Or.inl (by rw [hszr]; exact hnk))]
                    have hd9 : mkE0 K (mkF K g t old N S m) = -2 := by rw [hs2, hcS_n (by omega) hnn]; rfl
                    have h578 : F566 36 = .int (zI c2) := (k571 36 (by decide)).trans h295
                    have h579 : f563 82 = iz E 1536 o2 := (k575 82 (by decide)).trans h304
                    have h580 : f563 78 = iz E 8 nr2 := (k575 78 (by decide)).trans h306
                    have h581 : f563 79 = iz E 1024 sm2 := (k575 79 (by decide)).trans h307
                    refine G_loc (lv' := [(0, .ref (eA E 61)), (2, .int (zI (256 * h)))]) [2, 4] rfl ?_
                    exact join5 av'_568 c2 o2 nr2 sm2 (256 * h) F566 f563  p574 (by omega) hd9 h578 h570 (FrF.tr (FrF.tr (FrF.tr FrF.rf k223 (by decide)) k298 (by decide)) k571 (by decide)) h579 h572 h580 h581 h569 (Fr.tr (Fr.tr (Fr.tr (Fr.tr Fr.rf k226 (by decide)) k293 (by decide)) k301 (by decide)) k575 (by decide))
                · skip
                  have hszr : szR g (kC K) (t (512 + (256 * h + cb))) (av2 1) = (t (512 + (256 * h + cb)), av2 1) := by unfold szR; rw [if_neg qz]
                  refine G_iload hX 0 rfl d_Mo_makeWindow_71 ?_
                  refine G_if_ne_z hX (tgt := 84) d_Mo_makeWindow_73 rfl (by omega) (fun c582 => ?_) (fun c583 => by exfalso; omega)
                  refine G_iload hX 0 rfl d_Mo_makeWindow_84 ?_
                  refine G_istore hX (lv' := [(4, .int (zI (t (512 + (256 * h + cb))))), (3, .int (zI 2)), (0, .ref (eA E 61)), (1, .int (zI cb)), (2, .int (zI (256 * h)))]) (by decide) rfl d_Mo_makeWindow_86 ?_
                  refine G_aload_n hX 2 rfl rfl d_Mo_makeWindow_88 ?_
                  refine M_get hX fg_Mo_345 d_Mo_makeWindow_89 h308 (by decide) h296 ?_
                  refine G_if_ne_z hX (tgt := 114) d_Mo_makeWindow_92 rfl (by omega) (fun c584 => by exfalso; omega) (fun c585 => ?_)
                  have hsn : (szR g (kC K) (t (512 + (256 * h + cb))) (av2 1)).1 = t (512 + (256 * h + cb)) := by rw [hszr]
                  have hsp : (szR g (kC K) (t (512 + (256 * h + cb))) (av2 1)).2 = av2 1 := by rw [hszr]
                  have hnb2 : 0 ≤ t (512 + (256 * h + cb)) ∧ t (512 + (256 * h + cb)) < 268435456 := by have := htB (512 + (256 * h + cb)); omega
                  have hen9 : (av2 0 ≤ ev 0 ∧ ev 0 ≤ sE) ∧ (av2 1 ≤ ev 1 ∧ ev 1 ≤ sE) ∧ (av2 2 ≤ ev 2 ∧ ev 2 ≤ sE) := by
                    refine ⟨⟨show av2 0 ≤ _ by omega, by omega⟩, ⟨show av2 1 ≤ _ by omega, by omega⟩, ⟨show av2 2 ≤ _ by omega, by omega⟩⟩
                  have hav9 : avB av2 := hav2
                  by_cases qm : t (512 + (256 * h + cb)) ≤ kT K + kZ K - c2 ∧ av2 0 < ev 0
                  · skip
                    refine G_aload_n hX 2 rfl rfl d_Mo_makeWindow_95 ?_
                    refine G_iload_n hX 1 rfl rfl d_Mo_makeWindow_96 ?_
                    refine G_iload hX 0 rfl d_Mo_makeWindow_97 ?_
                    refine G_aload_n hX 2 rfl rfl d_Mo_makeWindow_99 ?_
                    refine M_get hX fg_Mo_136 d_Mo_makeWindow_100 h308 (by decide) h313 ?_
                    refine G_sipush hX (by decide) d_Mo_makeWindow_103 ?_
                    refine G_iload_n hX 4 rfl rfl d_Mo_makeWindow_106 ?_
                    refine G_iadd_z hX d_Mo_makeWindow_107 ?_
                    refine G_iload_n hX 3 rfl rfl d_Mo_makeWindow_108 ?_
                    refine G_iadd_z hX d_Mo_makeWindow_109 ?_
                    refine F_iald hX d_Mo_makeWindow_110 80 (by decide) h314 (by omega) ?_
                    refine G_top (show zI (tb ((1024 + (256 * h)) + cb)) = zI (t (1024 + (256 * h + cb))) from congrArg zI ((htb _ (by omega) (by omega)).trans (congrArg t (by omega)))) ?_
                    have b586 := htB (1024 + (256 * h + cb))
                    have h587 : F294 40 = .int (zI (kS K)) := (k298 40 (by decide)).trans ((k223 40 (by decide)).trans hF40)
                    have h588 : F294 42 = .int (zI (kT K)) := (k298 42 (by decide)).trans ((k223 42 (by decide)).trans hF42)
                    have h589 : F294 39 = .int (zI (kF K)) := (k298 39 (by decide)).trans ((k223 39 (by decide)).trans hF39)
                    have h590 : F294 41 = .int (zI oo) := (k298 41 (by decide)).trans ((k223 41 (by decide)).trans hF41)
                    have h591 : F294 43 = .int (zI (kZ K)) := (k298 43 (by decide)).trans ((k223 43 (by decide)).trans hF43)
                    have h592 : F294 25 = .int (zI N) := (k298 25 (by decide)).trans ((k223 25 (by decide)).trans hF25)
                    have h593 : F294 26 = .int (zI S) := (k298 26 (by decide)).trans ((k223 26 (by decide)).trans hF26)
                    have h594 : f300 81 = iz E 1536 ob := (k301 81 (by decide)).trans ((k293 81 (by decide)).trans ((k226 81 (by decide)).trans hc81))
                    have h595 : f300 84 = iz E 3 ev := (k301 84 (by decide)).trans ((k293 84 (by decide)).trans h236)
                    have h596 : f300 63 = iz E 1600 b := (k301 63 (by decide)).trans ((k293 63 (by decide)).trans h288)
                    refine F_callV hX (st := []) (c_Mo_make2_ok E f300 F294 (t (512 + (256 * h + cb))) (t (1024 + (256 * h + cb))) K oo c2 N S T2 ob o2 old m2 oc nr2 sm2 av2 ev b g sE h308 (moK_fr hmk (FrF.tr (FrF.tr (FrF.rf (S := [27, 32, 36])) k223 (by decide)) k298 (by decide)) (by decide)) h592 h593 h297 h296 h295 h589 h587 h590 h588 h591 h594 h304 h306 h307 h305 h595 h596 hoo hK hold ho2 (by omega) (by omega) (by omega) (by omega) hT2 hnr2 hsm2 hG hgb hav9 hev hen9 (by omega) qm) cm_Mo_make im_Mo_make se_Mo_make rfl ml_Mo_398 d_Mo_makeWindow_111 (by decide) h308 rfl rfl (Nat.le_of_ble_eq_true rfl) (by decide) ?_
                    rintro _ f597 ⟨rfl, F600, o'_601, h602, h603, k604, h605, h606, p607, k608⟩
                    refine G_cast (st' := []) ?_ rfl rfl rfl rfl
                    have hin : inS K g t old N S (256 * h + cb) (av2 0) (av2 1) (av2 2) c2 m2 nr2 sm2 T2 = some (av2 0 + 1, av2 1, av2 2, c2 + (t (512 + (256 * h + cb))), pz m2 c2 (fun _ => g (av2 0)) (t (512 + (256 * h + cb))), nr2, sm2, T2) := by
                      unfold inS
                      rw [if_neg (by omega), if_neg (by rw [hsn]; omega), hsn, hsp]
                      rw [if_neg (by omega), if_pos htk, if_neg (by omega)]
                    refine G_iincW_z hX (lv' := [(2, .int (zI ((256 * h) + 256))), (4, .int (zI (t (512 + (256 * h + cb))))), (3, .int (zI 2)), (0, .ref (eA E 61)), (1, .int (zI cb))]) 4 rfl (by decide) rfl d_Mo_makeWindow_114 ?_
                    refine G_goto hX (tgt := 30) d_Mo_makeWindow_120 rfl ?_
                    have hsx := hs2.trans (hcS_s (by omega) hin)
                    have h609 : F600 32 = .int (zI 0) := (k604 32 (by decide)).trans h296
                    have h610 : F600 27 = .int (zI T2) := (k604 27 (by decide)).trans h297
                    have h611 : f597 78 = iz E 8 nr2 := (k608 78 (by decide)).trans h306
                    have h612 : f597 79 = iz E 1024 sm2 := (k608 79 (by decide)).trans h307
                    refine G_loc (lv' := [(0, .ref (eA E 61)), (1, .int (zI cb)), (2, .int (zI ((256 * h) + 256)))]) [3, 4, 0] rfl ?_
                    refine G_cast (ih303 (h + 1) (uz av2 0 (av2 0 + 1)) (c2 + (t (512 + (256 * h + cb)))) (pz m2 c2 (fun _ => g (av2 0)) (t (512 + (256 * h + cb)))) nr2 sm2 T2 o'_601 F600 f597 (by omega) (avB_u hav9 (show 0 ≤ av2 0 + 1 ∧ av2 0 + 1 ≤ 700 by omega)) (show (kT K ≤ c2 + (t (512 + (256 * h + cb))) ∧ c2 + (t (512 + (256 * h + cb))) ≤ kT K + kZ K) ∧ av2 0 + 1 ≤ kD K ∧ av2 1 ≤ kC K ∧ av2 2 ≤ kA K by omega) p607 hnr2 hsm2 hT2 (show 0 ≤ h + 1 ∧ h + 1 ≤ 2 ∧ av1 1 + 1 ≤ av2 1 by omega) hsx h603 h609 h610 (FrF.tr (FrF.tr FrF.rf k298 (by decide)) k604 (by decide)) h605 h606 h611 h612 h602 (Fr.tr (Fr.tr Fr.rf k301 (by decide)) k608 (by decide))) rfl (by rw [show 256 * (h + 1) = 256 * h + 256 by omega]) rfl rfl
                  · skip
                    refine G_aload_n hX 2 rfl rfl d_Mo_makeWindow_95 ?_
                    refine G_iload_n hX 1 rfl rfl d_Mo_makeWindow_96 ?_
                    refine G_iload hX 0 rfl d_Mo_makeWindow_97 ?_
                    refine G_aload_n hX 2 rfl rfl d_Mo_makeWindow_99 ?_
                    refine M_get hX fg_Mo_136 d_Mo_makeWindow_100 h308 (by decide) h313 ?_
                    refine G_sipush hX (by decide) d_Mo_makeWindow_103 ?_
                    refine G_iload_n hX 4 rfl rfl d_Mo_makeWindow_106 ?_
                    refine G_iadd_z hX d_Mo_makeWindow_107 ?_
                    refine G_iload_n hX 3 rfl rfl d_Mo_makeWindow_108 ?_
                    refine G_iadd_z hX d_Mo_makeWindow_109 ?_
                    refine F_iald hX d_Mo_makeWindow_110 80 (by decide) h314 (by omega) ?_
                    refine G_top (show zI (tb ((1024 + (256 * h)) + cb)) = zI (t (1024 + (256 * h + cb))) from congrArg zI ((htb _ (by omega) (by omega)).trans (congrArg t (by omega)))) ?_
                    have b613 := htB (1024 + (256 * h + cb))
                    have h614 : F294 40 = .int (zI (kS K)) := (k298 40 (by decide)).trans ((k223 40 (by decide)).trans hF40)
                    have h615 : F294 42 = .int (zI (kT K)) := (k298 42 (by decide)).trans ((k223 42 (by decide)).trans hF42)
                    have h616 : F294 39 = .int (zI (kF K)) := (k298 39 (by decide)).trans ((k223 39 (by decide)).trans hF39)
                    have h617 : F294 41 = .int (zI oo) := (k298 41 (by decide)).trans ((k223 41 (by decide)).trans hF41)
                    have h618 : F294 43 = .int (zI (kZ K)) := (k298 43 (by decide)).trans ((k223 43 (by decide)).trans hF43)
                    have h619 : F294 25 = .int (zI N) := (k298 25 (by decide)).trans ((k223 25 (by decide)).trans hF25)
                    have h620 : F294 26 = .int (zI S) := (k298 26 (by decide)).trans ((k223 26 (by decide)).trans hF26)
                    have h621 : f300 81 = iz E 1536 ob := (k301 81 (by decide)).trans ((k293 81 (by decide)).trans ((k226 81 (by decide)).trans hc81))
                    have h622 : f300 84 = iz E 3 ev := (k301 84 (by decide)).trans ((k293 84 (by decide)).trans h236)
                    have h623 : f300 63 = iz E 1600 b := (k301 63 (by decide)).trans ((k293 63 (by decide)).trans h288)
                    refine F_callV hX (st := []) (c_Mo_make2_no E f300 F294 (t (512 + (256 * h + cb))) (t (1024 + (256 * h + cb))) K oo c2 N S T2 ob o2 old m2 oc nr2 sm2 av2 ev b g sE h308 (moK_fr hmk (FrF.tr (FrF.tr (FrF.rf (S := [27, 32, 36])) k223 (by decide)) k298 (by decide)) (by decide)) h619 h620 h297 h296 h295 h616 h614 h617 h615 h618 h621 h304 h306 h307 h305 h622 h623 hoo hK hold ho2 (by omega) (by omega) (by omega) (by omega) hT2 hnr2 hsm2 hG hgb hav9 hev hen9 (by omega) qm) cm_Mo_make im_Mo_make se_Mo_make rfl ml_Mo_398 d_Mo_makeWindow_111 (by decide) h308 rfl rfl (Nat.le_of_ble_eq_true rfl) (by decide) ?_
                    rintro _ f624 ⟨rfl, F627, c'_628, o'_629, av'_630, h631, h632, h633, k634, h635, h636, p637, p638, k639⟩
                    refine G_cast (st' := []) ?_ rfl rfl rfl rfl
                    have hnn : inS K g t old N S (256 * h + cb) (av2 0) (av2 1) (av2 2) c2 m2 nr2 sm2 T2 = none := by
                      unfold inS
                      rw [if_neg (by omega)]
                      by_cases qs : (szR g (kC K) (t (512 + (256 * h + cb))) (av2 1)).1 < 0 ∨ kT K + kZ K - c2 < (szR g (kC K) (t (512 + (256 * h + cb))) (av2 1)).1
                      · rw [if_pos qs]
                      · rw [if_neg qs]
                        rw [if_neg (by omega), if_pos htk, if_pos (by rw [hsn] at qs; omega)]
                    have hd9 : mkE0 K (mkF K g t old N S m) = -2 := by rw [hs2, hcS_n (by omega) hnn]; rfl
                    have h640 : f624 78 = iz E 8 nr2 := (k639 78 (by decide)).trans h306
                    have h641 : f624 79 = iz E 1024 sm2 := (k639 79 (by decide)).trans h307
                    refine G_loc (lv' := [(0, .ref (eA E 61)), (2, .int (zI (256 * h)))]) [2, 4] rfl ?_
                    exact join5 av'_630 c'_628 o'_629 nr2 sm2 (256 * h) F627 f624  p638 (by omega) hd9 h632 h633 (FrF.tr (FrF.tr (FrF.tr FrF.rf k223 (by decide)) k298 (by decide)) k634 (by decide)) h635 h636 h640 h641 h631 (Fr.tr (Fr.tr (Fr.tr (Fr.tr Fr.rf k226 (by decide)) k293 (by decide)) k301 (by decide)) k639 (by decide))
              · skip
                refine G_top (show zI (t (256 * h + cb)) = zI 3 from congrArg zI qk) ?_
                have htk : t (256 * h + cb) = 3 := qk
                refine G_istore_n hX (lv' := [(3, .int (zI 3)), (0, .ref (eA E 61)), (1, .int (zI cb)), (2, .int (zI (256 * h)))]) rfl (by decide) rfl d_Mo_makeWindow_52 ?_
                refine G_iload_n hX 0 rfl rfl d_Mo_makeWindow_53 ?_
                refine G_if_le_z hX (tgt := 114) d_Mo_makeWindow_54 rfl (by omega) (fun c642 => by exfalso; omega) (fun c643 => ?_)
                refine G_aload_n hX 1 rfl rfl d_Mo_makeWindow_57 ?_
                refine M_get hX fg_Mo_136 d_Mo_makeWindow_58 h308 (by decide) h313 ?_
                refine G_sipush hX (by decide) d_Mo_makeWindow_61 ?_
                refine G_iload_n hX 3 rfl rfl d_Mo_makeWindow_64 ?_
                refine G_iadd_z hX d_Mo_makeWindow_65 ?_
                refine G_iload_n hX 2 rfl rfl d_Mo_makeWindow_66 ?_
                refine G_iadd_z hX d_Mo_makeWindow_67 ?_
                refine F_iald hX d_Mo_makeWindow_68 80 (by decide) h314 (by omega) ?_
                refine G_top (show zI (tb ((512 + (256 * h)) + cb)) = zI (t (512 + (256 * h + cb))) from congrArg zI ((htb _ (by omega) (by omega)).trans (congrArg t (by omega)))) ?_
                have b644 := htB (512 + (256 * h + cb))
                refine G_istore hX (lv' := [(4, .int (zI (t (512 + (256 * h + cb))))), (3, .int (zI 3)), (0, .ref (eA E 61)), (1, .int (zI cb)), (2, .int (zI (256 * h)))]) (by decide) rfl d_Mo_makeWindow_69 ?_
                by_cases qz : t (512 + (256 * h + cb)) = 0
                · skip
                  have hszr : szR g (kC K) (t (512 + (256 * h + cb))) (av2 1) = numL g (ev 1) 4 (av2 1) 0 := by unfold szR; rw [if_pos qz, hevI.2.1]
                  have hnb := numL_4 (g := g) (e := ev 1) (p := av2 1) hG (by omega)
                  by_cases hnk : 0 ≤ (numL g (ev 1) 4 (av2 1) 0).1
                  · skip
                    refine G_iload hX 0 rfl d_Mo_makeWindow_71 ?_
                    refine G_if_ne_z hX (tgt := 84) d_Mo_makeWindow_73 rfl (by omega) (fun c645 => by exfalso; omega) (fun c646 => ?_)
                    refine G_aload_n hX 2 rfl rfl d_Mo_makeWindow_76 ?_
                    refine G_iconst hX d_Mo_makeWindow_77 ?_
                    have h647 : f300 84 = iz E 3 ev := (k301 84 (by decide)).trans ((k293 84 (by decide)).trans h236)
                    have h648 : f300 63 = iz E 1600 b := (k301 63 (by decide)).trans ((k293 63 (by decide)).trans h288)
                    refine F_callV hX (st := []) (c_Mo_readPartNumber_ok E f300 F294 1 av2 ev b g sE h308 (moK_fr hmk (FrF.tr (FrF.tr (FrF.rf (S := [27, 32, 36])) k223 (by decide)) k298 (by decide)) (by decide)) h296 h305 h647 h648 (by omega) hG hgb (by omega) hnk) cm_Mo_readPartNumber im_Mo_readPartNumber se_Mo_readPartNumber rfl ml_Mo_370 d_Mo_makeWindow_78 (by decide) h308 rfl rfl (Nat.le_of_ble_eq_true rfl) (by decide) ?_
                    rintro _ f649 ⟨rfl, h652, k653⟩
                    refine G_cast (st' := [.int (zI ((numL g (ev 1) 4 (av2 1) 0).1))]) ?_ rfl rfl rfl rfl
                    refine G_goto hX (tgt := 86) d_Mo_makeWindow_81 rfl ?_
                    refine G_istore hX (lv' := [(4, .int (zI ((numL g (ev 1) 4 (av2 1) 0).1))), (3, .int (zI 3)), (0, .ref (eA E 61)), (1, .int (zI cb)), (2, .int (zI (256 * h)))]) (by decide) rfl d_Mo_makeWindow_86 ?_
                    refine G_aload_n hX 2 rfl rfl d_Mo_makeWindow_88 ?_
                    have h654 : f649 61 = mob F294 := (k653 61 (by decide)).trans h308
                    refine M_get hX fg_Mo_345 d_Mo_makeWindow_89 h654 (by decide) h296 ?_
                    refine G_if_ne_z hX (tgt := 114) d_Mo_makeWindow_92 rfl (by omega) (fun c655 => by exfalso; omega) (fun c656 => ?_)
                    have hsn : (szR g (kC K) (t (512 + (256 * h + cb))) (av2 1)).1 = (numL g (ev 1) 4 (av2 1) 0).1 := by rw [hszr]
                    have hsp : (szR g (kC K) (t (512 + (256 * h + cb))) (av2 1)).2 = (numL g (ev 1) 4 (av2 1) 0).2 := by rw [hszr]
                    have hnb2 : 0 ≤ (numL g (ev 1) 4 (av2 1) 0).1 ∧ (numL g (ev 1) 4 (av2 1) 0).1 < 268435456 := by have := htB (512 + (256 * h + cb)); omega
                    have hen9 : ((uz av2 1 (numL g (ev 1) 4 (av2 1) 0).2) 0 ≤ ev 0 ∧ ev 0 ≤ sE) ∧ ((uz av2 1 (numL g (ev 1) 4 (av2 1) 0).2) 1 ≤ ev 1 ∧ ev 1 ≤ sE) ∧ ((uz av2 1 (numL g (ev 1) 4 (av2 1) 0).2) 2 ≤ ev 2 ∧ ev 2 ≤ sE) := by
                      refine ⟨⟨show av2 0 ≤ _ by omega, by omega⟩, ⟨show (numL g (ev 1) 4 (av2 1) 0).2 ≤ _ by omega, by omega⟩, ⟨show av2 2 ≤ _ by omega, by omega⟩⟩
                    have hav9 : avB (uz av2 1 (numL g (ev 1) 4 (av2 1) 0).2) := avB_u hav2 (by omega)
                    by_cases qm : (numL g (ev 1) 4 (av2 1) 0).1 ≤ kT K + kZ K - c2 ∧ hrOk (hrR nr2 sm2 N S (t (1024 + (256 * h + cb))) (kS K + c2 - kT K) g (av2 2) (ev 2)).1 (kS K + c2 - kT K)
                    · skip
                      refine G_aload_n hX 2 rfl rfl d_Mo_makeWindow_95 ?_
                      refine G_iload_n hX 1 rfl rfl d_Mo_makeWindow_96 ?_
                      refine G_iload hX 0 rfl d_Mo_makeWindow_97 ?_
                      refine G_aload_n hX 2 rfl rfl d_Mo_makeWindow_99 ?_
                      refine M_get hX fg_Mo_136 d_Mo_makeWindow_100 h654 (by decide) h313 ?_
                      refine G_sipush hX (by decide) d_Mo_makeWindow_103 ?_
                      refine G_iload_n hX 4 rfl rfl d_Mo_makeWindow_106 ?_
                      refine G_iadd_z hX d_Mo_makeWindow_107 ?_
                      refine G_iload_n hX 3 rfl rfl d_Mo_makeWindow_108 ?_
                      refine G_iadd_z hX d_Mo_makeWindow_109 ?_
                      have h657 : f649 80 = iz E 1536 tb := (k653 80 (by decide)).trans h314
                      refine F_iald hX d_Mo_makeWindow_110 80 (by decide) h657 (by omega) ?_
                      refine G_top (show zI (tb ((1024 + (256 * h)) + cb)) = zI (t (1024 + (256 * h + cb))) from congrArg zI ((htb _ (by omega) (by omega)).trans (congrArg t (by omega)))) ?_
                      have b658 := htB (1024 + (256 * h + cb))
                      have h659 : F294 40 = .int (zI (kS K)) := (k298 40 (by decide)).trans ((k223 40 (by decide)).trans hF40)
                      have h660 : F294 42 = .int (zI (kT K)) := (k298 42 (by decide)).trans ((k223 42 (by decide)).trans hF42)
                      have h661 : F294 39 = .int (zI (kF K)) := (k298 39 (by decide)).trans ((k223 39 (by decide)).trans hF39)
                      have h662 : F294 41 = .int (zI oo) := (k298 41 (by decide)).trans ((k223 41 (by decide)).trans hF41)
                      have h663 : F294 43 = .int (zI (kZ K)) := (k298 43 (by decide)).trans ((k223 43 (by decide)).trans hF43)
                      have h664 : F294 25 = .int (zI N) := (k298 25 (by decide)).trans ((k223 25 (by decide)).trans hF25)
                      have h665 : F294 26 = .int (zI S) := (k298 26 (by decide)).trans ((k223 26 (by decide)).trans hF26)
                      have h666 : f649 81 = iz E 1536 ob := (k653 81 (by decide)).trans ((k301 81 (by decide)).trans ((k293 81 (by decide)).trans ((k226 81 (by decide)).trans hc81)))
                      have h667 : f649 82 = iz E 1536 o2 := (k653 82 (by decide)).trans h304
                      have h668 : f649 78 = iz E 8 nr2 := (k653 78 (by decide)).trans h306
                      have h669 : f649 79 = iz E 1024 sm2 := (k653 79 (by decide)).trans h307
                      have h670 : f649 84 = iz E 3 ev := (k653 84 (by decide)).trans h647
                      have h671 : f649 63 = iz E 1600 b := (k653 63 (by decide)).trans h648
                      refine F_callV hX (st := []) (c_Mo_make3_ok E f649 F294 ((numL g (ev 1) 4 (av2 1) 0).1) (t (1024 + (256 * h + cb))) K oo c2 N S T2 ob o2 old m2 oc nr2 sm2 (uz av2 1 (numL g (ev 1) 4 (av2 1) 0).2) ev b g sE h654 (moK_fr hmk (FrF.tr (FrF.tr (FrF.rf (S := [27, 32, 36])) k223 (by decide)) k298 (by decide)) (by decide)) h664 h665 h297 h296 h295 h661 h659 h662 h660 h663 h666 h667 h668 h669 h652 h670 h671 hoo hK hold ho2 (by omega) (by omega) (by omega) (by omega) hT2 hnr2 hsm2 hG hgb hav9 hev hen9 (by omega) qm.1 qm.2) cm_Mo_make im_Mo_make se_Mo_make rfl ml_Mo_398 d_Mo_makeWindow_111 (by decide) h654 rfl rfl (Nat.le_of_ble_eq_true rfl) (by decide) ?_
                      rintro _ f672 ⟨rfl, F675, o'_676, h677, h678, h679, k680, h681, h682, h683, h684, p685, k686⟩
                      refine G_cast (st' := []) ?_ rfl rfl rfl rfl
                      have hin : inS K g t old N S (256 * h + cb) (av2 0) (av2 1) (av2 2) c2 m2 nr2 sm2 T2 = some (av2 0, (numL g (ev 1) 4 (av2 1) 0).2, (hrR nr2 sm2 N S (t (1024 + (256 * h + cb))) (kS K + c2 - kT K) g (av2 2) (ev 2)).2, c2 + ((numL g (ev 1) 4 (av2 1) 0).1), cpL K old ((numL g (ev 1) 4 (av2 1) 0).1).toNat (hrR nr2 sm2 N S (t (1024 + (256 * h + cb))) (kS K + c2 - kT K) g (av2 2) (ev 2)).1 m2 c2, rmN nr2 N T2 (hrR nr2 sm2 N S (t (1024 + (256 * h + cb))) (kS K + c2 - kT K) g (av2 2) (ev 2)).1, rmS sm2 S (hrR nr2 sm2 N S (t (1024 + (256 * h + cb))) (kS K + c2 - kT K) g (av2 2) (ev 2)).1, rmT N T2) := by
                        unfold inS
                        rw [if_neg (by omega), if_neg (by rw [hsn]; omega), hsn, hsp]
                        rw [if_neg (by omega), if_neg (by omega), ← hevI.2.2, if_pos qm.2]
                      have hrb := hrR_b (g := g) (nr := nr2) (sm := sm2) (N := N) (S := S) (mode := t (1024 + (256 * h + cb))) (here := kS K + c2 - kT K) (pa := av2 2) (e := ev 2) hG (by omega)
                      have hhe : kS K + c2 - kT K ≤ 100000 := by rcases hoo with q | q; (have := hK.2.1 q.2; omega); (have := hK.2.2.1 q.2; omega)
                      have hra := qm.2
                      refine G_iincW_z hX (lv' := [(2, .int (zI ((256 * h) + 256))), (4, .int (zI ((numL g (ev 1) 4 (av2 1) 0).1))), (3, .int (zI 3)), (0, .ref (eA E 61)), (1, .int (zI cb))]) 4 rfl (by decide) rfl d_Mo_makeWindow_114 ?_
                      refine G_goto hX (tgt := 30) d_Mo_makeWindow_120 rfl ?_
                      have hsx := hs2.trans (hcS_s (by omega) hin)
                      have h687 : F675 32 = .int (zI 0) := (k680 32 (by decide)).trans h296
                      refine G_loc (lv' := [(0, .ref (eA E 61)), (1, .int (zI cb)), (2, .int (zI ((256 * h) + 256)))]) [3, 4, 0] rfl ?_
                      refine G_cast (ih303 (h + 1) (uz (uz av2 1 (numL g (ev 1) 4 (av2 1) 0).2) 2 (hrR nr2 sm2 N S (t (1024 + (256 * h + cb))) (kS K + c2 - kT K) g ((uz av2 1 (numL g (ev 1) 4 (av2 1) 0).2) 2) (ev 2)).2) (c2 + ((numL g (ev 1) 4 (av2 1) 0).1)) (cpL K old ((numL g (ev 1) 4 (av2 1) 0).1).toNat (hrR nr2 sm2 N S (t (1024 + (256 * h + cb))) (kS K + c2 - kT K) g (av2 2) (ev 2)).1 m2 c2) (rmN nr2 N T2 (hrR nr2 sm2 N S (t (1024 + (256 * h + cb))) (kS K + c2 - kT K) g (av2 2) (ev 2)).1) (rmS sm2 S (hrR nr2 sm2 N S (t (1024 + (256 * h + cb))) (kS K + c2 - kT K) g (av2 2) (ev 2)).1) (rmT N T2) o'_676 F675 f672 (by omega) (avB_u hav9 (show 0 ≤ (hrR nr2 sm2 N S (t (1024 + (256 * h + cb))) (kS K + c2 - kT K) g (av2 2) (ev 2)).2 ∧ (hrR nr2 sm2 N S (t (1024 + (256 * h + cb))) (kS K + c2 - kT K) g (av2 2) (ev 2)).2 ≤ 700 by omega)) (show (kT K ≤ c2 + ((numL g (ev 1) 4 (av2 1) 0).1) ∧ c2 + ((numL g (ev 1) 4 (av2 1) 0).1) ≤ kT K + kZ K) ∧ av2 0 ≤ kD K ∧ (numL g (ev 1) 4 (av2 1) 0).2 ≤ kC K ∧ (hrR nr2 sm2 N S (t (1024 + (256 * h + cb))) (kS K + c2 - kT K) g (av2 2) (ev 2)).2 ≤ kA K by omega) p685 (rmN_bd hnr2 ⟨hra.1, by omega⟩) (rmS_bd hsm2 ⟨hra.1, by omega⟩) (rmT_bd ⟨hN.1, hN.2.1⟩ hT2) (show 0 ≤ h + 1 ∧ h + 1 ≤ 2 ∧ av1 1 + 1 ≤ (numL g (ev 1) 4 (av2 1) 0).2 by omega) hsx h678 h687 h679 (FrF.tr (FrF.tr FrF.rf k298 (by decide)) k680 (by decide)) h681 h682 h683 h684 h677 (Fr.tr (Fr.tr (Fr.tr Fr.rf k301 (by decide)) k653 (by decide)) k686 (by decide))) rfl (by rw [show 256 * (h + 1) = 256 * h + 256 by omega]) rfl rfl
                    · skip
                      refine G_aload_n hX 2 rfl rfl d_Mo_makeWindow_95 ?_
                      refine G_iload_n hX 1 rfl rfl d_Mo_makeWindow_96 ?_
                      refine G_iload hX 0 rfl d_Mo_makeWindow_97 ?_
                      refine G_aload_n hX 2 rfl rfl d_Mo_makeWindow_99 ?_
                      refine M_get hX fg_Mo_136 d_Mo_makeWindow_100 h654 (by decide) h313 ?_
                      refine G_sipush hX (by decide) d_Mo_makeWindow_103 ?_
                      refine G_iload_n hX 4 rfl rfl d_Mo_makeWindow_106 ?_
                      refine G_iadd_z hX d_Mo_makeWindow_107 ?_
                      refine G_iload_n hX 3 rfl rfl d_Mo_makeWindow_108 ?_
                      refine G_iadd_z hX d_Mo_makeWindow_109 ?_
                      have h688 : f649 80 = iz E 1536 tb := (k653 80 (by decide)).trans h314
                      refine F_iald hX d_Mo_makeWindow_110 80 (by decide) h688 (by omega) ?_
                      refine G_top (show zI (tb ((1024 + (256 * h)) + cb)) = zI (t (1024 + (256 * h + cb))) from congrArg zI ((htb _ (by omega) (by omega)).trans (congrArg t (by omega)))) ?_
                      have b689 := htB (1024 + (256 * h + cb))
                      have h690 : F294 40 = .int (zI (kS K)) := (k298 40 (by decide)).trans ((k223 40 (by decide)).trans hF40)
                      have h691 : F294 42 = .int (zI (kT K)) := (k298 42 (by decide)).trans ((k223 42 (by decide)).trans hF42)
                      have h692 : F294 39 = .int (zI (kF K)) := (k298 39 (by decide)).trans ((k223 39 (by decide)).trans hF39)
                      have h693 : F294 41 = .int (zI oo) := (k298 41 (by decide)).trans ((k223 41 (by decide)).trans hF41)
                      have h694 : F294 43 = .int (zI (kZ K)) := (k298 43 (by decide)).trans ((k223 43 (by decide)).trans hF43)
                      have h695 : F294 25 = .int (zI N) := (k298 25 (by decide)).trans ((k223 25 (by decide)).trans hF25)
                      have h696 : F294 26 = .int (zI S) := (k298 26 (by decide)).trans ((k223 26 (by decide)).trans hF26)
                      have h697 : f649 81 = iz E 1536 ob := (k653 81 (by decide)).trans ((k301 81 (by decide)).trans ((k293 81 (by decide)).trans ((k226 81 (by decide)).trans hc81)))
                      have h698 : f649 82 = iz E 1536 o2 := (k653 82 (by decide)).trans h304
                      have h699 : f649 78 = iz E 8 nr2 := (k653 78 (by decide)).trans h306
                      have h700 : f649 79 = iz E 1024 sm2 := (k653 79 (by decide)).trans h307
                      have h701 : f649 84 = iz E 3 ev := (k653 84 (by decide)).trans h647
                      have h702 : f649 63 = iz E 1600 b := (k653 63 (by decide)).trans h648
                      refine F_callV hX (st := []) (c_Mo_make3_no E f649 F294 ((numL g (ev 1) 4 (av2 1) 0).1) (t (1024 + (256 * h + cb))) K oo c2 N S T2 ob o2 old m2 oc nr2 sm2 (uz av2 1 (numL g (ev 1) 4 (av2 1) 0).2) ev b g sE h654 (moK_fr hmk (FrF.tr (FrF.tr (FrF.rf (S := [27, 32, 36])) k223 (by decide)) k298 (by decide)) (by decide)) h695 h696 h297 h296 h295 h692 h690 h693 h691 h694 h697 h698 h699 h700 h652 h701 h702 hoo hK hold ho2 (by omega) (by omega) (by omega) (by omega) hT2 hnr2 hsm2 hG hgb hav9 hev hen9 (by omega) qm) cm_Mo_make im_Mo_make se_Mo_make rfl ml_Mo_398 d_Mo_makeWindow_111 (by decide) h654 rfl rfl (Nat.le_of_ble_eq_true rfl) (by decide) ?_
                      rintro _ f703 ⟨rfl, F706, c'_707, o'_708, av'_709, h710, h711, h712, k713, h714, h715, p716, p717, k718⟩
                      refine G_cast (st' := []) ?_ rfl rfl rfl rfl
                      have hnn : inS K g t old N S (256 * h + cb) (av2 0) (av2 1) (av2 2) c2 m2 nr2 sm2 T2 = none := by
                        unfold inS
                        rw [if_neg (by omega)]
                        by_cases qs : (szR g (kC K) (t (512 + (256 * h + cb))) (av2 1)).1 < 0 ∨ kT K + kZ K - c2 < (szR g (kC K) (t (512 + (256 * h + cb))) (av2 1)).1
                        · rw [if_pos qs]
                        · rw [if_neg qs]
                          rw [if_neg (by omega), if_neg (by omega), ← hevI.2.2, if_neg (fun q => qm ⟨by rw [hsn] at qs; omega, q⟩)]
                      have hd9 : mkE0 K (mkF K g t old N S m) = -2 := by rw [hs2, hcS_n (by omega) hnn]; rfl
                      have h719 : f703 78 = iz E 8 nr2 := (k718 78 (by decide)).trans h699
                      have h720 : f703 79 = iz E 1024 sm2 := (k718 79 (by decide)).trans h700
                      refine G_loc (lv' := [(0, .ref (eA E 61)), (2, .int (zI (256 * h)))]) [2, 4] rfl ?_
                      exact join5 av'_709 c'_707 o'_708 nr2 sm2 (256 * h) F706 f703  p717 (by omega) hd9 h711 h712 (FrF.tr (FrF.tr (FrF.tr FrF.rf k223 (by decide)) k298 (by decide)) k713 (by decide)) h714 h715 h719 h720 h710 (Fr.tr (Fr.tr (Fr.tr (Fr.tr (Fr.tr Fr.rf k226 (by decide)) k293 (by decide)) k301 (by decide)) k653 (by decide)) k718 (by decide))
                  · skip
                    have hnk : (numL g (ev 1) 4 (av2 1) 0).1 < 0 := by omega
                    refine G_iload hX 0 rfl d_Mo_makeWindow_71 ?_
                    refine G_if_ne_z hX (tgt := 84) d_Mo_makeWindow_73 rfl (by omega) (fun c721 => by exfalso; omega) (fun c722 => ?_)
                    refine G_aload_n hX 2 rfl rfl d_Mo_makeWindow_76 ?_
                    refine G_iconst hX d_Mo_makeWindow_77 ?_
                    have h723 : f300 84 = iz E 3 ev := (k301 84 (by decide)).trans ((k293 84 (by decide)).trans h236)
                    have h724 : f300 63 = iz E 1600 b := (k301 63 (by decide)).trans ((k293 63 (by decide)).trans h288)
                    refine F_callV hX (st := []) (c_Mo_readPartNumber_no E f300 F294 1 av2 ev b g sE h308 (moK_fr hmk (FrF.tr (FrF.tr (FrF.rf (S := [27, 32, 36])) k223 (by decide)) k298 (by decide)) (by decide)) h296 h305 h723 h724 (by omega) hG hgb (by omega) hnk hav2) cm_Mo_readPartNumber im_Mo_readPartNumber se_Mo_readPartNumber rfl ml_Mo_370 d_Mo_makeWindow_78 (by decide) h308 rfl rfl (Nat.le_of_ble_eq_true rfl) (by decide) ?_
                    rintro _ f725 ⟨F728, r'_729, av'_730, rfl, h731, h732, k733, h734, p735, p736, k737⟩
                    refine G_cast (st' := [.int (zI r'_729)]) ?_ rfl rfl rfl rfl
                    refine G_goto hX (tgt := 86) d_Mo_makeWindow_81 rfl ?_
                    refine G_istore hX (lv' := [(4, .int (zI r'_729)), (3, .int (zI 3)), (0, .ref (eA E 61)), (1, .int (zI cb)), (2, .int (zI (256 * h)))]) (by decide) rfl d_Mo_makeWindow_86 ?_
                    refine G_aload_n hX 2 rfl rfl d_Mo_makeWindow_88 ?_
                    refine M_get hX fg_Mo_345 d_Mo_makeWindow_89 h731 (by decide) h732 ?_
                    refine G_if_ne_z hX (tgt := 114) d_Mo_makeWindow_92 rfl (by omega) (fun c738 => ?_) (fun c739 => by exfalso; omega)
                    have hnn : inS K g t old N S (256 * h + cb) (av2 0) (av2 1) (av2 2) c2 m2 nr2 sm2 T2 = none := by
                      unfold inS
                      rw [if_neg (by omega), if_pos (Or.inl (by rw [hszr]; exact hnk))]
                    have hd9 : mkE0 K (mkF K g t old N S m) = -2 := by rw [hs2, hcS_n (by omega) hnn]; rfl
                    have h740 : F728 36 = .int (zI c2) := (k733 36 (by decide)).trans h295
                    have h741 : f725 82 = iz E 1536 o2 := (k737 82 (by decide)).trans h304
                    have h742 : f725 78 = iz E 8 nr2 := (k737 78 (by decide)).trans h306
                    have h743 : f725 79 = iz E 1024 sm2 := (k737 79 (by decide)).trans h307
                    refine G_loc (lv' := [(0, .ref (eA E 61)), (2, .int (zI (256 * h)))]) [2, 4] rfl ?_
                    exact join5 av'_730 c2 o2 nr2 sm2 (256 * h) F728 f725  p736 (by omega) hd9 h740 h732 (FrF.tr (FrF.tr (FrF.tr FrF.rf k223 (by decide)) k298 (by decide)) k733 (by decide)) h741 h734 h742 h743 h731 (Fr.tr (Fr.tr (Fr.tr (Fr.tr Fr.rf k226 (by decide)) k293 (by decide)) k301 (by decide)) k737 (by decide))
                · skip
                  have hszr : szR g (kC K) (t (512 + (256 * h + cb))) (av2 1) = (t (512 + (256 * h + cb)), av2 1) := by unfold szR; rw [if_neg qz]
                  refine G_iload hX 0 rfl d_Mo_makeWindow_71 ?_
                  refine G_if_ne_z hX (tgt := 84) d_Mo_makeWindow_73 rfl (by omega) (fun c744 => ?_) (fun c745 => by exfalso; omega)
                  refine G_iload hX 0 rfl d_Mo_makeWindow_84 ?_
                  refine G_istore hX (lv' := [(4, .int (zI (t (512 + (256 * h + cb))))), (3, .int (zI 3)), (0, .ref (eA E 61)), (1, .int (zI cb)), (2, .int (zI (256 * h)))]) (by decide) rfl d_Mo_makeWindow_86 ?_
                  refine G_aload_n hX 2 rfl rfl d_Mo_makeWindow_88 ?_
                  refine M_get hX fg_Mo_345 d_Mo_makeWindow_89 h308 (by decide) h296 ?_
                  refine G_if_ne_z hX (tgt := 114) d_Mo_makeWindow_92 rfl (by omega) (fun c746 => by exfalso; omega) (fun c747 => ?_)
                  have hsn : (szR g (kC K) (t (512 + (256 * h + cb))) (av2 1)).1 = t (512 + (256 * h + cb)) := by rw [hszr]
                  have hsp : (szR g (kC K) (t (512 + (256 * h + cb))) (av2 1)).2 = av2 1 := by rw [hszr]
                  have hnb2 : 0 ≤ t (512 + (256 * h + cb)) ∧ t (512 + (256 * h + cb)) < 268435456 := by have := htB (512 + (256 * h + cb)); omega
                  have hen9 : (av2 0 ≤ ev 0 ∧ ev 0 ≤ sE) ∧ (av2 1 ≤ ev 1 ∧ ev 1 ≤ sE) ∧ (av2 2 ≤ ev 2 ∧ ev 2 ≤ sE) := by
                    refine ⟨⟨show av2 0 ≤ _ by omega, by omega⟩, ⟨show av2 1 ≤ _ by omega, by omega⟩, ⟨show av2 2 ≤ _ by omega, by omega⟩⟩
                  have hav9 : avB av2 := hav2
                  by_cases qm : t (512 + (256 * h + cb)) ≤ kT K + kZ K - c2 ∧ hrOk (hrR nr2 sm2 N S (t (1024 + (256 * h + cb))) (kS K + c2 - kT K) g (av2 2) (ev 2)).1 (kS K + c2 - kT K)
                  · skip
                    refine G_aload_n hX 2 rfl rfl d_Mo_makeWindow_95 ?_
                    refine G_iload_n hX 1 rfl rfl d_Mo_makeWindow_96 ?_
                    refine G_iload hX 0 rfl d_Mo_makeWindow_97 ?_
                    refine G_aload_n hX 2 rfl rfl d_Mo_makeWindow_99 ?_
                    refine M_get hX fg_Mo_136 d_Mo_makeWindow_100 h308 (by decide) h313 ?_
                    refine G_sipush hX (by decide) d_Mo_makeWindow_103 ?_
                    refine G_iload_n hX 4 rfl rfl d_Mo_makeWindow_106 ?_
                    refine G_iadd_z hX d_Mo_makeWindow_107 ?_
                    refine G_iload_n hX 3 rfl rfl d_Mo_makeWindow_108 ?_
                    refine G_iadd_z hX d_Mo_makeWindow_109 ?_
                    refine F_iald hX d_Mo_makeWindow_110 80 (by decide) h314 (by omega) ?_
                    refine G_top (show zI (tb ((1024 + (256 * h)) + cb)) = zI (t (1024 + (256 * h + cb))) from congrArg zI ((htb _ (by omega) (by omega)).trans (congrArg t (by omega)))) ?_
                    have b748 := htB (1024 + (256 * h + cb))
                    have h749 : F294 40 = .int (zI (kS K)) := (k298 40 (by decide)).trans ((k223 40 (by decide)).trans hF40)
                    have h750 : F294 42 = .int (zI (kT K)) := (k298 42 (by decide)).trans ((k223 42 (by decide)).trans hF42)
                    have h751 : F294 39 = .int (zI (kF K)) := (k298 39 (by decide)).trans ((k223 39 (by decide)).trans hF39)
                    have h752 : F294 41 = .int (zI oo) := (k298 41 (by decide)).trans ((k223 41 (by decide)).trans hF41)
                    have h753 : F294 43 = .int (zI (kZ K)) := (k298 43 (by decide)).trans ((k223 43 (by decide)).trans hF43)
                    have h754 : F294 25 = .int (zI N) := (k298 25 (by decide)).trans ((k223 25 (by decide)).trans hF25)
                    have h755 : F294 26 = .int (zI S) := (k298 26 (by decide)).trans ((k223 26 (by decide)).trans hF26)
                    have h756 : f300 81 = iz E 1536 ob := (k301 81 (by decide)).trans ((k293 81 (by decide)).trans ((k226 81 (by decide)).trans hc81))
                    have h757 : f300 84 = iz E 3 ev := (k301 84 (by decide)).trans ((k293 84 (by decide)).trans h236)
                    have h758 : f300 63 = iz E 1600 b := (k301 63 (by decide)).trans ((k293 63 (by decide)).trans h288)
                    refine F_callV hX (st := []) (c_Mo_make3_ok E f300 F294 (t (512 + (256 * h + cb))) (t (1024 + (256 * h + cb))) K oo c2 N S T2 ob o2 old m2 oc nr2 sm2 av2 ev b g sE h308 (moK_fr hmk (FrF.tr (FrF.tr (FrF.rf (S := [27, 32, 36])) k223 (by decide)) k298 (by decide)) (by decide)) h754 h755 h297 h296 h295 h751 h749 h752 h750 h753 h756 h304 h306 h307 h305 h757 h758 hoo hK hold ho2 (by omega) (by omega) (by omega) (by omega) hT2 hnr2 hsm2 hG hgb hav9 hev hen9 (by omega) qm.1 qm.2) cm_Mo_make im_Mo_make se_Mo_make rfl ml_Mo_398 d_Mo_makeWindow_111 (by decide) h308 rfl rfl (Nat.le_of_ble_eq_true rfl) (by decide) ?_
                    rintro _ f759 ⟨rfl, F762, o'_763, h764, h765, h766, k767, h768, h769, h770, h771, p772, k773⟩
                    refine G_cast (st' := []) ?_ rfl rfl rfl rfl
                    have hin : inS K g t old N S (256 * h + cb) (av2 0) (av2 1) (av2 2) c2 m2 nr2 sm2 T2 = some (av2 0, av2 1, (hrR nr2 sm2 N S (t (1024 + (256 * h + cb))) (kS K + c2 - kT K) g (av2 2) (ev 2)).2, c2 + (t (512 + (256 * h + cb))), cpL K old (t (512 + (256 * h + cb))).toNat (hrR nr2 sm2 N S (t (1024 + (256 * h + cb))) (kS K + c2 - kT K) g (av2 2) (ev 2)).1 m2 c2, rmN nr2 N T2 (hrR nr2 sm2 N S (t (1024 + (256 * h + cb))) (kS K + c2 - kT K) g (av2 2) (ev 2)).1, rmS sm2 S (hrR nr2 sm2 N S (t (1024 + (256 * h + cb))) (kS K + c2 - kT K) g (av2 2) (ev 2)).1, rmT N T2) := by
                      unfold inS
                      rw [if_neg (by omega), if_neg (by rw [hsn]; omega), hsn, hsp]
                      rw [if_neg (by omega), if_neg (by omega), ← hevI.2.2, if_pos qm.2]
                    have hrb := hrR_b (g := g) (nr := nr2) (sm := sm2) (N := N) (S := S) (mode := t (1024 + (256 * h + cb))) (here := kS K + c2 - kT K) (pa := av2 2) (e := ev 2) hG (by omega)
                    have hhe : kS K + c2 - kT K ≤ 100000 := by rcases hoo with q | q; (have := hK.2.1 q.2; omega); (have := hK.2.2.1 q.2; omega)
                    have hra := qm.2
                    refine G_iincW_z hX (lv' := [(2, .int (zI ((256 * h) + 256))), (4, .int (zI (t (512 + (256 * h + cb))))), (3, .int (zI 3)), (0, .ref (eA E 61)), (1, .int (zI cb))]) 4 rfl (by decide) rfl d_Mo_makeWindow_114 ?_
                    refine G_goto hX (tgt := 30) d_Mo_makeWindow_120 rfl ?_
                    have hsx := hs2.trans (hcS_s (by omega) hin)
                    have h774 : F762 32 = .int (zI 0) := (k767 32 (by decide)).trans h296
                    refine G_loc (lv' := [(0, .ref (eA E 61)), (1, .int (zI cb)), (2, .int (zI ((256 * h) + 256)))]) [3, 4, 0] rfl ?_
                    refine G_cast (ih303 (h + 1) (uz av2 2 (hrR nr2 sm2 N S (t (1024 + (256 * h + cb))) (kS K + c2 - kT K) g (av2 2) (ev 2)).2) (c2 + (t (512 + (256 * h + cb)))) (cpL K old (t (512 + (256 * h + cb))).toNat (hrR nr2 sm2 N S (t (1024 + (256 * h + cb))) (kS K + c2 - kT K) g (av2 2) (ev 2)).1 m2 c2) (rmN nr2 N T2 (hrR nr2 sm2 N S (t (1024 + (256 * h + cb))) (kS K + c2 - kT K) g (av2 2) (ev 2)).1) (rmS sm2 S (hrR nr2 sm2 N S (t (1024 + (256 * h + cb))) (kS K + c2 - kT K) g (av2 2) (ev 2)).1) (rmT N T2) o'_763 F762 f759 (by omega) (avB_u hav9 (show 0 ≤ (hrR nr2 sm2 N S (t (1024 + (256 * h + cb))) (kS K + c2 - kT K) g (av2 2) (ev 2)).2 ∧ (hrR nr2 sm2 N S (t (1024 + (256 * h + cb))) (kS K + c2 - kT K) g (av2 2) (ev 2)).2 ≤ 700 by omega)) (show (kT K ≤ c2 + (t (512 + (256 * h + cb))) ∧ c2 + (t (512 + (256 * h + cb))) ≤ kT K + kZ K) ∧ av2 0 ≤ kD K ∧ av2 1 ≤ kC K ∧ (hrR nr2 sm2 N S (t (1024 + (256 * h + cb))) (kS K + c2 - kT K) g (av2 2) (ev 2)).2 ≤ kA K by omega) p772 (rmN_bd hnr2 ⟨hra.1, by omega⟩) (rmS_bd hsm2 ⟨hra.1, by omega⟩) (rmT_bd ⟨hN.1, hN.2.1⟩ hT2) (show 0 ≤ h + 1 ∧ h + 1 ≤ 2 ∧ av1 1 + 1 ≤ av2 1 by omega) hsx h765 h774 h766 (FrF.tr (FrF.tr FrF.rf k298 (by decide)) k767 (by decide)) h768 h769 h770 h771 h764 (Fr.tr (Fr.tr Fr.rf k301 (by decide)) k773 (by decide))) rfl (by rw [show 256 * (h + 1) = 256 * h + 256 by omega]) rfl rfl
                  · skip
                    refine G_aload_n hX 2 rfl rfl d_Mo_makeWindow_95 ?_
                    refine G_iload_n hX 1 rfl rfl d_Mo_makeWindow_96 ?_
                    refine G_iload hX 0 rfl d_Mo_makeWindow_97 ?_
                    refine G_aload_n hX 2 rfl rfl d_Mo_makeWindow_99 ?_
                    refine M_get hX fg_Mo_136 d_Mo_makeWindow_100 h308 (by decide) h313 ?_
                    refine G_sipush hX (by decide) d_Mo_makeWindow_103 ?_
                    refine G_iload_n hX 4 rfl rfl d_Mo_makeWindow_106 ?_
                    refine G_iadd_z hX d_Mo_makeWindow_107 ?_
                    refine G_iload_n hX 3 rfl rfl d_Mo_makeWindow_108 ?_
                    refine G_iadd_z hX d_Mo_makeWindow_109 ?_
                    refine F_iald hX d_Mo_makeWindow_110 80 (by decide) h314 (by omega) ?_
                    refine G_top (show zI (tb ((1024 + (256 * h)) + cb)) = zI (t (1024 + (256 * h + cb))) from congrArg zI ((htb _ (by omega) (by omega)).trans (congrArg t (by omega)))) ?_
                    have b775 := htB (1024 + (256 * h + cb))
                    have h776 : F294 40 = .int (zI (kS K)) := (k298 40 (by decide)).trans ((k223 40 (by decide)).trans hF40)
                    have h777 : F294 42 = .int (zI (kT K)) := (k298 42 (by decide)).trans ((k223 42 (by decide)).trans hF42)
                    have h778 : F294 39 = .int (zI (kF K)) := (k298 39 (by decide)).trans ((k223 39 (by decide)).trans hF39)
                    have h779 : F294 41 = .int (zI oo) := (k298 41 (by decide)).trans ((k223 41 (by decide)).trans hF41)
                    have h780 : F294 43 = .int (zI (kZ K)) := (k298 43 (by decide)).trans ((k223 43 (by decide)).trans hF43)
                    have h781 : F294 25 = .int (zI N) := (k298 25 (by decide)).trans ((k223 25 (by decide)).trans hF25)
                    have h782 : F294 26 = .int (zI S) := (k298 26 (by decide)).trans ((k223 26 (by decide)).trans hF26)
                    have h783 : f300 81 = iz E 1536 ob := (k301 81 (by decide)).trans ((k293 81 (by decide)).trans ((k226 81 (by decide)).trans hc81))
                    have h784 : f300 84 = iz E 3 ev := (k301 84 (by decide)).trans ((k293 84 (by decide)).trans h236)
                    have h785 : f300 63 = iz E 1600 b := (k301 63 (by decide)).trans ((k293 63 (by decide)).trans h288)
                    refine F_callV hX (st := []) (c_Mo_make3_no E f300 F294 (t (512 + (256 * h + cb))) (t (1024 + (256 * h + cb))) K oo c2 N S T2 ob o2 old m2 oc nr2 sm2 av2 ev b g sE h308 (moK_fr hmk (FrF.tr (FrF.tr (FrF.rf (S := [27, 32, 36])) k223 (by decide)) k298 (by decide)) (by decide)) h781 h782 h297 h296 h295 h778 h776 h779 h777 h780 h783 h304 h306 h307 h305 h784 h785 hoo hK hold ho2 (by omega) (by omega) (by omega) (by omega) hT2 hnr2 hsm2 hG hgb hav9 hev hen9 (by omega) qm) cm_Mo_make im_Mo_make se_Mo_make rfl ml_Mo_398 d_Mo_makeWindow_111 (by decide) h308 rfl rfl (Nat.le_of_ble_eq_true rfl) (by decide) ?_
                    rintro _ f786 ⟨rfl, F789, c'_790, o'_791, av'_792, h793, h794, h795, k796, h797, h798, p799, p800, k801⟩
                    refine G_cast (st' := []) ?_ rfl rfl rfl rfl
                    have hnn : inS K g t old N S (256 * h + cb) (av2 0) (av2 1) (av2 2) c2 m2 nr2 sm2 T2 = none := by
                      unfold inS
                      rw [if_neg (by omega)]
                      by_cases qs : (szR g (kC K) (t (512 + (256 * h + cb))) (av2 1)).1 < 0 ∨ kT K + kZ K - c2 < (szR g (kC K) (t (512 + (256 * h + cb))) (av2 1)).1
                      · rw [if_pos qs]
                      · rw [if_neg qs]
                        rw [if_neg (by omega), if_neg (by omega), ← hevI.2.2, if_neg (fun q => qm ⟨by rw [hsn] at qs; omega, q⟩)]
                    have hd9 : mkE0 K (mkF K g t old N S m) = -2 := by rw [hs2, hcS_n (by omega) hnn]; rfl
                    have h802 : f786 78 = iz E 8 nr2 := (k801 78 (by decide)).trans h306
                    have h803 : f786 79 = iz E 1024 sm2 := (k801 79 (by decide)).trans h307
                    refine G_loc (lv' := [(0, .ref (eA E 61)), (2, .int (zI (256 * h)))]) [2, 4] rfl ?_
                    exact join5 av'_792 c'_790 o'_791 nr2 sm2 (256 * h) F789 f786  p800 (by omega) hd9 h794 h795 (FrF.tr (FrF.tr (FrF.tr FrF.rf k223 (by decide)) k298 (by decide)) k796 (by decide)) h797 h798 h802 h803 h793 (Fr.tr (Fr.tr (Fr.tr (Fr.tr Fr.rf k226 (by decide)) k293 (by decide)) k301 (by decide)) k801 (by decide))
        have h804 : f289 82 = iz E 1536 o1 := (k293 82 (by decide)).trans h229
        have h805 : f289 78 = iz E 8 nr1 := (k293 78 (by decide)).trans h231
        have h806 : f289 79 = iz E 1024 sm1 := (k293 79 (by decide)).trans h232
        have h807 : f289 61 = mob F219 := (k293 61 (by decide)).trans h233
        refine G_loc (lv' := [(0, .ref (eA E 61)), (1, .int (zI cb)), (2, .int (zI 0))]) [2, 1, 0] rfl ?_
        refine G_cast (loop299 (_ + 1) 0 (uz av1 1 (av1 1 + 1)) c1 m1 nr1 sm1 T1 o1 F219 f289 (Nat.lt_succ_self _) (avB_u hav1 (by omega)) ⟨hb1.1, hb1.2.1, by rw [uz_at]; omega, hb1.2.2.2⟩ ho1 hnr1 hsm1 hT1 (by rw [uz_at]; omega) hst h220 h221 h222 FrF.rf h804 h292 h805 h806 h807 Fr.rf) rfl (by rfl) rfl rfl
  refine G_cast (loop224 (_ + 1) 0 av (kT K) m (fun _ => 0) (fun _ => 0) 0 o F f (Nat.lt_succ_self _) (fun i h1 h2 => by rcases (show i = 0 ∨ i = 1 ∨ i = 2 by omega) with h | h | h <;> rw [h] <;> omega) (by omega) hout (fun _ => by decide) (fun _ => by decide) (by omega) (by omega) (by unfold mkF; rw [havs.1, havs.2.1, havs.2.2]; rfl) hF36 hF32 hF27 FrF.rf hc82 hc83 hc78 hc79 hMo Fr.rf) rfl (by rfl) rfl rfl
