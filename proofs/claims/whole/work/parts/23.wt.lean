/-! Writer: gatherData, tellAddresses; printed by wip/tools/m_wt2.py -/
theorem c_Wt_gatherData (E : EV) (f : Nat → va_E) (P : PS) (md w s : Int) (g gd : Int → Int) (c cd a b x : Int) (hT : isWt E f b) (hP : isPl E f P md w s) (hB : plB P) (hR : isR E f 4 5 300 g c) (hRd : isR E f 34 35 256 gd cd) (hw : wnOK P a b x c) : CF yn_Wt_gatherData cd_Wt_gatherData 7 none 2 E [.ref (eA E 29), .ref (eA E 22), .ref (eA E 4), .int (zI a), .int (zI x)] f (fun r f' => r = none ∧ (∃ gd' cd', isR E f' 34 35 256 gd' cd' ∧ rep gd' cd' (gdL P g (b - a).toNat a) ∧ cd' ≤ psI P b - x) ∧ Fr [34, 35] f f') := by
  refine CF.of (by decide +kernel) (Nat.le_of_ble_eq_true rfl) fun X hX hE => ?_
  have hX : Ok E X "DeltaFerry$Writer" "gatherData" cd_Wt_gatherData 7 none (rl 2) := hX
  refine G_cast (lv' := [(0, .ref (eA E 29)), (1, .ref (eA E 22)), (2, .ref (eA E 4)), (3, .int (zI a)), (4, .int (zI x))]) ?_ rfl rfl rfl rfl
  obtain ⟨hw1, hw2, hw3⟩ := id hw
  refine G_aload_n hX 0 rfl rfl d_Wt_gatherData_0 ?_
  refine F_get hX fg_Wt_23 d_Wt_gatherData_1 29 (by decide) hT rfl ?_
  refine G_iconst hX d_Wt_gatherData_4 ?_
  refine F_put hX fg_Wt_47 fp_Ro_1 d_Wt_gatherData_5 34 (fs' := [.ref (eA E 35), .int (zI 0)]) (by decide) hRd.1 rfl rfl (Nat.le_of_ble_eq_true rfl) rfl (fun f1 h2 k3 => ?_)
  refine G_iload hX 4 rfl d_Wt_gatherData_8 ?_
  refine G_istore hX (lv' := [(5, .int (zI x)), (0, .ref (eA E 29)), (1, .ref (eA E 22)), (2, .ref (eA E 4)), (3, .int (zI a)), (4, .int (zI x))]) (by decide) rfl d_Wt_gatherData_10 ?_
  refine G_iload_n hX 4 rfl rfl d_Wt_gatherData_12 ?_
  refine G_istore hX (lv' := [(6, .int (zI a)), (5, .int (zI x)), (0, .ref (eA E 29)), (1, .ref (eA E 22)), (2, .ref (eA E 4)), (3, .int (zI a)), (4, .int (zI x))]) (by decide) rfl d_Wt_gatherData_13 ?_
  have loop4 : ∀ (q : Nat) (i : Int) (L : List Int) (g1 : Int → Int) (c1 : Int) (f5 : Nat → va_E), (b - i).toNat < q → (a ≤ i ∧ i ≤ b) → (rep g1 c1 L) → (0 ≤ c1 ∧ c1 ≤ psI P i - x) → (gdL P g (b - a).toNat a = L ++ gdL P g (b - i).toNat i) → f5 34 = ob 6 [.ref (eA E 35), .int (zI c1)] → f5 35 = iz E 256 g1 → Fr [34, 35] f1 f5 → G E X 0 0 15 [(0, .ref (eA E 29)), (1, .ref (eA E 22)), (2, .ref (eA E 4)), (5, .int (zI (psI P i))), (6, .int (zI i))] [] (wl E f5) := by
    intro q
    induction q with
    | zero => intro i L g1 c1 f5 hms7; exact absurd hms7 (Nat.not_lt_zero _)
    | succ q ih8 =>
      intro i L g1 c1 f5 hms7 hi hrp hle hs h9 h10 k6
      refine G_iload hX 4 rfl d_Wt_gatherData_15 ?_
      refine G_aload_n hX 0 rfl rfl d_Wt_gatherData_17 ?_
      have h11 : f5 29 = ob 10 [.ref (eA E 30), .ref (eA E 32), .ref (eA E 34), .ref (eA E 36), .ref (eA E 38), .ref (eA E 40), .ref (eA E 41), .int (zI b)] := (k6 29 (by decide)).trans ((k3 29 (by decide)).trans hT)
      refine F_get hX fg_Wt_43 d_Wt_gatherData_18 29 (by decide) h11 rfl ?_
      refine G_icmp_ge_z hX (tgt := 101) d_Wt_gatherData_21 rfl (by omega) (fun c12 => ?_) (fun c13 => ?_)
      · skip
        have ei : i = b := by omega
        rw [gdL_e (b := b) (i := i) (by omega), List.append_nil] at hs
        exact F_vret hX hE d_Wt_gatherData_101 ⟨rfl, ⟨_, _, ⟨h9, h10⟩, by rw [hs]; exact hrp, by rw [← ei]; exact hle.2⟩, (Fr.tr (Fr.tr Fr.rf k3 (by decide)) k6 (by decide))⟩
      · skip
        have hwi := hw3 i (by omega) (by omega)
        have hps := psI_s (P := P) (i := i) (by omega)
        have hgi := wnOK_gi hw hi.1 hi.2
        have hbi := hB i
        refine G_aload_n hX 1 rfl rfl d_Wt_gatherData_24 ?_
        have h14 : f5 22 = ob 4 [.ref (eA E 23), .ref (eA E 24), .ref (eA E 25), .ref (eA E 26), .int (zI md), .int (zI (pC P)), .int (zI w), .int (zI s)] := (k6 22 (by decide)).trans ((k3 22 (by decide)).trans hP.1)
        refine F_get hX fg_Wt_108 d_Wt_gatherData_25 22 (by decide) h14 rfl ?_
        refine G_iload hX 4 rfl d_Wt_gatherData_28 ?_
        have h15 : f5 23 = iz E 300 (pT P) := (k6 23 (by decide)).trans ((k3 23 (by decide)).trans hP.2.1)
        refine F_iald hX d_Wt_gatherData_30 23 (by decide) h15 (by omega) ?_
        refine G_iconst hX d_Wt_gatherData_31 ?_
        refine G_icmp_ne_z hX (tgt := 58) d_Wt_gatherData_32 rfl (by omega) (fun c16 => ?_) (fun c17 => ?_)
        · skip
          refine G_aload_n hX 1 rfl rfl d_Wt_gatherData_58 ?_
          refine F_get hX fg_Wt_108 d_Wt_gatherData_59 22 (by decide) h14 rfl ?_
          refine G_iload hX 4 rfl d_Wt_gatherData_62 ?_
          refine F_iald hX d_Wt_gatherData_64 23 (by decide) h15 (by omega) ?_
          refine G_iconst hX d_Wt_gatherData_65 ?_
          refine G_icmp_ne_z hX (tgt := 83) d_Wt_gatherData_66 rfl (by omega) (fun c18 => ?_) (fun c19 => ?_)
          · skip
            refine G_iload hX 3 rfl d_Wt_gatherData_83 ?_
            refine G_aload_n hX 1 rfl rfl d_Wt_gatherData_85 ?_
            refine F_get hX fg_Wt_111 d_Wt_gatherData_86 22 (by decide) h14 rfl ?_
            refine G_iload hX 4 rfl d_Wt_gatherData_89 ?_
            have h20 : f5 24 = iz E 300 (pS P) := (k6 24 (by decide)).trans ((k3 24 (by decide)).trans hP.2.2.1)
            refine F_iald hX d_Wt_gatherData_91 24 (by decide) h20 (by omega) ?_
            refine G_iadd_z hX d_Wt_gatherData_92 ?_
            refine G_istore hX (lv' := [(5, .int (zI ((psI P i) + ((pS P) i)))), (0, .ref (eA E 29)), (1, .ref (eA E 22)), (2, .ref (eA E 4)), (6, .int (zI i))]) (by decide) rfl d_Wt_gatherData_93 ?_
            refine G_iinc_z hX (lv' := [(6, .int (zI (i + 1))), (5, .int (zI ((psI P i) + ((pS P) i)))), (0, .ref (eA E 29)), (1, .ref (eA E 22)), (2, .ref (eA E 4))]) 4 rfl (by decide) rfl d_Wt_gatherData_95 ?_
            refine G_goto hX (tgt := 15) d_Wt_gatherData_98 rfl ?_
            refine G_loc (lv' := [(0, .ref (eA E 29)), (1, .ref (eA E 22)), (2, .ref (eA E 4)), (5, .int (zI ((psI P i) + ((pS P) i)))), (6, .int (zI (i + 1)))]) [2, 3, 4, 1, 0] rfl ?_
            refine G_cast (ih8 (i + 1) L g1 c1 f5 (by omega) (by omega) hrp (by omega) (by rw [hs, gdL_s (by omega), gdI, if_neg (by omega), if_neg (by omega)]; simp only [List.append_assoc, List.nil_append]) h9 h10 (Fr.tr Fr.rf k6 (by decide))) rfl (by rw [hps]) rfl rfl
          · skip
            refine G_aload_n hX 0 rfl rfl d_Wt_gatherData_69 ?_
            refine F_get hX fg_Wt_23 d_Wt_gatherData_70 29 (by decide) h11 rfl ?_
            refine G_aload_n hX 2 rfl rfl d_Wt_gatherData_73 ?_
            have h21 : f5 4 = ob 6 [.ref (eA E 5), .int (zI c)] := (k6 4 (by decide)).trans ((k3 4 (by decide)).trans hR.1)
            refine F_get hX fg_Wt_79 d_Wt_gatherData_74 4 (by decide) h21 rfl ?_
            refine G_iload hX 3 rfl d_Wt_gatherData_77 ?_
            have h22 : f5 5 = iz E 300 g := (k6 5 (by decide)).trans ((k3 5 (by decide)).trans hR.2)
            refine F_iald hX d_Wt_gatherData_79 5 (by decide) h22 (by omega) ?_
            refine F_callV hX (st := []) (c_Ro_push E f5 34 35 256 g1 c1 (g (psI P i)) (by decide) (by decide) (by decide) ⟨h9, h10⟩ (by omega) (by omega)) cm_Ro_push im_Ro_push se_Ro_push rfl ml_Wt_50 d_Wt_gatherData_80 (by decide) h9 rfl rfl (Nat.le_of_ble_eq_true rfl) (by decide) ?_
            rintro _ f23 ⟨rfl, ⟨h26, h27⟩, k28⟩
            refine G_cast (st' := []) ?_ rfl rfl rfl rfl
            have rp29 := rep_uz (v := g (psI P i)) hrp
            refine G_iload hX 3 rfl d_Wt_gatherData_83 ?_
            refine G_aload_n hX 1 rfl rfl d_Wt_gatherData_85 ?_
            have h30 : f23 22 = ob 4 [.ref (eA E 23), .ref (eA E 24), .ref (eA E 25), .ref (eA E 26), .int (zI md), .int (zI (pC P)), .int (zI w), .int (zI s)] := (k28 22 (by decide)).trans h14
            refine F_get hX fg_Wt_111 d_Wt_gatherData_86 22 (by decide) h30 rfl ?_
            refine G_iload hX 4 rfl d_Wt_gatherData_89 ?_
            have h31 : f23 24 = iz E 300 (pS P) := (k28 24 (by decide)).trans ((k6 24 (by decide)).trans ((k3 24 (by decide)).trans hP.2.2.1))
            refine F_iald hX d_Wt_gatherData_91 24 (by decide) h31 (by omega) ?_
            refine G_iadd_z hX d_Wt_gatherData_92 ?_
            refine G_istore hX (lv' := [(5, .int (zI ((psI P i) + ((pS P) i)))), (0, .ref (eA E 29)), (1, .ref (eA E 22)), (2, .ref (eA E 4)), (6, .int (zI i))]) (by decide) rfl d_Wt_gatherData_93 ?_
            refine G_iinc_z hX (lv' := [(6, .int (zI (i + 1))), (5, .int (zI ((psI P i) + ((pS P) i)))), (0, .ref (eA E 29)), (1, .ref (eA E 22)), (2, .ref (eA E 4))]) 4 rfl (by decide) rfl d_Wt_gatherData_95 ?_
            refine G_goto hX (tgt := 15) d_Wt_gatherData_98 rfl ?_
            refine G_loc (lv' := [(0, .ref (eA E 29)), (1, .ref (eA E 22)), (2, .ref (eA E 4)), (5, .int (zI ((psI P i) + ((pS P) i)))), (6, .int (zI (i + 1)))]) [2, 3, 4, 1, 0] rfl ?_
            refine G_cast (ih8 (i + 1) (L ++ [g (psI P i)]) (uz g1 c1 (g (psI P i))) (c1 + 1) f23 (by omega) (by omega) rp29 (by omega) (by rw [hs, gdL_s (by omega), gdI, if_neg (by omega), if_pos (by omega)]; simp only [List.append_assoc, List.nil_append]) h26 h27 (Fr.tr (Fr.tr Fr.rf k6 (by decide)) k28 (by decide))) rfl (by rw [hps]) rfl rfl
        · skip
          refine G_aload_n hX 0 rfl rfl d_Wt_gatherData_35 ?_
          refine F_get hX fg_Wt_23 d_Wt_gatherData_36 29 (by decide) h11 rfl ?_
          refine G_aload_n hX 2 rfl rfl d_Wt_gatherData_39 ?_
          have h32 : f5 4 = ob 6 [.ref (eA E 5), .int (zI c)] := (k6 4 (by decide)).trans ((k3 4 (by decide)).trans hR.1)
          refine F_get hX fg_Wt_79 d_Wt_gatherData_40 4 (by decide) h32 rfl ?_
          refine G_iload hX 3 rfl d_Wt_gatherData_43 ?_
          refine G_aload_n hX 1 rfl rfl d_Wt_gatherData_45 ?_
          refine F_get hX fg_Wt_111 d_Wt_gatherData_46 22 (by decide) h14 rfl ?_
          refine G_iload hX 4 rfl d_Wt_gatherData_49 ?_
          have h33 : f5 24 = iz E 300 (pS P) := (k6 24 (by decide)).trans ((k3 24 (by decide)).trans hP.2.2.1)
          refine F_iald hX d_Wt_gatherData_51 24 (by decide) h33 (by omega) ?_
          have h34 : f5 5 = iz E 300 g := (k6 5 (by decide)).trans ((k3 5 (by decide)).trans hR.2)
          refine F_callV hX (st := []) (c_Ro_pushPart E f5 34 35 256 g1 c1 5 300 g (psI P i) ((pS P) i) (by decide) (by decide) (by decide) ⟨h9, h10⟩ (by omega) (by decide) (by decide) h34 (by omega)) cm_Ro_pushPart im_Ro_pushPart se_Ro_pushPart rfl ml_Wt_104 d_Wt_gatherData_52 (by decide) h9 rfl rfl (Nat.le_of_ble_eq_true rfl) (by decide) ?_
          rintro _ f35 ⟨rfl, ⟨h38, h39⟩, k40⟩
          refine G_cast (st' := []) ?_ rfl rfl rfl rfl
          have rp41 := rep_cz (g0 := g) (p := psI P i) (m := (pS P) i) hrp (by omega)
          refine G_goto hX (tgt := 83) d_Wt_gatherData_55 rfl ?_
          refine G_iload hX 3 rfl d_Wt_gatherData_83 ?_
          refine G_aload_n hX 1 rfl rfl d_Wt_gatherData_85 ?_
          have h42 : f35 22 = ob 4 [.ref (eA E 23), .ref (eA E 24), .ref (eA E 25), .ref (eA E 26), .int (zI md), .int (zI (pC P)), .int (zI w), .int (zI s)] := (k40 22 (by decide)).trans h14
          refine F_get hX fg_Wt_111 d_Wt_gatherData_86 22 (by decide) h42 rfl ?_
          refine G_iload hX 4 rfl d_Wt_gatherData_89 ?_
          have h43 : f35 24 = iz E 300 (pS P) := (k40 24 (by decide)).trans h33
          refine F_iald hX d_Wt_gatherData_91 24 (by decide) h43 (by omega) ?_
          refine G_iadd_z hX d_Wt_gatherData_92 ?_
          refine G_istore hX (lv' := [(5, .int (zI ((psI P i) + ((pS P) i)))), (0, .ref (eA E 29)), (1, .ref (eA E 22)), (2, .ref (eA E 4)), (6, .int (zI i))]) (by decide) rfl d_Wt_gatherData_93 ?_
          refine G_iinc_z hX (lv' := [(6, .int (zI (i + 1))), (5, .int (zI ((psI P i) + ((pS P) i)))), (0, .ref (eA E 29)), (1, .ref (eA E 22)), (2, .ref (eA E 4))]) 4 rfl (by decide) rfl d_Wt_gatherData_95 ?_
          refine G_goto hX (tgt := 15) d_Wt_gatherData_98 rfl ?_
          refine G_loc (lv' := [(0, .ref (eA E 29)), (1, .ref (eA E 22)), (2, .ref (eA E 4)), (5, .int (zI ((psI P i) + ((pS P) i)))), (6, .int (zI (i + 1)))]) [2, 3, 4, 1, 0] rfl ?_
          refine G_cast (ih8 (i + 1) (L ++ sl g (psI P i) ((pS P) i : Int).toNat) (cz g g1 (psI P i) c1 ((pS P) i)) (c1 + ((pS P) i)) f35 (by omega) (by omega) rp41 (by omega) (by rw [hs, gdL_s (by omega), gdI, if_pos (by omega)]; simp only [List.append_assoc, List.nil_append]) h38 h39 (Fr.tr (Fr.tr Fr.rf k6 (by decide)) k40 (by decide))) rfl (by rw [hps]) rfl rfl
  have h44 : f1 35 = iz E 256 gd := (k3 35 (by decide)).trans hRd.2
  refine G_loc (lv' := [(0, .ref (eA E 29)), (1, .ref (eA E 22)), (2, .ref (eA E 4)), (5, .int (zI x)), (6, .int (zI a))]) [2, 3, 4, 1, 0] rfl ?_
  refine G_cast (loop4 (_ + 1) a ([]) gd 0 f1 (Nat.lt_succ_self _) (by omega) (rep_0 gd) (by omega) rfl h2 h44 Fr.rf) rfl (by rw [hw2.1]) rfl rfl
def arB (R : AR) : Prop := (∀ k, 0 ≤ R.1 k ∧ R.1 k ≤ 700) ∧ (∀ k, 0 ≤ R.2.1 k ∧ R.2.1 k ≤ 700) ∧ 0 ≤ R.2.2 ∧ R.2.2 < 4
theorem arB_n {R : AR} {ad : Int} (h : arB R) (ha : 0 ≤ ad ∧ ad ≤ 700) : arB (arN R ad) := by
  obtain ⟨h1, h2, h3⟩ := h
  refine ⟨fun k => ?_, fun k => ?_, ?_⟩
  · have := h1 k
    show 0 ≤ rmN R.1 4 R.2.2 ad k ∧ rmN R.1 4 R.2.2 ad k ≤ 700
    unfold rmN uz
    rw [if_pos (by decide)]
    split <;> omega
  · have := h2 k
    show 0 ≤ rmS R.2.1 3 ad k ∧ rmS R.2.1 3 ad k ≤ 700
    unfold rmS uz
    rw [if_pos (by decide)]
    split <;> omega
  · show 0 ≤ rmT 4 R.2.2 ∧ rmT 4 R.2.2 < 4
    unfold rmT
    rw [if_pos (by decide)]
    omega
theorem md_up {T m1 M : Int → Int} {a i v : Int} (h : ∀ k, a ≤ k → k < i → T k = 3 → m1 k = M k) (hv : v = M i) : ∀ k, a ≤ k → k < i + 1 → T k = 3 → uz m1 i v k = M k := by
  intro k h1 h2 h3
  unfold uz
  by_cases hk : k = i
  · rw [if_pos hk, hk]; exact hv
  · rw [if_neg hk]; exact h k h1 (by omega) h3
theorem md_no {T m1 M : Int → Int} {a i : Int} (h : ∀ k, a ≤ k → k < i → T k = 3 → m1 k = M k) (hn : T i ≠ 3) : ∀ k, a ≤ k → k < i + 1 → T k = 3 → m1 k = M k := by
  intro k h1 h2 h3
  by_cases hk : k = i
  · rw [hk] at h3; exact absurd h3 hn
  · exact h k h1 (by omega) h3
theorem arB_0 : arB ar0 := ⟨fun _ => ⟨Int.le_refl 0, show (0 : Int) ≤ 700 by decide⟩, fun _ => ⟨Int.le_refl 0, show (0 : Int) ≤ 700 by decide⟩, by decide, by decide⟩
theorem c_Wt_tellAddresses (E : EV) (f : Nat → va_E) (P : PS) (md w s : Int) (ga md0 nr sm : Int → Int) (ca N S T a b x c : Int) (hT : isWt E f b) (hP : isPl E f P md w s) (hB : plB P) (hRa : isR E f 38 39 512 ga ca) (hmo : f 40 = iz E 300 md0) (hA : isA E f 41 42 43 nr sm N S T) (hw : wnOK P a b x c) (hso : 0 ≤ s ∧ s ≤ 300) : CF yn_Wt_tellAddresses cd_Wt_tellAddresses 5 none 3 E [.ref (eA E 29), .ref (eA E 22), .int (zI a)] f (fun r f' => r = none ∧ (∃ ga' ca' md' nr' sm' T', isR E f' 38 39 512 ga' ca' ∧ rep ga' ca' (adL P a s (b - a).toNat a) ∧ ca' ≤ 2 * (b - a) ∧ f' 40 = iz E 300 md' ∧ (∀ k, a ≤ k → k < b → pT P k = 3 → md' k = mdI P a s k) ∧ isA E f' 41 42 43 nr' sm' 4 3 T') ∧ Fr [38, 39, 40, 41, 42, 43] f f') := by
  refine CF.of (by decide +kernel) (Nat.le_of_ble_eq_true rfl) fun X hX hE => ?_
  have hX : Ok E X "DeltaFerry$Writer" "tellAddresses" cd_Wt_tellAddresses 5 none (rl 3) := hX
  refine G_cast (lv' := [(0, .ref (eA E 29)), (1, .ref (eA E 22)), (2, .int (zI a))]) ?_ rfl rfl rfl rfl
  obtain ⟨hw1, hw2, hw3⟩ := id hw
  refine G_aload_n hX 0 rfl rfl d_Wt_tellAddresses_0 ?_
  refine F_get hX fg_Wt_29 d_Wt_tellAddresses_1 29 (by decide) hT rfl ?_
  refine G_iconst hX d_Wt_tellAddresses_4 ?_
  refine F_put hX fg_Wt_47 fp_Ro_1 d_Wt_tellAddresses_5 38 (fs' := [.ref (eA E 39), .int (zI 0)]) (by decide) hRa.1 rfl rfl (Nat.le_of_ble_eq_true rfl) rfl (fun f1 h2 k3 => ?_)
  refine G_aload_n hX 0 rfl rfl d_Wt_tellAddresses_8 ?_
  have h4 : f1 29 = ob 10 [.ref (eA E 30), .ref (eA E 32), .ref (eA E 34), .ref (eA E 36), .ref (eA E 38), .ref (eA E 40), .ref (eA E 41), .int (zI b)] := (k3 29 (by decide)).trans hT
  refine F_get hX fg_Wt_39 d_Wt_tellAddresses_9 29 (by decide) h4 rfl ?_
  refine G_iconst hX d_Wt_tellAddresses_12 ?_
  refine G_iconst hX d_Wt_tellAddresses_13 ?_
  have h5 : f1 41 = ob 0 [.ref (eA E 42), .ref (eA E 43), .int (zI N), .int (zI S), .int (zI T)] := (k3 41 (by decide)).trans hA.1
  have h6 : f1 42 = iz E 8 nr := (k3 42 (by decide)).trans hA.2.1
  have h7 : f1 43 = iz E 1024 sm := (k3 43 (by decide)).trans hA.2.2
  refine F_callV hX (st := []) (c_Ad_open E f1 41 42 43 nr sm N S T 4 3 (by decide) (by decide) (by decide) (by decide) (by decide) (by decide) ⟨h5, h6, h7⟩) cm_Ad_open im_Ad_open se_Ad_open rfl ml_Wt_114 d_Wt_tellAddresses_14 (by decide) h5 rfl rfl (Nat.le_of_ble_eq_true rfl) (by decide) ?_
  rintro _ f8 ⟨rfl, ⟨h11, h12, h13⟩, k14⟩
  refine G_cast (st' := []) ?_ rfl rfl rfl rfl
  refine F_nrmz 42 (fun _ => 0) (by decide) h12 ?_ (fun f15 h16 k17 => ?_)
  · intro q h1 h2; show (if q < _ then (0 : Int) else _) = 0; rw [if_pos (by omega)]
  have h18 : f15 43 = iz E 1024 (kz sm 1024 0) := (k17 43 (by decide)).trans h13
  refine F_nrmz 43 (fun _ => 0) (by decide) h18 ?_ (fun f19 h20 k21 => ?_)
  · intro q h1 h2; show (if q < _ then (0 : Int) else _) = 0; rw [if_pos (by omega)]
  refine G_aload_n hX 1 rfl rfl d_Wt_tellAddresses_17 ?_
  have h22 : f19 22 = ob 4 [.ref (eA E 23), .ref (eA E 24), .ref (eA E 25), .ref (eA E 26), .int (zI md), .int (zI (pC P)), .int (zI w), .int (zI s)] := (k21 22 (by decide)).trans ((k17 22 (by decide)).trans ((k14 22 (by decide)).trans ((k3 22 (by decide)).trans hP.1)))
  refine F_get hX fg_Wt_90 d_Wt_tellAddresses_18 22 (by decide) h22 rfl ?_
  refine G_istore_n hX (lv' := [(3, .int (zI s)), (0, .ref (eA E 29)), (1, .ref (eA E 22)), (2, .int (zI a))]) rfl (by decide) rfl d_Wt_tellAddresses_21 ?_
  refine G_iload_n hX 3 rfl rfl d_Wt_tellAddresses_22 ?_
  refine G_istore hX (lv' := [(4, .int (zI a)), (3, .int (zI s)), (0, .ref (eA E 29)), (1, .ref (eA E 22)), (2, .int (zI a))]) (by decide) rfl d_Wt_tellAddresses_23 ?_
  have loop23 : ∀ (q : Nat) (i : Int) (L : List Int) (g1 : Int → Int) (c1 : Int) (m1 : Int → Int) (f24 : Nat → va_E), (b - i).toNat < q → (a ≤ i ∧ i ≤ b) → (rep g1 c1 L) → (0 ≤ c1 ∧ c1 ≤ 2 * (i - a)) → (arB (arI P a i)) → (∀ k, a ≤ k → k < i → pT P k = 3 → m1 k = mdI P a s k) → (adL P a s (b - a).toNat a = L ++ adL P a s (b - i).toNat i) → f24 38 = ob 6 [.ref (eA E 39), .int (zI c1)] → f24 39 = iz E 512 g1 → f24 40 = iz E 300 m1 → f24 41 = ob 0 [.ref (eA E 42), .ref (eA E 43), .int (zI 4), .int (zI 3), .int (zI ((arI P a i).2.2))] → f24 42 = iz E 8 ((arI P a i).1) → f24 43 = iz E 1024 ((arI P a i).2.1) → Fr [38, 39, 40, 41, 42, 43] f19 f24 → G E X 0 0 25 [(0, .ref (eA E 29)), (1, .ref (eA E 22)), (3, .int (zI (s + psI P i - psI P a))), (4, .int (zI i))] [] (wl E f24) := by
    intro q
    induction q with
    | zero => intro i L g1 c1 m1 f24 hms26; exact absurd hms26 (Nat.not_lt_zero _)
    | succ q ih27 =>
      intro i L g1 c1 m1 f24 hms26 hi hrp hle hR9 hm9 hs h28 h29 h30 h31 h32 h33 k25
      refine G_iload hX 3 rfl d_Wt_tellAddresses_25 ?_
      refine G_aload_n hX 0 rfl rfl d_Wt_tellAddresses_27 ?_
      have h34 : f24 29 = ob 10 [.ref (eA E 30), .ref (eA E 32), .ref (eA E 34), .ref (eA E 36), .ref (eA E 38), .ref (eA E 40), .ref (eA E 41), .int (zI b)] := (k25 29 (by decide)).trans ((k21 29 (by decide)).trans ((k17 29 (by decide)).trans ((k14 29 (by decide)).trans h4)))
      refine F_get hX fg_Wt_43 d_Wt_tellAddresses_28 29 (by decide) h34 rfl ?_
      refine G_icmp_ge_z hX (tgt := 87) d_Wt_tellAddresses_31 rfl (by omega) (fun c35 => ?_) (fun c36 => ?_)
      · skip
        have ei : i = b := by omega
        rw [adL_e (b := b) (i := i) (by omega), List.append_nil] at hs
        exact F_vret hX hE d_Wt_tellAddresses_87 ⟨rfl, ⟨_, _, _, _, _, _, ⟨h28, h29⟩, by rw [hs]; exact hrp, by rw [← ei]; exact hle.2, h30, fun k h1 h2 => hm9 k h1 (by omega), ⟨h31, h32, h33⟩⟩, (Fr.tr (Fr.tr (Fr.tr (Fr.tr (Fr.tr Fr.rf k3 (by decide)) k14 (by decide)) k17 (by decide)) k21 (by decide)) k25 (by decide))⟩
      · skip
        have hwi := hw3 i (by omega) (by omega)
        have hps := psI_s (P := P) (i := i) (by omega)
        have hgi := wnOK_gi hw hi.1 hi.2
        have hbi := hB i
        have hba := wnOK_gi hw (Int.le_refl a) hw1.2.1
        obtain ⟨hr1, hr2, hr3⟩ := id hR9
        have hsm9 : ∀ k, -1 ≤ (arI P a i).2.1 k ∧ (arI P a i).2.1 k < 100000 := fun k => by have := hr2 k; omega
        have hnr9 : ∀ k, 0 ≤ (arI P a i).1 k ∧ (arI P a i).1 k < 100000 := fun k => by have := hr1 k; omega
        have hta := fun h0 => tlW_b (nr := (arI P a i).1) (sm := (arI P a i).2.1) (N := 4) (S := 3) (ad := pA P i) (here := s + psI P i - psI P a) h0
        have eAR := arI_s (P := P) (a := a) (i := i) hi.1
        refine G_aload_n hX 1 rfl rfl d_Wt_tellAddresses_34 ?_
        have h37 : f24 22 = ob 4 [.ref (eA E 23), .ref (eA E 24), .ref (eA E 25), .ref (eA E 26), .int (zI md), .int (zI (pC P)), .int (zI w), .int (zI s)] := (k25 22 (by decide)).trans h22
        refine F_get hX fg_Wt_108 d_Wt_tellAddresses_35 22 (by decide) h37 rfl ?_
        refine G_iload hX 3 rfl d_Wt_tellAddresses_38 ?_
        have h38 : f24 23 = iz E 300 (pT P) := (k25 23 (by decide)).trans ((k21 23 (by decide)).trans ((k17 23 (by decide)).trans ((k14 23 (by decide)).trans ((k3 23 (by decide)).trans hP.2.1))))
        refine F_iald hX d_Wt_tellAddresses_40 23 (by decide) h38 (by omega) ?_
        refine G_iconst hX d_Wt_tellAddresses_41 ?_
        refine G_icmp_ne_z hX (tgt := 71) d_Wt_tellAddresses_42 rfl (by omega) (fun c39 => ?_) (fun c40 => ?_)
        · skip
          refine G_iload_n hX 2 rfl rfl d_Wt_tellAddresses_71 ?_
          refine G_aload_n hX 1 rfl rfl d_Wt_tellAddresses_72 ?_
          refine F_get hX fg_Wt_111 d_Wt_tellAddresses_73 22 (by decide) h37 rfl ?_
          refine G_iload hX 3 rfl d_Wt_tellAddresses_76 ?_
          have h41 : f24 24 = iz E 300 (pS P) := (k25 24 (by decide)).trans ((k21 24 (by decide)).trans ((k17 24 (by decide)).trans ((k14 24 (by decide)).trans ((k3 24 (by decide)).trans hP.2.2.1))))
          refine F_iald hX d_Wt_tellAddresses_78 24 (by decide) h41 (by omega) ?_
          refine G_iadd_z hX d_Wt_tellAddresses_79 ?_
          refine G_istore_n hX (lv' := [(3, .int (zI ((s + psI P i - psI P a) + ((pS P) i)))), (0, .ref (eA E 29)), (1, .ref (eA E 22)), (4, .int (zI i))]) rfl (by decide) rfl d_Wt_tellAddresses_80 ?_
          refine G_iinc_z hX (lv' := [(4, .int (zI (i + 1))), (3, .int (zI ((s + psI P i - psI P a) + ((pS P) i)))), (0, .ref (eA E 29)), (1, .ref (eA E 22))]) 3 rfl (by decide) rfl d_Wt_tellAddresses_81 ?_
          refine G_goto hX (tgt := 25) d_Wt_tellAddresses_84 rfl ?_
          rw [if_neg (by omega)] at eAR
          refine G_loc (lv' := [(0, .ref (eA E 29)), (1, .ref (eA E 22)), (3, .int (zI ((s + psI P i - psI P a) + ((pS P) i)))), (4, .int (zI (i + 1)))]) [2, 3, 1, 0] rfl ?_
          refine G_cast (ih27 (i + 1) L g1 c1 m1 f24 (by omega) (by omega) hrp (by omega) (by rw [eAR]; exact hR9) (md_no hm9 (by omega)) (by rw [hs, adL_s (by omega), adI, if_neg (by omega)]; simp only [List.append_assoc, List.nil_append]) h28 h29 h30 (by rw [eAR]; exact h31) (by rw [eAR]; exact h32) (by rw [eAR]; exact h33) (Fr.tr Fr.rf k25 (by decide))) rfl (by rw [show s + psI P (i + 1) - psI P a = s + psI P i - psI P a + pS P i by omega]) rfl rfl
        · skip
          have hai := hwi.2.2.2.2 (by omega)
          have htw := hta (by omega)
          refine G_aload_n hX 0 rfl rfl d_Wt_tellAddresses_45 ?_
          refine F_get hX fg_Wt_32 d_Wt_tellAddresses_46 29 (by decide) h34 rfl ?_
          refine G_iload hX 3 rfl d_Wt_tellAddresses_49 ?_
          refine G_aload_n hX 0 rfl rfl d_Wt_tellAddresses_51 ?_
          refine F_get hX fg_Wt_39 d_Wt_tellAddresses_52 29 (by decide) h34 rfl ?_
          refine G_aload_n hX 1 rfl rfl d_Wt_tellAddresses_55 ?_
          refine F_get hX fg_Wt_118 d_Wt_tellAddresses_56 22 (by decide) h37 rfl ?_
          refine G_iload hX 3 rfl d_Wt_tellAddresses_59 ?_
          have h42 : f24 25 = iz E 300 (pA P) := (k25 25 (by decide)).trans ((k21 25 (by decide)).trans ((k17 25 (by decide)).trans ((k14 25 (by decide)).trans ((k3 25 (by decide)).trans hP.2.2.2.1))))
          refine F_iald hX d_Wt_tellAddresses_61 25 (by decide) h42 (by omega) ?_
          refine G_iload_n hX 2 rfl rfl d_Wt_tellAddresses_62 ?_
          refine G_aload_n hX 0 rfl rfl d_Wt_tellAddresses_63 ?_
          refine F_get hX fg_Wt_29 d_Wt_tellAddresses_64 29 (by decide) h34 rfl ?_
          refine F_callV hX (st := [.int (zI i), .ref (eA E 40)]) (c_Ad_tell E f24 ((arI P a i).1) ((arI P a i).2.1) 4 3 ((arI P a i).2.2) 512 g1 c1 ((pA P) i) (s + psI P i - psI P a) ⟨h31, h32, h33⟩ (by omega) ⟨h28, h29⟩ (by omega) (by omega) (by omega) (by omega) hsm9 hnr9) cm_Ad_tell im_Ad_tell se_Ad_tell rfl ml_Wt_120 d_Wt_tellAddresses_67 (by decide) h31 rfl rfl (Nat.le_of_ble_eq_true rfl) (by decide) ?_
          rintro _ f43 ⟨rfl, ⟨h46, h47, h48⟩, ⟨h49, h50⟩, k51⟩
          have rp52 := rep_pz (b := tlB ((arI P a i).1) ((arI P a i).2.1) 4 3 ((pA P) i) (s + psI P i - psI P a)) (w := tlW ((arI P a i).1) ((arI P a i).2.1) 4 3 ((pA P) i) (s + psI P i - psI P a)) hrp (by omega)
          refine G_cast (st' := [.int (zI (mdF ((arI P a i).1) ((arI P a i).2.1) 4 3 ((pA P) i) (s + psI P i - psI P a))), .int (zI i), .ref (eA E 40)]) ?_ rfl rfl rfl rfl
          have h53 : f43 40 = iz E 300 m1 := (k51 40 (by decide)).trans h30
          refine F_iast hX d_Wt_tellAddresses_70 40 (by decide) h53 (by omega) (fun f54 h55 k56 => ?_)
          refine G_iload_n hX 2 rfl rfl d_Wt_tellAddresses_71 ?_
          refine G_aload_n hX 1 rfl rfl d_Wt_tellAddresses_72 ?_
          have h57 : f54 22 = ob 4 [.ref (eA E 23), .ref (eA E 24), .ref (eA E 25), .ref (eA E 26), .int (zI md), .int (zI (pC P)), .int (zI w), .int (zI s)] := (k56 22 (by decide)).trans ((k51 22 (by decide)).trans h37)
          refine F_get hX fg_Wt_111 d_Wt_tellAddresses_73 22 (by decide) h57 rfl ?_
          refine G_iload hX 3 rfl d_Wt_tellAddresses_76 ?_
          have h58 : f54 24 = iz E 300 (pS P) := (k56 24 (by decide)).trans ((k51 24 (by decide)).trans ((k25 24 (by decide)).trans ((k21 24 (by decide)).trans ((k17 24 (by decide)).trans ((k14 24 (by decide)).trans ((k3 24 (by decide)).trans hP.2.2.1))))))
          refine F_iald hX d_Wt_tellAddresses_78 24 (by decide) h58 (by omega) ?_
          refine G_iadd_z hX d_Wt_tellAddresses_79 ?_
          refine G_istore_n hX (lv' := [(3, .int (zI ((s + psI P i - psI P a) + ((pS P) i)))), (0, .ref (eA E 29)), (1, .ref (eA E 22)), (4, .int (zI i))]) rfl (by decide) rfl d_Wt_tellAddresses_80 ?_
          refine G_iinc_z hX (lv' := [(4, .int (zI (i + 1))), (3, .int (zI ((s + psI P i - psI P a) + ((pS P) i)))), (0, .ref (eA E 29)), (1, .ref (eA E 22))]) 3 rfl (by decide) rfl d_Wt_tellAddresses_81 ?_
          refine G_goto hX (tgt := 25) d_Wt_tellAddresses_84 rfl ?_
          rw [if_pos (by omega)] at eAR
          have h59 : f54 38 = ob 6 [.ref (eA E 39), .int (zI (c1 + tlW ((arI P a i).1) ((arI P a i).2.1) 4 3 ((pA P) i) (s + psI P i - psI P a)))] := (k56 38 (by decide)).trans h49
          have h60 : f54 39 = iz E 512 (pz g1 c1 (tlB ((arI P a i).1) ((arI P a i).2.1) 4 3 ((pA P) i) (s + psI P i - psI P a)) (tlW ((arI P a i).1) ((arI P a i).2.1) 4 3 ((pA P) i) (s + psI P i - psI P a))) := (k56 39 (by decide)).trans h50
          have h61 : f54 41 = ob 0 [.ref (eA E 42), .ref (eA E 43), .int (zI 4), .int (zI 3), .int (zI (rmT 4 ((arI P a i).2.2)))] := (k56 41 (by decide)).trans h46
          have h62 : f54 42 = iz E 8 (rmN ((arI P a i).1) 4 ((arI P a i).2.2) ((pA P) i)) := (k56 42 (by decide)).trans h47
          have h63 : f54 43 = iz E 1024 (rmS ((arI P a i).2.1) 3 ((pA P) i)) := (k56 43 (by decide)).trans h48
          refine G_loc (lv' := [(0, .ref (eA E 29)), (1, .ref (eA E 22)), (3, .int (zI ((s + psI P i - psI P a) + ((pS P) i)))), (4, .int (zI (i + 1)))]) [2, 3, 1, 0] rfl ?_
          refine G_cast (ih27 (i + 1) (L ++ lst (tlB ((arI P a i).1) ((arI P a i).2.1) 4 3 ((pA P) i) (s + psI P i - psI P a)) (tlW ((arI P a i).1) ((arI P a i).2.1) 4 3 ((pA P) i) (s + psI P i - psI P a)).toNat) (pz g1 c1 (tlB ((arI P a i).1) ((arI P a i).2.1) 4 3 ((pA P) i) (s + psI P i - psI P a)) (tlW ((arI P a i).1) ((arI P a i).2.1) 4 3 ((pA P) i) (s + psI P i - psI P a))) (c1 + tlW ((arI P a i).1) ((arI P a i).2.1) 4 3 ((pA P) i) (s + psI P i - psI P a)) (uz m1 i (mdF ((arI P a i).1) ((arI P a i).2.1) 4 3 ((pA P) i) (s + psI P i - psI P a))) f54 (by omega) (by omega) rp52 (by omega) (by rw [eAR]; exact arB_n hR9 hai) (md_up hm9 rfl) (by rw [hs, adL_s (by omega), adI, if_pos (by omega)]; simp only [List.append_assoc, List.nil_append]) h59 h60 h55 (by rw [eAR]; exact h61) (by rw [eAR]; exact h62) (by rw [eAR]; exact h63) (Fr.tr (Fr.tr (Fr.tr Fr.rf k25 (by decide)) k51 (by decide)) k56 (by decide))) rfl (by rw [show s + psI P (i + 1) - psI P a = s + psI P i - psI P a + pS P i by omega]) rfl rfl
  have h64 : f19 38 = ob 6 [.ref (eA E 39), .int (zI 0)] := (k21 38 (by decide)).trans ((k17 38 (by decide)).trans ((k14 38 (by decide)).trans h2))
  have h65 : f19 39 = iz E 512 ga := (k21 39 (by decide)).trans ((k17 39 (by decide)).trans ((k14 39 (by decide)).trans ((k3 39 (by decide)).trans hRa.2)))
  have h66 : f19 40 = iz E 300 md0 := (k21 40 (by decide)).trans ((k17 40 (by decide)).trans ((k14 40 (by decide)).trans ((k3 40 (by decide)).trans hmo)))
  have h67 : f19 41 = ob 0 [.ref (eA E 42), .ref (eA E 43), .int (zI 4), .int (zI 3), .int (zI 0)] := (k21 41 (by decide)).trans ((k17 41 (by decide)).trans h11)
  have h68 : f19 42 = iz E 8 (fun _ => 0) := (k21 42 (by decide)).trans h16
  refine G_loc (lv' := [(0, .ref (eA E 29)), (1, .ref (eA E 22)), (3, .int (zI s)), (4, .int (zI a))]) [2, 3, 1, 0] rfl ?_
  refine G_cast (loop23 (_ + 1) a ([]) ga 0 md0 f19 (Nat.lt_succ_self _) (by omega) (rep_0 ga) (by omega) (by unfold arI; rw [show (a - a).toNat = 0 by omega]; exact arB_0) (fun k h1 h2 => by omega) rfl h64 h65 h66 (by unfold arI; rw [show (a - a).toNat = 0 by omega]; exact h67) (by unfold arI; rw [show (a - a).toNat = 0 by omega]; exact h68) (by unfold arI; rw [show (a - a).toNat = 0 by omega]; exact h20) Fr.rf) rfl (by rw [show s + psI P a - psI P a = s by omega]) rfl rfl
